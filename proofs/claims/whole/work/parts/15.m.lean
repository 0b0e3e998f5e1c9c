noncomputable def f_X11_comes_81 (S : St) : Option (Int32 × St) := some ((0 : Int32), S)
noncomputable def f_X11_comes_115 (s0 : Int32) (S : St) : Option (Int32 × St) := if s0 = 0 ∨ s0 = 1 then some (s0, S) else none
noncomputable def f_X11_comes (x1 : Int32) (S : St) : Option (Int32 × St) := if (x1 + (3 : Int32)) < (gI S 8) then (f_X9_byteAt x1 S).bind fun q20 => (f_X9_byteAt (x1 + (1 : Int32)) q20.2).bind fun q31 => (f_X9_byteAt (x1 + (2 : Int32)) q31.2).bind fun q42 => (f_X9_byteAt (x1 + (3 : Int32)) q42.2).bind fun q54 => (f_X11_canOwe q20.1 q31.1 q54.1 q54.2).bind fun q63 => if q63.1 = 0 then f_X11_comes_81 q63.2 else (f_X10_hasTune q42.1 q63.2).bind fun q75 => if q75.1 = 0 then f_X11_comes_81 q75.2 else (f_X1_add q20.1 q31.1 q42.1 q54.1 (gI q75.2 2) q75.2).bind fun q103 => if q103.1 = (-1 : Int32) then f_X11_comes_115 (0 : Int32) q103.2 else f_X11_comes_115 (1 : Int32) q103.2 else some ((0 : Int32), S)
set_option maxRecDepth 100000 in
set_option maxHeartbeats 4000000 in
theorem w_X11_comes_81 {D : k_D} {dy : Nat → Nat} (S : St) (out : Int32 × St) (h : f_X11_comes_81 S = some out) : Rn yX11_comes cX11_comes 6 (some .boolean) (k_rm 2) 0 0 D dy S (k_Pi dy out) 81 [] [] := by
    unfold f_X11_comes_81 at h
    refine r_iconst (v := 0) dX11_comes_81 rfl ?_
    cases h
    exact r_zret rfl rfl dX11_comes_82 ⟨rfl, rfl, rfl⟩
set_option maxRecDepth 100000 in
set_option maxHeartbeats 4000000 in
theorem w_X11_comes_115 {D : k_D} {dy : Nat → Nat} (s0 : Int32) (S : St) (out : Int32 × St) (h : f_X11_comes_115 s0 S = some out) : Rn yX11_comes cX11_comes 6 (some .boolean) (k_rm 2) 0 0 D dy S (k_Pi dy out) 115 [] [.int s0] := by
    unfold f_X11_comes_115 at h
    obtain ⟨c, h⟩ := g_ite h
    cases h
    exact r_zret rfl (k_zn c) dX11_comes_115 ⟨rfl, rfl, rfl⟩
set_option maxRecDepth 100000 in
set_option maxHeartbeats 4000000 in
theorem w_X11_comes_0 {D : k_D} {dy : Nat → Nat} (x1 : Int32) (S : St) (out : Int32 × St) (h : f_X11_comes x1 S = some out) : Rn yX11_comes cX11_comes 6 (some .boolean) (k_rm 2) 0 0 D dy S (k_Pi dy out) 0 [(0, .ref (D.2.2 48)), (1, .int x1)] [] := by
    unfold f_X11_comes at h
    refine r_iload_n 1 dX11_comes_0 rfl rfl ?_
    refine r_iconst (v := 3) dX11_comes_1 rfl ?_
    refine r_iadd dX11_comes_2 ?_
    refine r_aload_n 0 dX11_comes_3 rfl rfl ?_
    refine gf_48_2 q_592 dX11_comes_4 ?_
    refine gfN_15_1 q_320 dX11_comes_7 ?_
    refine r_icmp_lt (t := 15) dX11_comes_10 (by decide) (fun c => ?_) (fun c => ?_)
    · rw [if_pos c] at h
      refine r_aload_n 0 dX11_comes_15 rfl rfl ?_
      refine gf_48_2 q_592 dX11_comes_16 ?_
      refine r_iload_n 1 dX11_comes_19 rfl rfl ?_
      obtain ⟨q20, hq20, h⟩ := g_bind h
      refine r_callVNi [.int x1] [] q20 (ok_X9_byteAt hq20) q_792 q_794 q_23 q_795 q_144 hd_X9_byteAt (ce_15 D dy _) kc9.1 rfl ⟨Nat.le_of_ble_eq_true rfl, Nat.le_of_ble_eq_true rfl⟩ rfl rfl (Nat.le_of_ble_eq_true rfl) dX11_comes_20 ?_
      refine r_istore_n dX11_comes_23 rfl (by decide) rfl ?_
      refine r_aload_n 1 dX11_comes_24 rfl rfl ?_
      refine gf_48_2 q_592 dX11_comes_25 ?_
      refine r_iload_n 2 dX11_comes_28 rfl rfl ?_
      refine r_iconst (v := 1) dX11_comes_29 rfl ?_
      refine r_iadd dX11_comes_30 ?_
      obtain ⟨q31, hq31, h⟩ := g_bind h
      refine r_callVNi [.int (x1 + (1 : Int32))] [] q31 (ok_X9_byteAt hq31) q_792 q_794 q_23 q_795 q_144 hd_X9_byteAt (ce_15 D dy _) kc9.1 rfl ⟨Nat.le_of_ble_eq_true rfl, Nat.le_of_ble_eq_true rfl⟩ rfl rfl (Nat.le_of_ble_eq_true rfl) dX11_comes_31 ?_
      refine r_istore_n dX11_comes_34 rfl (by decide) rfl ?_
      refine r_aload_n 2 dX11_comes_35 rfl rfl ?_
      refine gf_48_2 q_592 dX11_comes_36 ?_
      refine r_iload_n 3 dX11_comes_39 rfl rfl ?_
      refine r_iconst (v := 2) dX11_comes_40 rfl ?_
      refine r_iadd dX11_comes_41 ?_
      obtain ⟨q42, hq42, h⟩ := g_bind h
      refine r_callVNi [.int (x1 + (2 : Int32))] [] q42 (ok_X9_byteAt hq42) q_792 q_794 q_23 q_795 q_144 hd_X9_byteAt (ce_15 D dy _) kc9.1 rfl ⟨Nat.le_of_ble_eq_true rfl, Nat.le_of_ble_eq_true rfl⟩ rfl rfl (Nat.le_of_ble_eq_true rfl) dX11_comes_42 ?_
      refine r_istore dX11_comes_45 (by decide) rfl ?_
      refine r_aload_n 3 dX11_comes_47 rfl rfl ?_
      refine gf_48_2 q_592 dX11_comes_48 ?_
      refine r_iload_n 4 dX11_comes_51 rfl rfl ?_
      refine r_iconst (v := 3) dX11_comes_52 rfl ?_
      refine r_iadd dX11_comes_53 ?_
      obtain ⟨q54, hq54, h⟩ := g_bind h
      refine r_callVNi [.int (x1 + (3 : Int32))] [] q54 (ok_X9_byteAt hq54) q_792 q_794 q_23 q_795 q_144 hd_X9_byteAt (ce_15 D dy _) kc9.1 rfl ⟨Nat.le_of_ble_eq_true rfl, Nat.le_of_ble_eq_true rfl⟩ rfl rfl (Nat.le_of_ble_eq_true rfl) dX11_comes_54 ?_
      refine r_istore dX11_comes_57 (by decide) rfl ?_
      refine r_iload_n 3 dX11_comes_59 rfl rfl ?_
      refine r_iload_n 2 dX11_comes_60 rfl rfl ?_
      refine r_iload 0 dX11_comes_61 rfl ?_
      obtain ⟨q63, hq63, h⟩ := g_bind h
      refine r_callSi [.int q20.1, .int q31.1, .int q54.1] [] q63 (ok_X11_canOwe hq63) q_664 q_665 q_666 q_141 hd_X11_canOwe ⟨Nat.le_of_ble_eq_true rfl, Nat.le_of_ble_eq_true rfl⟩ rfl rfl (Nat.le_of_ble_eq_true rfl) dX11_comes_63 ?_
      refine r_if_eq (t := 81) dX11_comes_66 (by decide) (fun c => ?_) (fun c => ?_)
      · rw [if_pos c] at h
        refine r_sub [] rfl ?_
        exact w_X11_comes_81 _ _ h
      · rw [if_neg c] at h
        refine r_aload_n 4 dX11_comes_69 rfl rfl ?_
        refine gf_48_0 q_590 dX11_comes_70 ?_
        refine r_iload 1 dX11_comes_73 rfl ?_
        obtain ⟨q75, hq75, h⟩ := g_bind h
        refine r_callVNi [.int q42.1] [] q75 (ok_X10_hasTune hq75) q_656 q_658 q_3 q_659 q_142 hd_X10_hasTune (ce_0 D dy _) kc10.1 rfl ⟨Nat.le_of_ble_eq_true rfl, Nat.le_of_ble_eq_true rfl⟩ rfl rfl (Nat.le_of_ble_eq_true rfl) dX11_comes_75 ?_
        refine r_if_ne (t := 83) dX11_comes_78 (by decide) (fun c => ?_) (fun c => ?_)
        · rw [if_neg c] at h
          refine r_aload_n 4 dX11_comes_83 rfl rfl ?_
          refine gf_48_0 q_590 dX11_comes_84 ?_
          refine gfN_0_2 q_248 dX11_comes_87 ?_
          refine r_iload_n 3 dX11_comes_90 rfl rfl ?_
          refine r_iload_n 2 dX11_comes_91 rfl rfl ?_
          refine r_iload 1 dX11_comes_92 rfl ?_
          refine r_iload 0 dX11_comes_94 rfl ?_
          refine r_aload_n 4 dX11_comes_96 rfl rfl ?_
          refine gf_48_0 q_590 dX11_comes_97 ?_
          refine gfN_0_3 q_250 dX11_comes_100 ?_
          obtain ⟨q103, hq103, h⟩ := g_bind h
          refine r_callVNi [.int q20.1, .int q31.1, .int q42.1, .int q54.1, .int (gI q75.2 2)] [] q103 (ok_X1_add hq103) q_670 q_672 q_4 q_673 q_143 hd_X1_add (ce_2 D dy _) kc1.1 rfl ⟨Nat.le_of_ble_eq_true rfl, Nat.le_of_ble_eq_true rfl⟩ rfl rfl (Nat.le_of_ble_eq_true rfl) dX11_comes_103 ?_
          refine r_iconst (v := -1) dX11_comes_106 rfl ?_
          refine r_icmp_eq (t := 114) dX11_comes_107 (by decide) (fun c => ?_) (fun c => ?_)
          · rw [if_pos c] at h
            refine r_iconst (v := 0) dX11_comes_114 rfl ?_
            refine r_sub [] rfl ?_
            exact w_X11_comes_115 _ _ _ h
          · rw [if_neg c] at h
            refine r_iconst (v := 1) dX11_comes_110 rfl ?_
            refine r_goto (t := 115) dX11_comes_111 (by decide) ?_
            refine r_sub [] rfl ?_
            exact w_X11_comes_115 _ _ _ h
        · rw [if_pos c] at h
          refine r_sub [] rfl ?_
          exact w_X11_comes_81 _ _ h
    · rw [if_neg c] at h
      refine r_iconst (v := 0) dX11_comes_13 rfl ?_
      cases h
      exact r_zret rfl rfl dX11_comes_14 ⟨rfl, rfl, rfl⟩
theorem ok_X11_comes {D : k_D} {dy : Nat → Nat} {x1 : Int32} {S : St} {out : Int32 × St} (h : f_X11_comes x1 S = some out) : Sp yX11_comes cX11_comes 6 (some .boolean) (k_rm 2) D dy S [.ref (D.2.2 48), .int x1] (k_Pi dy out) := Sp.of (by decide +kernel) (Nat.le_of_ble_eq_true rfl) (w_X11_comes_0 _ S out h)
noncomputable def f_X11_row_51 (k23 : Int32 → Int32 → Int32 → St → Option (Int32 × St)) (x1 : Int32) (x2 : Int32) (x3 : Int32) (S : St) : Option (Int32 × St) := k23 x1 x2 (x3 + (4 : Int32)) S
noncomputable def f_X11_row_23 : Nat → Int32 → Int32 → Int32 → St → Option (Int32 × St)
  | 0, _, _, _, _ => none
  | n + 1, x1, x2, x3, S => if (gI S 8) ≤ x3 then k_let (sI S 8 (0 : Int32)) fun S1 => k_let (sI S1 30 x2) fun S2 => (f_X11_done x1 S2).bind fun q72 => some (q72.1, q72.2) else (f_X11_comes x3 S).bind fun q36 => if q36.1 = 0 then f_X11_row_51 (f_X11_row_23 n) x1 (x2 + (1 : Int32)) x3 q36.2 else f_X11_row_51 (f_X11_row_23 n) (x1 + (1 : Int32)) x2 x3 q36.2
noncomputable def f_X11_row (S : St) : Option (Int32 × St) := if (gI S 8) = 0 then (f_X11_refuse (-6 : Int32) S).bind fun q13 => some (q13.1, q13.2) else f_X11_row_23 FU (0 : Int32) (0 : Int32) (0 : Int32) S
set_option maxRecDepth 100000 in
set_option maxHeartbeats 4000000 in
theorem w_X11_row_51 {D : k_D} {dy : Nat → Nat} {k23 : Int32 → Int32 → Int32 → St → Option (Int32 × St)} (hk23 : ∀ (x1 : Int32) (x2 : Int32) (x3 : Int32) (S : St) (out : Int32 × St), k23 x1 x2 x3 S = some out → Rn yX11_row cX11_row 4 (some .int) (k_rm 3) 0 0 D dy S (k_Pi dy out) 23 [(0, .ref (D.2.2 48)), (1, .int x1), (2, .int x2), (3, .int x3)] []) (x1 : Int32) (x2 : Int32) (x3 : Int32) (S : St) (out : Int32 × St) (h : f_X11_row_51 k23 x1 x2 x3 S = some out) : Rn yX11_row cX11_row 4 (some .int) (k_rm 3) 0 0 D dy S (k_Pi dy out) 51 [(0, .ref (D.2.2 48)), (1, .int x1), (2, .int x2), (3, .int x3)] [] := by
    unfold f_X11_row_51 at h
    refine r_iinc (q := 3) (v := x3 + (4 : Int32)) dX11_row_51 rfl rfl (by decide) rfl ?_
    refine r_goto (t := 23) dX11_row_54 (by decide) ?_
    refine r_sub [1, 2, 3, 0] rfl ?_
    exact hk23 _ _ _ _ _ h
set_option maxRecDepth 100000 in
set_option maxHeartbeats 4000000 in
theorem w_X11_row_23 {D : k_D} {dy : Nat → Nat} : ∀ (n : Nat) (x1 : Int32) (x2 : Int32) (x3 : Int32) (S : St) (out : Int32 × St), f_X11_row_23 n x1 x2 x3 S = some out → Rn yX11_row cX11_row 4 (some .int) (k_rm 3) 0 0 D dy S (k_Pi dy out) 23 [(0, .ref (D.2.2 48)), (1, .int x1), (2, .int x2), (3, .int x3)] [] := by
  intro n
  induction n with
  | zero => intro x1 x2 x3 S out h; cases h
  | succ n ih =>
    intro x1 x2 x3 S out h
    rw [f_X11_row_23] at h
    refine r_iload_n 3 dX11_row_23 rfl rfl ?_
    refine r_aload_n 0 dX11_row_24 rfl rfl ?_
    refine gf_48_2 q_592 dX11_row_25 ?_
    refine gfN_15_1 q_320 dX11_row_28 ?_
    refine r_icmp_ge (t := 57) dX11_row_31 (by decide) (fun c => ?_) (fun c => ?_)
    · rw [if_pos c] at h
      refine r_aload_n 0 dX11_row_57 rfl rfl ?_
      refine gf_48_2 q_592 dX11_row_58 ?_
      refine r_iconst (v := 0) dX11_row_61 rfl ?_
      refine pfN_15_1 q_320 dX11_row_62 ?_
      generalize sI S 8 (0 : Int32) = S1 at h ⊢
      replace h := g_let h
      refine r_aload_n 0 dX11_row_65 rfl rfl ?_
      refine r_iload_n 2 dX11_row_66 rfl rfl ?_
      refine pf_48_12 q_602 dX11_row_67 ?_
      generalize sI S1 30 x2 = S2 at h ⊢
      replace h := g_let h
      refine r_aload_n 0 dX11_row_70 rfl rfl ?_
      refine r_iload_n 1 dX11_row_71 rfl rfl ?_
      obtain ⟨q72, hq72, h⟩ := g_bind h
      refine r_callVi [.int x1] [] q72 (ok_X11_done hq72) q_648 q_650 q_2 q_651 q_141 hd_X11_done (ce_48 D dy _) kc11.1 rfl ⟨Nat.le_of_ble_eq_true rfl, Nat.le_of_ble_eq_true rfl⟩ rfl rfl (Nat.le_of_ble_eq_true rfl) dX11_row_72 ?_
      cases h
      exact r_iret rfl dX11_row_75 ⟨rfl, rfl, rfl⟩
    · rw [if_neg c] at h
      refine r_aload_n 0 dX11_row_34 rfl rfl ?_
      refine r_iload_n 3 dX11_row_35 rfl rfl ?_
      obtain ⟨q36, hq36, h⟩ := g_bind h
      refine r_callVi [.int x3] [] q36 (ok_X11_comes hq36) q_788 q_790 q_22 q_791 q_141 hd_X11_comes (ce_48 D dy _) kc11.1 rfl ⟨Nat.le_of_ble_eq_true rfl, Nat.le_of_ble_eq_true rfl⟩ rfl rfl (Nat.le_of_ble_eq_true rfl) dX11_row_36 ?_
      refine r_if_eq (t := 48) dX11_row_39 (by decide) (fun c => ?_) (fun c => ?_)
      · rw [if_pos c] at h
        refine r_iinc (q := 2) (v := x2 + (1 : Int32)) dX11_row_48 rfl rfl (by decide) rfl ?_
        refine r_sub [1, 2, 0, 3] rfl ?_
        exact w_X11_row_51 ih _ _ _ _ _ h
      · rw [if_neg c] at h
        refine r_iinc (q := 1) (v := x1 + (1 : Int32)) dX11_row_42 rfl rfl (by decide) rfl ?_
        refine r_goto (t := 51) dX11_row_45 (by decide) ?_
        refine r_sub [1, 0, 2, 3] rfl ?_
        exact w_X11_row_51 ih _ _ _ _ _ h
set_option maxRecDepth 100000 in
set_option maxHeartbeats 4000000 in
theorem w_X11_row_0 {D : k_D} {dy : Nat → Nat} (S : St) (out : Int32 × St) (h : f_X11_row S = some out) : Rn yX11_row cX11_row 4 (some .int) (k_rm 3) 0 0 D dy S (k_Pi dy out) 0 [(0, .ref (D.2.2 48))] [] := by
    unfold f_X11_row at h
    refine r_aload_n 0 dX11_row_0 rfl rfl ?_
    refine gf_48_2 q_592 dX11_row_1 ?_
    refine gfN_15_1 q_320 dX11_row_4 ?_
    refine r_if_ne (t := 17) dX11_row_7 (by decide) (fun c => ?_) (fun c => ?_)
    · rw [if_neg c] at h
      refine r_iconst (v := 0) dX11_row_17 rfl ?_
      refine r_istore_n dX11_row_18 rfl (by decide) rfl ?_
      refine r_iconst (v := 0) dX11_row_19 rfl ?_
      refine r_istore_n dX11_row_20 rfl (by decide) rfl ?_
      refine r_iconst (v := 0) dX11_row_21 rfl ?_
      refine r_istore_n dX11_row_22 rfl (by decide) rfl ?_
      refine r_sub [3, 2, 1, 0] rfl ?_
      exact w_X11_row_23 _ _ _ _ _ _ h
    · rw [if_pos c] at h
      refine r_aload_n 0 dX11_row_10 rfl rfl ?_
      refine r_bipush (v := -6) dX11_row_11 rfl ?_
      obtain ⟨q13, hq13, h⟩ := g_bind h
      refine r_callVi [.int (-6 : Int32)] [] q13 (ok_X11_refuse hq13) q_640 q_642 q_0 q_643 q_141 hd_X11_refuse (ce_48 D dy _) kc11.1 rfl ⟨Nat.le_of_ble_eq_true rfl, Nat.le_of_ble_eq_true rfl⟩ rfl rfl (Nat.le_of_ble_eq_true rfl) dX11_row_13 ?_
      cases h
      exact r_iret rfl dX11_row_16 ⟨rfl, rfl, rfl⟩
theorem ok_X11_row {D : k_D} {dy : Nat → Nat} {S : St} {out : Int32 × St} (h : f_X11_row S = some out) : Sp yX11_row cX11_row 4 (some .int) (k_rm 3) D dy S [.ref (D.2.2 48)] (k_Pi dy out) := Sp.of (by decide +kernel) (Nat.le_of_ble_eq_true rfl) (w_X11_row_0 S out h)
noncomputable def f_X11_sung (S : St) : Option (Int32 × St) := some (gI S 30, S)
set_option maxRecDepth 100000 in
set_option maxHeartbeats 4000000 in
theorem w_X11_sung_0 {D : k_D} {dy : Nat → Nat} (S : St) (out : Int32 × St) (h : f_X11_sung S = some out) : Rn yX11_sung cX11_sung 1 (some .int) (k_rm 0) 0 0 D dy S (k_Pi dy out) 0 [(0, .ref (D.2.2 48))] [] := by
    unfold f_X11_sung at h
    refine r_aload_n 0 dX11_sung_0 rfl rfl ?_
    refine gf_48_12 q_602 dX11_sung_1 ?_
    cases h
    exact r_iret rfl dX11_sung_4 ⟨rfl, rfl, rfl⟩
theorem ok_X11_sung {D : k_D} {dy : Nat → Nat} {S : St} {out : Int32 × St} (h : f_X11_sung S = some out) : Sp yX11_sung cX11_sung 1 (some .int) (k_rm 0) D dy S [.ref (D.2.2 48)] (k_Pi dy out) := Sp.of (by decide +kernel) (Nat.le_of_ble_eq_true rfl) (w_X11_sung_0 S out h)
noncomputable def f_X11_fault (S : St) : Option (Int32 × St) := some (gI S 31, S)
set_option maxRecDepth 100000 in
set_option maxHeartbeats 4000000 in
theorem w_X11_fault_0 {D : k_D} {dy : Nat → Nat} (S : St) (out : Int32 × St) (h : f_X11_fault S = some out) : Rn yX11_fault cX11_fault 1 (some .int) (k_rm 0) 0 0 D dy S (k_Pi dy out) 0 [(0, .ref (D.2.2 48))] [] := by
    unfold f_X11_fault at h
    refine r_aload_n 0 dX11_fault_0 rfl rfl ?_
    refine gf_48_13 q_603 dX11_fault_1 ?_
    cases h
    exact r_iret rfl dX11_fault_4 ⟨rfl, rfl, rfl⟩
theorem ok_X11_fault {D : k_D} {dy : Nat → Nat} {S : St} {out : Int32 × St} (h : f_X11_fault S = some out) : Sp yX11_fault cX11_fault 1 (some .int) (k_rm 0) D dy S [.ref (D.2.2 48)] (k_Pi dy out) := Sp.of (by decide +kernel) (Nat.le_of_ble_eq_true rfl) (w_X11_fault_0 S out h)
noncomputable def f_X11_force_23 (x1 : Int32) (S : St) : Option (Int32 × St) := k_let (sI S 4 x1) fun S1 => (f_X11_done (gI S 4) S1).bind fun q41 => some (q41.1, q41.2)
noncomputable def f_X11_force (x1 : Int32) (S : St) : Option (Int32 × St) := if x1 = (-1 : Int32) then f_X11_force_23 x1 S else (f_X10_hasLaw x1 S).bind fun q10 => if q10.1 = 0 then (f_X11_refuse (-2 : Int32) q10.2).bind fun q19 => some (q19.1, q19.2) else f_X11_force_23 x1 q10.2
set_option maxRecDepth 100000 in
set_option maxHeartbeats 4000000 in
theorem w_X11_force_23 {D : k_D} {dy : Nat → Nat} (x1 : Int32) (S : St) (out : Int32 × St) (h : f_X11_force_23 x1 S = some out) : Rn yX11_force cX11_force 3 (some .int) (k_rm 1) 0 0 D dy S (k_Pi dy out) 23 [(0, .ref (D.2.2 48)), (1, .int x1)] [] := by
    unfold f_X11_force_23 at h
    refine r_aload_n 0 dX11_force_23 rfl rfl ?_
    refine gf_48_0 q_590 dX11_force_24 ?_
    refine gfN_0_6 q_256 dX11_force_27 ?_
    refine r_istore_n dX11_force_30 rfl (by decide) rfl ?_
    refine r_aload_n 1 dX11_force_31 rfl rfl ?_
    refine gf_48_0 q_590 dX11_force_32 ?_
    refine r_iload_n 2 dX11_force_35 rfl rfl ?_
    refine pfN_0_6 q_256 dX11_force_36 ?_
    generalize sI S 4 x1 = S1 at h ⊢
    replace h := g_let h
    refine r_aload_n 1 dX11_force_39 rfl rfl ?_
    refine r_iload_n 0 dX11_force_40 rfl rfl ?_
    obtain ⟨q41, hq41, h⟩ := g_bind h
    refine r_callVi [.int (gI S 4)] [] q41 (ok_X11_done hq41) q_648 q_650 q_2 q_651 q_141 hd_X11_done (ce_48 D dy _) kc11.1 rfl ⟨Nat.le_of_ble_eq_true rfl, Nat.le_of_ble_eq_true rfl⟩ rfl rfl (Nat.le_of_ble_eq_true rfl) dX11_force_41 ?_
    cases h
    exact r_iret rfl dX11_force_44 ⟨rfl, rfl, rfl⟩
set_option maxRecDepth 100000 in
set_option maxHeartbeats 4000000 in
theorem w_X11_force_0 {D : k_D} {dy : Nat → Nat} (x1 : Int32) (S : St) (out : Int32 × St) (h : f_X11_force x1 S = some out) : Rn yX11_force cX11_force 3 (some .int) (k_rm 1) 0 0 D dy S (k_Pi dy out) 0 [(0, .ref (D.2.2 48)), (1, .int x1)] [] := by
    unfold f_X11_force at h
    refine r_iload_n 1 dX11_force_0 rfl rfl ?_
    refine r_iconst (v := -1) dX11_force_1 rfl ?_
    refine r_icmp_eq (t := 23) dX11_force_2 (by decide) (fun c => ?_) (fun c => ?_)
    · rw [if_pos c] at h
      exact w_X11_force_23 _ _ _ h
    · rw [if_neg c] at h
      refine r_aload_n 0 dX11_force_5 rfl rfl ?_
      refine gf_48_0 q_590 dX11_force_6 ?_
      refine r_iload_n 1 dX11_force_9 rfl rfl ?_
      obtain ⟨q10, hq10, h⟩ := g_bind h
      refine r_callVNi [.int x1] [] q10 (ok_X10_hasLaw hq10) q_970 q_701 q_9 q_702 q_142 hd_X10_hasLaw (ce_0 D dy _) kc10.1 rfl ⟨Nat.le_of_ble_eq_true rfl, Nat.le_of_ble_eq_true rfl⟩ rfl rfl (Nat.le_of_ble_eq_true rfl) dX11_force_10 ?_
      refine r_if_ne (t := 23) dX11_force_13 (by decide) (fun c => ?_) (fun c => ?_)
      · rw [if_neg c] at h
        exact w_X11_force_23 _ _ _ h
      · rw [if_pos c] at h
        refine r_aload_n 0 dX11_force_16 rfl rfl ?_
        refine r_bipush (v := -2) dX11_force_17 rfl ?_
        obtain ⟨q19, hq19, h⟩ := g_bind h
        refine r_callVi [.int (-2 : Int32)] [] q19 (ok_X11_refuse hq19) q_640 q_642 q_0 q_643 q_141 hd_X11_refuse (ce_48 D dy _) kc11.1 rfl ⟨Nat.le_of_ble_eq_true rfl, Nat.le_of_ble_eq_true rfl⟩ rfl rfl (Nat.le_of_ble_eq_true rfl) dX11_force_19 ?_
        cases h
        exact r_iret rfl dX11_force_22 ⟨rfl, rfl, rfl⟩
theorem ok_X11_force {D : k_D} {dy : Nat → Nat} {x1 : Int32} {S : St} {out : Int32 × St} (h : f_X11_force x1 S = some out) : Sp yX11_force cX11_force 3 (some .int) (k_rm 1) D dy S [.ref (D.2.2 48), .int x1] (k_Pi dy out) := Sp.of (by decide +kernel) (Nat.le_of_ble_eq_true rfl) (w_X11_force_0 _ S out h)
noncomputable def f_X11_balance (x1 : Int32) (S : St) : Option (Int32 × St) := (f_X11_isDancer x1 S).bind fun q1 => if q1.1 = 0 then some ((-1000000000 : Int32), q1.2) else (f_X3_hear q1.2).bind fun q14 => (f_X3_balanceOf x1 q14).bind fun q22 => some (q22.1, q22.2)
set_option maxRecDepth 100000 in
set_option maxHeartbeats 4000000 in
theorem w_X11_balance_0 {D : k_D} {dy : Nat → Nat} (x1 : Int32) (S : St) (out : Int32 × St) (h : f_X11_balance x1 S = some out) : Rn yX11_balance cX11_balance 2 (some .int) (k_rm 5) 0 0 D dy S (k_Pi dy out) 0 [(0, .ref (D.2.2 48)), (1, .int x1)] [] := by
    unfold f_X11_balance at h
    refine r_iload_n 1 dX11_balance_0 rfl rfl ?_
    obtain ⟨q1, hq1, h⟩ := g_bind h
    refine r_callSi [.int x1] [] q1 (ok_X11_isDancer hq1) q_667 q_668 q_669 q_141 hd_X11_isDancer ⟨Nat.le_of_ble_eq_true rfl, Nat.le_of_ble_eq_true rfl⟩ rfl rfl (Nat.le_of_ble_eq_true rfl) dX11_balance_1 ?_
    refine r_if_ne (t := 10) dX11_balance_4 (by decide) (fun c => ?_) (fun c => ?_)
    · rw [if_neg c] at h
      refine r_aload_n 0 dX11_balance_10 rfl rfl ?_
      refine gf_48_4 q_594 dX11_balance_11 ?_
      obtain ⟨q14, hq14, h⟩ := g_bind h
      refine r_callVNv [] [] q14 (ok_X3_hear hq14) q_687 q_689 q_7 q_690 q_146 hd_X3_hear (ce_17 D dy _) kc3.1 rfl ⟨Nat.le_of_ble_eq_true rfl, Nat.le_of_ble_eq_true rfl⟩ rfl rfl (Nat.le_of_ble_eq_true rfl) dX11_balance_14 ?_
      refine r_aload_n 0 dX11_balance_17 rfl rfl ?_
      refine gf_48_4 q_594 dX11_balance_18 ?_
      refine r_iload_n 1 dX11_balance_21 rfl rfl ?_
      obtain ⟨q22, hq22, h⟩ := g_bind h
      refine r_callVNi [.int x1] [] q22 (ok_X3_balanceOf hq22) q_976 q_978 q_44 q_979 q_146 hd_X3_balanceOf (ce_17 D dy _) kc3.1 rfl ⟨Nat.le_of_ble_eq_true rfl, Nat.le_of_ble_eq_true rfl⟩ rfl rfl (Nat.le_of_ble_eq_true rfl) dX11_balance_22 ?_
      cases h
      exact r_iret rfl dX11_balance_25 ⟨rfl, rfl, rfl⟩
    · rw [if_pos c] at h
      refine r_ldc (v := -1000000000) q_975 dX11_balance_7 ?_
      cases h
      exact r_iret rfl dX11_balance_9 ⟨rfl, rfl, rfl⟩
theorem ok_X11_balance {D : k_D} {dy : Nat → Nat} {x1 : Int32} {S : St} {out : Int32 × St} (h : f_X11_balance x1 S = some out) : Sp yX11_balance cX11_balance 2 (some .int) (k_rm 5) D dy S [.ref (D.2.2 48), .int x1] (k_Pi dy out) := Sp.of (by decide +kernel) (Nat.le_of_ble_eq_true rfl) (w_X11_balance_0 _ S out h)
noncomputable def f_X11_richest_47 (k20 : Int32 → Int32 → Int32 → St → Option (Int32 × St)) (x1 : Int32) (x2 : Int32) (x3 : Int32) (S : St) : Option (Int32 × St) := k20 x1 x2 (x3 + (1 : Int32)) S
noncomputable def f_X11_richest_20 : Nat → Int32 → Int32 → Int32 → St → Option (Int32 × St)
  | 0, _, _, _, _ => none
  | n + 1, x1, x2, x3, S => if (8 : Int32) ≤ x3 then some (x1, S) else (f_X3_balanceOf x3 S).bind fun q31 => if q31.1 ≤ x2 then f_X11_richest_47 (f_X11_richest_20 n) x1 x2 x3 q31.2 else f_X11_richest_47 (f_X11_richest_20 n) x3 q31.1 x3 q31.2
noncomputable def f_X11_richest (S : St) : Option (Int32 × St) := (f_X3_hear S).bind fun q4 => (f_X3_balanceOf (0 : Int32) q4).bind fun q14 => f_X11_richest_20 FU (0 : Int32) q14.1 (1 : Int32) q14.2
set_option maxRecDepth 100000 in
set_option maxHeartbeats 4000000 in
theorem w_X11_richest_47 {D : k_D} {dy : Nat → Nat} {k20 : Int32 → Int32 → Int32 → St → Option (Int32 × St)} (hk20 : ∀ (x1 : Int32) (x2 : Int32) (x3 : Int32) (S : St) (out : Int32 × St), k20 x1 x2 x3 S = some out → Rn yX11_richest cX11_richest 5 (some .int) (k_rm 5) 0 0 D dy S (k_Pi dy out) 20 [(0, .ref (D.2.2 48)), (1, .int x1), (2, .int x2), (3, .int x3)] []) (x1 : Int32) (x2 : Int32) (x3 : Int32) (S : St) (out : Int32 × St) (h : f_X11_richest_47 k20 x1 x2 x3 S = some out) : Rn yX11_richest cX11_richest 5 (some .int) (k_rm 5) 0 0 D dy S (k_Pi dy out) 47 [(0, .ref (D.2.2 48)), (1, .int x1), (2, .int x2), (3, .int x3)] [] := by
    unfold f_X11_richest_47 at h
    refine r_iinc (q := 3) (v := x3 + (1 : Int32)) dX11_richest_47 rfl rfl (by decide) rfl ?_
    refine r_goto (t := 20) dX11_richest_50 (by decide) ?_
    refine r_sub [1, 2, 3, 0] rfl ?_
    exact hk20 _ _ _ _ _ h
set_option maxRecDepth 100000 in
set_option maxHeartbeats 4000000 in
theorem w_X11_richest_20 {D : k_D} {dy : Nat → Nat} : ∀ (n : Nat) (x1 : Int32) (x2 : Int32) (x3 : Int32) (S : St) (out : Int32 × St), f_X11_richest_20 n x1 x2 x3 S = some out → Rn yX11_richest cX11_richest 5 (some .int) (k_rm 5) 0 0 D dy S (k_Pi dy out) 20 [(0, .ref (D.2.2 48)), (1, .int x1), (2, .int x2), (3, .int x3)] [] := by
  intro n
  induction n with
  | zero => intro x1 x2 x3 S out h; cases h
  | succ n ih =>
    intro x1 x2 x3 S out h
    rw [f_X11_richest_20] at h
    refine r_iload_n 3 dX11_richest_20 rfl rfl ?_
    refine r_bipush (v := 8) dX11_richest_21 rfl ?_
    refine r_icmp_ge (t := 53) dX11_richest_23 (by decide) (fun c => ?_) (fun c => ?_)
    · rw [if_pos c] at h
      refine r_iload_n 1 dX11_richest_53 rfl rfl ?_
      cases h
      exact r_iret rfl dX11_richest_54 ⟨rfl, rfl, rfl⟩
    · rw [if_neg c] at h
      refine r_aload_n 0 dX11_richest_26 rfl rfl ?_
      refine gf_48_4 q_594 dX11_richest_27 ?_
      refine r_iload_n 3 dX11_richest_30 rfl rfl ?_
      obtain ⟨q31, hq31, h⟩ := g_bind h
      refine r_callVNi [.int x3] [] q31 (ok_X3_balanceOf hq31) q_976 q_978 q_44 q_979 q_146 hd_X3_balanceOf (ce_17 D dy _) kc3.1 rfl ⟨Nat.le_of_ble_eq_true rfl, Nat.le_of_ble_eq_true rfl⟩ rfl rfl (Nat.le_of_ble_eq_true rfl) dX11_richest_31 ?_
      refine r_istore dX11_richest_34 (by decide) rfl ?_
      refine r_iload 0 dX11_richest_36 rfl ?_
      refine r_iload_n 3 dX11_richest_38 rfl rfl ?_
      refine r_icmp_le (t := 47) dX11_richest_39 (by decide) (fun c => ?_) (fun c => ?_)
      · rw [if_pos c] at h
        refine r_sub [1, 2, 3, 4] rfl ?_
        exact w_X11_richest_47 ih _ _ _ _ _ h
      · rw [if_neg c] at h
        refine r_iload 0 dX11_richest_42 rfl ?_
        refine r_istore_n dX11_richest_44 rfl (by decide) rfl ?_
        refine r_iload_n 4 dX11_richest_45 rfl rfl ?_
        refine r_istore_n dX11_richest_46 rfl (by decide) rfl ?_
        refine r_sub [3, 0, 1, 4] rfl ?_
        exact w_X11_richest_47 ih _ _ _ _ _ h
set_option maxRecDepth 100000 in
set_option maxHeartbeats 4000000 in
theorem w_X11_richest_0 {D : k_D} {dy : Nat → Nat} (S : St) (out : Int32 × St) (h : f_X11_richest S = some out) : Rn yX11_richest cX11_richest 5 (some .int) (k_rm 5) 0 0 D dy S (k_Pi dy out) 0 [(0, .ref (D.2.2 48))] [] := by
    unfold f_X11_richest at h
    refine r_aload_n 0 dX11_richest_0 rfl rfl ?_
    refine gf_48_4 q_594 dX11_richest_1 ?_
    obtain ⟨q4, hq4, h⟩ := g_bind h
    refine r_callVNv [] [] q4 (ok_X3_hear hq4) q_687 q_689 q_7 q_690 q_146 hd_X3_hear (ce_17 D dy _) kc3.1 rfl ⟨Nat.le_of_ble_eq_true rfl, Nat.le_of_ble_eq_true rfl⟩ rfl rfl (Nat.le_of_ble_eq_true rfl) dX11_richest_4 ?_
    refine r_iconst (v := 0) dX11_richest_7 rfl ?_
    refine r_istore_n dX11_richest_8 rfl (by decide) rfl ?_
    refine r_aload_n 1 dX11_richest_9 rfl rfl ?_
    refine gf_48_4 q_594 dX11_richest_10 ?_
    refine r_iconst (v := 0) dX11_richest_13 rfl ?_
    obtain ⟨q14, hq14, h⟩ := g_bind h
    refine r_callVNi [.int (0 : Int32)] [] q14 (ok_X3_balanceOf hq14) q_976 q_978 q_44 q_979 q_146 hd_X3_balanceOf (ce_17 D dy _) kc3.1 rfl ⟨Nat.le_of_ble_eq_true rfl, Nat.le_of_ble_eq_true rfl⟩ rfl rfl (Nat.le_of_ble_eq_true rfl) dX11_richest_14 ?_
    refine r_istore_n dX11_richest_17 rfl (by decide) rfl ?_
    refine r_iconst (v := 1) dX11_richest_18 rfl ?_
    refine r_istore_n dX11_richest_19 rfl (by decide) rfl ?_
    refine r_sub [3, 2, 1, 0] rfl ?_
    exact w_X11_richest_20 _ _ _ _ _ _ h
theorem ok_X11_richest {D : k_D} {dy : Nat → Nat} {S : St} {out : Int32 × St} (h : f_X11_richest S = some out) : Sp yX11_richest cX11_richest 5 (some .int) (k_rm 5) D dy S [.ref (D.2.2 48)] (k_Pi dy out) := Sp.of (by decide +kernel) (Nat.le_of_ble_eq_true rfl) (w_X11_richest_0 S out h)
noncomputable def f_X11_net_18 (S : St) : Option (Int32 × St) := some ((-1000000000 : Int32), S)
noncomputable def f_X11_net (x1 : Int32) (x2 : Int32) (S : St) : Option (Int32 × St) := (f_X11_isDancer x1 S).bind fun q1 => if q1.1 = 0 then f_X11_net_18 q1.2 else (f_X10_hasTune x2 q1.2).bind fun q12 => if q12.1 = 0 then f_X11_net_18 q12.2 else (f_X4_addUp x2 q12.2).bind fun q26 => if k_b x1 8 = true then some (gA q26 26 x1.toNatClampNeg, q26) else none
set_option maxRecDepth 100000 in
set_option maxHeartbeats 4000000 in
theorem w_X11_net_18 {D : k_D} {dy : Nat → Nat} (S : St) (out : Int32 × St) (h : f_X11_net_18 S = some out) : Rn yX11_net cX11_net 3 (some .int) (k_rm 6) 0 0 D dy S (k_Pi dy out) 18 [] [] := by
    unfold f_X11_net_18 at h
    refine r_ldc (v := -1000000000) q_975 dX11_net_18 ?_
    cases h
    exact r_iret rfl dX11_net_20 ⟨rfl, rfl, rfl⟩
set_option maxRecDepth 100000 in
set_option maxHeartbeats 4000000 in
theorem w_X11_net_0 {D : k_D} {dy : Nat → Nat} (x1 : Int32) (x2 : Int32) (S : St) (out : Int32 × St) (h : f_X11_net x1 x2 S = some out) : Rn yX11_net cX11_net 3 (some .int) (k_rm 6) 0 0 D dy S (k_Pi dy out) 0 [(0, .ref (D.2.2 48)), (1, .int x1), (2, .int x2)] [] := by
    unfold f_X11_net at h
    refine r_iload_n 1 dX11_net_0 rfl rfl ?_
    obtain ⟨q1, hq1, h⟩ := g_bind h
    refine r_callSi [.int x1] [] q1 (ok_X11_isDancer hq1) q_667 q_668 q_669 q_141 hd_X11_isDancer ⟨Nat.le_of_ble_eq_true rfl, Nat.le_of_ble_eq_true rfl⟩ rfl rfl (Nat.le_of_ble_eq_true rfl) dX11_net_1 ?_
    refine r_if_eq (t := 18) dX11_net_4 (by decide) (fun c => ?_) (fun c => ?_)
    · rw [if_pos c] at h
      refine r_sub [] rfl ?_
      exact w_X11_net_18 _ _ h
    · rw [if_neg c] at h
      refine r_aload_n 0 dX11_net_7 rfl rfl ?_
      refine gf_48_0 q_590 dX11_net_8 ?_
      refine r_iload_n 2 dX11_net_11 rfl rfl ?_
      obtain ⟨q12, hq12, h⟩ := g_bind h
      refine r_callVNi [.int x2] [] q12 (ok_X10_hasTune hq12) q_656 q_658 q_3 q_659 q_142 hd_X10_hasTune (ce_0 D dy _) kc10.1 rfl ⟨Nat.le_of_ble_eq_true rfl, Nat.le_of_ble_eq_true rfl⟩ rfl rfl (Nat.le_of_ble_eq_true rfl) dX11_net_12 ?_
      refine r_if_ne (t := 21) dX11_net_15 (by decide) (fun c => ?_) (fun c => ?_)
      · rw [if_neg c] at h
        refine r_aload_n 0 dX11_net_21 rfl rfl ?_
        refine gf_48_5 q_595 dX11_net_22 ?_
        refine r_iload_n 2 dX11_net_25 rfl rfl ?_
        obtain ⟨q26, hq26, h⟩ := g_bind h
        refine r_callVNv [.int x2] [] q26 (ok_X4_addUp hq26) q_988 q_990 q_45 q_991 q_147 hd_X4_addUp (ce_25 D dy _) kc4.1 rfl ⟨Nat.le_of_ble_eq_true rfl, Nat.le_of_ble_eq_true rfl⟩ rfl rfl (Nat.le_of_ble_eq_true rfl) dX11_net_26 ?_
        refine r_aload_n 0 dX11_net_29 rfl rfl ?_
        refine gf_48_5 q_595 dX11_net_30 ?_
        refine gfN_25_2 q_413 dX11_net_33 ?_
        refine r_iload_n 1 dX11_net_36 rfl rfl ?_
        obtain ⟨c1, h⟩ := g_ite h
        refine al_26 (k_b_in c1) dX11_net_37 ?_
        cases h
        exact r_iret rfl dX11_net_38 ⟨rfl, rfl, rfl⟩
      · rw [if_pos c] at h
        refine r_sub [] rfl ?_
        exact w_X11_net_18 _ _ h
theorem ok_X11_net {D : k_D} {dy : Nat → Nat} {x1 : Int32} {x2 : Int32} {S : St} {out : Int32 × St} (h : f_X11_net x1 x2 S = some out) : Sp yX11_net cX11_net 3 (some .int) (k_rm 6) D dy S [.ref (D.2.2 48), .int x1, .int x2] (k_Pi dy out) := Sp.of (by decide +kernel) (Nat.le_of_ble_eq_true rfl) (w_X11_net_0 _ _ S out h)
noncomputable def f_X11_left_20 (S : St) : Option (Int32 × St) := some ((-1 : Int32), S)
noncomputable def f_X11_left_64 (s0 : Int32) (S : St) : Option (Int32 × St) := some (s0, S)
noncomputable def f_X11_left (x1 : Int32) (x2 : Int32) (S : St) : Option (Int32 × St) := (f_X10_hasTune x1 S).bind fun q5 => if q5.1 = 0 then f_X11_left_20 q5.2 else if x2 < 0 then f_X11_left_20 q5.2 else if x2 ≤ (2 : Int32) then (f_X4_addUp x1 q5.2).bind fun q27 => if x2 = 0 then some (gI q27 17, q27) else if x2 = (1 : Int32) then (f_X4_least q27).bind fun q51 => f_X11_left_64 q51.1 q51.2 else (f_X4_fewestPayments q27).bind fun q61 => f_X11_left_64 q61.1 q61.2 else f_X11_left_20 q5.2
set_option maxRecDepth 100000 in
set_option maxHeartbeats 4000000 in
theorem w_X11_left_20 {D : k_D} {dy : Nat → Nat} (S : St) (out : Int32 × St) (h : f_X11_left_20 S = some out) : Rn yX11_left cX11_left 3 (some .int) (k_rm 6) 0 0 D dy S (k_Pi dy out) 20 [] [] := by
    unfold f_X11_left_20 at h
    refine r_iconst (v := -1) dX11_left_20 rfl ?_
    cases h
    exact r_iret rfl dX11_left_21 ⟨rfl, rfl, rfl⟩
set_option maxRecDepth 100000 in
set_option maxHeartbeats 4000000 in
theorem w_X11_left_64 {D : k_D} {dy : Nat → Nat} (s0 : Int32) (S : St) (out : Int32 × St) (h : f_X11_left_64 s0 S = some out) : Rn yX11_left cX11_left 3 (some .int) (k_rm 6) 0 0 D dy S (k_Pi dy out) 64 [] [.int s0] := by
    unfold f_X11_left_64 at h
    cases h
    exact r_iret rfl dX11_left_64 ⟨rfl, rfl, rfl⟩
set_option maxRecDepth 100000 in
set_option maxHeartbeats 4000000 in
theorem w_X11_left_0 {D : k_D} {dy : Nat → Nat} (x1 : Int32) (x2 : Int32) (S : St) (out : Int32 × St) (h : f_X11_left x1 x2 S = some out) : Rn yX11_left cX11_left 3 (some .int) (k_rm 6) 0 0 D dy S (k_Pi dy out) 0 [(0, .ref (D.2.2 48)), (1, .int x1), (2, .int x2)] [] := by
    unfold f_X11_left at h
    refine r_aload_n 0 dX11_left_0 rfl rfl ?_
    refine gf_48_0 q_590 dX11_left_1 ?_
    refine r_iload_n 1 dX11_left_4 rfl rfl ?_
    obtain ⟨q5, hq5, h⟩ := g_bind h
    refine r_callVNi [.int x1] [] q5 (ok_X10_hasTune hq5) q_656 q_658 q_3 q_659 q_142 hd_X10_hasTune (ce_0 D dy _) kc10.1 rfl ⟨Nat.le_of_ble_eq_true rfl, Nat.le_of_ble_eq_true rfl⟩ rfl rfl (Nat.le_of_ble_eq_true rfl) dX11_left_5 ?_
    refine r_if_eq (t := 20) dX11_left_8 (by decide) (fun c => ?_) (fun c => ?_)
    · rw [if_pos c] at h
      refine r_sub [] rfl ?_
      exact w_X11_left_20 _ _ h
    · rw [if_neg c] at h
      refine r_iload_n 2 dX11_left_11 rfl rfl ?_
      refine r_if_lt (t := 20) dX11_left_12 (by decide) (fun c => ?_) (fun c => ?_)
      · rw [if_pos c] at h
        refine r_sub [] rfl ?_
        exact w_X11_left_20 _ _ h
      · rw [if_neg c] at h
        refine r_iload_n 2 dX11_left_15 rfl rfl ?_
        refine r_iconst (v := 2) dX11_left_16 rfl ?_
        refine r_icmp_le (t := 22) dX11_left_17 (by decide) (fun c => ?_) (fun c => ?_)
        · rw [if_pos c] at h
          refine r_aload_n 0 dX11_left_22 rfl rfl ?_
          refine gf_48_5 q_595 dX11_left_23 ?_
          refine r_iload_n 1 dX11_left_26 rfl rfl ?_
          obtain ⟨q27, hq27, h⟩ := g_bind h
          refine r_callVNv [.int x1] [] q27 (ok_X4_addUp hq27) q_988 q_990 q_45 q_991 q_147 hd_X4_addUp (ce_25 D dy _) kc4.1 rfl ⟨Nat.le_of_ble_eq_true rfl, Nat.le_of_ble_eq_true rfl⟩ rfl rfl (Nat.le_of_ble_eq_true rfl) dX11_left_27 ?_
          refine r_iload_n 2 dX11_left_30 rfl rfl ?_
          refine r_if_ne (t := 42) dX11_left_31 (by decide) (fun c => ?_) (fun c => ?_)
          · rw [if_neg c] at h
            refine r_iload_n 2 dX11_left_42 rfl rfl ?_
            refine r_iconst (v := 1) dX11_left_43 rfl ?_
            refine r_icmp_ne (t := 57) dX11_left_44 (by decide) (fun c => ?_) (fun c => ?_)
            · rw [if_neg c] at h
              refine r_aload_n 0 dX11_left_57 rfl rfl ?_
              refine gf_48_5 q_595 dX11_left_58 ?_
              obtain ⟨q61, hq61, h⟩ := g_bind h
              refine r_callVNi [] [] q61 (ok_X4_fewestPayments hq61) q_1008 q_1010 q_48 q_1011 q_147 hd_X4_fewestPayments (ce_25 D dy _) kc4.1 rfl ⟨Nat.le_of_ble_eq_true rfl, Nat.le_of_ble_eq_true rfl⟩ rfl rfl (Nat.le_of_ble_eq_true rfl) dX11_left_61 ?_
              refine r_sub [] rfl ?_
              exact w_X11_left_64 _ _ _ h
            · rw [if_pos c] at h
              refine r_aload_n 0 dX11_left_47 rfl rfl ?_
              refine gf_48_5 q_595 dX11_left_48 ?_
              obtain ⟨q51, hq51, h⟩ := g_bind h
              refine r_callVNi [] [] q51 (ok_X4_least hq51) q_1003 q_1005 q_47 q_1006 q_147 hd_X4_least (ce_25 D dy _) kc4.1 rfl ⟨Nat.le_of_ble_eq_true rfl, Nat.le_of_ble_eq_true rfl⟩ rfl rfl (Nat.le_of_ble_eq_true rfl) dX11_left_51 ?_
              refine r_goto (t := 64) dX11_left_54 (by decide) ?_
              refine r_sub [] rfl ?_
              exact w_X11_left_64 _ _ _ h
          · rw [if_pos c] at h
            refine r_aload_n 0 dX11_left_34 rfl rfl ?_
            refine gf_48_5 q_595 dX11_left_35 ?_
            refine gfN_25_5 q_417 dX11_left_38 ?_
            cases h
            exact r_iret rfl dX11_left_41 ⟨rfl, rfl, rfl⟩
        · rw [if_neg c] at h
          refine r_sub [] rfl ?_
          exact w_X11_left_20 _ _ h
theorem ok_X11_left {D : k_D} {dy : Nat → Nat} {x1 : Int32} {x2 : Int32} {S : St} {out : Int32 × St} (h : f_X11_left x1 x2 S = some out) : Sp yX11_left cX11_left 3 (some .int) (k_rm 6) D dy S [.ref (D.2.2 48), .int x1, .int x2] (k_Pi dy out) := Sp.of (by decide +kernel) (Nat.le_of_ble_eq_true rfl) (w_X11_left_0 _ _ S out h)
noncomputable def f_X11_ring_22 (S : St) : Option (Int32 × St) := some ((-1 : Int32), S)
noncomputable def f_X11_ring_65 (s0 : Int32) (S : St) : Option (Int32 × St) := some (s0, S)
noncomputable def f_X11_ring_64 (S : St) : Option (Int32 × St) := f_X11_ring_65 (-1 : Int32) S
noncomputable def f_X11_ring (x1 : Int32) (x2 : Int32) (S : St) : Option (Int32 × St) := (f_X10_hasTune x1 S).bind fun q5 => if q5.1 = 0 then f_X11_ring_22 q5.2 else (f_X8_find x1 q5.2).bind fun q16 => if q16.1 = 0 then f_X11_ring_22 q16.2 else if x2 = (-1 : Int32) then some (gI q16.2 18, q16.2) else if x2 < 0 then f_X11_ring_64 q16.2 else if (gI q16.2 18) ≤ x2 then f_X11_ring_64 q16.2 else if k_b x2 8 = true then f_X11_ring_65 (gA q16.2 31 x2.toNatClampNeg) q16.2 else none
set_option maxRecDepth 100000 in
set_option maxHeartbeats 4000000 in
theorem w_X11_ring_22 {D : k_D} {dy : Nat → Nat} (S : St) (out : Int32 × St) (h : f_X11_ring_22 S = some out) : Rn yX11_ring cX11_ring 3 (some .int) (k_rm 6) 0 0 D dy S (k_Pi dy out) 22 [] [] := by
    unfold f_X11_ring_22 at h
    refine r_iconst (v := -1) dX11_ring_22 rfl ?_
    cases h
    exact r_iret rfl dX11_ring_23 ⟨rfl, rfl, rfl⟩
set_option maxRecDepth 100000 in
set_option maxHeartbeats 4000000 in
theorem w_X11_ring_65 {D : k_D} {dy : Nat → Nat} (s0 : Int32) (S : St) (out : Int32 × St) (h : f_X11_ring_65 s0 S = some out) : Rn yX11_ring cX11_ring 3 (some .int) (k_rm 6) 0 0 D dy S (k_Pi dy out) 65 [] [.int s0] := by
    unfold f_X11_ring_65 at h
    cases h
    exact r_iret rfl dX11_ring_65 ⟨rfl, rfl, rfl⟩
set_option maxRecDepth 100000 in
set_option maxHeartbeats 4000000 in
theorem w_X11_ring_64 {D : k_D} {dy : Nat → Nat} (S : St) (out : Int32 × St) (h : f_X11_ring_64 S = some out) : Rn yX11_ring cX11_ring 3 (some .int) (k_rm 6) 0 0 D dy S (k_Pi dy out) 64 [] [] := by
    unfold f_X11_ring_64 at h
    refine r_iconst (v := -1) dX11_ring_64 rfl ?_
    exact w_X11_ring_65 _ _ _ h
set_option maxRecDepth 100000 in
set_option maxHeartbeats 4000000 in
theorem w_X11_ring_0 {D : k_D} {dy : Nat → Nat} (x1 : Int32) (x2 : Int32) (S : St) (out : Int32 × St) (h : f_X11_ring x1 x2 S = some out) : Rn yX11_ring cX11_ring 3 (some .int) (k_rm 6) 0 0 D dy S (k_Pi dy out) 0 [(0, .ref (D.2.2 48)), (1, .int x1), (2, .int x2)] [] := by
    unfold f_X11_ring at h
    refine r_aload_n 0 dX11_ring_0 rfl rfl ?_
    refine gf_48_0 q_590 dX11_ring_1 ?_
    refine r_iload_n 1 dX11_ring_4 rfl rfl ?_
    obtain ⟨q5, hq5, h⟩ := g_bind h
    refine r_callVNi [.int x1] [] q5 (ok_X10_hasTune hq5) q_656 q_658 q_3 q_659 q_142 hd_X10_hasTune (ce_0 D dy _) kc10.1 rfl ⟨Nat.le_of_ble_eq_true rfl, Nat.le_of_ble_eq_true rfl⟩ rfl rfl (Nat.le_of_ble_eq_true rfl) dX11_ring_5 ?_
    refine r_if_eq (t := 22) dX11_ring_8 (by decide) (fun c => ?_) (fun c => ?_)
    · rw [if_pos c] at h
      refine r_sub [] rfl ?_
      exact w_X11_ring_22 _ _ h
    · rw [if_neg c] at h
      refine r_aload_n 0 dX11_ring_11 rfl rfl ?_
      refine gf_48_6 q_596 dX11_ring_12 ?_
      refine r_iload_n 1 dX11_ring_15 rfl rfl ?_
      obtain ⟨q16, hq16, h⟩ := g_bind h
      refine r_callVNi [.int x1] [] q16 (ok_X8_find hq16) q_1026 q_1028 q_50 q_1029 q_148 hd_X8_find (ce_29 D dy _) kc8.1 rfl ⟨Nat.le_of_ble_eq_true rfl, Nat.le_of_ble_eq_true rfl⟩ rfl rfl (Nat.le_of_ble_eq_true rfl) dX11_ring_16 ?_
      refine r_if_ne (t := 24) dX11_ring_19 (by decide) (fun c => ?_) (fun c => ?_)
      · rw [if_neg c] at h
        refine r_iload_n 2 dX11_ring_24 rfl rfl ?_
        refine r_iconst (v := -1) dX11_ring_25 rfl ?_
        refine r_icmp_ne (t := 37) dX11_ring_26 (by decide) (fun c => ?_) (fun c => ?_)
        · rw [if_neg c] at h
          refine r_iload_n 2 dX11_ring_37 rfl rfl ?_
          refine r_if_lt (t := 64) dX11_ring_38 (by decide) (fun c => ?_) (fun c => ?_)
          · rw [if_pos c] at h
            refine r_sub [] rfl ?_
            exact w_X11_ring_64 _ _ h
          · rw [if_neg c] at h
            refine r_iload_n 2 dX11_ring_41 rfl rfl ?_
            refine r_aload_n 0 dX11_ring_42 rfl rfl ?_
            refine gf_48_6 q_596 dX11_ring_43 ?_
            refine gfN_29_4 q_443 dX11_ring_46 ?_
            refine r_icmp_ge (t := 64) dX11_ring_49 (by decide) (fun c => ?_) (fun c => ?_)
            · rw [if_pos c] at h
              refine r_sub [] rfl ?_
              exact w_X11_ring_64 _ _ h
            · rw [if_neg c] at h
              refine r_aload_n 0 dX11_ring_52 rfl rfl ?_
              refine gf_48_6 q_596 dX11_ring_53 ?_
              refine gfN_29_3 q_441 dX11_ring_56 ?_
              refine r_iload_n 2 dX11_ring_59 rfl rfl ?_
              obtain ⟨c1, h⟩ := g_ite h
              refine al_31 (k_b_in c1) dX11_ring_60 ?_
              refine r_goto (t := 65) dX11_ring_61 (by decide) ?_
              refine r_sub [] rfl ?_
              exact w_X11_ring_65 _ _ _ h
        · rw [if_pos c] at h
          refine r_aload_n 0 dX11_ring_29 rfl rfl ?_
          refine gf_48_6 q_596 dX11_ring_30 ?_
          refine gfN_29_4 q_443 dX11_ring_33 ?_
          cases h
          exact r_iret rfl dX11_ring_36 ⟨rfl, rfl, rfl⟩
      · rw [if_pos c] at h
        refine r_sub [] rfl ?_
        exact w_X11_ring_22 _ _ h
theorem ok_X11_ring {D : k_D} {dy : Nat → Nat} {x1 : Int32} {x2 : Int32} {S : St} {out : Int32 × St} (h : f_X11_ring x1 x2 S = some out) : Sp yX11_ring cX11_ring 3 (some .int) (k_rm 6) D dy S [.ref (D.2.2 48), .int x1, .int x2] (k_Pi dy out) := Sp.of (by decide +kernel) (Nat.le_of_ble_eq_true rfl) (w_X11_ring_0 _ _ S out h)
noncomputable def f_X11_cancel (x1 : Int32) (S : St) : Option (Int32 × St) := (f_X10_hasTune x1 S).bind fun q5 => if q5.1 = 0 then (f_X11_refuse (-2 : Int32) q5.2).bind fun q14 => some (q14.1, q14.2) else (f_X8_find x1 q5.2).bind fun q23 => if q23.1 = 0 then (f_X11_refuse (-3 : Int32) q23.2).bind fun q32 => some (q32.1, q32.2) else (f_X8_drop q23.2).bind fun q41 => (f_X11_done q41.1 q41.2).bind fun q44 => some (q44.1, q44.2)
set_option maxRecDepth 100000 in
set_option maxHeartbeats 4000000 in
theorem w_X11_cancel_0 {D : k_D} {dy : Nat → Nat} (x1 : Int32) (S : St) (out : Int32 × St) (h : f_X11_cancel x1 S = some out) : Rn yX11_cancel cX11_cancel 2 (some .int) (k_rm 6) 0 0 D dy S (k_Pi dy out) 0 [(0, .ref (D.2.2 48)), (1, .int x1)] [] := by
    unfold f_X11_cancel at h
    refine r_aload_n 0 dX11_cancel_0 rfl rfl ?_
    refine gf_48_0 q_590 dX11_cancel_1 ?_
    refine r_iload_n 1 dX11_cancel_4 rfl rfl ?_
    obtain ⟨q5, hq5, h⟩ := g_bind h
    refine r_callVNi [.int x1] [] q5 (ok_X10_hasTune hq5) q_656 q_658 q_3 q_659 q_142 hd_X10_hasTune (ce_0 D dy _) kc10.1 rfl ⟨Nat.le_of_ble_eq_true rfl, Nat.le_of_ble_eq_true rfl⟩ rfl rfl (Nat.le_of_ble_eq_true rfl) dX11_cancel_5 ?_
    refine r_if_ne (t := 18) dX11_cancel_8 (by decide) (fun c => ?_) (fun c => ?_)
    · rw [if_neg c] at h
      refine r_aload_n 0 dX11_cancel_18 rfl rfl ?_
      refine gf_48_6 q_596 dX11_cancel_19 ?_
      refine r_iload_n 1 dX11_cancel_22 rfl rfl ?_
      obtain ⟨q23, hq23, h⟩ := g_bind h
      refine r_callVNi [.int x1] [] q23 (ok_X8_find hq23) q_1026 q_1028 q_50 q_1029 q_148 hd_X8_find (ce_29 D dy _) kc8.1 rfl ⟨Nat.le_of_ble_eq_true rfl, Nat.le_of_ble_eq_true rfl⟩ rfl rfl (Nat.le_of_ble_eq_true rfl) dX11_cancel_23 ?_
      refine r_if_ne (t := 36) dX11_cancel_26 (by decide) (fun c => ?_) (fun c => ?_)
      · rw [if_neg c] at h
        refine r_aload_n 0 dX11_cancel_36 rfl rfl ?_
        refine r_aload_n 0 dX11_cancel_37 rfl rfl ?_
        refine gf_48_6 q_596 dX11_cancel_38 ?_
        obtain ⟨q41, hq41, h⟩ := g_bind h
        refine r_callVNi [] [.ref (D.2.2 48)] q41 (ok_X8_drop hq41) q_1050 q_1052 q_53 q_1053 q_148 hd_X8_drop (ce_29 D dy _) kc8.1 rfl ⟨Nat.le_of_ble_eq_true rfl, Nat.le_of_ble_eq_true rfl⟩ rfl rfl (Nat.le_of_ble_eq_true rfl) dX11_cancel_41 ?_
        obtain ⟨q44, hq44, h⟩ := g_bind h
        refine r_callVi [.int q41.1] [] q44 (ok_X11_done hq44) q_648 q_650 q_2 q_651 q_141 hd_X11_done (ce_48 D dy _) kc11.1 rfl ⟨Nat.le_of_ble_eq_true rfl, Nat.le_of_ble_eq_true rfl⟩ rfl rfl (Nat.le_of_ble_eq_true rfl) dX11_cancel_44 ?_
        cases h
        exact r_iret rfl dX11_cancel_47 ⟨rfl, rfl, rfl⟩
      · rw [if_pos c] at h
        refine r_aload_n 0 dX11_cancel_29 rfl rfl ?_
        refine r_bipush (v := -3) dX11_cancel_30 rfl ?_
        obtain ⟨q32, hq32, h⟩ := g_bind h
        refine r_callVi [.int (-3 : Int32)] [] q32 (ok_X11_refuse hq32) q_640 q_642 q_0 q_643 q_141 hd_X11_refuse (ce_48 D dy _) kc11.1 rfl ⟨Nat.le_of_ble_eq_true rfl, Nat.le_of_ble_eq_true rfl⟩ rfl rfl (Nat.le_of_ble_eq_true rfl) dX11_cancel_32 ?_
        cases h
        exact r_iret rfl dX11_cancel_35 ⟨rfl, rfl, rfl⟩
    · rw [if_pos c] at h
      refine r_aload_n 0 dX11_cancel_11 rfl rfl ?_
      refine r_bipush (v := -2) dX11_cancel_12 rfl ?_
      obtain ⟨q14, hq14, h⟩ := g_bind h
      refine r_callVi [.int (-2 : Int32)] [] q14 (ok_X11_refuse hq14) q_640 q_642 q_0 q_643 q_141 hd_X11_refuse (ce_48 D dy _) kc11.1 rfl ⟨Nat.le_of_ble_eq_true rfl, Nat.le_of_ble_eq_true rfl⟩ rfl rfl (Nat.le_of_ble_eq_true rfl) dX11_cancel_14 ?_
      cases h
      exact r_iret rfl dX11_cancel_17 ⟨rfl, rfl, rfl⟩
theorem ok_X11_cancel {D : k_D} {dy : Nat → Nat} {x1 : Int32} {S : St} {out : Int32 × St} (h : f_X11_cancel x1 S = some out) : Sp yX11_cancel cX11_cancel 2 (some .int) (k_rm 6) D dy S [.ref (D.2.2 48), .int x1] (k_Pi dy out) := Sp.of (by decide +kernel) (Nat.le_of_ble_eq_true rfl) (w_X11_cancel_0 _ S out h)
noncomputable def f_X11_isWedding_23 (s0 : Int32) (S : St) : Option (Int32 × St) := if s0 = 0 ∨ s0 = 1 then some (s0, S) else none
noncomputable def f_X11_isWedding_22 (S : St) : Option (Int32 × St) := f_X11_isWedding_23 (0 : Int32) S
noncomputable def f_X11_isWedding (x0 : Int32) (x1 : Int32) (S : St) : Option (Int32 × St) := (f_X11_isDancer x0 S).bind fun q1 => if q1.1 = 0 then f_X11_isWedding_22 q1.2 else if x1 < 0 then f_X11_isWedding_22 q1.2 else if (240 : Int32) < x1 then f_X11_isWedding_22 q1.2 else f_X11_isWedding_23 (1 : Int32) q1.2
set_option maxRecDepth 100000 in
set_option maxHeartbeats 4000000 in
theorem w_X11_isWedding_23 {D : k_D} {dy : Nat → Nat} (s0 : Int32) (S : St) (out : Int32 × St) (h : f_X11_isWedding_23 s0 S = some out) : Rn yX11_isWedding cX11_isWedding 2 (some .boolean) (k_rm 1) 0 0 D dy S (k_Pi dy out) 23 [] [.int s0] := by
    unfold f_X11_isWedding_23 at h
    obtain ⟨c, h⟩ := g_ite h
    cases h
    exact r_zret rfl (k_zn c) dX11_isWedding_23 ⟨rfl, rfl, rfl⟩
set_option maxRecDepth 100000 in
set_option maxHeartbeats 4000000 in
theorem w_X11_isWedding_22 {D : k_D} {dy : Nat → Nat} (S : St) (out : Int32 × St) (h : f_X11_isWedding_22 S = some out) : Rn yX11_isWedding cX11_isWedding 2 (some .boolean) (k_rm 1) 0 0 D dy S (k_Pi dy out) 22 [] [] := by
    unfold f_X11_isWedding_22 at h
    refine r_iconst (v := 0) dX11_isWedding_22 rfl ?_
    exact w_X11_isWedding_23 _ _ _ h
set_option maxRecDepth 100000 in
set_option maxHeartbeats 4000000 in
theorem w_X11_isWedding_0 {D : k_D} {dy : Nat → Nat} (x0 : Int32) (x1 : Int32) (S : St) (out : Int32 × St) (h : f_X11_isWedding x0 x1 S = some out) : Rn yX11_isWedding cX11_isWedding 2 (some .boolean) (k_rm 1) 0 0 D dy S (k_Pi dy out) 0 [(0, .int x0), (1, .int x1)] [] := by
    unfold f_X11_isWedding at h
    refine r_iload_n 0 dX11_isWedding_0 rfl rfl ?_
    obtain ⟨q1, hq1, h⟩ := g_bind h
    refine r_callSi [.int x0] [] q1 (ok_X11_isDancer hq1) q_667 q_668 q_669 q_141 hd_X11_isDancer ⟨Nat.le_of_ble_eq_true rfl, Nat.le_of_ble_eq_true rfl⟩ rfl rfl (Nat.le_of_ble_eq_true rfl) dX11_isWedding_1 ?_
    refine r_if_eq (t := 22) dX11_isWedding_4 (by decide) (fun c => ?_) (fun c => ?_)
    · rw [if_pos c] at h
      refine r_sub [] rfl ?_
      exact w_X11_isWedding_22 _ _ h
    · rw [if_neg c] at h
      refine r_iload_n 1 dX11_isWedding_7 rfl rfl ?_
      refine r_if_lt (t := 22) dX11_isWedding_8 (by decide) (fun c => ?_) (fun c => ?_)
      · rw [if_pos c] at h
        refine r_sub [] rfl ?_
        exact w_X11_isWedding_22 _ _ h
      · rw [if_neg c] at h
        refine r_iload_n 1 dX11_isWedding_11 rfl rfl ?_
        refine r_sipush (v := 240) dX11_isWedding_12 rfl ?_
        refine r_icmp_gt (t := 22) dX11_isWedding_15 (by decide) (fun c => ?_) (fun c => ?_)
        · rw [if_pos c] at h
          refine r_sub [] rfl ?_
          exact w_X11_isWedding_22 _ _ h
        · rw [if_neg c] at h
          refine r_iconst (v := 1) dX11_isWedding_18 rfl ?_
          refine r_goto (t := 23) dX11_isWedding_19 (by decide) ?_
          refine r_sub [] rfl ?_
          exact w_X11_isWedding_23 _ _ _ h
theorem ok_X11_isWedding {D : k_D} {dy : Nat → Nat} {x0 : Int32} {x1 : Int32} {S : St} {out : Int32 × St} (h : f_X11_isWedding x0 x1 S = some out) : Sp yX11_isWedding cX11_isWedding 2 (some .boolean) (k_rm 1) D dy S [.int x0, .int x1] (k_Pi dy out) := Sp.of (by decide +kernel) (Nat.le_of_ble_eq_true rfl) (w_X11_isWedding_0 _ _ S out h)
noncomputable def f_X11_best_18 (S : St) : Option (Int32 × St) := some ((-1 : Int32), S)
noncomputable def f_X11_best_52 (S : St) : Option (Int32 × St) := some ((-1 : Int32), S)
noncomputable def f_X11_best_117 (s0 : Int32) (S : St) : Option (Int32 × St) := some (s0, S)
noncomputable def f_X11_best_54 (x1 : Int32) (x2 : Int32) (x3 : Int32) (x4 : Int32) (x5 : Int32) (S : St) : Option (Int32 × St) := (f_X2_find x1 x2 x3 S).bind fun q61 => if x4 = 0 then some (gI q61 22, q61) else if x4 = (1 : Int32) then some (gI q61 23, q61) else if x4 = (2 : Int32) then f_X11_best_117 (gI q61 24) q61 else if k_b x5 16 = true then f_X11_best_117 (gA q61 38 x5.toNatClampNeg) q61 else none
noncomputable def f_X11_best (x1 : Int32) (x2 : Int32) (x3 : Int32) (x4 : Int32) (S : St) : Option (Int32 × St) := (f_X11_isWedding x1 x2 S).bind fun q2 => if q2.1 = 0 then f_X11_best_18 q2.2 else if x3 < 0 then f_X11_best_18 q2.2 else if x3 ≤ (8 : Int32) then if x4 < 0 then f_X11_best_52 q2.2 else if x4 ≤ (2 : Int32) then f_X11_best_54 x1 x2 x3 x4 (x4 - (3 : Int32)) q2.2 else (f_X1_has (x4 - (3 : Int32)) q2.2).bind fun q46 => if q46.1 = 0 then f_X11_best_52 q46.2 else f_X11_best_54 x1 x2 x3 x4 (x4 - (3 : Int32)) q46.2 else f_X11_best_18 q2.2
set_option maxRecDepth 100000 in
set_option maxHeartbeats 4000000 in
theorem w_X11_best_18 {D : k_D} {dy : Nat → Nat} (S : St) (out : Int32 × St) (h : f_X11_best_18 S = some out) : Rn yX11_best cX11_best 6 (some .int) (k_rm 6) 0 0 D dy S (k_Pi dy out) 18 [] [] := by
    unfold f_X11_best_18 at h
    refine r_iconst (v := -1) dX11_best_18 rfl ?_
    cases h
    exact r_iret rfl dX11_best_19 ⟨rfl, rfl, rfl⟩
set_option maxRecDepth 100000 in
set_option maxHeartbeats 4000000 in
theorem w_X11_best_52 {D : k_D} {dy : Nat → Nat} (S : St) (out : Int32 × St) (h : f_X11_best_52 S = some out) : Rn yX11_best cX11_best 6 (some .int) (k_rm 6) 0 0 D dy S (k_Pi dy out) 52 [] [] := by
    unfold f_X11_best_52 at h
    refine r_iconst (v := -1) dX11_best_52 rfl ?_
    cases h
    exact r_iret rfl dX11_best_53 ⟨rfl, rfl, rfl⟩
set_option maxRecDepth 100000 in
set_option maxHeartbeats 4000000 in
theorem w_X11_best_117 {D : k_D} {dy : Nat → Nat} (s0 : Int32) (S : St) (out : Int32 × St) (h : f_X11_best_117 s0 S = some out) : Rn yX11_best cX11_best 6 (some .int) (k_rm 6) 0 0 D dy S (k_Pi dy out) 117 [] [.int s0] := by
    unfold f_X11_best_117 at h
    cases h
    exact r_iret rfl dX11_best_117 ⟨rfl, rfl, rfl⟩
set_option maxRecDepth 100000 in
set_option maxHeartbeats 4000000 in
theorem w_X11_best_54 {D : k_D} {dy : Nat → Nat} (x1 : Int32) (x2 : Int32) (x3 : Int32) (x4 : Int32) (x5 : Int32) (S : St) (out : Int32 × St) (h : f_X11_best_54 x1 x2 x3 x4 x5 S = some out) : Rn yX11_best cX11_best 6 (some .int) (k_rm 6) 0 0 D dy S (k_Pi dy out) 54 [(0, .ref (D.2.2 48)), (1, .int x1), (2, .int x2), (3, .int x3), (4, .int x4), (5, .int x5)] [] := by
    unfold f_X11_best_54 at h
    refine r_aload_n 0 dX11_best_54 rfl rfl ?_
    refine gf_48_7 q_597 dX11_best_55 ?_
    refine r_iload_n 1 dX11_best_58 rfl rfl ?_
    refine r_iload_n 2 dX11_best_59 rfl rfl ?_
    refine r_iload_n 3 dX11_best_60 rfl rfl ?_
    obtain ⟨q61, hq61, h⟩ := g_bind h
    refine r_callVNv [.int x1, .int x2, .int x3] [] q61 (ok_X2_find hq61) q_1079 q_1081 q_58 q_1082 q_149 hd_X2_find (ce_32 D dy _) kc2.1 rfl ⟨Nat.le_of_ble_eq_true rfl, Nat.le_of_ble_eq_true rfl⟩ rfl rfl (Nat.le_of_ble_eq_true rfl) dX11_best_61 ?_
    refine r_iload 4 dX11_best_64 rfl ?_
    refine r_if_ne (t := 77) dX11_best_66 (by decide) (fun c => ?_) (fun c => ?_)
    · rw [if_neg c] at h
      refine r_iload 4 dX11_best_77 rfl ?_
      refine r_iconst (v := 1) dX11_best_79 rfl ?_
      refine r_icmp_ne (t := 91) dX11_best_80 (by decide) (fun c => ?_) (fun c => ?_)
      · rw [if_neg c] at h
        refine r_iload 4 dX11_best_91 rfl ?_
        refine r_iconst (v := 2) dX11_best_93 rfl ?_
        refine r_icmp_ne (t := 107) dX11_best_94 (by decide) (fun c => ?_) (fun c => ?_)
        · rw [if_neg c] at h
          refine r_aload_n 0 dX11_best_107 rfl rfl ?_
          refine gf_48_7 q_597 dX11_best_108 ?_
          refine gfN_32_8 q_474 dX11_best_111 ?_
          refine r_iload 5 dX11_best_114 rfl ?_
          obtain ⟨c1, h⟩ := g_ite h
          refine al_38 (k_b_in c1) dX11_best_116 ?_
          refine r_sub [] rfl ?_
          exact w_X11_best_117 _ _ _ h
        · rw [if_pos c] at h
          refine r_aload_n 0 dX11_best_97 rfl rfl ?_
          refine gf_48_7 q_597 dX11_best_98 ?_
          refine gfN_32_13 q_482 dX11_best_101 ?_
          refine r_goto (t := 117) dX11_best_104 (by decide) ?_
          refine r_sub [] rfl ?_
          exact w_X11_best_117 _ _ _ h
      · rw [if_pos c] at h
        refine r_aload_n 0 dX11_best_83 rfl rfl ?_
        refine gf_48_7 q_597 dX11_best_84 ?_
        refine gfN_32_12 q_480 dX11_best_87 ?_
        cases h
        exact r_iret rfl dX11_best_90 ⟨rfl, rfl, rfl⟩
    · rw [if_pos c] at h
      refine r_aload_n 0 dX11_best_69 rfl rfl ?_
      refine gf_48_7 q_597 dX11_best_70 ?_
      refine gfN_32_11 q_478 dX11_best_73 ?_
      cases h
      exact r_iret rfl dX11_best_76 ⟨rfl, rfl, rfl⟩
set_option maxRecDepth 100000 in
set_option maxHeartbeats 4000000 in
theorem w_X11_best_0 {D : k_D} {dy : Nat → Nat} (x1 : Int32) (x2 : Int32) (x3 : Int32) (x4 : Int32) (S : St) (out : Int32 × St) (h : f_X11_best x1 x2 x3 x4 S = some out) : Rn yX11_best cX11_best 6 (some .int) (k_rm 6) 0 0 D dy S (k_Pi dy out) 0 [(0, .ref (D.2.2 48)), (1, .int x1), (2, .int x2), (3, .int x3), (4, .int x4)] [] := by
    unfold f_X11_best at h
    refine r_iload_n 1 dX11_best_0 rfl rfl ?_
    refine r_iload_n 2 dX11_best_1 rfl rfl ?_
    obtain ⟨q2, hq2, h⟩ := g_bind h
    refine r_callSi [.int x1, .int x2] [] q2 (ok_X11_isWedding hq2) q_1076 q_1077 q_1078 q_141 hd_X11_isWedding ⟨Nat.le_of_ble_eq_true rfl, Nat.le_of_ble_eq_true rfl⟩ rfl rfl (Nat.le_of_ble_eq_true rfl) dX11_best_2 ?_
    refine r_if_eq (t := 18) dX11_best_5 (by decide) (fun c => ?_) (fun c => ?_)
    · rw [if_pos c] at h
      refine r_sub [] rfl ?_
      exact w_X11_best_18 _ _ h
    · rw [if_neg c] at h
      refine r_iload_n 3 dX11_best_8 rfl rfl ?_
      refine r_if_lt (t := 18) dX11_best_9 (by decide) (fun c => ?_) (fun c => ?_)
      · rw [if_pos c] at h
        refine r_sub [] rfl ?_
        exact w_X11_best_18 _ _ h
      · rw [if_neg c] at h
        refine r_iload_n 3 dX11_best_12 rfl rfl ?_
        refine r_bipush (v := 8) dX11_best_13 rfl ?_
        refine r_icmp_le (t := 20) dX11_best_15 (by decide) (fun c => ?_) (fun c => ?_)
        · rw [if_pos c] at h
          refine r_iload 4 dX11_best_20 rfl ?_
          refine r_iconst (v := 3) dX11_best_22 rfl ?_
          refine r_isub dX11_best_23 ?_
          refine r_istore dX11_best_24 (by decide) rfl ?_
          refine r_iload 5 dX11_best_26 rfl ?_
          refine r_if_lt (t := 52) dX11_best_28 (by decide) (fun c => ?_) (fun c => ?_)
          · rw [if_pos c] at h
            refine r_sub [] rfl ?_
            exact w_X11_best_52 _ _ h
          · rw [if_neg c] at h
            refine r_iload 5 dX11_best_31 rfl ?_
            refine r_iconst (v := 2) dX11_best_33 rfl ?_
            refine r_icmp_le (t := 54) dX11_best_34 (by decide) (fun c => ?_) (fun c => ?_)
            · rw [if_pos c] at h
              refine r_sub [1, 2, 3, 4, 5, 0] rfl ?_
              exact w_X11_best_54 _ _ _ _ _ _ _ h
            · rw [if_neg c] at h
              refine r_aload_n 1 dX11_best_37 rfl rfl ?_
              refine gf_48_0 q_590 dX11_best_38 ?_
              refine gfN_0_2 q_248 dX11_best_41 ?_
              refine r_iload 0 dX11_best_44 rfl ?_
              obtain ⟨q46, hq46, h⟩ := g_bind h
              refine r_callVNi [.int (x4 - (3 : Int32))] [] q46 (ok_X1_has hq46) q_678 q_680 q_5 q_681 q_143 hd_X1_has (ce_2 D dy _) kc1.1 rfl ⟨Nat.le_of_ble_eq_true rfl, Nat.le_of_ble_eq_true rfl⟩ rfl rfl (Nat.le_of_ble_eq_true rfl) dX11_best_46 ?_
              refine r_if_ne (t := 54) dX11_best_49 (by decide) (fun c => ?_) (fun c => ?_)
              · rw [if_neg c] at h
                refine r_sub [1, 2, 3, 4, 5, 0] rfl ?_
                exact w_X11_best_54 _ _ _ _ _ _ _ h
              · rw [if_pos c] at h
                refine r_sub [] rfl ?_
                exact w_X11_best_52 _ _ h
        · rw [if_neg c] at h
          refine r_sub [] rfl ?_
          exact w_X11_best_18 _ _ h
theorem ok_X11_best {D : k_D} {dy : Nat → Nat} {x1 : Int32} {x2 : Int32} {x3 : Int32} {x4 : Int32} {S : St} {out : Int32 × St} (h : f_X11_best x1 x2 x3 x4 S = some out) : Sp yX11_best cX11_best 6 (some .int) (k_rm 6) D dy S [.ref (D.2.2 48), .int x1, .int x2, .int x3, .int x4] (k_Pi dy out) := Sp.of (by decide +kernel) (Nat.le_of_ble_eq_true rfl) (w_X11_best_0 _ _ _ _ S out h)
noncomputable def f_X11_play_18 (S : St) : Option (Int32 × St) := (f_X11_refuse (-1 : Int32) S).bind fun q20 => some (q20.1, q20.2)
noncomputable def f_X11_play (x1 : Int32) (x2 : Int32) (x3 : Int32) (S : St) : Option (Int32 × St) := (f_X11_isWedding x1 x2 S).bind fun q2 => if q2.1 = 0 then f_X11_play_18 q2.2 else if x3 < 0 then f_X11_play_18 q2.2 else if x3 ≤ (8 : Int32) then (f_X2_find x1 x2 x3 q2.2).bind fun q31 => (f_X2_payAll q31).bind fun q38 => (f_X11_done (gI q38 22) q38).bind fun q49 => some (q49.1, q49.2) else f_X11_play_18 q2.2
set_option maxRecDepth 100000 in
set_option maxHeartbeats 4000000 in
theorem w_X11_play_18 {D : k_D} {dy : Nat → Nat} (S : St) (out : Int32 × St) (h : f_X11_play_18 S = some out) : Rn yX11_play cX11_play 4 (some .int) (k_rm 6) 0 0 D dy S (k_Pi dy out) 18 [(0, .ref (D.2.2 48))] [] := by
    unfold f_X11_play_18 at h
    refine r_aload_n 0 dX11_play_18 rfl rfl ?_
    refine r_iconst (v := -1) dX11_play_19 rfl ?_
    obtain ⟨q20, hq20, h⟩ := g_bind h
    refine r_callVi [.int (-1 : Int32)] [] q20 (ok_X11_refuse hq20) q_640 q_642 q_0 q_643 q_141 hd_X11_refuse (ce_48 D dy _) kc11.1 rfl ⟨Nat.le_of_ble_eq_true rfl, Nat.le_of_ble_eq_true rfl⟩ rfl rfl (Nat.le_of_ble_eq_true rfl) dX11_play_20 ?_
    cases h
    exact r_iret rfl dX11_play_23 ⟨rfl, rfl, rfl⟩
set_option maxRecDepth 100000 in
set_option maxHeartbeats 4000000 in
theorem w_X11_play_0 {D : k_D} {dy : Nat → Nat} (x1 : Int32) (x2 : Int32) (x3 : Int32) (S : St) (out : Int32 × St) (h : f_X11_play x1 x2 x3 S = some out) : Rn yX11_play cX11_play 4 (some .int) (k_rm 6) 0 0 D dy S (k_Pi dy out) 0 [(0, .ref (D.2.2 48)), (1, .int x1), (2, .int x2), (3, .int x3)] [] := by
    unfold f_X11_play at h
    refine r_iload_n 1 dX11_play_0 rfl rfl ?_
    refine r_iload_n 2 dX11_play_1 rfl rfl ?_
    obtain ⟨q2, hq2, h⟩ := g_bind h
    refine r_callSi [.int x1, .int x2] [] q2 (ok_X11_isWedding hq2) q_1076 q_1077 q_1078 q_141 hd_X11_isWedding ⟨Nat.le_of_ble_eq_true rfl, Nat.le_of_ble_eq_true rfl⟩ rfl rfl (Nat.le_of_ble_eq_true rfl) dX11_play_2 ?_
    refine r_if_eq (t := 18) dX11_play_5 (by decide) (fun c => ?_) (fun c => ?_)
    · rw [if_pos c] at h
      refine r_sub [0] rfl ?_
      exact w_X11_play_18 _ _ h
    · rw [if_neg c] at h
      refine r_iload_n 3 dX11_play_8 rfl rfl ?_
      refine r_if_lt (t := 18) dX11_play_9 (by decide) (fun c => ?_) (fun c => ?_)
      · rw [if_pos c] at h
        refine r_sub [0] rfl ?_
        exact w_X11_play_18 _ _ h
      · rw [if_neg c] at h
        refine r_iload_n 3 dX11_play_12 rfl rfl ?_
        refine r_bipush (v := 8) dX11_play_13 rfl ?_
        refine r_icmp_le (t := 24) dX11_play_15 (by decide) (fun c => ?_) (fun c => ?_)
        · rw [if_pos c] at h
          refine r_aload_n 0 dX11_play_24 rfl rfl ?_
          refine gf_48_7 q_597 dX11_play_25 ?_
          refine r_iload_n 1 dX11_play_28 rfl rfl ?_
          refine r_iload_n 2 dX11_play_29 rfl rfl ?_
          refine r_iload_n 3 dX11_play_30 rfl rfl ?_
          obtain ⟨q31, hq31, h⟩ := g_bind h
          refine r_callVNv [.int x1, .int x2, .int x3] [] q31 (ok_X2_find hq31) q_1079 q_1081 q_58 q_1082 q_149 hd_X2_find (ce_32 D dy _) kc2.1 rfl ⟨Nat.le_of_ble_eq_true rfl, Nat.le_of_ble_eq_true rfl⟩ rfl rfl (Nat.le_of_ble_eq_true rfl) dX11_play_31 ?_
          refine r_aload_n 0 dX11_play_34 rfl rfl ?_
          refine gf_48_7 q_597 dX11_play_35 ?_
          obtain ⟨q38, hq38, h⟩ := g_bind h
          refine r_callVNv [] [] q38 (ok_X2_payAll hq38) q_1125 q_1127 q_65 q_1128 q_149 hd_X2_payAll (ce_32 D dy _) kc2.1 rfl ⟨Nat.le_of_ble_eq_true rfl, Nat.le_of_ble_eq_true rfl⟩ rfl rfl (Nat.le_of_ble_eq_true rfl) dX11_play_38 ?_
          refine r_aload_n 0 dX11_play_41 rfl rfl ?_
          refine r_aload_n 0 dX11_play_42 rfl rfl ?_
          refine gf_48_7 q_597 dX11_play_43 ?_
          refine gfN_32_11 q_478 dX11_play_46 ?_
          obtain ⟨q49, hq49, h⟩ := g_bind h
          refine r_callVi [.int (gI q38 22)] [] q49 (ok_X11_done hq49) q_648 q_650 q_2 q_651 q_141 hd_X11_done (ce_48 D dy _) kc11.1 rfl ⟨Nat.le_of_ble_eq_true rfl, Nat.le_of_ble_eq_true rfl⟩ rfl rfl (Nat.le_of_ble_eq_true rfl) dX11_play_49 ?_
          cases h
          exact r_iret rfl dX11_play_52 ⟨rfl, rfl, rfl⟩
        · rw [if_neg c] at h
          refine r_sub [0] rfl ?_
          exact w_X11_play_18 _ _ h
theorem ok_X11_play {D : k_D} {dy : Nat → Nat} {x1 : Int32} {x2 : Int32} {x3 : Int32} {S : St} {out : Int32 × St} (h : f_X11_play x1 x2 x3 S = some out) : Sp yX11_play cX11_play 4 (some .int) (k_rm 6) D dy S [.ref (D.2.2 48), .int x1, .int x2, .int x3] (k_Pi dy out) := Sp.of (by decide +kernel) (Nat.le_of_ble_eq_true rfl) (w_X11_play_0 _ _ _ S out h)
noncomputable def f_X11_bands_16 (S : St) : Option (Int32 × St) := some ((-1 : Int32), S)
noncomputable def f_X11_bands_47 (s0 : Int32) (S : St) : Option (Int32 × St) := some (s0, S)
noncomputable def f_X11_bands (x1 : Int32) (x2 : Int32) (S : St) : Option (Int32 × St) := (f_X11_isDancer x1 S).bind fun q1 => if q1.1 = 0 then f_X11_bands_16 q1.2 else if x2 < 0 then f_X11_bands_16 q1.2 else if x2 ≤ (1 : Int32) then (f_X0_find x1 q1.2).bind fun q23 => if x2 = 0 then f_X11_bands_47 (gI q23 25) q23 else f_X11_bands_47 (gI q23 26) q23 else f_X11_bands_16 q1.2
set_option maxRecDepth 100000 in
set_option maxHeartbeats 4000000 in
theorem w_X11_bands_16 {D : k_D} {dy : Nat → Nat} (S : St) (out : Int32 × St) (h : f_X11_bands_16 S = some out) : Rn yX11_bands cX11_bands 3 (some .int) (k_rm 6) 0 0 D dy S (k_Pi dy out) 16 [] [] := by
    unfold f_X11_bands_16 at h
    refine r_iconst (v := -1) dX11_bands_16 rfl ?_
    cases h
    exact r_iret rfl dX11_bands_17 ⟨rfl, rfl, rfl⟩
set_option maxRecDepth 100000 in
set_option maxHeartbeats 4000000 in
theorem w_X11_bands_47 {D : k_D} {dy : Nat → Nat} (s0 : Int32) (S : St) (out : Int32 × St) (h : f_X11_bands_47 s0 S = some out) : Rn yX11_bands cX11_bands 3 (some .int) (k_rm 6) 0 0 D dy S (k_Pi dy out) 47 [] [.int s0] := by
    unfold f_X11_bands_47 at h
    cases h
    exact r_iret rfl dX11_bands_47 ⟨rfl, rfl, rfl⟩
set_option maxRecDepth 100000 in
set_option maxHeartbeats 4000000 in
theorem w_X11_bands_0 {D : k_D} {dy : Nat → Nat} (x1 : Int32) (x2 : Int32) (S : St) (out : Int32 × St) (h : f_X11_bands x1 x2 S = some out) : Rn yX11_bands cX11_bands 3 (some .int) (k_rm 6) 0 0 D dy S (k_Pi dy out) 0 [(0, .ref (D.2.2 48)), (1, .int x1), (2, .int x2)] [] := by
    unfold f_X11_bands at h
    refine r_iload_n 1 dX11_bands_0 rfl rfl ?_
    obtain ⟨q1, hq1, h⟩ := g_bind h
    refine r_callSi [.int x1] [] q1 (ok_X11_isDancer hq1) q_667 q_668 q_669 q_141 hd_X11_isDancer ⟨Nat.le_of_ble_eq_true rfl, Nat.le_of_ble_eq_true rfl⟩ rfl rfl (Nat.le_of_ble_eq_true rfl) dX11_bands_1 ?_
    refine r_if_eq (t := 16) dX11_bands_4 (by decide) (fun c => ?_) (fun c => ?_)
    · rw [if_pos c] at h
      refine r_sub [] rfl ?_
      exact w_X11_bands_16 _ _ h
    · rw [if_neg c] at h
      refine r_iload_n 2 dX11_bands_7 rfl rfl ?_
      refine r_if_lt (t := 16) dX11_bands_8 (by decide) (fun c => ?_) (fun c => ?_)
      · rw [if_pos c] at h
        refine r_sub [] rfl ?_
        exact w_X11_bands_16 _ _ h
      · rw [if_neg c] at h
        refine r_iload_n 2 dX11_bands_11 rfl rfl ?_
        refine r_iconst (v := 1) dX11_bands_12 rfl ?_
        refine r_icmp_le (t := 18) dX11_bands_13 (by decide) (fun c => ?_) (fun c => ?_)
        · rw [if_pos c] at h
          refine r_aload_n 0 dX11_bands_18 rfl rfl ?_
          refine gf_48_8 q_598 dX11_bands_19 ?_
          refine r_iload_n 1 dX11_bands_22 rfl rfl ?_
          obtain ⟨q23, hq23, h⟩ := g_bind h
          refine r_callVNv [.int x1] [] q23 (ok_X0_find hq23) q_1134 q_1136 q_66 q_1137 q_150 hd_X0_find (ce_39 D dy _) kc0.1 rfl ⟨Nat.le_of_ble_eq_true rfl, Nat.le_of_ble_eq_true rfl⟩ rfl rfl (Nat.le_of_ble_eq_true rfl) dX11_bands_23 ?_
          refine r_iload_n 2 dX11_bands_26 rfl rfl ?_
          refine r_if_ne (t := 40) dX11_bands_27 (by decide) (fun c => ?_) (fun c => ?_)
          · rw [if_neg c] at h
            refine r_aload_n 0 dX11_bands_40 rfl rfl ?_
            refine gf_48_8 q_598 dX11_bands_41 ?_
            refine gfN_39_5 q_526 dX11_bands_44 ?_
            refine r_sub [] rfl ?_
            exact w_X11_bands_47 _ _ _ h
          · rw [if_pos c] at h
            refine r_aload_n 0 dX11_bands_30 rfl rfl ?_
            refine gf_48_8 q_598 dX11_bands_31 ?_
            refine gfN_39_4 q_524 dX11_bands_34 ?_
            refine r_goto (t := 47) dX11_bands_37 (by decide) ?_
            refine r_sub [] rfl ?_
            exact w_X11_bands_47 _ _ _ h
        · rw [if_neg c] at h
          refine r_sub [] rfl ?_
          exact w_X11_bands_16 _ _ h
theorem ok_X11_bands {D : k_D} {dy : Nat → Nat} {x1 : Int32} {x2 : Int32} {S : St} {out : Int32 × St} (h : f_X11_bands x1 x2 S = some out) : Sp yX11_bands cX11_bands 3 (some .int) (k_rm 6) D dy S [.ref (D.2.2 48), .int x1, .int x2] (k_Pi dy out) := Sp.of (by decide +kernel) (Nat.le_of_ble_eq_true rfl) (w_X11_bands_0 _ _ S out h)
noncomputable def f_X11_wedding_46 (s0 : Int32) (S : St) : Option (Int32 × St) := some (s0, S)
noncomputable def f_X11_wedding (x1 : Int32) (x2 : Int32) (S : St) : Option (Int32 × St) := (f_X11_isWedding x1 x2 S).bind fun q2 => if q2.1 = 0 then (f_X11_refuse (-1 : Int32) q2.2).bind fun q10 => some (q10.1, q10.2) else (f_X10_addWedding x1 x2 q2.2).bind fun q20 => if q20.1 = 0 then (f_X11_refuse (-5 : Int32) q20.2).bind fun q43 => f_X11_wedding_46 q43.1 q43.2 else (f_X11_done (gI q20.2 5) q20.2).bind fun q34 => f_X11_wedding_46 q34.1 q34.2
set_option maxRecDepth 100000 in
set_option maxHeartbeats 4000000 in
theorem w_X11_wedding_46 {D : k_D} {dy : Nat → Nat} (s0 : Int32) (S : St) (out : Int32 × St) (h : f_X11_wedding_46 s0 S = some out) : Rn yX11_wedding cX11_wedding 3 (some .int) (k_rm 2) 0 0 D dy S (k_Pi dy out) 46 [] [.int s0] := by
    unfold f_X11_wedding_46 at h
    cases h
    exact r_iret rfl dX11_wedding_46 ⟨rfl, rfl, rfl⟩
set_option maxRecDepth 100000 in
set_option maxHeartbeats 4000000 in
theorem w_X11_wedding_0 {D : k_D} {dy : Nat → Nat} (x1 : Int32) (x2 : Int32) (S : St) (out : Int32 × St) (h : f_X11_wedding x1 x2 S = some out) : Rn yX11_wedding cX11_wedding 3 (some .int) (k_rm 2) 0 0 D dy S (k_Pi dy out) 0 [(0, .ref (D.2.2 48)), (1, .int x1), (2, .int x2)] [] := by
    unfold f_X11_wedding at h
    refine r_iload_n 1 dX11_wedding_0 rfl rfl ?_
    refine r_iload_n 2 dX11_wedding_1 rfl rfl ?_
    obtain ⟨q2, hq2, h⟩ := g_bind h
    refine r_callSi [.int x1, .int x2] [] q2 (ok_X11_isWedding hq2) q_1076 q_1077 q_1078 q_141 hd_X11_isWedding ⟨Nat.le_of_ble_eq_true rfl, Nat.le_of_ble_eq_true rfl⟩ rfl rfl (Nat.le_of_ble_eq_true rfl) dX11_wedding_2 ?_
    refine r_if_ne (t := 14) dX11_wedding_5 (by decide) (fun c => ?_) (fun c => ?_)
    · rw [if_neg c] at h
      refine r_aload_n 0 dX11_wedding_14 rfl rfl ?_
      refine gf_48_0 q_590 dX11_wedding_15 ?_
      refine r_iload_n 1 dX11_wedding_18 rfl rfl ?_
      refine r_iload_n 2 dX11_wedding_19 rfl rfl ?_
      obtain ⟨q20, hq20, h⟩ := g_bind h
      refine r_callVNi [.int x1, .int x2] [] q20 (ok_X10_addWedding hq20) q_1153 q_1155 q_69 q_1156 q_142 hd_X10_addWedding (ce_0 D dy _) kc10.1 rfl ⟨Nat.le_of_ble_eq_true rfl, Nat.le_of_ble_eq_true rfl⟩ rfl rfl (Nat.le_of_ble_eq_true rfl) dX11_wedding_20 ?_
      refine r_if_eq (t := 40) dX11_wedding_23 (by decide) (fun c => ?_) (fun c => ?_)
      · rw [if_pos c] at h
        refine r_aload_n 0 dX11_wedding_40 rfl rfl ?_
        refine r_bipush (v := -5) dX11_wedding_41 rfl ?_
        obtain ⟨q43, hq43, h⟩ := g_bind h
        refine r_callVi [.int (-5 : Int32)] [] q43 (ok_X11_refuse hq43) q_640 q_642 q_0 q_643 q_141 hd_X11_refuse (ce_48 D dy _) kc11.1 rfl ⟨Nat.le_of_ble_eq_true rfl, Nat.le_of_ble_eq_true rfl⟩ rfl rfl (Nat.le_of_ble_eq_true rfl) dX11_wedding_43 ?_
        refine r_sub [] rfl ?_
        exact w_X11_wedding_46 _ _ _ h
      · rw [if_neg c] at h
        refine r_aload_n 0 dX11_wedding_26 rfl rfl ?_
        refine r_aload_n 0 dX11_wedding_27 rfl rfl ?_
        refine gf_48_0 q_590 dX11_wedding_28 ?_
        refine gfN_0_9 q_263 dX11_wedding_31 ?_
        obtain ⟨q34, hq34, h⟩ := g_bind h
        refine r_callVi [.int (gI q20.2 5)] [] q34 (ok_X11_done hq34) q_648 q_650 q_2 q_651 q_141 hd_X11_done (ce_48 D dy _) kc11.1 rfl ⟨Nat.le_of_ble_eq_true rfl, Nat.le_of_ble_eq_true rfl⟩ rfl rfl (Nat.le_of_ble_eq_true rfl) dX11_wedding_34 ?_
        refine r_goto (t := 46) dX11_wedding_37 (by decide) ?_
        refine r_sub [] rfl ?_
        exact w_X11_wedding_46 _ _ _ h
    · rw [if_pos c] at h
      refine r_aload_n 0 dX11_wedding_8 rfl rfl ?_
      refine r_iconst (v := -1) dX11_wedding_9 rfl ?_
      obtain ⟨q10, hq10, h⟩ := g_bind h
      refine r_callVi [.int (-1 : Int32)] [] q10 (ok_X11_refuse hq10) q_640 q_642 q_0 q_643 q_141 hd_X11_refuse (ce_48 D dy _) kc11.1 rfl ⟨Nat.le_of_ble_eq_true rfl, Nat.le_of_ble_eq_true rfl⟩ rfl rfl (Nat.le_of_ble_eq_true rfl) dX11_wedding_10 ?_
      cases h
      exact r_iret rfl dX11_wedding_13 ⟨rfl, rfl, rfl⟩
theorem ok_X11_wedding {D : k_D} {dy : Nat → Nat} {x1 : Int32} {x2 : Int32} {S : St} {out : Int32 × St} (h : f_X11_wedding x1 x2 S = some out) : Sp yX11_wedding cX11_wedding 3 (some .int) (k_rm 2) D dy S [.ref (D.2.2 48), .int x1, .int x2] (k_Pi dy out) := Sp.of (by decide +kernel) (Nat.le_of_ble_eq_true rfl) (w_X11_wedding_0 _ _ S out h)
noncomputable def f_X11_divorce (S : St) : Option (Int32 × St) := k_let (sI S 5 (0 : Int32)) fun S1 => some (gI S 5, S1)
set_option maxRecDepth 100000 in
set_option maxHeartbeats 4000000 in
theorem w_X11_divorce_0 {D : k_D} {dy : Nat → Nat} (S : St) (out : Int32 × St) (h : f_X11_divorce S = some out) : Rn yX11_divorce cX11_divorce 2 (some .int) (k_rm 0) 0 0 D dy S (k_Pi dy out) 0 [(0, .ref (D.2.2 48))] [] := by
    unfold f_X11_divorce at h
    refine r_aload_n 0 dX11_divorce_0 rfl rfl ?_
    refine gf_48_0 q_590 dX11_divorce_1 ?_
    refine gfN_0_9 q_263 dX11_divorce_4 ?_
    refine r_istore_n dX11_divorce_7 rfl (by decide) rfl ?_
    refine r_aload_n 1 dX11_divorce_8 rfl rfl ?_
    refine gf_48_0 q_590 dX11_divorce_9 ?_
    refine r_iconst (v := 0) dX11_divorce_12 rfl ?_
    refine pfN_0_9 q_263 dX11_divorce_13 ?_
    generalize sI S 5 (0 : Int32) = S1 at h ⊢
    replace h := g_let h
    refine r_iload_n 0 dX11_divorce_16 rfl rfl ?_
    cases h
    exact r_iret rfl dX11_divorce_17 ⟨rfl, rfl, rfl⟩
theorem ok_X11_divorce {D : k_D} {dy : Nat → Nat} {S : St} {out : Int32 × St} (h : f_X11_divorce S = some out) : Sp yX11_divorce cX11_divorce 2 (some .int) (k_rm 0) D dy S [.ref (D.2.2 48)] (k_Pi dy out) := Sp.of (by decide +kernel) (Nat.le_of_ble_eq_true rfl) (w_X11_divorce_0 S out h)
noncomputable def f_X11_free_19 (s0 : Int32) (S : St) : Option (Int32 × St) := some (s0, S)
noncomputable def f_X11_free (x1 : Int32) (S : St) : Option (Int32 × St) := (f_X11_isDancer x1 S).bind fun q1 => if q1.1 = 0 then f_X11_free_19 (-1 : Int32) q1.2 else (f_X2_freeBehind x1 q1.2).bind fun q12 => f_X11_free_19 q12.1 q12.2
set_option maxRecDepth 100000 in
set_option maxHeartbeats 4000000 in
theorem w_X11_free_19 {D : k_D} {dy : Nat → Nat} (s0 : Int32) (S : St) (out : Int32 × St) (h : f_X11_free_19 s0 S = some out) : Rn yX11_free cX11_free 2 (some .int) (k_rm 6) 0 0 D dy S (k_Pi dy out) 19 [] [.int s0] := by
    unfold f_X11_free_19 at h
    cases h
    exact r_iret rfl dX11_free_19 ⟨rfl, rfl, rfl⟩
set_option maxRecDepth 100000 in
set_option maxHeartbeats 4000000 in
theorem w_X11_free_0 {D : k_D} {dy : Nat → Nat} (x1 : Int32) (S : St) (out : Int32 × St) (h : f_X11_free x1 S = some out) : Rn yX11_free cX11_free 2 (some .int) (k_rm 6) 0 0 D dy S (k_Pi dy out) 0 [(0, .ref (D.2.2 48)), (1, .int x1)] [] := by
    unfold f_X11_free at h
    refine r_iload_n 1 dX11_free_0 rfl rfl ?_
    obtain ⟨q1, hq1, h⟩ := g_bind h
    refine r_callSi [.int x1] [] q1 (ok_X11_isDancer hq1) q_667 q_668 q_669 q_141 hd_X11_isDancer ⟨Nat.le_of_ble_eq_true rfl, Nat.le_of_ble_eq_true rfl⟩ rfl rfl (Nat.le_of_ble_eq_true rfl) dX11_free_1 ?_
    refine r_if_eq (t := 18) dX11_free_4 (by decide) (fun c => ?_) (fun c => ?_)
    · rw [if_pos c] at h
      refine r_iconst (v := -1) dX11_free_18 rfl ?_
      refine r_sub [] rfl ?_
      exact w_X11_free_19 _ _ _ h
    · rw [if_neg c] at h
      refine r_aload_n 0 dX11_free_7 rfl rfl ?_
      refine gf_48_7 q_597 dX11_free_8 ?_
      refine r_iload_n 1 dX11_free_11 rfl rfl ?_
      obtain ⟨q12, hq12, h⟩ := g_bind h
      refine r_callVNi [.int x1] [] q12 (ok_X2_freeBehind hq12) q_1165 q_1167 q_70 q_1168 q_149 hd_X2_freeBehind (ce_32 D dy _) kc2.1 rfl ⟨Nat.le_of_ble_eq_true rfl, Nat.le_of_ble_eq_true rfl⟩ rfl rfl (Nat.le_of_ble_eq_true rfl) dX11_free_12 ?_
      refine r_goto (t := 19) dX11_free_15 (by decide) ?_
      refine r_sub [] rfl ?_
      exact w_X11_free_19 _ _ _ h
theorem ok_X11_free {D : k_D} {dy : Nat → Nat} {x1 : Int32} {S : St} {out : Int32 × St} (h : f_X11_free x1 S = some out) : Sp yX11_free cX11_free 2 (some .int) (k_rm 6) D dy S [.ref (D.2.2 48), .int x1] (k_Pi dy out) := Sp.of (by decide +kernel) (Nat.le_of_ble_eq_true rfl) (w_X11_free_0 _ S out h)
noncomputable def f_X11_dance_60 (s0 : Int32) (S : St) : Option (Int32 × St) := some (s0, S)
noncomputable def f_X11_dance (x1 : Int32) (x2 : Int32) (S : St) : Option (Int32 × St) := (f_X11_isDancer x1 S).bind fun q1 => if q1.1 = 0 then (f_X11_refuse (-1 : Int32) q1.2).bind fun q9 => some (q9.1, q9.2) else (f_X10_hasTune x2 q1.2).bind fun q18 => if q18.1 = 0 then (f_X11_refuse (-2 : Int32) q18.2).bind fun q27 => some (q27.1, q27.2) else (f_X10_addDance x1 x2 q18.2).bind fun q37 => if q37.1 = (-1 : Int32) then (f_X11_refuse (-5 : Int32) q37.2).bind fun q49 => f_X11_dance_60 q49.1 q49.2 else (f_X11_done q37.1 q37.2).bind fun q57 => f_X11_dance_60 q57.1 q57.2
set_option maxRecDepth 100000 in
set_option maxHeartbeats 4000000 in
theorem w_X11_dance_60 {D : k_D} {dy : Nat → Nat} (s0 : Int32) (S : St) (out : Int32 × St) (h : f_X11_dance_60 s0 S = some out) : Rn yX11_dance cX11_dance 4 (some .int) (k_rm 1) 0 0 D dy S (k_Pi dy out) 60 [] [.int s0] := by
    unfold f_X11_dance_60 at h
    cases h
    exact r_iret rfl dX11_dance_60 ⟨rfl, rfl, rfl⟩
set_option maxRecDepth 100000 in
set_option maxHeartbeats 4000000 in
theorem w_X11_dance_0 {D : k_D} {dy : Nat → Nat} (x1 : Int32) (x2 : Int32) (S : St) (out : Int32 × St) (h : f_X11_dance x1 x2 S = some out) : Rn yX11_dance cX11_dance 4 (some .int) (k_rm 1) 0 0 D dy S (k_Pi dy out) 0 [(0, .ref (D.2.2 48)), (1, .int x1), (2, .int x2)] [] := by
    unfold f_X11_dance at h
    refine r_iload_n 1 dX11_dance_0 rfl rfl ?_
    obtain ⟨q1, hq1, h⟩ := g_bind h
    refine r_callSi [.int x1] [] q1 (ok_X11_isDancer hq1) q_667 q_668 q_669 q_141 hd_X11_isDancer ⟨Nat.le_of_ble_eq_true rfl, Nat.le_of_ble_eq_true rfl⟩ rfl rfl (Nat.le_of_ble_eq_true rfl) dX11_dance_1 ?_
    refine r_if_ne (t := 13) dX11_dance_4 (by decide) (fun c => ?_) (fun c => ?_)
    · rw [if_neg c] at h
      refine r_aload_n 0 dX11_dance_13 rfl rfl ?_
      refine gf_48_0 q_590 dX11_dance_14 ?_
      refine r_iload_n 2 dX11_dance_17 rfl rfl ?_
      obtain ⟨q18, hq18, h⟩ := g_bind h
      refine r_callVNi [.int x2] [] q18 (ok_X10_hasTune hq18) q_656 q_658 q_3 q_659 q_142 hd_X10_hasTune (ce_0 D dy _) kc10.1 rfl ⟨Nat.le_of_ble_eq_true rfl, Nat.le_of_ble_eq_true rfl⟩ rfl rfl (Nat.le_of_ble_eq_true rfl) dX11_dance_18 ?_
      refine r_if_ne (t := 31) dX11_dance_21 (by decide) (fun c => ?_) (fun c => ?_)
      · rw [if_neg c] at h
        refine r_aload_n 0 dX11_dance_31 rfl rfl ?_
        refine gf_48_0 q_590 dX11_dance_32 ?_
        refine r_iload_n 1 dX11_dance_35 rfl rfl ?_
        refine r_iload_n 2 dX11_dance_36 rfl rfl ?_
        obtain ⟨q37, hq37, h⟩ := g_bind h
        refine r_callVNi [.int x1, .int x2] [] q37 (ok_X10_addDance hq37) q_1177 q_1179 q_72 q_1180 q_142 hd_X10_addDance (ce_0 D dy _) kc10.1 rfl ⟨Nat.le_of_ble_eq_true rfl, Nat.le_of_ble_eq_true rfl⟩ rfl rfl (Nat.le_of_ble_eq_true rfl) dX11_dance_37 ?_
        refine r_istore_n dX11_dance_40 rfl (by decide) rfl ?_
        refine r_iload_n 0 dX11_dance_41 rfl rfl ?_
        refine r_iconst (v := -1) dX11_dance_42 rfl ?_
        refine r_icmp_ne (t := 55) dX11_dance_43 (by decide) (fun c => ?_) (fun c => ?_)
        · rw [if_neg c] at h
          refine r_aload_n 1 dX11_dance_55 rfl rfl ?_
          refine r_iload_n 0 dX11_dance_56 rfl rfl ?_
          obtain ⟨q57, hq57, h⟩ := g_bind h
          refine r_callVi [.int q37.1] [] q57 (ok_X11_done hq57) q_648 q_650 q_2 q_651 q_141 hd_X11_done (ce_48 D dy _) kc11.1 rfl ⟨Nat.le_of_ble_eq_true rfl, Nat.le_of_ble_eq_true rfl⟩ rfl rfl (Nat.le_of_ble_eq_true rfl) dX11_dance_57 ?_
          refine r_sub [] rfl ?_
          exact w_X11_dance_60 _ _ _ h
        · rw [if_pos c] at h
          refine r_aload_n 1 dX11_dance_46 rfl rfl ?_
          refine r_bipush (v := -5) dX11_dance_47 rfl ?_
          obtain ⟨q49, hq49, h⟩ := g_bind h
          refine r_callVi [.int (-5 : Int32)] [] q49 (ok_X11_refuse hq49) q_640 q_642 q_0 q_643 q_141 hd_X11_refuse (ce_48 D dy _) kc11.1 rfl ⟨Nat.le_of_ble_eq_true rfl, Nat.le_of_ble_eq_true rfl⟩ rfl rfl (Nat.le_of_ble_eq_true rfl) dX11_dance_49 ?_
          refine r_goto (t := 60) dX11_dance_52 (by decide) ?_
          refine r_sub [] rfl ?_
          exact w_X11_dance_60 _ _ _ h
      · rw [if_pos c] at h
        refine r_aload_n 0 dX11_dance_24 rfl rfl ?_
        refine r_bipush (v := -2) dX11_dance_25 rfl ?_
        obtain ⟨q27, hq27, h⟩ := g_bind h
        refine r_callVi [.int (-2 : Int32)] [] q27 (ok_X11_refuse hq27) q_640 q_642 q_0 q_643 q_141 hd_X11_refuse (ce_48 D dy _) kc11.1 rfl ⟨Nat.le_of_ble_eq_true rfl, Nat.le_of_ble_eq_true rfl⟩ rfl rfl (Nat.le_of_ble_eq_true rfl) dX11_dance_27 ?_
        cases h
        exact r_iret rfl dX11_dance_30 ⟨rfl, rfl, rfl⟩
    · rw [if_pos c] at h
      refine r_aload_n 0 dX11_dance_7 rfl rfl ?_
      refine r_iconst (v := -1) dX11_dance_8 rfl ?_
      obtain ⟨q9, hq9, h⟩ := g_bind h
      refine r_callVi [.int (-1 : Int32)] [] q9 (ok_X11_refuse hq9) q_640 q_642 q_0 q_643 q_141 hd_X11_refuse (ce_48 D dy _) kc11.1 rfl ⟨Nat.le_of_ble_eq_true rfl, Nat.le_of_ble_eq_true rfl⟩ rfl rfl (Nat.le_of_ble_eq_true rfl) dX11_dance_9 ?_
      cases h
      exact r_iret rfl dX11_dance_12 ⟨rfl, rfl, rfl⟩
theorem ok_X11_dance {D : k_D} {dy : Nat → Nat} {x1 : Int32} {x2 : Int32} {S : St} {out : Int32 × St} (h : f_X11_dance x1 x2 S = some out) : Sp yX11_dance cX11_dance 4 (some .int) (k_rm 1) D dy S [.ref (D.2.2 48), .int x1, .int x2] (k_Pi dy out) := Sp.of (by decide +kernel) (Nat.le_of_ble_eq_true rfl) (w_X11_dance_0 _ _ S out h)
noncomputable def f_X11_ahead_33 (S : St) : Option (Int32 × St) := (f_X11_refuse (-2 : Int32) S).bind fun q36 => some (q36.1, q36.2)
noncomputable def f_X11_ahead_72 (s0 : Int32) (S : St) : Option (Int32 × St) := some (s0, S)
noncomputable def f_X11_ahead (x1 : Int32) (x2 : Int32) (S : St) : Option (Int32 × St) := if x1 = x2 then (f_X11_refuse (-1 : Int32) S).bind fun q7 => some (q7.1, q7.2) else (f_X10_hasDance x1 S).bind fun q16 => if q16.1 = 0 then f_X11_ahead_33 q16.2 else (f_X10_hasDance x2 q16.2).bind fun q27 => if q27.1 = 0 then f_X11_ahead_33 q27.2 else (f_X10_addAhead x1 x2 q27.2).bind fun q46 => if q46.1 = 0 then (f_X11_refuse (-5 : Int32) q46.2).bind fun q69 => f_X11_ahead_72 q69.1 q69.2 else (f_X11_done (gI q46.2 7) q46.2).bind fun q60 => f_X11_ahead_72 q60.1 q60.2
set_option maxRecDepth 100000 in
set_option maxHeartbeats 4000000 in
theorem w_X11_ahead_33 {D : k_D} {dy : Nat → Nat} (S : St) (out : Int32 × St) (h : f_X11_ahead_33 S = some out) : Rn yX11_ahead cX11_ahead 3 (some .int) (k_rm 1) 0 0 D dy S (k_Pi dy out) 33 [(0, .ref (D.2.2 48))] [] := by
    unfold f_X11_ahead_33 at h
    refine r_aload_n 0 dX11_ahead_33 rfl rfl ?_
    refine r_bipush (v := -2) dX11_ahead_34 rfl ?_
    obtain ⟨q36, hq36, h⟩ := g_bind h
    refine r_callVi [.int (-2 : Int32)] [] q36 (ok_X11_refuse hq36) q_640 q_642 q_0 q_643 q_141 hd_X11_refuse (ce_48 D dy _) kc11.1 rfl ⟨Nat.le_of_ble_eq_true rfl, Nat.le_of_ble_eq_true rfl⟩ rfl rfl (Nat.le_of_ble_eq_true rfl) dX11_ahead_36 ?_
    cases h
    exact r_iret rfl dX11_ahead_39 ⟨rfl, rfl, rfl⟩
set_option maxRecDepth 100000 in
set_option maxHeartbeats 4000000 in
theorem w_X11_ahead_72 {D : k_D} {dy : Nat → Nat} (s0 : Int32) (S : St) (out : Int32 × St) (h : f_X11_ahead_72 s0 S = some out) : Rn yX11_ahead cX11_ahead 3 (some .int) (k_rm 1) 0 0 D dy S (k_Pi dy out) 72 [] [.int s0] := by
    unfold f_X11_ahead_72 at h
    cases h
    exact r_iret rfl dX11_ahead_72 ⟨rfl, rfl, rfl⟩
set_option maxRecDepth 100000 in
set_option maxHeartbeats 4000000 in
theorem w_X11_ahead_0 {D : k_D} {dy : Nat → Nat} (x1 : Int32) (x2 : Int32) (S : St) (out : Int32 × St) (h : f_X11_ahead x1 x2 S = some out) : Rn yX11_ahead cX11_ahead 3 (some .int) (k_rm 1) 0 0 D dy S (k_Pi dy out) 0 [(0, .ref (D.2.2 48)), (1, .int x1), (2, .int x2)] [] := by
    unfold f_X11_ahead at h
    refine r_iload_n 1 dX11_ahead_0 rfl rfl ?_
    refine r_iload_n 2 dX11_ahead_1 rfl rfl ?_
    refine r_icmp_ne (t := 11) dX11_ahead_2 (by decide) (fun c => ?_) (fun c => ?_)
    · rw [if_neg c] at h
      refine r_aload_n 0 dX11_ahead_11 rfl rfl ?_
      refine gf_48_0 q_590 dX11_ahead_12 ?_
      refine r_iload_n 1 dX11_ahead_15 rfl rfl ?_
      obtain ⟨q16, hq16, h⟩ := g_bind h
      refine r_callVNi [.int x1] [] q16 (ok_X10_hasDance hq16) q_1185 q_1187 q_73 q_1188 q_142 hd_X10_hasDance (ce_0 D dy _) kc10.1 rfl ⟨Nat.le_of_ble_eq_true rfl, Nat.le_of_ble_eq_true rfl⟩ rfl rfl (Nat.le_of_ble_eq_true rfl) dX11_ahead_16 ?_
      refine r_if_eq (t := 33) dX11_ahead_19 (by decide) (fun c => ?_) (fun c => ?_)
      · rw [if_pos c] at h
        refine r_sub [0] rfl ?_
        exact w_X11_ahead_33 _ _ h
      · rw [if_neg c] at h
        refine r_aload_n 0 dX11_ahead_22 rfl rfl ?_
        refine gf_48_0 q_590 dX11_ahead_23 ?_
        refine r_iload_n 2 dX11_ahead_26 rfl rfl ?_
        obtain ⟨q27, hq27, h⟩ := g_bind h
        refine r_callVNi [.int x2] [] q27 (ok_X10_hasDance hq27) q_1185 q_1187 q_73 q_1188 q_142 hd_X10_hasDance (ce_0 D dy _) kc10.1 rfl ⟨Nat.le_of_ble_eq_true rfl, Nat.le_of_ble_eq_true rfl⟩ rfl rfl (Nat.le_of_ble_eq_true rfl) dX11_ahead_27 ?_
        refine r_if_ne (t := 40) dX11_ahead_30 (by decide) (fun c => ?_) (fun c => ?_)
        · rw [if_neg c] at h
          refine r_aload_n 0 dX11_ahead_40 rfl rfl ?_
          refine gf_48_0 q_590 dX11_ahead_41 ?_
          refine r_iload_n 1 dX11_ahead_44 rfl rfl ?_
          refine r_iload_n 2 dX11_ahead_45 rfl rfl ?_
          obtain ⟨q46, hq46, h⟩ := g_bind h
          refine r_callVNi [.int x1, .int x2] [] q46 (ok_X10_addAhead hq46) q_1189 q_1191 q_74 q_1192 q_142 hd_X10_addAhead (ce_0 D dy _) kc10.1 rfl ⟨Nat.le_of_ble_eq_true rfl, Nat.le_of_ble_eq_true rfl⟩ rfl rfl (Nat.le_of_ble_eq_true rfl) dX11_ahead_46 ?_
          refine r_if_eq (t := 66) dX11_ahead_49 (by decide) (fun c => ?_) (fun c => ?_)
          · rw [if_pos c] at h
            refine r_aload_n 0 dX11_ahead_66 rfl rfl ?_
            refine r_bipush (v := -5) dX11_ahead_67 rfl ?_
            obtain ⟨q69, hq69, h⟩ := g_bind h
            refine r_callVi [.int (-5 : Int32)] [] q69 (ok_X11_refuse hq69) q_640 q_642 q_0 q_643 q_141 hd_X11_refuse (ce_48 D dy _) kc11.1 rfl ⟨Nat.le_of_ble_eq_true rfl, Nat.le_of_ble_eq_true rfl⟩ rfl rfl (Nat.le_of_ble_eq_true rfl) dX11_ahead_69 ?_
            refine r_sub [] rfl ?_
            exact w_X11_ahead_72 _ _ _ h
          · rw [if_neg c] at h
            refine r_aload_n 0 dX11_ahead_52 rfl rfl ?_
            refine r_aload_n 0 dX11_ahead_53 rfl rfl ?_
            refine gf_48_0 q_590 dX11_ahead_54 ?_
            refine gfN_0_15 q_277 dX11_ahead_57 ?_
            obtain ⟨q60, hq60, h⟩ := g_bind h
            refine r_callVi [.int (gI q46.2 7)] [] q60 (ok_X11_done hq60) q_648 q_650 q_2 q_651 q_141 hd_X11_done (ce_48 D dy _) kc11.1 rfl ⟨Nat.le_of_ble_eq_true rfl, Nat.le_of_ble_eq_true rfl⟩ rfl rfl (Nat.le_of_ble_eq_true rfl) dX11_ahead_60 ?_
            refine r_goto (t := 72) dX11_ahead_63 (by decide) ?_
            refine r_sub [] rfl ?_
            exact w_X11_ahead_72 _ _ _ h
        · rw [if_pos c] at h
          refine r_sub [0] rfl ?_
          exact w_X11_ahead_33 _ _ h
    · rw [if_pos c] at h
      refine r_aload_n 0 dX11_ahead_5 rfl rfl ?_
      refine r_iconst (v := -1) dX11_ahead_6 rfl ?_
      obtain ⟨q7, hq7, h⟩ := g_bind h
      refine r_callVi [.int (-1 : Int32)] [] q7 (ok_X11_refuse hq7) q_640 q_642 q_0 q_643 q_141 hd_X11_refuse (ce_48 D dy _) kc11.1 rfl ⟨Nat.le_of_ble_eq_true rfl, Nat.le_of_ble_eq_true rfl⟩ rfl rfl (Nat.le_of_ble_eq_true rfl) dX11_ahead_7 ?_
      cases h
      exact r_iret rfl dX11_ahead_10 ⟨rfl, rfl, rfl⟩
theorem ok_X11_ahead {D : k_D} {dy : Nat → Nat} {x1 : Int32} {x2 : Int32} {S : St} {out : Int32 × St} (h : f_X11_ahead x1 x2 S = some out) : Sp yX11_ahead cX11_ahead 3 (some .int) (k_rm 1) D dy S [.ref (D.2.2 48), .int x1, .int x2] (k_Pi dy out) := Sp.of (by decide +kernel) (Nat.le_of_ble_eq_true rfl) (w_X11_ahead_0 _ _ S out h)
noncomputable def f_X11_forget (S : St) : Option (Int32 × St) := k_let (sI S 6 (0 : Int32)) fun S1 => k_let (sI S1 7 (0 : Int32)) fun S2 => some (gI S 6, S2)
set_option maxRecDepth 100000 in
set_option maxHeartbeats 4000000 in
theorem w_X11_forget_0 {D : k_D} {dy : Nat → Nat} (S : St) (out : Int32 × St) (h : f_X11_forget S = some out) : Rn yX11_forget cX11_forget 2 (some .int) (k_rm 0) 0 0 D dy S (k_Pi dy out) 0 [(0, .ref (D.2.2 48))] [] := by
    unfold f_X11_forget at h
    refine r_aload_n 0 dX11_forget_0 rfl rfl ?_
    refine gf_48_0 q_590 dX11_forget_1 ?_
    refine gfN_0_12 q_270 dX11_forget_4 ?_
    refine r_istore_n dX11_forget_7 rfl (by decide) rfl ?_
    refine r_aload_n 1 dX11_forget_8 rfl rfl ?_
    refine gf_48_0 q_590 dX11_forget_9 ?_
    refine r_iconst (v := 0) dX11_forget_12 rfl ?_
    refine pfN_0_12 q_270 dX11_forget_13 ?_
    generalize sI S 6 (0 : Int32) = S1 at h ⊢
    replace h := g_let h
    refine r_aload_n 1 dX11_forget_16 rfl rfl ?_
    refine gf_48_0 q_590 dX11_forget_17 ?_
    refine r_iconst (v := 0) dX11_forget_20 rfl ?_
    refine pfN_0_15 q_277 dX11_forget_21 ?_
    generalize sI S1 7 (0 : Int32) = S2 at h ⊢
    replace h := g_let h
    refine r_iload_n 0 dX11_forget_24 rfl rfl ?_
    cases h
    exact r_iret rfl dX11_forget_25 ⟨rfl, rfl, rfl⟩
theorem ok_X11_forget {D : k_D} {dy : Nat → Nat} {S : St} {out : Int32 × St} (h : f_X11_forget S = some out) : Sp yX11_forget cX11_forget 2 (some .int) (k_rm 0) D dy S [.ref (D.2.2 48)] (k_Pi dy out) := Sp.of (by decide +kernel) (Nat.le_of_ble_eq_true rfl) (w_X11_forget_0 S out h)
noncomputable def f_X11_orders_23 (S : St) : Option (Int32 × St) := some ((-1 : Int32), S)
noncomputable def f_X11_orders_56 (s0 : Int32) (S : St) : Option (Int32 × St) := some (s0, S)
noncomputable def f_X11_orders_25 (x1 : Int32) (x2 : Int32) (S : St) : Option (Int32 × St) := (f_X5_find x1 S).bind fun q30 => if x2 = (-1 : Int32) then (f_X5_all q30).bind fun q42 => f_X11_orders_56 q42.1 q42.2 else (f_X5_endedBy x2 q30).bind fun q53 => f_X11_orders_56 q53.1 q53.2
noncomputable def f_X11_orders (x1 : Int32) (x2 : Int32) (S : St) : Option (Int32 × St) := (f_X10_hasTune x1 S).bind fun q5 => if q5.1 = 0 then f_X11_orders_23 q5.2 else if x2 = (-1 : Int32) then f_X11_orders_25 x1 x2 q5.2 else (f_X11_isDancer x2 q5.2).bind fun q17 => if q17.1 = 0 then f_X11_orders_23 q17.2 else f_X11_orders_25 x1 x2 q17.2
set_option maxRecDepth 100000 in
set_option maxHeartbeats 4000000 in
theorem w_X11_orders_23 {D : k_D} {dy : Nat → Nat} (S : St) (out : Int32 × St) (h : f_X11_orders_23 S = some out) : Rn yX11_orders cX11_orders 3 (some .int) (k_rm 3) 0 0 D dy S (k_Pi dy out) 23 [] [] := by
    unfold f_X11_orders_23 at h
    refine r_iconst (v := -1) dX11_orders_23 rfl ?_
    cases h
    exact r_iret rfl dX11_orders_24 ⟨rfl, rfl, rfl⟩
set_option maxRecDepth 100000 in
set_option maxHeartbeats 4000000 in
theorem w_X11_orders_56 {D : k_D} {dy : Nat → Nat} (s0 : Int32) (S : St) (out : Int32 × St) (h : f_X11_orders_56 s0 S = some out) : Rn yX11_orders cX11_orders 3 (some .int) (k_rm 3) 0 0 D dy S (k_Pi dy out) 56 [] [.int s0] := by
    unfold f_X11_orders_56 at h
    cases h
    exact r_iret rfl dX11_orders_56 ⟨rfl, rfl, rfl⟩
set_option maxRecDepth 100000 in
set_option maxHeartbeats 4000000 in
theorem w_X11_orders_25 {D : k_D} {dy : Nat → Nat} (x1 : Int32) (x2 : Int32) (S : St) (out : Int32 × St) (h : f_X11_orders_25 x1 x2 S = some out) : Rn yX11_orders cX11_orders 3 (some .int) (k_rm 3) 0 0 D dy S (k_Pi dy out) 25 [(0, .ref (D.2.2 48)), (1, .int x1), (2, .int x2)] [] := by
    unfold f_X11_orders_25 at h
    refine r_aload_n 0 dX11_orders_25 rfl rfl ?_
    refine gf_48_9 q_599 dX11_orders_26 ?_
    refine r_iload_n 1 dX11_orders_29 rfl rfl ?_
    obtain ⟨q30, hq30, h⟩ := g_bind h
    refine r_callVNv [.int x1] [] q30 (ok_X5_find hq30) q_1201 q_1203 q_75 q_1204 q_151 hd_X5_find (ce_41 D dy _) kc5.1 rfl ⟨Nat.le_of_ble_eq_true rfl, Nat.le_of_ble_eq_true rfl⟩ rfl rfl (Nat.le_of_ble_eq_true rfl) dX11_orders_30 ?_
    refine r_iload_n 2 dX11_orders_33 rfl rfl ?_
    refine r_iconst (v := -1) dX11_orders_34 rfl ?_
    refine r_icmp_ne (t := 48) dX11_orders_35 (by decide) (fun c => ?_) (fun c => ?_)
    · rw [if_neg c] at h
      refine r_aload_n 0 dX11_orders_48 rfl rfl ?_
      refine gf_48_9 q_599 dX11_orders_49 ?_
      refine r_iload_n 2 dX11_orders_52 rfl rfl ?_
      obtain ⟨q53, hq53, h⟩ := g_bind h
      refine r_callVNi [.int x2] [] q53 (ok_X5_endedBy hq53) q_1223 q_1225 q_80 q_1226 q_151 hd_X5_endedBy (ce_41 D dy _) kc5.1 rfl ⟨Nat.le_of_ble_eq_true rfl, Nat.le_of_ble_eq_true rfl⟩ rfl rfl (Nat.le_of_ble_eq_true rfl) dX11_orders_53 ?_
      refine r_sub [] rfl ?_
      exact w_X11_orders_56 _ _ _ h
    · rw [if_pos c] at h
      refine r_aload_n 0 dX11_orders_38 rfl rfl ?_
      refine gf_48_9 q_599 dX11_orders_39 ?_
      obtain ⟨q42, hq42, h⟩ := g_bind h
      refine r_callVNi [] [] q42 (ok_X5_all hq42) q_1219 q_1221 q_79 q_1222 q_151 hd_X5_all (ce_41 D dy _) kc5.1 rfl ⟨Nat.le_of_ble_eq_true rfl, Nat.le_of_ble_eq_true rfl⟩ rfl rfl (Nat.le_of_ble_eq_true rfl) dX11_orders_42 ?_
      refine r_goto (t := 56) dX11_orders_45 (by decide) ?_
      refine r_sub [] rfl ?_
      exact w_X11_orders_56 _ _ _ h
set_option maxRecDepth 100000 in
set_option maxHeartbeats 4000000 in
theorem w_X11_orders_0 {D : k_D} {dy : Nat → Nat} (x1 : Int32) (x2 : Int32) (S : St) (out : Int32 × St) (h : f_X11_orders x1 x2 S = some out) : Rn yX11_orders cX11_orders 3 (some .int) (k_rm 3) 0 0 D dy S (k_Pi dy out) 0 [(0, .ref (D.2.2 48)), (1, .int x1), (2, .int x2)] [] := by
    unfold f_X11_orders at h
    refine r_aload_n 0 dX11_orders_0 rfl rfl ?_
    refine gf_48_0 q_590 dX11_orders_1 ?_
    refine r_iload_n 1 dX11_orders_4 rfl rfl ?_
    obtain ⟨q5, hq5, h⟩ := g_bind h
    refine r_callVNi [.int x1] [] q5 (ok_X10_hasTune hq5) q_656 q_658 q_3 q_659 q_142 hd_X10_hasTune (ce_0 D dy _) kc10.1 rfl ⟨Nat.le_of_ble_eq_true rfl, Nat.le_of_ble_eq_true rfl⟩ rfl rfl (Nat.le_of_ble_eq_true rfl) dX11_orders_5 ?_
    refine r_if_eq (t := 23) dX11_orders_8 (by decide) (fun c => ?_) (fun c => ?_)
    · rw [if_pos c] at h
      refine r_sub [] rfl ?_
      exact w_X11_orders_23 _ _ h
    · rw [if_neg c] at h
      refine r_iload_n 2 dX11_orders_11 rfl rfl ?_
      refine r_iconst (v := -1) dX11_orders_12 rfl ?_
      refine r_icmp_eq (t := 25) dX11_orders_13 (by decide) (fun c => ?_) (fun c => ?_)
      · rw [if_pos c] at h
        exact w_X11_orders_25 _ _ _ _ h
      · rw [if_neg c] at h
        refine r_iload_n 2 dX11_orders_16 rfl rfl ?_
        obtain ⟨q17, hq17, h⟩ := g_bind h
        refine r_callSi [.int x2] [] q17 (ok_X11_isDancer hq17) q_667 q_668 q_669 q_141 hd_X11_isDancer ⟨Nat.le_of_ble_eq_true rfl, Nat.le_of_ble_eq_true rfl⟩ rfl rfl (Nat.le_of_ble_eq_true rfl) dX11_orders_17 ?_
        refine r_if_ne (t := 25) dX11_orders_20 (by decide) (fun c => ?_) (fun c => ?_)
        · rw [if_neg c] at h
          exact w_X11_orders_25 _ _ _ _ h
        · rw [if_pos c] at h
          refine r_sub [] rfl ?_
          exact w_X11_orders_23 _ _ h
theorem ok_X11_orders {D : k_D} {dy : Nat → Nat} {x1 : Int32} {x2 : Int32} {S : St} {out : Int32 × St} (h : f_X11_orders x1 x2 S = some out) : Sp yX11_orders cX11_orders 3 (some .int) (k_rm 3) D dy S [.ref (D.2.2 48), .int x1, .int x2] (k_Pi dy out) := Sp.of (by decide +kernel) (Nat.le_of_ble_eq_true rfl) (w_X11_orders_0 _ _ S out h)
noncomputable def f_X11_can_48 (k25 : Int32 → Int32 → St → Option (Int32 × St)) (x2 : Int32) (x3 : Int32) (S : St) : Option (Int32 × St) := k25 x2 (x3 + (1 : Int32)) S
noncomputable def f_X11_can_25 : Nat → Int32 → Int32 → St → Option (Int32 × St)
  | 0, _, _, _ => none
  | n + 1, x2, x3, S => if (8 : Int32) ≤ x3 then some (x2, S) else (f_X5_endedBy x3 S).bind fun q36 => if q36.1 ≤ 0 then f_X11_can_48 (f_X11_can_25 n) x2 x3 q36.2 else f_X11_can_48 (f_X11_can_25 n) (x2 ||| ((1 : Int32) <<< (x3 &&& 31))) x3 q36.2
noncomputable def f_X11_can (x1 : Int32) (S : St) : Option (Int32 × St) := (f_X10_hasTune x1 S).bind fun q5 => if q5.1 = 0 then some ((-1 : Int32), q5.2) else (f_X5_find x1 q5.2).bind fun q18 => f_X11_can_25 FU (0 : Int32) (0 : Int32) q18
set_option maxRecDepth 100000 in
set_option maxHeartbeats 4000000 in
theorem w_X11_can_48 {D : k_D} {dy : Nat → Nat} {k25 : Int32 → Int32 → St → Option (Int32 × St)} (hk25 : ∀ (x2 : Int32) (x3 : Int32) (S : St) (out : Int32 × St), k25 x2 x3 S = some out → Rn yX11_can cX11_can 4 (some .int) (k_rm 3) 0 0 D dy S (k_Pi dy out) 25 [(0, .ref (D.2.2 48)), (2, .int x2), (3, .int x3)] []) (x2 : Int32) (x3 : Int32) (S : St) (out : Int32 × St) (h : f_X11_can_48 k25 x2 x3 S = some out) : Rn yX11_can cX11_can 4 (some .int) (k_rm 3) 0 0 D dy S (k_Pi dy out) 48 [(0, .ref (D.2.2 48)), (2, .int x2), (3, .int x3)] [] := by
    unfold f_X11_can_48 at h
    refine r_iinc (q := 2) (v := x3 + (1 : Int32)) dX11_can_48 rfl rfl (by decide) rfl ?_
    refine r_goto (t := 25) dX11_can_51 (by decide) ?_
    refine r_sub [1, 2, 0] rfl ?_
    exact hk25 _ _ _ _ h
set_option maxRecDepth 100000 in
set_option maxHeartbeats 4000000 in
theorem w_X11_can_25 {D : k_D} {dy : Nat → Nat} : ∀ (n : Nat) (x2 : Int32) (x3 : Int32) (S : St) (out : Int32 × St), f_X11_can_25 n x2 x3 S = some out → Rn yX11_can cX11_can 4 (some .int) (k_rm 3) 0 0 D dy S (k_Pi dy out) 25 [(0, .ref (D.2.2 48)), (2, .int x2), (3, .int x3)] [] := by
  intro n
  induction n with
  | zero => intro x2 x3 S out h; cases h
  | succ n ih =>
    intro x2 x3 S out h
    rw [f_X11_can_25] at h
    refine r_iload_n 2 dX11_can_25 rfl rfl ?_
    refine r_bipush (v := 8) dX11_can_26 rfl ?_
    refine r_icmp_ge (t := 54) dX11_can_28 (by decide) (fun c => ?_) (fun c => ?_)
    · rw [if_pos c] at h
      refine r_iload_n 1 dX11_can_54 rfl rfl ?_
      cases h
      exact r_iret rfl dX11_can_55 ⟨rfl, rfl, rfl⟩
    · rw [if_neg c] at h
      refine r_aload_n 0 dX11_can_31 rfl rfl ?_
      refine gf_48_9 q_599 dX11_can_32 ?_
      refine r_iload_n 2 dX11_can_35 rfl rfl ?_
      obtain ⟨q36, hq36, h⟩ := g_bind h
      refine r_callVNi [.int x3] [] q36 (ok_X5_endedBy hq36) q_1223 q_1225 q_80 q_1226 q_151 hd_X5_endedBy (ce_41 D dy _) kc5.1 rfl ⟨Nat.le_of_ble_eq_true rfl, Nat.le_of_ble_eq_true rfl⟩ rfl rfl (Nat.le_of_ble_eq_true rfl) dX11_can_36 ?_
      refine r_if_le (t := 48) dX11_can_39 (by decide) (fun c => ?_) (fun c => ?_)
      · rw [if_pos c] at h
        exact w_X11_can_48 ih _ _ _ _ h
      · rw [if_neg c] at h
        refine r_iload_n 1 dX11_can_42 rfl rfl ?_
        refine r_iconst (v := 1) dX11_can_43 rfl ?_
        refine r_iload_n 2 dX11_can_44 rfl rfl ?_
        refine r_ishl dX11_can_45 ?_
        refine r_ior dX11_can_46 ?_
        refine r_istore_n dX11_can_47 rfl (by decide) rfl ?_
        refine r_sub [1, 0, 2] rfl ?_
        exact w_X11_can_48 ih _ _ _ _ h
set_option maxRecDepth 100000 in
set_option maxHeartbeats 4000000 in
theorem w_X11_can_0 {D : k_D} {dy : Nat → Nat} (x1 : Int32) (S : St) (out : Int32 × St) (h : f_X11_can x1 S = some out) : Rn yX11_can cX11_can 4 (some .int) (k_rm 3) 0 0 D dy S (k_Pi dy out) 0 [(0, .ref (D.2.2 48)), (1, .int x1)] [] := by
    unfold f_X11_can at h
    refine r_aload_n 0 dX11_can_0 rfl rfl ?_
    refine gf_48_0 q_590 dX11_can_1 ?_
    refine r_iload_n 1 dX11_can_4 rfl rfl ?_
    obtain ⟨q5, hq5, h⟩ := g_bind h
    refine r_callVNi [.int x1] [] q5 (ok_X10_hasTune hq5) q_656 q_658 q_3 q_659 q_142 hd_X10_hasTune (ce_0 D dy _) kc10.1 rfl ⟨Nat.le_of_ble_eq_true rfl, Nat.le_of_ble_eq_true rfl⟩ rfl rfl (Nat.le_of_ble_eq_true rfl) dX11_can_5 ?_
    refine r_if_ne (t := 13) dX11_can_8 (by decide) (fun c => ?_) (fun c => ?_)
    · rw [if_neg c] at h
      refine r_aload_n 0 dX11_can_13 rfl rfl ?_
      refine gf_48_9 q_599 dX11_can_14 ?_
      refine r_iload_n 1 dX11_can_17 rfl rfl ?_
      obtain ⟨q18, hq18, h⟩ := g_bind h
      refine r_callVNv [.int x1] [] q18 (ok_X5_find hq18) q_1201 q_1203 q_75 q_1204 q_151 hd_X5_find (ce_41 D dy _) kc5.1 rfl ⟨Nat.le_of_ble_eq_true rfl, Nat.le_of_ble_eq_true rfl⟩ rfl rfl (Nat.le_of_ble_eq_true rfl) dX11_can_18 ?_
      refine r_iconst (v := 0) dX11_can_21 rfl ?_
      refine r_istore_n dX11_can_22 rfl (by decide) rfl ?_
      refine r_iconst (v := 0) dX11_can_23 rfl ?_
      refine r_istore_n dX11_can_24 rfl (by decide) rfl ?_
      refine r_sub [2, 1, 0] rfl ?_
      exact w_X11_can_25 _ _ _ _ _ h
    · rw [if_pos c] at h
      refine r_iconst (v := -1) dX11_can_11 rfl ?_
      cases h
      exact r_iret rfl dX11_can_12 ⟨rfl, rfl, rfl⟩
theorem ok_X11_can {D : k_D} {dy : Nat → Nat} {x1 : Int32} {S : St} {out : Int32 × St} (h : f_X11_can x1 S = some out) : Sp yX11_can cX11_can 4 (some .int) (k_rm 3) D dy S [.ref (D.2.2 48), .int x1] (k_Pi dy out) := Sp.of (by decide +kernel) (Nat.le_of_ble_eq_true rfl) (w_X11_can_0 _ S out h)
noncomputable def f_X11_owed_26 (S : St) : Option (Int32 × St) := some ((-1 : Int32), S)
noncomputable def f_X11_owed_56 (s0 : Int32) (S : St) : Option (Int32 × St) := some (s0, S)
noncomputable def f_X11_owed (x1 : Int32) (x2 : Int32) (S : St) : Option (Int32 × St) := if (gI S 28) = 0 then f_X11_owed_26 S else (f_X11_isDancer x1 S).bind fun q11 => if q11.1 = 0 then f_X11_owed_26 q11.2 else if x2 < 0 then f_X11_owed_26 q11.2 else if x2 ≤ (1 : Int32) then if x2 = 0 then if k_b x1 8 = true then f_X11_owed_56 (gA q11.2 46 x1.toNatClampNeg) q11.2 else none else if k_b x1 8 = true then (f_J6_bitCount_0f7a4 (gA q11.2 47 x1.toNatClampNeg) q11.2).bind fun q53 => f_X11_owed_56 q53.1 q53.2 else none else f_X11_owed_26 q11.2
set_option maxRecDepth 100000 in
set_option maxHeartbeats 4000000 in
theorem w_X11_owed_26 {D : k_D} {dy : Nat → Nat} (S : St) (out : Int32 × St) (h : f_X11_owed_26 S = some out) : Rn yX11_owed cX11_owed 3 (some .int) (k_rm 1) 0 0 D dy S (k_Pi dy out) 26 [] [] := by
    unfold f_X11_owed_26 at h
    refine r_iconst (v := -1) dX11_owed_26 rfl ?_
    cases h
    exact r_iret rfl dX11_owed_27 ⟨rfl, rfl, rfl⟩
set_option maxRecDepth 100000 in
set_option maxHeartbeats 4000000 in
theorem w_X11_owed_56 {D : k_D} {dy : Nat → Nat} (s0 : Int32) (S : St) (out : Int32 × St) (h : f_X11_owed_56 s0 S = some out) : Rn yX11_owed cX11_owed 3 (some .int) (k_rm 1) 0 0 D dy S (k_Pi dy out) 56 [] [.int s0] := by
    unfold f_X11_owed_56 at h
    cases h
    exact r_iret rfl dX11_owed_56 ⟨rfl, rfl, rfl⟩
set_option maxRecDepth 100000 in
set_option maxHeartbeats 4000000 in
theorem w_X11_owed_0 {D : k_D} {dy : Nat → Nat} (x1 : Int32) (x2 : Int32) (S : St) (out : Int32 × St) (h : f_X11_owed x1 x2 S = some out) : Rn yX11_owed cX11_owed 3 (some .int) (k_rm 1) 0 0 D dy S (k_Pi dy out) 0 [(0, .ref (D.2.2 48)), (1, .int x1), (2, .int x2)] [] := by
    unfold f_X11_owed at h
    refine r_aload_n 0 dX11_owed_0 rfl rfl ?_
    refine gf_48_10 q_600 dX11_owed_1 ?_
    refine gfN_44_5 q_573 dX11_owed_4 ?_
    refine r_if_eq (t := 26) dX11_owed_7 (by decide) (fun c => ?_) (fun c => ?_)
    · rw [if_pos c] at h
      refine r_sub [] rfl ?_
      exact w_X11_owed_26 _ _ h
    · rw [if_neg c] at h
      refine r_iload_n 1 dX11_owed_10 rfl rfl ?_
      obtain ⟨q11, hq11, h⟩ := g_bind h
      refine r_callSi [.int x1] [] q11 (ok_X11_isDancer hq11) q_667 q_668 q_669 q_141 hd_X11_isDancer ⟨Nat.le_of_ble_eq_true rfl, Nat.le_of_ble_eq_true rfl⟩ rfl rfl (Nat.le_of_ble_eq_true rfl) dX11_owed_11 ?_
      refine r_if_eq (t := 26) dX11_owed_14 (by decide) (fun c => ?_) (fun c => ?_)
      · rw [if_pos c] at h
        refine r_sub [] rfl ?_
        exact w_X11_owed_26 _ _ h
      · rw [if_neg c] at h
        refine r_iload_n 2 dX11_owed_17 rfl rfl ?_
        refine r_if_lt (t := 26) dX11_owed_18 (by decide) (fun c => ?_) (fun c => ?_)
        · rw [if_pos c] at h
          refine r_sub [] rfl ?_
          exact w_X11_owed_26 _ _ h
        · rw [if_neg c] at h
          refine r_iload_n 2 dX11_owed_21 rfl rfl ?_
          refine r_iconst (v := 1) dX11_owed_22 rfl ?_
          refine r_icmp_le (t := 28) dX11_owed_23 (by decide) (fun c => ?_) (fun c => ?_)
          · rw [if_pos c] at h
            refine r_iload_n 2 dX11_owed_28 rfl rfl ?_
            refine r_if_ne (t := 44) dX11_owed_29 (by decide) (fun c => ?_) (fun c => ?_)
            · rw [if_neg c] at h
              refine r_aload_n 0 dX11_owed_44 rfl rfl ?_
              refine gf_48_10 q_600 dX11_owed_45 ?_
              refine gfN_44_4 q_571 dX11_owed_48 ?_
              refine r_iload_n 1 dX11_owed_51 rfl rfl ?_
              obtain ⟨c1, h⟩ := g_ite h
              refine al_47 (k_b_in c1) dX11_owed_52 ?_
              obtain ⟨q53, hq53, h⟩ := g_bind h
              refine r_callSi [.int (gA q11.2 47 x1.toNatClampNeg)] [] q53 (ok_J6_bitCount_0f7a4 hq53) q_1260 q_1017 q_1018 q_161 hd_J6_bitCount_0f7a4 ⟨Nat.le_of_ble_eq_true rfl, Nat.le_of_ble_eq_true rfl⟩ rfl rfl (Nat.le_of_ble_eq_true rfl) dX11_owed_53 ?_
              refine r_sub [] rfl ?_
              exact w_X11_owed_56 _ _ _ h
            · rw [if_pos c] at h
              refine r_aload_n 0 dX11_owed_32 rfl rfl ?_
              refine gf_48_10 q_600 dX11_owed_33 ?_
              refine gfN_44_3 q_569 dX11_owed_36 ?_
              refine r_iload_n 1 dX11_owed_39 rfl rfl ?_
              obtain ⟨c2, h⟩ := g_ite h
              refine al_46 (k_b_in c2) dX11_owed_40 ?_
              refine r_goto (t := 56) dX11_owed_41 (by decide) ?_
              refine r_sub [] rfl ?_
              exact w_X11_owed_56 _ _ _ h
          · rw [if_neg c] at h
            refine r_sub [] rfl ?_
            exact w_X11_owed_26 _ _ h
theorem ok_X11_owed {D : k_D} {dy : Nat → Nat} {x1 : Int32} {x2 : Int32} {S : St} {out : Int32 × St} (h : f_X11_owed x1 x2 S = some out) : Sp yX11_owed cX11_owed 3 (some .int) (k_rm 1) D dy S [.ref (D.2.2 48), .int x1, .int x2] (k_Pi dy out) := Sp.of (by decide +kernel) (Nat.le_of_ble_eq_true rfl) (w_X11_owed_0 _ _ S out h)
noncomputable def f_X11_refused_19 (s0 : Int32) (S : St) : Option (Int32 × St) := some (s0, S)
noncomputable def f_X11_refused_18 (S : St) : Option (Int32 × St) := f_X11_refused_19 (-1 : Int32) S
noncomputable def f_X11_refused (x1 : Int32) (S : St) : Option (Int32 × St) := if x1 < 0 then f_X11_refused_18 S else if (5 : Int32) ≤ x1 then f_X11_refused_18 S else if k_b x1 5 = true then f_X11_refused_19 (gA S 50 x1.toNatClampNeg) S else none
set_option maxRecDepth 100000 in
set_option maxHeartbeats 4000000 in
theorem w_X11_refused_19 {D : k_D} {dy : Nat → Nat} (s0 : Int32) (S : St) (out : Int32 × St) (h : f_X11_refused_19 s0 S = some out) : Rn yX11_refused cX11_refused 2 (some .int) (k_rm 0) 0 0 D dy S (k_Pi dy out) 19 [] [.int s0] := by
    unfold f_X11_refused_19 at h
    cases h
    exact r_iret rfl dX11_refused_19 ⟨rfl, rfl, rfl⟩
set_option maxRecDepth 100000 in
set_option maxHeartbeats 4000000 in
theorem w_X11_refused_18 {D : k_D} {dy : Nat → Nat} (S : St) (out : Int32 × St) (h : f_X11_refused_18 S = some out) : Rn yX11_refused cX11_refused 2 (some .int) (k_rm 0) 0 0 D dy S (k_Pi dy out) 18 [] [] := by
    unfold f_X11_refused_18 at h
    refine r_iconst (v := -1) dX11_refused_18 rfl ?_
    exact w_X11_refused_19 _ _ _ h
set_option maxRecDepth 100000 in
set_option maxHeartbeats 4000000 in
theorem w_X11_refused_0 {D : k_D} {dy : Nat → Nat} (x1 : Int32) (S : St) (out : Int32 × St) (h : f_X11_refused x1 S = some out) : Rn yX11_refused cX11_refused 2 (some .int) (k_rm 0) 0 0 D dy S (k_Pi dy out) 0 [(0, .ref (D.2.2 48)), (1, .int x1)] [] := by
    unfold f_X11_refused at h
    refine r_iload_n 1 dX11_refused_0 rfl rfl ?_
    refine r_if_lt (t := 18) dX11_refused_1 (by decide) (fun c => ?_) (fun c => ?_)
    · rw [if_pos c] at h
      refine r_sub [] rfl ?_
      exact w_X11_refused_18 _ _ h
    · rw [if_neg c] at h
      refine r_iload_n 1 dX11_refused_4 rfl rfl ?_
      refine r_iconst (v := 5) dX11_refused_5 rfl ?_
      refine r_icmp_ge (t := 18) dX11_refused_6 (by decide) (fun c => ?_) (fun c => ?_)
      · rw [if_pos c] at h
        refine r_sub [] rfl ?_
        exact w_X11_refused_18 _ _ h
      · rw [if_neg c] at h
        refine r_aload_n 0 dX11_refused_9 rfl rfl ?_
        refine gf_48_11 q_601 dX11_refused_10 ?_
        refine r_iload_n 1 dX11_refused_13 rfl rfl ?_
        obtain ⟨c1, h⟩ := g_ite h
        refine al_50 (k_b_in c1) dX11_refused_14 ?_
        refine r_goto (t := 19) dX11_refused_15 (by decide) ?_
        refine r_sub [] rfl ?_
        exact w_X11_refused_19 _ _ _ h
theorem ok_X11_refused {D : k_D} {dy : Nat → Nat} {x1 : Int32} {S : St} {out : Int32 × St} (h : f_X11_refused x1 S = some out) : Sp yX11_refused cX11_refused 2 (some .int) (k_rm 0) D dy S [.ref (D.2.2 48), .int x1] (k_Pi dy out) := Sp.of (by decide +kernel) (Nat.le_of_ble_eq_true rfl) (w_X11_refused_0 _ S out h)
noncomputable def f_X11_count (x1 : Int32) (S : St) : Option (Int32 × St) := if x1 = (0 : Int32) then some (gI S 0, S) else if x1 = (1 : Int32) then some (gI S 1, S) else if x1 = (2 : Int32) then (f_X1_allHalves S).bind fun q102 => some (q102.1, q102.2) else if x1 = (3 : Int32) then some (gI S 3, S) else if x1 = (4 : Int32) then some (gI S 5, S) else if x1 = (5 : Int32) then some (gI S 6, S) else if x1 = (6 : Int32) then some (gI S 7, S) else if x1 = (7 : Int32) then some (gI S 8, S) else if x1 = (8 : Int32) then (f_X11_refused (x1 - (8 : Int32)) S).bind fun q167 => some (q167.1, q167.2) else if x1 = (9 : Int32) then (f_X11_refused (x1 - (8 : Int32)) S).bind fun q167 => some (q167.1, q167.2) else if x1 = (10 : Int32) then (f_X11_refused (x1 - (8 : Int32)) S).bind fun q167 => some (q167.1, q167.2) else if x1 = (11 : Int32) then (f_X11_refused (x1 - (8 : Int32)) S).bind fun q167 => some (q167.1, q167.2) else if x1 = (12 : Int32) then (f_X11_refused (x1 - (8 : Int32)) S).bind fun q167 => some (q167.1, q167.2) else if x1 = (13 : Int32) then some (gI S 4, S) else if x1 = (14 : Int32) then some (gI S 2, S) else (f_X11_refused (x1 - (8 : Int32)) S).bind fun q167 => some (q167.1, q167.2)
set_option maxRecDepth 100000 in
set_option maxHeartbeats 4000000 in
theorem w_X11_count_0 {D : k_D} {dy : Nat → Nat} (x1 : Int32) (S : St) (out : Int32 × St) (h : f_X11_count x1 S = some out) : Rn yX11_count cX11_count 2 (some .int) (k_rm 1) 0 0 D dy S (k_Pi dy out) 0 [(0, .ref (D.2.2 48)), (1, .int x1)] [] := by
    unfold f_X11_count at h
    refine r_iload_n 1 dX11_count_0 rfl rfl ?_
    by_cases c0 : x1 = (0 : Int32)
    · rw [if_pos c0] at h
      refine r_tableIn (t := 76) (o := 75) dX11_count_1 (by rw [c0]; decide) (by rw [c0]; decide) (by rw [c0]; rfl) (by decide) ?_
      refine r_aload_n 0 dX11_count_76 rfl rfl ?_
      refine gf_48_0 q_590 dX11_count_77 ?_
      refine gfN_0_1 q_240 dX11_count_80 ?_
      cases h
      exact r_iret rfl dX11_count_83 ⟨rfl, rfl, rfl⟩
    rw [if_neg c0] at h
    by_cases c1 : x1 = (1 : Int32)
    · rw [if_pos c1] at h
      refine r_tableIn (t := 84) (o := 83) dX11_count_1 (by rw [c1]; decide) (by rw [c1]; decide) (by rw [c1]; rfl) (by decide) ?_
      refine r_aload_n 0 dX11_count_84 rfl rfl ?_
      refine gf_48_0 q_590 dX11_count_85 ?_
      refine gfN_0_2 q_248 dX11_count_88 ?_
      refine gfN_2_5 q_219 dX11_count_91 ?_
      cases h
      exact r_iret rfl dX11_count_94 ⟨rfl, rfl, rfl⟩
    rw [if_neg c1] at h
    by_cases c2 : x1 = (2 : Int32)
    · rw [if_pos c2] at h
      refine r_tableIn (t := 95) (o := 94) dX11_count_1 (by rw [c2]; decide) (by rw [c2]; decide) (by rw [c2]; rfl) (by decide) ?_
      refine r_aload_n 0 dX11_count_95 rfl rfl ?_
      refine gf_48_0 q_590 dX11_count_96 ?_
      refine gfN_0_2 q_248 dX11_count_99 ?_
      obtain ⟨q102, hq102, h⟩ := g_bind h
      refine r_callVNi [] [] q102 (ok_X1_allHalves hq102) q_1283 q_1285 q_87 q_1286 q_143 hd_X1_allHalves (ce_2 D dy _) kc1.1 rfl ⟨Nat.le_of_ble_eq_true rfl, Nat.le_of_ble_eq_true rfl⟩ rfl rfl (Nat.le_of_ble_eq_true rfl) dX11_count_102 ?_
      cases h
      exact r_iret rfl dX11_count_105 ⟨rfl, rfl, rfl⟩
    rw [if_neg c2] at h
    by_cases c3 : x1 = (3 : Int32)
    · rw [if_pos c3] at h
      refine r_tableIn (t := 106) (o := 105) dX11_count_1 (by rw [c3]; decide) (by rw [c3]; decide) (by rw [c3]; rfl) (by decide) ?_
      refine r_aload_n 0 dX11_count_106 rfl rfl ?_
      refine gf_48_0 q_590 dX11_count_107 ?_
      refine gfN_0_5 q_254 dX11_count_110 ?_
      cases h
      exact r_iret rfl dX11_count_113 ⟨rfl, rfl, rfl⟩
    rw [if_neg c3] at h
    by_cases c4 : x1 = (4 : Int32)
    · rw [if_pos c4] at h
      refine r_tableIn (t := 114) (o := 113) dX11_count_1 (by rw [c4]; decide) (by rw [c4]; decide) (by rw [c4]; rfl) (by decide) ?_
      refine r_aload_n 0 dX11_count_114 rfl rfl ?_
      refine gf_48_0 q_590 dX11_count_115 ?_
      refine gfN_0_9 q_263 dX11_count_118 ?_
      cases h
      exact r_iret rfl dX11_count_121 ⟨rfl, rfl, rfl⟩
    rw [if_neg c4] at h
    by_cases c5 : x1 = (5 : Int32)
    · rw [if_pos c5] at h
      refine r_tableIn (t := 122) (o := 121) dX11_count_1 (by rw [c5]; decide) (by rw [c5]; decide) (by rw [c5]; rfl) (by decide) ?_
      refine r_aload_n 0 dX11_count_122 rfl rfl ?_
      refine gf_48_0 q_590 dX11_count_123 ?_
      refine gfN_0_12 q_270 dX11_count_126 ?_
      cases h
      exact r_iret rfl dX11_count_129 ⟨rfl, rfl, rfl⟩
    rw [if_neg c5] at h
    by_cases c6 : x1 = (6 : Int32)
    · rw [if_pos c6] at h
      refine r_tableIn (t := 130) (o := 129) dX11_count_1 (by rw [c6]; decide) (by rw [c6]; decide) (by rw [c6]; rfl) (by decide) ?_
      refine r_aload_n 0 dX11_count_130 rfl rfl ?_
      refine gf_48_0 q_590 dX11_count_131 ?_
      refine gfN_0_15 q_277 dX11_count_134 ?_
      cases h
      exact r_iret rfl dX11_count_137 ⟨rfl, rfl, rfl⟩
    rw [if_neg c6] at h
    by_cases c7 : x1 = (7 : Int32)
    · rw [if_pos c7] at h
      refine r_tableIn (t := 138) (o := 137) dX11_count_1 (by rw [c7]; decide) (by rw [c7]; decide) (by rw [c7]; rfl) (by decide) ?_
      refine r_aload_n 0 dX11_count_138 rfl rfl ?_
      refine gf_48_2 q_592 dX11_count_139 ?_
      refine gfN_15_1 q_320 dX11_count_142 ?_
      cases h
      exact r_iret rfl dX11_count_145 ⟨rfl, rfl, rfl⟩
    rw [if_neg c7] at h
    by_cases c8 : x1 = (8 : Int32)
    · rw [if_pos c8] at h
      refine r_tableIn (t := 162) (o := 161) dX11_count_1 (by rw [c8]; decide) (by rw [c8]; decide) (by rw [c8]; rfl) (by decide) ?_
      refine r_aload_n 0 dX11_count_162 rfl rfl ?_
      refine r_iload_n 1 dX11_count_163 rfl rfl ?_
      refine r_bipush (v := 8) dX11_count_164 rfl ?_
      refine r_isub dX11_count_166 ?_
      obtain ⟨q167, hq167, h⟩ := g_bind h
      refine r_callVi [.int (x1 - (8 : Int32))] [] q167 (ok_X11_refused hq167) q_1287 q_1289 q_88 q_1290 q_141 hd_X11_refused (ce_48 D dy _) kc11.1 rfl ⟨Nat.le_of_ble_eq_true rfl, Nat.le_of_ble_eq_true rfl⟩ rfl rfl (Nat.le_of_ble_eq_true rfl) dX11_count_167 ?_
      cases h
      exact r_iret rfl dX11_count_170 ⟨rfl, rfl, rfl⟩
    rw [if_neg c8] at h
    by_cases c9 : x1 = (9 : Int32)
    · rw [if_pos c9] at h
      refine r_tableIn (t := 162) (o := 161) dX11_count_1 (by rw [c9]; decide) (by rw [c9]; decide) (by rw [c9]; rfl) (by decide) ?_
      refine r_aload_n 0 dX11_count_162 rfl rfl ?_
      refine r_iload_n 1 dX11_count_163 rfl rfl ?_
      refine r_bipush (v := 8) dX11_count_164 rfl ?_
      refine r_isub dX11_count_166 ?_
      obtain ⟨q167, hq167, h⟩ := g_bind h
      refine r_callVi [.int (x1 - (8 : Int32))] [] q167 (ok_X11_refused hq167) q_1287 q_1289 q_88 q_1290 q_141 hd_X11_refused (ce_48 D dy _) kc11.1 rfl ⟨Nat.le_of_ble_eq_true rfl, Nat.le_of_ble_eq_true rfl⟩ rfl rfl (Nat.le_of_ble_eq_true rfl) dX11_count_167 ?_
      cases h
      exact r_iret rfl dX11_count_170 ⟨rfl, rfl, rfl⟩
    rw [if_neg c9] at h
    by_cases c10 : x1 = (10 : Int32)
    · rw [if_pos c10] at h
      refine r_tableIn (t := 162) (o := 161) dX11_count_1 (by rw [c10]; decide) (by rw [c10]; decide) (by rw [c10]; rfl) (by decide) ?_
      refine r_aload_n 0 dX11_count_162 rfl rfl ?_
      refine r_iload_n 1 dX11_count_163 rfl rfl ?_
      refine r_bipush (v := 8) dX11_count_164 rfl ?_
      refine r_isub dX11_count_166 ?_
      obtain ⟨q167, hq167, h⟩ := g_bind h
      refine r_callVi [.int (x1 - (8 : Int32))] [] q167 (ok_X11_refused hq167) q_1287 q_1289 q_88 q_1290 q_141 hd_X11_refused (ce_48 D dy _) kc11.1 rfl ⟨Nat.le_of_ble_eq_true rfl, Nat.le_of_ble_eq_true rfl⟩ rfl rfl (Nat.le_of_ble_eq_true rfl) dX11_count_167 ?_
      cases h
      exact r_iret rfl dX11_count_170 ⟨rfl, rfl, rfl⟩
    rw [if_neg c10] at h
    by_cases c11 : x1 = (11 : Int32)
    · rw [if_pos c11] at h
      refine r_tableIn (t := 162) (o := 161) dX11_count_1 (by rw [c11]; decide) (by rw [c11]; decide) (by rw [c11]; rfl) (by decide) ?_
      refine r_aload_n 0 dX11_count_162 rfl rfl ?_
      refine r_iload_n 1 dX11_count_163 rfl rfl ?_
      refine r_bipush (v := 8) dX11_count_164 rfl ?_
      refine r_isub dX11_count_166 ?_
      obtain ⟨q167, hq167, h⟩ := g_bind h
      refine r_callVi [.int (x1 - (8 : Int32))] [] q167 (ok_X11_refused hq167) q_1287 q_1289 q_88 q_1290 q_141 hd_X11_refused (ce_48 D dy _) kc11.1 rfl ⟨Nat.le_of_ble_eq_true rfl, Nat.le_of_ble_eq_true rfl⟩ rfl rfl (Nat.le_of_ble_eq_true rfl) dX11_count_167 ?_
      cases h
      exact r_iret rfl dX11_count_170 ⟨rfl, rfl, rfl⟩
    rw [if_neg c11] at h
    by_cases c12 : x1 = (12 : Int32)
    · rw [if_pos c12] at h
      refine r_tableIn (t := 162) (o := 161) dX11_count_1 (by rw [c12]; decide) (by rw [c12]; decide) (by rw [c12]; rfl) (by decide) ?_
      refine r_aload_n 0 dX11_count_162 rfl rfl ?_
      refine r_iload_n 1 dX11_count_163 rfl rfl ?_
      refine r_bipush (v := 8) dX11_count_164 rfl ?_
      refine r_isub dX11_count_166 ?_
      obtain ⟨q167, hq167, h⟩ := g_bind h
      refine r_callVi [.int (x1 - (8 : Int32))] [] q167 (ok_X11_refused hq167) q_1287 q_1289 q_88 q_1290 q_141 hd_X11_refused (ce_48 D dy _) kc11.1 rfl ⟨Nat.le_of_ble_eq_true rfl, Nat.le_of_ble_eq_true rfl⟩ rfl rfl (Nat.le_of_ble_eq_true rfl) dX11_count_167 ?_
      cases h
      exact r_iret rfl dX11_count_170 ⟨rfl, rfl, rfl⟩
    rw [if_neg c12] at h
    by_cases c13 : x1 = (13 : Int32)
    · rw [if_pos c13] at h
      refine r_tableIn (t := 146) (o := 145) dX11_count_1 (by rw [c13]; decide) (by rw [c13]; decide) (by rw [c13]; rfl) (by decide) ?_
      refine r_aload_n 0 dX11_count_146 rfl rfl ?_
      refine gf_48_0 q_590 dX11_count_147 ?_
      refine gfN_0_6 q_256 dX11_count_150 ?_
      cases h
      exact r_iret rfl dX11_count_153 ⟨rfl, rfl, rfl⟩
    rw [if_neg c13] at h
    by_cases c14 : x1 = (14 : Int32)
    · rw [if_pos c14] at h
      refine r_tableIn (t := 154) (o := 153) dX11_count_1 (by rw [c14]; decide) (by rw [c14]; decide) (by rw [c14]; rfl) (by decide) ?_
      refine r_aload_n 0 dX11_count_154 rfl rfl ?_
      refine gf_48_0 q_590 dX11_count_155 ?_
      refine gfN_0_3 q_250 dX11_count_158 ?_
      cases h
      exact r_iret rfl dX11_count_161 ⟨rfl, rfl, rfl⟩
    rw [if_neg c14] at h
    refine r_tableOut (t := 162) dX11_count_1 (by have e0 := g_ne c0 (k := 0) rfl; have e1 := g_ne c1 (k := 1) rfl; have e2 := g_ne c2 (k := 2) rfl; have e3 := g_ne c3 (k := 3) rfl; have e4 := g_ne c4 (k := 4) rfl; have e5 := g_ne c5 (k := 5) rfl; have e6 := g_ne c6 (k := 6) rfl; have e7 := g_ne c7 (k := 7) rfl; have e8 := g_ne c8 (k := 8) rfl; have e9 := g_ne c9 (k := 9) rfl; have e10 := g_ne c10 (k := 10) rfl; have e11 := g_ne c11 (k := 11) rfl; have e12 := g_ne c12 (k := 12) rfl; have e13 := g_ne c13 (k := 13) rfl; have e14 := g_ne c14 (k := 14) rfl; omega) (by decide) ?_
    refine r_aload_n 0 dX11_count_162 rfl rfl ?_
    refine r_iload_n 1 dX11_count_163 rfl rfl ?_
    refine r_bipush (v := 8) dX11_count_164 rfl ?_
    refine r_isub dX11_count_166 ?_
    obtain ⟨q167, hq167, h⟩ := g_bind h
    refine r_callVi [.int (x1 - (8 : Int32))] [] q167 (ok_X11_refused hq167) q_1287 q_1289 q_88 q_1290 q_141 hd_X11_refused (ce_48 D dy _) kc11.1 rfl ⟨Nat.le_of_ble_eq_true rfl, Nat.le_of_ble_eq_true rfl⟩ rfl rfl (Nat.le_of_ble_eq_true rfl) dX11_count_167 ?_
    cases h
    exact r_iret rfl dX11_count_170 ⟨rfl, rfl, rfl⟩
theorem ok_X11_count {D : k_D} {dy : Nat → Nat} {x1 : Int32} {S : St} {out : Int32 × St} (h : f_X11_count x1 S = some out) : Sp yX11_count cX11_count 2 (some .int) (k_rm 1) D dy S [.ref (D.2.2 48), .int x1] (k_Pi dy out) := Sp.of (by decide +kernel) (Nat.le_of_ble_eq_true rfl) (w_X11_count_0 _ S out h)
noncomputable def f_X11_status (S : St) : Option (Int32 × St) := some (gI S 32, S)
set_option maxRecDepth 100000 in
set_option maxHeartbeats 4000000 in
theorem w_X11_status_0 {D : k_D} {dy : Nat → Nat} (S : St) (out : Int32 × St) (h : f_X11_status S = some out) : Rn yX11_status cX11_status 1 (some .int) (k_rm 0) 0 0 D dy S (k_Pi dy out) 0 [(0, .ref (D.2.2 48))] [] := by
    unfold f_X11_status at h
    refine r_aload_n 0 dX11_status_0 rfl rfl ?_
    refine gf_48_14 q_604 dX11_status_1 ?_
    cases h
    exact r_iret rfl dX11_status_4 ⟨rfl, rfl, rfl⟩
theorem ok_X11_status {D : k_D} {dy : Nat → Nat} {S : St} {out : Int32 × St} (h : f_X11_status S = some out) : Sp yX11_status cX11_status 1 (some .int) (k_rm 0) D dy S [.ref (D.2.2 48)] (k_Pi dy out) := Sp.of (by decide +kernel) (Nat.le_of_ble_eq_true rfl) (w_X11_status_0 S out h)
