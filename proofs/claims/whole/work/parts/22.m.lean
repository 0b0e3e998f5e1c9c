noncomputable def f_X12_lasts_149 (k5 : Int32 → Int32 → Int32 → Int32 → St → Option (Int32 × St)) (x1 : Int32) (x2 : Int32) (x4 : Int32) (s0 : Int32) (s1 : Int32) (S : St) : Option (Int32 × St) := k5 x1 x2 (s0 + s1) (x4 + (1 : Int32)) S
noncomputable def f_X12_lasts_126 (k5 : Int32 → Int32 → Int32 → Int32 → St → Option (Int32 × St)) (x1 : Int32) (x2 : Int32) (x3 : Int32) (x4 : Int32) (x5 : Int32) (S : St) : Option (Int32 × St) := if x5 = 0 then f_X12_lasts_149 k5 x1 x2 x4 x3 (0 : Int32) S else if k_b (x1 &&& (((1 : Int32) <<< (x4 &&& 31)) ^^^ (-1 : Int32))) 1024 = true then f_X12_lasts_149 k5 x1 x2 x4 x3 (gA S 78 (x1 &&& (((1 : Int32) <<< (x4 &&& 31)) ^^^ (-1 : Int32))).toNatClampNeg) S else none
noncomputable def f_X12_lasts_118 (k70 : Int32 → Int32 → Int32 → Int32 → Int32 → Int32 → St → Option (Int32 × St)) (x1 : Int32) (x2 : Int32) (x3 : Int32) (x4 : Int32) (x6 : Int32) (s0 : Int32) (S : St) : Option (Int32 × St) := k70 x1 x2 x3 x4 s0 (x6 + (1 : Int32)) S
noncomputable def f_X12_lasts_113 (k70 : Int32 → Int32 → Int32 → Int32 → Int32 → Int32 → St → Option (Int32 × St)) (x1 : Int32) (x2 : Int32) (x3 : Int32) (x4 : Int32) (x6 : Int32) (S : St) : Option (Int32 × St) := f_X12_lasts_118 k70 x1 x2 x3 x4 x6 (1 : Int32) S
noncomputable def f_X12_lasts_70 (k5 : Int32 → Int32 → Int32 → Int32 → St → Option (Int32 × St)) : Nat → Int32 → Int32 → Int32 → Int32 → Int32 → Int32 → St → Option (Int32 × St)
  | 0, _, _, _, _, _, _, _ => none
  | n + 1, x1, x2, x3, x4, x5, x6, S => if (10 : Int32) ≤ x6 then f_X12_lasts_126 k5 x1 x2 x3 x4 x5 S else if x5 = 0 then f_X12_lasts_126 k5 x1 x2 x3 x4 x5 S else if x6 = x4 then f_X12_lasts_113 (f_X12_lasts_70 k5 n) x1 x2 x3 x4 x6 S else (f_X12_is x1 x6 S).bind fun q92 => if q92.1 = 0 then f_X12_lasts_113 (f_X12_lasts_70 k5 n) x1 x2 x3 x4 x6 q92.2 else if k_b x6 10 = true then (f_X12_is (gA q92.2 77 x6.toNatClampNeg) x4 q92.2).bind fun q107 => if q107.1 = 0 then f_X12_lasts_113 (f_X12_lasts_70 k5 n) x1 x2 x3 x4 x6 q107.2 else f_X12_lasts_118 (f_X12_lasts_70 k5 n) x1 x2 x3 x4 x6 (0 : Int32) q107.2 else none
noncomputable def f_X12_lasts_65 (k5 : Int32 → Int32 → Int32 → Int32 → St → Option (Int32 × St)) (x1 : Int32) (x2 : Int32) (x3 : Int32) (x4 : Int32) (s0 : Int32) (S : St) : Option (Int32 × St) := f_X12_lasts_70 k5 FU x1 x2 x3 x4 s0 (0 : Int32) S
noncomputable def f_X12_lasts_64 (k5 : Int32 → Int32 → Int32 → Int32 → St → Option (Int32 × St)) (x1 : Int32) (x2 : Int32) (x3 : Int32) (x4 : Int32) (S : St) : Option (Int32 × St) := f_X12_lasts_65 k5 x1 x2 x3 x4 (0 : Int32) S
noncomputable def f_X12_lasts_5 : Nat → Int32 → Int32 → Int32 → Int32 → St → Option (Int32 × St)
  | 0, _, _, _, _, _ => none
  | n + 1, x1, x2, x3, x4, S => if (10 : Int32) ≤ x4 then some (x3, S) else (f_X12_is x1 x4 S).bind fun q15 => if q15.1 = 0 then f_X12_lasts_64 (f_X12_lasts_5 n) x1 x2 x3 x4 q15.2 else if k_b ((110 : Int32) + ((2 : Int32) * x4)) 5560 = true then if (gA q15.2 53 ((110 : Int32) + ((2 : Int32) * x4)).toNatClampNeg) = x2 then if k_b x4 10 = true then if (((gA q15.2 77 x4.toNatClampNeg) &&& x1) &&& ((x1 &&& (((1 : Int32) <<< (x4 &&& 31)) ^^^ (-1 : Int32))) ^^^ (-1 : Int32))) = 0 then f_X12_lasts_65 (f_X12_lasts_5 n) x1 x2 x3 x4 (1 : Int32) q15.2 else f_X12_lasts_64 (f_X12_lasts_5 n) x1 x2 x3 x4 q15.2 else none else f_X12_lasts_64 (f_X12_lasts_5 n) x1 x2 x3 x4 q15.2 else none
noncomputable def f_X12_lasts (x1 : Int32) (x2 : Int32) (S : St) : Option (Int32 × St) := f_X12_lasts_5 FU x1 x2 (0 : Int32) (0 : Int32) S
set_option maxRecDepth 100000 in
set_option maxHeartbeats 4000000 in
theorem w_X12_lasts_149 {D : k_D} {dy : Nat → Nat} {k5 : Int32 → Int32 → Int32 → Int32 → St → Option (Int32 × St)} (hk5 : ∀ (x1 : Int32) (x2 : Int32) (x3 : Int32) (x4 : Int32) (S : St) (out : Int32 × St), k5 x1 x2 x3 x4 S = some out → Rn yX12_lasts cX12_lasts 7 (some .int) (k_rm 1) 0 0 D dy S (k_Pi dy out) 5 [(0, .ref (D.2.2 51)), (1, .int x1), (2, .int x2), (3, .int x3), (4, .int x4)] []) (x1 : Int32) (x2 : Int32) (x4 : Int32) (s0 : Int32) (s1 : Int32) (S : St) (out : Int32 × St) (h : f_X12_lasts_149 k5 x1 x2 x4 s0 s1 S = some out) : Rn yX12_lasts cX12_lasts 7 (some .int) (k_rm 1) 0 0 D dy S (k_Pi dy out) 149 [(0, .ref (D.2.2 51)), (1, .int x1), (2, .int x2), (4, .int x4)] [.int s1, .int s0] := by
    unfold f_X12_lasts_149 at h
    refine r_iadd dX12_lasts_149 ?_
    refine r_istore_n dX12_lasts_150 rfl (by decide) rfl ?_
    refine r_iinc (q := 4) (v := x4 + (1 : Int32)) dX12_lasts_151 rfl rfl (by decide) rfl ?_
    refine r_goto (t := 5) dX12_lasts_154 (by decide) ?_
    refine r_sub [2, 3, 4, 1, 0] rfl ?_
    exact hk5 _ _ _ _ _ _ h
set_option maxRecDepth 100000 in
set_option maxHeartbeats 4000000 in
theorem w_X12_lasts_126 {D : k_D} {dy : Nat → Nat} {k5 : Int32 → Int32 → Int32 → Int32 → St → Option (Int32 × St)} (hk5 : ∀ (x1 : Int32) (x2 : Int32) (x3 : Int32) (x4 : Int32) (S : St) (out : Int32 × St), k5 x1 x2 x3 x4 S = some out → Rn yX12_lasts cX12_lasts 7 (some .int) (k_rm 1) 0 0 D dy S (k_Pi dy out) 5 [(0, .ref (D.2.2 51)), (1, .int x1), (2, .int x2), (3, .int x3), (4, .int x4)] []) (x1 : Int32) (x2 : Int32) (x3 : Int32) (x4 : Int32) (x5 : Int32) (S : St) (out : Int32 × St) (h : f_X12_lasts_126 k5 x1 x2 x3 x4 x5 S = some out) : Rn yX12_lasts cX12_lasts 7 (some .int) (k_rm 1) 0 0 D dy S (k_Pi dy out) 126 [(0, .ref (D.2.2 51)), (1, .int x1), (2, .int x2), (3, .int x3), (4, .int x4), (5, .int x5)] [] := by
    unfold f_X12_lasts_126 at h
    refine r_iload_n 3 dX12_lasts_126 rfl rfl ?_
    refine r_iload 5 dX12_lasts_127 rfl ?_
    refine r_if_eq (t := 148) dX12_lasts_129 (by decide) (fun c => ?_) (fun c => ?_)
    · rw [if_pos c] at h
      refine r_iconst (v := 0) dX12_lasts_148 rfl ?_
      refine r_sub [0, 1, 2, 4] rfl ?_
      exact w_X12_lasts_149 hk5 _ _ _ _ _ _ _ h
    · rw [if_neg c] at h
      refine r_aload_n 0 dX12_lasts_132 rfl rfl ?_
      refine gf_51_50 q_1361 dX12_lasts_133 ?_
      refine r_iload_n 1 dX12_lasts_136 rfl rfl ?_
      refine r_iconst (v := 1) dX12_lasts_137 rfl ?_
      refine r_iload 4 dX12_lasts_138 rfl ?_
      refine r_ishl dX12_lasts_140 ?_
      refine r_iconst (v := -1) dX12_lasts_141 rfl ?_
      refine r_ixor dX12_lasts_142 ?_
      refine r_iand dX12_lasts_143 ?_
      obtain ⟨c1, h⟩ := g_ite h
      refine al_78 (k_b_in c1) dX12_lasts_144 ?_
      refine r_goto (t := 149) dX12_lasts_145 (by decide) ?_
      refine r_sub [0, 1, 2, 4] rfl ?_
      exact w_X12_lasts_149 hk5 _ _ _ _ _ _ _ h
set_option maxRecDepth 100000 in
set_option maxHeartbeats 4000000 in
theorem w_X12_lasts_118 {D : k_D} {dy : Nat → Nat} {k70 : Int32 → Int32 → Int32 → Int32 → Int32 → Int32 → St → Option (Int32 × St)} (hk70 : ∀ (x1 : Int32) (x2 : Int32) (x3 : Int32) (x4 : Int32) (x5 : Int32) (x6 : Int32) (S : St) (out : Int32 × St), k70 x1 x2 x3 x4 x5 x6 S = some out → Rn yX12_lasts cX12_lasts 7 (some .int) (k_rm 1) 0 0 D dy S (k_Pi dy out) 70 [(0, .ref (D.2.2 51)), (1, .int x1), (2, .int x2), (3, .int x3), (4, .int x4), (5, .int x5), (6, .int x6)] []) (x1 : Int32) (x2 : Int32) (x3 : Int32) (x4 : Int32) (x6 : Int32) (s0 : Int32) (S : St) (out : Int32 × St) (h : f_X12_lasts_118 k70 x1 x2 x3 x4 x6 s0 S = some out) : Rn yX12_lasts cX12_lasts 7 (some .int) (k_rm 1) 0 0 D dy S (k_Pi dy out) 118 [(0, .ref (D.2.2 51)), (1, .int x1), (2, .int x2), (3, .int x3), (4, .int x4), (6, .int x6)] [.int s0] := by
    unfold f_X12_lasts_118 at h
    refine r_istore dX12_lasts_118 (by decide) rfl ?_
    refine r_iinc (q := 6) (v := x6 + (1 : Int32)) dX12_lasts_120 rfl rfl (by decide) rfl ?_
    refine r_goto (t := 70) dX12_lasts_123 (by decide) ?_
    refine r_sub [2, 3, 4, 5, 6, 1, 0] rfl ?_
    exact hk70 _ _ _ _ _ _ _ _ h
set_option maxRecDepth 100000 in
set_option maxHeartbeats 4000000 in
theorem w_X12_lasts_113 {D : k_D} {dy : Nat → Nat} {k70 : Int32 → Int32 → Int32 → Int32 → Int32 → Int32 → St → Option (Int32 × St)} (hk70 : ∀ (x1 : Int32) (x2 : Int32) (x3 : Int32) (x4 : Int32) (x5 : Int32) (x6 : Int32) (S : St) (out : Int32 × St), k70 x1 x2 x3 x4 x5 x6 S = some out → Rn yX12_lasts cX12_lasts 7 (some .int) (k_rm 1) 0 0 D dy S (k_Pi dy out) 70 [(0, .ref (D.2.2 51)), (1, .int x1), (2, .int x2), (3, .int x3), (4, .int x4), (5, .int x5), (6, .int x6)] []) (x1 : Int32) (x2 : Int32) (x3 : Int32) (x4 : Int32) (x6 : Int32) (S : St) (out : Int32 × St) (h : f_X12_lasts_113 k70 x1 x2 x3 x4 x6 S = some out) : Rn yX12_lasts cX12_lasts 7 (some .int) (k_rm 1) 0 0 D dy S (k_Pi dy out) 113 [(0, .ref (D.2.2 51)), (1, .int x1), (2, .int x2), (3, .int x3), (4, .int x4), (6, .int x6)] [] := by
    unfold f_X12_lasts_113 at h
    refine r_iconst (v := 1) dX12_lasts_113 rfl ?_
    refine r_goto (t := 118) dX12_lasts_114 (by decide) ?_
    exact w_X12_lasts_118 hk70 _ _ _ _ _ _ _ _ h
set_option maxRecDepth 100000 in
set_option maxHeartbeats 4000000 in
theorem w_X12_lasts_70 {D : k_D} {dy : Nat → Nat} {k5 : Int32 → Int32 → Int32 → Int32 → St → Option (Int32 × St)} (hk5 : ∀ (x1 : Int32) (x2 : Int32) (x3 : Int32) (x4 : Int32) (S : St) (out : Int32 × St), k5 x1 x2 x3 x4 S = some out → Rn yX12_lasts cX12_lasts 7 (some .int) (k_rm 1) 0 0 D dy S (k_Pi dy out) 5 [(0, .ref (D.2.2 51)), (1, .int x1), (2, .int x2), (3, .int x3), (4, .int x4)] []) : ∀ (n : Nat) (x1 : Int32) (x2 : Int32) (x3 : Int32) (x4 : Int32) (x5 : Int32) (x6 : Int32) (S : St) (out : Int32 × St), f_X12_lasts_70 k5 n x1 x2 x3 x4 x5 x6 S = some out → Rn yX12_lasts cX12_lasts 7 (some .int) (k_rm 1) 0 0 D dy S (k_Pi dy out) 70 [(0, .ref (D.2.2 51)), (1, .int x1), (2, .int x2), (3, .int x3), (4, .int x4), (5, .int x5), (6, .int x6)] [] := by
  intro n
  induction n with
  | zero => intro x1 x2 x3 x4 x5 x6 S out h; cases h
  | succ n ih =>
    intro x1 x2 x3 x4 x5 x6 S out h
    rw [f_X12_lasts_70] at h
    refine r_iload 6 dX12_lasts_70 rfl ?_
    refine r_bipush (v := 10) dX12_lasts_72 rfl ?_
    refine r_icmp_ge (t := 126) dX12_lasts_74 (by decide) (fun c => ?_) (fun c => ?_)
    · rw [if_pos c] at h
      refine r_sub [0, 1, 2, 3, 4, 5] rfl ?_
      exact w_X12_lasts_126 hk5 _ _ _ _ _ _ _ h
    · rw [if_neg c] at h
      refine r_iload 5 dX12_lasts_77 rfl ?_
      refine r_if_eq (t := 126) dX12_lasts_79 (by decide) (fun c => ?_) (fun c => ?_)
      · rw [if_pos c] at h
        refine r_sub [0, 1, 2, 3, 4, 5] rfl ?_
        exact w_X12_lasts_126 hk5 _ _ _ _ _ _ _ h
      · rw [if_neg c] at h
        refine r_iload 6 dX12_lasts_82 rfl ?_
        refine r_iload 4 dX12_lasts_84 rfl ?_
        refine r_icmp_eq (t := 113) dX12_lasts_86 (by decide) (fun c => ?_) (fun c => ?_)
        · rw [if_pos c] at h
          refine r_sub [0, 1, 2, 3, 4, 6] rfl ?_
          exact w_X12_lasts_113 ih _ _ _ _ _ _ _ h
        · rw [if_neg c] at h
          refine r_iload_n 1 dX12_lasts_89 rfl rfl ?_
          refine r_iload 6 dX12_lasts_90 rfl ?_
          obtain ⟨q92, hq92, h⟩ := g_bind h
          refine r_callSi [.int x1, .int x6] [] q92 (ok_X12_is hq92) q_1750 q_1751 q_1752 q_153 hd_X12_is ⟨Nat.le_of_ble_eq_true rfl, Nat.le_of_ble_eq_true rfl⟩ rfl rfl (Nat.le_of_ble_eq_true rfl) dX12_lasts_92 ?_
          refine r_if_eq (t := 113) dX12_lasts_95 (by decide) (fun c => ?_) (fun c => ?_)
          · rw [if_pos c] at h
            refine r_sub [0, 1, 2, 3, 4, 6] rfl ?_
            exact w_X12_lasts_113 ih _ _ _ _ _ _ _ h
          · rw [if_neg c] at h
            refine r_aload_n 0 dX12_lasts_98 rfl rfl ?_
            refine gf_51_49 q_1360 dX12_lasts_99 ?_
            refine r_iload 6 dX12_lasts_102 rfl ?_
            obtain ⟨c1, h⟩ := g_ite h
            refine al_77 (k_b_in c1) dX12_lasts_104 ?_
            refine r_iload 4 dX12_lasts_105 rfl ?_
            obtain ⟨q107, hq107, h⟩ := g_bind h
            refine r_callSi [.int (gA q92.2 77 x6.toNatClampNeg), .int x4] [] q107 (ok_X12_is hq107) q_1750 q_1751 q_1752 q_153 hd_X12_is ⟨Nat.le_of_ble_eq_true rfl, Nat.le_of_ble_eq_true rfl⟩ rfl rfl (Nat.le_of_ble_eq_true rfl) dX12_lasts_107 ?_
            refine r_if_ne (t := 117) dX12_lasts_110 (by decide) (fun c => ?_) (fun c => ?_)
            · rw [if_neg c] at h
              refine r_iconst (v := 0) dX12_lasts_117 rfl ?_
              refine r_sub [0, 1, 2, 3, 4, 6] rfl ?_
              exact w_X12_lasts_118 ih _ _ _ _ _ _ _ _ h
            · rw [if_pos c] at h
              refine r_sub [0, 1, 2, 3, 4, 6] rfl ?_
              exact w_X12_lasts_113 ih _ _ _ _ _ _ _ h
set_option maxRecDepth 100000 in
set_option maxHeartbeats 4000000 in
theorem w_X12_lasts_65 {D : k_D} {dy : Nat → Nat} {k5 : Int32 → Int32 → Int32 → Int32 → St → Option (Int32 × St)} (hk5 : ∀ (x1 : Int32) (x2 : Int32) (x3 : Int32) (x4 : Int32) (S : St) (out : Int32 × St), k5 x1 x2 x3 x4 S = some out → Rn yX12_lasts cX12_lasts 7 (some .int) (k_rm 1) 0 0 D dy S (k_Pi dy out) 5 [(0, .ref (D.2.2 51)), (1, .int x1), (2, .int x2), (3, .int x3), (4, .int x4)] []) (x1 : Int32) (x2 : Int32) (x3 : Int32) (x4 : Int32) (s0 : Int32) (S : St) (out : Int32 × St) (h : f_X12_lasts_65 k5 x1 x2 x3 x4 s0 S = some out) : Rn yX12_lasts cX12_lasts 7 (some .int) (k_rm 1) 0 0 D dy S (k_Pi dy out) 65 [(0, .ref (D.2.2 51)), (1, .int x1), (2, .int x2), (3, .int x3), (4, .int x4)] [.int s0] := by
    unfold f_X12_lasts_65 at h
    refine r_istore dX12_lasts_65 (by decide) rfl ?_
    refine r_iconst (v := 0) dX12_lasts_67 rfl ?_
    refine r_istore dX12_lasts_68 (by decide) rfl ?_
    refine r_sub [2, 3, 4, 5, 6, 1, 0] rfl ?_
    exact w_X12_lasts_70 hk5 _ _ _ _ _ _ _ _ _ h
set_option maxRecDepth 100000 in
set_option maxHeartbeats 4000000 in
theorem w_X12_lasts_64 {D : k_D} {dy : Nat → Nat} {k5 : Int32 → Int32 → Int32 → Int32 → St → Option (Int32 × St)} (hk5 : ∀ (x1 : Int32) (x2 : Int32) (x3 : Int32) (x4 : Int32) (S : St) (out : Int32 × St), k5 x1 x2 x3 x4 S = some out → Rn yX12_lasts cX12_lasts 7 (some .int) (k_rm 1) 0 0 D dy S (k_Pi dy out) 5 [(0, .ref (D.2.2 51)), (1, .int x1), (2, .int x2), (3, .int x3), (4, .int x4)] []) (x1 : Int32) (x2 : Int32) (x3 : Int32) (x4 : Int32) (S : St) (out : Int32 × St) (h : f_X12_lasts_64 k5 x1 x2 x3 x4 S = some out) : Rn yX12_lasts cX12_lasts 7 (some .int) (k_rm 1) 0 0 D dy S (k_Pi dy out) 64 [(0, .ref (D.2.2 51)), (1, .int x1), (2, .int x2), (3, .int x3), (4, .int x4)] [] := by
    unfold f_X12_lasts_64 at h
    refine r_iconst (v := 0) dX12_lasts_64 rfl ?_
    exact w_X12_lasts_65 hk5 _ _ _ _ _ _ _ h
set_option maxRecDepth 100000 in
set_option maxHeartbeats 4000000 in
theorem w_X12_lasts_5 {D : k_D} {dy : Nat → Nat} : ∀ (n : Nat) (x1 : Int32) (x2 : Int32) (x3 : Int32) (x4 : Int32) (S : St) (out : Int32 × St), f_X12_lasts_5 n x1 x2 x3 x4 S = some out → Rn yX12_lasts cX12_lasts 7 (some .int) (k_rm 1) 0 0 D dy S (k_Pi dy out) 5 [(0, .ref (D.2.2 51)), (1, .int x1), (2, .int x2), (3, .int x3), (4, .int x4)] [] := by
  intro n
  induction n with
  | zero => intro x1 x2 x3 x4 S out h; cases h
  | succ n ih =>
    intro x1 x2 x3 x4 S out h
    rw [f_X12_lasts_5] at h
    refine r_iload 4 dX12_lasts_5 rfl ?_
    refine r_bipush (v := 10) dX12_lasts_7 rfl ?_
    refine r_icmp_ge (t := 157) dX12_lasts_9 (by decide) (fun c => ?_) (fun c => ?_)
    · rw [if_pos c] at h
      refine r_iload_n 3 dX12_lasts_157 rfl rfl ?_
      cases h
      exact r_iret rfl dX12_lasts_158 ⟨rfl, rfl, rfl⟩
    · rw [if_neg c] at h
      refine r_iload_n 1 dX12_lasts_12 rfl rfl ?_
      refine r_iload 4 dX12_lasts_13 rfl ?_
      obtain ⟨q15, hq15, h⟩ := g_bind h
      refine r_callSi [.int x1, .int x4] [] q15 (ok_X12_is hq15) q_1750 q_1751 q_1752 q_153 hd_X12_is ⟨Nat.le_of_ble_eq_true rfl, Nat.le_of_ble_eq_true rfl⟩ rfl rfl (Nat.le_of_ble_eq_true rfl) dX12_lasts_15 ?_
      refine r_if_eq (t := 64) dX12_lasts_18 (by decide) (fun c => ?_) (fun c => ?_)
      · rw [if_pos c] at h
        exact w_X12_lasts_64 ih _ _ _ _ _ _ h
      · rw [if_neg c] at h
        refine r_aload_n 0 dX12_lasts_21 rfl rfl ?_
        refine gf_51_3 q_1314 dX12_lasts_22 ?_
        refine r_bipush (v := 110) dX12_lasts_25 rfl ?_
        refine r_iconst (v := 2) dX12_lasts_27 rfl ?_
        refine r_iload 4 dX12_lasts_28 rfl ?_
        refine r_imul dX12_lasts_30 ?_
        refine r_iadd dX12_lasts_31 ?_
        obtain ⟨c1, h⟩ := g_ite h
        refine al_53 (k_b_in c1) dX12_lasts_32 ?_
        refine r_iload_n 2 dX12_lasts_33 rfl rfl ?_
        refine r_icmp_ne (t := 64) dX12_lasts_34 (by decide) (fun c => ?_) (fun c => ?_)
        · rw [if_neg c] at h
          exact w_X12_lasts_64 ih _ _ _ _ _ _ h
        · rw [if_pos c] at h
          refine r_aload_n 0 dX12_lasts_37 rfl rfl ?_
          refine gf_51_49 q_1360 dX12_lasts_38 ?_
          refine r_iload 4 dX12_lasts_41 rfl ?_
          obtain ⟨c2, h⟩ := g_ite h
          refine al_77 (k_b_in c2) dX12_lasts_43 ?_
          refine r_iload_n 1 dX12_lasts_44 rfl rfl ?_
          refine r_iand dX12_lasts_45 ?_
          refine r_iload_n 1 dX12_lasts_46 rfl rfl ?_
          refine r_iconst (v := 1) dX12_lasts_47 rfl ?_
          refine r_iload 4 dX12_lasts_48 rfl ?_
          refine r_ishl dX12_lasts_50 ?_
          refine r_iconst (v := -1) dX12_lasts_51 rfl ?_
          refine r_ixor dX12_lasts_52 ?_
          refine r_iand dX12_lasts_53 ?_
          refine r_iconst (v := -1) dX12_lasts_54 rfl ?_
          refine r_ixor dX12_lasts_55 ?_
          refine r_iand dX12_lasts_56 ?_
          refine r_if_ne (t := 64) dX12_lasts_57 (by decide) (fun c => ?_) (fun c => ?_)
          · rw [if_neg c] at h
            exact w_X12_lasts_64 ih _ _ _ _ _ _ h
          · rw [if_pos c] at h
            refine r_iconst (v := 1) dX12_lasts_60 rfl ?_
            refine r_goto (t := 65) dX12_lasts_61 (by decide) ?_
            exact w_X12_lasts_65 ih _ _ _ _ _ _ _ h
set_option maxRecDepth 100000 in
set_option maxHeartbeats 4000000 in
theorem w_X12_lasts_0 {D : k_D} {dy : Nat → Nat} (x1 : Int32) (x2 : Int32) (S : St) (out : Int32 × St) (h : f_X12_lasts x1 x2 S = some out) : Rn yX12_lasts cX12_lasts 7 (some .int) (k_rm 1) 0 0 D dy S (k_Pi dy out) 0 [(0, .ref (D.2.2 51)), (1, .int x1), (2, .int x2)] [] := by
    unfold f_X12_lasts at h
    refine r_iconst (v := 0) dX12_lasts_0 rfl ?_
    refine r_istore_n dX12_lasts_1 rfl (by decide) rfl ?_
    refine r_iconst (v := 0) dX12_lasts_2 rfl ?_
    refine r_istore dX12_lasts_3 (by decide) rfl ?_
    refine r_sub [2, 3, 4, 1, 0] rfl ?_
    exact w_X12_lasts_5 _ _ _ _ _ _ _ h
theorem ok_X12_lasts {D : k_D} {dy : Nat → Nat} {x1 : Int32} {x2 : Int32} {S : St} {out : Int32 × St} (h : f_X12_lasts x1 x2 S = some out) : Sp yX12_lasts cX12_lasts 7 (some .int) (k_rm 1) D dy S [.ref (D.2.2 51), .int x1, .int x2] (k_Pi dy out) := Sp.of (by decide +kernel) (Nat.le_of_ble_eq_true rfl) (w_X12_lasts_0 _ _ S out h)
noncomputable def f_X12_orders_25 (S : St) : Option (Int32 × St) := some ((-1 : Int32), S)
noncomputable def f_X12_orders_62 (s0 : Int32) (S : St) : Option (Int32 × St) := some (s0, S)
noncomputable def f_X12_orders_27 (x1 : Int32) (x2 : Int32) (S : St) : Option (Int32 × St) := (f_X12_findBefore S).bind fun q28 => (f_X12_dancesOf x1 q28).bind fun q33 => (f_X12_findOrders q33.1 q33.2).bind fun q39 => if x2 = (-1 : Int32) then if k_b q33.1 1024 = true then f_X12_orders_62 (gA q39 78 q33.1.toNatClampNeg) q39 else none else (f_X12_lasts q33.1 x2 q39).bind fun q59 => f_X12_orders_62 q59.1 q59.2
noncomputable def f_X12_orders (x1 : Int32) (x2 : Int32) (S : St) : Option (Int32 × St) := k_let (sI S 33 (0 : Int32)) fun S1 => (f_X12_isTune x1 S1).bind fun q7 => if q7.1 = 0 then f_X12_orders_25 q7.2 else if x2 = (-1 : Int32) then f_X12_orders_27 x1 x2 q7.2 else (f_X12_isDancer x2 q7.2).bind fun q19 => if q19.1 = 0 then f_X12_orders_25 q19.2 else f_X12_orders_27 x1 x2 q19.2
set_option maxRecDepth 100000 in
set_option maxHeartbeats 4000000 in
theorem w_X12_orders_25 {D : k_D} {dy : Nat → Nat} (S : St) (out : Int32 × St) (h : f_X12_orders_25 S = some out) : Rn yX12_orders cX12_orders 4 (some .int) (k_rm 2) 0 0 D dy S (k_Pi dy out) 25 [] [] := by
    unfold f_X12_orders_25 at h
    refine r_iconst (v := -1) dX12_orders_25 rfl ?_
    cases h
    exact r_iret rfl dX12_orders_26 ⟨rfl, rfl, rfl⟩
set_option maxRecDepth 100000 in
set_option maxHeartbeats 4000000 in
theorem w_X12_orders_62 {D : k_D} {dy : Nat → Nat} (s0 : Int32) (S : St) (out : Int32 × St) (h : f_X12_orders_62 s0 S = some out) : Rn yX12_orders cX12_orders 4 (some .int) (k_rm 2) 0 0 D dy S (k_Pi dy out) 62 [] [.int s0] := by
    unfold f_X12_orders_62 at h
    cases h
    exact r_iret rfl dX12_orders_62 ⟨rfl, rfl, rfl⟩
set_option maxRecDepth 100000 in
set_option maxHeartbeats 4000000 in
theorem w_X12_orders_27 {D : k_D} {dy : Nat → Nat} (x1 : Int32) (x2 : Int32) (S : St) (out : Int32 × St) (h : f_X12_orders_27 x1 x2 S = some out) : Rn yX12_orders cX12_orders 4 (some .int) (k_rm 2) 0 0 D dy S (k_Pi dy out) 27 [(0, .ref (D.2.2 51)), (1, .int x1), (2, .int x2)] [] := by
    unfold f_X12_orders_27 at h
    refine r_aload_n 0 dX12_orders_27 rfl rfl ?_
    obtain ⟨q28, hq28, h⟩ := g_bind h
    refine r_callVv [] [] q28 (ok_X12_findBefore hq28) q_1842 q_1844 q_135 q_1845 q_153 hd_X12_findBefore (ce_51 D dy _) kc12.1 rfl ⟨Nat.le_of_ble_eq_true rfl, Nat.le_of_ble_eq_true rfl⟩ rfl rfl (Nat.le_of_ble_eq_true rfl) dX12_orders_28 ?_
    refine r_aload_n 0 dX12_orders_31 rfl rfl ?_
    refine r_iload_n 1 dX12_orders_32 rfl rfl ?_
    obtain ⟨q33, hq33, h⟩ := g_bind h
    refine r_callVi [.int x1] [] q33 (ok_X12_dancesOf hq33) q_1846 q_1848 q_136 q_1849 q_153 hd_X12_dancesOf (ce_51 D dy _) kc12.1 rfl ⟨Nat.le_of_ble_eq_true rfl, Nat.le_of_ble_eq_true rfl⟩ rfl rfl (Nat.le_of_ble_eq_true rfl) dX12_orders_33 ?_
    refine r_istore_n dX12_orders_36 rfl (by decide) rfl ?_
    refine r_aload_n 1 dX12_orders_37 rfl rfl ?_
    refine r_iload_n 0 dX12_orders_38 rfl rfl ?_
    obtain ⟨q39, hq39, h⟩ := g_bind h
    refine r_callVv [.int q33.1] [] q39 (ok_X12_findOrders hq39) q_1850 q_1852 q_137 q_1853 q_153 hd_X12_findOrders (ce_51 D dy _) kc12.1 rfl ⟨Nat.le_of_ble_eq_true rfl, Nat.le_of_ble_eq_true rfl⟩ rfl rfl (Nat.le_of_ble_eq_true rfl) dX12_orders_39 ?_
    refine r_iload_n 3 dX12_orders_42 rfl rfl ?_
    refine r_iconst (v := -1) dX12_orders_43 rfl ?_
    refine r_icmp_ne (t := 56) dX12_orders_44 (by decide) (fun c => ?_) (fun c => ?_)
    · rw [if_neg c] at h
      refine r_aload_n 1 dX12_orders_56 rfl rfl ?_
      refine r_iload_n 0 dX12_orders_57 rfl rfl ?_
      refine r_iload_n 3 dX12_orders_58 rfl rfl ?_
      obtain ⟨q59, hq59, h⟩ := g_bind h
      refine r_callVi [.int q33.1, .int x2] [] q59 (ok_X12_lasts hq59) q_1854 q_1856 q_138 q_1857 q_153 hd_X12_lasts (ce_51 D dy _) kc12.1 rfl ⟨Nat.le_of_ble_eq_true rfl, Nat.le_of_ble_eq_true rfl⟩ rfl rfl (Nat.le_of_ble_eq_true rfl) dX12_orders_59 ?_
      refine r_sub [] rfl ?_
      exact w_X12_orders_62 _ _ _ h
    · rw [if_pos c] at h
      refine r_aload_n 1 dX12_orders_47 rfl rfl ?_
      refine gf_51_50 q_1361 dX12_orders_48 ?_
      refine r_iload_n 0 dX12_orders_51 rfl rfl ?_
      obtain ⟨c1, h⟩ := g_ite h
      refine al_78 (k_b_in c1) dX12_orders_52 ?_
      refine r_goto (t := 62) dX12_orders_53 (by decide) ?_
      refine r_sub [] rfl ?_
      exact w_X12_orders_62 _ _ _ h
set_option maxRecDepth 100000 in
set_option maxHeartbeats 4000000 in
theorem w_X12_orders_0 {D : k_D} {dy : Nat → Nat} (x1 : Int32) (x2 : Int32) (S : St) (out : Int32 × St) (h : f_X12_orders x1 x2 S = some out) : Rn yX12_orders cX12_orders 4 (some .int) (k_rm 2) 0 0 D dy S (k_Pi dy out) 0 [(0, .ref (D.2.2 51)), (1, .int x1), (2, .int x2)] [] := by
    unfold f_X12_orders at h
    refine r_aload_n 0 dX12_orders_0 rfl rfl ?_
    refine r_iconst (v := 0) dX12_orders_1 rfl ?_
    refine pf_51_0 q_1311 dX12_orders_2 ?_
    generalize sI S 33 (0 : Int32) = S1 at h ⊢
    replace h := g_let h
    refine r_aload_n 0 dX12_orders_5 rfl rfl ?_
    refine r_iload_n 1 dX12_orders_6 rfl rfl ?_
    obtain ⟨q7, hq7, h⟩ := g_bind h
    refine r_callVi [.int x1] [] q7 (ok_X12_isTune hq7) q_1501 q_1503 q_90 q_1504 q_153 hd_X12_isTune (ce_51 D dy _) kc12.1 rfl ⟨Nat.le_of_ble_eq_true rfl, Nat.le_of_ble_eq_true rfl⟩ rfl rfl (Nat.le_of_ble_eq_true rfl) dX12_orders_7 ?_
    refine r_if_eq (t := 25) dX12_orders_10 (by decide) (fun c => ?_) (fun c => ?_)
    · rw [if_pos c] at h
      refine r_sub [] rfl ?_
      exact w_X12_orders_25 _ _ h
    · rw [if_neg c] at h
      refine r_iload_n 2 dX12_orders_13 rfl rfl ?_
      refine r_iconst (v := -1) dX12_orders_14 rfl ?_
      refine r_icmp_eq (t := 27) dX12_orders_15 (by decide) (fun c => ?_) (fun c => ?_)
      · rw [if_pos c] at h
        exact w_X12_orders_27 _ _ _ _ h
      · rw [if_neg c] at h
        refine r_iload_n 2 dX12_orders_18 rfl rfl ?_
        obtain ⟨q19, hq19, h⟩ := g_bind h
        refine r_callSi [.int x2] [] q19 (ok_X12_isDancer hq19) q_1512 q_1513 q_1514 q_153 hd_X12_isDancer ⟨Nat.le_of_ble_eq_true rfl, Nat.le_of_ble_eq_true rfl⟩ rfl rfl (Nat.le_of_ble_eq_true rfl) dX12_orders_19 ?_
        refine r_if_ne (t := 27) dX12_orders_22 (by decide) (fun c => ?_) (fun c => ?_)
        · rw [if_neg c] at h
          exact w_X12_orders_27 _ _ _ _ h
        · rw [if_pos c] at h
          refine r_sub [] rfl ?_
          exact w_X12_orders_25 _ _ h
theorem ok_X12_orders {D : k_D} {dy : Nat → Nat} {x1 : Int32} {x2 : Int32} {S : St} {out : Int32 × St} (h : f_X12_orders x1 x2 S = some out) : Sp yX12_orders cX12_orders 4 (some .int) (k_rm 2) D dy S [.ref (D.2.2 51), .int x1, .int x2] (k_Pi dy out) := Sp.of (by decide +kernel) (Nat.le_of_ble_eq_true rfl) (w_X12_orders_0 _ _ S out h)
noncomputable def f_X12_can_61 (k35 : Int32 → Int32 → Int32 → St → Option (Int32 × St)) (x2 : Int32) (x4 : Int32) (s0 : Int32) (s1 : Int32) (S : St) : Option (Int32 × St) := k35 x2 (s0 ||| s1) (x4 + (1 : Int32)) S
noncomputable def f_X12_can_35 : Nat → Int32 → Int32 → Int32 → St → Option (Int32 × St)
  | 0, _, _, _, _ => none
  | n + 1, x2, x3, x4, S => if (8 : Int32) ≤ x4 then some (x3, S) else (f_X12_lasts x2 x4 S).bind fun q47 => if q47.1 ≤ 0 then f_X12_can_61 (f_X12_can_35 n) x2 x4 x3 (0 : Int32) q47.2 else f_X12_can_61 (f_X12_can_35 n) x2 x4 x3 ((1 : Int32) <<< (x4 &&& 31)) q47.2
noncomputable def f_X12_can (x1 : Int32) (S : St) : Option (Int32 × St) := k_let (sI S 33 (0 : Int32)) fun S1 => (f_X12_isTune x1 S1).bind fun q7 => if q7.1 = 0 then some ((-1 : Int32), q7.2) else (f_X12_findBefore q7.2).bind fun q16 => (f_X12_dancesOf x1 q16).bind fun q21 => (f_X12_findOrders q21.1 q21.2).bind fun q27 => f_X12_can_35 FU q21.1 (0 : Int32) (0 : Int32) q27
set_option maxRecDepth 100000 in
set_option maxHeartbeats 4000000 in
theorem w_X12_can_61 {D : k_D} {dy : Nat → Nat} {k35 : Int32 → Int32 → Int32 → St → Option (Int32 × St)} (hk35 : ∀ (x2 : Int32) (x3 : Int32) (x4 : Int32) (S : St) (out : Int32 × St), k35 x2 x3 x4 S = some out → Rn yX12_can cX12_can 5 (some .int) (k_rm 2) 0 0 D dy S (k_Pi dy out) 35 [(0, .ref (D.2.2 51)), (2, .int x2), (3, .int x3), (4, .int x4)] []) (x2 : Int32) (x4 : Int32) (s0 : Int32) (s1 : Int32) (S : St) (out : Int32 × St) (h : f_X12_can_61 k35 x2 x4 s0 s1 S = some out) : Rn yX12_can cX12_can 5 (some .int) (k_rm 2) 0 0 D dy S (k_Pi dy out) 61 [(0, .ref (D.2.2 51)), (2, .int x2), (4, .int x4)] [.int s1, .int s0] := by
    unfold f_X12_can_61 at h
    refine r_ior dX12_can_61 ?_
    refine r_istore_n dX12_can_62 rfl (by decide) rfl ?_
    refine r_iinc (q := 3) (v := x4 + (1 : Int32)) dX12_can_63 rfl rfl (by decide) rfl ?_
    refine r_goto (t := 35) dX12_can_66 (by decide) ?_
    refine r_sub [2, 3, 1, 0] rfl ?_
    exact hk35 _ _ _ _ _ h
set_option maxRecDepth 100000 in
set_option maxHeartbeats 4000000 in
theorem w_X12_can_35 {D : k_D} {dy : Nat → Nat} : ∀ (n : Nat) (x2 : Int32) (x3 : Int32) (x4 : Int32) (S : St) (out : Int32 × St), f_X12_can_35 n x2 x3 x4 S = some out → Rn yX12_can cX12_can 5 (some .int) (k_rm 2) 0 0 D dy S (k_Pi dy out) 35 [(0, .ref (D.2.2 51)), (2, .int x2), (3, .int x3), (4, .int x4)] [] := by
  intro n
  induction n with
  | zero => intro x2 x3 x4 S out h; cases h
  | succ n ih =>
    intro x2 x3 x4 S out h
    rw [f_X12_can_35] at h
    refine r_iload 3 dX12_can_35 rfl ?_
    refine r_bipush (v := 8) dX12_can_37 rfl ?_
    refine r_icmp_ge (t := 69) dX12_can_39 (by decide) (fun c => ?_) (fun c => ?_)
    · rw [if_pos c] at h
      refine r_iload_n 2 dX12_can_69 rfl rfl ?_
      cases h
      exact r_iret rfl dX12_can_70 ⟨rfl, rfl, rfl⟩
    · rw [if_neg c] at h
      refine r_iload_n 2 dX12_can_42 rfl rfl ?_
      refine r_aload_n 0 dX12_can_43 rfl rfl ?_
      refine r_iload_n 1 dX12_can_44 rfl rfl ?_
      refine r_iload 3 dX12_can_45 rfl ?_
      obtain ⟨q47, hq47, h⟩ := g_bind h
      refine r_callVi [.int x2, .int x4] [.int x3] q47 (ok_X12_lasts hq47) q_1854 q_1856 q_138 q_1857 q_153 hd_X12_lasts (ce_51 D dy _) kc12.1 rfl ⟨Nat.le_of_ble_eq_true rfl, Nat.le_of_ble_eq_true rfl⟩ rfl rfl (Nat.le_of_ble_eq_true rfl) dX12_can_47 ?_
      refine r_if_le (t := 60) dX12_can_50 (by decide) (fun c => ?_) (fun c => ?_)
      · rw [if_pos c] at h
        refine r_iconst (v := 0) dX12_can_60 rfl ?_
        refine r_sub [0, 1, 3] rfl ?_
        exact w_X12_can_61 ih _ _ _ _ _ _ h
      · rw [if_neg c] at h
        refine r_iconst (v := 1) dX12_can_53 rfl ?_
        refine r_iload 3 dX12_can_54 rfl ?_
        refine r_ishl dX12_can_56 ?_
        refine r_goto (t := 61) dX12_can_57 (by decide) ?_
        refine r_sub [0, 1, 3] rfl ?_
        exact w_X12_can_61 ih _ _ _ _ _ _ h
set_option maxRecDepth 100000 in
set_option maxHeartbeats 4000000 in
theorem w_X12_can_0 {D : k_D} {dy : Nat → Nat} (x1 : Int32) (S : St) (out : Int32 × St) (h : f_X12_can x1 S = some out) : Rn yX12_can cX12_can 5 (some .int) (k_rm 2) 0 0 D dy S (k_Pi dy out) 0 [(0, .ref (D.2.2 51)), (1, .int x1)] [] := by
    unfold f_X12_can at h
    refine r_aload_n 0 dX12_can_0 rfl rfl ?_
    refine r_iconst (v := 0) dX12_can_1 rfl ?_
    refine pf_51_0 q_1311 dX12_can_2 ?_
    generalize sI S 33 (0 : Int32) = S1 at h ⊢
    replace h := g_let h
    refine r_aload_n 0 dX12_can_5 rfl rfl ?_
    refine r_iload_n 1 dX12_can_6 rfl rfl ?_
    obtain ⟨q7, hq7, h⟩ := g_bind h
    refine r_callVi [.int x1] [] q7 (ok_X12_isTune hq7) q_1501 q_1503 q_90 q_1504 q_153 hd_X12_isTune (ce_51 D dy _) kc12.1 rfl ⟨Nat.le_of_ble_eq_true rfl, Nat.le_of_ble_eq_true rfl⟩ rfl rfl (Nat.le_of_ble_eq_true rfl) dX12_can_7 ?_
    refine r_if_ne (t := 15) dX12_can_10 (by decide) (fun c => ?_) (fun c => ?_)
    · rw [if_neg c] at h
      refine r_aload_n 0 dX12_can_15 rfl rfl ?_
      obtain ⟨q16, hq16, h⟩ := g_bind h
      refine r_callVv [] [] q16 (ok_X12_findBefore hq16) q_1842 q_1844 q_135 q_1845 q_153 hd_X12_findBefore (ce_51 D dy _) kc12.1 rfl ⟨Nat.le_of_ble_eq_true rfl, Nat.le_of_ble_eq_true rfl⟩ rfl rfl (Nat.le_of_ble_eq_true rfl) dX12_can_16 ?_
      refine r_aload_n 0 dX12_can_19 rfl rfl ?_
      refine r_iload_n 1 dX12_can_20 rfl rfl ?_
      obtain ⟨q21, hq21, h⟩ := g_bind h
      refine r_callVi [.int x1] [] q21 (ok_X12_dancesOf hq21) q_1846 q_1848 q_136 q_1849 q_153 hd_X12_dancesOf (ce_51 D dy _) kc12.1 rfl ⟨Nat.le_of_ble_eq_true rfl, Nat.le_of_ble_eq_true rfl⟩ rfl rfl (Nat.le_of_ble_eq_true rfl) dX12_can_21 ?_
      refine r_istore_n dX12_can_24 rfl (by decide) rfl ?_
      refine r_aload_n 1 dX12_can_25 rfl rfl ?_
      refine r_iload_n 0 dX12_can_26 rfl rfl ?_
      obtain ⟨q27, hq27, h⟩ := g_bind h
      refine r_callVv [.int q21.1] [] q27 (ok_X12_findOrders hq27) q_1850 q_1852 q_137 q_1853 q_153 hd_X12_findOrders (ce_51 D dy _) kc12.1 rfl ⟨Nat.le_of_ble_eq_true rfl, Nat.le_of_ble_eq_true rfl⟩ rfl rfl (Nat.le_of_ble_eq_true rfl) dX12_can_27 ?_
      refine r_iconst (v := 0) dX12_can_30 rfl ?_
      refine r_istore_n dX12_can_31 rfl (by decide) rfl ?_
      refine r_iconst (v := 0) dX12_can_32 rfl ?_
      refine r_istore dX12_can_33 (by decide) rfl ?_
      refine r_sub [3, 2, 1, 0] rfl ?_
      exact w_X12_can_35 _ _ _ _ _ _ h
    · rw [if_pos c] at h
      refine r_iconst (v := -1) dX12_can_13 rfl ?_
      cases h
      exact r_iret rfl dX12_can_14 ⟨rfl, rfl, rfl⟩
theorem ok_X12_can {D : k_D} {dy : Nat → Nat} {x1 : Int32} {S : St} {out : Int32 × St} (h : f_X12_can x1 S = some out) : Sp yX12_can cX12_can 5 (some .int) (k_rm 2) D dy S [.ref (D.2.2 51), .int x1] (k_Pi dy out) := Sp.of (by decide +kernel) (Nat.le_of_ble_eq_true rfl) (w_X12_can_0 _ S out h)
noncomputable def f_X12_draw (x1 : Int32) (S : St) : Option (Int32 × St) := k_let (sJ S 3 ((((gJ S 3) * (1103 : Int64)) + (12345 : Int64)) - (((gJ S 3) * (1103 : Int64)) + (12345 : Int64)) / (1000003 : Int64) * (1000003 : Int64))) fun S1 => if ¬ x1.toInt64 = 0 then some (((gJ S1 3) - (gJ S1 3) / x1.toInt64 * x1.toInt64).toInt32, S1) else none
set_option maxRecDepth 100000 in
set_option maxHeartbeats 4000000 in
theorem w_X12_draw_0 {D : k_D} {dy : Nat → Nat} (x1 : Int32) (S : St) (out : Int32 × St) (h : f_X12_draw x1 S = some out) : Rn yX12_draw cX12_draw 2 (some .int) (k_rm 0) 0 0 D dy S (k_Pi dy out) 0 [(0, .ref (D.2.2 51)), (1, .int x1)] [] := by
    unfold f_X12_draw at h
    refine r_aload_n 0 dX12_draw_0 rfl rfl ?_
    refine r_aload_n 0 dX12_draw_1 rfl rfl ?_
    refine gf_51_54 q_1365 dX12_draw_2 ?_
    refine r_ldc2 (v := 1103) q_1870 dX12_draw_5 ?_
    refine r_lmul dX12_draw_8 ?_
    refine r_ldc2 (v := 12345) q_1871 dX12_draw_9 ?_
    refine r_ladd dX12_draw_12 ?_
    refine r_ldc2 (v := 1000003) q_1872 dX12_draw_13 ?_
    refine r_lrem dX12_draw_16 (by decide) ?_
    refine pf_51_54 q_1365 dX12_draw_17 ?_
    generalize sJ S 3 ((((gJ S 3) * (1103 : Int64)) + (12345 : Int64)) - (((gJ S 3) * (1103 : Int64)) + (12345 : Int64)) / (1000003 : Int64) * (1000003 : Int64)) = S1 at h ⊢
    replace h := g_let h
    refine r_aload_n 0 dX12_draw_20 rfl rfl ?_
    refine gf_51_54 q_1365 dX12_draw_21 ?_
    refine r_iload_n 1 dX12_draw_24 rfl rfl ?_
    refine r_i2l dX12_draw_25 ?_
    obtain ⟨c2, h⟩ := g_ite h
    refine r_lrem dX12_draw_26 c2 ?_
    refine r_l2i dX12_draw_27 ?_
    cases h
    exact r_iret rfl dX12_draw_28 ⟨rfl, rfl, rfl⟩
theorem ok_X12_draw {D : k_D} {dy : Nat → Nat} {x1 : Int32} {S : St} {out : Int32 × St} (h : f_X12_draw x1 S = some out) : Sp yX12_draw cX12_draw 2 (some .int) (k_rm 0) D dy S [.ref (D.2.2 51), .int x1] (k_Pi dy out) := Sp.of (by decide +kernel) (Nat.le_of_ble_eq_true rfl) (w_X12_draw_0 _ S out h)
noncomputable def f_X12_evenings_29 (S : St) : Option (Int32 × St) := (f_X12_tell (-1 : Int32) S).bind fun q31 => some (q31.1, q31.2)
noncomputable def f_X12_evenings_317 (k246 : Int32 → Int32 → Int32 → Int32 → St → Option (Int32 × St)) (x3 : Int32) (x4 : Int32) (x6 : Int32) (s0 : Int32) (s1 : Int32) (S : St) : Option (Int32 × St) := k246 x3 x4 (s0 ||| s1) (x6 + (1 : Int32)) S
noncomputable def f_X12_evenings_288 (k246 : Int32 → Int32 → Int32 → Int32 → St → Option (Int32 × St)) (x3 : Int32) (x4 : Int32) (x5 : Int32) (x6 : Int32) (s1 : Int32) (s2 : Int32) (s3 : Int32) (S : St) : Option (Int32 × St) := if k_b s1 16 = true then k_let (sA S 80 s1.toNatClampNeg (s2 + s3)) fun S2 => if k_b x6 16 = true then if (gA S2 79 x6.toNatClampNeg) = x4 then (f_X12_ofDebt x6 (1 : Int32) S2).bind fun q309 => f_X12_evenings_317 k246 x3 x4 x6 x5 ((1 : Int32) <<< (q309.1 &&& 31)) q309.2 else f_X12_evenings_317 k246 x3 x4 x6 x5 (0 : Int32) S2 else none else none
noncomputable def f_X12_evenings_246 (k223 : Int32 → Int32 → St → Option (Int32 × St)) : Nat → Int32 → Int32 → Int32 → Int32 → St → Option (Int32 × St)
  | 0, _, _, _, _, _ => none
  | n + 1, x3, x4, x5, x6, S => (f_X12_debts S).bind fun q249 => if q249.1 ≤ x6 then (f_X12_bits x5 q249.2).bind fun q338 => if k_b (((2 : Int32) * x4) + (1 : Int32)) 16 = true then k_let (sA q338.2 80 (((2 : Int32) * x4) + (1 : Int32)).toNatClampNeg q338.1) fun S2 => k223 x3 (x4 + (1 : Int32)) S2 else none else if k_b ((2 : Int32) * x4) 16 = true then if k_b x6 16 = true then if (gA q249.2 79 x6.toNatClampNeg) = x4 then (f_X12_ofDebt x6 (3 : Int32) q249.2).bind fun q281 => f_X12_evenings_288 (f_X12_evenings_246 k223 n) x3 x4 x5 x6 ((2 : Int32) * x4) (gA q249.2 80 ((2 : Int32) * x4).toNatClampNeg) q281.1 q281.2 else f_X12_evenings_288 (f_X12_evenings_246 k223 n) x3 x4 x5 x6 ((2 : Int32) * x4) (gA q249.2 80 ((2 : Int32) * x4).toNatClampNeg) (0 : Int32) q249.2 else none else none
noncomputable def f_X12_evenings_223 : Nat → Int32 → Int32 → St → Option (Int32 × St)
  | 0, _, _, _ => none
  | n + 1, x3, x4, S => if (8 : Int32) ≤ x4 then (f_X12_tell x3 S).bind fun q350 => some (q350.1, q350.2) else if k_b ((2 : Int32) * x4) 16 = true then k_let (sA S 80 ((2 : Int32) * x4).toNatClampNeg (0 : Int32)) fun S2 => f_X12_evenings_246 (f_X12_evenings_223 n) FU x3 x4 (0 : Int32) (0 : Int32) S2 else none
noncomputable def f_X12_evenings_215 (x3 : Int32) (S : St) : Option (Int32 × St) := k_let (sI S 54 (1 : Int32)) fun S1 => f_X12_evenings_223 FU x3 (0 : Int32) S1
noncomputable def f_X12_evenings_209 (k74 : Int32 → Int32 → Int32 → St → Option (Int32 × St)) (x2 : Int32) (x3 : Int32) (x4 : Int32) (S : St) : Option (Int32 × St) := k74 x2 x3 (x4 + (1 : Int32)) S
noncomputable def f_X12_evenings_183 (k123 : Int32 → Int32 → Int32 → Int32 → Int32 → Int32 → Int32 → St → Option (Int32 × St)) (x2 : Int32) (x3 : Int32) (x4 : Int32) (x5 : Int32) (x6 : Int32) (x8 : Int32) (s0 : Int32) (S : St) : Option (Int32 × St) := k123 x2 x3 x4 x5 x6 s0 (x8 + (-1 : Int32)) S
noncomputable def f_X12_evenings_169 (k123 : Int32 → Int32 → Int32 → Int32 → Int32 → Int32 → Int32 → St → Option (Int32 × St)) (x2 : Int32) (x3 : Int32) (x4 : Int32) (x5 : Int32) (x6 : Int32) (x7 : Int32) (x8 : Int32) (s0 : Int32) (S : St) : Option (Int32 × St) := if s0 = 0 then f_X12_evenings_183 k123 x2 x3 x4 x5 x6 x8 x7 S else f_X12_evenings_183 k123 x2 x3 x4 x5 x6 x8 x8 S
noncomputable def f_X12_evenings_168 (k123 : Int32 → Int32 → Int32 → Int32 → Int32 → Int32 → Int32 → St → Option (Int32 × St)) (x2 : Int32) (x3 : Int32) (x4 : Int32) (x5 : Int32) (x6 : Int32) (x7 : Int32) (x8 : Int32) (S : St) : Option (Int32 × St) := f_X12_evenings_169 k123 x2 x3 x4 x5 x6 x7 x8 (0 : Int32) S
noncomputable def f_X12_evenings_123 (k74 : Int32 → Int32 → Int32 → St → Option (Int32 × St)) : Nat → Int32 → Int32 → Int32 → Int32 → Int32 → Int32 → Int32 → St → Option (Int32 × St)
  | 0, _, _, _, _, _, _, _, _ => none
  | n + 1, x2, x3, x4, x5, x6, x7, x8, S => if x8 < 0 then if x7 = (-1 : Int32) then f_X12_evenings_209 k74 x2 x3 x4 S else if k_b x7 16 = true then k_let (sA S 79 x7.toNatClampNeg x5) fun S2 => f_X12_evenings_209 k74 x2 (x3 + (1 : Int32)) x4 S2 else none else (f_X12_ofDebt x8 (2 : Int32) S).bind fun q132 => if q132.1 = x6 then if k_b x8 16 = true then if (gA q132.2 79 x8.toNatClampNeg) = x5 then f_X12_evenings_168 (f_X12_evenings_123 k74 n) x2 x3 x4 x5 x6 x7 x8 q132.2 else (f_X12_ofDebt x8 (1 : Int32) q132.2).bind fun q156 => if q156.1 = x5 then f_X12_evenings_168 (f_X12_evenings_123 k74 n) x2 x3 x4 x5 x6 x7 x8 q156.2 else f_X12_evenings_169 (f_X12_evenings_123 k74 n) x2 x3 x4 x5 x6 x7 x8 (1 : Int32) q156.2 else none else f_X12_evenings_168 (f_X12_evenings_123 k74 n) x2 x3 x4 x5 x6 x7 x8 q132.2
noncomputable def f_X12_evenings_74 : Nat → Int32 → Int32 → Int32 → St → Option (Int32 × St)
  | 0, _, _, _, _ => none
  | n + 1, x2, x3, x4, S => if ((6 : Int32) * x2) ≤ x4 then f_X12_evenings_215 x3 S else if k_b (0 : Int32) 5560 = true then if (gA S 53 (0 : Int32).toNatClampNeg) ≤ 0 then f_X12_evenings_215 x3 S else (f_X12_draw (8 : Int32) S).bind fun q95 => if k_b (0 : Int32) 5560 = true then (f_X12_draw (gA q95.2 53 (0 : Int32).toNatClampNeg) q95.2).bind fun q107 => (f_X12_debts q107.2).bind fun q116 => f_X12_evenings_123 (f_X12_evenings_74 n) FU x2 x3 x4 q95.1 q107.1 (-1 : Int32) (q116.1 - (1 : Int32)) q116.2 else none else none
noncomputable def f_X12_evenings_43 : Nat → Int32 → Int32 → St → Option (Int32 × St)
  | 0, _, _, _ => none
  | n + 1, x2, x3, S => (f_X12_debts S).bind fun q45 => if q45.1 ≤ x3 then f_X12_evenings_74 FU x2 (0 : Int32) (0 : Int32) q45.2 else (f_X12_ofDebt x3 (0 : Int32) q45.2).bind fun q59 => if k_b x3 16 = true then k_let (sA q59.2 79 x3.toNatClampNeg q59.1) fun S2 => f_X12_evenings_43 n x2 (x3 + (1 : Int32)) S2 else none
noncomputable def f_X12_evenings (x1 : Int32) (x2 : Int32) (S : St) : Option (Int32 × St) := k_let (sI S 33 (0 : Int32)) fun S1 => (f_X12_in x1.toInt64 (0 : Int64) (1000000 : Int64) S1).bind fun q11 => if q11.1 = 0 then f_X12_evenings_29 q11.2 else (f_X12_in x2.toInt64 (1 : Int64) (20 : Int64) q11.2).bind fun q23 => if q23.1 = 0 then f_X12_evenings_29 q23.2 else k_let (sJ q23.2 3 x1.toInt64) fun S2 => f_X12_evenings_43 FU x2 (0 : Int32) S2
set_option maxRecDepth 100000 in
set_option maxHeartbeats 4000000 in
theorem w_X12_evenings_29 {D : k_D} {dy : Nat → Nat} (S : St) (out : Int32 × St) (h : f_X12_evenings_29 S = some out) : Rn yX12_evenings cX12_evenings 10 (some .int) (k_rm 1) 0 0 D dy S (k_Pi dy out) 29 [(0, .ref (D.2.2 51))] [] := by
    unfold f_X12_evenings_29 at h
    refine r_aload_n 0 dX12_evenings_29 rfl rfl ?_
    refine r_iconst (v := -1) dX12_evenings_30 rfl ?_
    obtain ⟨q31, hq31, h⟩ := g_bind h
    refine r_callVi [.int (-1 : Int32)] [] q31 (ok_X12_tell hq31) q_1484 q_1486 q_89 q_1487 q_153 hd_X12_tell (ce_51 D dy _) kc12.1 rfl ⟨Nat.le_of_ble_eq_true rfl, Nat.le_of_ble_eq_true rfl⟩ rfl rfl (Nat.le_of_ble_eq_true rfl) dX12_evenings_31 ?_
    cases h
    exact r_iret rfl dX12_evenings_34 ⟨rfl, rfl, rfl⟩
set_option maxRecDepth 100000 in
set_option maxHeartbeats 4000000 in
theorem w_X12_evenings_317 {D : k_D} {dy : Nat → Nat} {k246 : Int32 → Int32 → Int32 → Int32 → St → Option (Int32 × St)} (hk246 : ∀ (x3 : Int32) (x4 : Int32) (x5 : Int32) (x6 : Int32) (S : St) (out : Int32 × St), k246 x3 x4 x5 x6 S = some out → Rn yX12_evenings cX12_evenings 10 (some .int) (k_rm 1) 0 0 D dy S (k_Pi dy out) 246 [(0, .ref (D.2.2 51)), (3, .int x3), (4, .int x4), (5, .int x5), (6, .int x6)] []) (x3 : Int32) (x4 : Int32) (x6 : Int32) (s0 : Int32) (s1 : Int32) (S : St) (out : Int32 × St) (h : f_X12_evenings_317 k246 x3 x4 x6 s0 s1 S = some out) : Rn yX12_evenings cX12_evenings 10 (some .int) (k_rm 1) 0 0 D dy S (k_Pi dy out) 317 [(0, .ref (D.2.2 51)), (3, .int x3), (4, .int x4), (6, .int x6)] [.int s1, .int s0] := by
    unfold f_X12_evenings_317 at h
    refine r_ior dX12_evenings_317 ?_
    refine r_istore dX12_evenings_318 (by decide) rfl ?_
    refine r_iinc (q := 4) (v := x6 + (1 : Int32)) dX12_evenings_320 rfl rfl (by decide) rfl ?_
    refine r_goto (t := 246) dX12_evenings_323 (by decide) ?_
    refine r_sub [2, 3, 4, 1, 0] rfl ?_
    exact hk246 _ _ _ _ _ _ h
set_option maxRecDepth 100000 in
set_option maxHeartbeats 4000000 in
theorem w_X12_evenings_288 {D : k_D} {dy : Nat → Nat} {k246 : Int32 → Int32 → Int32 → Int32 → St → Option (Int32 × St)} (hk246 : ∀ (x3 : Int32) (x4 : Int32) (x5 : Int32) (x6 : Int32) (S : St) (out : Int32 × St), k246 x3 x4 x5 x6 S = some out → Rn yX12_evenings cX12_evenings 10 (some .int) (k_rm 1) 0 0 D dy S (k_Pi dy out) 246 [(0, .ref (D.2.2 51)), (3, .int x3), (4, .int x4), (5, .int x5), (6, .int x6)] []) (x3 : Int32) (x4 : Int32) (x5 : Int32) (x6 : Int32) (s1 : Int32) (s2 : Int32) (s3 : Int32) (S : St) (out : Int32 × St) (h : f_X12_evenings_288 k246 x3 x4 x5 x6 s1 s2 s3 S = some out) : Rn yX12_evenings cX12_evenings 10 (some .int) (k_rm 1) 0 0 D dy S (k_Pi dy out) 288 [(0, .ref (D.2.2 51)), (3, .int x3), (4, .int x4), (5, .int x5), (6, .int x6)] [.int s3, .int s2, .int s1, .ref (D.2.2 80)] := by
    unfold f_X12_evenings_288 at h
    refine r_iadd dX12_evenings_288 ?_
    obtain ⟨c1, h⟩ := g_ite h
    refine as_80 (k_b_in c1) dX12_evenings_289 ?_
    generalize sA S 80 s1.toNatClampNeg (s2 + s3) = S2 at h ⊢
    replace h := g_let h
    refine r_iload 3 dX12_evenings_290 rfl ?_
    refine r_aload_n 0 dX12_evenings_292 rfl rfl ?_
    refine gf_51_51 q_1362 dX12_evenings_293 ?_
    refine r_iload 4 dX12_evenings_296 rfl ?_
    obtain ⟨c3, h⟩ := g_ite h
    refine al_79 (k_b_in c3) dX12_evenings_298 ?_
    refine r_iload 2 dX12_evenings_299 rfl ?_
    refine r_icmp_ne (t := 316) dX12_evenings_301 (by decide) (fun c => ?_) (fun c => ?_)
    · rw [if_neg c] at h
      refine r_iconst (v := 0) dX12_evenings_316 rfl ?_
      refine r_sub [0, 1, 2, 4] rfl ?_
      exact w_X12_evenings_317 hk246 _ _ _ _ _ _ _ h
    · rw [if_pos c] at h
      refine r_iconst (v := 1) dX12_evenings_304 rfl ?_
      refine r_aload_n 0 dX12_evenings_305 rfl rfl ?_
      refine r_iload 4 dX12_evenings_306 rfl ?_
      refine r_iconst (v := 1) dX12_evenings_308 rfl ?_
      obtain ⟨q309, hq309, h⟩ := g_bind h
      refine r_callVi [.int x6, .int (1 : Int32)] [.int (1 : Int32), .int x5] q309 (ok_X12_ofDebt hq309) q_1533 q_1535 q_94 q_1536 q_153 hd_X12_ofDebt (ce_51 D dy _) kc12.1 rfl ⟨Nat.le_of_ble_eq_true rfl, Nat.le_of_ble_eq_true rfl⟩ rfl rfl (Nat.le_of_ble_eq_true rfl) dX12_evenings_309 ?_
      refine r_ishl dX12_evenings_312 ?_
      refine r_goto (t := 317) dX12_evenings_313 (by decide) ?_
      refine r_sub [0, 1, 2, 4] rfl ?_
      exact w_X12_evenings_317 hk246 _ _ _ _ _ _ _ h
set_option maxRecDepth 100000 in
set_option maxHeartbeats 4000000 in
theorem w_X12_evenings_246 {D : k_D} {dy : Nat → Nat} {k223 : Int32 → Int32 → St → Option (Int32 × St)} (hk223 : ∀ (x3 : Int32) (x4 : Int32) (S : St) (out : Int32 × St), k223 x3 x4 S = some out → Rn yX12_evenings cX12_evenings 10 (some .int) (k_rm 1) 0 0 D dy S (k_Pi dy out) 223 [(0, .ref (D.2.2 51)), (3, .int x3), (4, .int x4)] []) : ∀ (n : Nat) (x3 : Int32) (x4 : Int32) (x5 : Int32) (x6 : Int32) (S : St) (out : Int32 × St), f_X12_evenings_246 k223 n x3 x4 x5 x6 S = some out → Rn yX12_evenings cX12_evenings 10 (some .int) (k_rm 1) 0 0 D dy S (k_Pi dy out) 246 [(0, .ref (D.2.2 51)), (3, .int x3), (4, .int x4), (5, .int x5), (6, .int x6)] [] := by
  intro n
  induction n with
  | zero => intro x3 x4 x5 x6 S out h; cases h
  | succ n ih =>
    intro x3 x4 x5 x6 S out h
    rw [f_X12_evenings_246] at h
    refine r_iload 4 dX12_evenings_246 rfl ?_
    refine r_aload_n 0 dX12_evenings_248 rfl rfl ?_
    obtain ⟨q249, hq249, h⟩ := g_bind h
    refine r_callVi [] [.int x6] q249 (ok_X12_debts hq249) q_1517 q_1519 q_91 q_1520 q_153 hd_X12_debts (ce_51 D dy _) kc12.1 rfl ⟨Nat.le_of_ble_eq_true rfl, Nat.le_of_ble_eq_true rfl⟩ rfl rfl (Nat.le_of_ble_eq_true rfl) dX12_evenings_249 ?_
    refine r_icmp_ge (t := 326) dX12_evenings_252 (by decide) (fun c => ?_) (fun c => ?_)
    · rw [if_pos c] at h
      refine r_aload_n 0 dX12_evenings_326 rfl rfl ?_
      refine gf_51_52 q_1363 dX12_evenings_327 ?_
      refine r_iconst (v := 2) dX12_evenings_330 rfl ?_
      refine r_iload 2 dX12_evenings_331 rfl ?_
      refine r_imul dX12_evenings_333 ?_
      refine r_iconst (v := 1) dX12_evenings_334 rfl ?_
      refine r_iadd dX12_evenings_335 ?_
      refine r_iload 3 dX12_evenings_336 rfl ?_
      obtain ⟨q338, hq338, h⟩ := g_bind h
      refine r_callSi [.int x5] [.int (((2 : Int32) * x4) + (1 : Int32)), .ref (D.2.2 80)] q338 (ok_X12_bits hq338) q_1753 q_1754 q_1755 q_153 hd_X12_bits ⟨Nat.le_of_ble_eq_true rfl, Nat.le_of_ble_eq_true rfl⟩ rfl rfl (Nat.le_of_ble_eq_true rfl) dX12_evenings_338 ?_
      obtain ⟨c1, h⟩ := g_ite h
      refine as_80 (k_b_in c1) dX12_evenings_341 ?_
      generalize sA q338.2 80 (((2 : Int32) * x4) + (1 : Int32)).toNatClampNeg q338.1 = S2 at h ⊢
      replace h := g_let h
      refine r_iinc (q := 2) (v := x4 + (1 : Int32)) dX12_evenings_342 rfl rfl (by decide) rfl ?_
      refine r_goto (t := 223) dX12_evenings_345 (by decide) ?_
      refine r_sub [1, 2, 0] rfl ?_
      exact hk223 _ _ _ _ h
    · rw [if_neg c] at h
      refine r_aload_n 0 dX12_evenings_255 rfl rfl ?_
      refine gf_51_52 q_1363 dX12_evenings_256 ?_
      refine r_iconst (v := 2) dX12_evenings_259 rfl ?_
      refine r_iload 2 dX12_evenings_260 rfl ?_
      refine r_imul dX12_evenings_262 ?_
      refine r_dup2 dX12_evenings_263 rfl rfl ?_
      obtain ⟨c3, h⟩ := g_ite h
      refine al_80 (k_b_in c3) dX12_evenings_264 ?_
      refine r_aload_n 0 dX12_evenings_265 rfl rfl ?_
      refine gf_51_51 q_1362 dX12_evenings_266 ?_
      refine r_iload 4 dX12_evenings_269 rfl ?_
      obtain ⟨c4, h⟩ := g_ite h
      refine al_79 (k_b_in c4) dX12_evenings_271 ?_
      refine r_iload 2 dX12_evenings_272 rfl ?_
      refine r_icmp_ne (t := 287) dX12_evenings_274 (by decide) (fun c => ?_) (fun c => ?_)
      · rw [if_neg c] at h
        refine r_iconst (v := 0) dX12_evenings_287 rfl ?_
        exact w_X12_evenings_288 ih _ _ _ _ _ _ _ _ _ h
      · rw [if_pos c] at h
        refine r_aload_n 0 dX12_evenings_277 rfl rfl ?_
        refine r_iload 4 dX12_evenings_278 rfl ?_
        refine r_iconst (v := 3) dX12_evenings_280 rfl ?_
        obtain ⟨q281, hq281, h⟩ := g_bind h
        refine r_callVi [.int x6, .int (3 : Int32)] [.int (gA q249.2 80 ((2 : Int32) * x4).toNatClampNeg), .int ((2 : Int32) * x4), .ref (D.2.2 80)] q281 (ok_X12_ofDebt hq281) q_1533 q_1535 q_94 q_1536 q_153 hd_X12_ofDebt (ce_51 D dy _) kc12.1 rfl ⟨Nat.le_of_ble_eq_true rfl, Nat.le_of_ble_eq_true rfl⟩ rfl rfl (Nat.le_of_ble_eq_true rfl) dX12_evenings_281 ?_
        refine r_goto (t := 288) dX12_evenings_284 (by decide) ?_
        exact w_X12_evenings_288 ih _ _ _ _ _ _ _ _ _ h
set_option maxRecDepth 100000 in
set_option maxHeartbeats 4000000 in
theorem w_X12_evenings_223 {D : k_D} {dy : Nat → Nat} : ∀ (n : Nat) (x3 : Int32) (x4 : Int32) (S : St) (out : Int32 × St), f_X12_evenings_223 n x3 x4 S = some out → Rn yX12_evenings cX12_evenings 10 (some .int) (k_rm 1) 0 0 D dy S (k_Pi dy out) 223 [(0, .ref (D.2.2 51)), (3, .int x3), (4, .int x4)] [] := by
  intro n
  induction n with
  | zero => intro x3 x4 S out h; cases h
  | succ n ih =>
    intro x3 x4 S out h
    rw [f_X12_evenings_223] at h
    refine r_iload 2 dX12_evenings_223 rfl ?_
    refine r_bipush (v := 8) dX12_evenings_225 rfl ?_
    refine r_icmp_ge (t := 348) dX12_evenings_227 (by decide) (fun c => ?_) (fun c => ?_)
    · rw [if_pos c] at h
      refine r_aload_n 0 dX12_evenings_348 rfl rfl ?_
      refine r_iload_n 1 dX12_evenings_349 rfl rfl ?_
      obtain ⟨q350, hq350, h⟩ := g_bind h
      refine r_callVi [.int x3] [] q350 (ok_X12_tell hq350) q_1484 q_1486 q_89 q_1487 q_153 hd_X12_tell (ce_51 D dy _) kc12.1 rfl ⟨Nat.le_of_ble_eq_true rfl, Nat.le_of_ble_eq_true rfl⟩ rfl rfl (Nat.le_of_ble_eq_true rfl) dX12_evenings_350 ?_
      cases h
      exact r_iret rfl dX12_evenings_353 ⟨rfl, rfl, rfl⟩
    · rw [if_neg c] at h
      refine r_iconst (v := 0) dX12_evenings_230 rfl ?_
      refine r_istore dX12_evenings_231 (by decide) rfl ?_
      refine r_aload_n 1 dX12_evenings_233 rfl rfl ?_
      refine gf_51_52 q_1363 dX12_evenings_234 ?_
      refine r_iconst (v := 2) dX12_evenings_237 rfl ?_
      refine r_iload 3 dX12_evenings_238 rfl ?_
      refine r_imul dX12_evenings_240 ?_
      refine r_iconst (v := 0) dX12_evenings_241 rfl ?_
      obtain ⟨c1, h⟩ := g_ite h
      refine as_80 (k_b_in c1) dX12_evenings_242 ?_
      generalize sA S 80 ((2 : Int32) * x4).toNatClampNeg (0 : Int32) = S2 at h ⊢
      replace h := g_let h
      refine r_iconst (v := 0) dX12_evenings_243 rfl ?_
      refine r_istore dX12_evenings_244 (by decide) rfl ?_
      refine r_sub [2, 3, 4, 1, 0] rfl ?_
      exact w_X12_evenings_246 ih _ _ _ _ _ _ _ h
set_option maxRecDepth 100000 in
set_option maxHeartbeats 4000000 in
theorem w_X12_evenings_215 {D : k_D} {dy : Nat → Nat} (x3 : Int32) (S : St) (out : Int32 × St) (h : f_X12_evenings_215 x3 S = some out) : Rn yX12_evenings cX12_evenings 10 (some .int) (k_rm 1) 0 0 D dy S (k_Pi dy out) 215 [(0, .ref (D.2.2 51)), (3, .int x3)] [] := by
    unfold f_X12_evenings_215 at h
    refine r_aload_n 0 dX12_evenings_215 rfl rfl ?_
    refine r_iconst (v := 1) dX12_evenings_216 rfl ?_
    refine pf_51_53 (Or.inr rfl) q_1364 dX12_evenings_217 ?_
    generalize sI S 54 (1 : Int32) = S1 at h ⊢
    replace h := g_let h
    refine r_iconst (v := 0) dX12_evenings_220 rfl ?_
    refine r_istore dX12_evenings_221 (by decide) rfl ?_
    refine r_sub [1, 2, 0] rfl ?_
    exact w_X12_evenings_223 _ _ _ _ _ h
set_option maxRecDepth 100000 in
set_option maxHeartbeats 4000000 in
theorem w_X12_evenings_209 {D : k_D} {dy : Nat → Nat} {k74 : Int32 → Int32 → Int32 → St → Option (Int32 × St)} (hk74 : ∀ (x2 : Int32) (x3 : Int32) (x4 : Int32) (S : St) (out : Int32 × St), k74 x2 x3 x4 S = some out → Rn yX12_evenings cX12_evenings 10 (some .int) (k_rm 1) 0 0 D dy S (k_Pi dy out) 74 [(0, .ref (D.2.2 51)), (2, .int x2), (3, .int x3), (4, .int x4)] []) (x2 : Int32) (x3 : Int32) (x4 : Int32) (S : St) (out : Int32 × St) (h : f_X12_evenings_209 k74 x2 x3 x4 S = some out) : Rn yX12_evenings cX12_evenings 10 (some .int) (k_rm 1) 0 0 D dy S (k_Pi dy out) 209 [(0, .ref (D.2.2 51)), (2, .int x2), (3, .int x3), (4, .int x4)] [] := by
    unfold f_X12_evenings_209 at h
    refine r_iinc (q := 3) (v := x4 + (1 : Int32)) dX12_evenings_209 rfl rfl (by decide) rfl ?_
    refine r_goto (t := 74) dX12_evenings_212 (by decide) ?_
    refine r_sub [1, 2, 3, 0] rfl ?_
    exact hk74 _ _ _ _ _ h
set_option maxRecDepth 100000 in
set_option maxHeartbeats 4000000 in
theorem w_X12_evenings_183 {D : k_D} {dy : Nat → Nat} {k123 : Int32 → Int32 → Int32 → Int32 → Int32 → Int32 → Int32 → St → Option (Int32 × St)} (hk123 : ∀ (x2 : Int32) (x3 : Int32) (x4 : Int32) (x5 : Int32) (x6 : Int32) (x7 : Int32) (x8 : Int32) (S : St) (out : Int32 × St), k123 x2 x3 x4 x5 x6 x7 x8 S = some out → Rn yX12_evenings cX12_evenings 10 (some .int) (k_rm 1) 0 0 D dy S (k_Pi dy out) 123 [(0, .ref (D.2.2 51)), (2, .int x2), (3, .int x3), (4, .int x4), (5, .int x5), (6, .int x6), (7, .int x7), (8, .int x8)] []) (x2 : Int32) (x3 : Int32) (x4 : Int32) (x5 : Int32) (x6 : Int32) (x8 : Int32) (s0 : Int32) (S : St) (out : Int32 × St) (h : f_X12_evenings_183 k123 x2 x3 x4 x5 x6 x8 s0 S = some out) : Rn yX12_evenings cX12_evenings 10 (some .int) (k_rm 1) 0 0 D dy S (k_Pi dy out) 183 [(0, .ref (D.2.2 51)), (2, .int x2), (3, .int x3), (4, .int x4), (5, .int x5), (6, .int x6), (8, .int x8)] [.int s0] := by
    unfold f_X12_evenings_183 at h
    refine r_istore dX12_evenings_183 (by decide) rfl ?_
    refine r_iinc (q := 7) (v := x8 + (-1 : Int32)) dX12_evenings_185 rfl rfl (by decide) rfl ?_
    refine r_goto (t := 123) dX12_evenings_188 (by decide) ?_
    refine r_sub [2, 3, 4, 5, 6, 7, 1, 0] rfl ?_
    exact hk123 _ _ _ _ _ _ _ _ _ h
set_option maxRecDepth 100000 in
set_option maxHeartbeats 4000000 in
theorem w_X12_evenings_169 {D : k_D} {dy : Nat → Nat} {k123 : Int32 → Int32 → Int32 → Int32 → Int32 → Int32 → Int32 → St → Option (Int32 × St)} (hk123 : ∀ (x2 : Int32) (x3 : Int32) (x4 : Int32) (x5 : Int32) (x6 : Int32) (x7 : Int32) (x8 : Int32) (S : St) (out : Int32 × St), k123 x2 x3 x4 x5 x6 x7 x8 S = some out → Rn yX12_evenings cX12_evenings 10 (some .int) (k_rm 1) 0 0 D dy S (k_Pi dy out) 123 [(0, .ref (D.2.2 51)), (2, .int x2), (3, .int x3), (4, .int x4), (5, .int x5), (6, .int x6), (7, .int x7), (8, .int x8)] []) (x2 : Int32) (x3 : Int32) (x4 : Int32) (x5 : Int32) (x6 : Int32) (x7 : Int32) (x8 : Int32) (s0 : Int32) (S : St) (out : Int32 × St) (h : f_X12_evenings_169 k123 x2 x3 x4 x5 x6 x7 x8 s0 S = some out) : Rn yX12_evenings cX12_evenings 10 (some .int) (k_rm 1) 0 0 D dy S (k_Pi dy out) 169 [(0, .ref (D.2.2 51)), (2, .int x2), (3, .int x3), (4, .int x4), (5, .int x5), (6, .int x6), (7, .int x7), (8, .int x8)] [.int s0] := by
    unfold f_X12_evenings_169 at h
    refine r_istore dX12_evenings_169 (by decide) rfl ?_
    refine r_iload 0 dX12_evenings_171 rfl ?_
    refine r_if_eq (t := 181) dX12_evenings_173 (by decide) (fun c => ?_) (fun c => ?_)
    · rw [if_pos c] at h
      refine r_iload 7 dX12_evenings_181 rfl ?_
      refine r_sub [1, 2, 3, 4, 5, 6, 8] rfl ?_
      exact w_X12_evenings_183 hk123 _ _ _ _ _ _ _ _ _ h
    · rw [if_neg c] at h
      refine r_iload 8 dX12_evenings_176 rfl ?_
      refine r_goto (t := 183) dX12_evenings_178 (by decide) ?_
      refine r_sub [1, 2, 3, 4, 5, 6, 8] rfl ?_
      exact w_X12_evenings_183 hk123 _ _ _ _ _ _ _ _ _ h
set_option maxRecDepth 100000 in
set_option maxHeartbeats 4000000 in
theorem w_X12_evenings_168 {D : k_D} {dy : Nat → Nat} {k123 : Int32 → Int32 → Int32 → Int32 → Int32 → Int32 → Int32 → St → Option (Int32 × St)} (hk123 : ∀ (x2 : Int32) (x3 : Int32) (x4 : Int32) (x5 : Int32) (x6 : Int32) (x7 : Int32) (x8 : Int32) (S : St) (out : Int32 × St), k123 x2 x3 x4 x5 x6 x7 x8 S = some out → Rn yX12_evenings cX12_evenings 10 (some .int) (k_rm 1) 0 0 D dy S (k_Pi dy out) 123 [(0, .ref (D.2.2 51)), (2, .int x2), (3, .int x3), (4, .int x4), (5, .int x5), (6, .int x6), (7, .int x7), (8, .int x8)] []) (x2 : Int32) (x3 : Int32) (x4 : Int32) (x5 : Int32) (x6 : Int32) (x7 : Int32) (x8 : Int32) (S : St) (out : Int32 × St) (h : f_X12_evenings_168 k123 x2 x3 x4 x5 x6 x7 x8 S = some out) : Rn yX12_evenings cX12_evenings 10 (some .int) (k_rm 1) 0 0 D dy S (k_Pi dy out) 168 [(0, .ref (D.2.2 51)), (2, .int x2), (3, .int x3), (4, .int x4), (5, .int x5), (6, .int x6), (7, .int x7), (8, .int x8)] [] := by
    unfold f_X12_evenings_168 at h
    refine r_iconst (v := 0) dX12_evenings_168 rfl ?_
    exact w_X12_evenings_169 hk123 _ _ _ _ _ _ _ _ _ _ h
set_option maxRecDepth 100000 in
set_option maxHeartbeats 4000000 in
theorem w_X12_evenings_123 {D : k_D} {dy : Nat → Nat} {k74 : Int32 → Int32 → Int32 → St → Option (Int32 × St)} (hk74 : ∀ (x2 : Int32) (x3 : Int32) (x4 : Int32) (S : St) (out : Int32 × St), k74 x2 x3 x4 S = some out → Rn yX12_evenings cX12_evenings 10 (some .int) (k_rm 1) 0 0 D dy S (k_Pi dy out) 74 [(0, .ref (D.2.2 51)), (2, .int x2), (3, .int x3), (4, .int x4)] []) : ∀ (n : Nat) (x2 : Int32) (x3 : Int32) (x4 : Int32) (x5 : Int32) (x6 : Int32) (x7 : Int32) (x8 : Int32) (S : St) (out : Int32 × St), f_X12_evenings_123 k74 n x2 x3 x4 x5 x6 x7 x8 S = some out → Rn yX12_evenings cX12_evenings 10 (some .int) (k_rm 1) 0 0 D dy S (k_Pi dy out) 123 [(0, .ref (D.2.2 51)), (2, .int x2), (3, .int x3), (4, .int x4), (5, .int x5), (6, .int x6), (7, .int x7), (8, .int x8)] [] := by
  intro n
  induction n with
  | zero => intro x2 x3 x4 x5 x6 x7 x8 S out h; cases h
  | succ n ih =>
    intro x2 x3 x4 x5 x6 x7 x8 S out h
    rw [f_X12_evenings_123] at h
    refine r_iload 7 dX12_evenings_123 rfl ?_
    refine r_if_lt (t := 191) dX12_evenings_125 (by decide) (fun c => ?_) (fun c => ?_)
    · rw [if_pos c] at h
      refine r_iload 6 dX12_evenings_191 rfl ?_
      refine r_iconst (v := -1) dX12_evenings_193 rfl ?_
      refine r_icmp_eq (t := 209) dX12_evenings_194 (by decide) (fun c => ?_) (fun c => ?_)
      · rw [if_pos c] at h
        refine r_sub [0, 1, 2, 3] rfl ?_
        exact w_X12_evenings_209 hk74 _ _ _ _ _ h
      · rw [if_neg c] at h
        refine r_aload_n 0 dX12_evenings_197 rfl rfl ?_
        refine gf_51_51 q_1362 dX12_evenings_198 ?_
        refine r_iload 6 dX12_evenings_201 rfl ?_
        refine r_iload 4 dX12_evenings_203 rfl ?_
        obtain ⟨c1, h⟩ := g_ite h
        refine as_79 (k_b_in c1) dX12_evenings_205 ?_
        generalize sA S 79 x7.toNatClampNeg x5 = S2 at h ⊢
        replace h := g_let h
        refine r_iinc (q := 2) (v := x3 + (1 : Int32)) dX12_evenings_206 rfl rfl (by decide) rfl ?_
        refine r_sub [1, 2, 0, 3] rfl ?_
        exact w_X12_evenings_209 hk74 _ _ _ _ _ h
    · rw [if_neg c] at h
      refine r_aload_n 0 dX12_evenings_128 rfl rfl ?_
      refine r_iload 7 dX12_evenings_129 rfl ?_
      refine r_iconst (v := 2) dX12_evenings_131 rfl ?_
      obtain ⟨q132, hq132, h⟩ := g_bind h
      refine r_callVi [.int x8, .int (2 : Int32)] [] q132 (ok_X12_ofDebt hq132) q_1533 q_1535 q_94 q_1536 q_153 hd_X12_ofDebt (ce_51 D dy _) kc12.1 rfl ⟨Nat.le_of_ble_eq_true rfl, Nat.le_of_ble_eq_true rfl⟩ rfl rfl (Nat.le_of_ble_eq_true rfl) dX12_evenings_132 ?_
      refine r_iload 5 dX12_evenings_135 rfl ?_
      refine r_icmp_ne (t := 168) dX12_evenings_137 (by decide) (fun c => ?_) (fun c => ?_)
      · rw [if_neg c] at h
        exact w_X12_evenings_168 ih _ _ _ _ _ _ _ _ _ h
      · rw [if_pos c] at h
        refine r_aload_n 0 dX12_evenings_140 rfl rfl ?_
        refine gf_51_51 q_1362 dX12_evenings_141 ?_
        refine r_iload 7 dX12_evenings_144 rfl ?_
        obtain ⟨c3, h⟩ := g_ite h
        refine al_79 (k_b_in c3) dX12_evenings_146 ?_
        refine r_iload 4 dX12_evenings_147 rfl ?_
        refine r_icmp_eq (t := 168) dX12_evenings_149 (by decide) (fun c => ?_) (fun c => ?_)
        · rw [if_pos c] at h
          exact w_X12_evenings_168 ih _ _ _ _ _ _ _ _ _ h
        · rw [if_neg c] at h
          refine r_aload_n 0 dX12_evenings_152 rfl rfl ?_
          refine r_iload 7 dX12_evenings_153 rfl ?_
          refine r_iconst (v := 1) dX12_evenings_155 rfl ?_
          obtain ⟨q156, hq156, h⟩ := g_bind h
          refine r_callVi [.int x8, .int (1 : Int32)] [] q156 (ok_X12_ofDebt hq156) q_1533 q_1535 q_94 q_1536 q_153 hd_X12_ofDebt (ce_51 D dy _) kc12.1 rfl ⟨Nat.le_of_ble_eq_true rfl, Nat.le_of_ble_eq_true rfl⟩ rfl rfl (Nat.le_of_ble_eq_true rfl) dX12_evenings_156 ?_
          refine r_iload 4 dX12_evenings_159 rfl ?_
          refine r_icmp_eq (t := 168) dX12_evenings_161 (by decide) (fun c => ?_) (fun c => ?_)
          · rw [if_pos c] at h
            exact w_X12_evenings_168 ih _ _ _ _ _ _ _ _ _ h
          · rw [if_neg c] at h
            refine r_iconst (v := 1) dX12_evenings_164 rfl ?_
            refine r_goto (t := 169) dX12_evenings_165 (by decide) ?_
            exact w_X12_evenings_169 ih _ _ _ _ _ _ _ _ _ _ h
set_option maxRecDepth 100000 in
set_option maxHeartbeats 4000000 in
theorem w_X12_evenings_74 {D : k_D} {dy : Nat → Nat} : ∀ (n : Nat) (x2 : Int32) (x3 : Int32) (x4 : Int32) (S : St) (out : Int32 × St), f_X12_evenings_74 n x2 x3 x4 S = some out → Rn yX12_evenings cX12_evenings 10 (some .int) (k_rm 1) 0 0 D dy S (k_Pi dy out) 74 [(0, .ref (D.2.2 51)), (2, .int x2), (3, .int x3), (4, .int x4)] [] := by
  intro n
  induction n with
  | zero => intro x2 x3 x4 S out h; cases h
  | succ n ih =>
    intro x2 x3 x4 S out h
    rw [f_X12_evenings_74] at h
    refine r_iload 3 dX12_evenings_74 rfl ?_
    refine r_bipush (v := 6) dX12_evenings_76 rfl ?_
    refine r_iload_n 1 dX12_evenings_78 rfl rfl ?_
    refine r_imul dX12_evenings_79 ?_
    refine r_icmp_ge (t := 215) dX12_evenings_80 (by decide) (fun c => ?_) (fun c => ?_)
    · rw [if_pos c] at h
      refine r_sub [0, 2] rfl ?_
      exact w_X12_evenings_215 _ _ _ h
    · rw [if_neg c] at h
      refine r_aload_n 0 dX12_evenings_83 rfl rfl ?_
      refine gf_51_3 q_1314 dX12_evenings_84 ?_
      refine r_iconst (v := 0) dX12_evenings_87 rfl ?_
      obtain ⟨c1, h⟩ := g_ite h
      refine al_53 (k_b_in c1) dX12_evenings_88 ?_
      refine r_if_le (t := 215) dX12_evenings_89 (by decide) (fun c => ?_) (fun c => ?_)
      · rw [if_pos c] at h
        refine r_sub [0, 2] rfl ?_
        exact w_X12_evenings_215 _ _ _ h
      · rw [if_neg c] at h
        refine r_aload_n 0 dX12_evenings_92 rfl rfl ?_
        refine r_bipush (v := 8) dX12_evenings_93 rfl ?_
        obtain ⟨q95, hq95, h⟩ := g_bind h
        refine r_callVi [.int (8 : Int32)] [] q95 (ok_X12_draw hq95) q_1866 q_1868 q_139 q_1869 q_153 hd_X12_draw (ce_51 D dy _) kc12.1 rfl ⟨Nat.le_of_ble_eq_true rfl, Nat.le_of_ble_eq_true rfl⟩ rfl rfl (Nat.le_of_ble_eq_true rfl) dX12_evenings_95 ?_
        refine r_istore dX12_evenings_98 (by decide) rfl ?_
        refine r_aload_n 1 dX12_evenings_100 rfl rfl ?_
        refine r_aload_n 1 dX12_evenings_101 rfl rfl ?_
        refine gf_51_3 q_1314 dX12_evenings_102 ?_
        refine r_iconst (v := 0) dX12_evenings_105 rfl ?_
        obtain ⟨c2, h⟩ := g_ite h
        refine al_53 (k_b_in c2) dX12_evenings_106 ?_
        obtain ⟨q107, hq107, h⟩ := g_bind h
        refine r_callVi [.int (gA q95.2 53 (0 : Int32).toNatClampNeg)] [] q107 (ok_X12_draw hq107) q_1866 q_1868 q_139 q_1869 q_153 hd_X12_draw (ce_51 D dy _) kc12.1 rfl ⟨Nat.le_of_ble_eq_true rfl, Nat.le_of_ble_eq_true rfl⟩ rfl rfl (Nat.le_of_ble_eq_true rfl) dX12_evenings_107 ?_
        refine r_istore dX12_evenings_110 (by decide) rfl ?_
        refine r_iconst (v := -1) dX12_evenings_112 rfl ?_
        refine r_istore dX12_evenings_113 (by decide) rfl ?_
        refine r_aload_n 3 dX12_evenings_115 rfl rfl ?_
        obtain ⟨q116, hq116, h⟩ := g_bind h
        refine r_callVi [] [] q116 (ok_X12_debts hq116) q_1517 q_1519 q_91 q_1520 q_153 hd_X12_debts (ce_51 D dy _) kc12.1 rfl ⟨Nat.le_of_ble_eq_true rfl, Nat.le_of_ble_eq_true rfl⟩ rfl rfl (Nat.le_of_ble_eq_true rfl) dX12_evenings_116 ?_
        refine r_iconst (v := 1) dX12_evenings_119 rfl ?_
        refine r_isub dX12_evenings_120 ?_
        refine r_istore dX12_evenings_121 (by decide) rfl ?_
        refine r_sub [4, 5, 6, 7, 3, 2, 1, 0] rfl ?_
        exact w_X12_evenings_123 ih _ _ _ _ _ _ _ _ _ _ h
set_option maxRecDepth 100000 in
set_option maxHeartbeats 4000000 in
theorem w_X12_evenings_43 {D : k_D} {dy : Nat → Nat} : ∀ (n : Nat) (x2 : Int32) (x3 : Int32) (S : St) (out : Int32 × St), f_X12_evenings_43 n x2 x3 S = some out → Rn yX12_evenings cX12_evenings 10 (some .int) (k_rm 1) 0 0 D dy S (k_Pi dy out) 43 [(0, .ref (D.2.2 51)), (2, .int x2), (3, .int x3)] [] := by
  intro n
  induction n with
  | zero => intro x2 x3 S out h; cases h
  | succ n ih =>
    intro x2 x3 S out h
    rw [f_X12_evenings_43] at h
    refine r_iload_n 2 dX12_evenings_43 rfl rfl ?_
    refine r_aload_n 0 dX12_evenings_44 rfl rfl ?_
    obtain ⟨q45, hq45, h⟩ := g_bind h
    refine r_callVi [] [.int x3] q45 (ok_X12_debts hq45) q_1517 q_1519 q_91 q_1520 q_153 hd_X12_debts (ce_51 D dy _) kc12.1 rfl ⟨Nat.le_of_ble_eq_true rfl, Nat.le_of_ble_eq_true rfl⟩ rfl rfl (Nat.le_of_ble_eq_true rfl) dX12_evenings_45 ?_
    refine r_icmp_ge (t := 69) dX12_evenings_48 (by decide) (fun c => ?_) (fun c => ?_)
    · rw [if_pos c] at h
      refine r_iconst (v := 0) dX12_evenings_69 rfl ?_
      refine r_istore_n dX12_evenings_70 rfl (by decide) rfl ?_
      refine r_iconst (v := 0) dX12_evenings_71 rfl ?_
      refine r_istore dX12_evenings_72 (by decide) rfl ?_
      refine r_sub [2, 3, 1, 0] rfl ?_
      exact w_X12_evenings_74 _ _ _ _ _ _ h
    · rw [if_neg c] at h
      refine r_aload_n 0 dX12_evenings_51 rfl rfl ?_
      refine gf_51_51 q_1362 dX12_evenings_52 ?_
      refine r_iload_n 2 dX12_evenings_55 rfl rfl ?_
      refine r_aload_n 0 dX12_evenings_56 rfl rfl ?_
      refine r_iload_n 2 dX12_evenings_57 rfl rfl ?_
      refine r_iconst (v := 0) dX12_evenings_58 rfl ?_
      obtain ⟨q59, hq59, h⟩ := g_bind h
      refine r_callVi [.int x3, .int (0 : Int32)] [.int x3, .ref (D.2.2 79)] q59 (ok_X12_ofDebt hq59) q_1533 q_1535 q_94 q_1536 q_153 hd_X12_ofDebt (ce_51 D dy _) kc12.1 rfl ⟨Nat.le_of_ble_eq_true rfl, Nat.le_of_ble_eq_true rfl⟩ rfl rfl (Nat.le_of_ble_eq_true rfl) dX12_evenings_59 ?_
      obtain ⟨c1, h⟩ := g_ite h
      refine as_79 (k_b_in c1) dX12_evenings_62 ?_
      generalize sA q59.2 79 x3.toNatClampNeg q59.1 = S2 at h ⊢
      replace h := g_let h
      refine r_iinc (q := 2) (v := x3 + (1 : Int32)) dX12_evenings_63 rfl rfl (by decide) rfl ?_
      refine r_goto (t := 43) dX12_evenings_66 (by decide) ?_
      refine r_sub [1, 2, 0] rfl ?_
      exact ih _ _ _ _ h
set_option maxRecDepth 100000 in
set_option maxHeartbeats 4000000 in
theorem w_X12_evenings_0 {D : k_D} {dy : Nat → Nat} (x1 : Int32) (x2 : Int32) (S : St) (out : Int32 × St) (h : f_X12_evenings x1 x2 S = some out) : Rn yX12_evenings cX12_evenings 10 (some .int) (k_rm 1) 0 0 D dy S (k_Pi dy out) 0 [(0, .ref (D.2.2 51)), (1, .int x1), (2, .int x2)] [] := by
    unfold f_X12_evenings at h
    refine r_aload_n 0 dX12_evenings_0 rfl rfl ?_
    refine r_iconst (v := 0) dX12_evenings_1 rfl ?_
    refine pf_51_0 q_1311 dX12_evenings_2 ?_
    generalize sI S 33 (0 : Int32) = S1 at h ⊢
    replace h := g_let h
    refine r_iload_n 1 dX12_evenings_5 rfl rfl ?_
    refine r_i2l dX12_evenings_6 ?_
    refine r_lconst (v := 0) dX12_evenings_7 rfl ?_
    refine r_ldc2 (v := 1000000) q_1629 dX12_evenings_8 ?_
    obtain ⟨q11, hq11, h⟩ := g_bind h
    refine r_callSi [.long x1.toInt64, .long (0 : Int64), .long (1000000 : Int64)] [] q11 (ok_X12_in hq11) q_1481 q_1482 q_1483 q_153 hd_X12_in ⟨Nat.le_of_ble_eq_true rfl, Nat.le_of_ble_eq_true rfl⟩ rfl rfl (Nat.le_of_ble_eq_true rfl) dX12_evenings_11 ?_
    refine r_if_eq (t := 29) dX12_evenings_14 (by decide) (fun c => ?_) (fun c => ?_)
    · rw [if_pos c] at h
      refine r_sub [0] rfl ?_
      exact w_X12_evenings_29 _ _ h
    · rw [if_neg c] at h
      refine r_iload_n 2 dX12_evenings_17 rfl rfl ?_
      refine r_i2l dX12_evenings_18 ?_
      refine r_lconst (v := 1) dX12_evenings_19 rfl ?_
      refine r_ldc2 (v := 20) q_1701 dX12_evenings_20 ?_
      obtain ⟨q23, hq23, h⟩ := g_bind h
      refine r_callSi [.long x2.toInt64, .long (1 : Int64), .long (20 : Int64)] [] q23 (ok_X12_in hq23) q_1481 q_1482 q_1483 q_153 hd_X12_in ⟨Nat.le_of_ble_eq_true rfl, Nat.le_of_ble_eq_true rfl⟩ rfl rfl (Nat.le_of_ble_eq_true rfl) dX12_evenings_23 ?_
      refine r_if_ne (t := 35) dX12_evenings_26 (by decide) (fun c => ?_) (fun c => ?_)
      · rw [if_neg c] at h
        refine r_aload_n 0 dX12_evenings_35 rfl rfl ?_
        refine r_iload_n 1 dX12_evenings_36 rfl rfl ?_
        refine r_i2l dX12_evenings_37 ?_
        refine pf_51_54 q_1365 dX12_evenings_38 ?_
        generalize sJ q23.2 3 x1.toInt64 = S2 at h ⊢
        replace h := g_let h
        refine r_iconst (v := 0) dX12_evenings_41 rfl ?_
        refine r_istore_n dX12_evenings_42 rfl (by decide) rfl ?_
        refine r_sub [1, 3, 0] rfl ?_
        exact w_X12_evenings_43 _ _ _ _ _ h
      · rw [if_pos c] at h
        refine r_sub [0] rfl ?_
        exact w_X12_evenings_29 _ _ h
theorem ok_X12_evenings {D : k_D} {dy : Nat → Nat} {x1 : Int32} {x2 : Int32} {S : St} {out : Int32 × St} (h : f_X12_evenings x1 x2 S = some out) : Sp yX12_evenings cX12_evenings 10 (some .int) (k_rm 1) D dy S [.ref (D.2.2 51), .int x1, .int x2] (k_Pi dy out) := Sp.of (by decide +kernel) (Nat.le_of_ble_eq_true rfl) (w_X12_evenings_0 _ _ S out h)
noncomputable def f_X12_owed_43 (s0 : Int32) (S : St) : Option (Int32 × St) := some (s0, S)
noncomputable def f_X12_owed_42 (S : St) : Option (Int32 × St) := f_X12_owed_43 (-1 : Int32) S
noncomputable def f_X12_owed (x1 : Int32) (x2 : Int32) (S : St) : Option (Int32 × St) := k_let (sI S 33 (0 : Int32)) fun S1 => if (gI S1 54) = 0 then f_X12_owed_42 S1 else (f_X12_isDancer x1 S1).bind fun q13 => if q13.1 = 0 then f_X12_owed_42 q13.2 else (f_X12_in x2.toInt64 (0 : Int64) (1 : Int64) q13.2).bind fun q23 => if q23.1 = 0 then f_X12_owed_42 q23.2 else if k_b (((2 : Int32) * x1) + x2) 16 = true then f_X12_owed_43 (gA q23.2 80 (((2 : Int32) * x1) + x2).toNatClampNeg) q23.2 else none
set_option maxRecDepth 100000 in
set_option maxHeartbeats 4000000 in
theorem w_X12_owed_43 {D : k_D} {dy : Nat → Nat} (s0 : Int32) (S : St) (out : Int32 × St) (h : f_X12_owed_43 s0 S = some out) : Rn yX12_owed cX12_owed 3 (some .int) (k_rm 2) 0 0 D dy S (k_Pi dy out) 43 [] [.int s0] := by
    unfold f_X12_owed_43 at h
    cases h
    exact r_iret rfl dX12_owed_43 ⟨rfl, rfl, rfl⟩
set_option maxRecDepth 100000 in
set_option maxHeartbeats 4000000 in
theorem w_X12_owed_42 {D : k_D} {dy : Nat → Nat} (S : St) (out : Int32 × St) (h : f_X12_owed_42 S = some out) : Rn yX12_owed cX12_owed 3 (some .int) (k_rm 2) 0 0 D dy S (k_Pi dy out) 42 [] [] := by
    unfold f_X12_owed_42 at h
    refine r_iconst (v := -1) dX12_owed_42 rfl ?_
    exact w_X12_owed_43 _ _ _ h
set_option maxRecDepth 100000 in
set_option maxHeartbeats 4000000 in
theorem w_X12_owed_0 {D : k_D} {dy : Nat → Nat} (x1 : Int32) (x2 : Int32) (S : St) (out : Int32 × St) (h : f_X12_owed x1 x2 S = some out) : Rn yX12_owed cX12_owed 3 (some .int) (k_rm 2) 0 0 D dy S (k_Pi dy out) 0 [(0, .ref (D.2.2 51)), (1, .int x1), (2, .int x2)] [] := by
    unfold f_X12_owed at h
    refine r_aload_n 0 dX12_owed_0 rfl rfl ?_
    refine r_iconst (v := 0) dX12_owed_1 rfl ?_
    refine pf_51_0 q_1311 dX12_owed_2 ?_
    generalize sI S 33 (0 : Int32) = S1 at h ⊢
    replace h := g_let h
    refine r_aload_n 0 dX12_owed_5 rfl rfl ?_
    refine gf_51_53 q_1364 dX12_owed_6 ?_
    refine r_if_eq (t := 42) dX12_owed_9 (by decide) (fun c => ?_) (fun c => ?_)
    · rw [if_pos c] at h
      refine r_sub [] rfl ?_
      exact w_X12_owed_42 _ _ h
    · rw [if_neg c] at h
      refine r_iload_n 1 dX12_owed_12 rfl rfl ?_
      obtain ⟨q13, hq13, h⟩ := g_bind h
      refine r_callSi [.int x1] [] q13 (ok_X12_isDancer hq13) q_1512 q_1513 q_1514 q_153 hd_X12_isDancer ⟨Nat.le_of_ble_eq_true rfl, Nat.le_of_ble_eq_true rfl⟩ rfl rfl (Nat.le_of_ble_eq_true rfl) dX12_owed_13 ?_
      refine r_if_eq (t := 42) dX12_owed_16 (by decide) (fun c => ?_) (fun c => ?_)
      · rw [if_pos c] at h
        refine r_sub [] rfl ?_
        exact w_X12_owed_42 _ _ h
      · rw [if_neg c] at h
        refine r_iload_n 2 dX12_owed_19 rfl rfl ?_
        refine r_i2l dX12_owed_20 ?_
        refine r_lconst (v := 0) dX12_owed_21 rfl ?_
        refine r_lconst (v := 1) dX12_owed_22 rfl ?_
        obtain ⟨q23, hq23, h⟩ := g_bind h
        refine r_callSi [.long x2.toInt64, .long (0 : Int64), .long (1 : Int64)] [] q23 (ok_X12_in hq23) q_1481 q_1482 q_1483 q_153 hd_X12_in ⟨Nat.le_of_ble_eq_true rfl, Nat.le_of_ble_eq_true rfl⟩ rfl rfl (Nat.le_of_ble_eq_true rfl) dX12_owed_23 ?_
        refine r_if_eq (t := 42) dX12_owed_26 (by decide) (fun c => ?_) (fun c => ?_)
        · rw [if_pos c] at h
          refine r_sub [] rfl ?_
          exact w_X12_owed_42 _ _ h
        · rw [if_neg c] at h
          refine r_aload_n 0 dX12_owed_29 rfl rfl ?_
          refine gf_51_52 q_1363 dX12_owed_30 ?_
          refine r_iconst (v := 2) dX12_owed_33 rfl ?_
          refine r_iload_n 1 dX12_owed_34 rfl rfl ?_
          refine r_imul dX12_owed_35 ?_
          refine r_iload_n 2 dX12_owed_36 rfl rfl ?_
          refine r_iadd dX12_owed_37 ?_
          obtain ⟨c2, h⟩ := g_ite h
          refine al_80 (k_b_in c2) dX12_owed_38 ?_
          refine r_goto (t := 43) dX12_owed_39 (by decide) ?_
          refine r_sub [] rfl ?_
          exact w_X12_owed_43 _ _ _ h
theorem ok_X12_owed {D : k_D} {dy : Nat → Nat} {x1 : Int32} {x2 : Int32} {S : St} {out : Int32 × St} (h : f_X12_owed x1 x2 S = some out) : Sp yX12_owed cX12_owed 3 (some .int) (k_rm 2) D dy S [.ref (D.2.2 51), .int x1, .int x2] (k_Pi dy out) := Sp.of (by decide +kernel) (Nat.le_of_ble_eq_true rfl) (w_X12_owed_0 _ _ S out h)
noncomputable def f_X12_count_9 : Nat → Int32 → Int32 → Int32 → St → Option (Int32 × St)
  | 0, _, _, _, _ => none
  | n + 1, x1, x2, x3, S => (f_X12_debts S).bind fun q11 => if q11.1 ≤ x3 then if x1 = (0 : Int32) then if k_b (0 : Int32) 5560 = true then some (gA q11.2 53 (0 : Int32).toNatClampNeg, q11.2) else none else if x1 = (1 : Int32) then (f_X12_debts q11.2).bind fun q116 => some (q116.1, q116.2) else if x1 = (2 : Int32) then some (x2, q11.2) else if x1 = (3 : Int32) then if k_b (2 : Int32) 5560 = true then some (gA q11.2 53 (2 : Int32).toNatClampNeg, q11.2) else none else if x1 = (4 : Int32) then if k_b (4 : Int32) 5560 = true then some (gA q11.2 53 (4 : Int32).toNatClampNeg, q11.2) else none else if x1 = (5 : Int32) then if k_b (5 : Int32) 5560 = true then some (gA q11.2 53 (5 : Int32).toNatClampNeg, q11.2) else none else if x1 = (6 : Int32) then if k_b (6 : Int32) 5560 = true then some (gA q11.2 53 (6 : Int32).toNatClampNeg, q11.2) else none else if x1 = (7 : Int32) then some (gI q11.2 36, q11.2) else if x1 = (8 : Int32) then if k_b (1 : Int32) 7 = true then some (gA q11.2 52 (1 : Int32).toNatClampNeg, q11.2) else none else if x1 = (9 : Int32) then if k_b (2 : Int32) 7 = true then some (gA q11.2 52 (2 : Int32).toNatClampNeg, q11.2) else none else if x1 = (10 : Int32) then if k_b (3 : Int32) 7 = true then some (gA q11.2 52 (3 : Int32).toNatClampNeg, q11.2) else none else if x1 = (11 : Int32) then if k_b (5 : Int32) 7 = true then some (gA q11.2 52 (5 : Int32).toNatClampNeg, q11.2) else none else if x1 = (12 : Int32) then if k_b (6 : Int32) 7 = true then some (gA q11.2 52 (6 : Int32).toNatClampNeg, q11.2) else none else if x1 = (13 : Int32) then if k_b (3 : Int32) 5560 = true then some (gA q11.2 53 (3 : Int32).toNatClampNeg, q11.2) else none else if x1 = (14 : Int32) then if k_b (7 : Int32) 5560 = true then some (gA q11.2 53 (7 : Int32).toNatClampNeg, q11.2) else none else some ((-1 : Int32), q11.2) else (f_X12_ofDebt x3 (3 : Int32) q11.2).bind fun q21 => f_X12_count_9 n x1 (x2 + q21.1) (x3 + (1 : Int32)) q21.2
noncomputable def f_X12_count (x1 : Int32) (S : St) : Option (Int32 × St) := k_let (sI S 33 (0 : Int32)) fun S1 => f_X12_count_9 FU x1 (0 : Int32) (0 : Int32) S1
set_option maxRecDepth 100000 in
set_option maxHeartbeats 4000000 in
theorem w_X12_count_9 {D : k_D} {dy : Nat → Nat} : ∀ (n : Nat) (x1 : Int32) (x2 : Int32) (x3 : Int32) (S : St) (out : Int32 × St), f_X12_count_9 n x1 x2 x3 S = some out → Rn yX12_count cX12_count 4 (some .int) (k_rm 1) 0 0 D dy S (k_Pi dy out) 9 [(0, .ref (D.2.2 51)), (1, .int x1), (2, .int x2), (3, .int x3)] [] := by
  intro n
  induction n with
  | zero => intro x1 x2 x3 S out h; cases h
  | succ n ih =>
    intro x1 x2 x3 S out h
    rw [f_X12_count_9] at h
    refine r_iload_n 3 dX12_count_9 rfl rfl ?_
    refine r_aload_n 0 dX12_count_10 rfl rfl ?_
    obtain ⟨q11, hq11, h⟩ := g_bind h
    refine r_callVi [] [.int x3] q11 (ok_X12_debts hq11) q_1517 q_1519 q_91 q_1520 q_153 hd_X12_debts (ce_51 D dy _) kc12.1 rfl ⟨Nat.le_of_ble_eq_true rfl, Nat.le_of_ble_eq_true rfl⟩ rfl rfl (Nat.le_of_ble_eq_true rfl) dX12_count_11 ?_
    refine r_icmp_ge (t := 32) dX12_count_14 (by decide) (fun c => ?_) (fun c => ?_)
    · rw [if_pos c] at h
      refine r_iload_n 1 dX12_count_32 rfl rfl ?_
      by_cases c0 : x1 = (0 : Int32)
      · rw [if_pos c0] at h
        refine r_tableIn (t := 108) (o := 75) dX12_count_33 (by rw [c0]; decide) (by rw [c0]; decide) (by rw [c0]; rfl) (by decide) ?_
        refine r_aload_n 0 dX12_count_108 rfl rfl ?_
        refine gf_51_3 q_1314 dX12_count_109 ?_
        refine r_iconst (v := 0) dX12_count_112 rfl ?_
        obtain ⟨c1, h⟩ := g_ite h
        refine al_53 (k_b_in c1) dX12_count_113 ?_
        cases h
        exact r_iret rfl dX12_count_114 ⟨rfl, rfl, rfl⟩
      rw [if_neg c0] at h
      by_cases c1 : x1 = (1 : Int32)
      · rw [if_pos c1] at h
        refine r_tableIn (t := 115) (o := 82) dX12_count_33 (by rw [c1]; decide) (by rw [c1]; decide) (by rw [c1]; rfl) (by decide) ?_
        refine r_aload_n 0 dX12_count_115 rfl rfl ?_
        obtain ⟨q116, hq116, h⟩ := g_bind h
        refine r_callVi [] [] q116 (ok_X12_debts hq116) q_1517 q_1519 q_91 q_1520 q_153 hd_X12_debts (ce_51 D dy _) kc12.1 rfl ⟨Nat.le_of_ble_eq_true rfl, Nat.le_of_ble_eq_true rfl⟩ rfl rfl (Nat.le_of_ble_eq_true rfl) dX12_count_116 ?_
        cases h
        exact r_iret rfl dX12_count_119 ⟨rfl, rfl, rfl⟩
      rw [if_neg c1] at h
      by_cases c2 : x1 = (2 : Int32)
      · rw [if_pos c2] at h
        refine r_tableIn (t := 120) (o := 87) dX12_count_33 (by rw [c2]; decide) (by rw [c2]; decide) (by rw [c2]; rfl) (by decide) ?_
        refine r_iload_n 2 dX12_count_120 rfl rfl ?_
        cases h
        exact r_iret rfl dX12_count_121 ⟨rfl, rfl, rfl⟩
      rw [if_neg c2] at h
      by_cases c3 : x1 = (3 : Int32)
      · rw [if_pos c3] at h
        refine r_tableIn (t := 122) (o := 89) dX12_count_33 (by rw [c3]; decide) (by rw [c3]; decide) (by rw [c3]; rfl) (by decide) ?_
        refine r_aload_n 0 dX12_count_122 rfl rfl ?_
        refine gf_51_3 q_1314 dX12_count_123 ?_
        refine r_iconst (v := 2) dX12_count_126 rfl ?_
        obtain ⟨c2, h⟩ := g_ite h
        refine al_53 (k_b_in c2) dX12_count_127 ?_
        cases h
        exact r_iret rfl dX12_count_128 ⟨rfl, rfl, rfl⟩
      rw [if_neg c3] at h
      by_cases c4 : x1 = (4 : Int32)
      · rw [if_pos c4] at h
        refine r_tableIn (t := 129) (o := 96) dX12_count_33 (by rw [c4]; decide) (by rw [c4]; decide) (by rw [c4]; rfl) (by decide) ?_
        refine r_aload_n 0 dX12_count_129 rfl rfl ?_
        refine gf_51_3 q_1314 dX12_count_130 ?_
        refine r_iconst (v := 4) dX12_count_133 rfl ?_
        obtain ⟨c3, h⟩ := g_ite h
        refine al_53 (k_b_in c3) dX12_count_134 ?_
        cases h
        exact r_iret rfl dX12_count_135 ⟨rfl, rfl, rfl⟩
      rw [if_neg c4] at h
      by_cases c5 : x1 = (5 : Int32)
      · rw [if_pos c5] at h
        refine r_tableIn (t := 136) (o := 103) dX12_count_33 (by rw [c5]; decide) (by rw [c5]; decide) (by rw [c5]; rfl) (by decide) ?_
        refine r_aload_n 0 dX12_count_136 rfl rfl ?_
        refine gf_51_3 q_1314 dX12_count_137 ?_
        refine r_iconst (v := 5) dX12_count_140 rfl ?_
        obtain ⟨c4, h⟩ := g_ite h
        refine al_53 (k_b_in c4) dX12_count_141 ?_
        cases h
        exact r_iret rfl dX12_count_142 ⟨rfl, rfl, rfl⟩
      rw [if_neg c5] at h
      by_cases c6 : x1 = (6 : Int32)
      · rw [if_pos c6] at h
        refine r_tableIn (t := 143) (o := 110) dX12_count_33 (by rw [c6]; decide) (by rw [c6]; decide) (by rw [c6]; rfl) (by decide) ?_
        refine r_aload_n 0 dX12_count_143 rfl rfl ?_
        refine gf_51_3 q_1314 dX12_count_144 ?_
        refine r_bipush (v := 6) dX12_count_147 rfl ?_
        obtain ⟨c5, h⟩ := g_ite h
        refine al_53 (k_b_in c5) dX12_count_149 ?_
        cases h
        exact r_iret rfl dX12_count_150 ⟨rfl, rfl, rfl⟩
      rw [if_neg c6] at h
      by_cases c7 : x1 = (7 : Int32)
      · rw [if_pos c7] at h
        refine r_tableIn (t := 151) (o := 118) dX12_count_33 (by rw [c7]; decide) (by rw [c7]; decide) (by rw [c7]; rfl) (by decide) ?_
        refine r_aload_n 0 dX12_count_151 rfl rfl ?_
        refine gf_51_8 q_1319 dX12_count_152 ?_
        cases h
        exact r_iret rfl dX12_count_155 ⟨rfl, rfl, rfl⟩
      rw [if_neg c7] at h
      by_cases c8 : x1 = (8 : Int32)
      · rw [if_pos c8] at h
        refine r_tableIn (t := 156) (o := 123) dX12_count_33 (by rw [c8]; decide) (by rw [c8]; decide) (by rw [c8]; rfl) (by decide) ?_
        refine r_aload_n 0 dX12_count_156 rfl rfl ?_
        refine gf_51_2 q_1313 dX12_count_157 ?_
        refine r_iconst (v := 1) dX12_count_160 rfl ?_
        obtain ⟨c6, h⟩ := g_ite h
        refine al_52 (k_b_in c6) dX12_count_161 ?_
        cases h
        exact r_iret rfl dX12_count_162 ⟨rfl, rfl, rfl⟩
      rw [if_neg c8] at h
      by_cases c9 : x1 = (9 : Int32)
      · rw [if_pos c9] at h
        refine r_tableIn (t := 163) (o := 130) dX12_count_33 (by rw [c9]; decide) (by rw [c9]; decide) (by rw [c9]; rfl) (by decide) ?_
        refine r_aload_n 0 dX12_count_163 rfl rfl ?_
        refine gf_51_2 q_1313 dX12_count_164 ?_
        refine r_iconst (v := 2) dX12_count_167 rfl ?_
        obtain ⟨c7, h⟩ := g_ite h
        refine al_52 (k_b_in c7) dX12_count_168 ?_
        cases h
        exact r_iret rfl dX12_count_169 ⟨rfl, rfl, rfl⟩
      rw [if_neg c9] at h
      by_cases c10 : x1 = (10 : Int32)
      · rw [if_pos c10] at h
        refine r_tableIn (t := 170) (o := 137) dX12_count_33 (by rw [c10]; decide) (by rw [c10]; decide) (by rw [c10]; rfl) (by decide) ?_
        refine r_aload_n 0 dX12_count_170 rfl rfl ?_
        refine gf_51_2 q_1313 dX12_count_171 ?_
        refine r_iconst (v := 3) dX12_count_174 rfl ?_
        obtain ⟨c8, h⟩ := g_ite h
        refine al_52 (k_b_in c8) dX12_count_175 ?_
        cases h
        exact r_iret rfl dX12_count_176 ⟨rfl, rfl, rfl⟩
      rw [if_neg c10] at h
      by_cases c11 : x1 = (11 : Int32)
      · rw [if_pos c11] at h
        refine r_tableIn (t := 177) (o := 144) dX12_count_33 (by rw [c11]; decide) (by rw [c11]; decide) (by rw [c11]; rfl) (by decide) ?_
        refine r_aload_n 0 dX12_count_177 rfl rfl ?_
        refine gf_51_2 q_1313 dX12_count_178 ?_
        refine r_iconst (v := 5) dX12_count_181 rfl ?_
        obtain ⟨c9, h⟩ := g_ite h
        refine al_52 (k_b_in c9) dX12_count_182 ?_
        cases h
        exact r_iret rfl dX12_count_183 ⟨rfl, rfl, rfl⟩
      rw [if_neg c11] at h
      by_cases c12 : x1 = (12 : Int32)
      · rw [if_pos c12] at h
        refine r_tableIn (t := 184) (o := 151) dX12_count_33 (by rw [c12]; decide) (by rw [c12]; decide) (by rw [c12]; rfl) (by decide) ?_
        refine r_aload_n 0 dX12_count_184 rfl rfl ?_
        refine gf_51_2 q_1313 dX12_count_185 ?_
        refine r_bipush (v := 6) dX12_count_188 rfl ?_
        obtain ⟨c10, h⟩ := g_ite h
        refine al_52 (k_b_in c10) dX12_count_190 ?_
        cases h
        exact r_iret rfl dX12_count_191 ⟨rfl, rfl, rfl⟩
      rw [if_neg c12] at h
      by_cases c13 : x1 = (13 : Int32)
      · rw [if_pos c13] at h
        refine r_tableIn (t := 192) (o := 159) dX12_count_33 (by rw [c13]; decide) (by rw [c13]; decide) (by rw [c13]; rfl) (by decide) ?_
        refine r_aload_n 0 dX12_count_192 rfl rfl ?_
        refine gf_51_3 q_1314 dX12_count_193 ?_
        refine r_iconst (v := 3) dX12_count_196 rfl ?_
        obtain ⟨c11, h⟩ := g_ite h
        refine al_53 (k_b_in c11) dX12_count_197 ?_
        cases h
        exact r_iret rfl dX12_count_198 ⟨rfl, rfl, rfl⟩
      rw [if_neg c13] at h
      by_cases c14 : x1 = (14 : Int32)
      · rw [if_pos c14] at h
        refine r_tableIn (t := 199) (o := 166) dX12_count_33 (by rw [c14]; decide) (by rw [c14]; decide) (by rw [c14]; rfl) (by decide) ?_
        refine r_aload_n 0 dX12_count_199 rfl rfl ?_
        refine gf_51_3 q_1314 dX12_count_200 ?_
        refine r_bipush (v := 7) dX12_count_203 rfl ?_
        obtain ⟨c12, h⟩ := g_ite h
        refine al_53 (k_b_in c12) dX12_count_205 ?_
        cases h
        exact r_iret rfl dX12_count_206 ⟨rfl, rfl, rfl⟩
      rw [if_neg c14] at h
      refine r_tableOut (t := 207) dX12_count_33 (by have e0 := g_ne c0 (k := 0) rfl; have e1 := g_ne c1 (k := 1) rfl; have e2 := g_ne c2 (k := 2) rfl; have e3 := g_ne c3 (k := 3) rfl; have e4 := g_ne c4 (k := 4) rfl; have e5 := g_ne c5 (k := 5) rfl; have e6 := g_ne c6 (k := 6) rfl; have e7 := g_ne c7 (k := 7) rfl; have e8 := g_ne c8 (k := 8) rfl; have e9 := g_ne c9 (k := 9) rfl; have e10 := g_ne c10 (k := 10) rfl; have e11 := g_ne c11 (k := 11) rfl; have e12 := g_ne c12 (k := 12) rfl; have e13 := g_ne c13 (k := 13) rfl; have e14 := g_ne c14 (k := 14) rfl; omega) (by decide) ?_
      refine r_iconst (v := -1) dX12_count_207 rfl ?_
      cases h
      exact r_iret rfl dX12_count_208 ⟨rfl, rfl, rfl⟩
    · rw [if_neg c] at h
      refine r_iload_n 2 dX12_count_17 rfl rfl ?_
      refine r_aload_n 0 dX12_count_18 rfl rfl ?_
      refine r_iload_n 3 dX12_count_19 rfl rfl ?_
      refine r_iconst (v := 3) dX12_count_20 rfl ?_
      obtain ⟨q21, hq21, h⟩ := g_bind h
      refine r_callVi [.int x3, .int (3 : Int32)] [.int x2] q21 (ok_X12_ofDebt hq21) q_1533 q_1535 q_94 q_1536 q_153 hd_X12_ofDebt (ce_51 D dy _) kc12.1 rfl ⟨Nat.le_of_ble_eq_true rfl, Nat.le_of_ble_eq_true rfl⟩ rfl rfl (Nat.le_of_ble_eq_true rfl) dX12_count_21 ?_
      refine r_iadd dX12_count_24 ?_
      refine r_istore_n dX12_count_25 rfl (by decide) rfl ?_
      refine r_iinc (q := 3) (v := x3 + (1 : Int32)) dX12_count_26 rfl rfl (by decide) rfl ?_
      refine r_goto (t := 9) dX12_count_29 (by decide) ?_
      refine r_sub [2, 3, 1, 0] rfl ?_
      exact ih _ _ _ _ _ h
set_option maxRecDepth 100000 in
set_option maxHeartbeats 4000000 in
theorem w_X12_count_0 {D : k_D} {dy : Nat → Nat} (x1 : Int32) (S : St) (out : Int32 × St) (h : f_X12_count x1 S = some out) : Rn yX12_count cX12_count 4 (some .int) (k_rm 1) 0 0 D dy S (k_Pi dy out) 0 [(0, .ref (D.2.2 51)), (1, .int x1)] [] := by
    unfold f_X12_count at h
    refine r_aload_n 0 dX12_count_0 rfl rfl ?_
    refine r_iconst (v := 0) dX12_count_1 rfl ?_
    refine pf_51_0 q_1311 dX12_count_2 ?_
    generalize sI S 33 (0 : Int32) = S1 at h ⊢
    replace h := g_let h
    refine r_iconst (v := 0) dX12_count_5 rfl ?_
    refine r_istore_n dX12_count_6 rfl (by decide) rfl ?_
    refine r_iconst (v := 0) dX12_count_7 rfl ?_
    refine r_istore_n dX12_count_8 rfl (by decide) rfl ?_
    refine r_sub [2, 3, 1, 0] rfl ?_
    exact w_X12_count_9 _ _ _ _ _ _ h
theorem ok_X12_count {D : k_D} {dy : Nat → Nat} {x1 : Int32} {S : St} {out : Int32 × St} (h : f_X12_count x1 S = some out) : Sp yX12_count cX12_count 4 (some .int) (k_rm 1) D dy S [.ref (D.2.2 51), .int x1] (k_Pi dy out) := Sp.of (by decide +kernel) (Nat.le_of_ble_eq_true rfl) (w_X12_count_0 _ S out h)
noncomputable def f_X12_status (S : St) : Option (Int32 × St) := k_let (sI S 33 (0 : Int32)) fun S1 => some (gI S1 34, S1)
set_option maxRecDepth 100000 in
set_option maxHeartbeats 4000000 in
theorem w_X12_status_0 {D : k_D} {dy : Nat → Nat} (S : St) (out : Int32 × St) (h : f_X12_status S = some out) : Rn yX12_status cX12_status 1 (some .int) (k_rm 0) 0 0 D dy S (k_Pi dy out) 0 [(0, .ref (D.2.2 51))] [] := by
    unfold f_X12_status at h
    refine r_aload_n 0 dX12_status_0 rfl rfl ?_
    refine r_iconst (v := 0) dX12_status_1 rfl ?_
    refine pf_51_0 q_1311 dX12_status_2 ?_
    generalize sI S 33 (0 : Int32) = S1 at h ⊢
    replace h := g_let h
    refine r_aload_n 0 dX12_status_5 rfl rfl ?_
    refine gf_51_1 q_1312 dX12_status_6 ?_
    cases h
    exact r_iret rfl dX12_status_9 ⟨rfl, rfl, rfl⟩
theorem ok_X12_status {D : k_D} {dy : Nat → Nat} {S : St} {out : Int32 × St} (h : f_X12_status S = some out) : Sp yX12_status cX12_status 1 (some .int) (k_rm 0) D dy S [.ref (D.2.2 51)] (k_Pi dy out) := Sp.of (by decide +kernel) (Nat.le_of_ble_eq_true rfl) (w_X12_status_0 S out h)
