noncomputable def f_X8_find_203 (k133 : Int32 → Int32 → St → Option (Int32 × St)) (x4 : Int32) (x5 : Int32) (S : St) : Option (Int32 × St) := k133 x4 (x5 + (1 : Int32)) S
noncomputable def f_X8_find_197 (k143 : Int32 → Int32 → Int32 → St → Option (Int32 × St)) (x4 : Int32) (x5 : Int32) (x6 : Int32) (S : St) : Option (Int32 × St) := k143 x4 x5 (x6 + (1 : Int32)) S
noncomputable def f_X8_find_143 (k133 : Int32 → Int32 → St → Option (Int32 × St)) : Nat → Int32 → Int32 → Int32 → St → Option (Int32 × St)
  | 0, _, _, _, _ => none
  | n + 1, x4, x5, x6, S => if x4 < x6 then f_X8_find_203 k133 x4 x5 S else if (256 : Int32) ≤ x6 then f_X8_find_203 k133 x4 x5 S else if (x6 &&& x4) = x6 then (f_J6_bitCount_0f7a4 x6 S).bind fun q170 => if q170.1 = x5 then (f_X8_goesRound x6 x5 q170.2).bind fun q183 => if q183.1 = 0 then f_X8_find_197 (f_X8_find_143 k133 n) x4 x5 x6 q183.2 else k_let (sI q183.2 18 x5) fun S1 => some ((1 : Int32), S1) else f_X8_find_197 (f_X8_find_143 k133 n) x4 x5 x6 q170.2 else f_X8_find_197 (f_X8_find_143 k133 n) x4 x5 x6 S
noncomputable def f_X8_find_133 : Nat → Int32 → Int32 → St → Option (Int32 × St)
  | 0, _, _, _ => none
  | n + 1, x4, x5, S => if (8 : Int32) < x5 then some ((0 : Int32), S) else f_X8_find_143 (f_X8_find_133 n) FU x4 x5 (0 : Int32) S
noncomputable def f_X8_find_125 (x2 : Int32) (x3 : Int32) (S : St) : Option (Int32 × St) := f_X8_find_133 FU (x2 &&& x3) (2 : Int32) S
noncomputable def f_X8_find_119 (k27 : Int32 → Int32 → Int32 → St → Option (Int32 × St)) (x2 : Int32) (x3 : Int32) (x4 : Int32) (S : St) : Option (Int32 × St) := k27 x2 x3 (x4 + (1 : Int32)) S
noncomputable def f_X8_find_27 : Nat → Int32 → Int32 → Int32 → St → Option (Int32 × St)
  | 0, _, _, _, _ => none
  | n + 1, x2, x3, x4, S => if (gI S 1) ≤ x4 then f_X8_find_125 x2 x3 S else if (16 : Int32) ≤ x4 then f_X8_find_125 x2 x3 S else if k_b x4 16 = true then (f_X8_counts x4 S).bind fun q61 => if q61.1 = 0 then f_X8_find_119 (f_X8_find_27 n) x2 x3 x4 q61.2 else (f_X11_isDancer (gA S 3 x4.toNatClampNeg) q61.2).bind fun q69 => if q69.1 = 0 then f_X8_find_119 (f_X8_find_27 n) x2 x3 x4 q69.2 else if k_b (gA S 3 x4.toNatClampNeg) 8 = true then if k_b x4 16 = true then if k_b (gA S 3 x4.toNatClampNeg) 8 = true then k_let (sA q69.2 30 (gA S 3 x4.toNatClampNeg).toNatClampNeg ((gA q69.2 30 (gA S 3 x4.toNatClampNeg).toNatClampNeg) ||| ((1 : Int32) <<< ((gA q69.2 4 x4.toNatClampNeg) &&& 31)))) fun S5 => if k_b x4 16 = true then f_X8_find_119 (f_X8_find_27 n) (x2 ||| ((1 : Int32) <<< ((gA S 3 x4.toNatClampNeg) &&& 31))) (x3 ||| ((1 : Int32) <<< ((gA S5 4 x4.toNatClampNeg) &&& 31))) x4 S5 else none else none else none else none else none
noncomputable def f_X8_find (x1 : Int32) (S : St) : Option (Int32 × St) := k_let (sI S 19 x1) fun S1 => (f_X3_hear S1).bind fun q9 => (f_J7_fill_53178_a30 (0 : Int32) q9).bind fun q17 => f_X8_find_27 FU (0 : Int32) (0 : Int32) (0 : Int32) q17
set_option maxRecDepth 100000 in
set_option maxHeartbeats 4000000 in
theorem w_X8_find_203 {D : k_D} {dy : Nat → Nat} {k133 : Int32 → Int32 → St → Option (Int32 × St)} (hk133 : ∀ (x4 : Int32) (x5 : Int32) (S : St) (out : Int32 × St), k133 x4 x5 S = some out → Rn yX8_find cX8_find 7 (some .boolean) (k_rm 5) 0 0 D dy S (k_Pi dy out) 133 [(0, .ref (D.2.2 29)), (4, .int x4), (5, .int x5)] []) (x4 : Int32) (x5 : Int32) (S : St) (out : Int32 × St) (h : f_X8_find_203 k133 x4 x5 S = some out) : Rn yX8_find cX8_find 7 (some .boolean) (k_rm 5) 0 0 D dy S (k_Pi dy out) 203 [(0, .ref (D.2.2 29)), (4, .int x4), (5, .int x5)] [] := by
    unfold f_X8_find_203 at h
    refine r_iinc (q := 2) (v := x5 + (1 : Int32)) dX8_find_203 rfl rfl (by decide) rfl ?_
    refine r_goto (t := 133) dX8_find_206 (by decide) ?_
    refine r_sub [1, 2, 0] rfl ?_
    exact hk133 _ _ _ _ h
set_option maxRecDepth 100000 in
set_option maxHeartbeats 4000000 in
theorem w_X8_find_197 {D : k_D} {dy : Nat → Nat} {k143 : Int32 → Int32 → Int32 → St → Option (Int32 × St)} (hk143 : ∀ (x4 : Int32) (x5 : Int32) (x6 : Int32) (S : St) (out : Int32 × St), k143 x4 x5 x6 S = some out → Rn yX8_find cX8_find 7 (some .boolean) (k_rm 5) 0 0 D dy S (k_Pi dy out) 143 [(0, .ref (D.2.2 29)), (4, .int x4), (5, .int x5), (6, .int x6)] []) (x4 : Int32) (x5 : Int32) (x6 : Int32) (S : St) (out : Int32 × St) (h : f_X8_find_197 k143 x4 x5 x6 S = some out) : Rn yX8_find cX8_find 7 (some .boolean) (k_rm 5) 0 0 D dy S (k_Pi dy out) 197 [(0, .ref (D.2.2 29)), (4, .int x4), (5, .int x5), (6, .int x6)] [] := by
    unfold f_X8_find_197 at h
    refine r_iinc (q := 3) (v := x6 + (1 : Int32)) dX8_find_197 rfl rfl (by decide) rfl ?_
    refine r_goto (t := 143) dX8_find_200 (by decide) ?_
    refine r_sub [1, 2, 3, 0] rfl ?_
    exact hk143 _ _ _ _ _ h
set_option maxRecDepth 100000 in
set_option maxHeartbeats 4000000 in
theorem w_X8_find_143 {D : k_D} {dy : Nat → Nat} {k133 : Int32 → Int32 → St → Option (Int32 × St)} (hk133 : ∀ (x4 : Int32) (x5 : Int32) (S : St) (out : Int32 × St), k133 x4 x5 S = some out → Rn yX8_find cX8_find 7 (some .boolean) (k_rm 5) 0 0 D dy S (k_Pi dy out) 133 [(0, .ref (D.2.2 29)), (4, .int x4), (5, .int x5)] []) : ∀ (n : Nat) (x4 : Int32) (x5 : Int32) (x6 : Int32) (S : St) (out : Int32 × St), f_X8_find_143 k133 n x4 x5 x6 S = some out → Rn yX8_find cX8_find 7 (some .boolean) (k_rm 5) 0 0 D dy S (k_Pi dy out) 143 [(0, .ref (D.2.2 29)), (4, .int x4), (5, .int x5), (6, .int x6)] [] := by
  intro n
  induction n with
  | zero => intro x4 x5 x6 S out h; cases h
  | succ n ih =>
    intro x4 x5 x6 S out h
    rw [f_X8_find_143] at h
    refine r_iload 3 dX8_find_143 rfl ?_
    refine r_iload 1 dX8_find_145 rfl ?_
    refine r_icmp_gt (t := 203) dX8_find_147 (by decide) (fun c => ?_) (fun c => ?_)
    · rw [if_pos c] at h
      refine r_sub [0, 1, 2] rfl ?_
      exact w_X8_find_203 hk133 _ _ _ _ h
    · rw [if_neg c] at h
      refine r_iload 3 dX8_find_150 rfl ?_
      refine r_sipush (v := 256) dX8_find_152 rfl ?_
      refine r_icmp_ge (t := 203) dX8_find_155 (by decide) (fun c => ?_) (fun c => ?_)
      · rw [if_pos c] at h
        refine r_sub [0, 1, 2] rfl ?_
        exact w_X8_find_203 hk133 _ _ _ _ h
      · rw [if_neg c] at h
        refine r_iload 3 dX8_find_158 rfl ?_
        refine r_iload 1 dX8_find_160 rfl ?_
        refine r_iand dX8_find_162 ?_
        refine r_iload 3 dX8_find_163 rfl ?_
        refine r_icmp_ne (t := 197) dX8_find_165 (by decide) (fun c => ?_) (fun c => ?_)
        · rw [if_neg c] at h
          exact w_X8_find_197 ih _ _ _ _ _ h
        · rw [if_pos c] at h
          refine r_iload 3 dX8_find_168 rfl ?_
          obtain ⟨q170, hq170, h⟩ := g_bind h
          refine r_callSi [.int x6] [] q170 (ok_J6_bitCount_0f7a4 hq170) q_1038 q_1017 q_1018 q_161 hd_J6_bitCount_0f7a4 ⟨Nat.le_of_ble_eq_true rfl, Nat.le_of_ble_eq_true rfl⟩ rfl rfl (Nat.le_of_ble_eq_true rfl) dX8_find_170 ?_
          refine r_iload 2 dX8_find_173 rfl ?_
          refine r_icmp_ne (t := 197) dX8_find_175 (by decide) (fun c => ?_) (fun c => ?_)
          · rw [if_neg c] at h
            exact w_X8_find_197 ih _ _ _ _ _ h
          · rw [if_pos c] at h
            refine r_aload_n 0 dX8_find_178 rfl rfl ?_
            refine r_iload 3 dX8_find_179 rfl ?_
            refine r_iload 2 dX8_find_181 rfl ?_
            obtain ⟨q183, hq183, h⟩ := g_bind h
            refine r_callVi [.int x6, .int x5] [] q183 (ok_X8_goesRound hq183) q_1039 q_1041 q_52 q_1042 q_148 hd_X8_goesRound (ce_29 D dy _) kc8.1 rfl ⟨Nat.le_of_ble_eq_true rfl, Nat.le_of_ble_eq_true rfl⟩ rfl rfl (Nat.le_of_ble_eq_true rfl) dX8_find_183 ?_
            refine r_if_eq (t := 197) dX8_find_186 (by decide) (fun c => ?_) (fun c => ?_)
            · rw [if_pos c] at h
              exact w_X8_find_197 ih _ _ _ _ _ h
            · rw [if_neg c] at h
              refine r_aload_n 0 dX8_find_189 rfl rfl ?_
              refine r_iload 2 dX8_find_190 rfl ?_
              refine pf_29_4 q_442 dX8_find_192 ?_
              generalize sI q183.2 18 x5 = S1 at h ⊢
              replace h := g_let h
              refine r_iconst (v := 1) dX8_find_195 rfl ?_
              cases h
              exact r_zret rfl rfl dX8_find_196 ⟨rfl, rfl, rfl⟩
set_option maxRecDepth 100000 in
set_option maxHeartbeats 4000000 in
theorem w_X8_find_133 {D : k_D} {dy : Nat → Nat} : ∀ (n : Nat) (x4 : Int32) (x5 : Int32) (S : St) (out : Int32 × St), f_X8_find_133 n x4 x5 S = some out → Rn yX8_find cX8_find 7 (some .boolean) (k_rm 5) 0 0 D dy S (k_Pi dy out) 133 [(0, .ref (D.2.2 29)), (4, .int x4), (5, .int x5)] [] := by
  intro n
  induction n with
  | zero => intro x4 x5 S out h; cases h
  | succ n ih =>
    intro x4 x5 S out h
    rw [f_X8_find_133] at h
    refine r_iload 2 dX8_find_133 rfl ?_
    refine r_bipush (v := 8) dX8_find_135 rfl ?_
    refine r_icmp_gt (t := 209) dX8_find_137 (by decide) (fun c => ?_) (fun c => ?_)
    · rw [if_pos c] at h
      refine r_iconst (v := 0) dX8_find_209 rfl ?_
      cases h
      exact r_zret rfl rfl dX8_find_210 ⟨rfl, rfl, rfl⟩
    · rw [if_neg c] at h
      refine r_iconst (v := 0) dX8_find_140 rfl ?_
      refine r_istore dX8_find_141 (by decide) rfl ?_
      refine r_sub [1, 2, 3, 0] rfl ?_
      exact w_X8_find_143 ih _ _ _ _ _ _ h
set_option maxRecDepth 100000 in
set_option maxHeartbeats 4000000 in
theorem w_X8_find_125 {D : k_D} {dy : Nat → Nat} (x2 : Int32) (x3 : Int32) (S : St) (out : Int32 × St) (h : f_X8_find_125 x2 x3 S = some out) : Rn yX8_find cX8_find 7 (some .boolean) (k_rm 5) 0 0 D dy S (k_Pi dy out) 125 [(0, .ref (D.2.2 29)), (2, .int x2), (3, .int x3)] [] := by
    unfold f_X8_find_125 at h
    refine r_iload_n 1 dX8_find_125 rfl rfl ?_
    refine r_iload_n 2 dX8_find_126 rfl rfl ?_
    refine r_iand dX8_find_127 ?_
    refine r_istore dX8_find_128 (by decide) rfl ?_
    refine r_iconst (v := 2) dX8_find_130 rfl ?_
    refine r_istore dX8_find_131 (by decide) rfl ?_
    refine r_sub [2, 1, 0] rfl ?_
    exact w_X8_find_133 _ _ _ _ _ h
set_option maxRecDepth 100000 in
set_option maxHeartbeats 4000000 in
theorem w_X8_find_119 {D : k_D} {dy : Nat → Nat} {k27 : Int32 → Int32 → Int32 → St → Option (Int32 × St)} (hk27 : ∀ (x2 : Int32) (x3 : Int32) (x4 : Int32) (S : St) (out : Int32 × St), k27 x2 x3 x4 S = some out → Rn yX8_find cX8_find 7 (some .boolean) (k_rm 5) 0 0 D dy S (k_Pi dy out) 27 [(0, .ref (D.2.2 29)), (2, .int x2), (3, .int x3), (4, .int x4)] []) (x2 : Int32) (x3 : Int32) (x4 : Int32) (S : St) (out : Int32 × St) (h : f_X8_find_119 k27 x2 x3 x4 S = some out) : Rn yX8_find cX8_find 7 (some .boolean) (k_rm 5) 0 0 D dy S (k_Pi dy out) 119 [(0, .ref (D.2.2 29)), (2, .int x2), (3, .int x3), (4, .int x4)] [] := by
    unfold f_X8_find_119 at h
    refine r_iinc (q := 3) (v := x4 + (1 : Int32)) dX8_find_119 rfl rfl (by decide) rfl ?_
    refine r_goto (t := 27) dX8_find_122 (by decide) ?_
    refine r_sub [1, 2, 3, 0] rfl ?_
    exact hk27 _ _ _ _ _ h
set_option maxRecDepth 100000 in
set_option maxHeartbeats 4000000 in
theorem w_X8_find_27 {D : k_D} {dy : Nat → Nat} : ∀ (n : Nat) (x2 : Int32) (x3 : Int32) (x4 : Int32) (S : St) (out : Int32 × St), f_X8_find_27 n x2 x3 x4 S = some out → Rn yX8_find cX8_find 7 (some .boolean) (k_rm 5) 0 0 D dy S (k_Pi dy out) 27 [(0, .ref (D.2.2 29)), (2, .int x2), (3, .int x3), (4, .int x4)] [] := by
  intro n
  induction n with
  | zero => intro x2 x3 x4 S out h; cases h
  | succ n ih =>
    intro x2 x3 x4 S out h
    rw [f_X8_find_27] at h
    refine r_iload 3 dX8_find_27 rfl ?_
    refine r_aload_n 0 dX8_find_29 rfl rfl ?_
    refine gf_29_0 q_437 dX8_find_30 ?_
    refine gfN_2_5 q_216 dX8_find_33 ?_
    refine r_icmp_ge (t := 125) dX8_find_36 (by decide) (fun c => ?_) (fun c => ?_)
    · rw [if_pos c] at h
      refine r_sub [0, 1, 2] rfl ?_
      exact w_X8_find_125 _ _ _ _ h
    · rw [if_neg c] at h
      refine r_iload 3 dX8_find_39 rfl ?_
      refine r_bipush (v := 16) dX8_find_41 rfl ?_
      refine r_icmp_ge (t := 125) dX8_find_43 (by decide) (fun c => ?_) (fun c => ?_)
      · rw [if_pos c] at h
        refine r_sub [0, 1, 2] rfl ?_
        exact w_X8_find_125 _ _ _ _ h
      · rw [if_neg c] at h
        refine r_aload_n 0 dX8_find_46 rfl rfl ?_
        refine gf_29_0 q_437 dX8_find_47 ?_
        refine gfN_2_0 q_185 dX8_find_50 ?_
        refine r_iload 3 dX8_find_53 rfl ?_
        obtain ⟨c1, h⟩ := g_ite h
        refine al_3 (k_b_in c1) dX8_find_55 ?_
        refine r_istore dX8_find_56 (by decide) rfl ?_
        refine r_aload_n 1 dX8_find_58 rfl rfl ?_
        refine r_iload 4 dX8_find_59 rfl ?_
        obtain ⟨q61, hq61, h⟩ := g_bind h
        refine r_callVi [.int x4] [] q61 (ok_X8_counts hq61) q_1032 q_1034 q_51 q_1035 q_148 hd_X8_counts (ce_29 D dy _) kc8.1 rfl ⟨Nat.le_of_ble_eq_true rfl, Nat.le_of_ble_eq_true rfl⟩ rfl rfl (Nat.le_of_ble_eq_true rfl) dX8_find_61 ?_
        refine r_if_eq (t := 119) dX8_find_64 (by decide) (fun c => ?_) (fun c => ?_)
        · rw [if_pos c] at h
          refine r_sub [1, 2, 3, 4] rfl ?_
          exact w_X8_find_119 ih _ _ _ _ _ h
        · rw [if_neg c] at h
          refine r_iload 0 dX8_find_67 rfl ?_
          obtain ⟨q69, hq69, h⟩ := g_bind h
          refine r_callSNi [.int (gA S 3 x4.toNatClampNeg)] [] q69 (ok_X11_isDancer hq69) q_1037 q_668 q_669 q_141 hd_X11_isDancer ⟨Nat.le_of_ble_eq_true rfl, Nat.le_of_ble_eq_true rfl⟩ rfl rfl (Nat.le_of_ble_eq_true rfl) dX8_find_69 ?_
          refine r_if_eq (t := 119) dX8_find_72 (by decide) (fun c => ?_) (fun c => ?_)
          · rw [if_pos c] at h
            refine r_sub [1, 2, 3, 4] rfl ?_
            exact w_X8_find_119 ih _ _ _ _ _ h
          · rw [if_neg c] at h
            refine r_aload_n 1 dX8_find_75 rfl rfl ?_
            refine gf_29_2 q_439 dX8_find_76 ?_
            refine r_iload 0 dX8_find_79 rfl ?_
            refine r_dup2 dX8_find_81 rfl rfl ?_
            obtain ⟨c2, h⟩ := g_ite h
            refine al_30 (k_b_in c2) dX8_find_82 ?_
            refine r_iconst (v := 1) dX8_find_83 rfl ?_
            refine r_aload_n 1 dX8_find_84 rfl rfl ?_
            refine gf_29_0 q_437 dX8_find_85 ?_
            refine gfN_2_1 q_190 dX8_find_88 ?_
            refine r_iload 4 dX8_find_91 rfl ?_
            obtain ⟨c3, h⟩ := g_ite h
            refine al_4 (k_b_in c3) dX8_find_93 ?_
            refine r_ishl dX8_find_94 ?_
            refine r_ior dX8_find_95 ?_
            obtain ⟨c4, h⟩ := g_ite h
            refine as_30 (k_b_in c4) dX8_find_96 ?_
            generalize sA q69.2 30 (gA S 3 x4.toNatClampNeg).toNatClampNeg ((gA q69.2 30 (gA S 3 x4.toNatClampNeg).toNatClampNeg) ||| ((1 : Int32) <<< ((gA q69.2 4 x4.toNatClampNeg) &&& 31))) = S5 at h ⊢
            replace h := g_let h
            refine r_iload_n 2 dX8_find_97 rfl rfl ?_
            refine r_iconst (v := 1) dX8_find_98 rfl ?_
            refine r_iload 0 dX8_find_99 rfl ?_
            refine r_ishl dX8_find_101 ?_
            refine r_ior dX8_find_102 ?_
            refine r_istore_n dX8_find_103 rfl (by decide) rfl ?_
            refine r_iload_n 3 dX8_find_104 rfl rfl ?_
            refine r_iconst (v := 1) dX8_find_105 rfl ?_
            refine r_aload_n 2 dX8_find_106 rfl rfl ?_
            refine gf_29_0 q_437 dX8_find_107 ?_
            refine gfN_2_1 q_190 dX8_find_110 ?_
            refine r_iload 4 dX8_find_113 rfl ?_
            obtain ⟨c6, h⟩ := g_ite h
            refine al_4 (k_b_in c6) dX8_find_115 ?_
            refine r_ishl dX8_find_116 ?_
            refine r_ior dX8_find_117 ?_
            refine r_istore_n dX8_find_118 rfl (by decide) rfl ?_
            refine r_sub [3, 1, 0, 4] rfl ?_
            exact w_X8_find_119 ih _ _ _ _ _ h
set_option maxRecDepth 100000 in
set_option maxHeartbeats 4000000 in
theorem w_X8_find_0 {D : k_D} {dy : Nat → Nat} (x1 : Int32) (S : St) (out : Int32 × St) (h : f_X8_find x1 S = some out) : Rn yX8_find cX8_find 7 (some .boolean) (k_rm 5) 0 0 D dy S (k_Pi dy out) 0 [(0, .ref (D.2.2 29)), (1, .int x1)] [] := by
    unfold f_X8_find at h
    refine r_aload_n 0 dX8_find_0 rfl rfl ?_
    refine r_iload_n 1 dX8_find_1 rfl rfl ?_
    refine pf_29_5 q_444 dX8_find_2 ?_
    generalize sI S 19 x1 = S1 at h ⊢
    replace h := g_let h
    refine r_aload_n 0 dX8_find_5 rfl rfl ?_
    refine gf_29_1 q_438 dX8_find_6 ?_
    obtain ⟨q9, hq9, h⟩ := g_bind h
    refine r_callVNv [] [] q9 (ok_X3_hear hq9) q_1030 q_689 q_7 q_690 q_146 hd_X3_hear (ce_17 D dy _) kc3.1 rfl ⟨Nat.le_of_ble_eq_true rfl, Nat.le_of_ble_eq_true rfl⟩ rfl rfl (Nat.le_of_ble_eq_true rfl) dX8_find_9 ?_
    refine r_aload_n 0 dX8_find_12 rfl rfl ?_
    refine gf_29_2 q_439 dX8_find_13 ?_
    refine r_iconst (v := 0) dX8_find_16 rfl ?_
    obtain ⟨q17, hq17, h⟩ := g_bind h
    refine r_callSv [.ref (D.2.2 30), .int (0 : Int32)] [] q17 (ok_J7_fill_53178_a30 hq17) q_1031 q_692 q_693 q_154 hd_J7_fill_53178 ⟨Nat.le_of_ble_eq_true rfl, Nat.le_of_ble_eq_true rfl⟩ rfl rfl (Nat.le_of_ble_eq_true rfl) dX8_find_17 ?_
    refine r_iconst (v := 0) dX8_find_20 rfl ?_
    refine r_istore_n dX8_find_21 rfl (by decide) rfl ?_
    refine r_iconst (v := 0) dX8_find_22 rfl ?_
    refine r_istore_n dX8_find_23 rfl (by decide) rfl ?_
    refine r_iconst (v := 0) dX8_find_24 rfl ?_
    refine r_istore dX8_find_25 (by decide) rfl ?_
    refine r_sub [3, 2, 1, 0] rfl ?_
    exact w_X8_find_27 _ _ _ _ _ _ h
theorem ok_X8_find {D : k_D} {dy : Nat → Nat} {x1 : Int32} {S : St} {out : Int32 × St} (h : f_X8_find x1 S = some out) : Sp yX8_find cX8_find 7 (some .boolean) (k_rm 5) D dy S [.ref (D.2.2 29), .int x1] (k_Pi dy out) := Sp.of (by decide +kernel) (Nat.le_of_ble_eq_true rfl) (w_X8_find_0 _ S out h)
noncomputable def f_X8_dancerAt_34 (s0 : Int32) (S : St) : Option (Int32 × St) := some (s0, S)
noncomputable def f_X8_dancerAt_33 (S : St) : Option (Int32 × St) := f_X8_dancerAt_34 (-1 : Int32) S
noncomputable def f_X8_dancerAt_13 (s0 : Int32) (S : St) : Option (Int32 × St) := if s0 < 0 then f_X8_dancerAt_33 S else if (8 : Int32) ≤ s0 then f_X8_dancerAt_33 S else if k_b s0 8 = true then f_X8_dancerAt_34 (gA S 31 s0.toNatClampNeg) S else none
noncomputable def f_X8_dancerAt (x1 : Int32) (S : St) : Option (Int32 × St) := if x1 = (gI S 18) then f_X8_dancerAt_13 (0 : Int32) S else f_X8_dancerAt_13 x1 S
set_option maxRecDepth 100000 in
set_option maxHeartbeats 4000000 in
theorem w_X8_dancerAt_34 {D : k_D} {dy : Nat → Nat} (s0 : Int32) (S : St) (out : Int32 × St) (h : f_X8_dancerAt_34 s0 S = some out) : Rn yX8_dancerAt cX8_dancerAt 3 (some .int) (k_rm 0) 0 0 D dy S (k_Pi dy out) 34 [] [.int s0] := by
    unfold f_X8_dancerAt_34 at h
    cases h
    exact r_iret rfl dX8_dancerAt_34 ⟨rfl, rfl, rfl⟩
set_option maxRecDepth 100000 in
set_option maxHeartbeats 4000000 in
theorem w_X8_dancerAt_33 {D : k_D} {dy : Nat → Nat} (S : St) (out : Int32 × St) (h : f_X8_dancerAt_33 S = some out) : Rn yX8_dancerAt cX8_dancerAt 3 (some .int) (k_rm 0) 0 0 D dy S (k_Pi dy out) 33 [] [] := by
    unfold f_X8_dancerAt_33 at h
    refine r_iconst (v := -1) dX8_dancerAt_33 rfl ?_
    exact w_X8_dancerAt_34 _ _ _ h
set_option maxRecDepth 100000 in
set_option maxHeartbeats 4000000 in
theorem w_X8_dancerAt_13 {D : k_D} {dy : Nat → Nat} (s0 : Int32) (S : St) (out : Int32 × St) (h : f_X8_dancerAt_13 s0 S = some out) : Rn yX8_dancerAt cX8_dancerAt 3 (some .int) (k_rm 0) 0 0 D dy S (k_Pi dy out) 13 [(0, .ref (D.2.2 29))] [.int s0] := by
    unfold f_X8_dancerAt_13 at h
    refine r_istore_n dX8_dancerAt_13 rfl (by decide) rfl ?_
    refine r_iload_n 0 dX8_dancerAt_14 rfl rfl ?_
    refine r_if_lt (t := 33) dX8_dancerAt_15 (by decide) (fun c => ?_) (fun c => ?_)
    · rw [if_pos c] at h
      refine r_sub [] rfl ?_
      exact w_X8_dancerAt_33 _ _ h
    · rw [if_neg c] at h
      refine r_iload_n 0 dX8_dancerAt_18 rfl rfl ?_
      refine r_bipush (v := 8) dX8_dancerAt_19 rfl ?_
      refine r_icmp_ge (t := 33) dX8_dancerAt_21 (by decide) (fun c => ?_) (fun c => ?_)
      · rw [if_pos c] at h
        refine r_sub [] rfl ?_
        exact w_X8_dancerAt_33 _ _ h
      · rw [if_neg c] at h
        refine r_aload_n 1 dX8_dancerAt_24 rfl rfl ?_
        refine gf_29_3 q_440 dX8_dancerAt_25 ?_
        refine r_iload_n 0 dX8_dancerAt_28 rfl rfl ?_
        obtain ⟨c1, h⟩ := g_ite h
        refine al_31 (k_b_in c1) dX8_dancerAt_29 ?_
        refine r_goto (t := 34) dX8_dancerAt_30 (by decide) ?_
        refine r_sub [] rfl ?_
        exact w_X8_dancerAt_34 _ _ _ h
set_option maxRecDepth 100000 in
set_option maxHeartbeats 4000000 in
theorem w_X8_dancerAt_0 {D : k_D} {dy : Nat → Nat} (x1 : Int32) (S : St) (out : Int32 × St) (h : f_X8_dancerAt x1 S = some out) : Rn yX8_dancerAt cX8_dancerAt 3 (some .int) (k_rm 0) 0 0 D dy S (k_Pi dy out) 0 [(0, .ref (D.2.2 29)), (1, .int x1)] [] := by
    unfold f_X8_dancerAt at h
    refine r_iload_n 1 dX8_dancerAt_0 rfl rfl ?_
    refine r_aload_n 0 dX8_dancerAt_1 rfl rfl ?_
    refine gf_29_4 q_442 dX8_dancerAt_2 ?_
    refine r_icmp_ne (t := 12) dX8_dancerAt_5 (by decide) (fun c => ?_) (fun c => ?_)
    · rw [if_neg c] at h
      refine r_iload_n 1 dX8_dancerAt_12 rfl rfl ?_
      refine r_sub [0] rfl ?_
      exact w_X8_dancerAt_13 _ _ _ h
    · rw [if_pos c] at h
      refine r_iconst (v := 0) dX8_dancerAt_8 rfl ?_
      refine r_goto (t := 13) dX8_dancerAt_9 (by decide) ?_
      refine r_sub [0] rfl ?_
      exact w_X8_dancerAt_13 _ _ _ h
theorem ok_X8_dancerAt {D : k_D} {dy : Nat → Nat} {x1 : Int32} {S : St} {out : Int32 × St} (h : f_X8_dancerAt x1 S = some out) : Sp yX8_dancerAt cX8_dancerAt 3 (some .int) (k_rm 0) D dy S [.ref (D.2.2 29), .int x1] (k_Pi dy out) := Sp.of (by decide +kernel) (Nat.le_of_ble_eq_true rfl) (w_X8_dancerAt_0 _ S out h)
noncomputable def f_X8_isBetween_39 (s0 : Int32) (S : St) : Option (Int32 × St) := if s0 = 0 ∨ s0 = 1 then some (s0, S) else none
noncomputable def f_X8_isBetween_38 (S : St) : Option (Int32 × St) := f_X8_isBetween_39 (0 : Int32) S
noncomputable def f_X8_isBetween (x1 : Int32) (x2 : Int32) (x3 : Int32) (S : St) : Option (Int32 × St) := (f_X8_counts x1 S).bind fun q2 => if q2.1 = 0 then f_X8_isBetween_38 q2.2 else if k_b x1 16 = true then if (gA q2.2 3 x1.toNatClampNeg) = x2 then if k_b x1 16 = true then if (gA q2.2 4 x1.toNatClampNeg) = x3 then f_X8_isBetween_39 (1 : Int32) q2.2 else f_X8_isBetween_38 q2.2 else none else f_X8_isBetween_38 q2.2 else none
set_option maxRecDepth 100000 in
set_option maxHeartbeats 4000000 in
theorem w_X8_isBetween_39 {D : k_D} {dy : Nat → Nat} (s0 : Int32) (S : St) (out : Int32 × St) (h : f_X8_isBetween_39 s0 S = some out) : Rn yX8_isBetween cX8_isBetween 4 (some .boolean) (k_rm 2) 0 0 D dy S (k_Pi dy out) 39 [] [.int s0] := by
    unfold f_X8_isBetween_39 at h
    obtain ⟨c, h⟩ := g_ite h
    cases h
    exact r_zret rfl (k_zn c) dX8_isBetween_39 ⟨rfl, rfl, rfl⟩
set_option maxRecDepth 100000 in
set_option maxHeartbeats 4000000 in
theorem w_X8_isBetween_38 {D : k_D} {dy : Nat → Nat} (S : St) (out : Int32 × St) (h : f_X8_isBetween_38 S = some out) : Rn yX8_isBetween cX8_isBetween 4 (some .boolean) (k_rm 2) 0 0 D dy S (k_Pi dy out) 38 [] [] := by
    unfold f_X8_isBetween_38 at h
    refine r_iconst (v := 0) dX8_isBetween_38 rfl ?_
    exact w_X8_isBetween_39 _ _ _ h
set_option maxRecDepth 100000 in
set_option maxHeartbeats 4000000 in
theorem w_X8_isBetween_0 {D : k_D} {dy : Nat → Nat} (x1 : Int32) (x2 : Int32) (x3 : Int32) (S : St) (out : Int32 × St) (h : f_X8_isBetween x1 x2 x3 S = some out) : Rn yX8_isBetween cX8_isBetween 4 (some .boolean) (k_rm 2) 0 0 D dy S (k_Pi dy out) 0 [(0, .ref (D.2.2 29)), (1, .int x1), (2, .int x2), (3, .int x3)] [] := by
    unfold f_X8_isBetween at h
    refine r_aload_n 0 dX8_isBetween_0 rfl rfl ?_
    refine r_iload_n 1 dX8_isBetween_1 rfl rfl ?_
    obtain ⟨q2, hq2, h⟩ := g_bind h
    refine r_callVi [.int x1] [] q2 (ok_X8_counts hq2) q_1032 q_1034 q_51 q_1035 q_148 hd_X8_counts (ce_29 D dy _) kc8.1 rfl ⟨Nat.le_of_ble_eq_true rfl, Nat.le_of_ble_eq_true rfl⟩ rfl rfl (Nat.le_of_ble_eq_true rfl) dX8_isBetween_2 ?_
    refine r_if_eq (t := 38) dX8_isBetween_5 (by decide) (fun c => ?_) (fun c => ?_)
    · rw [if_pos c] at h
      refine r_sub [] rfl ?_
      exact w_X8_isBetween_38 _ _ h
    · rw [if_neg c] at h
      refine r_aload_n 0 dX8_isBetween_8 rfl rfl ?_
      refine gf_29_0 q_437 dX8_isBetween_9 ?_
      refine gfN_2_0 q_185 dX8_isBetween_12 ?_
      refine r_iload_n 1 dX8_isBetween_15 rfl rfl ?_
      obtain ⟨c1, h⟩ := g_ite h
      refine al_3 (k_b_in c1) dX8_isBetween_16 ?_
      refine r_iload_n 2 dX8_isBetween_17 rfl rfl ?_
      refine r_icmp_ne (t := 38) dX8_isBetween_18 (by decide) (fun c => ?_) (fun c => ?_)
      · rw [if_neg c] at h
        refine r_sub [] rfl ?_
        exact w_X8_isBetween_38 _ _ h
      · rw [if_pos c] at h
        refine r_aload_n 0 dX8_isBetween_21 rfl rfl ?_
        refine gf_29_0 q_437 dX8_isBetween_22 ?_
        refine gfN_2_1 q_190 dX8_isBetween_25 ?_
        refine r_iload_n 1 dX8_isBetween_28 rfl rfl ?_
        obtain ⟨c2, h⟩ := g_ite h
        refine al_4 (k_b_in c2) dX8_isBetween_29 ?_
        refine r_iload_n 3 dX8_isBetween_30 rfl rfl ?_
        refine r_icmp_ne (t := 38) dX8_isBetween_31 (by decide) (fun c => ?_) (fun c => ?_)
        · rw [if_neg c] at h
          refine r_sub [] rfl ?_
          exact w_X8_isBetween_38 _ _ h
        · rw [if_pos c] at h
          refine r_iconst (v := 1) dX8_isBetween_34 rfl ?_
          refine r_goto (t := 39) dX8_isBetween_35 (by decide) ?_
          refine r_sub [] rfl ?_
          exact w_X8_isBetween_39 _ _ _ h
theorem ok_X8_isBetween {D : k_D} {dy : Nat → Nat} {x1 : Int32} {x2 : Int32} {x3 : Int32} {S : St} {out : Int32 × St} (h : f_X8_isBetween x1 x2 x3 S = some out) : Sp yX8_isBetween cX8_isBetween 4 (some .boolean) (k_rm 2) D dy S [.ref (D.2.2 29), .int x1, .int x2, .int x3] (k_Pi dy out) := Sp.of (by decide +kernel) (Nat.le_of_ble_eq_true rfl) (w_X8_isBetween_0 _ _ _ S out h)
noncomputable def f_X8_between_54 (x3 : Int32) (S : St) : Option (Int32 × St) := some (x3, S)
noncomputable def f_X8_between_48 (k5 : Int32 → Int32 → Int32 → Int32 → St → Option (Int32 × St)) (x1 : Int32) (x2 : Int32) (x3 : Int32) (x4 : Int32) (S : St) : Option (Int32 × St) := k5 x1 x2 x3 (x4 + (1 : Int32)) S
noncomputable def f_X8_between_5 : Nat → Int32 → Int32 → Int32 → Int32 → St → Option (Int32 × St)
  | 0, _, _, _, _, _ => none
  | n + 1, x1, x2, x3, x4, S => if (gI S 1) ≤ x4 then f_X8_between_54 x3 S else if (16 : Int32) ≤ x4 then f_X8_between_54 x3 S else (f_X8_isBetween x4 x1 x2 S).bind fun q29 => if q29.1 = 0 then f_X8_between_48 (f_X8_between_5 n) x1 x2 x3 x4 q29.2 else if k_b x4 16 = true then f_X8_between_48 (f_X8_between_5 n) x1 x2 (x3 + (gA q29.2 6 x4.toNatClampNeg)) x4 q29.2 else none
noncomputable def f_X8_between (x1 : Int32) (x2 : Int32) (S : St) : Option (Int32 × St) := f_X8_between_5 FU x1 x2 (0 : Int32) (0 : Int32) S
set_option maxRecDepth 100000 in
set_option maxHeartbeats 4000000 in
theorem w_X8_between_54 {D : k_D} {dy : Nat → Nat} (x3 : Int32) (S : St) (out : Int32 × St) (h : f_X8_between_54 x3 S = some out) : Rn yX8_between cX8_between 5 (some .int) (k_rm 3) 0 0 D dy S (k_Pi dy out) 54 [(3, .int x3)] [] := by
    unfold f_X8_between_54 at h
    refine r_iload_n 0 dX8_between_54 rfl rfl ?_
    cases h
    exact r_iret rfl dX8_between_55 ⟨rfl, rfl, rfl⟩
set_option maxRecDepth 100000 in
set_option maxHeartbeats 4000000 in
theorem w_X8_between_48 {D : k_D} {dy : Nat → Nat} {k5 : Int32 → Int32 → Int32 → Int32 → St → Option (Int32 × St)} (hk5 : ∀ (x1 : Int32) (x2 : Int32) (x3 : Int32) (x4 : Int32) (S : St) (out : Int32 × St), k5 x1 x2 x3 x4 S = some out → Rn yX8_between cX8_between 5 (some .int) (k_rm 3) 0 0 D dy S (k_Pi dy out) 5 [(0, .ref (D.2.2 29)), (1, .int x1), (2, .int x2), (3, .int x3), (4, .int x4)] []) (x1 : Int32) (x2 : Int32) (x3 : Int32) (x4 : Int32) (S : St) (out : Int32 × St) (h : f_X8_between_48 k5 x1 x2 x3 x4 S = some out) : Rn yX8_between cX8_between 5 (some .int) (k_rm 3) 0 0 D dy S (k_Pi dy out) 48 [(0, .ref (D.2.2 29)), (1, .int x1), (2, .int x2), (3, .int x3), (4, .int x4)] [] := by
    unfold f_X8_between_48 at h
    refine r_iinc (q := 4) (v := x4 + (1 : Int32)) dX8_between_48 rfl rfl (by decide) rfl ?_
    refine r_goto (t := 5) dX8_between_51 (by decide) ?_
    refine r_sub [1, 2, 3, 4, 0] rfl ?_
    exact hk5 _ _ _ _ _ _ h
set_option maxRecDepth 100000 in
set_option maxHeartbeats 4000000 in
theorem w_X8_between_5 {D : k_D} {dy : Nat → Nat} : ∀ (n : Nat) (x1 : Int32) (x2 : Int32) (x3 : Int32) (x4 : Int32) (S : St) (out : Int32 × St), f_X8_between_5 n x1 x2 x3 x4 S = some out → Rn yX8_between cX8_between 5 (some .int) (k_rm 3) 0 0 D dy S (k_Pi dy out) 5 [(0, .ref (D.2.2 29)), (1, .int x1), (2, .int x2), (3, .int x3), (4, .int x4)] [] := by
  intro n
  induction n with
  | zero => intro x1 x2 x3 x4 S out h; cases h
  | succ n ih =>
    intro x1 x2 x3 x4 S out h
    rw [f_X8_between_5] at h
    refine r_iload 4 dX8_between_5 rfl ?_
    refine r_aload_n 0 dX8_between_7 rfl rfl ?_
    refine gf_29_0 q_437 dX8_between_8 ?_
    refine gfN_2_5 q_216 dX8_between_11 ?_
    refine r_icmp_ge (t := 54) dX8_between_14 (by decide) (fun c => ?_) (fun c => ?_)
    · rw [if_pos c] at h
      refine r_sub [3] rfl ?_
      exact w_X8_between_54 _ _ _ h
    · rw [if_neg c] at h
      refine r_iload 4 dX8_between_17 rfl ?_
      refine r_bipush (v := 16) dX8_between_19 rfl ?_
      refine r_icmp_ge (t := 54) dX8_between_21 (by decide) (fun c => ?_) (fun c => ?_)
      · rw [if_pos c] at h
        refine r_sub [3] rfl ?_
        exact w_X8_between_54 _ _ _ h
      · rw [if_neg c] at h
        refine r_aload_n 0 dX8_between_24 rfl rfl ?_
        refine r_iload 4 dX8_between_25 rfl ?_
        refine r_iload_n 1 dX8_between_27 rfl rfl ?_
        refine r_iload_n 2 dX8_between_28 rfl rfl ?_
        obtain ⟨q29, hq29, h⟩ := g_bind h
        refine r_callVi [.int x4, .int x1, .int x2] [] q29 (ok_X8_isBetween hq29) q_1062 q_1064 q_56 q_1065 q_148 hd_X8_isBetween (ce_29 D dy _) kc8.1 rfl ⟨Nat.le_of_ble_eq_true rfl, Nat.le_of_ble_eq_true rfl⟩ rfl rfl (Nat.le_of_ble_eq_true rfl) dX8_between_29 ?_
        refine r_if_eq (t := 48) dX8_between_32 (by decide) (fun c => ?_) (fun c => ?_)
        · rw [if_pos c] at h
          exact w_X8_between_48 ih _ _ _ _ _ _ h
        · rw [if_neg c] at h
          refine r_iload_n 3 dX8_between_35 rfl rfl ?_
          refine r_aload_n 0 dX8_between_36 rfl rfl ?_
          refine gf_29_0 q_437 dX8_between_37 ?_
          refine gfN_2_3 q_208 dX8_between_40 ?_
          refine r_iload 4 dX8_between_43 rfl ?_
          obtain ⟨c1, h⟩ := g_ite h
          refine al_6 (k_b_in c1) dX8_between_45 ?_
          refine r_iadd dX8_between_46 ?_
          refine r_istore_n dX8_between_47 rfl (by decide) rfl ?_
          refine r_sub [1, 2, 3, 0, 4] rfl ?_
          exact w_X8_between_48 ih _ _ _ _ _ _ h
set_option maxRecDepth 100000 in
set_option maxHeartbeats 4000000 in
theorem w_X8_between_0 {D : k_D} {dy : Nat → Nat} (x1 : Int32) (x2 : Int32) (S : St) (out : Int32 × St) (h : f_X8_between x1 x2 S = some out) : Rn yX8_between cX8_between 5 (some .int) (k_rm 3) 0 0 D dy S (k_Pi dy out) 0 [(0, .ref (D.2.2 29)), (1, .int x1), (2, .int x2)] [] := by
    unfold f_X8_between at h
    refine r_iconst (v := 0) dX8_between_0 rfl ?_
    refine r_istore_n dX8_between_1 rfl (by decide) rfl ?_
    refine r_iconst (v := 0) dX8_between_2 rfl ?_
    refine r_istore dX8_between_3 (by decide) rfl ?_
    refine r_sub [2, 3, 4, 1, 0] rfl ?_
    exact w_X8_between_5 _ _ _ _ _ _ _ h
theorem ok_X8_between {D : k_D} {dy : Nat → Nat} {x1 : Int32} {x2 : Int32} {S : St} {out : Int32 × St} (h : f_X8_between x1 x2 S = some out) : Sp yX8_between cX8_between 5 (some .int) (k_rm 3) D dy S [.ref (D.2.2 29), .int x1, .int x2] (k_Pi dy out) := Sp.of (by decide +kernel) (Nat.le_of_ble_eq_true rfl) (w_X8_between_0 _ _ S out h)
noncomputable def f_X8_take_81 (S : St) : Option (St) := some S
noncomputable def f_X8_take_75 (k6 : Int32 → Int32 → Int32 → Int32 → St → Option (St)) (x1 : Int32) (x2 : Int32) (x4 : Int32) (x5 : Int32) (S : St) : Option (St) := k6 x1 x2 x4 (x5 + (1 : Int32)) S
noncomputable def f_X8_take_6 : Nat → Int32 → Int32 → Int32 → Int32 → St → Option (St)
  | 0, _, _, _, _, _ => none
  | n + 1, x1, x2, x4, x5, S => if (gI S 1) ≤ x5 then f_X8_take_81 S else if (16 : Int32) ≤ x5 then f_X8_take_81 S else (f_X8_isBetween x5 x1 x2 S).bind fun q30 => if q30.1 = 0 then f_X8_take_75 (f_X8_take_6 n) x1 x2 x4 x5 q30.2 else if k_b x5 16 = true then if k_b x5 16 = true then if k_b x5 16 = true then k_let (sA q30.2 6 x5.toNatClampNeg ((gA q30.2 6 x5.toNatClampNeg) - (if (gA q30.2 6 x5.toNatClampNeg) < x4 then (gA q30.2 6 x5.toNatClampNeg) else x4))) fun S4 => f_X8_take_75 (f_X8_take_6 n) x1 x2 (x4 - (if (gA q30.2 6 x5.toNatClampNeg) < x4 then (gA q30.2 6 x5.toNatClampNeg) else x4)) x5 S4 else none else none else none
noncomputable def f_X8_take (x1 : Int32) (x2 : Int32) (x3 : Int32) (S : St) : Option (St) := f_X8_take_6 FU x1 x2 x3 (0 : Int32) S
set_option maxRecDepth 100000 in
set_option maxHeartbeats 4000000 in
theorem w_X8_take_81 {D : k_D} {dy : Nat → Nat} (S : St) (out : St) (h : f_X8_take_81 S = some out) : Rn yX8_take cX8_take 7 none (k_rm 3) 0 0 D dy S (k_Pv dy out) 81 [] [] := by
    unfold f_X8_take_81 at h
    exact r_vret rfl dX8_take_81 ⟨rfl, rfl, Option.some.inj h⟩
set_option maxRecDepth 100000 in
set_option maxHeartbeats 4000000 in
theorem w_X8_take_75 {D : k_D} {dy : Nat → Nat} {k6 : Int32 → Int32 → Int32 → Int32 → St → Option (St)} (hk6 : ∀ (x1 : Int32) (x2 : Int32) (x4 : Int32) (x5 : Int32) (S : St) (out : St), k6 x1 x2 x4 x5 S = some out → Rn yX8_take cX8_take 7 none (k_rm 3) 0 0 D dy S (k_Pv dy out) 6 [(0, .ref (D.2.2 29)), (1, .int x1), (2, .int x2), (4, .int x4), (5, .int x5)] []) (x1 : Int32) (x2 : Int32) (x4 : Int32) (x5 : Int32) (S : St) (out : St) (h : f_X8_take_75 k6 x1 x2 x4 x5 S = some out) : Rn yX8_take cX8_take 7 none (k_rm 3) 0 0 D dy S (k_Pv dy out) 75 [(0, .ref (D.2.2 29)), (1, .int x1), (2, .int x2), (4, .int x4), (5, .int x5)] [] := by
    unfold f_X8_take_75 at h
    refine r_iinc (q := 4) (v := x5 + (1 : Int32)) dX8_take_75 rfl rfl (by decide) rfl ?_
    refine r_goto (t := 6) dX8_take_78 (by decide) ?_
    refine r_sub [1, 2, 3, 4, 0] rfl ?_
    exact hk6 _ _ _ _ _ _ h
set_option maxRecDepth 100000 in
set_option maxHeartbeats 4000000 in
theorem w_X8_take_6 {D : k_D} {dy : Nat → Nat} : ∀ (n : Nat) (x1 : Int32) (x2 : Int32) (x4 : Int32) (x5 : Int32) (S : St) (out : St), f_X8_take_6 n x1 x2 x4 x5 S = some out → Rn yX8_take cX8_take 7 none (k_rm 3) 0 0 D dy S (k_Pv dy out) 6 [(0, .ref (D.2.2 29)), (1, .int x1), (2, .int x2), (4, .int x4), (5, .int x5)] [] := by
  intro n
  induction n with
  | zero => intro x1 x2 x4 x5 S out h; cases h
  | succ n ih =>
    intro x1 x2 x4 x5 S out h
    rw [f_X8_take_6] at h
    refine r_iload 4 dX8_take_6 rfl ?_
    refine r_aload_n 0 dX8_take_8 rfl rfl ?_
    refine gf_29_0 q_437 dX8_take_9 ?_
    refine gfN_2_5 q_216 dX8_take_12 ?_
    refine r_icmp_ge (t := 81) dX8_take_15 (by decide) (fun c => ?_) (fun c => ?_)
    · rw [if_pos c] at h
      refine r_sub [] rfl ?_
      exact w_X8_take_81 _ _ h
    · rw [if_neg c] at h
      refine r_iload 4 dX8_take_18 rfl ?_
      refine r_bipush (v := 16) dX8_take_20 rfl ?_
      refine r_icmp_ge (t := 81) dX8_take_22 (by decide) (fun c => ?_) (fun c => ?_)
      · rw [if_pos c] at h
        refine r_sub [] rfl ?_
        exact w_X8_take_81 _ _ h
      · rw [if_neg c] at h
        refine r_aload_n 0 dX8_take_25 rfl rfl ?_
        refine r_iload 4 dX8_take_26 rfl ?_
        refine r_iload_n 1 dX8_take_28 rfl rfl ?_
        refine r_iload_n 2 dX8_take_29 rfl rfl ?_
        obtain ⟨q30, hq30, h⟩ := g_bind h
        refine r_callVi [.int x5, .int x1, .int x2] [] q30 (ok_X8_isBetween hq30) q_1062 q_1064 q_56 q_1065 q_148 hd_X8_isBetween (ce_29 D dy _) kc8.1 rfl ⟨Nat.le_of_ble_eq_true rfl, Nat.le_of_ble_eq_true rfl⟩ rfl rfl (Nat.le_of_ble_eq_true rfl) dX8_take_30 ?_
        refine r_if_eq (t := 75) dX8_take_33 (by decide) (fun c => ?_) (fun c => ?_)
        · rw [if_pos c] at h
          exact w_X8_take_75 ih _ _ _ _ _ _ h
        · rw [if_neg c] at h
          refine r_iload 3 dX8_take_36 rfl ?_
          refine r_aload_n 0 dX8_take_38 rfl rfl ?_
          refine gf_29_0 q_437 dX8_take_39 ?_
          refine gfN_2_3 q_208 dX8_take_42 ?_
          refine r_iload 4 dX8_take_45 rfl ?_
          obtain ⟨c1, h⟩ := g_ite h
          refine al_6 (k_b_in c1) dX8_take_47 ?_
          refine r_min q_1066 q_745 q_155 q_746 ⟨Nat.le_of_ble_eq_true rfl, Nat.le_of_ble_eq_true rfl⟩ dX8_take_48 ?_
          refine r_istore dX8_take_51 (by decide) rfl ?_
          refine r_aload_n 1 dX8_take_53 rfl rfl ?_
          refine gf_29_0 q_437 dX8_take_54 ?_
          refine gfN_2_3 q_208 dX8_take_57 ?_
          refine r_iload 5 dX8_take_60 rfl ?_
          refine r_dup2 dX8_take_62 rfl rfl ?_
          obtain ⟨c2, h⟩ := g_ite h
          refine al_6 (k_b_in c2) dX8_take_63 ?_
          refine r_iload 0 dX8_take_64 rfl ?_
          refine r_isub dX8_take_66 ?_
          obtain ⟨c3, h⟩ := g_ite h
          refine as_6 (k_b_in c3) dX8_take_67 ?_
          generalize sA q30.2 6 x5.toNatClampNeg ((gA q30.2 6 x5.toNatClampNeg) - (if (gA q30.2 6 x5.toNatClampNeg) < x4 then (gA q30.2 6 x5.toNatClampNeg) else x4)) = S4 at h ⊢
          replace h := g_let h
          refine r_iload 4 dX8_take_68 rfl ?_
          refine r_iload 0 dX8_take_70 rfl ?_
          refine r_isub dX8_take_72 ?_
          refine r_istore dX8_take_73 (by decide) rfl ?_
          refine r_sub [2, 3, 4, 0, 5] rfl ?_
          exact w_X8_take_75 ih _ _ _ _ _ _ h
set_option maxRecDepth 100000 in
set_option maxHeartbeats 4000000 in
theorem w_X8_take_0 {D : k_D} {dy : Nat → Nat} (x1 : Int32) (x2 : Int32) (x3 : Int32) (S : St) (out : St) (h : f_X8_take x1 x2 x3 S = some out) : Rn yX8_take cX8_take 7 none (k_rm 3) 0 0 D dy S (k_Pv dy out) 0 [(0, .ref (D.2.2 29)), (1, .int x1), (2, .int x2), (3, .int x3)] [] := by
    unfold f_X8_take at h
    refine r_iload_n 3 dX8_take_0 rfl rfl ?_
    refine r_istore dX8_take_1 (by decide) rfl ?_
    refine r_iconst (v := 0) dX8_take_3 rfl ?_
    refine r_istore dX8_take_4 (by decide) rfl ?_
    refine r_sub [2, 3, 4, 1, 0] rfl ?_
    exact w_X8_take_6 _ _ _ _ _ _ _ h
theorem ok_X8_take {D : k_D} {dy : Nat → Nat} {x1 : Int32} {x2 : Int32} {x3 : Int32} {S : St} {out : St} (h : f_X8_take x1 x2 x3 S = some out) : Sp yX8_take cX8_take 7 none (k_rm 3) D dy S [.ref (D.2.2 29), .int x1, .int x2, .int x3] (k_Pv dy out) := Sp.of (by decide +kernel) (Nat.le_of_ble_eq_true rfl) (w_X8_take_0 _ _ _ S out h)
noncomputable def f_X8_drop_86 (x1 : Int32) (S : St) : Option (Int32 × St) := (f_X1_dropPlayed S).bind fun q90 => some (x1, q90)
noncomputable def f_X8_drop_49 : Nat → Int32 → Int32 → St → Option (Int32 × St)
  | 0, _, _, _ => none
  | n + 1, x1, x2, S => if (gI S 18) ≤ x2 then f_X8_drop_86 x1 S else if (8 : Int32) ≤ x2 then f_X8_drop_86 x1 S else (f_X8_dancerAt x2 S).bind fun q66 => (f_X8_dancerAt (x2 + (1 : Int32)) q66.2).bind fun q73 => (f_X8_take q66.1 q73.1 x1 q73.2).bind fun q77 => f_X8_drop_49 n x1 (x2 + (1 : Int32)) q77
noncomputable def f_X8_drop_47 (x1 : Int32) (S : St) : Option (Int32 × St) := f_X8_drop_49 FU x1 (0 : Int32) S
noncomputable def f_X8_drop_6 : Nat → Int32 → Int32 → St → Option (Int32 × St)
  | 0, _, _, _ => none
  | n + 1, x1, x2, S => if (gI S 18) ≤ x2 then f_X8_drop_47 x1 S else if (8 : Int32) ≤ x2 then f_X8_drop_47 x1 S else (f_X8_dancerAt x2 S).bind fun q24 => (f_X8_dancerAt (x2 + (1 : Int32)) q24.2).bind fun q31 => (f_X8_between q24.1 q31.1 q31.2).bind fun q34 => f_X8_drop_6 n (if q34.1 < x1 then q34.1 else x1) (x2 + (1 : Int32)) q34.2
noncomputable def f_X8_drop (S : St) : Option (Int32 × St) := f_X8_drop_6 FU (144 : Int32) (0 : Int32) S
set_option maxRecDepth 100000 in
set_option maxHeartbeats 4000000 in
theorem w_X8_drop_86 {D : k_D} {dy : Nat → Nat} (x1 : Int32) (S : St) (out : Int32 × St) (h : f_X8_drop_86 x1 S = some out) : Rn yX8_drop cX8_drop 3 (some .int) (k_rm 4) 0 0 D dy S (k_Pi dy out) 86 [(0, .ref (D.2.2 29)), (1, .int x1)] [] := by
    unfold f_X8_drop_86 at h
    refine r_aload_n 0 dX8_drop_86 rfl rfl ?_
    refine gf_29_0 q_437 dX8_drop_87 ?_
    obtain ⟨q90, hq90, h⟩ := g_bind h
    refine r_callVNv [] [] q90 (ok_X1_dropPlayed hq90) q_1071 q_753 q_18 q_754 q_143 hd_X1_dropPlayed (ce_2 D dy _) kc1.1 rfl ⟨Nat.le_of_ble_eq_true rfl, Nat.le_of_ble_eq_true rfl⟩ rfl rfl (Nat.le_of_ble_eq_true rfl) dX8_drop_90 ?_
    refine r_iload_n 1 dX8_drop_93 rfl rfl ?_
    cases h
    exact r_iret rfl dX8_drop_94 ⟨rfl, rfl, rfl⟩
set_option maxRecDepth 100000 in
set_option maxHeartbeats 4000000 in
theorem w_X8_drop_49 {D : k_D} {dy : Nat → Nat} : ∀ (n : Nat) (x1 : Int32) (x2 : Int32) (S : St) (out : Int32 × St), f_X8_drop_49 n x1 x2 S = some out → Rn yX8_drop cX8_drop 3 (some .int) (k_rm 4) 0 0 D dy S (k_Pi dy out) 49 [(0, .ref (D.2.2 29)), (1, .int x1), (2, .int x2)] [] := by
  intro n
  induction n with
  | zero => intro x1 x2 S out h; cases h
  | succ n ih =>
    intro x1 x2 S out h
    rw [f_X8_drop_49] at h
    refine r_iload_n 2 dX8_drop_49 rfl rfl ?_
    refine r_aload_n 0 dX8_drop_50 rfl rfl ?_
    refine gf_29_4 q_442 dX8_drop_51 ?_
    refine r_icmp_ge (t := 86) dX8_drop_54 (by decide) (fun c => ?_) (fun c => ?_)
    · rw [if_pos c] at h
      refine r_sub [0, 1] rfl ?_
      exact w_X8_drop_86 _ _ _ h
    · rw [if_neg c] at h
      refine r_iload_n 2 dX8_drop_57 rfl rfl ?_
      refine r_bipush (v := 8) dX8_drop_58 rfl ?_
      refine r_icmp_ge (t := 86) dX8_drop_60 (by decide) (fun c => ?_) (fun c => ?_)
      · rw [if_pos c] at h
        refine r_sub [0, 1] rfl ?_
        exact w_X8_drop_86 _ _ _ h
      · rw [if_neg c] at h
        refine r_aload_n 0 dX8_drop_63 rfl rfl ?_
        refine r_aload_n 0 dX8_drop_64 rfl rfl ?_
        refine r_iload_n 2 dX8_drop_65 rfl rfl ?_
        obtain ⟨q66, hq66, h⟩ := g_bind h
        refine r_callVi [.int x2] [.ref (D.2.2 29)] q66 (ok_X8_dancerAt hq66) q_1054 q_1056 q_54 q_1057 q_148 hd_X8_dancerAt (ce_29 D dy _) kc8.1 rfl ⟨Nat.le_of_ble_eq_true rfl, Nat.le_of_ble_eq_true rfl⟩ rfl rfl (Nat.le_of_ble_eq_true rfl) dX8_drop_66 ?_
        refine r_aload_n 0 dX8_drop_69 rfl rfl ?_
        refine r_iload_n 2 dX8_drop_70 rfl rfl ?_
        refine r_iconst (v := 1) dX8_drop_71 rfl ?_
        refine r_iadd dX8_drop_72 ?_
        obtain ⟨q73, hq73, h⟩ := g_bind h
        refine r_callVi [.int (x2 + (1 : Int32))] [.int q66.1, .ref (D.2.2 29)] q73 (ok_X8_dancerAt hq73) q_1054 q_1056 q_54 q_1057 q_148 hd_X8_dancerAt (ce_29 D dy _) kc8.1 rfl ⟨Nat.le_of_ble_eq_true rfl, Nat.le_of_ble_eq_true rfl⟩ rfl rfl (Nat.le_of_ble_eq_true rfl) dX8_drop_73 ?_
        refine r_iload_n 1 dX8_drop_76 rfl rfl ?_
        obtain ⟨q77, hq77, h⟩ := g_bind h
        refine r_callVv [.int q66.1, .int q73.1, .int x1] [] q77 (ok_X8_take hq77) q_1067 q_1069 q_57 q_1070 q_148 hd_X8_take (ce_29 D dy _) kc8.1 rfl ⟨Nat.le_of_ble_eq_true rfl, Nat.le_of_ble_eq_true rfl⟩ rfl rfl (Nat.le_of_ble_eq_true rfl) dX8_drop_77 ?_
        refine r_iinc (q := 2) (v := x2 + (1 : Int32)) dX8_drop_80 rfl rfl (by decide) rfl ?_
        refine r_goto (t := 49) dX8_drop_83 (by decide) ?_
        refine r_sub [1, 2, 0] rfl ?_
        exact ih _ _ _ _ h
set_option maxRecDepth 100000 in
set_option maxHeartbeats 4000000 in
theorem w_X8_drop_47 {D : k_D} {dy : Nat → Nat} (x1 : Int32) (S : St) (out : Int32 × St) (h : f_X8_drop_47 x1 S = some out) : Rn yX8_drop cX8_drop 3 (some .int) (k_rm 4) 0 0 D dy S (k_Pi dy out) 47 [(0, .ref (D.2.2 29)), (1, .int x1)] [] := by
    unfold f_X8_drop_47 at h
    refine r_iconst (v := 0) dX8_drop_47 rfl ?_
    refine r_istore_n dX8_drop_48 rfl (by decide) rfl ?_
    refine r_sub [1, 2, 0] rfl ?_
    exact w_X8_drop_49 _ _ _ _ _ h
set_option maxRecDepth 100000 in
set_option maxHeartbeats 4000000 in
theorem w_X8_drop_6 {D : k_D} {dy : Nat → Nat} : ∀ (n : Nat) (x1 : Int32) (x2 : Int32) (S : St) (out : Int32 × St), f_X8_drop_6 n x1 x2 S = some out → Rn yX8_drop cX8_drop 3 (some .int) (k_rm 4) 0 0 D dy S (k_Pi dy out) 6 [(0, .ref (D.2.2 29)), (1, .int x1), (2, .int x2)] [] := by
  intro n
  induction n with
  | zero => intro x1 x2 S out h; cases h
  | succ n ih =>
    intro x1 x2 S out h
    rw [f_X8_drop_6] at h
    refine r_iload_n 2 dX8_drop_6 rfl rfl ?_
    refine r_aload_n 0 dX8_drop_7 rfl rfl ?_
    refine gf_29_4 q_442 dX8_drop_8 ?_
    refine r_icmp_ge (t := 47) dX8_drop_11 (by decide) (fun c => ?_) (fun c => ?_)
    · rw [if_pos c] at h
      refine r_sub [0, 1] rfl ?_
      exact w_X8_drop_47 _ _ _ h
    · rw [if_neg c] at h
      refine r_iload_n 2 dX8_drop_14 rfl rfl ?_
      refine r_bipush (v := 8) dX8_drop_15 rfl ?_
      refine r_icmp_ge (t := 47) dX8_drop_17 (by decide) (fun c => ?_) (fun c => ?_)
      · rw [if_pos c] at h
        refine r_sub [0, 1] rfl ?_
        exact w_X8_drop_47 _ _ _ h
      · rw [if_neg c] at h
        refine r_iload_n 1 dX8_drop_20 rfl rfl ?_
        refine r_aload_n 0 dX8_drop_21 rfl rfl ?_
        refine r_aload_n 0 dX8_drop_22 rfl rfl ?_
        refine r_iload_n 2 dX8_drop_23 rfl rfl ?_
        obtain ⟨q24, hq24, h⟩ := g_bind h
        refine r_callVi [.int x2] [.ref (D.2.2 29), .int x1] q24 (ok_X8_dancerAt hq24) q_1054 q_1056 q_54 q_1057 q_148 hd_X8_dancerAt (ce_29 D dy _) kc8.1 rfl ⟨Nat.le_of_ble_eq_true rfl, Nat.le_of_ble_eq_true rfl⟩ rfl rfl (Nat.le_of_ble_eq_true rfl) dX8_drop_24 ?_
        refine r_aload_n 0 dX8_drop_27 rfl rfl ?_
        refine r_iload_n 2 dX8_drop_28 rfl rfl ?_
        refine r_iconst (v := 1) dX8_drop_29 rfl ?_
        refine r_iadd dX8_drop_30 ?_
        obtain ⟨q31, hq31, h⟩ := g_bind h
        refine r_callVi [.int (x2 + (1 : Int32))] [.int q24.1, .ref (D.2.2 29), .int x1] q31 (ok_X8_dancerAt hq31) q_1054 q_1056 q_54 q_1057 q_148 hd_X8_dancerAt (ce_29 D dy _) kc8.1 rfl ⟨Nat.le_of_ble_eq_true rfl, Nat.le_of_ble_eq_true rfl⟩ rfl rfl (Nat.le_of_ble_eq_true rfl) dX8_drop_31 ?_
        obtain ⟨q34, hq34, h⟩ := g_bind h
        refine r_callVi [.int q24.1, .int q31.1] [.int x1] q34 (ok_X8_between hq34) q_1058 q_1060 q_55 q_1061 q_148 hd_X8_between (ce_29 D dy _) kc8.1 rfl ⟨Nat.le_of_ble_eq_true rfl, Nat.le_of_ble_eq_true rfl⟩ rfl rfl (Nat.le_of_ble_eq_true rfl) dX8_drop_34 ?_
        refine r_min q_1066 q_745 q_155 q_746 ⟨Nat.le_of_ble_eq_true rfl, Nat.le_of_ble_eq_true rfl⟩ dX8_drop_37 ?_
        refine r_istore_n dX8_drop_40 rfl (by decide) rfl ?_
        refine r_iinc (q := 2) (v := x2 + (1 : Int32)) dX8_drop_41 rfl rfl (by decide) rfl ?_
        refine r_goto (t := 6) dX8_drop_44 (by decide) ?_
        refine r_sub [2, 1, 0] rfl ?_
        exact ih _ _ _ _ h
set_option maxRecDepth 100000 in
set_option maxHeartbeats 4000000 in
theorem w_X8_drop_0 {D : k_D} {dy : Nat → Nat} (S : St) (out : Int32 × St) (h : f_X8_drop S = some out) : Rn yX8_drop cX8_drop 3 (some .int) (k_rm 4) 0 0 D dy S (k_Pi dy out) 0 [(0, .ref (D.2.2 29))] [] := by
    unfold f_X8_drop at h
    refine r_sipush (v := 144) dX8_drop_0 rfl ?_
    refine r_istore_n dX8_drop_3 rfl (by decide) rfl ?_
    refine r_iconst (v := 0) dX8_drop_4 rfl ?_
    refine r_istore_n dX8_drop_5 rfl (by decide) rfl ?_
    refine r_sub [2, 1, 0] rfl ?_
    exact w_X8_drop_6 _ _ _ _ _ h
theorem ok_X8_drop {D : k_D} {dy : Nat → Nat} {S : St} {out : Int32 × St} (h : f_X8_drop S = some out) : Sp yX8_drop cX8_drop 3 (some .int) (k_rm 4) D dy S [.ref (D.2.2 29)] (k_Pi dy out) := Sp.of (by decide +kernel) (Nat.le_of_ble_eq_true rfl) (w_X8_drop_0 S out h)
noncomputable def f_X9_hasRoomFor_17 (s0 : Int32) (S : St) : Option (Int32 × St) := if s0 = 0 ∨ s0 = 1 then some (s0, S) else none
noncomputable def f_X9_hasRoomFor (x1 : Int32) (S : St) : Option (Int32 × St) := if (400 : Int32) < ((gI S 8) + x1) then f_X9_hasRoomFor_17 (0 : Int32) S else f_X9_hasRoomFor_17 (1 : Int32) S
set_option maxRecDepth 100000 in
set_option maxHeartbeats 4000000 in
theorem w_X9_hasRoomFor_17 {D : k_D} {dy : Nat → Nat} (s0 : Int32) (S : St) (out : Int32 × St) (h : f_X9_hasRoomFor_17 s0 S = some out) : Rn yX9_hasRoomFor cX9_hasRoomFor 2 (some .boolean) (k_rm 0) 0 0 D dy S (k_Pi dy out) 17 [] [.int s0] := by
    unfold f_X9_hasRoomFor_17 at h
    obtain ⟨c, h⟩ := g_ite h
    cases h
    exact r_zret rfl (k_zn c) dX9_hasRoomFor_17 ⟨rfl, rfl, rfl⟩
set_option maxRecDepth 100000 in
set_option maxHeartbeats 4000000 in
theorem w_X9_hasRoomFor_0 {D : k_D} {dy : Nat → Nat} (x1 : Int32) (S : St) (out : Int32 × St) (h : f_X9_hasRoomFor x1 S = some out) : Rn yX9_hasRoomFor cX9_hasRoomFor 2 (some .boolean) (k_rm 0) 0 0 D dy S (k_Pi dy out) 0 [(0, .ref (D.2.2 15)), (1, .int x1)] [] := by
    unfold f_X9_hasRoomFor at h
    refine r_aload_n 0 dX9_hasRoomFor_0 rfl rfl ?_
    refine gf_15_1 q_319 dX9_hasRoomFor_1 ?_
    refine r_iload_n 1 dX9_hasRoomFor_4 rfl rfl ?_
    refine r_iadd dX9_hasRoomFor_5 ?_
    refine r_sipush (v := 400) dX9_hasRoomFor_6 rfl ?_
    refine r_icmp_gt (t := 16) dX9_hasRoomFor_9 (by decide) (fun c => ?_) (fun c => ?_)
    · rw [if_pos c] at h
      refine r_iconst (v := 0) dX9_hasRoomFor_16 rfl ?_
      refine r_sub [] rfl ?_
      exact w_X9_hasRoomFor_17 _ _ _ h
    · rw [if_neg c] at h
      refine r_iconst (v := 1) dX9_hasRoomFor_12 rfl ?_
      refine r_goto (t := 17) dX9_hasRoomFor_13 (by decide) ?_
      refine r_sub [] rfl ?_
      exact w_X9_hasRoomFor_17 _ _ _ h
theorem ok_X9_hasRoomFor {D : k_D} {dy : Nat → Nat} {x1 : Int32} {S : St} {out : Int32 × St} (h : f_X9_hasRoomFor x1 S = some out) : Sp yX9_hasRoomFor cX9_hasRoomFor 2 (some .boolean) (k_rm 0) D dy S [.ref (D.2.2 15), .int x1] (k_Pi dy out) := Sp.of (by decide +kernel) (Nat.le_of_ble_eq_true rfl) (w_X9_hasRoomFor_0 _ S out h)
noncomputable def f_X9_write_46 (S : St) : Option (St) := some S
noncomputable def f_X9_write_3 : Nat → Int32 → Int32 → St → Option (St)
  | 0, _, _, _ => none
  | n + 1, x1, x2, S => if x2 < 0 then f_X9_write_46 S else if (400 : Int32) ≤ (gI S 8) then f_X9_write_46 S else if k_b (gI S 8) 400 = true then k_let (sA S 16 (gI S 8).toNatClampNeg (vp_nar .byte ((x1 >>> (x2 &&& 31)).toInt8.toInt32))) fun S2 => k_let (sI S2 8 ((gI S2 8) + (1 : Int32))) fun S3 => f_X9_write_3 n x1 (x2 + (-8 : Int32)) S3 else none
noncomputable def f_X9_write (x1 : Int32) (S : St) : Option (St) := f_X9_write_3 FU x1 (24 : Int32) S
set_option maxRecDepth 100000 in
set_option maxHeartbeats 4000000 in
theorem w_X9_write_46 {D : k_D} {dy : Nat → Nat} (S : St) (out : St) (h : f_X9_write_46 S = some out) : Rn yX9_write cX9_write 3 none (k_rm 0) 0 0 D dy S (k_Pv dy out) 46 [] [] := by
    unfold f_X9_write_46 at h
    exact r_vret rfl dX9_write_46 ⟨rfl, rfl, Option.some.inj h⟩
set_option maxRecDepth 100000 in
set_option maxHeartbeats 4000000 in
theorem w_X9_write_3 {D : k_D} {dy : Nat → Nat} : ∀ (n : Nat) (x1 : Int32) (x2 : Int32) (S : St) (out : St), f_X9_write_3 n x1 x2 S = some out → Rn yX9_write cX9_write 3 none (k_rm 0) 0 0 D dy S (k_Pv dy out) 3 [(0, .ref (D.2.2 15)), (1, .int x1), (2, .int x2)] [] := by
  intro n
  induction n with
  | zero => intro x1 x2 S out h; cases h
  | succ n ih =>
    intro x1 x2 S out h
    rw [f_X9_write_3] at h
    refine r_iload_n 2 dX9_write_3 rfl rfl ?_
    refine r_if_lt (t := 46) dX9_write_4 (by decide) (fun c => ?_) (fun c => ?_)
    · rw [if_pos c] at h
      refine r_sub [] rfl ?_
      exact w_X9_write_46 _ _ h
    · rw [if_neg c] at h
      refine r_aload_n 0 dX9_write_7 rfl rfl ?_
      refine gf_15_1 q_319 dX9_write_8 ?_
      refine r_sipush (v := 400) dX9_write_11 rfl ?_
      refine r_icmp_ge (t := 46) dX9_write_14 (by decide) (fun c => ?_) (fun c => ?_)
      · rw [if_pos c] at h
        refine r_sub [] rfl ?_
        exact w_X9_write_46 _ _ h
      · rw [if_neg c] at h
        refine r_aload_n 0 dX9_write_17 rfl rfl ?_
        refine gf_15_0 q_318 dX9_write_18 ?_
        refine r_aload_n 0 dX9_write_21 rfl rfl ?_
        refine gf_15_1 q_319 dX9_write_22 ?_
        refine r_iload_n 1 dX9_write_25 rfl rfl ?_
        refine r_iload_n 2 dX9_write_26 rfl rfl ?_
        refine r_ishr dX9_write_27 ?_
        refine r_i2b dX9_write_28 ?_
        obtain ⟨c1, h⟩ := g_ite h
        refine as_16 (k_b_in c1) dX9_write_29 ?_
        generalize sA S 16 (gI S 8).toNatClampNeg (vp_nar .byte ((x1 >>> (x2 &&& 31)).toInt8.toInt32)) = S2 at h ⊢
        replace h := g_let h
        refine r_aload_n 0 dX9_write_30 rfl rfl ?_
        refine r_dup dX9_write_31 rfl ?_
        refine gf_15_1 q_319 dX9_write_32 ?_
        refine r_iconst (v := 1) dX9_write_35 rfl ?_
        refine r_iadd dX9_write_36 ?_
        refine pf_15_1 q_319 dX9_write_37 ?_
        generalize sI S2 8 ((gI S2 8) + (1 : Int32)) = S3 at h ⊢
        replace h := g_let h
        refine r_iinc (q := 2) (v := x2 + (-8 : Int32)) dX9_write_40 rfl rfl (by decide) rfl ?_
        refine r_goto (t := 3) dX9_write_43 (by decide) ?_
        refine r_sub [1, 2, 0] rfl ?_
        exact ih _ _ _ _ h
set_option maxRecDepth 100000 in
set_option maxHeartbeats 4000000 in
theorem w_X9_write_0 {D : k_D} {dy : Nat → Nat} (x1 : Int32) (S : St) (out : St) (h : f_X9_write x1 S = some out) : Rn yX9_write cX9_write 3 none (k_rm 0) 0 0 D dy S (k_Pv dy out) 0 [(0, .ref (D.2.2 15)), (1, .int x1)] [] := by
    unfold f_X9_write at h
    refine r_bipush (v := 24) dX9_write_0 rfl ?_
    refine r_istore_n dX9_write_2 rfl (by decide) rfl ?_
    refine r_sub [1, 2, 0] rfl ?_
    exact w_X9_write_3 _ _ _ _ _ h
theorem ok_X9_write {D : k_D} {dy : Nat → Nat} {x1 : Int32} {S : St} {out : St} (h : f_X9_write x1 S = some out) : Sp yX9_write cX9_write 3 none (k_rm 0) D dy S [.ref (D.2.2 15), .int x1] (k_Pv dy out) := Sp.of (by decide +kernel) (Nat.le_of_ble_eq_true rfl) (w_X9_write_0 _ S out h)
noncomputable def f_X10_hasTune_23 (s0 : Int32) (S : St) : Option (Int32 × St) := if s0 = 0 ∨ s0 = 1 then some (s0, S) else none
noncomputable def f_X10_hasTune_22 (S : St) : Option (Int32 × St) := f_X10_hasTune_23 (0 : Int32) S
noncomputable def f_X10_hasTune (x1 : Int32) (S : St) : Option (Int32 × St) := if x1 < 0 then f_X10_hasTune_22 S else if (gI S 0) ≤ x1 then f_X10_hasTune_22 S else if (6 : Int32) ≤ x1 then f_X10_hasTune_22 S else f_X10_hasTune_23 (1 : Int32) S
set_option maxRecDepth 100000 in
set_option maxHeartbeats 4000000 in
theorem w_X10_hasTune_23 {D : k_D} {dy : Nat → Nat} (s0 : Int32) (S : St) (out : Int32 × St) (h : f_X10_hasTune_23 s0 S = some out) : Rn yX10_hasTune cX10_hasTune 2 (some .boolean) (k_rm 0) 0 0 D dy S (k_Pi dy out) 23 [] [.int s0] := by
    unfold f_X10_hasTune_23 at h
    obtain ⟨c, h⟩ := g_ite h
    cases h
    exact r_zret rfl (k_zn c) dX10_hasTune_23 ⟨rfl, rfl, rfl⟩
set_option maxRecDepth 100000 in
set_option maxHeartbeats 4000000 in
theorem w_X10_hasTune_22 {D : k_D} {dy : Nat → Nat} (S : St) (out : Int32 × St) (h : f_X10_hasTune_22 S = some out) : Rn yX10_hasTune cX10_hasTune 2 (some .boolean) (k_rm 0) 0 0 D dy S (k_Pi dy out) 22 [] [] := by
    unfold f_X10_hasTune_22 at h
    refine r_iconst (v := 0) dX10_hasTune_22 rfl ?_
    exact w_X10_hasTune_23 _ _ _ h
set_option maxRecDepth 100000 in
set_option maxHeartbeats 4000000 in
theorem w_X10_hasTune_0 {D : k_D} {dy : Nat → Nat} (x1 : Int32) (S : St) (out : Int32 × St) (h : f_X10_hasTune x1 S = some out) : Rn yX10_hasTune cX10_hasTune 2 (some .boolean) (k_rm 0) 0 0 D dy S (k_Pi dy out) 0 [(0, .ref (D.2.2 0)), (1, .int x1)] [] := by
    unfold f_X10_hasTune at h
    refine r_iload_n 1 dX10_hasTune_0 rfl rfl ?_
    refine r_if_lt (t := 22) dX10_hasTune_1 (by decide) (fun c => ?_) (fun c => ?_)
    · rw [if_pos c] at h
      refine r_sub [] rfl ?_
      exact w_X10_hasTune_22 _ _ h
    · rw [if_neg c] at h
      refine r_iload_n 1 dX10_hasTune_4 rfl rfl ?_
      refine r_aload_n 0 dX10_hasTune_5 rfl rfl ?_
      refine gf_0_1 q_238 dX10_hasTune_6 ?_
      refine r_icmp_ge (t := 22) dX10_hasTune_9 (by decide) (fun c => ?_) (fun c => ?_)
      · rw [if_pos c] at h
        refine r_sub [] rfl ?_
        exact w_X10_hasTune_22 _ _ h
      · rw [if_neg c] at h
        refine r_iload_n 1 dX10_hasTune_12 rfl rfl ?_
        refine r_bipush (v := 6) dX10_hasTune_13 rfl ?_
        refine r_icmp_ge (t := 22) dX10_hasTune_15 (by decide) (fun c => ?_) (fun c => ?_)
        · rw [if_pos c] at h
          refine r_sub [] rfl ?_
          exact w_X10_hasTune_22 _ _ h
        · rw [if_neg c] at h
          refine r_iconst (v := 1) dX10_hasTune_18 rfl ?_
          refine r_goto (t := 23) dX10_hasTune_19 (by decide) ?_
          refine r_sub [] rfl ?_
          exact w_X10_hasTune_23 _ _ _ h
theorem ok_X10_hasTune {D : k_D} {dy : Nat → Nat} {x1 : Int32} {S : St} {out : Int32 × St} (h : f_X10_hasTune x1 S = some out) : Sp yX10_hasTune cX10_hasTune 2 (some .boolean) (k_rm 0) D dy S [.ref (D.2.2 0), .int x1] (k_Pi dy out) := Sp.of (by decide +kernel) (Nat.le_of_ble_eq_true rfl) (w_X10_hasTune_0 _ S out h)
noncomputable def f_X10_addTune (x1 : Int32) (S : St) : Option (Int32 × St) := if (gI S 0) < (6 : Int32) then if k_b (gI S 0) 6 = true then k_let (sA S 1 (gI S 0).toNatClampNeg x1) fun S2 => k_let (sI S2 0 ((gI S2 0) + (1 : Int32))) fun S3 => some ((gI S3 0) - (1 : Int32), S3) else none else some ((-1 : Int32), S)
set_option maxRecDepth 100000 in
set_option maxHeartbeats 4000000 in
theorem w_X10_addTune_0 {D : k_D} {dy : Nat → Nat} (x1 : Int32) (S : St) (out : Int32 × St) (h : f_X10_addTune x1 S = some out) : Rn yX10_addTune cX10_addTune 2 (some .int) (k_rm 0) 0 0 D dy S (k_Pi dy out) 0 [(0, .ref (D.2.2 0)), (1, .int x1)] [] := by
    unfold f_X10_addTune at h
    refine r_aload_n 0 dX10_addTune_0 rfl rfl ?_
    refine gf_0_1 q_238 dX10_addTune_1 ?_
    refine r_bipush (v := 6) dX10_addTune_4 rfl ?_
    refine r_icmp_lt (t := 11) dX10_addTune_6 (by decide) (fun c => ?_) (fun c => ?_)
    · rw [if_pos c] at h
      refine r_aload_n 0 dX10_addTune_11 rfl rfl ?_
      refine gf_0_0 q_236 dX10_addTune_12 ?_
      refine r_aload_n 0 dX10_addTune_15 rfl rfl ?_
      refine gf_0_1 q_238 dX10_addTune_16 ?_
      refine r_iload_n 1 dX10_addTune_19 rfl rfl ?_
      obtain ⟨c1, h⟩ := g_ite h
      refine as_1 (k_b_in c1) dX10_addTune_20 ?_
      generalize sA S 1 (gI S 0).toNatClampNeg x1 = S2 at h ⊢
      replace h := g_let h
      refine r_aload_n 0 dX10_addTune_21 rfl rfl ?_
      refine r_dup dX10_addTune_22 rfl ?_
      refine gf_0_1 q_238 dX10_addTune_23 ?_
      refine r_iconst (v := 1) dX10_addTune_26 rfl ?_
      refine r_iadd dX10_addTune_27 ?_
      refine pf_0_1 q_238 dX10_addTune_28 ?_
      generalize sI S2 0 ((gI S2 0) + (1 : Int32)) = S3 at h ⊢
      replace h := g_let h
      refine r_aload_n 0 dX10_addTune_31 rfl rfl ?_
      refine gf_0_1 q_238 dX10_addTune_32 ?_
      refine r_iconst (v := 1) dX10_addTune_35 rfl ?_
      refine r_isub dX10_addTune_36 ?_
      cases h
      exact r_iret rfl dX10_addTune_37 ⟨rfl, rfl, rfl⟩
    · rw [if_neg c] at h
      refine r_iconst (v := -1) dX10_addTune_9 rfl ?_
      cases h
      exact r_iret rfl dX10_addTune_10 ⟨rfl, rfl, rfl⟩
theorem ok_X10_addTune {D : k_D} {dy : Nat → Nat} {x1 : Int32} {S : St} {out : Int32 × St} (h : f_X10_addTune x1 S = some out) : Sp yX10_addTune cX10_addTune 2 (some .int) (k_rm 0) D dy S [.ref (D.2.2 0), .int x1] (k_Pi dy out) := Sp.of (by decide +kernel) (Nat.le_of_ble_eq_true rfl) (w_X10_addTune_0 _ S out h)
noncomputable def f_X10_addLaw_13 (S : St) : Option (Int32 × St) := some ((-1 : Int32), S)
noncomputable def f_X10_addLaw (x1 : Nat) (S : St) : Option (Int32 × St) := if (gI S 3) < (6 : Int32) then (k_code S x1).bind fun a1 => if k_b (gI S 3) 6 = true then k_let (sR S 0 (gI S 3).toNatClampNeg (x1 + 1)) fun S3 => k_let (sI S3 3 ((gI S3 3) + (1 : Int32))) fun S4 => some ((gI S4 3) - (1 : Int32), S4) else none else f_X10_addLaw_13 S
set_option maxRecDepth 100000 in
set_option maxHeartbeats 4000000 in
theorem w_X10_addLaw_13 {D : k_D} {dy : Nat → Nat} (S : St) (out : Int32 × St) (h : f_X10_addLaw_13 S = some out) : Rn yX10_addLaw cX10_addLaw 2 (some .int) (k_rm 0) 0 0 D dy S (k_Pi dy out) 13 [] [] := by
    unfold f_X10_addLaw_13 at h
    refine r_iconst (v := -1) dX10_addLaw_13 rfl ?_
    cases h
    exact r_iret rfl dX10_addLaw_14 ⟨rfl, rfl, rfl⟩
set_option maxRecDepth 100000 in
set_option maxHeartbeats 4000000 in
theorem w_X10_addLaw_0 {D : k_D} {dy : Nat → Nat} (x1 : Nat) (S : St) (out : Int32 × St) (h : f_X10_addLaw x1 S = some out) : Rn yX10_addLaw cX10_addLaw 2 (some .int) (k_rm 0) 0 0 D dy S (k_Pi dy out) 0 [(0, .ref (D.2.2 0)), (1, .ref (dy (30 + x1)))] [] := by
    unfold f_X10_addLaw at h
    refine r_aload_n 1 dX10_addLaw_0 rfl rfl ?_
    refine r_ifnull dX10_addLaw_1 ?_
    refine r_aload_n 0 dX10_addLaw_4 rfl rfl ?_
    refine gf_0_5 q_253 dX10_addLaw_5 ?_
    refine r_bipush (v := 6) dX10_addLaw_8 rfl ?_
    refine r_icmp_lt (t := 15) dX10_addLaw_10 (by decide) (fun c => ?_) (fun c => ?_)
    · rw [if_pos c] at h
      refine r_aload_n 0 dX10_addLaw_15 rfl rfl ?_
      refine gf_0_4 q_252 dX10_addLaw_16 ?_
      refine r_aload_n 0 dX10_addLaw_19 rfl rfl ?_
      refine gf_0_5 q_253 dX10_addLaw_20 ?_
      refine r_aload_n 1 dX10_addLaw_23 rfl rfl ?_
      obtain ⟨a1, ha1, h⟩ := g_bind h
      obtain ⟨c2, h⟩ := g_ite h
      refine r_aastL ha1 (k_b_in c2) dX10_addLaw_24 ?_
      generalize sR S 0 (gI S 3).toNatClampNeg (x1 + 1) = S3 at h ⊢
      replace h := g_let h
      refine r_aload_n 0 dX10_addLaw_25 rfl rfl ?_
      refine r_dup dX10_addLaw_26 rfl ?_
      refine gf_0_5 q_253 dX10_addLaw_27 ?_
      refine r_iconst (v := 1) dX10_addLaw_30 rfl ?_
      refine r_iadd dX10_addLaw_31 ?_
      refine pf_0_5 q_253 dX10_addLaw_32 ?_
      generalize sI S3 3 ((gI S3 3) + (1 : Int32)) = S4 at h ⊢
      replace h := g_let h
      refine r_aload_n 0 dX10_addLaw_35 rfl rfl ?_
      refine gf_0_5 q_253 dX10_addLaw_36 ?_
      refine r_iconst (v := 1) dX10_addLaw_39 rfl ?_
      refine r_isub dX10_addLaw_40 ?_
      cases h
      exact r_iret rfl dX10_addLaw_41 ⟨rfl, rfl, rfl⟩
    · rw [if_neg c] at h
      refine r_sub [] rfl ?_
      exact w_X10_addLaw_13 _ _ h
theorem ok_X10_addLaw {D : k_D} {dy : Nat → Nat} {x1 : Nat} {S : St} {out : Int32 × St} (h : f_X10_addLaw x1 S = some out) : Sp yX10_addLaw cX10_addLaw 2 (some .int) (k_rm 0) D dy S [.ref (D.2.2 0), .ref (dy (30 + x1))] (k_Pi dy out) := Sp.of (by decide +kernel) (Nat.le_of_ble_eq_true rfl) (w_X10_addLaw_0 _ S out h)
noncomputable def f_X10_addWedding (x1 : Int32) (x2 : Int32) (S : St) : Option (Int32 × St) := if (gI S 5) < (8 : Int32) then if k_b (gI S 5) 8 = true then k_let (sA S 9 (gI S 5).toNatClampNeg x1) fun S2 => if k_b (gI S2 5) 8 = true then k_let (sA S2 10 (gI S2 5).toNatClampNeg x2) fun S4 => k_let (sI S4 5 ((gI S4 5) + (1 : Int32))) fun S5 => some ((1 : Int32), S5) else none else none else some ((0 : Int32), S)
set_option maxRecDepth 100000 in
set_option maxHeartbeats 4000000 in
theorem w_X10_addWedding_0 {D : k_D} {dy : Nat → Nat} (x1 : Int32) (x2 : Int32) (S : St) (out : Int32 × St) (h : f_X10_addWedding x1 x2 S = some out) : Rn yX10_addWedding cX10_addWedding 3 (some .boolean) (k_rm 0) 0 0 D dy S (k_Pi dy out) 0 [(0, .ref (D.2.2 0)), (1, .int x1), (2, .int x2)] [] := by
    unfold f_X10_addWedding at h
    refine r_aload_n 0 dX10_addWedding_0 rfl rfl ?_
    refine gf_0_9 q_261 dX10_addWedding_1 ?_
    refine r_bipush (v := 8) dX10_addWedding_4 rfl ?_
    refine r_icmp_lt (t := 11) dX10_addWedding_6 (by decide) (fun c => ?_) (fun c => ?_)
    · rw [if_pos c] at h
      refine r_aload_n 0 dX10_addWedding_11 rfl rfl ?_
      refine gf_0_7 q_257 dX10_addWedding_12 ?_
      refine r_aload_n 0 dX10_addWedding_15 rfl rfl ?_
      refine gf_0_9 q_261 dX10_addWedding_16 ?_
      refine r_iload_n 1 dX10_addWedding_19 rfl rfl ?_
      obtain ⟨c1, h⟩ := g_ite h
      refine as_9 (k_b_in c1) dX10_addWedding_20 ?_
      generalize sA S 9 (gI S 5).toNatClampNeg x1 = S2 at h ⊢
      replace h := g_let h
      refine r_aload_n 0 dX10_addWedding_21 rfl rfl ?_
      refine gf_0_8 q_259 dX10_addWedding_22 ?_
      refine r_aload_n 0 dX10_addWedding_25 rfl rfl ?_
      refine gf_0_9 q_261 dX10_addWedding_26 ?_
      refine r_iload_n 2 dX10_addWedding_29 rfl rfl ?_
      obtain ⟨c3, h⟩ := g_ite h
      refine as_10 (k_b_in c3) dX10_addWedding_30 ?_
      generalize sA S2 10 (gI S2 5).toNatClampNeg x2 = S4 at h ⊢
      replace h := g_let h
      refine r_aload_n 0 dX10_addWedding_31 rfl rfl ?_
      refine r_dup dX10_addWedding_32 rfl ?_
      refine gf_0_9 q_261 dX10_addWedding_33 ?_
      refine r_iconst (v := 1) dX10_addWedding_36 rfl ?_
      refine r_iadd dX10_addWedding_37 ?_
      refine pf_0_9 q_261 dX10_addWedding_38 ?_
      generalize sI S4 5 ((gI S4 5) + (1 : Int32)) = S5 at h ⊢
      replace h := g_let h
      refine r_iconst (v := 1) dX10_addWedding_41 rfl ?_
      cases h
      exact r_zret rfl rfl dX10_addWedding_42 ⟨rfl, rfl, rfl⟩
    · rw [if_neg c] at h
      refine r_iconst (v := 0) dX10_addWedding_9 rfl ?_
      cases h
      exact r_zret rfl rfl dX10_addWedding_10 ⟨rfl, rfl, rfl⟩
theorem ok_X10_addWedding {D : k_D} {dy : Nat → Nat} {x1 : Int32} {x2 : Int32} {S : St} {out : Int32 × St} (h : f_X10_addWedding x1 x2 S = some out) : Sp yX10_addWedding cX10_addWedding 3 (some .boolean) (k_rm 0) D dy S [.ref (D.2.2 0), .int x1, .int x2] (k_Pi dy out) := Sp.of (by decide +kernel) (Nat.le_of_ble_eq_true rfl) (w_X10_addWedding_0 _ _ S out h)
noncomputable def f_X10_addDance (x1 : Int32) (x2 : Int32) (S : St) : Option (Int32 × St) := if (gI S 6) < (10 : Int32) then if k_b (gI S 6) 10 = true then k_let (sA S 11 (gI S 6).toNatClampNeg x1) fun S2 => if k_b (gI S2 6) 10 = true then k_let (sA S2 12 (gI S2 6).toNatClampNeg x2) fun S4 => k_let (sI S4 6 ((gI S4 6) + (1 : Int32))) fun S5 => some ((gI S5 6) - (1 : Int32), S5) else none else none else some ((-1 : Int32), S)
set_option maxRecDepth 100000 in
set_option maxHeartbeats 4000000 in
theorem w_X10_addDance_0 {D : k_D} {dy : Nat → Nat} (x1 : Int32) (x2 : Int32) (S : St) (out : Int32 × St) (h : f_X10_addDance x1 x2 S = some out) : Rn yX10_addDance cX10_addDance 3 (some .int) (k_rm 0) 0 0 D dy S (k_Pi dy out) 0 [(0, .ref (D.2.2 0)), (1, .int x1), (2, .int x2)] [] := by
    unfold f_X10_addDance at h
    refine r_aload_n 0 dX10_addDance_0 rfl rfl ?_
    refine gf_0_12 q_268 dX10_addDance_1 ?_
    refine r_bipush (v := 10) dX10_addDance_4 rfl ?_
    refine r_icmp_lt (t := 11) dX10_addDance_6 (by decide) (fun c => ?_) (fun c => ?_)
    · rw [if_pos c] at h
      refine r_aload_n 0 dX10_addDance_11 rfl rfl ?_
      refine gf_0_10 q_264 dX10_addDance_12 ?_
      refine r_aload_n 0 dX10_addDance_15 rfl rfl ?_
      refine gf_0_12 q_268 dX10_addDance_16 ?_
      refine r_iload_n 1 dX10_addDance_19 rfl rfl ?_
      obtain ⟨c1, h⟩ := g_ite h
      refine as_11 (k_b_in c1) dX10_addDance_20 ?_
      generalize sA S 11 (gI S 6).toNatClampNeg x1 = S2 at h ⊢
      replace h := g_let h
      refine r_aload_n 0 dX10_addDance_21 rfl rfl ?_
      refine gf_0_11 q_266 dX10_addDance_22 ?_
      refine r_aload_n 0 dX10_addDance_25 rfl rfl ?_
      refine gf_0_12 q_268 dX10_addDance_26 ?_
      refine r_iload_n 2 dX10_addDance_29 rfl rfl ?_
      obtain ⟨c3, h⟩ := g_ite h
      refine as_12 (k_b_in c3) dX10_addDance_30 ?_
      generalize sA S2 12 (gI S2 6).toNatClampNeg x2 = S4 at h ⊢
      replace h := g_let h
      refine r_aload_n 0 dX10_addDance_31 rfl rfl ?_
      refine r_dup dX10_addDance_32 rfl ?_
      refine gf_0_12 q_268 dX10_addDance_33 ?_
      refine r_iconst (v := 1) dX10_addDance_36 rfl ?_
      refine r_iadd dX10_addDance_37 ?_
      refine pf_0_12 q_268 dX10_addDance_38 ?_
      generalize sI S4 6 ((gI S4 6) + (1 : Int32)) = S5 at h ⊢
      replace h := g_let h
      refine r_aload_n 0 dX10_addDance_41 rfl rfl ?_
      refine gf_0_12 q_268 dX10_addDance_42 ?_
      refine r_iconst (v := 1) dX10_addDance_45 rfl ?_
      refine r_isub dX10_addDance_46 ?_
      cases h
      exact r_iret rfl dX10_addDance_47 ⟨rfl, rfl, rfl⟩
    · rw [if_neg c] at h
      refine r_iconst (v := -1) dX10_addDance_9 rfl ?_
      cases h
      exact r_iret rfl dX10_addDance_10 ⟨rfl, rfl, rfl⟩
theorem ok_X10_addDance {D : k_D} {dy : Nat → Nat} {x1 : Int32} {x2 : Int32} {S : St} {out : Int32 × St} (h : f_X10_addDance x1 x2 S = some out) : Sp yX10_addDance cX10_addDance 3 (some .int) (k_rm 0) D dy S [.ref (D.2.2 0), .int x1, .int x2] (k_Pi dy out) := Sp.of (by decide +kernel) (Nat.le_of_ble_eq_true rfl) (w_X10_addDance_0 _ _ S out h)
noncomputable def f_X10_addAhead (x1 : Int32) (x2 : Int32) (S : St) : Option (Int32 × St) := if (gI S 7) < (12 : Int32) then if k_b (gI S 7) 12 = true then k_let (sA S 13 (gI S 7).toNatClampNeg x1) fun S2 => if k_b (gI S2 7) 12 = true then k_let (sA S2 14 (gI S2 7).toNatClampNeg x2) fun S4 => k_let (sI S4 7 ((gI S4 7) + (1 : Int32))) fun S5 => some ((1 : Int32), S5) else none else none else some ((0 : Int32), S)
set_option maxRecDepth 100000 in
set_option maxHeartbeats 4000000 in
theorem w_X10_addAhead_0 {D : k_D} {dy : Nat → Nat} (x1 : Int32) (x2 : Int32) (S : St) (out : Int32 × St) (h : f_X10_addAhead x1 x2 S = some out) : Rn yX10_addAhead cX10_addAhead 3 (some .boolean) (k_rm 0) 0 0 D dy S (k_Pi dy out) 0 [(0, .ref (D.2.2 0)), (1, .int x1), (2, .int x2)] [] := by
    unfold f_X10_addAhead at h
    refine r_aload_n 0 dX10_addAhead_0 rfl rfl ?_
    refine gf_0_15 q_275 dX10_addAhead_1 ?_
    refine r_bipush (v := 12) dX10_addAhead_4 rfl ?_
    refine r_icmp_lt (t := 11) dX10_addAhead_6 (by decide) (fun c => ?_) (fun c => ?_)
    · rw [if_pos c] at h
      refine r_aload_n 0 dX10_addAhead_11 rfl rfl ?_
      refine gf_0_13 q_271 dX10_addAhead_12 ?_
      refine r_aload_n 0 dX10_addAhead_15 rfl rfl ?_
      refine gf_0_15 q_275 dX10_addAhead_16 ?_
      refine r_iload_n 1 dX10_addAhead_19 rfl rfl ?_
      obtain ⟨c1, h⟩ := g_ite h
      refine as_13 (k_b_in c1) dX10_addAhead_20 ?_
      generalize sA S 13 (gI S 7).toNatClampNeg x1 = S2 at h ⊢
      replace h := g_let h
      refine r_aload_n 0 dX10_addAhead_21 rfl rfl ?_
      refine gf_0_14 q_273 dX10_addAhead_22 ?_
      refine r_aload_n 0 dX10_addAhead_25 rfl rfl ?_
      refine gf_0_15 q_275 dX10_addAhead_26 ?_
      refine r_iload_n 2 dX10_addAhead_29 rfl rfl ?_
      obtain ⟨c3, h⟩ := g_ite h
      refine as_14 (k_b_in c3) dX10_addAhead_30 ?_
      generalize sA S2 14 (gI S2 7).toNatClampNeg x2 = S4 at h ⊢
      replace h := g_let h
      refine r_aload_n 0 dX10_addAhead_31 rfl rfl ?_
      refine r_dup dX10_addAhead_32 rfl ?_
      refine gf_0_15 q_275 dX10_addAhead_33 ?_
      refine r_iconst (v := 1) dX10_addAhead_36 rfl ?_
      refine r_iadd dX10_addAhead_37 ?_
      refine pf_0_15 q_275 dX10_addAhead_38 ?_
      generalize sI S4 7 ((gI S4 7) + (1 : Int32)) = S5 at h ⊢
      replace h := g_let h
      refine r_iconst (v := 1) dX10_addAhead_41 rfl ?_
      cases h
      exact r_zret rfl rfl dX10_addAhead_42 ⟨rfl, rfl, rfl⟩
    · rw [if_neg c] at h
      refine r_iconst (v := 0) dX10_addAhead_9 rfl ?_
      cases h
      exact r_zret rfl rfl dX10_addAhead_10 ⟨rfl, rfl, rfl⟩
theorem ok_X10_addAhead {D : k_D} {dy : Nat → Nat} {x1 : Int32} {x2 : Int32} {S : St} {out : Int32 × St} (h : f_X10_addAhead x1 x2 S = some out) : Sp yX10_addAhead cX10_addAhead 3 (some .boolean) (k_rm 0) D dy S [.ref (D.2.2 0), .int x1, .int x2] (k_Pi dy out) := Sp.of (by decide +kernel) (Nat.le_of_ble_eq_true rfl) (w_X10_addAhead_0 _ _ S out h)
noncomputable def f_X11_done (x1 : Int32) (S : St) : Option (Int32 × St) := k_let (sI S 32 (0 : Int32)) fun S1 => some (x1, S1)
set_option maxRecDepth 100000 in
set_option maxHeartbeats 4000000 in
theorem w_X11_done_0 {D : k_D} {dy : Nat → Nat} (x1 : Int32) (S : St) (out : Int32 × St) (h : f_X11_done x1 S = some out) : Rn yX11_done cX11_done 2 (some .int) (k_rm 0) 0 0 D dy S (k_Pi dy out) 0 [(0, .ref (D.2.2 48)), (1, .int x1)] [] := by
    unfold f_X11_done at h
    refine r_aload_n 0 dX11_done_0 rfl rfl ?_
    refine r_iconst (v := 0) dX11_done_1 rfl ?_
    refine pf_48_14 q_604 dX11_done_2 ?_
    generalize sI S 32 (0 : Int32) = S1 at h ⊢
    replace h := g_let h
    refine r_iload_n 1 dX11_done_5 rfl rfl ?_
    cases h
    exact r_iret rfl dX11_done_6 ⟨rfl, rfl, rfl⟩
theorem ok_X11_done {D : k_D} {dy : Nat → Nat} {x1 : Int32} {S : St} {out : Int32 × St} (h : f_X11_done x1 S = some out) : Sp yX11_done cX11_done 2 (some .int) (k_rm 0) D dy S [.ref (D.2.2 48), .int x1] (k_Pi dy out) := Sp.of (by decide +kernel) (Nat.le_of_ble_eq_true rfl) (w_X11_done_0 _ S out h)
noncomputable def f_X11_refuse_41 (x1 : Int32) (S : St) : Option (Int32 × St) := some (x1, S)
noncomputable def f_X11_refuse_21 (x1 : Int32) (s0 : Int32) (S : St) : Option (Int32 × St) := if s0 < 0 then f_X11_refuse_41 x1 S else if (5 : Int32) ≤ s0 then f_X11_refuse_41 x1 S else if k_b s0 5 = true then if k_b s0 5 = true then k_let (sA S 50 s0.toNatClampNeg ((gA S 50 s0.toNatClampNeg) + (1 : Int32))) fun S3 => f_X11_refuse_41 x1 S3 else none else none
noncomputable def f_X11_refuse (x1 : Int32) (S : St) : Option (Int32 × St) := k_let (sI S 32 x1) fun S1 => if x1 ≤ (-5 : Int32) then f_X11_refuse_21 x1 ((-2 : Int32) - x1) S1 else f_X11_refuse_21 x1 ((-1 : Int32) - x1) S1
set_option maxRecDepth 100000 in
set_option maxHeartbeats 4000000 in
theorem w_X11_refuse_41 {D : k_D} {dy : Nat → Nat} (x1 : Int32) (S : St) (out : Int32 × St) (h : f_X11_refuse_41 x1 S = some out) : Rn yX11_refuse cX11_refuse 3 (some .int) (k_rm 0) 0 0 D dy S (k_Pi dy out) 41 [(1, .int x1)] [] := by
    unfold f_X11_refuse_41 at h
    refine r_iload_n 0 dX11_refuse_41 rfl rfl ?_
    cases h
    exact r_iret rfl dX11_refuse_42 ⟨rfl, rfl, rfl⟩
set_option maxRecDepth 100000 in
set_option maxHeartbeats 4000000 in
theorem w_X11_refuse_21 {D : k_D} {dy : Nat → Nat} (x1 : Int32) (s0 : Int32) (S : St) (out : Int32 × St) (h : f_X11_refuse_21 x1 s0 S = some out) : Rn yX11_refuse cX11_refuse 3 (some .int) (k_rm 0) 0 0 D dy S (k_Pi dy out) 21 [(0, .ref (D.2.2 48)), (1, .int x1)] [.int s0] := by
    unfold f_X11_refuse_21 at h
    refine r_istore_n dX11_refuse_21 rfl (by decide) rfl ?_
    refine r_iload_n 0 dX11_refuse_22 rfl rfl ?_
    refine r_if_lt (t := 41) dX11_refuse_23 (by decide) (fun c => ?_) (fun c => ?_)
    · rw [if_pos c] at h
      refine r_sub [2] rfl ?_
      exact w_X11_refuse_41 _ _ _ h
    · rw [if_neg c] at h
      refine r_iload_n 0 dX11_refuse_26 rfl rfl ?_
      refine r_iconst (v := 5) dX11_refuse_27 rfl ?_
      refine r_icmp_ge (t := 41) dX11_refuse_28 (by decide) (fun c => ?_) (fun c => ?_)
      · rw [if_pos c] at h
        refine r_sub [2] rfl ?_
        exact w_X11_refuse_41 _ _ _ h
      · rw [if_neg c] at h
        refine r_aload_n 1 dX11_refuse_31 rfl rfl ?_
        refine gf_48_11 q_601 dX11_refuse_32 ?_
        refine r_iload_n 0 dX11_refuse_35 rfl rfl ?_
        refine r_dup2 dX11_refuse_36 rfl rfl ?_
        obtain ⟨c1, h⟩ := g_ite h
        refine al_50 (k_b_in c1) dX11_refuse_37 ?_
        refine r_iconst (v := 1) dX11_refuse_38 rfl ?_
        refine r_iadd dX11_refuse_39 ?_
        obtain ⟨c2, h⟩ := g_ite h
        refine as_50 (k_b_in c2) dX11_refuse_40 ?_
        generalize sA S 50 s0.toNatClampNeg ((gA S 50 s0.toNatClampNeg) + (1 : Int32)) = S3 at h ⊢
        replace h := g_let h
        refine r_sub [2] rfl ?_
        exact w_X11_refuse_41 _ _ _ h
set_option maxRecDepth 100000 in
set_option maxHeartbeats 4000000 in
theorem w_X11_refuse_0 {D : k_D} {dy : Nat → Nat} (x1 : Int32) (S : St) (out : Int32 × St) (h : f_X11_refuse x1 S = some out) : Rn yX11_refuse cX11_refuse 3 (some .int) (k_rm 0) 0 0 D dy S (k_Pi dy out) 0 [(0, .ref (D.2.2 48)), (1, .int x1)] [] := by
    unfold f_X11_refuse at h
    refine r_aload_n 0 dX11_refuse_0 rfl rfl ?_
    refine r_iload_n 1 dX11_refuse_1 rfl rfl ?_
    refine pf_48_14 q_604 dX11_refuse_2 ?_
    generalize sI S 32 x1 = S1 at h ⊢
    replace h := g_let h
    refine r_iload_n 1 dX11_refuse_5 rfl rfl ?_
    refine r_bipush (v := -5) dX11_refuse_6 rfl ?_
    refine r_icmp_le (t := 17) dX11_refuse_8 (by decide) (fun c => ?_) (fun c => ?_)
    · rw [if_pos c] at h
      refine r_bipush (v := -2) dX11_refuse_17 rfl ?_
      refine r_iload_n 1 dX11_refuse_19 rfl rfl ?_
      refine r_isub dX11_refuse_20 ?_
      exact w_X11_refuse_21 _ _ _ _ h
    · rw [if_neg c] at h
      refine r_iconst (v := -1) dX11_refuse_11 rfl ?_
      refine r_iload_n 1 dX11_refuse_12 rfl rfl ?_
      refine r_isub dX11_refuse_13 ?_
      refine r_goto (t := 21) dX11_refuse_14 (by decide) ?_
      exact w_X11_refuse_21 _ _ _ _ h
theorem ok_X11_refuse {D : k_D} {dy : Nat → Nat} {x1 : Int32} {S : St} {out : Int32 × St} (h : f_X11_refuse x1 S = some out) : Sp yX11_refuse cX11_refuse 3 (some .int) (k_rm 0) D dy S [.ref (D.2.2 48), .int x1] (k_Pi dy out) := Sp.of (by decide +kernel) (Nat.le_of_ble_eq_true rfl) (w_X11_refuse_0 _ S out h)
noncomputable def f_X11_tune_11 (S : St) : Option (Int32 × St) := (f_X11_refuse (-1 : Int32) S).bind fun q13 => some (q13.1, q13.2)
noncomputable def f_X11_tune_45 (s0 : Int32) (S : St) : Option (Int32 × St) := some (s0, S)
noncomputable def f_X11_tune (x1 : Int32) (S : St) : Option (Int32 × St) := if x1 < (1 : Int32) then f_X11_tune_11 S else if x1 ≤ (30 : Int32) then (f_X10_addTune x1 S).bind fun q22 => if q22.1 = (-1 : Int32) then (f_X11_refuse (-5 : Int32) q22.2).bind fun q34 => f_X11_tune_45 q34.1 q34.2 else (f_X11_done q22.1 q22.2).bind fun q42 => f_X11_tune_45 q42.1 q42.2 else f_X11_tune_11 S
set_option maxRecDepth 100000 in
set_option maxHeartbeats 4000000 in
theorem w_X11_tune_11 {D : k_D} {dy : Nat → Nat} (S : St) (out : Int32 × St) (h : f_X11_tune_11 S = some out) : Rn yX11_tune cX11_tune 3 (some .int) (k_rm 1) 0 0 D dy S (k_Pi dy out) 11 [(0, .ref (D.2.2 48))] [] := by
    unfold f_X11_tune_11 at h
    refine r_aload_n 0 dX11_tune_11 rfl rfl ?_
    refine r_iconst (v := -1) dX11_tune_12 rfl ?_
    obtain ⟨q13, hq13, h⟩ := g_bind h
    refine r_callVi [.int (-1 : Int32)] [] q13 (ok_X11_refuse hq13) q_640 q_642 q_0 q_643 q_141 hd_X11_refuse (ce_48 D dy _) kc11.1 rfl ⟨Nat.le_of_ble_eq_true rfl, Nat.le_of_ble_eq_true rfl⟩ rfl rfl (Nat.le_of_ble_eq_true rfl) dX11_tune_13 ?_
    cases h
    exact r_iret rfl dX11_tune_16 ⟨rfl, rfl, rfl⟩
set_option maxRecDepth 100000 in
set_option maxHeartbeats 4000000 in
theorem w_X11_tune_45 {D : k_D} {dy : Nat → Nat} (s0 : Int32) (S : St) (out : Int32 × St) (h : f_X11_tune_45 s0 S = some out) : Rn yX11_tune cX11_tune 3 (some .int) (k_rm 1) 0 0 D dy S (k_Pi dy out) 45 [] [.int s0] := by
    unfold f_X11_tune_45 at h
    cases h
    exact r_iret rfl dX11_tune_45 ⟨rfl, rfl, rfl⟩
set_option maxRecDepth 100000 in
set_option maxHeartbeats 4000000 in
theorem w_X11_tune_0 {D : k_D} {dy : Nat → Nat} (x1 : Int32) (S : St) (out : Int32 × St) (h : f_X11_tune x1 S = some out) : Rn yX11_tune cX11_tune 3 (some .int) (k_rm 1) 0 0 D dy S (k_Pi dy out) 0 [(0, .ref (D.2.2 48)), (1, .int x1)] [] := by
    unfold f_X11_tune at h
    refine r_iload_n 1 dX11_tune_0 rfl rfl ?_
    refine r_iconst (v := 1) dX11_tune_1 rfl ?_
    refine r_icmp_lt (t := 11) dX11_tune_2 (by decide) (fun c => ?_) (fun c => ?_)
    · rw [if_pos c] at h
      refine r_sub [0] rfl ?_
      exact w_X11_tune_11 _ _ h
    · rw [if_neg c] at h
      refine r_iload_n 1 dX11_tune_5 rfl rfl ?_
      refine r_bipush (v := 30) dX11_tune_6 rfl ?_
      refine r_icmp_le (t := 17) dX11_tune_8 (by decide) (fun c => ?_) (fun c => ?_)
      · rw [if_pos c] at h
        refine r_aload_n 0 dX11_tune_17 rfl rfl ?_
        refine gf_48_0 q_590 dX11_tune_18 ?_
        refine r_iload_n 1 dX11_tune_21 rfl rfl ?_
        obtain ⟨q22, hq22, h⟩ := g_bind h
        refine r_callVNi [.int x1] [] q22 (ok_X10_addTune hq22) q_644 q_646 q_1 q_647 q_142 hd_X10_addTune (ce_0 D dy _) kc10.1 rfl ⟨Nat.le_of_ble_eq_true rfl, Nat.le_of_ble_eq_true rfl⟩ rfl rfl (Nat.le_of_ble_eq_true rfl) dX11_tune_22 ?_
        refine r_istore_n dX11_tune_25 rfl (by decide) rfl ?_
        refine r_iload_n 0 dX11_tune_26 rfl rfl ?_
        refine r_iconst (v := -1) dX11_tune_27 rfl ?_
        refine r_icmp_ne (t := 40) dX11_tune_28 (by decide) (fun c => ?_) (fun c => ?_)
        · rw [if_neg c] at h
          refine r_aload_n 1 dX11_tune_40 rfl rfl ?_
          refine r_iload_n 0 dX11_tune_41 rfl rfl ?_
          obtain ⟨q42, hq42, h⟩ := g_bind h
          refine r_callVi [.int q22.1] [] q42 (ok_X11_done hq42) q_648 q_650 q_2 q_651 q_141 hd_X11_done (ce_48 D dy _) kc11.1 rfl ⟨Nat.le_of_ble_eq_true rfl, Nat.le_of_ble_eq_true rfl⟩ rfl rfl (Nat.le_of_ble_eq_true rfl) dX11_tune_42 ?_
          refine r_sub [] rfl ?_
          exact w_X11_tune_45 _ _ _ h
        · rw [if_pos c] at h
          refine r_aload_n 1 dX11_tune_31 rfl rfl ?_
          refine r_bipush (v := -5) dX11_tune_32 rfl ?_
          obtain ⟨q34, hq34, h⟩ := g_bind h
          refine r_callVi [.int (-5 : Int32)] [] q34 (ok_X11_refuse hq34) q_640 q_642 q_0 q_643 q_141 hd_X11_refuse (ce_48 D dy _) kc11.1 rfl ⟨Nat.le_of_ble_eq_true rfl, Nat.le_of_ble_eq_true rfl⟩ rfl rfl (Nat.le_of_ble_eq_true rfl) dX11_tune_34 ?_
          refine r_goto (t := 45) dX11_tune_37 (by decide) ?_
          refine r_sub [] rfl ?_
          exact w_X11_tune_45 _ _ _ h
      · rw [if_neg c] at h
        refine r_sub [0] rfl ?_
        exact w_X11_tune_11 _ _ h
theorem ok_X11_tune {D : k_D} {dy : Nat → Nat} {x1 : Int32} {S : St} {out : Int32 × St} (h : f_X11_tune x1 S = some out) : Sp yX11_tune cX11_tune 3 (some .int) (k_rm 1) D dy S [.ref (D.2.2 48), .int x1] (k_Pi dy out) := Sp.of (by decide +kernel) (Nat.le_of_ble_eq_true rfl) (w_X11_tune_0 _ S out h)
noncomputable def f_X11_length_24 (s0 : Int32) (S : St) : Option (Int32 × St) := some (s0, S)
noncomputable def f_X11_length (x1 : Int32) (S : St) : Option (Int32 × St) := (f_X10_hasTune x1 S).bind fun q5 => if q5.1 = 0 then f_X11_length_24 (-1 : Int32) q5.2 else if k_b x1 6 = true then f_X11_length_24 (gA q5.2 1 x1.toNatClampNeg) q5.2 else none
set_option maxRecDepth 100000 in
set_option maxHeartbeats 4000000 in
theorem w_X11_length_24 {D : k_D} {dy : Nat → Nat} (s0 : Int32) (S : St) (out : Int32 × St) (h : f_X11_length_24 s0 S = some out) : Rn yX11_length cX11_length 2 (some .int) (k_rm 1) 0 0 D dy S (k_Pi dy out) 24 [] [.int s0] := by
    unfold f_X11_length_24 at h
    cases h
    exact r_iret rfl dX11_length_24 ⟨rfl, rfl, rfl⟩
set_option maxRecDepth 100000 in
set_option maxHeartbeats 4000000 in
theorem w_X11_length_0 {D : k_D} {dy : Nat → Nat} (x1 : Int32) (S : St) (out : Int32 × St) (h : f_X11_length x1 S = some out) : Rn yX11_length cX11_length 2 (some .int) (k_rm 1) 0 0 D dy S (k_Pi dy out) 0 [(0, .ref (D.2.2 48)), (1, .int x1)] [] := by
    unfold f_X11_length at h
    refine r_aload_n 0 dX11_length_0 rfl rfl ?_
    refine gf_48_0 q_590 dX11_length_1 ?_
    refine r_iload_n 1 dX11_length_4 rfl rfl ?_
    obtain ⟨q5, hq5, h⟩ := g_bind h
    refine r_callVNi [.int x1] [] q5 (ok_X10_hasTune hq5) q_656 q_658 q_3 q_659 q_142 hd_X10_hasTune (ce_0 D dy _) kc10.1 rfl ⟨Nat.le_of_ble_eq_true rfl, Nat.le_of_ble_eq_true rfl⟩ rfl rfl (Nat.le_of_ble_eq_true rfl) dX11_length_5 ?_
    refine r_if_eq (t := 23) dX11_length_8 (by decide) (fun c => ?_) (fun c => ?_)
    · rw [if_pos c] at h
      refine r_iconst (v := -1) dX11_length_23 rfl ?_
      refine r_sub [] rfl ?_
      exact w_X11_length_24 _ _ _ h
    · rw [if_neg c] at h
      refine r_aload_n 0 dX11_length_11 rfl rfl ?_
      refine gf_48_0 q_590 dX11_length_12 ?_
      refine gfN_0_0 q_237 dX11_length_15 ?_
      refine r_iload_n 1 dX11_length_18 rfl rfl ?_
      obtain ⟨c1, h⟩ := g_ite h
      refine al_1 (k_b_in c1) dX11_length_19 ?_
      refine r_goto (t := 24) dX11_length_20 (by decide) ?_
      refine r_sub [] rfl ?_
      exact w_X11_length_24 _ _ _ h
theorem ok_X11_length {D : k_D} {dy : Nat → Nat} {x1 : Int32} {S : St} {out : Int32 × St} (h : f_X11_length x1 S = some out) : Sp yX11_length cX11_length 2 (some .int) (k_rm 1) D dy S [.ref (D.2.2 48), .int x1] (k_Pi dy out) := Sp.of (by decide +kernel) (Nat.le_of_ble_eq_true rfl) (w_X11_length_0 _ S out h)
noncomputable def f_X11_canOwe_35 (s0 : Int32) (S : St) : Option (Int32 × St) := if s0 = 0 ∨ s0 = 1 then some (s0, S) else none
noncomputable def f_X11_canOwe_34 (S : St) : Option (Int32 × St) := f_X11_canOwe_35 (0 : Int32) S
noncomputable def f_X11_canOwe (x0 : Int32) (x1 : Int32) (x2 : Int32) (S : St) : Option (Int32 × St) := (f_X11_isDancer x0 S).bind fun q1 => if q1.1 = 0 then f_X11_canOwe_34 q1.2 else (f_X11_isDancer x1 q1.2).bind fun q8 => if q8.1 = 0 then f_X11_canOwe_34 q8.2 else if x0 = x1 then f_X11_canOwe_34 q8.2 else if x2 < (1 : Int32) then f_X11_canOwe_34 q8.2 else if (9 : Int32) < x2 then f_X11_canOwe_34 q8.2 else f_X11_canOwe_35 (1 : Int32) q8.2
set_option maxRecDepth 100000 in
set_option maxHeartbeats 4000000 in
theorem w_X11_canOwe_35 {D : k_D} {dy : Nat → Nat} (s0 : Int32) (S : St) (out : Int32 × St) (h : f_X11_canOwe_35 s0 S = some out) : Rn yX11_canOwe cX11_canOwe 3 (some .boolean) (k_rm 1) 0 0 D dy S (k_Pi dy out) 35 [] [.int s0] := by
    unfold f_X11_canOwe_35 at h
    obtain ⟨c, h⟩ := g_ite h
    cases h
    exact r_zret rfl (k_zn c) dX11_canOwe_35 ⟨rfl, rfl, rfl⟩
set_option maxRecDepth 100000 in
set_option maxHeartbeats 4000000 in
theorem w_X11_canOwe_34 {D : k_D} {dy : Nat → Nat} (S : St) (out : Int32 × St) (h : f_X11_canOwe_34 S = some out) : Rn yX11_canOwe cX11_canOwe 3 (some .boolean) (k_rm 1) 0 0 D dy S (k_Pi dy out) 34 [] [] := by
    unfold f_X11_canOwe_34 at h
    refine r_iconst (v := 0) dX11_canOwe_34 rfl ?_
    exact w_X11_canOwe_35 _ _ _ h
set_option maxRecDepth 100000 in
set_option maxHeartbeats 4000000 in
theorem w_X11_canOwe_0 {D : k_D} {dy : Nat → Nat} (x0 : Int32) (x1 : Int32) (x2 : Int32) (S : St) (out : Int32 × St) (h : f_X11_canOwe x0 x1 x2 S = some out) : Rn yX11_canOwe cX11_canOwe 3 (some .boolean) (k_rm 1) 0 0 D dy S (k_Pi dy out) 0 [(0, .int x0), (1, .int x1), (2, .int x2)] [] := by
    unfold f_X11_canOwe at h
    refine r_iload_n 0 dX11_canOwe_0 rfl rfl ?_
    obtain ⟨q1, hq1, h⟩ := g_bind h
    refine r_callSi [.int x0] [] q1 (ok_X11_isDancer hq1) q_667 q_668 q_669 q_141 hd_X11_isDancer ⟨Nat.le_of_ble_eq_true rfl, Nat.le_of_ble_eq_true rfl⟩ rfl rfl (Nat.le_of_ble_eq_true rfl) dX11_canOwe_1 ?_
    refine r_if_eq (t := 34) dX11_canOwe_4 (by decide) (fun c => ?_) (fun c => ?_)
    · rw [if_pos c] at h
      refine r_sub [] rfl ?_
      exact w_X11_canOwe_34 _ _ h
    · rw [if_neg c] at h
      refine r_iload_n 1 dX11_canOwe_7 rfl rfl ?_
      obtain ⟨q8, hq8, h⟩ := g_bind h
      refine r_callSi [.int x1] [] q8 (ok_X11_isDancer hq8) q_667 q_668 q_669 q_141 hd_X11_isDancer ⟨Nat.le_of_ble_eq_true rfl, Nat.le_of_ble_eq_true rfl⟩ rfl rfl (Nat.le_of_ble_eq_true rfl) dX11_canOwe_8 ?_
      refine r_if_eq (t := 34) dX11_canOwe_11 (by decide) (fun c => ?_) (fun c => ?_)
      · rw [if_pos c] at h
        refine r_sub [] rfl ?_
        exact w_X11_canOwe_34 _ _ h
      · rw [if_neg c] at h
        refine r_iload_n 0 dX11_canOwe_14 rfl rfl ?_
        refine r_iload_n 1 dX11_canOwe_15 rfl rfl ?_
        refine r_icmp_eq (t := 34) dX11_canOwe_16 (by decide) (fun c => ?_) (fun c => ?_)
        · rw [if_pos c] at h
          refine r_sub [] rfl ?_
          exact w_X11_canOwe_34 _ _ h
        · rw [if_neg c] at h
          refine r_iload_n 2 dX11_canOwe_19 rfl rfl ?_
          refine r_iconst (v := 1) dX11_canOwe_20 rfl ?_
          refine r_icmp_lt (t := 34) dX11_canOwe_21 (by decide) (fun c => ?_) (fun c => ?_)
          · rw [if_pos c] at h
            refine r_sub [] rfl ?_
            exact w_X11_canOwe_34 _ _ h
          · rw [if_neg c] at h
            refine r_iload_n 2 dX11_canOwe_24 rfl rfl ?_
            refine r_bipush (v := 9) dX11_canOwe_25 rfl ?_
            refine r_icmp_gt (t := 34) dX11_canOwe_27 (by decide) (fun c => ?_) (fun c => ?_)
            · rw [if_pos c] at h
              refine r_sub [] rfl ?_
              exact w_X11_canOwe_34 _ _ h
            · rw [if_neg c] at h
              refine r_iconst (v := 1) dX11_canOwe_30 rfl ?_
              refine r_goto (t := 35) dX11_canOwe_31 (by decide) ?_
              refine r_sub [] rfl ?_
              exact w_X11_canOwe_35 _ _ _ h
theorem ok_X11_canOwe {D : k_D} {dy : Nat → Nat} {x0 : Int32} {x1 : Int32} {x2 : Int32} {S : St} {out : Int32 × St} (h : f_X11_canOwe x0 x1 x2 S = some out) : Sp yX11_canOwe cX11_canOwe 3 (some .boolean) (k_rm 1) D dy S [.int x0, .int x1, .int x2] (k_Pi dy out) := Sp.of (by decide +kernel) (Nat.le_of_ble_eq_true rfl) (w_X11_canOwe_0 _ _ _ S out h)
noncomputable def f_X11_owe_79 (s0 : Int32) (S : St) : Option (Int32 × St) := some (s0, S)
noncomputable def f_X11_owe (x1 : Int32) (x2 : Int32) (x3 : Int32) (x4 : Int32) (S : St) : Option (Int32 × St) := (f_X11_canOwe x1 x2 x4 S).bind fun q4 => if q4.1 = 0 then (f_X11_refuse (-1 : Int32) q4.2).bind fun q12 => some (q12.1, q12.2) else (f_X10_hasTune x3 q4.2).bind fun q21 => if q21.1 = 0 then (f_X11_refuse (-2 : Int32) q21.2).bind fun q30 => some (q30.1, q30.2) else (f_X1_add x1 x2 x3 x4 (gI q21.2 2) q21.2).bind fun q53 => if q53.1 = (-1 : Int32) then (f_X11_refuse (-5 : Int32) q53.2).bind fun q67 => f_X11_owe_79 q67.1 q67.2 else (f_X11_done q53.1 q53.2).bind fun q76 => f_X11_owe_79 q76.1 q76.2
set_option maxRecDepth 100000 in
set_option maxHeartbeats 4000000 in
theorem w_X11_owe_79 {D : k_D} {dy : Nat → Nat} (s0 : Int32) (S : St) (out : Int32 × St) (h : f_X11_owe_79 s0 S = some out) : Rn yX11_owe cX11_owe 6 (some .int) (k_rm 2) 0 0 D dy S (k_Pi dy out) 79 [] [.int s0] := by
    unfold f_X11_owe_79 at h
    cases h
    exact r_iret rfl dX11_owe_79 ⟨rfl, rfl, rfl⟩
set_option maxRecDepth 100000 in
set_option maxHeartbeats 4000000 in
theorem w_X11_owe_0 {D : k_D} {dy : Nat → Nat} (x1 : Int32) (x2 : Int32) (x3 : Int32) (x4 : Int32) (S : St) (out : Int32 × St) (h : f_X11_owe x1 x2 x3 x4 S = some out) : Rn yX11_owe cX11_owe 6 (some .int) (k_rm 2) 0 0 D dy S (k_Pi dy out) 0 [(0, .ref (D.2.2 48)), (1, .int x1), (2, .int x2), (3, .int x3), (4, .int x4)] [] := by
    unfold f_X11_owe at h
    refine r_iload_n 1 dX11_owe_0 rfl rfl ?_
    refine r_iload_n 2 dX11_owe_1 rfl rfl ?_
    refine r_iload 4 dX11_owe_2 rfl ?_
    obtain ⟨q4, hq4, h⟩ := g_bind h
    refine r_callSi [.int x1, .int x2, .int x4] [] q4 (ok_X11_canOwe hq4) q_664 q_665 q_666 q_141 hd_X11_canOwe ⟨Nat.le_of_ble_eq_true rfl, Nat.le_of_ble_eq_true rfl⟩ rfl rfl (Nat.le_of_ble_eq_true rfl) dX11_owe_4 ?_
    refine r_if_ne (t := 16) dX11_owe_7 (by decide) (fun c => ?_) (fun c => ?_)
    · rw [if_neg c] at h
      refine r_aload_n 0 dX11_owe_16 rfl rfl ?_
      refine gf_48_0 q_590 dX11_owe_17 ?_
      refine r_iload_n 3 dX11_owe_20 rfl rfl ?_
      obtain ⟨q21, hq21, h⟩ := g_bind h
      refine r_callVNi [.int x3] [] q21 (ok_X10_hasTune hq21) q_656 q_658 q_3 q_659 q_142 hd_X10_hasTune (ce_0 D dy _) kc10.1 rfl ⟨Nat.le_of_ble_eq_true rfl, Nat.le_of_ble_eq_true rfl⟩ rfl rfl (Nat.le_of_ble_eq_true rfl) dX11_owe_21 ?_
      refine r_if_ne (t := 34) dX11_owe_24 (by decide) (fun c => ?_) (fun c => ?_)
      · rw [if_neg c] at h
        refine r_aload_n 0 dX11_owe_34 rfl rfl ?_
        refine gf_48_0 q_590 dX11_owe_35 ?_
        refine gfN_0_2 q_248 dX11_owe_38 ?_
        refine r_iload_n 1 dX11_owe_41 rfl rfl ?_
        refine r_iload_n 2 dX11_owe_42 rfl rfl ?_
        refine r_iload_n 3 dX11_owe_43 rfl rfl ?_
        refine r_iload 4 dX11_owe_44 rfl ?_
        refine r_aload_n 0 dX11_owe_46 rfl rfl ?_
        refine gf_48_0 q_590 dX11_owe_47 ?_
        refine gfN_0_3 q_250 dX11_owe_50 ?_
        obtain ⟨q53, hq53, h⟩ := g_bind h
        refine r_callVNi [.int x1, .int x2, .int x3, .int x4, .int (gI q21.2 2)] [] q53 (ok_X1_add hq53) q_670 q_672 q_4 q_673 q_143 hd_X1_add (ce_2 D dy _) kc1.1 rfl ⟨Nat.le_of_ble_eq_true rfl, Nat.le_of_ble_eq_true rfl⟩ rfl rfl (Nat.le_of_ble_eq_true rfl) dX11_owe_53 ?_
        refine r_istore dX11_owe_56 (by decide) rfl ?_
        refine r_iload 0 dX11_owe_58 rfl ?_
        refine r_iconst (v := -1) dX11_owe_60 rfl ?_
        refine r_icmp_ne (t := 73) dX11_owe_61 (by decide) (fun c => ?_) (fun c => ?_)
        · rw [if_neg c] at h
          refine r_aload_n 1 dX11_owe_73 rfl rfl ?_
          refine r_iload 0 dX11_owe_74 rfl ?_
          obtain ⟨q76, hq76, h⟩ := g_bind h
          refine r_callVi [.int q53.1] [] q76 (ok_X11_done hq76) q_648 q_650 q_2 q_651 q_141 hd_X11_done (ce_48 D dy _) kc11.1 rfl ⟨Nat.le_of_ble_eq_true rfl, Nat.le_of_ble_eq_true rfl⟩ rfl rfl (Nat.le_of_ble_eq_true rfl) dX11_owe_76 ?_
          refine r_sub [] rfl ?_
          exact w_X11_owe_79 _ _ _ h
        · rw [if_pos c] at h
          refine r_aload_n 1 dX11_owe_64 rfl rfl ?_
          refine r_bipush (v := -5) dX11_owe_65 rfl ?_
          obtain ⟨q67, hq67, h⟩ := g_bind h
          refine r_callVi [.int (-5 : Int32)] [] q67 (ok_X11_refuse hq67) q_640 q_642 q_0 q_643 q_141 hd_X11_refuse (ce_48 D dy _) kc11.1 rfl ⟨Nat.le_of_ble_eq_true rfl, Nat.le_of_ble_eq_true rfl⟩ rfl rfl (Nat.le_of_ble_eq_true rfl) dX11_owe_67 ?_
          refine r_goto (t := 79) dX11_owe_70 (by decide) ?_
          refine r_sub [] rfl ?_
          exact w_X11_owe_79 _ _ _ h
      · rw [if_pos c] at h
        refine r_aload_n 0 dX11_owe_27 rfl rfl ?_
        refine r_bipush (v := -2) dX11_owe_28 rfl ?_
        obtain ⟨q30, hq30, h⟩ := g_bind h
        refine r_callVi [.int (-2 : Int32)] [] q30 (ok_X11_refuse hq30) q_640 q_642 q_0 q_643 q_141 hd_X11_refuse (ce_48 D dy _) kc11.1 rfl ⟨Nat.le_of_ble_eq_true rfl, Nat.le_of_ble_eq_true rfl⟩ rfl rfl (Nat.le_of_ble_eq_true rfl) dX11_owe_30 ?_
        cases h
        exact r_iret rfl dX11_owe_33 ⟨rfl, rfl, rfl⟩
    · rw [if_pos c] at h
      refine r_aload_n 0 dX11_owe_10 rfl rfl ?_
      refine r_iconst (v := -1) dX11_owe_11 rfl ?_
      obtain ⟨q12, hq12, h⟩ := g_bind h
      refine r_callVi [.int (-1 : Int32)] [] q12 (ok_X11_refuse hq12) q_640 q_642 q_0 q_643 q_141 hd_X11_refuse (ce_48 D dy _) kc11.1 rfl ⟨Nat.le_of_ble_eq_true rfl, Nat.le_of_ble_eq_true rfl⟩ rfl rfl (Nat.le_of_ble_eq_true rfl) dX11_owe_12 ?_
      cases h
      exact r_iret rfl dX11_owe_15 ⟨rfl, rfl, rfl⟩
theorem ok_X11_owe {D : k_D} {dy : Nat → Nat} {x1 : Int32} {x2 : Int32} {x3 : Int32} {x4 : Int32} {S : St} {out : Int32 × St} (h : f_X11_owe x1 x2 x3 x4 S = some out) : Sp yX11_owe cX11_owe 6 (some .int) (k_rm 2) D dy S [.ref (D.2.2 48), .int x1, .int x2, .int x3, .int x4] (k_Pi dy out) := Sp.of (by decide +kernel) (Nat.le_of_ble_eq_true rfl) (w_X11_owe_0 _ _ _ _ S out h)
noncomputable def f_X11_of_26 (S : St) : Option (Int32 × St) := some ((-1 : Int32), S)
noncomputable def f_X11_of_101 (s0 : Int32) (S : St) : Option (Int32 × St) := some (s0, S)
noncomputable def f_X11_of_89 (s0 : Int32) (S : St) : Option (Int32 × St) := if s0 = 0 then f_X11_of_101 (0 : Int32) S else f_X11_of_101 (1 : Int32) S
noncomputable def f_X11_of (x1 : Int32) (x2 : Int32) (S : St) : Option (Int32 × St) := (f_X1_has x1 S).bind fun q10 => if q10.1 = 0 then f_X11_of_26 q10.2 else if x2 < 0 then f_X11_of_26 q10.2 else if x2 ≤ (7 : Int32) then if (4 : Int32) < x2 then (f_X3_hear q10.2).bind fun q44 => if x2 = (5 : Int32) then if k_b x1 16 = true then some (gA q44 18 x1.toNatClampNeg, q44) else none else if x2 = (6 : Int32) then if k_b x1 16 = true then f_X11_of_89 (gA q44 19 x1.toNatClampNeg) q44 else none else if k_b x1 16 = true then f_X11_of_89 (gA q44 20 x1.toNatClampNeg) q44 else none else (f_X1_told x1 x2 q10.2).bind fun q36 => some (q36.1, q36.2) else f_X11_of_26 q10.2
set_option maxRecDepth 100000 in
set_option maxHeartbeats 4000000 in
theorem w_X11_of_26 {D : k_D} {dy : Nat → Nat} (S : St) (out : Int32 × St) (h : f_X11_of_26 S = some out) : Rn yX11_of cX11_of 5 (some .int) (k_rm 5) 0 0 D dy S (k_Pi dy out) 26 [] [] := by
    unfold f_X11_of_26 at h
    refine r_iconst (v := -1) dX11_of_26 rfl ?_
    cases h
    exact r_iret rfl dX11_of_27 ⟨rfl, rfl, rfl⟩
set_option maxRecDepth 100000 in
set_option maxHeartbeats 4000000 in
theorem w_X11_of_101 {D : k_D} {dy : Nat → Nat} (s0 : Int32) (S : St) (out : Int32 × St) (h : f_X11_of_101 s0 S = some out) : Rn yX11_of cX11_of 5 (some .int) (k_rm 5) 0 0 D dy S (k_Pi dy out) 101 [] [.int s0] := by
    unfold f_X11_of_101 at h
    cases h
    exact r_iret rfl dX11_of_101 ⟨rfl, rfl, rfl⟩
set_option maxRecDepth 100000 in
set_option maxHeartbeats 4000000 in
theorem w_X11_of_89 {D : k_D} {dy : Nat → Nat} (s0 : Int32) (S : St) (out : Int32 × St) (h : f_X11_of_89 s0 S = some out) : Rn yX11_of cX11_of 5 (some .int) (k_rm 5) 0 0 D dy S (k_Pi dy out) 89 [] [.int s0] := by
    unfold f_X11_of_89 at h
    refine r_istore dX11_of_89 (by decide) rfl ?_
    refine r_iload 0 dX11_of_91 rfl ?_
    refine r_if_eq (t := 100) dX11_of_93 (by decide) (fun c => ?_) (fun c => ?_)
    · rw [if_pos c] at h
      refine r_iconst (v := 0) dX11_of_100 rfl ?_
      refine r_sub [] rfl ?_
      exact w_X11_of_101 _ _ _ h
    · rw [if_neg c] at h
      refine r_iconst (v := 1) dX11_of_96 rfl ?_
      refine r_goto (t := 101) dX11_of_97 (by decide) ?_
      refine r_sub [] rfl ?_
      exact w_X11_of_101 _ _ _ h
set_option maxRecDepth 100000 in
set_option maxHeartbeats 4000000 in
theorem w_X11_of_0 {D : k_D} {dy : Nat → Nat} (x1 : Int32) (x2 : Int32) (S : St) (out : Int32 × St) (h : f_X11_of x1 x2 S = some out) : Rn yX11_of cX11_of 5 (some .int) (k_rm 5) 0 0 D dy S (k_Pi dy out) 0 [(0, .ref (D.2.2 48)), (1, .int x1), (2, .int x2)] [] := by
    unfold f_X11_of at h
    refine r_aload_n 0 dX11_of_0 rfl rfl ?_
    refine gf_48_0 q_590 dX11_of_1 ?_
    refine gfN_0_2 q_248 dX11_of_4 ?_
    refine r_astore_n dX11_of_7 rfl (by decide) rfl ?_
    refine r_aload_n 0 dX11_of_8 rfl rfl ?_
    refine r_iload_n 2 dX11_of_9 rfl rfl ?_
    obtain ⟨q10, hq10, h⟩ := g_bind h
    refine r_callVNi [.int x1] [] q10 (ok_X1_has hq10) q_678 q_680 q_5 q_681 q_143 hd_X1_has (ce_2 D dy _) kc1.1 rfl ⟨Nat.le_of_ble_eq_true rfl, Nat.le_of_ble_eq_true rfl⟩ rfl rfl (Nat.le_of_ble_eq_true rfl) dX11_of_10 ?_
    refine r_if_eq (t := 26) dX11_of_13 (by decide) (fun c => ?_) (fun c => ?_)
    · rw [if_pos c] at h
      refine r_sub [] rfl ?_
      exact w_X11_of_26 _ _ h
    · rw [if_neg c] at h
      refine r_iload_n 3 dX11_of_16 rfl rfl ?_
      refine r_if_lt (t := 26) dX11_of_17 (by decide) (fun c => ?_) (fun c => ?_)
      · rw [if_pos c] at h
        refine r_sub [] rfl ?_
        exact w_X11_of_26 _ _ h
      · rw [if_neg c] at h
        refine r_iload_n 3 dX11_of_20 rfl rfl ?_
        refine r_bipush (v := 7) dX11_of_21 rfl ?_
        refine r_icmp_le (t := 28) dX11_of_23 (by decide) (fun c => ?_) (fun c => ?_)
        · rw [if_pos c] at h
          refine r_iload_n 3 dX11_of_28 rfl rfl ?_
          refine r_iconst (v := 4) dX11_of_29 rfl ?_
          refine r_icmp_gt (t := 40) dX11_of_30 (by decide) (fun c => ?_) (fun c => ?_)
          · rw [if_pos c] at h
            refine r_aload_n 1 dX11_of_40 rfl rfl ?_
            refine gf_48_4 q_594 dX11_of_41 ?_
            obtain ⟨q44, hq44, h⟩ := g_bind h
            refine r_callVNv [] [] q44 (ok_X3_hear hq44) q_687 q_689 q_7 q_690 q_146 hd_X3_hear (ce_17 D dy _) kc3.1 rfl ⟨Nat.le_of_ble_eq_true rfl, Nat.le_of_ble_eq_true rfl⟩ rfl rfl (Nat.le_of_ble_eq_true rfl) dX11_of_44 ?_
            refine r_iload_n 3 dX11_of_47 rfl rfl ?_
            refine r_iconst (v := 5) dX11_of_48 rfl ?_
            refine r_icmp_ne (t := 62) dX11_of_49 (by decide) (fun c => ?_) (fun c => ?_)
            · rw [if_neg c] at h
              refine r_iload_n 3 dX11_of_62 rfl rfl ?_
              refine r_bipush (v := 6) dX11_of_63 rfl ?_
              refine r_icmp_ne (t := 80) dX11_of_65 (by decide) (fun c => ?_) (fun c => ?_)
              · rw [if_neg c] at h
                refine r_aload_n 1 dX11_of_80 rfl rfl ?_
                refine gf_48_4 q_594 dX11_of_81 ?_
                refine gfN_17_4 q_382 dX11_of_84 ?_
                refine r_iload_n 2 dX11_of_87 rfl rfl ?_
                obtain ⟨c1, h⟩ := g_ite h
                refine al_20 (k_b_in c1) dX11_of_88 ?_
                refine r_sub [] rfl ?_
                exact w_X11_of_89 _ _ _ h
              · rw [if_pos c] at h
                refine r_aload_n 1 dX11_of_68 rfl rfl ?_
                refine gf_48_4 q_594 dX11_of_69 ?_
                refine gfN_17_3 q_379 dX11_of_72 ?_
                refine r_iload_n 2 dX11_of_75 rfl rfl ?_
                obtain ⟨c2, h⟩ := g_ite h
                refine al_19 (k_b_in c2) dX11_of_76 ?_
                refine r_goto (t := 89) dX11_of_77 (by decide) ?_
                refine r_sub [] rfl ?_
                exact w_X11_of_89 _ _ _ h
            · rw [if_pos c] at h
              refine r_aload_n 1 dX11_of_52 rfl rfl ?_
              refine gf_48_4 q_594 dX11_of_53 ?_
              refine gfN_17_2 q_372 dX11_of_56 ?_
              refine r_iload_n 2 dX11_of_59 rfl rfl ?_
              obtain ⟨c3, h⟩ := g_ite h
              refine al_18 (k_b_in c3) dX11_of_60 ?_
              cases h
              exact r_iret rfl dX11_of_61 ⟨rfl, rfl, rfl⟩
          · rw [if_neg c] at h
            refine r_aload_n 0 dX11_of_33 rfl rfl ?_
            refine r_iload_n 2 dX11_of_34 rfl rfl ?_
            refine r_iload_n 3 dX11_of_35 rfl rfl ?_
            obtain ⟨q36, hq36, h⟩ := g_bind h
            refine r_callVNi [.int x1, .int x2] [] q36 (ok_X1_told hq36) q_682 q_684 q_6 q_685 q_143 hd_X1_told (ce_2 D dy _) kc1.1 rfl ⟨Nat.le_of_ble_eq_true rfl, Nat.le_of_ble_eq_true rfl⟩ rfl rfl (Nat.le_of_ble_eq_true rfl) dX11_of_36 ?_
            cases h
            exact r_iret rfl dX11_of_39 ⟨rfl, rfl, rfl⟩
        · rw [if_neg c] at h
          refine r_sub [] rfl ?_
          exact w_X11_of_26 _ _ h
theorem ok_X11_of {D : k_D} {dy : Nat → Nat} {x1 : Int32} {x2 : Int32} {S : St} {out : Int32 × St} (h : f_X11_of x1 x2 S = some out) : Sp yX11_of cX11_of 5 (some .int) (k_rm 5) D dy S [.ref (D.2.2 48), .int x1, .int x2] (k_Pi dy out) := Sp.of (by decide +kernel) (Nat.le_of_ble_eq_true rfl) (w_X11_of_0 _ _ S out h)
noncomputable def f_X11_pay_11 (S : St) : Option (Int32 × St) := (f_X11_refuse (-1 : Int32) S).bind fun q13 => some (q13.1, q13.2)
noncomputable def f_X11_pay (x1 : Int32) (x2 : Int32) (S : St) : Option (Int32 × St) := if x2 < (1 : Int32) then f_X11_pay_11 S else if x2 ≤ (9 : Int32) then (f_X1_has x1 S).bind fun q27 => if q27.1 = 0 then (f_X11_refuse (-2 : Int32) q27.2).bind fun q36 => some (q36.1, q36.2) else if k_b x1 16 = true then if x2 ≤ (gA q27.2 6 x1.toNatClampNeg) then if k_b x1 16 = true then if k_b x1 16 = true then k_let (sA q27.2 6 x1.toNatClampNeg ((gA q27.2 6 x1.toNatClampNeg) - x2)) fun S4 => (f_X1_dropPlayed S4).bind fun q75 => (f_X11_done ((gA q27.2 6 x1.toNatClampNeg) - x2) q75).bind fun q81 => some (q81.1, q81.2) else none else none else (f_X11_refuse (-1 : Int32) q27.2).bind fun q52 => some (q52.1, q52.2) else none else f_X11_pay_11 S
set_option maxRecDepth 100000 in
set_option maxHeartbeats 4000000 in
theorem w_X11_pay_11 {D : k_D} {dy : Nat → Nat} (S : St) (out : Int32 × St) (h : f_X11_pay_11 S = some out) : Rn yX11_pay cX11_pay 5 (some .int) (k_rm 1) 0 0 D dy S (k_Pi dy out) 11 [(0, .ref (D.2.2 48))] [] := by
    unfold f_X11_pay_11 at h
    refine r_aload_n 0 dX11_pay_11 rfl rfl ?_
    refine r_iconst (v := -1) dX11_pay_12 rfl ?_
    obtain ⟨q13, hq13, h⟩ := g_bind h
    refine r_callVi [.int (-1 : Int32)] [] q13 (ok_X11_refuse hq13) q_640 q_642 q_0 q_643 q_141 hd_X11_refuse (ce_48 D dy _) kc11.1 rfl ⟨Nat.le_of_ble_eq_true rfl, Nat.le_of_ble_eq_true rfl⟩ rfl rfl (Nat.le_of_ble_eq_true rfl) dX11_pay_13 ?_
    cases h
    exact r_iret rfl dX11_pay_16 ⟨rfl, rfl, rfl⟩
set_option maxRecDepth 100000 in
set_option maxHeartbeats 4000000 in
theorem w_X11_pay_0 {D : k_D} {dy : Nat → Nat} (x1 : Int32) (x2 : Int32) (S : St) (out : Int32 × St) (h : f_X11_pay x1 x2 S = some out) : Rn yX11_pay cX11_pay 5 (some .int) (k_rm 1) 0 0 D dy S (k_Pi dy out) 0 [(0, .ref (D.2.2 48)), (1, .int x1), (2, .int x2)] [] := by
    unfold f_X11_pay at h
    refine r_iload_n 2 dX11_pay_0 rfl rfl ?_
    refine r_iconst (v := 1) dX11_pay_1 rfl ?_
    refine r_icmp_lt (t := 11) dX11_pay_2 (by decide) (fun c => ?_) (fun c => ?_)
    · rw [if_pos c] at h
      refine r_sub [0] rfl ?_
      exact w_X11_pay_11 _ _ h
    · rw [if_neg c] at h
      refine r_iload_n 2 dX11_pay_5 rfl rfl ?_
      refine r_bipush (v := 9) dX11_pay_6 rfl ?_
      refine r_icmp_le (t := 17) dX11_pay_8 (by decide) (fun c => ?_) (fun c => ?_)
      · rw [if_pos c] at h
        refine r_aload_n 0 dX11_pay_17 rfl rfl ?_
        refine gf_48_0 q_590 dX11_pay_18 ?_
        refine gfN_0_2 q_248 dX11_pay_21 ?_
        refine r_astore_n dX11_pay_24 rfl (by decide) rfl ?_
        refine r_aload_n 0 dX11_pay_25 rfl rfl ?_
        refine r_iload_n 2 dX11_pay_26 rfl rfl ?_
        obtain ⟨q27, hq27, h⟩ := g_bind h
        refine r_callVNi [.int x1] [] q27 (ok_X1_has hq27) q_678 q_680 q_5 q_681 q_143 hd_X1_has (ce_2 D dy _) kc1.1 rfl ⟨Nat.le_of_ble_eq_true rfl, Nat.le_of_ble_eq_true rfl⟩ rfl rfl (Nat.le_of_ble_eq_true rfl) dX11_pay_27 ?_
        refine r_if_ne (t := 40) dX11_pay_30 (by decide) (fun c => ?_) (fun c => ?_)
        · rw [if_neg c] at h
          refine r_iload_n 3 dX11_pay_40 rfl rfl ?_
          refine r_aload_n 0 dX11_pay_41 rfl rfl ?_
          refine gfN_2_3 q_207 dX11_pay_42 ?_
          refine r_iload_n 2 dX11_pay_45 rfl rfl ?_
          obtain ⟨c1, h⟩ := g_ite h
          refine al_6 (k_b_in c1) dX11_pay_46 ?_
          refine r_icmp_le (t := 56) dX11_pay_47 (by decide) (fun c => ?_) (fun c => ?_)
          · rw [if_pos c] at h
            refine r_aload_n 0 dX11_pay_56 rfl rfl ?_
            refine gfN_2_3 q_207 dX11_pay_57 ?_
            refine r_iload_n 2 dX11_pay_60 rfl rfl ?_
            obtain ⟨c2, h⟩ := g_ite h
            refine al_6 (k_b_in c2) dX11_pay_61 ?_
            refine r_iload_n 3 dX11_pay_62 rfl rfl ?_
            refine r_isub dX11_pay_63 ?_
            refine r_istore dX11_pay_64 (by decide) rfl ?_
            refine r_aload_n 1 dX11_pay_66 rfl rfl ?_
            refine gfN_2_3 q_207 dX11_pay_67 ?_
            refine r_iload_n 3 dX11_pay_70 rfl rfl ?_
            refine r_iload 0 dX11_pay_71 rfl ?_
            obtain ⟨c3, h⟩ := g_ite h
            refine as_6 (k_b_in c3) dX11_pay_73 ?_
            generalize sA q27.2 6 x1.toNatClampNeg ((gA q27.2 6 x1.toNatClampNeg) - x2) = S4 at h ⊢
            replace h := g_let h
            refine r_aload_n 1 dX11_pay_74 rfl rfl ?_
            obtain ⟨q75, hq75, h⟩ := g_bind h
            refine r_callVNv [] [] q75 (ok_X1_dropPlayed hq75) q_751 q_753 q_18 q_754 q_143 hd_X1_dropPlayed (ce_2 D dy _) kc1.1 rfl ⟨Nat.le_of_ble_eq_true rfl, Nat.le_of_ble_eq_true rfl⟩ rfl rfl (Nat.le_of_ble_eq_true rfl) dX11_pay_75 ?_
            refine r_aload_n 2 dX11_pay_78 rfl rfl ?_
            refine r_iload 0 dX11_pay_79 rfl ?_
            obtain ⟨q81, hq81, h⟩ := g_bind h
            refine r_callVi [.int ((gA q27.2 6 x1.toNatClampNeg) - x2)] [] q81 (ok_X11_done hq81) q_648 q_650 q_2 q_651 q_141 hd_X11_done (ce_48 D dy _) kc11.1 rfl ⟨Nat.le_of_ble_eq_true rfl, Nat.le_of_ble_eq_true rfl⟩ rfl rfl (Nat.le_of_ble_eq_true rfl) dX11_pay_81 ?_
            cases h
            exact r_iret rfl dX11_pay_84 ⟨rfl, rfl, rfl⟩
          · rw [if_neg c] at h
            refine r_aload_n 1 dX11_pay_50 rfl rfl ?_
            refine r_iconst (v := -1) dX11_pay_51 rfl ?_
            obtain ⟨q52, hq52, h⟩ := g_bind h
            refine r_callVi [.int (-1 : Int32)] [] q52 (ok_X11_refuse hq52) q_640 q_642 q_0 q_643 q_141 hd_X11_refuse (ce_48 D dy _) kc11.1 rfl ⟨Nat.le_of_ble_eq_true rfl, Nat.le_of_ble_eq_true rfl⟩ rfl rfl (Nat.le_of_ble_eq_true rfl) dX11_pay_52 ?_
            cases h
            exact r_iret rfl dX11_pay_55 ⟨rfl, rfl, rfl⟩
        · rw [if_pos c] at h
          refine r_aload_n 1 dX11_pay_33 rfl rfl ?_
          refine r_bipush (v := -2) dX11_pay_34 rfl ?_
          obtain ⟨q36, hq36, h⟩ := g_bind h
          refine r_callVi [.int (-2 : Int32)] [] q36 (ok_X11_refuse hq36) q_640 q_642 q_0 q_643 q_141 hd_X11_refuse (ce_48 D dy _) kc11.1 rfl ⟨Nat.le_of_ble_eq_true rfl, Nat.le_of_ble_eq_true rfl⟩ rfl rfl (Nat.le_of_ble_eq_true rfl) dX11_pay_36 ?_
          cases h
          exact r_iret rfl dX11_pay_39 ⟨rfl, rfl, rfl⟩
      · rw [if_neg c] at h
        refine r_sub [0] rfl ?_
        exact w_X11_pay_11 _ _ h
theorem ok_X11_pay {D : k_D} {dy : Nat → Nat} {x1 : Int32} {x2 : Int32} {S : St} {out : Int32 × St} (h : f_X11_pay x1 x2 S = some out) : Sp yX11_pay cX11_pay 5 (some .int) (k_rm 1) D dy S [.ref (D.2.2 48), .int x1, .int x2] (k_Pi dy out) := Sp.of (by decide +kernel) (Nat.le_of_ble_eq_true rfl) (w_X11_pay_0 _ _ S out h)
noncomputable def f_X11_funeral (x1 : Int32) (S : St) : Option (Int32 × St) := (f_X11_isDancer x1 S).bind fun q1 => if q1.1 = 0 then (f_X11_refuse (-1 : Int32) q1.2).bind fun q9 => some (q9.1, q9.2) else (f_X1_bury x1 q1.2).bind fun q22 => (f_X11_done q22.1 q22.2).bind fun q25 => some (q25.1, q25.2)
set_option maxRecDepth 100000 in
set_option maxHeartbeats 4000000 in
theorem w_X11_funeral_0 {D : k_D} {dy : Nat → Nat} (x1 : Int32) (S : St) (out : Int32 × St) (h : f_X11_funeral x1 S = some out) : Rn yX11_funeral cX11_funeral 2 (some .int) (k_rm 2) 0 0 D dy S (k_Pi dy out) 0 [(0, .ref (D.2.2 48)), (1, .int x1)] [] := by
    unfold f_X11_funeral at h
    refine r_iload_n 1 dX11_funeral_0 rfl rfl ?_
    obtain ⟨q1, hq1, h⟩ := g_bind h
    refine r_callSi [.int x1] [] q1 (ok_X11_isDancer hq1) q_667 q_668 q_669 q_141 hd_X11_isDancer ⟨Nat.le_of_ble_eq_true rfl, Nat.le_of_ble_eq_true rfl⟩ rfl rfl (Nat.le_of_ble_eq_true rfl) dX11_funeral_1 ?_
    refine r_if_ne (t := 13) dX11_funeral_4 (by decide) (fun c => ?_) (fun c => ?_)
    · rw [if_neg c] at h
      refine r_aload_n 0 dX11_funeral_13 rfl rfl ?_
      refine r_aload_n 0 dX11_funeral_14 rfl rfl ?_
      refine gf_48_0 q_590 dX11_funeral_15 ?_
      refine gfN_0_2 q_248 dX11_funeral_18 ?_
      refine r_iload_n 1 dX11_funeral_21 rfl rfl ?_
      obtain ⟨q22, hq22, h⟩ := g_bind h
      refine r_callVNi [.int x1] [.ref (D.2.2 48)] q22 (ok_X1_bury hq22) q_759 q_761 q_19 q_762 q_143 hd_X1_bury (ce_2 D dy _) kc1.1 rfl ⟨Nat.le_of_ble_eq_true rfl, Nat.le_of_ble_eq_true rfl⟩ rfl rfl (Nat.le_of_ble_eq_true rfl) dX11_funeral_22 ?_
      obtain ⟨q25, hq25, h⟩ := g_bind h
      refine r_callVi [.int q22.1] [] q25 (ok_X11_done hq25) q_648 q_650 q_2 q_651 q_141 hd_X11_done (ce_48 D dy _) kc11.1 rfl ⟨Nat.le_of_ble_eq_true rfl, Nat.le_of_ble_eq_true rfl⟩ rfl rfl (Nat.le_of_ble_eq_true rfl) dX11_funeral_25 ?_
      cases h
      exact r_iret rfl dX11_funeral_28 ⟨rfl, rfl, rfl⟩
    · rw [if_pos c] at h
      refine r_aload_n 0 dX11_funeral_7 rfl rfl ?_
      refine r_iconst (v := -1) dX11_funeral_8 rfl ?_
      obtain ⟨q9, hq9, h⟩ := g_bind h
      refine r_callVi [.int (-1 : Int32)] [] q9 (ok_X11_refuse hq9) q_640 q_642 q_0 q_643 q_141 hd_X11_refuse (ce_48 D dy _) kc11.1 rfl ⟨Nat.le_of_ble_eq_true rfl, Nat.le_of_ble_eq_true rfl⟩ rfl rfl (Nat.le_of_ble_eq_true rfl) dX11_funeral_9 ?_
      cases h
      exact r_iret rfl dX11_funeral_12 ⟨rfl, rfl, rfl⟩
theorem ok_X11_funeral {D : k_D} {dy : Nat → Nat} {x1 : Int32} {S : St} {out : Int32 × St} (h : f_X11_funeral x1 S = some out) : Sp yX11_funeral cX11_funeral 2 (some .int) (k_rm 2) D dy S [.ref (D.2.2 48), .int x1] (k_Pi dy out) := Sp.of (by decide +kernel) (Nat.le_of_ble_eq_true rfl) (w_X11_funeral_0 _ S out h)
noncomputable def f_X11_terms_15 (S : St) : Option (Int32 × St) := (f_X11_refuse (-1 : Int32) S).bind fun q17 => some (q17.1, q17.2)
noncomputable def f_X11_terms (x1 : Int32) (x2 : Int32) (S : St) : Option (Int32 × St) := if x1 = 0 then if x2 < 0 then f_X11_terms_15 S else if x2 ≤ (999 : Int32) then k_let (sI S 2 x2) fun S1 => (f_X11_done (gI S 2) S1).bind fun q39 => some (q39.1, q39.2) else f_X11_terms_15 S else f_X11_terms_15 S
set_option maxRecDepth 100000 in
set_option maxHeartbeats 4000000 in
theorem w_X11_terms_15 {D : k_D} {dy : Nat → Nat} (S : St) (out : Int32 × St) (h : f_X11_terms_15 S = some out) : Rn yX11_terms cX11_terms 4 (some .int) (k_rm 1) 0 0 D dy S (k_Pi dy out) 15 [(0, .ref (D.2.2 48))] [] := by
    unfold f_X11_terms_15 at h
    refine r_aload_n 0 dX11_terms_15 rfl rfl ?_
    refine r_iconst (v := -1) dX11_terms_16 rfl ?_
    obtain ⟨q17, hq17, h⟩ := g_bind h
    refine r_callVi [.int (-1 : Int32)] [] q17 (ok_X11_refuse hq17) q_640 q_642 q_0 q_643 q_141 hd_X11_refuse (ce_48 D dy _) kc11.1 rfl ⟨Nat.le_of_ble_eq_true rfl, Nat.le_of_ble_eq_true rfl⟩ rfl rfl (Nat.le_of_ble_eq_true rfl) dX11_terms_17 ?_
    cases h
    exact r_iret rfl dX11_terms_20 ⟨rfl, rfl, rfl⟩
set_option maxRecDepth 100000 in
set_option maxHeartbeats 4000000 in
theorem w_X11_terms_0 {D : k_D} {dy : Nat → Nat} (x1 : Int32) (x2 : Int32) (S : St) (out : Int32 × St) (h : f_X11_terms x1 x2 S = some out) : Rn yX11_terms cX11_terms 4 (some .int) (k_rm 1) 0 0 D dy S (k_Pi dy out) 0 [(0, .ref (D.2.2 48)), (1, .int x1), (2, .int x2)] [] := by
    unfold f_X11_terms at h
    refine r_iload_n 1 dX11_terms_0 rfl rfl ?_
    refine r_if_ne (t := 15) dX11_terms_1 (by decide) (fun c => ?_) (fun c => ?_)
    · rw [if_neg c] at h
      refine r_sub [0] rfl ?_
      exact w_X11_terms_15 _ _ h
    · rw [if_pos c] at h
      refine r_iload_n 2 dX11_terms_4 rfl rfl ?_
      refine r_if_lt (t := 15) dX11_terms_5 (by decide) (fun c => ?_) (fun c => ?_)
      · rw [if_pos c] at h
        refine r_sub [0] rfl ?_
        exact w_X11_terms_15 _ _ h
      · rw [if_neg c] at h
        refine r_iload_n 2 dX11_terms_8 rfl rfl ?_
        refine r_sipush (v := 999) dX11_terms_9 rfl ?_
        refine r_icmp_le (t := 21) dX11_terms_12 (by decide) (fun c => ?_) (fun c => ?_)
        · rw [if_pos c] at h
          refine r_aload_n 0 dX11_terms_21 rfl rfl ?_
          refine gf_48_0 q_590 dX11_terms_22 ?_
          refine gfN_0_3 q_250 dX11_terms_25 ?_
          refine r_istore_n dX11_terms_28 rfl (by decide) rfl ?_
          refine r_aload_n 1 dX11_terms_29 rfl rfl ?_
          refine gf_48_0 q_590 dX11_terms_30 ?_
          refine r_iload_n 3 dX11_terms_33 rfl rfl ?_
          refine pfN_0_3 q_250 dX11_terms_34 ?_
          generalize sI S 2 x2 = S1 at h ⊢
          replace h := g_let h
          refine r_aload_n 1 dX11_terms_37 rfl rfl ?_
          refine r_iload_n 0 dX11_terms_38 rfl rfl ?_
          obtain ⟨q39, hq39, h⟩ := g_bind h
          refine r_callVi [.int (gI S 2)] [] q39 (ok_X11_done hq39) q_648 q_650 q_2 q_651 q_141 hd_X11_done (ce_48 D dy _) kc11.1 rfl ⟨Nat.le_of_ble_eq_true rfl, Nat.le_of_ble_eq_true rfl⟩ rfl rfl (Nat.le_of_ble_eq_true rfl) dX11_terms_39 ?_
          cases h
          exact r_iret rfl dX11_terms_42 ⟨rfl, rfl, rfl⟩
        · rw [if_neg c] at h
          refine r_sub [0] rfl ?_
          exact w_X11_terms_15 _ _ h
theorem ok_X11_terms {D : k_D} {dy : Nat → Nat} {x1 : Int32} {x2 : Int32} {S : St} {out : Int32 × St} (h : f_X11_terms x1 x2 S = some out) : Sp yX11_terms cX11_terms 4 (some .int) (k_rm 1) D dy S [.ref (D.2.2 48), .int x1, .int x2] (k_Pi dy out) := Sp.of (by decide +kernel) (Nat.le_of_ble_eq_true rfl) (w_X11_terms_0 _ _ S out h)
noncomputable def f_X11_feed (x1 : Int32) (x2 : Int32) (x3 : Int32) (x4 : Int32) (x5 : Int32) (S : St) : Option (Int32 × St) := (f_X9_hasRoomFor (20 : Int32) S).bind fun q6 => if q6.1 = 0 then some ((-1 : Int32), q6.2) else (f_X9_write x1 q6.2).bind fun q19 => (f_X9_write x2 q19).bind fun q27 => (f_X9_write x3 q27).bind fun q35 => (f_X9_write x4 q35).bind fun q44 => (f_X9_write x5 q44).bind fun q53 => some (gI q53 8, q53)
set_option maxRecDepth 100000 in
set_option maxHeartbeats 4000000 in
theorem w_X11_feed_0 {D : k_D} {dy : Nat → Nat} (x1 : Int32) (x2 : Int32) (x3 : Int32) (x4 : Int32) (x5 : Int32) (S : St) (out : Int32 × St) (h : f_X11_feed x1 x2 x3 x4 x5 S = some out) : Rn yX11_feed cX11_feed 6 (some .int) (k_rm 1) 0 0 D dy S (k_Pi dy out) 0 [(0, .ref (D.2.2 48)), (1, .int x1), (2, .int x2), (3, .int x3), (4, .int x4), (5, .int x5)] [] := by
    unfold f_X11_feed at h
    refine r_aload_n 0 dX11_feed_0 rfl rfl ?_
    refine gf_48_2 q_592 dX11_feed_1 ?_
    refine r_bipush (v := 20) dX11_feed_4 rfl ?_
    obtain ⟨q6, hq6, h⟩ := g_bind h
    refine r_callVNi [.int (20 : Int32)] [] q6 (ok_X9_hasRoomFor hq6) q_772 q_774 q_20 q_775 q_144 hd_X9_hasRoomFor (ce_15 D dy _) kc9.1 rfl ⟨Nat.le_of_ble_eq_true rfl, Nat.le_of_ble_eq_true rfl⟩ rfl rfl (Nat.le_of_ble_eq_true rfl) dX11_feed_6 ?_
    refine r_if_ne (t := 14) dX11_feed_9 (by decide) (fun c => ?_) (fun c => ?_)
    · rw [if_neg c] at h
      refine r_aload_n 0 dX11_feed_14 rfl rfl ?_
      refine gf_48_2 q_592 dX11_feed_15 ?_
      refine r_iload_n 1 dX11_feed_18 rfl rfl ?_
      obtain ⟨q19, hq19, h⟩ := g_bind h
      refine r_callVNv [.int x1] [] q19 (ok_X9_write hq19) q_776 q_778 q_21 q_779 q_144 hd_X9_write (ce_15 D dy _) kc9.1 rfl ⟨Nat.le_of_ble_eq_true rfl, Nat.le_of_ble_eq_true rfl⟩ rfl rfl (Nat.le_of_ble_eq_true rfl) dX11_feed_19 ?_
      refine r_aload_n 0 dX11_feed_22 rfl rfl ?_
      refine gf_48_2 q_592 dX11_feed_23 ?_
      refine r_iload_n 2 dX11_feed_26 rfl rfl ?_
      obtain ⟨q27, hq27, h⟩ := g_bind h
      refine r_callVNv [.int x2] [] q27 (ok_X9_write hq27) q_776 q_778 q_21 q_779 q_144 hd_X9_write (ce_15 D dy _) kc9.1 rfl ⟨Nat.le_of_ble_eq_true rfl, Nat.le_of_ble_eq_true rfl⟩ rfl rfl (Nat.le_of_ble_eq_true rfl) dX11_feed_27 ?_
      refine r_aload_n 0 dX11_feed_30 rfl rfl ?_
      refine gf_48_2 q_592 dX11_feed_31 ?_
      refine r_iload_n 3 dX11_feed_34 rfl rfl ?_
      obtain ⟨q35, hq35, h⟩ := g_bind h
      refine r_callVNv [.int x3] [] q35 (ok_X9_write hq35) q_776 q_778 q_21 q_779 q_144 hd_X9_write (ce_15 D dy _) kc9.1 rfl ⟨Nat.le_of_ble_eq_true rfl, Nat.le_of_ble_eq_true rfl⟩ rfl rfl (Nat.le_of_ble_eq_true rfl) dX11_feed_35 ?_
      refine r_aload_n 0 dX11_feed_38 rfl rfl ?_
      refine gf_48_2 q_592 dX11_feed_39 ?_
      refine r_iload 4 dX11_feed_42 rfl ?_
      obtain ⟨q44, hq44, h⟩ := g_bind h
      refine r_callVNv [.int x4] [] q44 (ok_X9_write hq44) q_776 q_778 q_21 q_779 q_144 hd_X9_write (ce_15 D dy _) kc9.1 rfl ⟨Nat.le_of_ble_eq_true rfl, Nat.le_of_ble_eq_true rfl⟩ rfl rfl (Nat.le_of_ble_eq_true rfl) dX11_feed_44 ?_
      refine r_aload_n 0 dX11_feed_47 rfl rfl ?_
      refine gf_48_2 q_592 dX11_feed_48 ?_
      refine r_iload 5 dX11_feed_51 rfl ?_
      obtain ⟨q53, hq53, h⟩ := g_bind h
      refine r_callVNv [.int x5] [] q53 (ok_X9_write hq53) q_776 q_778 q_21 q_779 q_144 hd_X9_write (ce_15 D dy _) kc9.1 rfl ⟨Nat.le_of_ble_eq_true rfl, Nat.le_of_ble_eq_true rfl⟩ rfl rfl (Nat.le_of_ble_eq_true rfl) dX11_feed_53 ?_
      refine r_aload_n 0 dX11_feed_56 rfl rfl ?_
      refine gf_48_2 q_592 dX11_feed_57 ?_
      refine gfN_15_1 q_320 dX11_feed_60 ?_
      cases h
      exact r_iret rfl dX11_feed_63 ⟨rfl, rfl, rfl⟩
    · rw [if_pos c] at h
      refine r_iconst (v := -1) dX11_feed_12 rfl ?_
      cases h
      exact r_iret rfl dX11_feed_13 ⟨rfl, rfl, rfl⟩
theorem ok_X11_feed {D : k_D} {dy : Nat → Nat} {x1 : Int32} {x2 : Int32} {x3 : Int32} {x4 : Int32} {x5 : Int32} {S : St} {out : Int32 × St} (h : f_X11_feed x1 x2 x3 x4 x5 S = some out) : Sp yX11_feed cX11_feed 6 (some .int) (k_rm 1) D dy S [.ref (D.2.2 48), .int x1, .int x2, .int x3, .int x4, .int x5] (k_Pi dy out) := Sp.of (by decide +kernel) (Nat.le_of_ble_eq_true rfl) (w_X11_feed_0 _ _ _ _ _ S out h)
noncomputable def f_X11_end_15 (S : St) : Option (Int32 × St) := some ((-1 : Int32), S)
noncomputable def f_X11_end (x1 : Int32) (S : St) : Option (Int32 × St) := if x1 < 0 then f_X11_end_15 S else if x1 ≤ (gI S 8) then k_let (sI S 8 x1) fun S1 => some (x1, S1) else f_X11_end_15 S
set_option maxRecDepth 100000 in
set_option maxHeartbeats 4000000 in
theorem w_X11_end_15 {D : k_D} {dy : Nat → Nat} (S : St) (out : Int32 × St) (h : f_X11_end_15 S = some out) : Rn yX11_end cX11_end 2 (some .int) (k_rm 0) 0 0 D dy S (k_Pi dy out) 15 [] [] := by
    unfold f_X11_end_15 at h
    refine r_iconst (v := -1) dX11_end_15 rfl ?_
    cases h
    exact r_iret rfl dX11_end_16 ⟨rfl, rfl, rfl⟩
set_option maxRecDepth 100000 in
set_option maxHeartbeats 4000000 in
theorem w_X11_end_0 {D : k_D} {dy : Nat → Nat} (x1 : Int32) (S : St) (out : Int32 × St) (h : f_X11_end x1 S = some out) : Rn yX11_end cX11_end 2 (some .int) (k_rm 0) 0 0 D dy S (k_Pi dy out) 0 [(0, .ref (D.2.2 48)), (1, .int x1)] [] := by
    unfold f_X11_end at h
    refine r_iload_n 1 dX11_end_0 rfl rfl ?_
    refine r_if_lt (t := 15) dX11_end_1 (by decide) (fun c => ?_) (fun c => ?_)
    · rw [if_pos c] at h
      refine r_sub [] rfl ?_
      exact w_X11_end_15 _ _ h
    · rw [if_neg c] at h
      refine r_iload_n 1 dX11_end_4 rfl rfl ?_
      refine r_aload_n 0 dX11_end_5 rfl rfl ?_
      refine gf_48_2 q_592 dX11_end_6 ?_
      refine gfN_15_1 q_320 dX11_end_9 ?_
      refine r_icmp_le (t := 17) dX11_end_12 (by decide) (fun c => ?_) (fun c => ?_)
      · rw [if_pos c] at h
        refine r_aload_n 0 dX11_end_17 rfl rfl ?_
        refine gf_48_2 q_592 dX11_end_18 ?_
        refine r_iload_n 1 dX11_end_21 rfl rfl ?_
        refine pfN_15_1 q_320 dX11_end_22 ?_
        generalize sI S 8 x1 = S1 at h ⊢
        replace h := g_let h
        refine r_iload_n 1 dX11_end_25 rfl rfl ?_
        cases h
        exact r_iret rfl dX11_end_26 ⟨rfl, rfl, rfl⟩
      · rw [if_neg c] at h
        refine r_sub [] rfl ?_
        exact w_X11_end_15 _ _ h
theorem ok_X11_end {D : k_D} {dy : Nat → Nat} {x1 : Int32} {S : St} {out : Int32 × St} (h : f_X11_end x1 S = some out) : Sp yX11_end cX11_end 2 (some .int) (k_rm 0) D dy S [.ref (D.2.2 48), .int x1] (k_Pi dy out) := Sp.of (by decide +kernel) (Nat.le_of_ble_eq_true rfl) (w_X11_end_0 _ S out h)
