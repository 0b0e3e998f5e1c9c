noncomputable def f_X2_find_214 (k150 : Int32 → Int32 → Int32 → Int32 → St → Option (St)) (x4 : Int32) (x6 : Int32) (x7 : Int32) (x8 : Int32) (S : St) : Option (St) := k150 x4 x6 x7 (x8 + (1 : Int32)) S
noncomputable def f_X2_find_203 (k171 : Int32 → Int32 → Int32 → Int32 → Int32 → St → Option (St)) (x4 : Int32) (x6 : Int32) (x7 : Int32) (x8 : Int32) (x9 : Int32) (s1 : Int32) (s2 : Int32) (S : St) : Option (St) := (f_X2_join s1 s2 x9 S).bind fun q205 => k171 x4 x6 x7 x8 (x9 + (-1 : Int32)) q205
noncomputable def f_X2_find_183 (k150 : Int32 → Int32 → Int32 → Int32 → St → Option (St)) (k171 : Int32 → Int32 → Int32 → Int32 → Int32 → St → Option (St)) (x4 : Int32) (x6 : Int32) (x7 : Int32) (x8 : Int32) (x9 : Int32) (s0 : Int32) (s1 : Int32) (S : St) : Option (St) := if s0 < s1 then f_X2_find_214 k150 x4 x6 x7 x8 S else if x6 = 0 then f_X2_find_203 k171 x4 x6 x7 x8 x9 x8 (x9 - (1 : Int32)) S else f_X2_find_203 k171 x4 x6 x7 x8 x9 x8 x9 S
noncomputable def f_X2_find_171 (k150 : Int32 → Int32 → Int32 → Int32 → St → Option (St)) : Nat → Int32 → Int32 → Int32 → Int32 → Int32 → St → Option (St)
  | 0, _, _, _, _, _, _ => none
  | n + 1, x4, x6, x7, x8, x9, S => if x6 = 0 then f_X2_find_183 k150 (f_X2_find_171 k150 n) x4 x6 x7 x8 x9 x9 (1 : Int32) S else f_X2_find_183 k150 (f_X2_find_171 k150 n) x4 x6 x7 x8 x9 x9 (0 : Int32) S
noncomputable def f_X2_find_150 : Nat → Int32 → Int32 → Int32 → Int32 → St → Option (St)
  | 0, _, _, _, _, _ => none
  | n + 1, x4, x6, x7, x8, S => if (8 : Int32) ≤ x8 then (f_X2_placeOf x7 (gI S 21) S).bind fun q231 => if k_b q231.1 1928 = true then (f_X2_read (gL q231.2 34 q231.1.toNatClampNeg) q231.2).bind fun q235 => some q235 else none else if ((x4 >>> (x8 &&& 31)) &&& (1 : Int32)) = 0 then f_X2_find_214 (f_X2_find_150 n) x4 x6 x7 x8 S else f_X2_find_171 (f_X2_find_150 n) FU x4 x6 x7 x8 x7 S
noncomputable def f_X2_find_139 (x4 : Int32) (x6 : Int32) (s0 : Int32) (S : St) : Option (St) := (f_X2_clear s0 S).bind fun q144 => f_X2_find_150 FU x4 x6 s0 (0 : Int32) q144
noncomputable def f_X2_find_127 (x3 : Int32) (x4 : Int32) (s0 : Int32) (S : St) : Option (St) := if s0 = 0 then f_X2_find_139 x4 s0 x3 S else f_X2_find_139 x4 s0 (0 : Int32) S
noncomputable def f_X2_find_97 (x2 : Int32) (x3 : Int32) (x4 : Int32) (x5 : Int32) (S : St) : Option (St) := k_let (sI S 21 (if (240 : Int32) < (if x5 < x2 then x5 else x2) then (240 : Int32) else (if x5 < x2 then x5 else x2))) fun S1 => (f_J6_bitCount_0f7a4 x4 S1).bind fun q116 => if x3 < q116.1 then f_X2_find_127 x3 x4 (0 : Int32) q116.2 else f_X2_find_127 x3 x4 (1 : Int32) q116.2
noncomputable def f_X2_find_91 (k21 : Int32 → Int32 → Int32 → Int32 → Int32 → St → Option (St)) (x2 : Int32) (x3 : Int32) (x4 : Int32) (x5 : Int32) (x6 : Int32) (S : St) : Option (St) := k21 x2 x3 x4 x5 (x6 + (1 : Int32)) S
noncomputable def f_X2_find_21 : Nat → Int32 → Int32 → Int32 → Int32 → Int32 → St → Option (St)
  | 0, _, _, _, _, _, _ => none
  | n + 1, x2, x3, x4, x5, x6, S => if (gI S 1) ≤ x6 then f_X2_find_97 x2 x3 x4 x5 S else if (16 : Int32) ≤ x6 then f_X2_find_97 x2 x3 x4 x5 S else (f_X2_isPlayable x6 S).bind fun q43 => if q43.1 = 0 then f_X2_find_91 (f_X2_find_21 n) x2 x3 x4 x5 x6 q43.2 else if k_b x6 16 = true then if k_b x6 16 = true then (f_X10_lengthOfDebt x6 q43.2).bind fun q84 => f_X2_find_91 (f_X2_find_21 n) x2 x3 (x4 ||| ((1 : Int32) <<< ((gA q43.2 3 x6.toNatClampNeg) &&& 31))) (x5 + ((gA q43.2 6 x6.toNatClampNeg) * q84.1)) x6 q84.2 else none else none
noncomputable def f_X2_find (x1 : Int32) (x2 : Int32) (x3 : Int32) (S : St) : Option (St) := (f_X3_hear S).bind fun q4 => k_let (sI q4 20 x1) fun S1 => f_X2_find_21 FU x2 x3 (0 : Int32) (0 : Int32) (0 : Int32) S1
set_option maxRecDepth 100000 in
set_option maxHeartbeats 4000000 in
theorem w_X2_find_214 {D : k_D} {dy : Nat → Nat} {k150 : Int32 → Int32 → Int32 → Int32 → St → Option (St)} (hk150 : ∀ (x4 : Int32) (x6 : Int32) (x7 : Int32) (x8 : Int32) (S : St) (out : St), k150 x4 x6 x7 x8 S = some out → Rn yX2_find cX2_find 10 none (k_rm 5) 0 0 D dy S (k_Pv dy out) 150 [(0, .ref (D.2.2 32)), (4, .int x4), (6, .int x6), (7, .int x7), (8, .int x8)] []) (x4 : Int32) (x6 : Int32) (x7 : Int32) (x8 : Int32) (S : St) (out : St) (h : f_X2_find_214 k150 x4 x6 x7 x8 S = some out) : Rn yX2_find cX2_find 10 none (k_rm 5) 0 0 D dy S (k_Pv dy out) 214 [(0, .ref (D.2.2 32)), (4, .int x4), (6, .int x6), (7, .int x7), (8, .int x8)] [] := by
    unfold f_X2_find_214 at h
    refine r_iinc (q := 4) (v := x8 + (1 : Int32)) dX2_find_214 rfl rfl (by decide) rfl ?_
    refine r_goto (t := 150) dX2_find_217 (by decide) ?_
    refine r_sub [1, 2, 3, 4, 0] rfl ?_
    exact hk150 _ _ _ _ _ _ h
set_option maxRecDepth 100000 in
set_option maxHeartbeats 4000000 in
theorem w_X2_find_203 {D : k_D} {dy : Nat → Nat} {k171 : Int32 → Int32 → Int32 → Int32 → Int32 → St → Option (St)} (hk171 : ∀ (x4 : Int32) (x6 : Int32) (x7 : Int32) (x8 : Int32) (x9 : Int32) (S : St) (out : St), k171 x4 x6 x7 x8 x9 S = some out → Rn yX2_find cX2_find 10 none (k_rm 5) 0 0 D dy S (k_Pv dy out) 171 [(0, .ref (D.2.2 32)), (4, .int x4), (6, .int x6), (7, .int x7), (8, .int x8), (9, .int x9)] []) (x4 : Int32) (x6 : Int32) (x7 : Int32) (x8 : Int32) (x9 : Int32) (s1 : Int32) (s2 : Int32) (S : St) (out : St) (h : f_X2_find_203 k171 x4 x6 x7 x8 x9 s1 s2 S = some out) : Rn yX2_find cX2_find 10 none (k_rm 5) 0 0 D dy S (k_Pv dy out) 203 [(0, .ref (D.2.2 32)), (4, .int x4), (6, .int x6), (7, .int x7), (8, .int x8), (9, .int x9)] [.int s2, .int s1, .ref (D.2.2 32)] := by
    unfold f_X2_find_203 at h
    refine r_iload 5 dX2_find_203 rfl ?_
    obtain ⟨q205, hq205, h⟩ := g_bind h
    refine r_callVv [.int s1, .int s2, .int x9] [] q205 (ok_X2_join hq205) q_1096 q_1098 q_61 q_1099 q_149 hd_X2_join (ce_32 D dy _) kc2.1 rfl ⟨Nat.le_of_ble_eq_true rfl, Nat.le_of_ble_eq_true rfl⟩ rfl rfl (Nat.le_of_ble_eq_true rfl) dX2_find_205 ?_
    refine r_iinc (q := 5) (v := x9 + (-1 : Int32)) dX2_find_208 rfl rfl (by decide) rfl ?_
    refine r_goto (t := 171) dX2_find_211 (by decide) ?_
    refine r_sub [1, 2, 3, 4, 5, 0] rfl ?_
    exact hk171 _ _ _ _ _ _ _ h
set_option maxRecDepth 100000 in
set_option maxHeartbeats 4000000 in
theorem w_X2_find_183 {D : k_D} {dy : Nat → Nat} {k150 : Int32 → Int32 → Int32 → Int32 → St → Option (St)} {k171 : Int32 → Int32 → Int32 → Int32 → Int32 → St → Option (St)} (hk150 : ∀ (x4 : Int32) (x6 : Int32) (x7 : Int32) (x8 : Int32) (S : St) (out : St), k150 x4 x6 x7 x8 S = some out → Rn yX2_find cX2_find 10 none (k_rm 5) 0 0 D dy S (k_Pv dy out) 150 [(0, .ref (D.2.2 32)), (4, .int x4), (6, .int x6), (7, .int x7), (8, .int x8)] []) (hk171 : ∀ (x4 : Int32) (x6 : Int32) (x7 : Int32) (x8 : Int32) (x9 : Int32) (S : St) (out : St), k171 x4 x6 x7 x8 x9 S = some out → Rn yX2_find cX2_find 10 none (k_rm 5) 0 0 D dy S (k_Pv dy out) 171 [(0, .ref (D.2.2 32)), (4, .int x4), (6, .int x6), (7, .int x7), (8, .int x8), (9, .int x9)] []) (x4 : Int32) (x6 : Int32) (x7 : Int32) (x8 : Int32) (x9 : Int32) (s0 : Int32) (s1 : Int32) (S : St) (out : St) (h : f_X2_find_183 k150 k171 x4 x6 x7 x8 x9 s0 s1 S = some out) : Rn yX2_find cX2_find 10 none (k_rm 5) 0 0 D dy S (k_Pv dy out) 183 [(0, .ref (D.2.2 32)), (4, .int x4), (6, .int x6), (7, .int x7), (8, .int x8), (9, .int x9)] [.int s1, .int s0] := by
    unfold f_X2_find_183 at h
    refine r_icmp_lt (t := 214) dX2_find_183 (by decide) (fun c => ?_) (fun c => ?_)
    · rw [if_pos c] at h
      refine r_sub [0, 1, 2, 3, 4] rfl ?_
      exact w_X2_find_214 hk150 _ _ _ _ _ _ h
    · rw [if_neg c] at h
      refine r_aload_n 0 dX2_find_186 rfl rfl ?_
      refine r_iload 4 dX2_find_187 rfl ?_
      refine r_iload 2 dX2_find_189 rfl ?_
      refine r_if_eq (t := 199) dX2_find_191 (by decide) (fun c => ?_) (fun c => ?_)
      · rw [if_pos c] at h
        refine r_iload 5 dX2_find_199 rfl ?_
        refine r_iconst (v := 1) dX2_find_201 rfl ?_
        refine r_isub dX2_find_202 ?_
        exact w_X2_find_203 hk171 _ _ _ _ _ _ _ _ _ h
      · rw [if_neg c] at h
        refine r_iload 5 dX2_find_194 rfl ?_
        refine r_goto (t := 203) dX2_find_196 (by decide) ?_
        exact w_X2_find_203 hk171 _ _ _ _ _ _ _ _ _ h
set_option maxRecDepth 100000 in
set_option maxHeartbeats 4000000 in
theorem w_X2_find_171 {D : k_D} {dy : Nat → Nat} {k150 : Int32 → Int32 → Int32 → Int32 → St → Option (St)} (hk150 : ∀ (x4 : Int32) (x6 : Int32) (x7 : Int32) (x8 : Int32) (S : St) (out : St), k150 x4 x6 x7 x8 S = some out → Rn yX2_find cX2_find 10 none (k_rm 5) 0 0 D dy S (k_Pv dy out) 150 [(0, .ref (D.2.2 32)), (4, .int x4), (6, .int x6), (7, .int x7), (8, .int x8)] []) : ∀ (n : Nat) (x4 : Int32) (x6 : Int32) (x7 : Int32) (x8 : Int32) (x9 : Int32) (S : St) (out : St), f_X2_find_171 k150 n x4 x6 x7 x8 x9 S = some out → Rn yX2_find cX2_find 10 none (k_rm 5) 0 0 D dy S (k_Pv dy out) 171 [(0, .ref (D.2.2 32)), (4, .int x4), (6, .int x6), (7, .int x7), (8, .int x8), (9, .int x9)] [] := by
  intro n
  induction n with
  | zero => intro x4 x6 x7 x8 x9 S out h; cases h
  | succ n ih =>
    intro x4 x6 x7 x8 x9 S out h
    rw [f_X2_find_171] at h
    refine r_iload 5 dX2_find_171 rfl ?_
    refine r_iload 2 dX2_find_173 rfl ?_
    refine r_if_eq (t := 182) dX2_find_175 (by decide) (fun c => ?_) (fun c => ?_)
    · rw [if_pos c] at h
      refine r_iconst (v := 1) dX2_find_182 rfl ?_
      exact w_X2_find_183 hk150 ih _ _ _ _ _ _ _ _ _ h
    · rw [if_neg c] at h
      refine r_iconst (v := 0) dX2_find_178 rfl ?_
      refine r_goto (t := 183) dX2_find_179 (by decide) ?_
      exact w_X2_find_183 hk150 ih _ _ _ _ _ _ _ _ _ h
set_option maxRecDepth 100000 in
set_option maxHeartbeats 4000000 in
theorem w_X2_find_150 {D : k_D} {dy : Nat → Nat} : ∀ (n : Nat) (x4 : Int32) (x6 : Int32) (x7 : Int32) (x8 : Int32) (S : St) (out : St), f_X2_find_150 n x4 x6 x7 x8 S = some out → Rn yX2_find cX2_find 10 none (k_rm 5) 0 0 D dy S (k_Pv dy out) 150 [(0, .ref (D.2.2 32)), (4, .int x4), (6, .int x6), (7, .int x7), (8, .int x8)] [] := by
  intro n
  induction n with
  | zero => intro x4 x6 x7 x8 S out h; cases h
  | succ n ih =>
    intro x4 x6 x7 x8 S out h
    rw [f_X2_find_150] at h
    refine r_iload 4 dX2_find_150 rfl ?_
    refine r_bipush (v := 8) dX2_find_152 rfl ?_
    refine r_icmp_ge (t := 220) dX2_find_154 (by decide) (fun c => ?_) (fun c => ?_)
    · rw [if_pos c] at h
      refine r_aload_n 0 dX2_find_220 rfl rfl ?_
      refine r_aload_n 0 dX2_find_221 rfl rfl ?_
      refine gf_32_4 q_469 dX2_find_222 ?_
      refine r_iload 3 dX2_find_225 rfl ?_
      refine r_aload_n 0 dX2_find_227 rfl rfl ?_
      refine gf_32_10 q_476 dX2_find_228 ?_
      obtain ⟨q231, hq231, h⟩ := g_bind h
      refine r_callSi [.int x7, .int (gI S 21)] [.ref (D.2.2 34), .ref (D.2.2 32)] q231 (ok_X2_placeOf hq231) q_1102 q_1103 q_1104 q_149 hd_X2_placeOf ⟨Nat.le_of_ble_eq_true rfl, Nat.le_of_ble_eq_true rfl⟩ rfl rfl (Nat.le_of_ble_eq_true rfl) dX2_find_231 ?_
      obtain ⟨c1, h⟩ := g_ite h
      refine al_34 (k_b_in c1) dX2_find_234 ?_
      obtain ⟨q235, hq235, h⟩ := g_bind h
      refine r_callVv [.long (gL q231.2 34 q231.1.toNatClampNeg)] [] q235 (ok_X2_read hq235) q_1117 q_1119 q_64 q_1120 q_149 hd_X2_read (ce_32 D dy _) kc2.1 rfl ⟨Nat.le_of_ble_eq_true rfl, Nat.le_of_ble_eq_true rfl⟩ rfl rfl (Nat.le_of_ble_eq_true rfl) dX2_find_235 ?_
      exact r_vret rfl dX2_find_238 ⟨rfl, rfl, Option.some.inj h⟩
    · rw [if_neg c] at h
      refine r_iload 1 dX2_find_157 rfl ?_
      refine r_iload 4 dX2_find_159 rfl ?_
      refine r_ishr dX2_find_161 ?_
      refine r_iconst (v := 1) dX2_find_162 rfl ?_
      refine r_iand dX2_find_163 ?_
      refine r_if_eq (t := 214) dX2_find_164 (by decide) (fun c => ?_) (fun c => ?_)
      · rw [if_pos c] at h
        exact w_X2_find_214 ih _ _ _ _ _ _ h
      · rw [if_neg c] at h
        refine r_iload 3 dX2_find_167 rfl ?_
        refine r_istore dX2_find_169 (by decide) rfl ?_
        refine r_sub [1, 2, 3, 4, 5, 0] rfl ?_
        exact w_X2_find_171 ih _ _ _ _ _ _ _ _ h
set_option maxRecDepth 100000 in
set_option maxHeartbeats 4000000 in
theorem w_X2_find_139 {D : k_D} {dy : Nat → Nat} (x4 : Int32) (x6 : Int32) (s0 : Int32) (S : St) (out : St) (h : f_X2_find_139 x4 x6 s0 S = some out) : Rn yX2_find cX2_find 10 none (k_rm 5) 0 0 D dy S (k_Pv dy out) 139 [(0, .ref (D.2.2 32)), (4, .int x4), (6, .int x6)] [.int s0] := by
    unfold f_X2_find_139 at h
    refine r_istore dX2_find_139 (by decide) rfl ?_
    refine r_aload_n 1 dX2_find_141 rfl rfl ?_
    refine r_iload 0 dX2_find_142 rfl ?_
    obtain ⟨q144, hq144, h⟩ := g_bind h
    refine r_callVv [.int s0] [] q144 (ok_X2_clear hq144) q_1092 q_1094 q_60 q_1095 q_149 hd_X2_clear (ce_32 D dy _) kc2.1 rfl ⟨Nat.le_of_ble_eq_true rfl, Nat.le_of_ble_eq_true rfl⟩ rfl rfl (Nat.le_of_ble_eq_true rfl) dX2_find_144 ?_
    refine r_iconst (v := 0) dX2_find_147 rfl ?_
    refine r_istore dX2_find_148 (by decide) rfl ?_
    refine r_sub [2, 3, 4, 1, 0] rfl ?_
    exact w_X2_find_150 _ _ _ _ _ _ _ h
set_option maxRecDepth 100000 in
set_option maxHeartbeats 4000000 in
theorem w_X2_find_127 {D : k_D} {dy : Nat → Nat} (x3 : Int32) (x4 : Int32) (s0 : Int32) (S : St) (out : St) (h : f_X2_find_127 x3 x4 s0 S = some out) : Rn yX2_find cX2_find 10 none (k_rm 5) 0 0 D dy S (k_Pv dy out) 127 [(0, .ref (D.2.2 32)), (3, .int x3), (4, .int x4)] [.int s0] := by
    unfold f_X2_find_127 at h
    refine r_istore dX2_find_127 (by decide) rfl ?_
    refine r_iload 0 dX2_find_129 rfl ?_
    refine r_if_eq (t := 138) dX2_find_131 (by decide) (fun c => ?_) (fun c => ?_)
    · rw [if_pos c] at h
      refine r_iload_n 2 dX2_find_138 rfl rfl ?_
      refine r_sub [1, 3, 0] rfl ?_
      exact w_X2_find_139 _ _ _ _ _ h
    · rw [if_neg c] at h
      refine r_iconst (v := 0) dX2_find_134 rfl ?_
      refine r_goto (t := 139) dX2_find_135 (by decide) ?_
      refine r_sub [1, 3, 0] rfl ?_
      exact w_X2_find_139 _ _ _ _ _ h
set_option maxRecDepth 100000 in
set_option maxHeartbeats 4000000 in
theorem w_X2_find_97 {D : k_D} {dy : Nat → Nat} (x2 : Int32) (x3 : Int32) (x4 : Int32) (x5 : Int32) (S : St) (out : St) (h : f_X2_find_97 x2 x3 x4 x5 S = some out) : Rn yX2_find cX2_find 10 none (k_rm 5) 0 0 D dy S (k_Pv dy out) 97 [(0, .ref (D.2.2 32)), (2, .int x2), (3, .int x3), (4, .int x4), (5, .int x5)] [] := by
    unfold f_X2_find_97 at h
    refine r_aload_n 0 dX2_find_97 rfl rfl ?_
    refine r_iload_n 1 dX2_find_98 rfl rfl ?_
    refine r_iload 4 dX2_find_99 rfl ?_
    refine r_min q_1090 q_745 q_155 q_746 ⟨Nat.le_of_ble_eq_true rfl, Nat.le_of_ble_eq_true rfl⟩ dX2_find_101 ?_
    refine r_sipush (v := 240) dX2_find_104 rfl ?_
    refine r_min q_1090 q_745 q_155 q_746 ⟨Nat.le_of_ble_eq_true rfl, Nat.le_of_ble_eq_true rfl⟩ dX2_find_107 ?_
    refine pf_32_10 q_476 dX2_find_110 ?_
    generalize sI S 21 (if (240 : Int32) < (if x5 < x2 then x5 else x2) then (240 : Int32) else (if x5 < x2 then x5 else x2)) = S1 at h ⊢
    replace h := g_let h
    refine r_iload_n 2 dX2_find_113 rfl rfl ?_
    refine r_iload 3 dX2_find_114 rfl ?_
    obtain ⟨q116, hq116, h⟩ := g_bind h
    refine r_callSi [.int x4] [.int x3] q116 (ok_J6_bitCount_0f7a4 hq116) q_1091 q_1017 q_1018 q_161 hd_J6_bitCount_0f7a4 ⟨Nat.le_of_ble_eq_true rfl, Nat.le_of_ble_eq_true rfl⟩ rfl rfl (Nat.le_of_ble_eq_true rfl) dX2_find_116 ?_
    refine r_icmp_lt (t := 126) dX2_find_119 (by decide) (fun c => ?_) (fun c => ?_)
    · rw [if_pos c] at h
      refine r_iconst (v := 0) dX2_find_126 rfl ?_
      refine r_sub [0, 2, 3] rfl ?_
      exact w_X2_find_127 _ _ _ _ _ h
    · rw [if_neg c] at h
      refine r_iconst (v := 1) dX2_find_122 rfl ?_
      refine r_goto (t := 127) dX2_find_123 (by decide) ?_
      refine r_sub [0, 2, 3] rfl ?_
      exact w_X2_find_127 _ _ _ _ _ h
set_option maxRecDepth 100000 in
set_option maxHeartbeats 4000000 in
theorem w_X2_find_91 {D : k_D} {dy : Nat → Nat} {k21 : Int32 → Int32 → Int32 → Int32 → Int32 → St → Option (St)} (hk21 : ∀ (x2 : Int32) (x3 : Int32) (x4 : Int32) (x5 : Int32) (x6 : Int32) (S : St) (out : St), k21 x2 x3 x4 x5 x6 S = some out → Rn yX2_find cX2_find 10 none (k_rm 5) 0 0 D dy S (k_Pv dy out) 21 [(0, .ref (D.2.2 32)), (2, .int x2), (3, .int x3), (4, .int x4), (5, .int x5), (6, .int x6)] []) (x2 : Int32) (x3 : Int32) (x4 : Int32) (x5 : Int32) (x6 : Int32) (S : St) (out : St) (h : f_X2_find_91 k21 x2 x3 x4 x5 x6 S = some out) : Rn yX2_find cX2_find 10 none (k_rm 5) 0 0 D dy S (k_Pv dy out) 91 [(0, .ref (D.2.2 32)), (2, .int x2), (3, .int x3), (4, .int x4), (5, .int x5), (6, .int x6)] [] := by
    unfold f_X2_find_91 at h
    refine r_iinc (q := 5) (v := x6 + (1 : Int32)) dX2_find_91 rfl rfl (by decide) rfl ?_
    refine r_goto (t := 21) dX2_find_94 (by decide) ?_
    refine r_sub [1, 2, 3, 4, 5, 0] rfl ?_
    exact hk21 _ _ _ _ _ _ _ h
set_option maxRecDepth 100000 in
set_option maxHeartbeats 4000000 in
theorem w_X2_find_21 {D : k_D} {dy : Nat → Nat} : ∀ (n : Nat) (x2 : Int32) (x3 : Int32) (x4 : Int32) (x5 : Int32) (x6 : Int32) (S : St) (out : St), f_X2_find_21 n x2 x3 x4 x5 x6 S = some out → Rn yX2_find cX2_find 10 none (k_rm 5) 0 0 D dy S (k_Pv dy out) 21 [(0, .ref (D.2.2 32)), (2, .int x2), (3, .int x3), (4, .int x4), (5, .int x5), (6, .int x6)] [] := by
  intro n
  induction n with
  | zero => intro x2 x3 x4 x5 x6 S out h; cases h
  | succ n ih =>
    intro x2 x3 x4 x5 x6 S out h
    rw [f_X2_find_21] at h
    refine r_iload 5 dX2_find_21 rfl ?_
    refine r_aload_n 0 dX2_find_23 rfl rfl ?_
    refine gf_32_1 q_466 dX2_find_24 ?_
    refine gfN_2_5 q_215 dX2_find_27 ?_
    refine r_icmp_ge (t := 97) dX2_find_30 (by decide) (fun c => ?_) (fun c => ?_)
    · rw [if_pos c] at h
      refine r_sub [0, 1, 2, 3, 4] rfl ?_
      exact w_X2_find_97 _ _ _ _ _ _ h
    · rw [if_neg c] at h
      refine r_iload 5 dX2_find_33 rfl ?_
      refine r_bipush (v := 16) dX2_find_35 rfl ?_
      refine r_icmp_ge (t := 97) dX2_find_37 (by decide) (fun c => ?_) (fun c => ?_)
      · rw [if_pos c] at h
        refine r_sub [0, 1, 2, 3, 4] rfl ?_
        exact w_X2_find_97 _ _ _ _ _ _ h
      · rw [if_neg c] at h
        refine r_aload_n 0 dX2_find_40 rfl rfl ?_
        refine r_iload 5 dX2_find_41 rfl ?_
        obtain ⟨q43, hq43, h⟩ := g_bind h
        refine r_callVi [.int x6] [] q43 (ok_X2_isPlayable hq43) q_1084 q_1086 q_59 q_1087 q_149 hd_X2_isPlayable (ce_32 D dy _) kc2.1 rfl ⟨Nat.le_of_ble_eq_true rfl, Nat.le_of_ble_eq_true rfl⟩ rfl rfl (Nat.le_of_ble_eq_true rfl) dX2_find_43 ?_
        refine r_if_eq (t := 91) dX2_find_46 (by decide) (fun c => ?_) (fun c => ?_)
        · rw [if_pos c] at h
          exact w_X2_find_91 ih _ _ _ _ _ _ _ h
        · rw [if_neg c] at h
          refine r_iload 3 dX2_find_49 rfl ?_
          refine r_iconst (v := 1) dX2_find_51 rfl ?_
          refine r_aload_n 0 dX2_find_52 rfl rfl ?_
          refine gf_32_1 q_466 dX2_find_53 ?_
          refine gfN_2_0 q_186 dX2_find_56 ?_
          refine r_iload 5 dX2_find_59 rfl ?_
          obtain ⟨c1, h⟩ := g_ite h
          refine al_3 (k_b_in c1) dX2_find_61 ?_
          refine r_ishl dX2_find_62 ?_
          refine r_ior dX2_find_63 ?_
          refine r_istore dX2_find_64 (by decide) rfl ?_
          refine r_iload 4 dX2_find_66 rfl ?_
          refine r_aload_n 1 dX2_find_68 rfl rfl ?_
          refine gf_32_1 q_466 dX2_find_69 ?_
          refine gfN_2_3 q_204 dX2_find_72 ?_
          refine r_iload 5 dX2_find_75 rfl ?_
          obtain ⟨c2, h⟩ := g_ite h
          refine al_6 (k_b_in c2) dX2_find_77 ?_
          refine r_aload_n 1 dX2_find_78 rfl rfl ?_
          refine gf_32_0 q_465 dX2_find_79 ?_
          refine r_iload 5 dX2_find_82 rfl ?_
          obtain ⟨q84, hq84, h⟩ := g_bind h
          refine r_callVNi [.int x6] [.int (gA q43.2 6 x6.toNatClampNeg), .int x5] q84 (ok_X10_lengthOfDebt hq84) q_1089 q_705 q_10 q_706 q_142 hd_X10_lengthOfDebt (ce_0 D dy _) kc10.1 rfl ⟨Nat.le_of_ble_eq_true rfl, Nat.le_of_ble_eq_true rfl⟩ rfl rfl (Nat.le_of_ble_eq_true rfl) dX2_find_84 ?_
          refine r_imul dX2_find_87 ?_
          refine r_iadd dX2_find_88 ?_
          refine r_istore dX2_find_89 (by decide) rfl ?_
          refine r_sub [2, 3, 4, 1, 0, 5] rfl ?_
          exact w_X2_find_91 ih _ _ _ _ _ _ _ h
set_option maxRecDepth 100000 in
set_option maxHeartbeats 4000000 in
theorem w_X2_find_0 {D : k_D} {dy : Nat → Nat} (x1 : Int32) (x2 : Int32) (x3 : Int32) (S : St) (out : St) (h : f_X2_find x1 x2 x3 S = some out) : Rn yX2_find cX2_find 10 none (k_rm 5) 0 0 D dy S (k_Pv dy out) 0 [(0, .ref (D.2.2 32)), (1, .int x1), (2, .int x2), (3, .int x3)] [] := by
    unfold f_X2_find at h
    refine r_aload_n 0 dX2_find_0 rfl rfl ?_
    refine gf_32_2 q_467 dX2_find_1 ?_
    obtain ⟨q4, hq4, h⟩ := g_bind h
    refine r_callVNv [] [] q4 (ok_X3_hear hq4) q_1083 q_689 q_7 q_690 q_146 hd_X3_hear (ce_17 D dy _) kc3.1 rfl ⟨Nat.le_of_ble_eq_true rfl, Nat.le_of_ble_eq_true rfl⟩ rfl rfl (Nat.le_of_ble_eq_true rfl) dX2_find_4 ?_
    refine r_aload_n 0 dX2_find_7 rfl rfl ?_
    refine r_iload_n 1 dX2_find_8 rfl rfl ?_
    refine pf_32_9 q_475 dX2_find_9 ?_
    generalize sI q4 20 x1 = S1 at h ⊢
    replace h := g_let h
    refine r_iconst (v := 0) dX2_find_12 rfl ?_
    refine r_istore dX2_find_13 (by decide) rfl ?_
    refine r_iconst (v := 0) dX2_find_15 rfl ?_
    refine r_istore dX2_find_16 (by decide) rfl ?_
    refine r_iconst (v := 0) dX2_find_18 rfl ?_
    refine r_istore dX2_find_19 (by decide) rfl ?_
    refine r_sub [3, 5, 6, 2, 1, 0] rfl ?_
    exact w_X2_find_21 _ _ _ _ _ _ _ _ h
theorem ok_X2_find {D : k_D} {dy : Nat → Nat} {x1 : Int32} {x2 : Int32} {x3 : Int32} {S : St} {out : St} (h : f_X2_find x1 x2 x3 S = some out) : Sp yX2_find cX2_find 10 none (k_rm 5) D dy S [.ref (D.2.2 32), .int x1, .int x2, .int x3] (k_Pv dy out) := Sp.of (by decide +kernel) (Nat.le_of_ble_eq_true rfl) (w_X2_find_0 _ _ _ S out h)
noncomputable def f_X2_payAll_43 (S : St) : Option (St) := (f_X1_dropPlayed S).bind fun q47 => some q47
noncomputable def f_X2_payAll_2 : Nat → Int32 → St → Option (St)
  | 0, _, _ => none
  | n + 1, x1, S => if (gI S 1) ≤ x1 then f_X2_payAll_43 S else if (16 : Int32) ≤ x1 then f_X2_payAll_43 S else if k_b x1 16 = true then if k_b x1 16 = true then if k_b x1 16 = true then k_let (sA S 6 x1.toNatClampNeg ((gA S 6 x1.toNatClampNeg) - (gA S 38 x1.toNatClampNeg))) fun S4 => f_X2_payAll_2 n (x1 + (1 : Int32)) S4 else none else none else none
noncomputable def f_X2_payAll (S : St) : Option (St) := f_X2_payAll_2 FU (0 : Int32) S
set_option maxRecDepth 100000 in
set_option maxHeartbeats 4000000 in
theorem w_X2_payAll_43 {D : k_D} {dy : Nat → Nat} (S : St) (out : St) (h : f_X2_payAll_43 S = some out) : Rn yX2_payAll cX2_payAll 2 none (k_rm 1) 0 0 D dy S (k_Pv dy out) 43 [(0, .ref (D.2.2 32))] [] := by
    unfold f_X2_payAll_43 at h
    refine r_aload_n 0 dX2_payAll_43 rfl rfl ?_
    refine gf_32_1 q_466 dX2_payAll_44 ?_
    obtain ⟨q47, hq47, h⟩ := g_bind h
    refine r_callVNv [] [] q47 (ok_X1_dropPlayed hq47) q_1129 q_753 q_18 q_754 q_143 hd_X1_dropPlayed (ce_2 D dy _) kc1.1 rfl ⟨Nat.le_of_ble_eq_true rfl, Nat.le_of_ble_eq_true rfl⟩ rfl rfl (Nat.le_of_ble_eq_true rfl) dX2_payAll_47 ?_
    exact r_vret rfl dX2_payAll_50 ⟨rfl, rfl, Option.some.inj h⟩
set_option maxRecDepth 100000 in
set_option maxHeartbeats 4000000 in
theorem w_X2_payAll_2 {D : k_D} {dy : Nat → Nat} : ∀ (n : Nat) (x1 : Int32) (S : St) (out : St), f_X2_payAll_2 n x1 S = some out → Rn yX2_payAll cX2_payAll 2 none (k_rm 1) 0 0 D dy S (k_Pv dy out) 2 [(0, .ref (D.2.2 32)), (1, .int x1)] [] := by
  intro n
  induction n with
  | zero => intro x1 S out h; cases h
  | succ n ih =>
    intro x1 S out h
    rw [f_X2_payAll_2] at h
    refine r_iload_n 1 dX2_payAll_2 rfl rfl ?_
    refine r_aload_n 0 dX2_payAll_3 rfl rfl ?_
    refine gf_32_1 q_466 dX2_payAll_4 ?_
    refine gfN_2_5 q_215 dX2_payAll_7 ?_
    refine r_icmp_ge (t := 43) dX2_payAll_10 (by decide) (fun c => ?_) (fun c => ?_)
    · rw [if_pos c] at h
      refine r_sub [0] rfl ?_
      exact w_X2_payAll_43 _ _ h
    · rw [if_neg c] at h
      refine r_iload_n 1 dX2_payAll_13 rfl rfl ?_
      refine r_bipush (v := 16) dX2_payAll_14 rfl ?_
      refine r_icmp_ge (t := 43) dX2_payAll_16 (by decide) (fun c => ?_) (fun c => ?_)
      · rw [if_pos c] at h
        refine r_sub [0] rfl ?_
        exact w_X2_payAll_43 _ _ h
      · rw [if_neg c] at h
        refine r_aload_n 0 dX2_payAll_19 rfl rfl ?_
        refine gf_32_1 q_466 dX2_payAll_20 ?_
        refine gfN_2_3 q_204 dX2_payAll_23 ?_
        refine r_iload_n 1 dX2_payAll_26 rfl rfl ?_
        refine r_dup2 dX2_payAll_27 rfl rfl ?_
        obtain ⟨c1, h⟩ := g_ite h
        refine al_6 (k_b_in c1) dX2_payAll_28 ?_
        refine r_aload_n 0 dX2_payAll_29 rfl rfl ?_
        refine gf_32_8 q_473 dX2_payAll_30 ?_
        refine r_iload_n 1 dX2_payAll_33 rfl rfl ?_
        obtain ⟨c2, h⟩ := g_ite h
        refine al_38 (k_b_in c2) dX2_payAll_34 ?_
        refine r_isub dX2_payAll_35 ?_
        obtain ⟨c3, h⟩ := g_ite h
        refine as_6 (k_b_in c3) dX2_payAll_36 ?_
        generalize sA S 6 x1.toNatClampNeg ((gA S 6 x1.toNatClampNeg) - (gA S 38 x1.toNatClampNeg)) = S4 at h ⊢
        replace h := g_let h
        refine r_iinc (q := 1) (v := x1 + (1 : Int32)) dX2_payAll_37 rfl rfl (by decide) rfl ?_
        refine r_goto (t := 2) dX2_payAll_40 (by decide) ?_
        refine r_sub [1, 0] rfl ?_
        exact ih _ _ _ h
set_option maxRecDepth 100000 in
set_option maxHeartbeats 4000000 in
theorem w_X2_payAll_0 {D : k_D} {dy : Nat → Nat} (S : St) (out : St) (h : f_X2_payAll S = some out) : Rn yX2_payAll cX2_payAll 2 none (k_rm 1) 0 0 D dy S (k_Pv dy out) 0 [(0, .ref (D.2.2 32))] [] := by
    unfold f_X2_payAll at h
    refine r_iconst (v := 0) dX2_payAll_0 rfl ?_
    refine r_istore_n dX2_payAll_1 rfl (by decide) rfl ?_
    refine r_sub [1, 0] rfl ?_
    exact w_X2_payAll_2 _ _ _ _ h
theorem ok_X2_payAll {D : k_D} {dy : Nat → Nat} {S : St} {out : St} (h : f_X2_payAll S = some out) : Sp yX2_payAll cX2_payAll 2 none (k_rm 1) D dy S [.ref (D.2.2 32)] (k_Pv dy out) := Sp.of (by decide +kernel) (Nat.le_of_ble_eq_true rfl) (w_X2_payAll_0 S out h)
noncomputable def f_X2_playAlone_120 (x3 : Int32) (S : St) : Option (Int32 × St) := some (x3, S)
noncomputable def f_X2_playAlone_114 (k8 : Int32 → Int32 → Int32 → Int32 → St → Option (Int32 × St)) (x1 : Int32) (x3 : Int32) (x4 : Int32) (x5 : Int32) (S : St) : Option (Int32 × St) := k8 x1 x3 x4 (x5 + (1 : Int32)) S
noncomputable def f_X2_playAlone_8 : Nat → Int32 → Int32 → Int32 → Int32 → St → Option (Int32 × St)
  | 0, _, _, _, _, _ => none
  | n + 1, x1, x3, x4, x5, S => if (gI S 1) ≤ x5 then f_X2_playAlone_120 x3 S else if (16 : Int32) ≤ x5 then f_X2_playAlone_120 x3 S else (f_X10_lengthOfDebt x5 S).bind fun q33 => if k_b x5 16 = true then if (gA q33.2 4 x5.toNatClampNeg) = x1 then if k_b x5 16 = true then if (gA q33.2 20 x5.toNatClampNeg) = 0 then if q33.1 ≤ 0 then f_X2_playAlone_114 (f_X2_playAlone_8 n) x1 x3 x4 x5 q33.2 else if k_b x5 16 = true then if ¬ q33.1 = 0 then if k_b x5 16 = true then if k_b x5 16 = true then k_let (sA q33.2 38 x5.toNatClampNeg ((gA q33.2 38 x5.toNatClampNeg) - (if (x4 / q33.1) < (gA q33.2 38 x5.toNatClampNeg) then (x4 / q33.1) else (gA q33.2 38 x5.toNatClampNeg)))) fun S7 => f_X2_playAlone_114 (f_X2_playAlone_8 n) x1 (x3 + (if (x4 / q33.1) < (gA q33.2 38 x5.toNatClampNeg) then (x4 / q33.1) else (gA q33.2 38 x5.toNatClampNeg))) (x4 - ((if (x4 / q33.1) < (gA q33.2 38 x5.toNatClampNeg) then (x4 / q33.1) else (gA q33.2 38 x5.toNatClampNeg)) * q33.1)) x5 S7 else none else none else none else none else f_X2_playAlone_114 (f_X2_playAlone_8 n) x1 x3 x4 x5 q33.2 else none else f_X2_playAlone_114 (f_X2_playAlone_8 n) x1 x3 x4 x5 q33.2 else none
noncomputable def f_X2_playAlone (x1 : Int32) (x2 : Int32) (S : St) : Option (Int32 × St) := f_X2_playAlone_8 FU x1 (0 : Int32) x2 (0 : Int32) S
set_option maxRecDepth 100000 in
set_option maxHeartbeats 4000000 in
theorem w_X2_playAlone_120 {D : k_D} {dy : Nat → Nat} (x3 : Int32) (S : St) (out : Int32 × St) (h : f_X2_playAlone_120 x3 S = some out) : Rn yX2_playAlone cX2_playAlone 8 (some .int) (k_rm 1) 0 0 D dy S (k_Pi dy out) 120 [(3, .int x3)] [] := by
    unfold f_X2_playAlone_120 at h
    refine r_iload_n 0 dX2_playAlone_120 rfl rfl ?_
    cases h
    exact r_iret rfl dX2_playAlone_121 ⟨rfl, rfl, rfl⟩
set_option maxRecDepth 100000 in
set_option maxHeartbeats 4000000 in
theorem w_X2_playAlone_114 {D : k_D} {dy : Nat → Nat} {k8 : Int32 → Int32 → Int32 → Int32 → St → Option (Int32 × St)} (hk8 : ∀ (x1 : Int32) (x3 : Int32) (x4 : Int32) (x5 : Int32) (S : St) (out : Int32 × St), k8 x1 x3 x4 x5 S = some out → Rn yX2_playAlone cX2_playAlone 8 (some .int) (k_rm 1) 0 0 D dy S (k_Pi dy out) 8 [(0, .ref (D.2.2 32)), (1, .int x1), (3, .int x3), (4, .int x4), (5, .int x5)] []) (x1 : Int32) (x3 : Int32) (x4 : Int32) (x5 : Int32) (S : St) (out : Int32 × St) (h : f_X2_playAlone_114 k8 x1 x3 x4 x5 S = some out) : Rn yX2_playAlone cX2_playAlone 8 (some .int) (k_rm 1) 0 0 D dy S (k_Pi dy out) 114 [(0, .ref (D.2.2 32)), (1, .int x1), (3, .int x3), (4, .int x4), (5, .int x5)] [] := by
    unfold f_X2_playAlone_114 at h
    refine r_iinc (q := 4) (v := x5 + (1 : Int32)) dX2_playAlone_114 rfl rfl (by decide) rfl ?_
    refine r_goto (t := 8) dX2_playAlone_117 (by decide) ?_
    refine r_sub [1, 2, 3, 4, 0] rfl ?_
    exact hk8 _ _ _ _ _ _ h
set_option maxRecDepth 100000 in
set_option maxHeartbeats 4000000 in
theorem w_X2_playAlone_8 {D : k_D} {dy : Nat → Nat} : ∀ (n : Nat) (x1 : Int32) (x3 : Int32) (x4 : Int32) (x5 : Int32) (S : St) (out : Int32 × St), f_X2_playAlone_8 n x1 x3 x4 x5 S = some out → Rn yX2_playAlone cX2_playAlone 8 (some .int) (k_rm 1) 0 0 D dy S (k_Pi dy out) 8 [(0, .ref (D.2.2 32)), (1, .int x1), (3, .int x3), (4, .int x4), (5, .int x5)] [] := by
  intro n
  induction n with
  | zero => intro x1 x3 x4 x5 S out h; cases h
  | succ n ih =>
    intro x1 x3 x4 x5 S out h
    rw [f_X2_playAlone_8] at h
    refine r_iload 4 dX2_playAlone_8 rfl ?_
    refine r_aload_n 0 dX2_playAlone_10 rfl rfl ?_
    refine gf_32_1 q_466 dX2_playAlone_11 ?_
    refine gfN_2_5 q_215 dX2_playAlone_14 ?_
    refine r_icmp_ge (t := 120) dX2_playAlone_17 (by decide) (fun c => ?_) (fun c => ?_)
    · rw [if_pos c] at h
      refine r_sub [2] rfl ?_
      exact w_X2_playAlone_120 _ _ _ h
    · rw [if_neg c] at h
      refine r_iload 4 dX2_playAlone_20 rfl ?_
      refine r_bipush (v := 16) dX2_playAlone_22 rfl ?_
      refine r_icmp_ge (t := 120) dX2_playAlone_24 (by decide) (fun c => ?_) (fun c => ?_)
      · rw [if_pos c] at h
        refine r_sub [2] rfl ?_
        exact w_X2_playAlone_120 _ _ _ h
      · rw [if_neg c] at h
        refine r_aload_n 0 dX2_playAlone_27 rfl rfl ?_
        refine gf_32_0 q_465 dX2_playAlone_28 ?_
        refine r_iload 4 dX2_playAlone_31 rfl ?_
        obtain ⟨q33, hq33, h⟩ := g_bind h
        refine r_callVNi [.int x5] [] q33 (ok_X10_lengthOfDebt hq33) q_1089 q_705 q_10 q_706 q_142 hd_X10_lengthOfDebt (ce_0 D dy _) kc10.1 rfl ⟨Nat.le_of_ble_eq_true rfl, Nat.le_of_ble_eq_true rfl⟩ rfl rfl (Nat.le_of_ble_eq_true rfl) dX2_playAlone_33 ?_
        refine r_istore dX2_playAlone_36 (by decide) rfl ?_
        refine r_aload_n 1 dX2_playAlone_38 rfl rfl ?_
        refine gf_32_1 q_466 dX2_playAlone_39 ?_
        refine gfN_2_1 q_192 dX2_playAlone_42 ?_
        refine r_iload 5 dX2_playAlone_45 rfl ?_
        obtain ⟨c1, h⟩ := g_ite h
        refine al_4 (k_b_in c1) dX2_playAlone_47 ?_
        refine r_iload_n 2 dX2_playAlone_48 rfl rfl ?_
        refine r_icmp_ne (t := 114) dX2_playAlone_49 (by decide) (fun c => ?_) (fun c => ?_)
        · rw [if_neg c] at h
          refine r_sub [1, 2, 3, 4, 5] rfl ?_
          exact w_X2_playAlone_114 ih _ _ _ _ _ _ h
        · rw [if_pos c] at h
          refine r_aload_n 1 dX2_playAlone_52 rfl rfl ?_
          refine gf_32_2 q_467 dX2_playAlone_53 ?_
          refine gfN_17_4 q_381 dX2_playAlone_56 ?_
          refine r_iload 5 dX2_playAlone_59 rfl ?_
          obtain ⟨c2, h⟩ := g_ite h
          refine al_20 (k_b_in c2) dX2_playAlone_61 ?_
          refine r_if_ne (t := 114) dX2_playAlone_62 (by decide) (fun c => ?_) (fun c => ?_)
          · rw [if_neg c] at h
            refine r_sub [1, 2, 3, 4, 5] rfl ?_
            exact w_X2_playAlone_114 ih _ _ _ _ _ _ h
          · rw [if_pos c] at h
            refine r_iload 0 dX2_playAlone_65 rfl ?_
            refine r_if_le (t := 114) dX2_playAlone_67 (by decide) (fun c => ?_) (fun c => ?_)
            · rw [if_pos c] at h
              refine r_sub [1, 2, 3, 4, 5] rfl ?_
              exact w_X2_playAlone_114 ih _ _ _ _ _ _ h
            · rw [if_neg c] at h
              refine r_aload_n 1 dX2_playAlone_70 rfl rfl ?_
              refine gf_32_8 q_473 dX2_playAlone_71 ?_
              refine r_iload 5 dX2_playAlone_74 rfl ?_
              obtain ⟨c3, h⟩ := g_ite h
              refine al_38 (k_b_in c3) dX2_playAlone_76 ?_
              refine r_iload 4 dX2_playAlone_77 rfl ?_
              refine r_iload 0 dX2_playAlone_79 rfl ?_
              obtain ⟨c4, h⟩ := g_ite h
              refine r_idiv dX2_playAlone_81 c4 ?_
              refine r_min q_1090 q_745 q_155 q_746 ⟨Nat.le_of_ble_eq_true rfl, Nat.le_of_ble_eq_true rfl⟩ dX2_playAlone_82 ?_
              refine r_istore dX2_playAlone_85 (by decide) rfl ?_
              refine r_aload_n 2 dX2_playAlone_87 rfl rfl ?_
              refine gf_32_8 q_473 dX2_playAlone_88 ?_
              refine r_iload 6 dX2_playAlone_91 rfl ?_
              refine r_dup2 dX2_playAlone_93 rfl rfl ?_
              obtain ⟨c5, h⟩ := g_ite h
              refine al_38 (k_b_in c5) dX2_playAlone_94 ?_
              refine r_iload 0 dX2_playAlone_95 rfl ?_
              refine r_isub dX2_playAlone_97 ?_
              obtain ⟨c6, h⟩ := g_ite h
              refine as_38 (k_b_in c6) dX2_playAlone_98 ?_
              generalize sA q33.2 38 x5.toNatClampNeg ((gA q33.2 38 x5.toNatClampNeg) - (if (x4 / q33.1) < (gA q33.2 38 x5.toNatClampNeg) then (x4 / q33.1) else (gA q33.2 38 x5.toNatClampNeg))) = S7 at h ⊢
              replace h := g_let h
              refine r_iload 5 dX2_playAlone_99 rfl ?_
              refine r_iload 0 dX2_playAlone_101 rfl ?_
              refine r_iload 1 dX2_playAlone_103 rfl ?_
              refine r_imul dX2_playAlone_105 ?_
              refine r_isub dX2_playAlone_106 ?_
              refine r_istore dX2_playAlone_107 (by decide) rfl ?_
              refine r_iload_n 5 dX2_playAlone_109 rfl rfl ?_
              refine r_iload 1 dX2_playAlone_110 rfl ?_
              refine r_iadd dX2_playAlone_112 ?_
              refine r_istore_n dX2_playAlone_113 rfl (by decide) rfl ?_
              refine r_sub [4, 5, 0, 1, 6] rfl ?_
              exact w_X2_playAlone_114 ih _ _ _ _ _ _ h
set_option maxRecDepth 100000 in
set_option maxHeartbeats 4000000 in
theorem w_X2_playAlone_0 {D : k_D} {dy : Nat → Nat} (x1 : Int32) (x2 : Int32) (S : St) (out : Int32 × St) (h : f_X2_playAlone x1 x2 S = some out) : Rn yX2_playAlone cX2_playAlone 8 (some .int) (k_rm 1) 0 0 D dy S (k_Pi dy out) 0 [(0, .ref (D.2.2 32)), (1, .int x1), (2, .int x2)] [] := by
    unfold f_X2_playAlone at h
    refine r_iconst (v := 0) dX2_playAlone_0 rfl ?_
    refine r_istore_n dX2_playAlone_1 rfl (by decide) rfl ?_
    refine r_iload_n 3 dX2_playAlone_2 rfl rfl ?_
    refine r_istore dX2_playAlone_3 (by decide) rfl ?_
    refine r_iconst (v := 0) dX2_playAlone_5 rfl ?_
    refine r_istore dX2_playAlone_6 (by decide) rfl ?_
    refine r_sub [3, 4, 2, 1, 0] rfl ?_
    exact w_X2_playAlone_8 _ _ _ _ _ _ _ h
theorem ok_X2_playAlone {D : k_D} {dy : Nat → Nat} {x1 : Int32} {x2 : Int32} {S : St} {out : Int32 × St} (h : f_X2_playAlone x1 x2 S = some out) : Sp yX2_playAlone cX2_playAlone 8 (some .int) (k_rm 1) D dy S [.ref (D.2.2 32), .int x1, .int x2] (k_Pi dy out) := Sp.of (by decide +kernel) (Nat.le_of_ble_eq_true rfl) (w_X2_playAlone_0 _ _ S out h)
noncomputable def f_X2_freeBehind_161 (S : St) : Option (Int32 × St) := some ((100 : Int32), S)
noncomputable def f_X2_freeBehind_107 : Nat → Int32 → Int32 → St → Option (Int32 × St)
  | 0, _, _, _ => none
  | n + 1, x2, x3, S => if (gI S 5) ≤ x3 then f_X2_freeBehind_161 S else if (8 : Int32) ≤ x3 then f_X2_freeBehind_161 S else if k_b x3 8 = true then if k_b x3 8 = true then (f_X2_playAlone (gA S 9 x3.toNatClampNeg) (gA S 10 x3.toNatClampNeg) S).bind fun q144 => if (x2 - q144.1) = 0 then some (x3, q144.2) else f_X2_freeBehind_107 n (x2 - q144.1) (x3 + (1 : Int32)) q144.2 else none else none
noncomputable def f_X2_freeBehind_99 (x2 : Int32) (S : St) : Option (Int32 × St) := if x2 = 0 then some ((-1 : Int32), S) else f_X2_freeBehind_107 FU x2 (0 : Int32) S
noncomputable def f_X2_freeBehind_83 (k11 : Int32 → Int32 → Int32 → St → Option (Int32 × St)) (x1 : Int32) (x2 : Int32) (x3 : Int32) (s1 : Int32) (s2 : Int32) (S : St) : Option (Int32 × St) := if k_b s1 16 = true then k_let (sA S 38 s1.toNatClampNeg s2) fun S2 => if k_b x3 16 = true then k11 x1 (x2 + (gA S2 38 x3.toNatClampNeg)) (x3 + (1 : Int32)) S2 else none else none
noncomputable def f_X2_freeBehind_58 (k11 : Int32 → Int32 → Int32 → St → Option (Int32 × St)) (x1 : Int32) (x2 : Int32) (x3 : Int32) (s0 : Int32) (S : St) : Option (Int32 × St) := if s0 = 0 then f_X2_freeBehind_83 k11 x1 x2 x3 x3 (0 : Int32) S else if k_b x3 16 = true then f_X2_freeBehind_83 k11 x1 x2 x3 x3 (gA S 6 x3.toNatClampNeg) S else none
noncomputable def f_X2_freeBehind_57 (k11 : Int32 → Int32 → Int32 → St → Option (Int32 × St)) (x1 : Int32) (x2 : Int32) (x3 : Int32) (S : St) : Option (Int32 × St) := f_X2_freeBehind_58 k11 x1 x2 x3 (0 : Int32) S
noncomputable def f_X2_freeBehind_11 : Nat → Int32 → Int32 → Int32 → St → Option (Int32 × St)
  | 0, _, _, _, _ => none
  | n + 1, x1, x2, x3, S => if (gI S 1) ≤ x3 then f_X2_freeBehind_99 x2 S else if (16 : Int32) ≤ x3 then f_X2_freeBehind_99 x2 S else if k_b x3 16 = true then if (gA S 3 x3.toNatClampNeg) = x1 then if k_b x3 16 = true then if (gA S 19 x3.toNatClampNeg) = 0 then f_X2_freeBehind_58 (f_X2_freeBehind_11 n) x1 x2 x3 (1 : Int32) S else f_X2_freeBehind_57 (f_X2_freeBehind_11 n) x1 x2 x3 S else none else f_X2_freeBehind_57 (f_X2_freeBehind_11 n) x1 x2 x3 S else none
noncomputable def f_X2_freeBehind (x1 : Int32) (S : St) : Option (Int32 × St) := (f_X3_hear S).bind fun q4 => f_X2_freeBehind_11 FU x1 (0 : Int32) (0 : Int32) q4
set_option maxRecDepth 100000 in
set_option maxHeartbeats 4000000 in
theorem w_X2_freeBehind_161 {D : k_D} {dy : Nat → Nat} (S : St) (out : Int32 × St) (h : f_X2_freeBehind_161 S = some out) : Rn yX2_freeBehind cX2_freeBehind 5 (some .int) (k_rm 5) 0 0 D dy S (k_Pi dy out) 161 [] [] := by
    unfold f_X2_freeBehind_161 at h
    refine r_bipush (v := 100) dX2_freeBehind_161 rfl ?_
    cases h
    exact r_iret rfl dX2_freeBehind_163 ⟨rfl, rfl, rfl⟩
set_option maxRecDepth 100000 in
set_option maxHeartbeats 4000000 in
theorem w_X2_freeBehind_107 {D : k_D} {dy : Nat → Nat} : ∀ (n : Nat) (x2 : Int32) (x3 : Int32) (S : St) (out : Int32 × St), f_X2_freeBehind_107 n x2 x3 S = some out → Rn yX2_freeBehind cX2_freeBehind 5 (some .int) (k_rm 5) 0 0 D dy S (k_Pi dy out) 107 [(0, .ref (D.2.2 32)), (2, .int x2), (3, .int x3)] [] := by
  intro n
  induction n with
  | zero => intro x2 x3 S out h; cases h
  | succ n ih =>
    intro x2 x3 S out h
    rw [f_X2_freeBehind_107] at h
    refine r_iload_n 2 dX2_freeBehind_107 rfl rfl ?_
    refine r_aload_n 0 dX2_freeBehind_108 rfl rfl ?_
    refine gf_32_0 q_465 dX2_freeBehind_109 ?_
    refine gfN_0_9 q_262 dX2_freeBehind_112 ?_
    refine r_icmp_ge (t := 161) dX2_freeBehind_115 (by decide) (fun c => ?_) (fun c => ?_)
    · rw [if_pos c] at h
      refine r_sub [] rfl ?_
      exact w_X2_freeBehind_161 _ _ h
    · rw [if_neg c] at h
      refine r_iload_n 2 dX2_freeBehind_118 rfl rfl ?_
      refine r_bipush (v := 8) dX2_freeBehind_119 rfl ?_
      refine r_icmp_ge (t := 161) dX2_freeBehind_121 (by decide) (fun c => ?_) (fun c => ?_)
      · rw [if_pos c] at h
        refine r_sub [] rfl ?_
        exact w_X2_freeBehind_161 _ _ h
      · rw [if_neg c] at h
        refine r_iload_n 1 dX2_freeBehind_124 rfl rfl ?_
        refine r_aload_n 0 dX2_freeBehind_125 rfl rfl ?_
        refine r_aload_n 0 dX2_freeBehind_126 rfl rfl ?_
        refine gf_32_0 q_465 dX2_freeBehind_127 ?_
        refine gfN_0_7 q_258 dX2_freeBehind_130 ?_
        refine r_iload_n 2 dX2_freeBehind_133 rfl rfl ?_
        obtain ⟨c1, h⟩ := g_ite h
        refine al_9 (k_b_in c1) dX2_freeBehind_134 ?_
        refine r_aload_n 0 dX2_freeBehind_135 rfl rfl ?_
        refine gf_32_0 q_465 dX2_freeBehind_136 ?_
        refine gfN_0_8 q_260 dX2_freeBehind_139 ?_
        refine r_iload_n 2 dX2_freeBehind_142 rfl rfl ?_
        obtain ⟨c2, h⟩ := g_ite h
        refine al_10 (k_b_in c2) dX2_freeBehind_143 ?_
        obtain ⟨q144, hq144, h⟩ := g_bind h
        refine r_callVi [.int (gA S 9 x3.toNatClampNeg), .int (gA S 10 x3.toNatClampNeg)] [.int x2] q144 (ok_X2_playAlone hq144) q_1169 q_1171 q_71 q_1172 q_149 hd_X2_playAlone (ce_32 D dy _) kc2.1 rfl ⟨Nat.le_of_ble_eq_true rfl, Nat.le_of_ble_eq_true rfl⟩ rfl rfl (Nat.le_of_ble_eq_true rfl) dX2_freeBehind_144 ?_
        refine r_isub dX2_freeBehind_147 ?_
        refine r_istore_n dX2_freeBehind_148 rfl (by decide) rfl ?_
        refine r_iload_n 0 dX2_freeBehind_149 rfl rfl ?_
        refine r_if_ne (t := 155) dX2_freeBehind_150 (by decide) (fun c => ?_) (fun c => ?_)
        · rw [if_neg c] at h
          refine r_iinc (q := 2) (v := x3 + (1 : Int32)) dX2_freeBehind_155 rfl rfl (by decide) rfl ?_
          refine r_goto (t := 107) dX2_freeBehind_158 (by decide) ?_
          refine r_sub [2, 1, 0] rfl ?_
          exact ih _ _ _ _ h
        · rw [if_pos c] at h
          refine r_iload_n 2 dX2_freeBehind_153 rfl rfl ?_
          cases h
          exact r_iret rfl dX2_freeBehind_154 ⟨rfl, rfl, rfl⟩
set_option maxRecDepth 100000 in
set_option maxHeartbeats 4000000 in
theorem w_X2_freeBehind_99 {D : k_D} {dy : Nat → Nat} (x2 : Int32) (S : St) (out : Int32 × St) (h : f_X2_freeBehind_99 x2 S = some out) : Rn yX2_freeBehind cX2_freeBehind 5 (some .int) (k_rm 5) 0 0 D dy S (k_Pi dy out) 99 [(0, .ref (D.2.2 32)), (2, .int x2)] [] := by
    unfold f_X2_freeBehind_99 at h
    refine r_iload_n 1 dX2_freeBehind_99 rfl rfl ?_
    refine r_if_ne (t := 105) dX2_freeBehind_100 (by decide) (fun c => ?_) (fun c => ?_)
    · rw [if_neg c] at h
      refine r_iconst (v := 0) dX2_freeBehind_105 rfl ?_
      refine r_istore_n dX2_freeBehind_106 rfl (by decide) rfl ?_
      refine r_sub [1, 2, 0] rfl ?_
      exact w_X2_freeBehind_107 _ _ _ _ _ h
    · rw [if_pos c] at h
      refine r_iconst (v := -1) dX2_freeBehind_103 rfl ?_
      cases h
      exact r_iret rfl dX2_freeBehind_104 ⟨rfl, rfl, rfl⟩
set_option maxRecDepth 100000 in
set_option maxHeartbeats 4000000 in
theorem w_X2_freeBehind_83 {D : k_D} {dy : Nat → Nat} {k11 : Int32 → Int32 → Int32 → St → Option (Int32 × St)} (hk11 : ∀ (x1 : Int32) (x2 : Int32) (x3 : Int32) (S : St) (out : Int32 × St), k11 x1 x2 x3 S = some out → Rn yX2_freeBehind cX2_freeBehind 5 (some .int) (k_rm 5) 0 0 D dy S (k_Pi dy out) 11 [(0, .ref (D.2.2 32)), (1, .int x1), (2, .int x2), (3, .int x3)] []) (x1 : Int32) (x2 : Int32) (x3 : Int32) (s1 : Int32) (s2 : Int32) (S : St) (out : Int32 × St) (h : f_X2_freeBehind_83 k11 x1 x2 x3 s1 s2 S = some out) : Rn yX2_freeBehind cX2_freeBehind 5 (some .int) (k_rm 5) 0 0 D dy S (k_Pi dy out) 83 [(0, .ref (D.2.2 32)), (1, .int x1), (2, .int x2), (3, .int x3)] [.int s2, .int s1, .ref (D.2.2 38)] := by
    unfold f_X2_freeBehind_83 at h
    obtain ⟨c1, h⟩ := g_ite h
    refine as_38 (k_b_in c1) dX2_freeBehind_83 ?_
    generalize sA S 38 s1.toNatClampNeg s2 = S2 at h ⊢
    replace h := g_let h
    refine r_iload_n 2 dX2_freeBehind_84 rfl rfl ?_
    refine r_aload_n 0 dX2_freeBehind_85 rfl rfl ?_
    refine gf_32_8 q_473 dX2_freeBehind_86 ?_
    refine r_iload_n 3 dX2_freeBehind_89 rfl rfl ?_
    obtain ⟨c3, h⟩ := g_ite h
    refine al_38 (k_b_in c3) dX2_freeBehind_90 ?_
    refine r_iadd dX2_freeBehind_91 ?_
    refine r_istore_n dX2_freeBehind_92 rfl (by decide) rfl ?_
    refine r_iinc (q := 3) (v := x3 + (1 : Int32)) dX2_freeBehind_93 rfl rfl (by decide) rfl ?_
    refine r_goto (t := 11) dX2_freeBehind_96 (by decide) ?_
    refine r_sub [2, 3, 1, 0] rfl ?_
    exact hk11 _ _ _ _ _ h
set_option maxRecDepth 100000 in
set_option maxHeartbeats 4000000 in
theorem w_X2_freeBehind_58 {D : k_D} {dy : Nat → Nat} {k11 : Int32 → Int32 → Int32 → St → Option (Int32 × St)} (hk11 : ∀ (x1 : Int32) (x2 : Int32) (x3 : Int32) (S : St) (out : Int32 × St), k11 x1 x2 x3 S = some out → Rn yX2_freeBehind cX2_freeBehind 5 (some .int) (k_rm 5) 0 0 D dy S (k_Pi dy out) 11 [(0, .ref (D.2.2 32)), (1, .int x1), (2, .int x2), (3, .int x3)] []) (x1 : Int32) (x2 : Int32) (x3 : Int32) (s0 : Int32) (S : St) (out : Int32 × St) (h : f_X2_freeBehind_58 k11 x1 x2 x3 s0 S = some out) : Rn yX2_freeBehind cX2_freeBehind 5 (some .int) (k_rm 5) 0 0 D dy S (k_Pi dy out) 58 [(0, .ref (D.2.2 32)), (1, .int x1), (2, .int x2), (3, .int x3)] [.int s0] := by
    unfold f_X2_freeBehind_58 at h
    refine r_istore dX2_freeBehind_58 (by decide) rfl ?_
    refine r_aload_n 1 dX2_freeBehind_60 rfl rfl ?_
    refine gf_32_8 q_473 dX2_freeBehind_61 ?_
    refine r_iload_n 4 dX2_freeBehind_64 rfl rfl ?_
    refine r_iload 0 dX2_freeBehind_65 rfl ?_
    refine r_if_eq (t := 82) dX2_freeBehind_67 (by decide) (fun c => ?_) (fun c => ?_)
    · rw [if_pos c] at h
      refine r_iconst (v := 0) dX2_freeBehind_82 rfl ?_
      refine r_sub [1, 2, 3, 4] rfl ?_
      exact w_X2_freeBehind_83 hk11 _ _ _ _ _ _ _ h
    · rw [if_neg c] at h
      refine r_aload_n 1 dX2_freeBehind_70 rfl rfl ?_
      refine gf_32_1 q_466 dX2_freeBehind_71 ?_
      refine gfN_2_3 q_204 dX2_freeBehind_74 ?_
      refine r_iload_n 4 dX2_freeBehind_77 rfl rfl ?_
      obtain ⟨c1, h⟩ := g_ite h
      refine al_6 (k_b_in c1) dX2_freeBehind_78 ?_
      refine r_goto (t := 83) dX2_freeBehind_79 (by decide) ?_
      refine r_sub [1, 2, 3, 4] rfl ?_
      exact w_X2_freeBehind_83 hk11 _ _ _ _ _ _ _ h
set_option maxRecDepth 100000 in
set_option maxHeartbeats 4000000 in
theorem w_X2_freeBehind_57 {D : k_D} {dy : Nat → Nat} {k11 : Int32 → Int32 → Int32 → St → Option (Int32 × St)} (hk11 : ∀ (x1 : Int32) (x2 : Int32) (x3 : Int32) (S : St) (out : Int32 × St), k11 x1 x2 x3 S = some out → Rn yX2_freeBehind cX2_freeBehind 5 (some .int) (k_rm 5) 0 0 D dy S (k_Pi dy out) 11 [(0, .ref (D.2.2 32)), (1, .int x1), (2, .int x2), (3, .int x3)] []) (x1 : Int32) (x2 : Int32) (x3 : Int32) (S : St) (out : Int32 × St) (h : f_X2_freeBehind_57 k11 x1 x2 x3 S = some out) : Rn yX2_freeBehind cX2_freeBehind 5 (some .int) (k_rm 5) 0 0 D dy S (k_Pi dy out) 57 [(0, .ref (D.2.2 32)), (1, .int x1), (2, .int x2), (3, .int x3)] [] := by
    unfold f_X2_freeBehind_57 at h
    refine r_iconst (v := 0) dX2_freeBehind_57 rfl ?_
    exact w_X2_freeBehind_58 hk11 _ _ _ _ _ _ h
set_option maxRecDepth 100000 in
set_option maxHeartbeats 4000000 in
theorem w_X2_freeBehind_11 {D : k_D} {dy : Nat → Nat} : ∀ (n : Nat) (x1 : Int32) (x2 : Int32) (x3 : Int32) (S : St) (out : Int32 × St), f_X2_freeBehind_11 n x1 x2 x3 S = some out → Rn yX2_freeBehind cX2_freeBehind 5 (some .int) (k_rm 5) 0 0 D dy S (k_Pi dy out) 11 [(0, .ref (D.2.2 32)), (1, .int x1), (2, .int x2), (3, .int x3)] [] := by
  intro n
  induction n with
  | zero => intro x1 x2 x3 S out h; cases h
  | succ n ih =>
    intro x1 x2 x3 S out h
    rw [f_X2_freeBehind_11] at h
    refine r_iload_n 3 dX2_freeBehind_11 rfl rfl ?_
    refine r_aload_n 0 dX2_freeBehind_12 rfl rfl ?_
    refine gf_32_1 q_466 dX2_freeBehind_13 ?_
    refine gfN_2_5 q_215 dX2_freeBehind_16 ?_
    refine r_icmp_ge (t := 99) dX2_freeBehind_19 (by decide) (fun c => ?_) (fun c => ?_)
    · rw [if_pos c] at h
      refine r_sub [0, 2] rfl ?_
      exact w_X2_freeBehind_99 _ _ _ h
    · rw [if_neg c] at h
      refine r_iload_n 3 dX2_freeBehind_22 rfl rfl ?_
      refine r_bipush (v := 16) dX2_freeBehind_23 rfl ?_
      refine r_icmp_ge (t := 99) dX2_freeBehind_25 (by decide) (fun c => ?_) (fun c => ?_)
      · rw [if_pos c] at h
        refine r_sub [0, 2] rfl ?_
        exact w_X2_freeBehind_99 _ _ _ h
      · rw [if_neg c] at h
        refine r_aload_n 0 dX2_freeBehind_28 rfl rfl ?_
        refine gf_32_1 q_466 dX2_freeBehind_29 ?_
        refine gfN_2_0 q_186 dX2_freeBehind_32 ?_
        refine r_iload_n 3 dX2_freeBehind_35 rfl rfl ?_
        obtain ⟨c1, h⟩ := g_ite h
        refine al_3 (k_b_in c1) dX2_freeBehind_36 ?_
        refine r_iload_n 1 dX2_freeBehind_37 rfl rfl ?_
        refine r_icmp_ne (t := 57) dX2_freeBehind_38 (by decide) (fun c => ?_) (fun c => ?_)
        · rw [if_neg c] at h
          exact w_X2_freeBehind_57 ih _ _ _ _ _ h
        · rw [if_pos c] at h
          refine r_aload_n 0 dX2_freeBehind_41 rfl rfl ?_
          refine gf_32_2 q_467 dX2_freeBehind_42 ?_
          refine gfN_17_3 q_378 dX2_freeBehind_45 ?_
          refine r_iload_n 3 dX2_freeBehind_48 rfl rfl ?_
          obtain ⟨c2, h⟩ := g_ite h
          refine al_19 (k_b_in c2) dX2_freeBehind_49 ?_
          refine r_if_ne (t := 57) dX2_freeBehind_50 (by decide) (fun c => ?_) (fun c => ?_)
          · rw [if_neg c] at h
            exact w_X2_freeBehind_57 ih _ _ _ _ _ h
          · rw [if_pos c] at h
            refine r_iconst (v := 1) dX2_freeBehind_53 rfl ?_
            refine r_goto (t := 58) dX2_freeBehind_54 (by decide) ?_
            exact w_X2_freeBehind_58 ih _ _ _ _ _ _ h
set_option maxRecDepth 100000 in
set_option maxHeartbeats 4000000 in
theorem w_X2_freeBehind_0 {D : k_D} {dy : Nat → Nat} (x1 : Int32) (S : St) (out : Int32 × St) (h : f_X2_freeBehind x1 S = some out) : Rn yX2_freeBehind cX2_freeBehind 5 (some .int) (k_rm 5) 0 0 D dy S (k_Pi dy out) 0 [(0, .ref (D.2.2 32)), (1, .int x1)] [] := by
    unfold f_X2_freeBehind at h
    refine r_aload_n 0 dX2_freeBehind_0 rfl rfl ?_
    refine gf_32_2 q_467 dX2_freeBehind_1 ?_
    obtain ⟨q4, hq4, h⟩ := g_bind h
    refine r_callVNv [] [] q4 (ok_X3_hear hq4) q_1083 q_689 q_7 q_690 q_146 hd_X3_hear (ce_17 D dy _) kc3.1 rfl ⟨Nat.le_of_ble_eq_true rfl, Nat.le_of_ble_eq_true rfl⟩ rfl rfl (Nat.le_of_ble_eq_true rfl) dX2_freeBehind_4 ?_
    refine r_iconst (v := 0) dX2_freeBehind_7 rfl ?_
    refine r_istore_n dX2_freeBehind_8 rfl (by decide) rfl ?_
    refine r_iconst (v := 0) dX2_freeBehind_9 rfl ?_
    refine r_istore_n dX2_freeBehind_10 rfl (by decide) rfl ?_
    refine r_sub [2, 3, 1, 0] rfl ?_
    exact w_X2_freeBehind_11 _ _ _ _ _ _ h
theorem ok_X2_freeBehind {D : k_D} {dy : Nat → Nat} {x1 : Int32} {S : St} {out : Int32 × St} (h : f_X2_freeBehind x1 S = some out) : Sp yX2_freeBehind cX2_freeBehind 5 (some .int) (k_rm 5) D dy S [.ref (D.2.2 32), .int x1] (k_Pi dy out) := Sp.of (by decide +kernel) (Nat.le_of_ble_eq_true rfl) (w_X2_freeBehind_0 _ S out h)
noncomputable def f_X3_balanceOf_90 (x2 : Int32) (S : St) : Option (Int32 × St) := some (x2, S)
noncomputable def f_X3_balanceOf_84 (k4 : Int32 → Int32 → Int32 → St → Option (Int32 × St)) (x1 : Int32) (x2 : Int32) (x3 : Int32) (S : St) : Option (Int32 × St) := k4 x1 x2 (x3 + (1 : Int32)) S
noncomputable def f_X3_balanceOf_66 (k4 : Int32 → Int32 → Int32 → St → Option (Int32 × St)) (x1 : Int32) (x2 : Int32) (x3 : Int32) (x4 : Int32) (S : St) : Option (Int32 × St) := if k_b x3 16 = true then if (gA S 3 x3.toNatClampNeg) = x1 then f_X3_balanceOf_84 k4 x1 (x2 - x4) x3 S else f_X3_balanceOf_84 k4 x1 x2 x3 S else none
noncomputable def f_X3_balanceOf_4 : Nat → Int32 → Int32 → Int32 → St → Option (Int32 × St)
  | 0, _, _, _, _ => none
  | n + 1, x1, x2, x3, S => if (gI S 1) ≤ x3 then f_X3_balanceOf_90 x2 S else if (16 : Int32) ≤ x3 then f_X3_balanceOf_90 x2 S else if k_b x3 16 = true then if (gA S 19 x3.toNatClampNeg) = 0 then if k_b x3 16 = true then if k_b x3 16 = true then if k_b x3 16 = true then if (gA S 4 x3.toNatClampNeg) = x1 then f_X3_balanceOf_66 (f_X3_balanceOf_4 n) x1 (x2 + ((gA S 6 x3.toNatClampNeg) * (gA S 18 x3.toNatClampNeg))) x3 ((gA S 6 x3.toNatClampNeg) * (gA S 18 x3.toNatClampNeg)) S else f_X3_balanceOf_66 (f_X3_balanceOf_4 n) x1 x2 x3 ((gA S 6 x3.toNatClampNeg) * (gA S 18 x3.toNatClampNeg)) S else none else none else none else f_X3_balanceOf_84 (f_X3_balanceOf_4 n) x1 x2 x3 S else none
noncomputable def f_X3_balanceOf (x1 : Int32) (S : St) : Option (Int32 × St) := f_X3_balanceOf_4 FU x1 (0 : Int32) (0 : Int32) S
set_option maxRecDepth 100000 in
set_option maxHeartbeats 4000000 in
theorem w_X3_balanceOf_90 {D : k_D} {dy : Nat → Nat} (x2 : Int32) (S : St) (out : Int32 × St) (h : f_X3_balanceOf_90 x2 S = some out) : Rn yX3_balanceOf cX3_balanceOf 5 (some .int) (k_rm 0) 0 0 D dy S (k_Pi dy out) 90 [(2, .int x2)] [] := by
    unfold f_X3_balanceOf_90 at h
    refine r_iload_n 0 dX3_balanceOf_90 rfl rfl ?_
    cases h
    exact r_iret rfl dX3_balanceOf_91 ⟨rfl, rfl, rfl⟩
set_option maxRecDepth 100000 in
set_option maxHeartbeats 4000000 in
theorem w_X3_balanceOf_84 {D : k_D} {dy : Nat → Nat} {k4 : Int32 → Int32 → Int32 → St → Option (Int32 × St)} (hk4 : ∀ (x1 : Int32) (x2 : Int32) (x3 : Int32) (S : St) (out : Int32 × St), k4 x1 x2 x3 S = some out → Rn yX3_balanceOf cX3_balanceOf 5 (some .int) (k_rm 0) 0 0 D dy S (k_Pi dy out) 4 [(0, .ref (D.2.2 17)), (1, .int x1), (2, .int x2), (3, .int x3)] []) (x1 : Int32) (x2 : Int32) (x3 : Int32) (S : St) (out : Int32 × St) (h : f_X3_balanceOf_84 k4 x1 x2 x3 S = some out) : Rn yX3_balanceOf cX3_balanceOf 5 (some .int) (k_rm 0) 0 0 D dy S (k_Pi dy out) 84 [(0, .ref (D.2.2 17)), (1, .int x1), (2, .int x2), (3, .int x3)] [] := by
    unfold f_X3_balanceOf_84 at h
    refine r_iinc (q := 3) (v := x3 + (1 : Int32)) dX3_balanceOf_84 rfl rfl (by decide) rfl ?_
    refine r_goto (t := 4) dX3_balanceOf_87 (by decide) ?_
    refine r_sub [1, 2, 3, 0] rfl ?_
    exact hk4 _ _ _ _ _ h
set_option maxRecDepth 100000 in
set_option maxHeartbeats 4000000 in
theorem w_X3_balanceOf_66 {D : k_D} {dy : Nat → Nat} {k4 : Int32 → Int32 → Int32 → St → Option (Int32 × St)} (hk4 : ∀ (x1 : Int32) (x2 : Int32) (x3 : Int32) (S : St) (out : Int32 × St), k4 x1 x2 x3 S = some out → Rn yX3_balanceOf cX3_balanceOf 5 (some .int) (k_rm 0) 0 0 D dy S (k_Pi dy out) 4 [(0, .ref (D.2.2 17)), (1, .int x1), (2, .int x2), (3, .int x3)] []) (x1 : Int32) (x2 : Int32) (x3 : Int32) (x4 : Int32) (S : St) (out : Int32 × St) (h : f_X3_balanceOf_66 k4 x1 x2 x3 x4 S = some out) : Rn yX3_balanceOf cX3_balanceOf 5 (some .int) (k_rm 0) 0 0 D dy S (k_Pi dy out) 66 [(0, .ref (D.2.2 17)), (1, .int x1), (2, .int x2), (3, .int x3), (4, .int x4)] [] := by
    unfold f_X3_balanceOf_66 at h
    refine r_aload_n 0 dX3_balanceOf_66 rfl rfl ?_
    refine gf_17_1 q_370 dX3_balanceOf_67 ?_
    refine gfN_2_0 q_184 dX3_balanceOf_70 ?_
    refine r_iload_n 3 dX3_balanceOf_73 rfl rfl ?_
    obtain ⟨c1, h⟩ := g_ite h
    refine al_3 (k_b_in c1) dX3_balanceOf_74 ?_
    refine r_iload_n 1 dX3_balanceOf_75 rfl rfl ?_
    refine r_icmp_ne (t := 84) dX3_balanceOf_76 (by decide) (fun c => ?_) (fun c => ?_)
    · rw [if_neg c] at h
      refine r_sub [0, 1, 2, 3] rfl ?_
      exact w_X3_balanceOf_84 hk4 _ _ _ _ _ h
    · rw [if_pos c] at h
      refine r_iload_n 2 dX3_balanceOf_79 rfl rfl ?_
      refine r_iload 4 dX3_balanceOf_80 rfl ?_
      refine r_isub dX3_balanceOf_82 ?_
      refine r_istore_n dX3_balanceOf_83 rfl (by decide) rfl ?_
      refine r_sub [1, 2, 0, 3] rfl ?_
      exact w_X3_balanceOf_84 hk4 _ _ _ _ _ h
set_option maxRecDepth 100000 in
set_option maxHeartbeats 4000000 in
theorem w_X3_balanceOf_4 {D : k_D} {dy : Nat → Nat} : ∀ (n : Nat) (x1 : Int32) (x2 : Int32) (x3 : Int32) (S : St) (out : Int32 × St), f_X3_balanceOf_4 n x1 x2 x3 S = some out → Rn yX3_balanceOf cX3_balanceOf 5 (some .int) (k_rm 0) 0 0 D dy S (k_Pi dy out) 4 [(0, .ref (D.2.2 17)), (1, .int x1), (2, .int x2), (3, .int x3)] [] := by
  intro n
  induction n with
  | zero => intro x1 x2 x3 S out h; cases h
  | succ n ih =>
    intro x1 x2 x3 S out h
    rw [f_X3_balanceOf_4] at h
    refine r_iload_n 3 dX3_balanceOf_4 rfl rfl ?_
    refine r_aload_n 0 dX3_balanceOf_5 rfl rfl ?_
    refine gf_17_1 q_370 dX3_balanceOf_6 ?_
    refine gfN_2_5 q_212 dX3_balanceOf_9 ?_
    refine r_icmp_ge (t := 90) dX3_balanceOf_12 (by decide) (fun c => ?_) (fun c => ?_)
    · rw [if_pos c] at h
      refine r_sub [2] rfl ?_
      exact w_X3_balanceOf_90 _ _ _ h
    · rw [if_neg c] at h
      refine r_iload_n 3 dX3_balanceOf_15 rfl rfl ?_
      refine r_bipush (v := 16) dX3_balanceOf_16 rfl ?_
      refine r_icmp_ge (t := 90) dX3_balanceOf_18 (by decide) (fun c => ?_) (fun c => ?_)
      · rw [if_pos c] at h
        refine r_sub [2] rfl ?_
        exact w_X3_balanceOf_90 _ _ _ h
      · rw [if_neg c] at h
        refine r_aload_n 0 dX3_balanceOf_21 rfl rfl ?_
        refine gf_17_3 q_374 dX3_balanceOf_22 ?_
        refine r_iload_n 3 dX3_balanceOf_25 rfl rfl ?_
        obtain ⟨c1, h⟩ := g_ite h
        refine al_19 (k_b_in c1) dX3_balanceOf_26 ?_
        refine r_if_ne (t := 84) dX3_balanceOf_27 (by decide) (fun c => ?_) (fun c => ?_)
        · rw [if_neg c] at h
          exact w_X3_balanceOf_84 ih _ _ _ _ _ h
        · rw [if_pos c] at h
          refine r_aload_n 0 dX3_balanceOf_30 rfl rfl ?_
          refine gf_17_1 q_370 dX3_balanceOf_31 ?_
          refine gfN_2_3 q_205 dX3_balanceOf_34 ?_
          refine r_iload_n 3 dX3_balanceOf_37 rfl rfl ?_
          obtain ⟨c2, h⟩ := g_ite h
          refine al_6 (k_b_in c2) dX3_balanceOf_38 ?_
          refine r_aload_n 0 dX3_balanceOf_39 rfl rfl ?_
          refine gf_17_2 q_371 dX3_balanceOf_40 ?_
          refine r_iload_n 3 dX3_balanceOf_43 rfl rfl ?_
          obtain ⟨c3, h⟩ := g_ite h
          refine al_18 (k_b_in c3) dX3_balanceOf_44 ?_
          refine r_imul dX3_balanceOf_45 ?_
          refine r_istore dX3_balanceOf_46 (by decide) rfl ?_
          refine r_aload_n 1 dX3_balanceOf_48 rfl rfl ?_
          refine gf_17_1 q_370 dX3_balanceOf_49 ?_
          refine gfN_2_1 q_193 dX3_balanceOf_52 ?_
          refine r_iload_n 4 dX3_balanceOf_55 rfl rfl ?_
          obtain ⟨c4, h⟩ := g_ite h
          refine al_4 (k_b_in c4) dX3_balanceOf_56 ?_
          refine r_iload_n 2 dX3_balanceOf_57 rfl rfl ?_
          refine r_icmp_ne (t := 66) dX3_balanceOf_58 (by decide) (fun c => ?_) (fun c => ?_)
          · rw [if_neg c] at h
            refine r_sub [1, 2, 3, 4, 0] rfl ?_
            exact w_X3_balanceOf_66 ih _ _ _ _ _ _ h
          · rw [if_pos c] at h
            refine r_iload_n 3 dX3_balanceOf_61 rfl rfl ?_
            refine r_iload 0 dX3_balanceOf_62 rfl ?_
            refine r_iadd dX3_balanceOf_64 ?_
            refine r_istore_n dX3_balanceOf_65 rfl (by decide) rfl ?_
            refine r_sub [2, 3, 0, 4, 1] rfl ?_
            exact w_X3_balanceOf_66 ih _ _ _ _ _ _ h
set_option maxRecDepth 100000 in
set_option maxHeartbeats 4000000 in
theorem w_X3_balanceOf_0 {D : k_D} {dy : Nat → Nat} (x1 : Int32) (S : St) (out : Int32 × St) (h : f_X3_balanceOf x1 S = some out) : Rn yX3_balanceOf cX3_balanceOf 5 (some .int) (k_rm 0) 0 0 D dy S (k_Pi dy out) 0 [(0, .ref (D.2.2 17)), (1, .int x1)] [] := by
    unfold f_X3_balanceOf at h
    refine r_iconst (v := 0) dX3_balanceOf_0 rfl ?_
    refine r_istore_n dX3_balanceOf_1 rfl (by decide) rfl ?_
    refine r_iconst (v := 0) dX3_balanceOf_2 rfl ?_
    refine r_istore_n dX3_balanceOf_3 rfl (by decide) rfl ?_
    refine r_sub [2, 3, 1, 0] rfl ?_
    exact w_X3_balanceOf_4 _ _ _ _ _ _ h
theorem ok_X3_balanceOf {D : k_D} {dy : Nat → Nat} {x1 : Int32} {S : St} {out : Int32 × St} (h : f_X3_balanceOf x1 S = some out) : Sp yX3_balanceOf cX3_balanceOf 5 (some .int) (k_rm 0) D dy S [.ref (D.2.2 17), .int x1] (k_Pi dy out) := Sp.of (by decide +kernel) (Nat.le_of_ble_eq_true rfl) (w_X3_balanceOf_0 _ S out h)
noncomputable def f_J7_fill_53178_a26_5 : Nat → Int32 → Int32 → Int32 → St → Option (St)
  | 0, _, _, _, _ => none
  | n + 1, x1, x2, x3, S => if x3 ≤ x2 then some S else if k_b x2 8 = true then k_let (sA S 26 x2.toNatClampNeg x1) fun S2 => f_J7_fill_53178_a26_5 n x1 (x2 + (1 : Int32)) x3 S2 else none
noncomputable def f_J7_fill_53178_a26 (x1 : Int32) (S : St) : Option (St) := f_J7_fill_53178_a26_5 FU x1 (0 : Int32) (8 : Int32) S
set_option maxRecDepth 100000 in
set_option maxHeartbeats 4000000 in
theorem w_J7_fill_53178_a26_5 {D : k_D} {dy : Nat → Nat} : ∀ (n : Nat) (x1 : Int32) (x2 : Int32) (x3 : Int32) (S : St) (out : St), f_J7_fill_53178_a26_5 n x1 x2 x3 S = some out → Rn yJ7_fill_53178 cJ7_fill_53178 4 none (k_rm 0) 0 0 D dy S (k_Pv dy out) 5 [(0, .ref (D.2.2 26)), (1, .int x1), (2, .int x2), (3, .int x3)] [] := by
  intro n
  induction n with
  | zero => intro x1 x2 x3 S out h; cases h
  | succ n ih =>
    intro x1 x2 x3 S out h
    rw [f_J7_fill_53178_a26_5] at h
    refine r_iload_n 2 dJ7_fill_53178_5 rfl rfl ?_
    refine r_iload_n 3 dJ7_fill_53178_6 rfl rfl ?_
    refine r_icmp_ge (t := 20) dJ7_fill_53178_7 (by decide) (fun c => ?_) (fun c => ?_)
    · rw [if_pos c] at h
      exact r_vret rfl dJ7_fill_53178_20 ⟨rfl, rfl, Option.some.inj h⟩
    · rw [if_neg c] at h
      refine r_aload_n 0 dJ7_fill_53178_10 rfl rfl ?_
      refine r_iload_n 2 dJ7_fill_53178_11 rfl rfl ?_
      refine r_iload_n 1 dJ7_fill_53178_12 rfl rfl ?_
      obtain ⟨c1, h⟩ := g_ite h
      refine as_26 (k_b_in c1) dJ7_fill_53178_13 ?_
      generalize sA S 26 x2.toNatClampNeg x1 = S2 at h ⊢
      replace h := g_let h
      refine r_iinc (q := 2) (v := x2 + (1 : Int32)) dJ7_fill_53178_14 rfl rfl (by decide) rfl ?_
      refine r_goto (t := 5) dJ7_fill_53178_17 (by decide) ?_
      refine r_sub [1, 2, 0, 3] rfl ?_
      exact ih _ _ _ _ _ h
set_option maxRecDepth 100000 in
set_option maxHeartbeats 4000000 in
theorem w_J7_fill_53178_a26_0 {D : k_D} {dy : Nat → Nat} (x1 : Int32) (S : St) (out : St) (h : f_J7_fill_53178_a26 x1 S = some out) : Rn yJ7_fill_53178 cJ7_fill_53178 4 none (k_rm 0) 0 0 D dy S (k_Pv dy out) 0 [(0, .ref (D.2.2 26)), (1, .int x1)] [] := by
    unfold f_J7_fill_53178_a26 at h
    refine r_iconst (v := 0) dJ7_fill_53178_0 rfl ?_
    refine r_istore_n dJ7_fill_53178_1 rfl (by decide) rfl ?_
    refine r_aload_n 1 dJ7_fill_53178_2 rfl rfl ?_
    refine ln_26 dJ7_fill_53178_3 ?_
    refine r_istore_n dJ7_fill_53178_4 rfl (by decide) rfl ?_
    refine r_sub [2, 3, 1, 0] rfl ?_
    exact w_J7_fill_53178_a26_5 _ _ _ _ _ _ h
theorem ok_J7_fill_53178_a26 {D : k_D} {dy : Nat → Nat} {x1 : Int32} {S : St} {out : St} (h : f_J7_fill_53178_a26 x1 S = some out) : Sp yJ7_fill_53178 cJ7_fill_53178 4 none (k_rm 0) D dy S [.ref (D.2.2 26), .int x1] (k_Pv dy out) := Sp.of (by decide +kernel) (Nat.le_of_ble_eq_true rfl) (w_J7_fill_53178_a26_0 _ S out h)
noncomputable def f_X4_change_17 (S : St) : Option (St) := some S
noncomputable def f_X4_change (x1 : Int32) (x2 : Int32) (S : St) : Option (St) := (f_X11_isDancer x1 S).bind fun q1 => if q1.1 = 0 then f_X4_change_17 q1.2 else if k_b x1 8 = true then if k_b x1 8 = true then k_let (sA q1.2 26 x1.toNatClampNeg ((gA q1.2 26 x1.toNatClampNeg) + x2)) fun S3 => f_X4_change_17 S3 else none else none
set_option maxRecDepth 100000 in
set_option maxHeartbeats 4000000 in
theorem w_X4_change_17 {D : k_D} {dy : Nat → Nat} (S : St) (out : St) (h : f_X4_change_17 S = some out) : Rn yX4_change cX4_change 3 none (k_rm 1) 0 0 D dy S (k_Pv dy out) 17 [] [] := by
    unfold f_X4_change_17 at h
    exact r_vret rfl dX4_change_17 ⟨rfl, rfl, Option.some.inj h⟩
set_option maxRecDepth 100000 in
set_option maxHeartbeats 4000000 in
theorem w_X4_change_0 {D : k_D} {dy : Nat → Nat} (x1 : Int32) (x2 : Int32) (S : St) (out : St) (h : f_X4_change x1 x2 S = some out) : Rn yX4_change cX4_change 3 none (k_rm 1) 0 0 D dy S (k_Pv dy out) 0 [(0, .ref (D.2.2 25)), (1, .int x1), (2, .int x2)] [] := by
    unfold f_X4_change at h
    refine r_iload_n 1 dX4_change_0 rfl rfl ?_
    obtain ⟨q1, hq1, h⟩ := g_bind h
    refine r_callSNi [.int x1] [] q1 (ok_X11_isDancer hq1) q_998 q_668 q_669 q_141 hd_X11_isDancer ⟨Nat.le_of_ble_eq_true rfl, Nat.le_of_ble_eq_true rfl⟩ rfl rfl (Nat.le_of_ble_eq_true rfl) dX4_change_1 ?_
    refine r_if_eq (t := 17) dX4_change_4 (by decide) (fun c => ?_) (fun c => ?_)
    · rw [if_pos c] at h
      refine r_sub [] rfl ?_
      exact w_X4_change_17 _ _ h
    · rw [if_neg c] at h
      refine r_aload_n 0 dX4_change_7 rfl rfl ?_
      refine gf_25_2 q_412 dX4_change_8 ?_
      refine r_iload_n 1 dX4_change_11 rfl rfl ?_
      refine r_dup2 dX4_change_12 rfl rfl ?_
      obtain ⟨c1, h⟩ := g_ite h
      refine al_26 (k_b_in c1) dX4_change_13 ?_
      refine r_iload_n 2 dX4_change_14 rfl rfl ?_
      refine r_iadd dX4_change_15 ?_
      obtain ⟨c2, h⟩ := g_ite h
      refine as_26 (k_b_in c2) dX4_change_16 ?_
      generalize sA q1.2 26 x1.toNatClampNeg ((gA q1.2 26 x1.toNatClampNeg) + x2) = S3 at h ⊢
      replace h := g_let h
      refine r_sub [] rfl ?_
      exact w_X4_change_17 _ _ h
theorem ok_X4_change {D : k_D} {dy : Nat → Nat} {x1 : Int32} {x2 : Int32} {S : St} {out : St} (h : f_X4_change x1 x2 S = some out) : Sp yX4_change cX4_change 3 none (k_rm 1) D dy S [.ref (D.2.2 25), .int x1, .int x2] (k_Pv dy out) := Sp.of (by decide +kernel) (Nat.le_of_ble_eq_true rfl) (w_X4_change_0 _ _ S out h)
noncomputable def f_X4_addUp_119 (S : St) : Option (St) := some S
noncomputable def f_X4_addUp_113 (k22 : Int32 → Int32 → St → Option (St)) (x1 : Int32) (x2 : Int32) (S : St) : Option (St) := k22 x1 (x2 + (1 : Int32)) S
noncomputable def f_X4_addUp_22 : Nat → Int32 → Int32 → St → Option (St)
  | 0, _, _, _ => none
  | n + 1, x1, x2, S => if (gI S 1) ≤ x2 then f_X4_addUp_119 S else if (16 : Int32) ≤ x2 then f_X4_addUp_119 S else if k_b x2 16 = true then if (gA S 5 x2.toNatClampNeg) = x1 then if k_b x2 16 = true then if (gA S 19 x2.toNatClampNeg) = 0 then if k_b x2 16 = true then k_let (sI S 17 ((gI S 17) + (gA S 6 x2.toNatClampNeg))) fun S4 => if k_b x2 16 = true then (f_X4_change (gA S4 4 x2.toNatClampNeg) (gA S 6 x2.toNatClampNeg) S4).bind fun q95 => if k_b x2 16 = true then (f_X4_change (gA q95 3 x2.toNatClampNeg) (-(gA S 6 x2.toNatClampNeg)) q95).bind fun q110 => f_X4_addUp_113 (f_X4_addUp_22 n) x1 x2 q110 else none else none else none else f_X4_addUp_113 (f_X4_addUp_22 n) x1 x2 S else none else f_X4_addUp_113 (f_X4_addUp_22 n) x1 x2 S else none
noncomputable def f_X4_addUp (x1 : Int32) (S : St) : Option (St) := (f_X3_hear S).bind fun q4 => (f_J7_fill_53178_a26 (0 : Int32) q4).bind fun q12 => k_let (sI q12 17 (0 : Int32)) fun S1 => f_X4_addUp_22 FU x1 (0 : Int32) S1
set_option maxRecDepth 100000 in
set_option maxHeartbeats 4000000 in
theorem w_X4_addUp_119 {D : k_D} {dy : Nat → Nat} (S : St) (out : St) (h : f_X4_addUp_119 S = some out) : Rn yX4_addUp cX4_addUp 4 none (k_rm 5) 0 0 D dy S (k_Pv dy out) 119 [] [] := by
    unfold f_X4_addUp_119 at h
    exact r_vret rfl dX4_addUp_119 ⟨rfl, rfl, Option.some.inj h⟩
set_option maxRecDepth 100000 in
set_option maxHeartbeats 4000000 in
theorem w_X4_addUp_113 {D : k_D} {dy : Nat → Nat} {k22 : Int32 → Int32 → St → Option (St)} (hk22 : ∀ (x1 : Int32) (x2 : Int32) (S : St) (out : St), k22 x1 x2 S = some out → Rn yX4_addUp cX4_addUp 4 none (k_rm 5) 0 0 D dy S (k_Pv dy out) 22 [(0, .ref (D.2.2 25)), (1, .int x1), (2, .int x2)] []) (x1 : Int32) (x2 : Int32) (S : St) (out : St) (h : f_X4_addUp_113 k22 x1 x2 S = some out) : Rn yX4_addUp cX4_addUp 4 none (k_rm 5) 0 0 D dy S (k_Pv dy out) 113 [(0, .ref (D.2.2 25)), (1, .int x1), (2, .int x2)] [] := by
    unfold f_X4_addUp_113 at h
    refine r_iinc (q := 2) (v := x2 + (1 : Int32)) dX4_addUp_113 rfl rfl (by decide) rfl ?_
    refine r_goto (t := 22) dX4_addUp_116 (by decide) ?_
    refine r_sub [1, 2, 0] rfl ?_
    exact hk22 _ _ _ _ h
set_option maxRecDepth 100000 in
set_option maxHeartbeats 4000000 in
theorem w_X4_addUp_22 {D : k_D} {dy : Nat → Nat} : ∀ (n : Nat) (x1 : Int32) (x2 : Int32) (S : St) (out : St), f_X4_addUp_22 n x1 x2 S = some out → Rn yX4_addUp cX4_addUp 4 none (k_rm 5) 0 0 D dy S (k_Pv dy out) 22 [(0, .ref (D.2.2 25)), (1, .int x1), (2, .int x2)] [] := by
  intro n
  induction n with
  | zero => intro x1 x2 S out h; cases h
  | succ n ih =>
    intro x1 x2 S out h
    rw [f_X4_addUp_22] at h
    refine r_iload_n 2 dX4_addUp_22 rfl rfl ?_
    refine r_aload_n 0 dX4_addUp_23 rfl rfl ?_
    refine gf_25_0 q_410 dX4_addUp_24 ?_
    refine gfN_2_5 q_214 dX4_addUp_27 ?_
    refine r_icmp_ge (t := 119) dX4_addUp_30 (by decide) (fun c => ?_) (fun c => ?_)
    · rw [if_pos c] at h
      refine r_sub [] rfl ?_
      exact w_X4_addUp_119 _ _ h
    · rw [if_neg c] at h
      refine r_iload_n 2 dX4_addUp_33 rfl rfl ?_
      refine r_bipush (v := 16) dX4_addUp_34 rfl ?_
      refine r_icmp_ge (t := 119) dX4_addUp_36 (by decide) (fun c => ?_) (fun c => ?_)
      · rw [if_pos c] at h
        refine r_sub [] rfl ?_
        exact w_X4_addUp_119 _ _ h
      · rw [if_neg c] at h
        refine r_aload_n 0 dX4_addUp_39 rfl rfl ?_
        refine gf_25_0 q_410 dX4_addUp_40 ?_
        refine gfN_2_2 q_196 dX4_addUp_43 ?_
        refine r_iload_n 2 dX4_addUp_46 rfl rfl ?_
        obtain ⟨c1, h⟩ := g_ite h
        refine al_5 (k_b_in c1) dX4_addUp_47 ?_
        refine r_iload_n 1 dX4_addUp_48 rfl rfl ?_
        refine r_icmp_ne (t := 113) dX4_addUp_49 (by decide) (fun c => ?_) (fun c => ?_)
        · rw [if_neg c] at h
          exact w_X4_addUp_113 ih _ _ _ _ h
        · rw [if_pos c] at h
          refine r_aload_n 0 dX4_addUp_52 rfl rfl ?_
          refine gf_25_1 q_411 dX4_addUp_53 ?_
          refine gfN_17_3 q_376 dX4_addUp_56 ?_
          refine r_iload_n 2 dX4_addUp_59 rfl rfl ?_
          obtain ⟨c2, h⟩ := g_ite h
          refine al_19 (k_b_in c2) dX4_addUp_60 ?_
          refine r_if_ne (t := 113) dX4_addUp_61 (by decide) (fun c => ?_) (fun c => ?_)
          · rw [if_neg c] at h
            exact w_X4_addUp_113 ih _ _ _ _ h
          · rw [if_pos c] at h
            refine r_aload_n 0 dX4_addUp_64 rfl rfl ?_
            refine gf_25_0 q_410 dX4_addUp_65 ?_
            refine gfN_2_3 q_203 dX4_addUp_68 ?_
            refine r_iload_n 2 dX4_addUp_71 rfl rfl ?_
            obtain ⟨c3, h⟩ := g_ite h
            refine al_6 (k_b_in c3) dX4_addUp_72 ?_
            refine r_istore_n dX4_addUp_73 rfl (by decide) rfl ?_
            refine r_aload_n 1 dX4_addUp_74 rfl rfl ?_
            refine r_dup dX4_addUp_75 rfl ?_
            refine gf_25_5 q_416 dX4_addUp_76 ?_
            refine r_iload_n 0 dX4_addUp_79 rfl rfl ?_
            refine r_iadd dX4_addUp_80 ?_
            refine pf_25_5 q_416 dX4_addUp_81 ?_
            generalize sI S 17 ((gI S 17) + (gA S 6 x2.toNatClampNeg)) = S4 at h ⊢
            replace h := g_let h
            refine r_aload_n 1 dX4_addUp_84 rfl rfl ?_
            refine r_aload_n 1 dX4_addUp_85 rfl rfl ?_
            refine gf_25_0 q_410 dX4_addUp_86 ?_
            refine gfN_2_1 q_191 dX4_addUp_89 ?_
            refine r_iload_n 3 dX4_addUp_92 rfl rfl ?_
            obtain ⟨c5, h⟩ := g_ite h
            refine al_4 (k_b_in c5) dX4_addUp_93 ?_
            refine r_iload_n 0 dX4_addUp_94 rfl rfl ?_
            obtain ⟨q95, hq95, h⟩ := g_bind h
            refine r_callVv [.int (gA S4 4 x2.toNatClampNeg), .int (gA S 6 x2.toNatClampNeg)] [] q95 (ok_X4_change hq95) q_994 q_996 q_46 q_997 q_147 hd_X4_change (ce_25 D dy _) kc4.1 rfl ⟨Nat.le_of_ble_eq_true rfl, Nat.le_of_ble_eq_true rfl⟩ rfl rfl (Nat.le_of_ble_eq_true rfl) dX4_addUp_95 ?_
            refine r_aload_n 1 dX4_addUp_98 rfl rfl ?_
            refine r_aload_n 1 dX4_addUp_99 rfl rfl ?_
            refine gf_25_0 q_410 dX4_addUp_100 ?_
            refine gfN_2_0 q_187 dX4_addUp_103 ?_
            refine r_iload_n 3 dX4_addUp_106 rfl rfl ?_
            obtain ⟨c6, h⟩ := g_ite h
            refine al_3 (k_b_in c6) dX4_addUp_107 ?_
            refine r_iload_n 0 dX4_addUp_108 rfl rfl ?_
            refine r_ineg dX4_addUp_109 ?_
            obtain ⟨q110, hq110, h⟩ := g_bind h
            refine r_callVv [.int (gA q95 3 x2.toNatClampNeg), .int (-(gA S 6 x2.toNatClampNeg))] [] q110 (ok_X4_change hq110) q_994 q_996 q_46 q_997 q_147 hd_X4_change (ce_25 D dy _) kc4.1 rfl ⟨Nat.le_of_ble_eq_true rfl, Nat.le_of_ble_eq_true rfl⟩ rfl rfl (Nat.le_of_ble_eq_true rfl) dX4_addUp_110 ?_
            refine r_sub [1, 2, 3] rfl ?_
            exact w_X4_addUp_113 ih _ _ _ _ h
set_option maxRecDepth 100000 in
set_option maxHeartbeats 4000000 in
theorem w_X4_addUp_0 {D : k_D} {dy : Nat → Nat} (x1 : Int32) (S : St) (out : St) (h : f_X4_addUp x1 S = some out) : Rn yX4_addUp cX4_addUp 4 none (k_rm 5) 0 0 D dy S (k_Pv dy out) 0 [(0, .ref (D.2.2 25)), (1, .int x1)] [] := by
    unfold f_X4_addUp at h
    refine r_aload_n 0 dX4_addUp_0 rfl rfl ?_
    refine gf_25_1 q_411 dX4_addUp_1 ?_
    obtain ⟨q4, hq4, h⟩ := g_bind h
    refine r_callVNv [] [] q4 (ok_X3_hear hq4) q_992 q_689 q_7 q_690 q_146 hd_X3_hear (ce_17 D dy _) kc3.1 rfl ⟨Nat.le_of_ble_eq_true rfl, Nat.le_of_ble_eq_true rfl⟩ rfl rfl (Nat.le_of_ble_eq_true rfl) dX4_addUp_4 ?_
    refine r_aload_n 0 dX4_addUp_7 rfl rfl ?_
    refine gf_25_2 q_412 dX4_addUp_8 ?_
    refine r_iconst (v := 0) dX4_addUp_11 rfl ?_
    obtain ⟨q12, hq12, h⟩ := g_bind h
    refine r_callSv [.ref (D.2.2 26), .int (0 : Int32)] [] q12 (ok_J7_fill_53178_a26 hq12) q_993 q_692 q_693 q_154 hd_J7_fill_53178 ⟨Nat.le_of_ble_eq_true rfl, Nat.le_of_ble_eq_true rfl⟩ rfl rfl (Nat.le_of_ble_eq_true rfl) dX4_addUp_12 ?_
    refine r_aload_n 0 dX4_addUp_15 rfl rfl ?_
    refine r_iconst (v := 0) dX4_addUp_16 rfl ?_
    refine pf_25_5 q_416 dX4_addUp_17 ?_
    generalize sI q12 17 (0 : Int32) = S1 at h ⊢
    replace h := g_let h
    refine r_iconst (v := 0) dX4_addUp_20 rfl ?_
    refine r_istore_n dX4_addUp_21 rfl (by decide) rfl ?_
    refine r_sub [1, 2, 0] rfl ?_
    exact w_X4_addUp_22 _ _ _ _ _ h
theorem ok_X4_addUp {D : k_D} {dy : Nat → Nat} {x1 : Int32} {S : St} {out : St} (h : f_X4_addUp x1 S = some out) : Sp yX4_addUp cX4_addUp 4 none (k_rm 5) D dy S [.ref (D.2.2 25), .int x1] (k_Pv dy out) := Sp.of (by decide +kernel) (Nat.le_of_ble_eq_true rfl) (w_X4_addUp_0 _ S out h)
noncomputable def f_X4_least_13 : Nat → Int32 → Int32 → Int32 → St → Option (Int32 × St)
  | 0, _, _, _, _ => none
  | n + 1, x1, x3, x4, S => if x3 ≤ x4 then some (x1, S) else if k_b x4 8 = true then f_X4_least_13 n (x1 + (if (0 : Int32) < (gA S 26 x4.toNatClampNeg) then (gA S 26 x4.toNatClampNeg) else (0 : Int32))) x3 (x4 + (1 : Int32)) S else none
noncomputable def f_X4_least (S : St) : Option (Int32 × St) := f_X4_least_13 FU (0 : Int32) (8 : Int32) (0 : Int32) S
set_option maxRecDepth 100000 in
set_option maxHeartbeats 4000000 in
theorem w_X4_least_13 {D : k_D} {dy : Nat → Nat} : ∀ (n : Nat) (x1 : Int32) (x3 : Int32) (x4 : Int32) (S : St) (out : Int32 × St), f_X4_least_13 n x1 x3 x4 S = some out → Rn yX4_least cX4_least 6 (some .int) (k_rm 1) 0 0 D dy S (k_Pi dy out) 13 [(1, .int x1), (2, .ref (D.2.2 26)), (3, .int x3), (4, .int x4)] [] := by
  intro n
  induction n with
  | zero => intro x1 x3 x4 S out h; cases h
  | succ n ih =>
    intro x1 x3 x4 S out h
    rw [f_X4_least_13] at h
    refine r_iload 3 dX4_least_13 rfl ?_
    refine r_iload_n 2 dX4_least_15 rfl rfl ?_
    refine r_icmp_ge (t := 40) dX4_least_16 (by decide) (fun c => ?_) (fun c => ?_)
    · rw [if_pos c] at h
      refine r_iload_n 0 dX4_least_40 rfl rfl ?_
      cases h
      exact r_iret rfl dX4_least_41 ⟨rfl, rfl, rfl⟩
    · rw [if_neg c] at h
      refine r_aload_n 1 dX4_least_19 rfl rfl ?_
      refine r_iload 3 dX4_least_20 rfl ?_
      obtain ⟨c1, h⟩ := g_ite h
      refine al_26 (k_b_in c1) dX4_least_22 ?_
      refine r_istore dX4_least_23 (by decide) rfl ?_
      refine r_iload_n 1 dX4_least_25 rfl rfl ?_
      refine r_iconst (v := 0) dX4_least_26 rfl ?_
      refine r_iload 0 dX4_least_27 rfl ?_
      refine r_max q_1007 q_729 q_155 q_730 ⟨Nat.le_of_ble_eq_true rfl, Nat.le_of_ble_eq_true rfl⟩ dX4_least_29 ?_
      refine r_iadd dX4_least_32 ?_
      refine r_istore_n dX4_least_33 rfl (by decide) rfl ?_
      refine r_iinc (q := 4) (v := x4 + (1 : Int32)) dX4_least_34 rfl rfl (by decide) rfl ?_
      refine r_goto (t := 13) dX4_least_37 (by decide) ?_
      refine r_sub [1, 3, 4, 0] rfl ?_
      exact ih _ _ _ _ _ h
set_option maxRecDepth 100000 in
set_option maxHeartbeats 4000000 in
theorem w_X4_least_0 {D : k_D} {dy : Nat → Nat} (S : St) (out : Int32 × St) (h : f_X4_least S = some out) : Rn yX4_least cX4_least 6 (some .int) (k_rm 1) 0 0 D dy S (k_Pi dy out) 0 [(0, .ref (D.2.2 25))] [] := by
    unfold f_X4_least at h
    refine r_iconst (v := 0) dX4_least_0 rfl ?_
    refine r_istore_n dX4_least_1 rfl (by decide) rfl ?_
    refine r_aload_n 1 dX4_least_2 rfl rfl ?_
    refine gf_25_2 q_412 dX4_least_3 ?_
    refine r_astore_n dX4_least_6 rfl (by decide) rfl ?_
    refine r_aload_n 0 dX4_least_7 rfl rfl ?_
    refine ln_26 dX4_least_8 ?_
    refine r_istore_n dX4_least_9 rfl (by decide) rfl ?_
    refine r_iconst (v := 0) dX4_least_10 rfl ?_
    refine r_istore dX4_least_11 (by decide) rfl ?_
    refine r_sub [3, 2, 1, 0] rfl ?_
    exact w_X4_least_13 _ _ _ _ _ _ h
theorem ok_X4_least {D : k_D} {dy : Nat → Nat} {S : St} {out : Int32 × St} (h : f_X4_least S = some out) : Sp yX4_least cX4_least 6 (some .int) (k_rm 1) D dy S [.ref (D.2.2 25)] (k_Pi dy out) := Sp.of (by decide +kernel) (Nat.le_of_ble_eq_true rfl) (w_X4_least_0 S out h)
noncomputable def f_X4_group_87 (s1 : Int32) (s2 : Int32) (S : St) : Option (St) := if k_b s1 256 = true then k_let (sA S 28 s1.toNatClampNeg s2) fun S2 => some S2 else none
noncomputable def f_X4_group_58 (k7 : Int32 → Int32 → Int32 → Int32 → St → Option (St)) (x1 : Int32) (x2 : Int32) (x3 : Int32) (x4 : Int32) (S : St) : Option (St) := k7 x1 x2 x3 (x4 + (1 : Int32)) S
noncomputable def f_X4_group_7 : Nat → Int32 → Int32 → Int32 → Int32 → St → Option (St)
  | 0, _, _, _, _, _ => none
  | n + 1, x1, x2, x3, x4, S => if (8 : Int32) ≤ x4 then if k_b x1 256 = true then k_let (sA S 27 x1.toNatClampNeg x3) fun S2 => if x3 = 0 then f_X4_group_87 x1 (x2 + (1 : Int32)) S2 else f_X4_group_87 x1 x2 S2 else none else if (x1 &&& (((1 : Int32) <<< (x4 &&& 31)) ^^^ (-1 : Int32))) = x1 then f_X4_group_58 (f_X4_group_7 n) x1 x2 x3 x4 S else if k_b (x1 &&& (((1 : Int32) <<< (x4 &&& 31)) ^^^ (-1 : Int32))) 256 = true then if k_b (x1 &&& (((1 : Int32) <<< (x4 &&& 31)) ^^^ (-1 : Int32))) 256 = true then if k_b x4 8 = true then f_X4_group_58 (f_X4_group_7 n) x1 (if x2 < (gA S 28 (x1 &&& (((1 : Int32) <<< (x4 &&& 31)) ^^^ (-1 : Int32))).toNatClampNeg) then (gA S 28 (x1 &&& (((1 : Int32) <<< (x4 &&& 31)) ^^^ (-1 : Int32))).toNatClampNeg) else x2) ((gA S 27 (x1 &&& (((1 : Int32) <<< (x4 &&& 31)) ^^^ (-1 : Int32))).toNatClampNeg) + (gA S 26 x4.toNatClampNeg)) x4 S else none else none else none
noncomputable def f_X4_group (x1 : Int32) (S : St) : Option (St) := f_X4_group_7 FU x1 (0 : Int32) (0 : Int32) (0 : Int32) S
set_option maxRecDepth 100000 in
set_option maxHeartbeats 4000000 in
theorem w_X4_group_87 {D : k_D} {dy : Nat → Nat} (s1 : Int32) (s2 : Int32) (S : St) (out : St) (h : f_X4_group_87 s1 s2 S = some out) : Rn yX4_group cX4_group 6 none (k_rm 1) 0 0 D dy S (k_Pv dy out) 87 [] [.int s2, .int s1, .ref (D.2.2 28)] := by
    unfold f_X4_group_87 at h
    obtain ⟨c1, h⟩ := g_ite h
    refine as_28 (k_b_in c1) dX4_group_87 ?_
    generalize sA S 28 s1.toNatClampNeg s2 = S2 at h ⊢
    replace h := g_let h
    exact r_vret rfl dX4_group_88 ⟨rfl, rfl, Option.some.inj h⟩
set_option maxRecDepth 100000 in
set_option maxHeartbeats 4000000 in
theorem w_X4_group_58 {D : k_D} {dy : Nat → Nat} {k7 : Int32 → Int32 → Int32 → Int32 → St → Option (St)} (hk7 : ∀ (x1 : Int32) (x2 : Int32) (x3 : Int32) (x4 : Int32) (S : St) (out : St), k7 x1 x2 x3 x4 S = some out → Rn yX4_group cX4_group 6 none (k_rm 1) 0 0 D dy S (k_Pv dy out) 7 [(0, .ref (D.2.2 25)), (1, .int x1), (2, .int x2), (3, .int x3), (4, .int x4)] []) (x1 : Int32) (x2 : Int32) (x3 : Int32) (x4 : Int32) (S : St) (out : St) (h : f_X4_group_58 k7 x1 x2 x3 x4 S = some out) : Rn yX4_group cX4_group 6 none (k_rm 1) 0 0 D dy S (k_Pv dy out) 58 [(0, .ref (D.2.2 25)), (1, .int x1), (2, .int x2), (3, .int x3), (4, .int x4)] [] := by
    unfold f_X4_group_58 at h
    refine r_iinc (q := 4) (v := x4 + (1 : Int32)) dX4_group_58 rfl rfl (by decide) rfl ?_
    refine r_goto (t := 7) dX4_group_61 (by decide) ?_
    refine r_sub [1, 2, 3, 4, 0] rfl ?_
    exact hk7 _ _ _ _ _ _ h
set_option maxRecDepth 100000 in
set_option maxHeartbeats 4000000 in
theorem w_X4_group_7 {D : k_D} {dy : Nat → Nat} : ∀ (n : Nat) (x1 : Int32) (x2 : Int32) (x3 : Int32) (x4 : Int32) (S : St) (out : St), f_X4_group_7 n x1 x2 x3 x4 S = some out → Rn yX4_group cX4_group 6 none (k_rm 1) 0 0 D dy S (k_Pv dy out) 7 [(0, .ref (D.2.2 25)), (1, .int x1), (2, .int x2), (3, .int x3), (4, .int x4)] [] := by
  intro n
  induction n with
  | zero => intro x1 x2 x3 x4 S out h; cases h
  | succ n ih =>
    intro x1 x2 x3 x4 S out h
    rw [f_X4_group_7] at h
    refine r_iload 4 dX4_group_7 rfl ?_
    refine r_bipush (v := 8) dX4_group_9 rfl ?_
    refine r_icmp_ge (t := 64) dX4_group_11 (by decide) (fun c => ?_) (fun c => ?_)
    · rw [if_pos c] at h
      refine r_aload_n 0 dX4_group_64 rfl rfl ?_
      refine gf_25_3 q_414 dX4_group_65 ?_
      refine r_iload_n 1 dX4_group_68 rfl rfl ?_
      refine r_iload_n 3 dX4_group_69 rfl rfl ?_
      obtain ⟨c1, h⟩ := g_ite h
      refine as_27 (k_b_in c1) dX4_group_70 ?_
      generalize sA S 27 x1.toNatClampNeg x3 = S2 at h ⊢
      replace h := g_let h
      refine r_aload_n 0 dX4_group_71 rfl rfl ?_
      refine gf_25_4 q_415 dX4_group_72 ?_
      refine r_iload_n 1 dX4_group_75 rfl rfl ?_
      refine r_iload_n 3 dX4_group_76 rfl rfl ?_
      refine r_if_ne (t := 86) dX4_group_77 (by decide) (fun c => ?_) (fun c => ?_)
      · rw [if_neg c] at h
        refine r_iload_n 2 dX4_group_86 rfl rfl ?_
        refine r_sub [] rfl ?_
        exact w_X4_group_87 _ _ _ _ h
      · rw [if_pos c] at h
        refine r_iload_n 2 dX4_group_80 rfl rfl ?_
        refine r_iconst (v := 1) dX4_group_81 rfl ?_
        refine r_iadd dX4_group_82 ?_
        refine r_goto (t := 87) dX4_group_83 (by decide) ?_
        refine r_sub [] rfl ?_
        exact w_X4_group_87 _ _ _ _ h
    · rw [if_neg c] at h
      refine r_iload_n 1 dX4_group_14 rfl rfl ?_
      refine r_iconst (v := 1) dX4_group_15 rfl ?_
      refine r_iload 4 dX4_group_16 rfl ?_
      refine r_ishl dX4_group_18 ?_
      refine r_iconst (v := -1) dX4_group_19 rfl ?_
      refine r_ixor dX4_group_20 ?_
      refine r_iand dX4_group_21 ?_
      refine r_istore dX4_group_22 (by decide) rfl ?_
      refine r_iload 0 dX4_group_24 rfl ?_
      refine r_iload_n 2 dX4_group_26 rfl rfl ?_
      refine r_icmp_eq (t := 58) dX4_group_27 (by decide) (fun c => ?_) (fun c => ?_)
      · rw [if_pos c] at h
        refine r_sub [1, 2, 3, 4, 5] rfl ?_
        exact w_X4_group_58 ih _ _ _ _ _ _ h
      · rw [if_neg c] at h
        refine r_iload_n 3 dX4_group_30 rfl rfl ?_
        refine r_aload_n 1 dX4_group_31 rfl rfl ?_
        refine gf_25_4 q_415 dX4_group_32 ?_
        refine r_iload 0 dX4_group_35 rfl ?_
        obtain ⟨c3, h⟩ := g_ite h
        refine al_28 (k_b_in c3) dX4_group_37 ?_
        refine r_max q_1007 q_729 q_155 q_730 ⟨Nat.le_of_ble_eq_true rfl, Nat.le_of_ble_eq_true rfl⟩ dX4_group_38 ?_
        refine r_istore_n dX4_group_41 rfl (by decide) rfl ?_
        refine r_aload_n 2 dX4_group_42 rfl rfl ?_
        refine gf_25_3 q_414 dX4_group_43 ?_
        refine r_iload 1 dX4_group_46 rfl ?_
        obtain ⟨c4, h⟩ := g_ite h
        refine al_27 (k_b_in c4) dX4_group_48 ?_
        refine r_aload_n 2 dX4_group_49 rfl rfl ?_
        refine gf_25_2 q_412 dX4_group_50 ?_
        refine r_iload 5 dX4_group_53 rfl ?_
        obtain ⟨c5, h⟩ := g_ite h
        refine al_26 (k_b_in c5) dX4_group_55 ?_
        refine r_iadd dX4_group_56 ?_
        refine r_istore_n dX4_group_57 rfl (by decide) rfl ?_
        refine r_sub [3, 4, 1, 0, 5] rfl ?_
        exact w_X4_group_58 ih _ _ _ _ _ _ h
set_option maxRecDepth 100000 in
set_option maxHeartbeats 4000000 in
theorem w_X4_group_0 {D : k_D} {dy : Nat → Nat} (x1 : Int32) (S : St) (out : St) (h : f_X4_group x1 S = some out) : Rn yX4_group cX4_group 6 none (k_rm 1) 0 0 D dy S (k_Pv dy out) 0 [(0, .ref (D.2.2 25)), (1, .int x1)] [] := by
    unfold f_X4_group at h
    refine r_iconst (v := 0) dX4_group_0 rfl ?_
    refine r_istore_n dX4_group_1 rfl (by decide) rfl ?_
    refine r_iconst (v := 0) dX4_group_2 rfl ?_
    refine r_istore_n dX4_group_3 rfl (by decide) rfl ?_
    refine r_iconst (v := 0) dX4_group_4 rfl ?_
    refine r_istore dX4_group_5 (by decide) rfl ?_
    refine r_sub [3, 4, 2, 1, 0] rfl ?_
    exact w_X4_group_7 _ _ _ _ _ _ _ h
theorem ok_X4_group {D : k_D} {dy : Nat → Nat} {x1 : Int32} {S : St} {out : St} (h : f_X4_group x1 S = some out) : Sp yX4_group cX4_group 6 none (k_rm 1) D dy S [.ref (D.2.2 25), .int x1] (k_Pv dy out) := Sp.of (by decide +kernel) (Nat.le_of_ble_eq_true rfl) (w_X4_group_0 _ S out h)
noncomputable def f_X4_fewestPayments_79 (x1 : Int32) (S : St) : Option (Int32 × St) := (f_J6_bitCount_0f7a4 x1 S).bind fun q80 => if k_b x1 256 = true then some (q80.1 - (gA q80.2 28 x1.toNatClampNeg), q80.2) else none
noncomputable def f_X4_fewestPayments_73 (k47 : Int32 → Int32 → St → Option (Int32 × St)) (x1 : Int32) (x2 : Int32) (S : St) : Option (Int32 × St) := k47 x1 (x2 + (1 : Int32)) S
noncomputable def f_X4_fewestPayments_47 : Nat → Int32 → Int32 → St → Option (Int32 × St)
  | 0, _, _, _ => none
  | n + 1, x1, x2, S => if x1 < x2 then f_X4_fewestPayments_79 x1 S else if (256 : Int32) ≤ x2 then f_X4_fewestPayments_79 x1 S else if (x2 &&& x1) = x2 then (f_X4_group x2 S).bind fun q70 => f_X4_fewestPayments_73 (f_X4_fewestPayments_47 n) x1 x2 q70 else f_X4_fewestPayments_73 (f_X4_fewestPayments_47 n) x1 x2 S
noncomputable def f_X4_fewestPayments_25 (k4 : Int32 → Int32 → St → Option (Int32 × St)) (x1 : Int32) (x2 : Int32) (S : St) : Option (Int32 × St) := k4 x1 (x2 + (1 : Int32)) S
noncomputable def f_X4_fewestPayments_4 : Nat → Int32 → Int32 → St → Option (Int32 × St)
  | 0, _, _, _ => none
  | n + 1, x1, x2, S => if (8 : Int32) ≤ x2 then if k_b (0 : Int32) 256 = true then k_let (sA S 27 (0 : Int32).toNatClampNeg (0 : Int32)) fun S2 => if k_b (0 : Int32) 256 = true then k_let (sA S2 28 (0 : Int32).toNatClampNeg (0 : Int32)) fun S4 => f_X4_fewestPayments_47 FU x1 (1 : Int32) S4 else none else none else if k_b x2 8 = true then if (gA S 26 x2.toNatClampNeg) = 0 then f_X4_fewestPayments_25 (f_X4_fewestPayments_4 n) x1 x2 S else f_X4_fewestPayments_25 (f_X4_fewestPayments_4 n) (x1 ||| ((1 : Int32) <<< (x2 &&& 31))) x2 S else none
noncomputable def f_X4_fewestPayments (S : St) : Option (Int32 × St) := f_X4_fewestPayments_4 FU (0 : Int32) (0 : Int32) S
set_option maxRecDepth 100000 in
set_option maxHeartbeats 4000000 in
theorem w_X4_fewestPayments_79 {D : k_D} {dy : Nat → Nat} (x1 : Int32) (S : St) (out : Int32 × St) (h : f_X4_fewestPayments_79 x1 S = some out) : Rn yX4_fewestPayments cX4_fewestPayments 3 (some .int) (k_rm 2) 0 0 D dy S (k_Pi dy out) 79 [(0, .ref (D.2.2 25)), (1, .int x1)] [] := by
    unfold f_X4_fewestPayments_79 at h
    refine r_iload_n 1 dX4_fewestPayments_79 rfl rfl ?_
    obtain ⟨q80, hq80, h⟩ := g_bind h
    refine r_callSi [.int x1] [] q80 (ok_J6_bitCount_0f7a4 hq80) q_1016 q_1017 q_1018 q_161 hd_J6_bitCount_0f7a4 ⟨Nat.le_of_ble_eq_true rfl, Nat.le_of_ble_eq_true rfl⟩ rfl rfl (Nat.le_of_ble_eq_true rfl) dX4_fewestPayments_80 ?_
    refine r_aload_n 0 dX4_fewestPayments_83 rfl rfl ?_
    refine gf_25_4 q_415 dX4_fewestPayments_84 ?_
    refine r_iload_n 1 dX4_fewestPayments_87 rfl rfl ?_
    obtain ⟨c1, h⟩ := g_ite h
    refine al_28 (k_b_in c1) dX4_fewestPayments_88 ?_
    refine r_isub dX4_fewestPayments_89 ?_
    cases h
    exact r_iret rfl dX4_fewestPayments_90 ⟨rfl, rfl, rfl⟩
set_option maxRecDepth 100000 in
set_option maxHeartbeats 4000000 in
theorem w_X4_fewestPayments_73 {D : k_D} {dy : Nat → Nat} {k47 : Int32 → Int32 → St → Option (Int32 × St)} (hk47 : ∀ (x1 : Int32) (x2 : Int32) (S : St) (out : Int32 × St), k47 x1 x2 S = some out → Rn yX4_fewestPayments cX4_fewestPayments 3 (some .int) (k_rm 2) 0 0 D dy S (k_Pi dy out) 47 [(0, .ref (D.2.2 25)), (1, .int x1), (2, .int x2)] []) (x1 : Int32) (x2 : Int32) (S : St) (out : Int32 × St) (h : f_X4_fewestPayments_73 k47 x1 x2 S = some out) : Rn yX4_fewestPayments cX4_fewestPayments 3 (some .int) (k_rm 2) 0 0 D dy S (k_Pi dy out) 73 [(0, .ref (D.2.2 25)), (1, .int x1), (2, .int x2)] [] := by
    unfold f_X4_fewestPayments_73 at h
    refine r_iinc (q := 2) (v := x2 + (1 : Int32)) dX4_fewestPayments_73 rfl rfl (by decide) rfl ?_
    refine r_goto (t := 47) dX4_fewestPayments_76 (by decide) ?_
    refine r_sub [1, 2, 0] rfl ?_
    exact hk47 _ _ _ _ h
set_option maxRecDepth 100000 in
set_option maxHeartbeats 4000000 in
theorem w_X4_fewestPayments_47 {D : k_D} {dy : Nat → Nat} : ∀ (n : Nat) (x1 : Int32) (x2 : Int32) (S : St) (out : Int32 × St), f_X4_fewestPayments_47 n x1 x2 S = some out → Rn yX4_fewestPayments cX4_fewestPayments 3 (some .int) (k_rm 2) 0 0 D dy S (k_Pi dy out) 47 [(0, .ref (D.2.2 25)), (1, .int x1), (2, .int x2)] [] := by
  intro n
  induction n with
  | zero => intro x1 x2 S out h; cases h
  | succ n ih =>
    intro x1 x2 S out h
    rw [f_X4_fewestPayments_47] at h
    refine r_iload_n 2 dX4_fewestPayments_47 rfl rfl ?_
    refine r_iload_n 1 dX4_fewestPayments_48 rfl rfl ?_
    refine r_icmp_gt (t := 79) dX4_fewestPayments_49 (by decide) (fun c => ?_) (fun c => ?_)
    · rw [if_pos c] at h
      refine r_sub [0, 1] rfl ?_
      exact w_X4_fewestPayments_79 _ _ _ h
    · rw [if_neg c] at h
      refine r_iload_n 2 dX4_fewestPayments_52 rfl rfl ?_
      refine r_aload_n 0 dX4_fewestPayments_53 rfl rfl ?_
      refine gf_25_3 q_414 dX4_fewestPayments_54 ?_
      refine ln_27 dX4_fewestPayments_57 ?_
      refine r_icmp_ge (t := 79) dX4_fewestPayments_58 (by decide) (fun c => ?_) (fun c => ?_)
      · rw [if_pos c] at h
        refine r_sub [0, 1] rfl ?_
        exact w_X4_fewestPayments_79 _ _ _ h
      · rw [if_neg c] at h
        refine r_iload_n 2 dX4_fewestPayments_61 rfl rfl ?_
        refine r_iload_n 1 dX4_fewestPayments_62 rfl rfl ?_
        refine r_iand dX4_fewestPayments_63 ?_
        refine r_iload_n 2 dX4_fewestPayments_64 rfl rfl ?_
        refine r_icmp_ne (t := 73) dX4_fewestPayments_65 (by decide) (fun c => ?_) (fun c => ?_)
        · rw [if_neg c] at h
          exact w_X4_fewestPayments_73 ih _ _ _ _ h
        · rw [if_pos c] at h
          refine r_aload_n 0 dX4_fewestPayments_68 rfl rfl ?_
          refine r_iload_n 2 dX4_fewestPayments_69 rfl rfl ?_
          obtain ⟨q70, hq70, h⟩ := g_bind h
          refine r_callVv [.int x2] [] q70 (ok_X4_group hq70) q_1012 q_1014 q_49 q_1015 q_147 hd_X4_group (ce_25 D dy _) kc4.1 rfl ⟨Nat.le_of_ble_eq_true rfl, Nat.le_of_ble_eq_true rfl⟩ rfl rfl (Nat.le_of_ble_eq_true rfl) dX4_fewestPayments_70 ?_
          exact w_X4_fewestPayments_73 ih _ _ _ _ h
set_option maxRecDepth 100000 in
set_option maxHeartbeats 4000000 in
theorem w_X4_fewestPayments_25 {D : k_D} {dy : Nat → Nat} {k4 : Int32 → Int32 → St → Option (Int32 × St)} (hk4 : ∀ (x1 : Int32) (x2 : Int32) (S : St) (out : Int32 × St), k4 x1 x2 S = some out → Rn yX4_fewestPayments cX4_fewestPayments 3 (some .int) (k_rm 2) 0 0 D dy S (k_Pi dy out) 4 [(0, .ref (D.2.2 25)), (1, .int x1), (2, .int x2)] []) (x1 : Int32) (x2 : Int32) (S : St) (out : Int32 × St) (h : f_X4_fewestPayments_25 k4 x1 x2 S = some out) : Rn yX4_fewestPayments cX4_fewestPayments 3 (some .int) (k_rm 2) 0 0 D dy S (k_Pi dy out) 25 [(0, .ref (D.2.2 25)), (1, .int x1), (2, .int x2)] [] := by
    unfold f_X4_fewestPayments_25 at h
    refine r_iinc (q := 2) (v := x2 + (1 : Int32)) dX4_fewestPayments_25 rfl rfl (by decide) rfl ?_
    refine r_goto (t := 4) dX4_fewestPayments_28 (by decide) ?_
    refine r_sub [1, 2, 0] rfl ?_
    exact hk4 _ _ _ _ h
set_option maxRecDepth 100000 in
set_option maxHeartbeats 4000000 in
theorem w_X4_fewestPayments_4 {D : k_D} {dy : Nat → Nat} : ∀ (n : Nat) (x1 : Int32) (x2 : Int32) (S : St) (out : Int32 × St), f_X4_fewestPayments_4 n x1 x2 S = some out → Rn yX4_fewestPayments cX4_fewestPayments 3 (some .int) (k_rm 2) 0 0 D dy S (k_Pi dy out) 4 [(0, .ref (D.2.2 25)), (1, .int x1), (2, .int x2)] [] := by
  intro n
  induction n with
  | zero => intro x1 x2 S out h; cases h
  | succ n ih =>
    intro x1 x2 S out h
    rw [f_X4_fewestPayments_4] at h
    refine r_iload_n 2 dX4_fewestPayments_4 rfl rfl ?_
    refine r_bipush (v := 8) dX4_fewestPayments_5 rfl ?_
    refine r_icmp_ge (t := 31) dX4_fewestPayments_7 (by decide) (fun c => ?_) (fun c => ?_)
    · rw [if_pos c] at h
      refine r_aload_n 0 dX4_fewestPayments_31 rfl rfl ?_
      refine gf_25_3 q_414 dX4_fewestPayments_32 ?_
      refine r_iconst (v := 0) dX4_fewestPayments_35 rfl ?_
      refine r_iconst (v := 0) dX4_fewestPayments_36 rfl ?_
      obtain ⟨c1, h⟩ := g_ite h
      refine as_27 (k_b_in c1) dX4_fewestPayments_37 ?_
      generalize sA S 27 (0 : Int32).toNatClampNeg (0 : Int32) = S2 at h ⊢
      replace h := g_let h
      refine r_aload_n 0 dX4_fewestPayments_38 rfl rfl ?_
      refine gf_25_4 q_415 dX4_fewestPayments_39 ?_
      refine r_iconst (v := 0) dX4_fewestPayments_42 rfl ?_
      refine r_iconst (v := 0) dX4_fewestPayments_43 rfl ?_
      obtain ⟨c3, h⟩ := g_ite h
      refine as_28 (k_b_in c3) dX4_fewestPayments_44 ?_
      generalize sA S2 28 (0 : Int32).toNatClampNeg (0 : Int32) = S4 at h ⊢
      replace h := g_let h
      refine r_iconst (v := 1) dX4_fewestPayments_45 rfl ?_
      refine r_istore_n dX4_fewestPayments_46 rfl (by decide) rfl ?_
      refine r_sub [1, 2, 0] rfl ?_
      exact w_X4_fewestPayments_47 _ _ _ _ _ h
    · rw [if_neg c] at h
      refine r_aload_n 0 dX4_fewestPayments_10 rfl rfl ?_
      refine gf_25_2 q_412 dX4_fewestPayments_11 ?_
      refine r_iload_n 2 dX4_fewestPayments_14 rfl rfl ?_
      obtain ⟨c5, h⟩ := g_ite h
      refine al_26 (k_b_in c5) dX4_fewestPayments_15 ?_
      refine r_if_eq (t := 25) dX4_fewestPayments_16 (by decide) (fun c => ?_) (fun c => ?_)
      · rw [if_pos c] at h
        exact w_X4_fewestPayments_25 ih _ _ _ _ h
      · rw [if_neg c] at h
        refine r_iload_n 1 dX4_fewestPayments_19 rfl rfl ?_
        refine r_iconst (v := 1) dX4_fewestPayments_20 rfl ?_
        refine r_iload_n 2 dX4_fewestPayments_21 rfl rfl ?_
        refine r_ishl dX4_fewestPayments_22 ?_
        refine r_ior dX4_fewestPayments_23 ?_
        refine r_istore_n dX4_fewestPayments_24 rfl (by decide) rfl ?_
        refine r_sub [1, 0, 2] rfl ?_
        exact w_X4_fewestPayments_25 ih _ _ _ _ h
set_option maxRecDepth 100000 in
set_option maxHeartbeats 4000000 in
theorem w_X4_fewestPayments_0 {D : k_D} {dy : Nat → Nat} (S : St) (out : Int32 × St) (h : f_X4_fewestPayments S = some out) : Rn yX4_fewestPayments cX4_fewestPayments 3 (some .int) (k_rm 2) 0 0 D dy S (k_Pi dy out) 0 [(0, .ref (D.2.2 25))] [] := by
    unfold f_X4_fewestPayments at h
    refine r_iconst (v := 0) dX4_fewestPayments_0 rfl ?_
    refine r_istore_n dX4_fewestPayments_1 rfl (by decide) rfl ?_
    refine r_iconst (v := 0) dX4_fewestPayments_2 rfl ?_
    refine r_istore_n dX4_fewestPayments_3 rfl (by decide) rfl ?_
    refine r_sub [2, 1, 0] rfl ?_
    exact w_X4_fewestPayments_4 _ _ _ _ _ h
theorem ok_X4_fewestPayments {D : k_D} {dy : Nat → Nat} {S : St} {out : Int32 × St} (h : f_X4_fewestPayments S = some out) : Sp yX4_fewestPayments cX4_fewestPayments 3 (some .int) (k_rm 2) D dy S [.ref (D.2.2 25)] (k_Pi dy out) := Sp.of (by decide +kernel) (Nat.le_of_ble_eq_true rfl) (w_X4_fewestPayments_0 S out h)
noncomputable def f_J7_fill_53178_a42_5 : Nat → Int32 → Int32 → Int32 → St → Option (St)
  | 0, _, _, _, _ => none
  | n + 1, x1, x2, x3, S => if x3 ≤ x2 then some S else if k_b x2 10 = true then k_let (sA S 42 x2.toNatClampNeg x1) fun S2 => f_J7_fill_53178_a42_5 n x1 (x2 + (1 : Int32)) x3 S2 else none
noncomputable def f_J7_fill_53178_a42 (x1 : Int32) (S : St) : Option (St) := f_J7_fill_53178_a42_5 FU x1 (0 : Int32) (10 : Int32) S
set_option maxRecDepth 100000 in
set_option maxHeartbeats 4000000 in
theorem w_J7_fill_53178_a42_5 {D : k_D} {dy : Nat → Nat} : ∀ (n : Nat) (x1 : Int32) (x2 : Int32) (x3 : Int32) (S : St) (out : St), f_J7_fill_53178_a42_5 n x1 x2 x3 S = some out → Rn yJ7_fill_53178 cJ7_fill_53178 4 none (k_rm 0) 0 0 D dy S (k_Pv dy out) 5 [(0, .ref (D.2.2 42)), (1, .int x1), (2, .int x2), (3, .int x3)] [] := by
  intro n
  induction n with
  | zero => intro x1 x2 x3 S out h; cases h
  | succ n ih =>
    intro x1 x2 x3 S out h
    rw [f_J7_fill_53178_a42_5] at h
    refine r_iload_n 2 dJ7_fill_53178_5 rfl rfl ?_
    refine r_iload_n 3 dJ7_fill_53178_6 rfl rfl ?_
    refine r_icmp_ge (t := 20) dJ7_fill_53178_7 (by decide) (fun c => ?_) (fun c => ?_)
    · rw [if_pos c] at h
      exact r_vret rfl dJ7_fill_53178_20 ⟨rfl, rfl, Option.some.inj h⟩
    · rw [if_neg c] at h
      refine r_aload_n 0 dJ7_fill_53178_10 rfl rfl ?_
      refine r_iload_n 2 dJ7_fill_53178_11 rfl rfl ?_
      refine r_iload_n 1 dJ7_fill_53178_12 rfl rfl ?_
      obtain ⟨c1, h⟩ := g_ite h
      refine as_42 (k_b_in c1) dJ7_fill_53178_13 ?_
      generalize sA S 42 x2.toNatClampNeg x1 = S2 at h ⊢
      replace h := g_let h
      refine r_iinc (q := 2) (v := x2 + (1 : Int32)) dJ7_fill_53178_14 rfl rfl (by decide) rfl ?_
      refine r_goto (t := 5) dJ7_fill_53178_17 (by decide) ?_
      refine r_sub [1, 2, 0, 3] rfl ?_
      exact ih _ _ _ _ _ h
set_option maxRecDepth 100000 in
set_option maxHeartbeats 4000000 in
theorem w_J7_fill_53178_a42_0 {D : k_D} {dy : Nat → Nat} (x1 : Int32) (S : St) (out : St) (h : f_J7_fill_53178_a42 x1 S = some out) : Rn yJ7_fill_53178 cJ7_fill_53178 4 none (k_rm 0) 0 0 D dy S (k_Pv dy out) 0 [(0, .ref (D.2.2 42)), (1, .int x1)] [] := by
    unfold f_J7_fill_53178_a42 at h
    refine r_iconst (v := 0) dJ7_fill_53178_0 rfl ?_
    refine r_istore_n dJ7_fill_53178_1 rfl (by decide) rfl ?_
    refine r_aload_n 1 dJ7_fill_53178_2 rfl rfl ?_
    refine ln_42 dJ7_fill_53178_3 ?_
    refine r_istore_n dJ7_fill_53178_4 rfl (by decide) rfl ?_
    refine r_sub [2, 3, 1, 0] rfl ?_
    exact w_J7_fill_53178_a42_5 _ _ _ _ _ _ h
theorem ok_J7_fill_53178_a42 {D : k_D} {dy : Nat → Nat} {x1 : Int32} {S : St} {out : St} (h : f_J7_fill_53178_a42 x1 S = some out) : Sp yJ7_fill_53178 cJ7_fill_53178 4 none (k_rm 0) D dy S [.ref (D.2.2 42), .int x1] (k_Pv dy out) := Sp.of (by decide +kernel) (Nat.le_of_ble_eq_true rfl) (w_J7_fill_53178_a42_0 _ S out h)
noncomputable def f_X10_hasDance_23 (s0 : Int32) (S : St) : Option (Int32 × St) := if s0 = 0 ∨ s0 = 1 then some (s0, S) else none
noncomputable def f_X10_hasDance_22 (S : St) : Option (Int32 × St) := f_X10_hasDance_23 (0 : Int32) S
noncomputable def f_X10_hasDance (x1 : Int32) (S : St) : Option (Int32 × St) := if x1 < 0 then f_X10_hasDance_22 S else if (gI S 6) ≤ x1 then f_X10_hasDance_22 S else if (10 : Int32) ≤ x1 then f_X10_hasDance_22 S else f_X10_hasDance_23 (1 : Int32) S
set_option maxRecDepth 100000 in
set_option maxHeartbeats 4000000 in
theorem w_X10_hasDance_23 {D : k_D} {dy : Nat → Nat} (s0 : Int32) (S : St) (out : Int32 × St) (h : f_X10_hasDance_23 s0 S = some out) : Rn yX10_hasDance cX10_hasDance 2 (some .boolean) (k_rm 0) 0 0 D dy S (k_Pi dy out) 23 [] [.int s0] := by
    unfold f_X10_hasDance_23 at h
    obtain ⟨c, h⟩ := g_ite h
    cases h
    exact r_zret rfl (k_zn c) dX10_hasDance_23 ⟨rfl, rfl, rfl⟩
set_option maxRecDepth 100000 in
set_option maxHeartbeats 4000000 in
theorem w_X10_hasDance_22 {D : k_D} {dy : Nat → Nat} (S : St) (out : Int32 × St) (h : f_X10_hasDance_22 S = some out) : Rn yX10_hasDance cX10_hasDance 2 (some .boolean) (k_rm 0) 0 0 D dy S (k_Pi dy out) 22 [] [] := by
    unfold f_X10_hasDance_22 at h
    refine r_iconst (v := 0) dX10_hasDance_22 rfl ?_
    exact w_X10_hasDance_23 _ _ _ h
set_option maxRecDepth 100000 in
set_option maxHeartbeats 4000000 in
theorem w_X10_hasDance_0 {D : k_D} {dy : Nat → Nat} (x1 : Int32) (S : St) (out : Int32 × St) (h : f_X10_hasDance x1 S = some out) : Rn yX10_hasDance cX10_hasDance 2 (some .boolean) (k_rm 0) 0 0 D dy S (k_Pi dy out) 0 [(0, .ref (D.2.2 0)), (1, .int x1)] [] := by
    unfold f_X10_hasDance at h
    refine r_iload_n 1 dX10_hasDance_0 rfl rfl ?_
    refine r_if_lt (t := 22) dX10_hasDance_1 (by decide) (fun c => ?_) (fun c => ?_)
    · rw [if_pos c] at h
      refine r_sub [] rfl ?_
      exact w_X10_hasDance_22 _ _ h
    · rw [if_neg c] at h
      refine r_iload_n 1 dX10_hasDance_4 rfl rfl ?_
      refine r_aload_n 0 dX10_hasDance_5 rfl rfl ?_
      refine gf_0_12 q_268 dX10_hasDance_6 ?_
      refine r_icmp_ge (t := 22) dX10_hasDance_9 (by decide) (fun c => ?_) (fun c => ?_)
      · rw [if_pos c] at h
        refine r_sub [] rfl ?_
        exact w_X10_hasDance_22 _ _ h
      · rw [if_neg c] at h
        refine r_iload_n 1 dX10_hasDance_12 rfl rfl ?_
        refine r_bipush (v := 10) dX10_hasDance_13 rfl ?_
        refine r_icmp_ge (t := 22) dX10_hasDance_15 (by decide) (fun c => ?_) (fun c => ?_)
        · rw [if_pos c] at h
          refine r_sub [] rfl ?_
          exact w_X10_hasDance_22 _ _ h
        · rw [if_neg c] at h
          refine r_iconst (v := 1) dX10_hasDance_18 rfl ?_
          refine r_goto (t := 23) dX10_hasDance_19 (by decide) ?_
          refine r_sub [] rfl ?_
          exact w_X10_hasDance_23 _ _ _ h
theorem ok_X10_hasDance {D : k_D} {dy : Nat → Nat} {x1 : Int32} {S : St} {out : Int32 × St} (h : f_X10_hasDance x1 S = some out) : Sp yX10_hasDance cX10_hasDance 2 (some .boolean) (k_rm 0) D dy S [.ref (D.2.2 0), .int x1] (k_Pi dy out) := Sp.of (by decide +kernel) (Nat.le_of_ble_eq_true rfl) (w_X10_hasDance_0 _ S out h)
noncomputable def f_X5_followAhead_118 (k84 : Int32 → Int32 → St → Option (St)) (x1 : Int32) (x2 : Int32) (S : St) : Option (St) := k84 x1 (x2 + (1 : Int32)) S
noncomputable def f_X5_followAhead_84 (k76 : Int32 → St → Option (St)) : Nat → Int32 → Int32 → St → Option (St)
  | 0, _, _, _ => none
  | n + 1, x1, x2, S => if (10 : Int32) ≤ x2 then k76 (x1 + (1 : Int32)) S else if k_b x2 10 = true then if (((gA S 42 x2.toNatClampNeg) >>> (x1 &&& 31)) &&& (1 : Int32)) = 0 then f_X5_followAhead_118 (f_X5_followAhead_84 k76 n) x1 x2 S else if k_b x2 10 = true then if k_b x1 10 = true then if k_b x2 10 = true then k_let (sA S 42 x2.toNatClampNeg ((gA S 42 x2.toNatClampNeg) ||| (gA S 42 x1.toNatClampNeg))) fun S5 => f_X5_followAhead_118 (f_X5_followAhead_84 k76 n) x1 x2 S5 else none else none else none else none
noncomputable def f_X5_followAhead_76 : Nat → Int32 → St → Option (St)
  | 0, _, _ => none
  | n + 1, x1, S => if (10 : Int32) ≤ x1 then some S else f_X5_followAhead_84 (f_X5_followAhead_76 n) FU x1 (0 : Int32) S
noncomputable def f_X5_followAhead_74 (S : St) : Option (St) := f_X5_followAhead_76 FU (0 : Int32) S
noncomputable def f_X5_followAhead_68 (k10 : Int32 → St → Option (St)) (x1 : Int32) (S : St) : Option (St) := k10 (x1 + (1 : Int32)) S
noncomputable def f_X5_followAhead_10 : Nat → Int32 → St → Option (St)
  | 0, _, _ => none
  | n + 1, x1, S => if (gI S 7) ≤ x1 then f_X5_followAhead_74 S else if (12 : Int32) ≤ x1 then f_X5_followAhead_74 S else if k_b x1 12 = true then (f_X10_hasDance (gA S 14 x1.toNatClampNeg) S).bind fun q42 => if q42.1 = 0 then f_X5_followAhead_68 (f_X5_followAhead_10 n) x1 q42.2 else if k_b (gA S 14 x1.toNatClampNeg) 10 = true then if k_b x1 12 = true then if k_b (gA S 14 x1.toNatClampNeg) 10 = true then k_let (sA q42.2 42 (gA S 14 x1.toNatClampNeg).toNatClampNeg ((gA q42.2 42 (gA S 14 x1.toNatClampNeg).toNatClampNeg) ||| ((1 : Int32) <<< ((gA q42.2 13 x1.toNatClampNeg) &&& 31)))) fun S5 => f_X5_followAhead_68 (f_X5_followAhead_10 n) x1 S5 else none else none else none else none
noncomputable def f_X5_followAhead (S : St) : Option (St) := (f_J7_fill_53178_a42 (0 : Int32) S).bind fun q5 => f_X5_followAhead_10 FU (0 : Int32) q5
set_option maxRecDepth 100000 in
set_option maxHeartbeats 4000000 in
theorem w_X5_followAhead_118 {D : k_D} {dy : Nat → Nat} {k84 : Int32 → Int32 → St → Option (St)} (hk84 : ∀ (x1 : Int32) (x2 : Int32) (S : St) (out : St), k84 x1 x2 S = some out → Rn yX5_followAhead cX5_followAhead 3 none (k_rm 1) 0 0 D dy S (k_Pv dy out) 84 [(0, .ref (D.2.2 41)), (1, .int x1), (2, .int x2)] []) (x1 : Int32) (x2 : Int32) (S : St) (out : St) (h : f_X5_followAhead_118 k84 x1 x2 S = some out) : Rn yX5_followAhead cX5_followAhead 3 none (k_rm 1) 0 0 D dy S (k_Pv dy out) 118 [(0, .ref (D.2.2 41)), (1, .int x1), (2, .int x2)] [] := by
    unfold f_X5_followAhead_118 at h
    refine r_iinc (q := 2) (v := x2 + (1 : Int32)) dX5_followAhead_118 rfl rfl (by decide) rfl ?_
    refine r_goto (t := 84) dX5_followAhead_121 (by decide) ?_
    refine r_sub [1, 2, 0] rfl ?_
    exact hk84 _ _ _ _ h
set_option maxRecDepth 100000 in
set_option maxHeartbeats 4000000 in
theorem w_X5_followAhead_84 {D : k_D} {dy : Nat → Nat} {k76 : Int32 → St → Option (St)} (hk76 : ∀ (x1 : Int32) (S : St) (out : St), k76 x1 S = some out → Rn yX5_followAhead cX5_followAhead 3 none (k_rm 1) 0 0 D dy S (k_Pv dy out) 76 [(0, .ref (D.2.2 41)), (1, .int x1)] []) : ∀ (n : Nat) (x1 : Int32) (x2 : Int32) (S : St) (out : St), f_X5_followAhead_84 k76 n x1 x2 S = some out → Rn yX5_followAhead cX5_followAhead 3 none (k_rm 1) 0 0 D dy S (k_Pv dy out) 84 [(0, .ref (D.2.2 41)), (1, .int x1), (2, .int x2)] [] := by
  intro n
  induction n with
  | zero => intro x1 x2 S out h; cases h
  | succ n ih =>
    intro x1 x2 S out h
    rw [f_X5_followAhead_84] at h
    refine r_iload_n 2 dX5_followAhead_84 rfl rfl ?_
    refine r_bipush (v := 10) dX5_followAhead_85 rfl ?_
    refine r_icmp_ge (t := 124) dX5_followAhead_87 (by decide) (fun c => ?_) (fun c => ?_)
    · rw [if_pos c] at h
      refine r_iinc (q := 1) (v := x1 + (1 : Int32)) dX5_followAhead_124 rfl rfl (by decide) rfl ?_
      refine r_goto (t := 76) dX5_followAhead_127 (by decide) ?_
      refine r_sub [1, 0] rfl ?_
      exact hk76 _ _ _ h
    · rw [if_neg c] at h
      refine r_aload_n 0 dX5_followAhead_90 rfl rfl ?_
      refine gf_41_1 q_547 dX5_followAhead_91 ?_
      refine r_iload_n 2 dX5_followAhead_94 rfl rfl ?_
      obtain ⟨c1, h⟩ := g_ite h
      refine al_42 (k_b_in c1) dX5_followAhead_95 ?_
      refine r_iload_n 1 dX5_followAhead_96 rfl rfl ?_
      refine r_ishr dX5_followAhead_97 ?_
      refine r_iconst (v := 1) dX5_followAhead_98 rfl ?_
      refine r_iand dX5_followAhead_99 ?_
      refine r_if_eq (t := 118) dX5_followAhead_100 (by decide) (fun c => ?_) (fun c => ?_)
      · rw [if_pos c] at h
        exact w_X5_followAhead_118 ih _ _ _ _ h
      · rw [if_neg c] at h
        refine r_aload_n 0 dX5_followAhead_103 rfl rfl ?_
        refine gf_41_1 q_547 dX5_followAhead_104 ?_
        refine r_iload_n 2 dX5_followAhead_107 rfl rfl ?_
        refine r_dup2 dX5_followAhead_108 rfl rfl ?_
        obtain ⟨c2, h⟩ := g_ite h
        refine al_42 (k_b_in c2) dX5_followAhead_109 ?_
        refine r_aload_n 0 dX5_followAhead_110 rfl rfl ?_
        refine gf_41_1 q_547 dX5_followAhead_111 ?_
        refine r_iload_n 1 dX5_followAhead_114 rfl rfl ?_
        obtain ⟨c3, h⟩ := g_ite h
        refine al_42 (k_b_in c3) dX5_followAhead_115 ?_
        refine r_ior dX5_followAhead_116 ?_
        obtain ⟨c4, h⟩ := g_ite h
        refine as_42 (k_b_in c4) dX5_followAhead_117 ?_
        generalize sA S 42 x2.toNatClampNeg ((gA S 42 x2.toNatClampNeg) ||| (gA S 42 x1.toNatClampNeg)) = S5 at h ⊢
        replace h := g_let h
        exact w_X5_followAhead_118 ih _ _ _ _ h
set_option maxRecDepth 100000 in
set_option maxHeartbeats 4000000 in
theorem w_X5_followAhead_76 {D : k_D} {dy : Nat → Nat} : ∀ (n : Nat) (x1 : Int32) (S : St) (out : St), f_X5_followAhead_76 n x1 S = some out → Rn yX5_followAhead cX5_followAhead 3 none (k_rm 1) 0 0 D dy S (k_Pv dy out) 76 [(0, .ref (D.2.2 41)), (1, .int x1)] [] := by
  intro n
  induction n with
  | zero => intro x1 S out h; cases h
  | succ n ih =>
    intro x1 S out h
    rw [f_X5_followAhead_76] at h
    refine r_iload_n 1 dX5_followAhead_76 rfl rfl ?_
    refine r_bipush (v := 10) dX5_followAhead_77 rfl ?_
    refine r_icmp_ge (t := 130) dX5_followAhead_79 (by decide) (fun c => ?_) (fun c => ?_)
    · rw [if_pos c] at h
      exact r_vret rfl dX5_followAhead_130 ⟨rfl, rfl, Option.some.inj h⟩
    · rw [if_neg c] at h
      refine r_iconst (v := 0) dX5_followAhead_82 rfl ?_
      refine r_istore_n dX5_followAhead_83 rfl (by decide) rfl ?_
      refine r_sub [1, 2, 0] rfl ?_
      exact w_X5_followAhead_84 ih _ _ _ _ _ h
set_option maxRecDepth 100000 in
set_option maxHeartbeats 4000000 in
theorem w_X5_followAhead_74 {D : k_D} {dy : Nat → Nat} (S : St) (out : St) (h : f_X5_followAhead_74 S = some out) : Rn yX5_followAhead cX5_followAhead 3 none (k_rm 1) 0 0 D dy S (k_Pv dy out) 74 [(0, .ref (D.2.2 41))] [] := by
    unfold f_X5_followAhead_74 at h
    refine r_iconst (v := 0) dX5_followAhead_74 rfl ?_
    refine r_istore_n dX5_followAhead_75 rfl (by decide) rfl ?_
    refine r_sub [1, 0] rfl ?_
    exact w_X5_followAhead_76 _ _ _ _ h
set_option maxRecDepth 100000 in
set_option maxHeartbeats 4000000 in
theorem w_X5_followAhead_68 {D : k_D} {dy : Nat → Nat} {k10 : Int32 → St → Option (St)} (hk10 : ∀ (x1 : Int32) (S : St) (out : St), k10 x1 S = some out → Rn yX5_followAhead cX5_followAhead 3 none (k_rm 1) 0 0 D dy S (k_Pv dy out) 10 [(0, .ref (D.2.2 41)), (1, .int x1)] []) (x1 : Int32) (S : St) (out : St) (h : f_X5_followAhead_68 k10 x1 S = some out) : Rn yX5_followAhead cX5_followAhead 3 none (k_rm 1) 0 0 D dy S (k_Pv dy out) 68 [(0, .ref (D.2.2 41)), (1, .int x1)] [] := by
    unfold f_X5_followAhead_68 at h
    refine r_iinc (q := 1) (v := x1 + (1 : Int32)) dX5_followAhead_68 rfl rfl (by decide) rfl ?_
    refine r_goto (t := 10) dX5_followAhead_71 (by decide) ?_
    refine r_sub [1, 0] rfl ?_
    exact hk10 _ _ _ h
set_option maxRecDepth 100000 in
set_option maxHeartbeats 4000000 in
theorem w_X5_followAhead_10 {D : k_D} {dy : Nat → Nat} : ∀ (n : Nat) (x1 : Int32) (S : St) (out : St), f_X5_followAhead_10 n x1 S = some out → Rn yX5_followAhead cX5_followAhead 3 none (k_rm 1) 0 0 D dy S (k_Pv dy out) 10 [(0, .ref (D.2.2 41)), (1, .int x1)] [] := by
  intro n
  induction n with
  | zero => intro x1 S out h; cases h
  | succ n ih =>
    intro x1 S out h
    rw [f_X5_followAhead_10] at h
    refine r_iload_n 1 dX5_followAhead_10 rfl rfl ?_
    refine r_aload_n 0 dX5_followAhead_11 rfl rfl ?_
    refine gf_41_0 q_546 dX5_followAhead_12 ?_
    refine gfN_0_15 q_276 dX5_followAhead_15 ?_
    refine r_icmp_ge (t := 74) dX5_followAhead_18 (by decide) (fun c => ?_) (fun c => ?_)
    · rw [if_pos c] at h
      refine r_sub [0] rfl ?_
      exact w_X5_followAhead_74 _ _ h
    · rw [if_neg c] at h
      refine r_iload_n 1 dX5_followAhead_21 rfl rfl ?_
      refine r_bipush (v := 12) dX5_followAhead_22 rfl ?_
      refine r_icmp_ge (t := 74) dX5_followAhead_24 (by decide) (fun c => ?_) (fun c => ?_)
      · rw [if_pos c] at h
        refine r_sub [0] rfl ?_
        exact w_X5_followAhead_74 _ _ h
      · rw [if_neg c] at h
        refine r_aload_n 0 dX5_followAhead_27 rfl rfl ?_
        refine gf_41_0 q_546 dX5_followAhead_28 ?_
        refine gfN_0_14 q_274 dX5_followAhead_31 ?_
        refine r_iload_n 1 dX5_followAhead_34 rfl rfl ?_
        obtain ⟨c1, h⟩ := g_ite h
        refine al_14 (k_b_in c1) dX5_followAhead_35 ?_
        refine r_istore_n dX5_followAhead_36 rfl (by decide) rfl ?_
        refine r_aload_n 1 dX5_followAhead_37 rfl rfl ?_
        refine gf_41_0 q_546 dX5_followAhead_38 ?_
        refine r_iload_n 0 dX5_followAhead_41 rfl rfl ?_
        obtain ⟨q42, hq42, h⟩ := g_bind h
        refine r_callVNi [.int (gA S 14 x1.toNatClampNeg)] [] q42 (ok_X10_hasDance hq42) q_1210 q_1187 q_73 q_1188 q_142 hd_X10_hasDance (ce_0 D dy _) kc10.1 rfl ⟨Nat.le_of_ble_eq_true rfl, Nat.le_of_ble_eq_true rfl⟩ rfl rfl (Nat.le_of_ble_eq_true rfl) dX5_followAhead_42 ?_
        refine r_if_eq (t := 68) dX5_followAhead_45 (by decide) (fun c => ?_) (fun c => ?_)
        · rw [if_pos c] at h
          refine r_sub [1, 2] rfl ?_
          exact w_X5_followAhead_68 ih _ _ _ h
        · rw [if_neg c] at h
          refine r_aload_n 1 dX5_followAhead_48 rfl rfl ?_
          refine gf_41_1 q_547 dX5_followAhead_49 ?_
          refine r_iload_n 0 dX5_followAhead_52 rfl rfl ?_
          refine r_dup2 dX5_followAhead_53 rfl rfl ?_
          obtain ⟨c2, h⟩ := g_ite h
          refine al_42 (k_b_in c2) dX5_followAhead_54 ?_
          refine r_iconst (v := 1) dX5_followAhead_55 rfl ?_
          refine r_aload_n 1 dX5_followAhead_56 rfl rfl ?_
          refine gf_41_0 q_546 dX5_followAhead_57 ?_
          refine gfN_0_13 q_272 dX5_followAhead_60 ?_
          refine r_iload_n 2 dX5_followAhead_63 rfl rfl ?_
          obtain ⟨c3, h⟩ := g_ite h
          refine al_13 (k_b_in c3) dX5_followAhead_64 ?_
          refine r_ishl dX5_followAhead_65 ?_
          refine r_ior dX5_followAhead_66 ?_
          obtain ⟨c4, h⟩ := g_ite h
          refine as_42 (k_b_in c4) dX5_followAhead_67 ?_
          generalize sA q42.2 42 (gA S 14 x1.toNatClampNeg).toNatClampNeg ((gA q42.2 42 (gA S 14 x1.toNatClampNeg).toNatClampNeg) ||| ((1 : Int32) <<< ((gA q42.2 13 x1.toNatClampNeg) &&& 31))) = S5 at h ⊢
          replace h := g_let h
          refine r_sub [1, 2] rfl ?_
          exact w_X5_followAhead_68 ih _ _ _ h
set_option maxRecDepth 100000 in
set_option maxHeartbeats 4000000 in
theorem w_X5_followAhead_0 {D : k_D} {dy : Nat → Nat} (S : St) (out : St) (h : f_X5_followAhead S = some out) : Rn yX5_followAhead cX5_followAhead 3 none (k_rm 1) 0 0 D dy S (k_Pv dy out) 0 [(0, .ref (D.2.2 41))] [] := by
    unfold f_X5_followAhead at h
    refine r_aload_n 0 dX5_followAhead_0 rfl rfl ?_
    refine gf_41_1 q_547 dX5_followAhead_1 ?_
    refine r_iconst (v := 0) dX5_followAhead_4 rfl ?_
    obtain ⟨q5, hq5, h⟩ := g_bind h
    refine r_callSv [.ref (D.2.2 42), .int (0 : Int32)] [] q5 (ok_J7_fill_53178_a42 hq5) q_1209 q_692 q_693 q_154 hd_J7_fill_53178 ⟨Nat.le_of_ble_eq_true rfl, Nat.le_of_ble_eq_true rfl⟩ rfl rfl (Nat.le_of_ble_eq_true rfl) dX5_followAhead_5 ?_
    refine r_iconst (v := 0) dX5_followAhead_8 rfl ?_
    refine r_istore_n dX5_followAhead_9 rfl (by decide) rfl ?_
    refine r_sub [1, 0] rfl ?_
    exact w_X5_followAhead_10 _ _ _ _ h
theorem ok_X5_followAhead {D : k_D} {dy : Nat → Nat} {S : St} {out : St} (h : f_X5_followAhead S = some out) : Sp yX5_followAhead cX5_followAhead 3 none (k_rm 1) D dy S [.ref (D.2.2 41)] (k_Pv dy out) := Sp.of (by decide +kernel) (Nat.le_of_ble_eq_true rfl) (w_X5_followAhead_0 S out h)
