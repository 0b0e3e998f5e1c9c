noncomputable def f_X12_law_180 : Nat → Int32 → Int32 → St → Option (Int32 × St)
  | 0, _, _, _ => none
  | n + 1, x1, x2, S => if (gI S 43) ≤ x2 then if k_b (2 : Int32) 5560 = true then if k_b (2 : Int32) 5560 = true then k_let (sA S 53 (2 : Int32).toNatClampNeg ((gA S 53 (2 : Int32).toNatClampNeg) + (1 : Int32))) fun S3 => if k_b (2 : Int32) 5560 = true then (f_X12_tell ((gA S3 53 (2 : Int32).toNatClampNeg) - (1 : Int32)) S3).bind fun q253 => some (q253.1, q253.2) else none else none else none else if k_b x2 400 = true then if k_b ((x1 + (98 : Int32)) + ((2 : Int32) * x2)) 5560 = true then k_let (sA S 53 ((x1 + (98 : Int32)) + ((2 : Int32) * x2)).toNatClampNeg (gA S 58 x2.toNatClampNeg)) fun S7 => if k_b x2 400 = true then if k_b (((x1 + (98 : Int32)) + ((2 : Int32) * x2)) + (1 : Int32)) 5560 = true then k_let (sA S7 53 (((x1 + (98 : Int32)) + ((2 : Int32) * x2)) + (1 : Int32)).toNatClampNeg (gA S7 59 x2.toNatClampNeg)) fun S10 => f_X12_law_180 n x1 (x2 + (1 : Int32)) S10 else none else none else none else none
noncomputable def f_X12_law_145 : Nat → Int32 → Int32 → St → Option (Int32 × St)
  | 0, _, _, _ => none
  | n + 1, x1, x2, S => if ((8 : Int32) * (gI S 42)) ≤ x2 then f_X12_law_180 FU x1 (0 : Int32) S else if k_b x2 96 = true then if k_b ((x1 + (2 : Int32)) + x2) 5560 = true then k_let (sA S 53 ((x1 + (2 : Int32)) + x2).toNatClampNeg (gA S 57 x2.toNatClampNeg)) fun S3 => f_X12_law_145 n x1 (x2 + (1 : Int32)) S3 else none else none
noncomputable def f_X12_law_97 (S : St) : Option (Int32 × St) := k_let (sI S 36 (0 : Int32)) fun S1 => if (gI S1 41) = 0 then if k_b (2 : Int32) 5560 = true then if k_b (((160 : Int32) + ((900 : Int32) * (gA S1 53 (2 : Int32).toNatClampNeg))) + (1 : Int32)) 5560 = true then k_let (sA S1 53 (((160 : Int32) + ((900 : Int32) * (gA S1 53 (2 : Int32).toNatClampNeg))) + (1 : Int32)).toNatClampNeg (gI S1 42)) fun S4 => f_X12_law_145 FU ((160 : Int32) + ((900 : Int32) * (gA S1 53 (2 : Int32).toNatClampNeg))) (0 : Int32) S4 else none else none else (f_X12_tell (-6 : Int32) S1).bind fun q112 => some (q112.1, q112.2)
noncomputable def f_X12_law_78 (S : St) : Option (Int32 × St) := if (gI S 41) = 0 then if (gI S 39) = 0 then f_X12_law_97 S else (f_X12_must (0 : Int32) S).bind fun q94 => f_X12_law_97 q94 else f_X12_law_97 S
noncomputable def f_X12_law_51 : Nat → St → Option (Int32 × St)
  | 0, _ => none
  | n + 1, S => if (gI S 41) = 0 then (f_X12_isSign (59 : Int32) S).bind fun q61 => if q61.1 = 0 then f_X12_law_78 q61.2 else (f_X12_next q61.2).bind fun q68 => (f_X12_readClause q68).bind fun q72 => f_X12_law_51 n q72 else f_X12_law_78 S
noncomputable def f_X12_law (S : St) : Option (Int32 × St) := k_let (sI S 33 (0 : Int32)) fun S1 => if k_b (2 : Int32) 5560 = true then if (gA S1 53 (2 : Int32).toNatClampNeg) = (6 : Int32) then k_let (sI S1 36 (0 : Int32)) fun S6 => (f_X12_tell (-5 : Int32) S6).bind fun q24 => some (q24.1, q24.2) else (f_X12_begin S1).bind fun q29 => k_let (sI q29 42 (0 : Int32)) fun S3 => k_let (sI S3 43 (0 : Int32)) fun S4 => k_let (sI S4 44 (0 : Int32)) fun S5 => (f_X12_readClause S5).bind fun q48 => f_X12_law_51 FU q48 else none
set_option maxRecDepth 100000 in
set_option maxHeartbeats 4000000 in
theorem w_X12_law_180 {D : k_D} {dy : Nat → Nat} : ∀ (n : Nat) (x1 : Int32) (x2 : Int32) (S : St) (out : Int32 × St), f_X12_law_180 n x1 x2 S = some out → Rn yX12_law cX12_law 3 (some .int) (k_rm 8) 0 0 D dy S (k_Pi dy out) 180 [(0, .ref (D.2.2 51)), (1, .int x1), (2, .int x2)] [] := by
  intro n
  induction n with
  | zero => intro x1 x2 S out h; cases h
  | succ n ih =>
    intro x1 x2 S out h
    rw [f_X12_law_180] at h
    refine r_iload_n 2 dX12_law_180 rfl rfl ?_
    refine r_aload_n 0 dX12_law_181 rfl rfl ?_
    refine gf_51_17 q_1328 dX12_law_182 ?_
    refine r_icmp_ge (t := 234) dX12_law_185 (by decide) (fun c => ?_) (fun c => ?_)
    · rw [if_pos c] at h
      refine r_aload_n 0 dX12_law_234 rfl rfl ?_
      refine gf_51_3 q_1314 dX12_law_235 ?_
      refine r_iconst (v := 2) dX12_law_238 rfl ?_
      refine r_dup2 dX12_law_239 rfl rfl ?_
      obtain ⟨c1, h⟩ := g_ite h
      refine al_53 (k_b_in c1) dX12_law_240 ?_
      refine r_iconst (v := 1) dX12_law_241 rfl ?_
      refine r_iadd dX12_law_242 ?_
      obtain ⟨c2, h⟩ := g_ite h
      refine as_53 (k_b_in c2) dX12_law_243 ?_
      generalize sA S 53 (2 : Int32).toNatClampNeg ((gA S 53 (2 : Int32).toNatClampNeg) + (1 : Int32)) = S3 at h ⊢
      replace h := g_let h
      refine r_aload_n 0 dX12_law_244 rfl rfl ?_
      refine r_aload_n 0 dX12_law_245 rfl rfl ?_
      refine gf_51_3 q_1314 dX12_law_246 ?_
      refine r_iconst (v := 2) dX12_law_249 rfl ?_
      obtain ⟨c4, h⟩ := g_ite h
      refine al_53 (k_b_in c4) dX12_law_250 ?_
      refine r_iconst (v := 1) dX12_law_251 rfl ?_
      refine r_isub dX12_law_252 ?_
      obtain ⟨q253, hq253, h⟩ := g_bind h
      refine r_callVi [.int ((gA S3 53 (2 : Int32).toNatClampNeg) - (1 : Int32))] [] q253 (ok_X12_tell hq253) q_1484 q_1486 q_89 q_1487 q_153 hd_X12_tell (ce_51 D dy _) kc12.1 rfl ⟨Nat.le_of_ble_eq_true rfl, Nat.le_of_ble_eq_true rfl⟩ rfl rfl (Nat.le_of_ble_eq_true rfl) dX12_law_253 ?_
      cases h
      exact r_iret rfl dX12_law_256 ⟨rfl, rfl, rfl⟩
    · rw [if_neg c] at h
      refine r_aload_n 0 dX12_law_188 rfl rfl ?_
      refine gf_51_3 q_1314 dX12_law_189 ?_
      refine r_iload_n 1 dX12_law_192 rfl rfl ?_
      refine r_bipush (v := 98) dX12_law_193 rfl ?_
      refine r_iadd dX12_law_195 ?_
      refine r_iconst (v := 2) dX12_law_196 rfl ?_
      refine r_iload_n 2 dX12_law_197 rfl rfl ?_
      refine r_imul dX12_law_198 ?_
      refine r_iadd dX12_law_199 ?_
      refine r_aload_n 0 dX12_law_200 rfl rfl ?_
      refine gf_51_18 q_1329 dX12_law_201 ?_
      refine r_iload_n 2 dX12_law_204 rfl rfl ?_
      obtain ⟨c5, h⟩ := g_ite h
      refine al_58 (k_b_in c5) dX12_law_205 ?_
      obtain ⟨c6, h⟩ := g_ite h
      refine as_53 (k_b_in c6) dX12_law_206 ?_
      generalize sA S 53 ((x1 + (98 : Int32)) + ((2 : Int32) * x2)).toNatClampNeg (gA S 58 x2.toNatClampNeg) = S7 at h ⊢
      replace h := g_let h
      refine r_aload_n 0 dX12_law_207 rfl rfl ?_
      refine gf_51_3 q_1314 dX12_law_208 ?_
      refine r_iload_n 1 dX12_law_211 rfl rfl ?_
      refine r_bipush (v := 98) dX12_law_212 rfl ?_
      refine r_iadd dX12_law_214 ?_
      refine r_iconst (v := 2) dX12_law_215 rfl ?_
      refine r_iload_n 2 dX12_law_216 rfl rfl ?_
      refine r_imul dX12_law_217 ?_
      refine r_iadd dX12_law_218 ?_
      refine r_iconst (v := 1) dX12_law_219 rfl ?_
      refine r_iadd dX12_law_220 ?_
      refine r_aload_n 0 dX12_law_221 rfl rfl ?_
      refine gf_51_19 q_1330 dX12_law_222 ?_
      refine r_iload_n 2 dX12_law_225 rfl rfl ?_
      obtain ⟨c8, h⟩ := g_ite h
      refine al_59 (k_b_in c8) dX12_law_226 ?_
      obtain ⟨c9, h⟩ := g_ite h
      refine as_53 (k_b_in c9) dX12_law_227 ?_
      generalize sA S7 53 (((x1 + (98 : Int32)) + ((2 : Int32) * x2)) + (1 : Int32)).toNatClampNeg (gA S7 59 x2.toNatClampNeg) = S10 at h ⊢
      replace h := g_let h
      refine r_iinc (q := 2) (v := x2 + (1 : Int32)) dX12_law_228 rfl rfl (by decide) rfl ?_
      refine r_goto (t := 180) dX12_law_231 (by decide) ?_
      refine r_sub [1, 2, 0] rfl ?_
      exact ih _ _ _ _ h
set_option maxRecDepth 100000 in
set_option maxHeartbeats 4000000 in
theorem w_X12_law_145 {D : k_D} {dy : Nat → Nat} : ∀ (n : Nat) (x1 : Int32) (x2 : Int32) (S : St) (out : Int32 × St), f_X12_law_145 n x1 x2 S = some out → Rn yX12_law cX12_law 3 (some .int) (k_rm 8) 0 0 D dy S (k_Pi dy out) 145 [(0, .ref (D.2.2 51)), (1, .int x1), (2, .int x2)] [] := by
  intro n
  induction n with
  | zero => intro x1 x2 S out h; cases h
  | succ n ih =>
    intro x1 x2 S out h
    rw [f_X12_law_145] at h
    refine r_iload_n 2 dX12_law_145 rfl rfl ?_
    refine r_bipush (v := 8) dX12_law_146 rfl ?_
    refine r_aload_n 0 dX12_law_148 rfl rfl ?_
    refine gf_51_15 q_1326 dX12_law_149 ?_
    refine r_imul dX12_law_152 ?_
    refine r_icmp_ge (t := 178) dX12_law_153 (by decide) (fun c => ?_) (fun c => ?_)
    · rw [if_pos c] at h
      refine r_iconst (v := 0) dX12_law_178 rfl ?_
      refine r_istore_n dX12_law_179 rfl (by decide) rfl ?_
      refine r_sub [1, 2, 0] rfl ?_
      exact w_X12_law_180 _ _ _ _ _ h
    · rw [if_neg c] at h
      refine r_aload_n 0 dX12_law_156 rfl rfl ?_
      refine gf_51_3 q_1314 dX12_law_157 ?_
      refine r_iload_n 1 dX12_law_160 rfl rfl ?_
      refine r_iconst (v := 2) dX12_law_161 rfl ?_
      refine r_iadd dX12_law_162 ?_
      refine r_iload_n 2 dX12_law_163 rfl rfl ?_
      refine r_iadd dX12_law_164 ?_
      refine r_aload_n 0 dX12_law_165 rfl rfl ?_
      refine gf_51_16 q_1327 dX12_law_166 ?_
      refine r_iload_n 2 dX12_law_169 rfl rfl ?_
      obtain ⟨c1, h⟩ := g_ite h
      refine al_57 (k_b_in c1) dX12_law_170 ?_
      obtain ⟨c2, h⟩ := g_ite h
      refine as_53 (k_b_in c2) dX12_law_171 ?_
      generalize sA S 53 ((x1 + (2 : Int32)) + x2).toNatClampNeg (gA S 57 x2.toNatClampNeg) = S3 at h ⊢
      replace h := g_let h
      refine r_iinc (q := 2) (v := x2 + (1 : Int32)) dX12_law_172 rfl rfl (by decide) rfl ?_
      refine r_goto (t := 145) dX12_law_175 (by decide) ?_
      refine r_sub [1, 2, 0] rfl ?_
      exact ih _ _ _ _ h
set_option maxRecDepth 100000 in
set_option maxHeartbeats 4000000 in
theorem w_X12_law_97 {D : k_D} {dy : Nat → Nat} (S : St) (out : Int32 × St) (h : f_X12_law_97 S = some out) : Rn yX12_law cX12_law 3 (some .int) (k_rm 8) 0 0 D dy S (k_Pi dy out) 97 [(0, .ref (D.2.2 51))] [] := by
    unfold f_X12_law_97 at h
    refine r_aload_n 0 dX12_law_97 rfl rfl ?_
    refine r_iconst (v := 0) dX12_law_98 rfl ?_
    refine pf_51_8 q_1319 dX12_law_99 ?_
    generalize sI S 36 (0 : Int32) = S1 at h ⊢
    replace h := g_let h
    refine r_aload_n 0 dX12_law_102 rfl rfl ?_
    refine gf_51_14 q_1325 dX12_law_103 ?_
    refine r_if_eq (t := 116) dX12_law_106 (by decide) (fun c => ?_) (fun c => ?_)
    · rw [if_pos c] at h
      refine r_sipush (v := 160) dX12_law_116 rfl ?_
      refine r_sipush (v := 900) dX12_law_119 rfl ?_
      refine r_aload_n 0 dX12_law_122 rfl rfl ?_
      refine gf_51_3 q_1314 dX12_law_123 ?_
      refine r_iconst (v := 2) dX12_law_126 rfl ?_
      obtain ⟨c2, h⟩ := g_ite h
      refine al_53 (k_b_in c2) dX12_law_127 ?_
      refine r_imul dX12_law_128 ?_
      refine r_iadd dX12_law_129 ?_
      refine r_istore_n dX12_law_130 rfl (by decide) rfl ?_
      refine r_aload_n 1 dX12_law_131 rfl rfl ?_
      refine gf_51_3 q_1314 dX12_law_132 ?_
      refine r_iload_n 0 dX12_law_135 rfl rfl ?_
      refine r_iconst (v := 1) dX12_law_136 rfl ?_
      refine r_iadd dX12_law_137 ?_
      refine r_aload_n 1 dX12_law_138 rfl rfl ?_
      refine gf_51_15 q_1326 dX12_law_139 ?_
      obtain ⟨c3, h⟩ := g_ite h
      refine as_53 (k_b_in c3) dX12_law_142 ?_
      generalize sA S1 53 (((160 : Int32) + ((900 : Int32) * (gA S1 53 (2 : Int32).toNatClampNeg))) + (1 : Int32)).toNatClampNeg (gI S1 42) = S4 at h ⊢
      replace h := g_let h
      refine r_iconst (v := 0) dX12_law_143 rfl ?_
      refine r_istore_n dX12_law_144 rfl (by decide) rfl ?_
      refine r_sub [2, 1, 0] rfl ?_
      exact w_X12_law_145 _ _ _ _ _ h
    · rw [if_neg c] at h
      refine r_aload_n 0 dX12_law_109 rfl rfl ?_
      refine r_bipush (v := -6) dX12_law_110 rfl ?_
      obtain ⟨q112, hq112, h⟩ := g_bind h
      refine r_callVi [.int (-6 : Int32)] [] q112 (ok_X12_tell hq112) q_1484 q_1486 q_89 q_1487 q_153 hd_X12_tell (ce_51 D dy _) kc12.1 rfl ⟨Nat.le_of_ble_eq_true rfl, Nat.le_of_ble_eq_true rfl⟩ rfl rfl (Nat.le_of_ble_eq_true rfl) dX12_law_112 ?_
      cases h
      exact r_iret rfl dX12_law_115 ⟨rfl, rfl, rfl⟩
set_option maxRecDepth 100000 in
set_option maxHeartbeats 4000000 in
theorem w_X12_law_78 {D : k_D} {dy : Nat → Nat} (S : St) (out : Int32 × St) (h : f_X12_law_78 S = some out) : Rn yX12_law cX12_law 3 (some .int) (k_rm 8) 0 0 D dy S (k_Pi dy out) 78 [(0, .ref (D.2.2 51))] [] := by
    unfold f_X12_law_78 at h
    refine r_aload_n 0 dX12_law_78 rfl rfl ?_
    refine gf_51_14 q_1325 dX12_law_79 ?_
    refine r_if_ne (t := 97) dX12_law_82 (by decide) (fun c => ?_) (fun c => ?_)
    · rw [if_neg c] at h
      exact w_X12_law_97 _ _ h
    · rw [if_pos c] at h
      refine r_aload_n 0 dX12_law_85 rfl rfl ?_
      refine gf_51_11 q_1322 dX12_law_86 ?_
      refine r_if_eq (t := 97) dX12_law_89 (by decide) (fun c => ?_) (fun c => ?_)
      · rw [if_pos c] at h
        exact w_X12_law_97 _ _ h
      · rw [if_neg c] at h
        refine r_aload_n 0 dX12_law_92 rfl rfl ?_
        refine r_iconst (v := 0) dX12_law_93 rfl ?_
        obtain ⟨q94, hq94, h⟩ := g_bind h
        refine r_callVv [.int (0 : Int32)] [] q94 (ok_X12_must hq94) q_1640 q_1642 q_108 q_1643 q_153 hd_X12_must (ce_51 D dy _) kc12.1 rfl ⟨Nat.le_of_ble_eq_true rfl, Nat.le_of_ble_eq_true rfl⟩ rfl rfl (Nat.le_of_ble_eq_true rfl) dX12_law_94 ?_
        exact w_X12_law_97 _ _ h
set_option maxRecDepth 100000 in
set_option maxHeartbeats 4000000 in
theorem w_X12_law_51 {D : k_D} {dy : Nat → Nat} : ∀ (n : Nat) (S : St) (out : Int32 × St), f_X12_law_51 n S = some out → Rn yX12_law cX12_law 3 (some .int) (k_rm 8) 0 0 D dy S (k_Pi dy out) 51 [(0, .ref (D.2.2 51))] [] := by
  intro n
  induction n with
  | zero => intro S out h; cases h
  | succ n ih =>
    intro S out h
    rw [f_X12_law_51] at h
    refine r_aload_n 0 dX12_law_51 rfl rfl ?_
    refine gf_51_14 q_1325 dX12_law_52 ?_
    refine r_if_ne (t := 78) dX12_law_55 (by decide) (fun c => ?_) (fun c => ?_)
    · rw [if_neg c] at h
      exact w_X12_law_78 _ _ h
    · rw [if_pos c] at h
      refine r_aload_n 0 dX12_law_58 rfl rfl ?_
      refine r_bipush (v := 59) dX12_law_59 rfl ?_
      obtain ⟨q61, hq61, h⟩ := g_bind h
      refine r_callVi [.int (59 : Int32)] [] q61 (ok_X12_isSign hq61) q_1657 q_1659 q_112 q_1660 q_153 hd_X12_isSign (ce_51 D dy _) kc12.1 rfl ⟨Nat.le_of_ble_eq_true rfl, Nat.le_of_ble_eq_true rfl⟩ rfl rfl (Nat.le_of_ble_eq_true rfl) dX12_law_61 ?_
      refine r_if_eq (t := 78) dX12_law_64 (by decide) (fun c => ?_) (fun c => ?_)
      · rw [if_pos c] at h
        exact w_X12_law_78 _ _ h
      · rw [if_neg c] at h
        refine r_aload_n 0 dX12_law_67 rfl rfl ?_
        obtain ⟨q68, hq68, h⟩ := g_bind h
        refine r_callVv [] [] q68 (ok_X12_next hq68) q_1616 q_1618 q_105 q_1619 q_153 hd_X12_next (ce_51 D dy _) kc12.1 rfl ⟨Nat.le_of_ble_eq_true rfl, Nat.le_of_ble_eq_true rfl⟩ rfl rfl (Nat.le_of_ble_eq_true rfl) dX12_law_68 ?_
        refine r_aload_n 0 dX12_law_71 rfl rfl ?_
        obtain ⟨q72, hq72, h⟩ := g_bind h
        refine r_callVv [] [] q72 (ok_X12_readClause hq72) q_1632 q_1634 q_106 q_1635 q_153 hd_X12_readClause (ce_51 D dy _) kc12.1 rfl ⟨Nat.le_of_ble_eq_true rfl, Nat.le_of_ble_eq_true rfl⟩ rfl rfl (Nat.le_of_ble_eq_true rfl) dX12_law_72 ?_
        refine r_goto (t := 51) dX12_law_75 (by decide) ?_
        exact ih _ _ h
set_option maxRecDepth 100000 in
set_option maxHeartbeats 4000000 in
theorem w_X12_law_0 {D : k_D} {dy : Nat → Nat} (S : St) (out : Int32 × St) (h : f_X12_law S = some out) : Rn yX12_law cX12_law 3 (some .int) (k_rm 8) 0 0 D dy S (k_Pi dy out) 0 [(0, .ref (D.2.2 51))] [] := by
    unfold f_X12_law at h
    refine r_aload_n 0 dX12_law_0 rfl rfl ?_
    refine r_iconst (v := 0) dX12_law_1 rfl ?_
    refine pf_51_0 q_1311 dX12_law_2 ?_
    generalize sI S 33 (0 : Int32) = S1 at h ⊢
    replace h := g_let h
    refine r_aload_n 0 dX12_law_5 rfl rfl ?_
    refine gf_51_3 q_1314 dX12_law_6 ?_
    refine r_iconst (v := 2) dX12_law_9 rfl ?_
    obtain ⟨c2, h⟩ := g_ite h
    refine al_53 (k_b_in c2) dX12_law_10 ?_
    refine r_bipush (v := 6) dX12_law_11 rfl ?_
    refine r_icmp_ne (t := 28) dX12_law_13 (by decide) (fun c => ?_) (fun c => ?_)
    · rw [if_neg c] at h
      refine r_aload_n 0 dX12_law_28 rfl rfl ?_
      obtain ⟨q29, hq29, h⟩ := g_bind h
      refine r_callVv [] [] q29 (ok_X12_begin hq29) q_1612 q_1614 q_104 q_1615 q_153 hd_X12_begin (ce_51 D dy _) kc12.1 rfl ⟨Nat.le_of_ble_eq_true rfl, Nat.le_of_ble_eq_true rfl⟩ rfl rfl (Nat.le_of_ble_eq_true rfl) dX12_law_29 ?_
      refine r_aload_n 0 dX12_law_32 rfl rfl ?_
      refine r_iconst (v := 0) dX12_law_33 rfl ?_
      refine pf_51_15 q_1326 dX12_law_34 ?_
      generalize sI q29 42 (0 : Int32) = S3 at h ⊢
      replace h := g_let h
      refine r_aload_n 0 dX12_law_37 rfl rfl ?_
      refine r_iconst (v := 0) dX12_law_38 rfl ?_
      refine pf_51_17 q_1328 dX12_law_39 ?_
      generalize sI S3 43 (0 : Int32) = S4 at h ⊢
      replace h := g_let h
      refine r_aload_n 0 dX12_law_42 rfl rfl ?_
      refine r_iconst (v := 0) dX12_law_43 rfl ?_
      refine pf_51_20 q_1331 dX12_law_44 ?_
      generalize sI S4 44 (0 : Int32) = S5 at h ⊢
      replace h := g_let h
      refine r_aload_n 0 dX12_law_47 rfl rfl ?_
      obtain ⟨q48, hq48, h⟩ := g_bind h
      refine r_callVv [] [] q48 (ok_X12_readClause hq48) q_1632 q_1634 q_106 q_1635 q_153 hd_X12_readClause (ce_51 D dy _) kc12.1 rfl ⟨Nat.le_of_ble_eq_true rfl, Nat.le_of_ble_eq_true rfl⟩ rfl rfl (Nat.le_of_ble_eq_true rfl) dX12_law_48 ?_
      exact w_X12_law_51 _ _ _ h
    · rw [if_pos c] at h
      refine r_aload_n 0 dX12_law_16 rfl rfl ?_
      refine r_iconst (v := 0) dX12_law_17 rfl ?_
      refine pf_51_8 q_1319 dX12_law_18 ?_
      generalize sI S1 36 (0 : Int32) = S6 at h ⊢
      replace h := g_let h
      refine r_aload_n 0 dX12_law_21 rfl rfl ?_
      refine r_bipush (v := -5) dX12_law_22 rfl ?_
      obtain ⟨q24, hq24, h⟩ := g_bind h
      refine r_callVi [.int (-5 : Int32)] [] q24 (ok_X12_tell hq24) q_1484 q_1486 q_89 q_1487 q_153 hd_X12_tell (ce_51 D dy _) kc12.1 rfl ⟨Nat.le_of_ble_eq_true rfl, Nat.le_of_ble_eq_true rfl⟩ rfl rfl (Nat.le_of_ble_eq_true rfl) dX12_law_24 ?_
      cases h
      exact r_iret rfl dX12_law_27 ⟨rfl, rfl, rfl⟩
theorem ok_X12_law {D : k_D} {dy : Nat → Nat} {S : St} {out : Int32 × St} (h : f_X12_law S = some out) : Sp yX12_law cX12_law 3 (some .int) (k_rm 8) D dy S [.ref (D.2.2 51)] (k_Pi dy out) := Sp.of (by decide +kernel) (Nat.le_of_ble_eq_true rfl) (w_X12_law_0 S out h)
noncomputable def f_X12_force_43 (s0 : Int32) (S : St) : Option (Int32 × St) := some (s0, S)
noncomputable def f_X12_force_28 (x1 : Int32) (S : St) : Option (Int32 × St) := (f_X12_change (3 : Int32) x1 S).bind fun q31 => f_X12_force_43 q31.1 q31.2
noncomputable def f_X12_force (x1 : Int32) (S : St) : Option (Int32 × St) := k_let (sI S 33 (0 : Int32)) fun S1 => if x1 = (-1 : Int32) then f_X12_force_28 x1 S1 else if k_b (2 : Int32) 5560 = true then (f_X12_in x1.toInt64 (0 : Int64) (((gA S1 53 (2 : Int32).toNatClampNeg).toInt64) - (1 : Int64)) S1).bind fun q22 => if q22.1 = 0 then (f_X12_tell (-2 : Int32) q22.2).bind fun q40 => f_X12_force_43 q40.1 q40.2 else f_X12_force_28 x1 q22.2 else none
set_option maxRecDepth 100000 in
set_option maxHeartbeats 4000000 in
theorem w_X12_force_43 {D : k_D} {dy : Nat → Nat} (s0 : Int32) (S : St) (out : Int32 × St) (h : f_X12_force_43 s0 S = some out) : Rn yX12_force cX12_force 2 (some .int) (k_rm 1) 0 0 D dy S (k_Pi dy out) 43 [] [.int s0] := by
    unfold f_X12_force_43 at h
    cases h
    exact r_iret rfl dX12_force_43 ⟨rfl, rfl, rfl⟩
set_option maxRecDepth 100000 in
set_option maxHeartbeats 4000000 in
theorem w_X12_force_28 {D : k_D} {dy : Nat → Nat} (x1 : Int32) (S : St) (out : Int32 × St) (h : f_X12_force_28 x1 S = some out) : Rn yX12_force cX12_force 2 (some .int) (k_rm 1) 0 0 D dy S (k_Pi dy out) 28 [(0, .ref (D.2.2 51)), (1, .int x1)] [] := by
    unfold f_X12_force_28 at h
    refine r_aload_n 0 dX12_force_28 rfl rfl ?_
    refine r_iconst (v := 3) dX12_force_29 rfl ?_
    refine r_iload_n 1 dX12_force_30 rfl rfl ?_
    obtain ⟨q31, hq31, h⟩ := g_bind h
    refine r_callVi [.int (3 : Int32), .int x1] [] q31 (ok_X12_change hq31) q_1580 q_1582 q_102 q_1583 q_153 hd_X12_change (ce_51 D dy _) kc12.1 rfl ⟨Nat.le_of_ble_eq_true rfl, Nat.le_of_ble_eq_true rfl⟩ rfl rfl (Nat.le_of_ble_eq_true rfl) dX12_force_31 ?_
    refine r_goto (t := 43) dX12_force_34 (by decide) ?_
    refine r_sub [] rfl ?_
    exact w_X12_force_43 _ _ _ h
set_option maxRecDepth 100000 in
set_option maxHeartbeats 4000000 in
theorem w_X12_force_0 {D : k_D} {dy : Nat → Nat} (x1 : Int32) (S : St) (out : Int32 × St) (h : f_X12_force x1 S = some out) : Rn yX12_force cX12_force 2 (some .int) (k_rm 1) 0 0 D dy S (k_Pi dy out) 0 [(0, .ref (D.2.2 51)), (1, .int x1)] [] := by
    unfold f_X12_force at h
    refine r_aload_n 0 dX12_force_0 rfl rfl ?_
    refine r_iconst (v := 0) dX12_force_1 rfl ?_
    refine pf_51_0 q_1311 dX12_force_2 ?_
    generalize sI S 33 (0 : Int32) = S1 at h ⊢
    replace h := g_let h
    refine r_iload_n 1 dX12_force_5 rfl rfl ?_
    refine r_iconst (v := -1) dX12_force_6 rfl ?_
    refine r_icmp_eq (t := 28) dX12_force_7 (by decide) (fun c => ?_) (fun c => ?_)
    · rw [if_pos c] at h
      exact w_X12_force_28 _ _ _ h
    · rw [if_neg c] at h
      refine r_iload_n 1 dX12_force_10 rfl rfl ?_
      refine r_i2l dX12_force_11 ?_
      refine r_lconst (v := 0) dX12_force_12 rfl ?_
      refine r_aload_n 0 dX12_force_13 rfl rfl ?_
      refine gf_51_3 q_1314 dX12_force_14 ?_
      refine r_iconst (v := 2) dX12_force_17 rfl ?_
      obtain ⟨c2, h⟩ := g_ite h
      refine al_53 (k_b_in c2) dX12_force_18 ?_
      refine r_i2l dX12_force_19 ?_
      refine r_lconst (v := 1) dX12_force_20 rfl ?_
      refine r_lsub dX12_force_21 ?_
      obtain ⟨q22, hq22, h⟩ := g_bind h
      refine r_callSi [.long x1.toInt64, .long (0 : Int64), .long (((gA S1 53 (2 : Int32).toNatClampNeg).toInt64) - (1 : Int64))] [] q22 (ok_X12_in hq22) q_1481 q_1482 q_1483 q_153 hd_X12_in ⟨Nat.le_of_ble_eq_true rfl, Nat.le_of_ble_eq_true rfl⟩ rfl rfl (Nat.le_of_ble_eq_true rfl) dX12_force_22 ?_
      refine r_if_eq (t := 37) dX12_force_25 (by decide) (fun c => ?_) (fun c => ?_)
      · rw [if_pos c] at h
        refine r_aload_n 0 dX12_force_37 rfl rfl ?_
        refine r_bipush (v := -2) dX12_force_38 rfl ?_
        obtain ⟨q40, hq40, h⟩ := g_bind h
        refine r_callVi [.int (-2 : Int32)] [] q40 (ok_X12_tell hq40) q_1484 q_1486 q_89 q_1487 q_153 hd_X12_tell (ce_51 D dy _) kc12.1 rfl ⟨Nat.le_of_ble_eq_true rfl, Nat.le_of_ble_eq_true rfl⟩ rfl rfl (Nat.le_of_ble_eq_true rfl) dX12_force_40 ?_
        refine r_sub [] rfl ?_
        exact w_X12_force_43 _ _ _ h
      · rw [if_neg c] at h
        exact w_X12_force_28 _ _ _ h
theorem ok_X12_force {D : k_D} {dy : Nat → Nat} {x1 : Int32} {S : St} {out : Int32 × St} (h : f_X12_force x1 S = some out) : Sp yX12_force cX12_force 2 (some .int) (k_rm 1) D dy S [.ref (D.2.2 51), .int x1] (k_Pi dy out) := Sp.of (by decide +kernel) (Nat.le_of_ble_eq_true rfl) (w_X12_force_0 _ S out h)
noncomputable def f_X12_balanceOf_73 (k4 : Int32 → Int32 → Int32 → St → Option (Int32 × St)) (x1 : Int32) (x3 : Int32) (s0 : Int32) (s1 : Int32) (S : St) : Option (Int32 × St) := k4 x1 (s0 + s1) (x3 + (1 : Int32)) S
noncomputable def f_X12_balanceOf_41 (k4 : Int32 → Int32 → Int32 → St → Option (Int32 × St)) (x1 : Int32) (x2 : Int32) (x3 : Int32) (s0 : Int32) (S : St) : Option (Int32 × St) := if k_b x3 16 = true then if (gA S 67 x3.toNatClampNeg) = 0 then (f_X12_ofDebt x3 (3 : Int32) S).bind fun q62 => if k_b x3 16 = true then f_X12_balanceOf_73 k4 x1 x3 x2 ((s0 * q62.1) * (gA q62.2 66 x3.toNatClampNeg)) q62.2 else none else f_X12_balanceOf_73 k4 x1 x3 x2 (0 : Int32) S else none
noncomputable def f_X12_balanceOf_4 : Nat → Int32 → Int32 → Int32 → St → Option (Int32 × St)
  | 0, _, _, _, _ => none
  | n + 1, x1, x2, x3, S => (f_X12_debts S).bind fun q6 => if q6.1 ≤ x3 then some (x2, q6.2) else (f_X12_ofDebt x3 (1 : Int32) q6.2).bind fun q15 => if q15.1 = x1 then f_X12_balanceOf_41 (f_X12_balanceOf_4 n) x1 x2 x3 (1 : Int32) q15.2 else (f_X12_ofDebt x3 (0 : Int32) q15.2).bind fun q29 => if q29.1 = x1 then f_X12_balanceOf_41 (f_X12_balanceOf_4 n) x1 x2 x3 (-1 : Int32) q29.2 else f_X12_balanceOf_41 (f_X12_balanceOf_4 n) x1 x2 x3 (0 : Int32) q29.2
noncomputable def f_X12_balanceOf (x1 : Int32) (S : St) : Option (Int32 × St) := f_X12_balanceOf_4 FU x1 (0 : Int32) (0 : Int32) S
set_option maxRecDepth 100000 in
set_option maxHeartbeats 4000000 in
theorem w_X12_balanceOf_73 {D : k_D} {dy : Nat → Nat} {k4 : Int32 → Int32 → Int32 → St → Option (Int32 × St)} (hk4 : ∀ (x1 : Int32) (x2 : Int32) (x3 : Int32) (S : St) (out : Int32 × St), k4 x1 x2 x3 S = some out → Rn yX12_balanceOf cX12_balanceOf 5 (some .int) (k_rm 1) 0 0 D dy S (k_Pi dy out) 4 [(0, .ref (D.2.2 51)), (1, .int x1), (2, .int x2), (3, .int x3)] []) (x1 : Int32) (x3 : Int32) (s0 : Int32) (s1 : Int32) (S : St) (out : Int32 × St) (h : f_X12_balanceOf_73 k4 x1 x3 s0 s1 S = some out) : Rn yX12_balanceOf cX12_balanceOf 5 (some .int) (k_rm 1) 0 0 D dy S (k_Pi dy out) 73 [(0, .ref (D.2.2 51)), (1, .int x1), (3, .int x3)] [.int s1, .int s0] := by
    unfold f_X12_balanceOf_73 at h
    refine r_iadd dX12_balanceOf_73 ?_
    refine r_istore_n dX12_balanceOf_74 rfl (by decide) rfl ?_
    refine r_iinc (q := 3) (v := x3 + (1 : Int32)) dX12_balanceOf_75 rfl rfl (by decide) rfl ?_
    refine r_goto (t := 4) dX12_balanceOf_78 (by decide) ?_
    refine r_sub [2, 3, 1, 0] rfl ?_
    exact hk4 _ _ _ _ _ h
set_option maxRecDepth 100000 in
set_option maxHeartbeats 4000000 in
theorem w_X12_balanceOf_41 {D : k_D} {dy : Nat → Nat} {k4 : Int32 → Int32 → Int32 → St → Option (Int32 × St)} (hk4 : ∀ (x1 : Int32) (x2 : Int32) (x3 : Int32) (S : St) (out : Int32 × St), k4 x1 x2 x3 S = some out → Rn yX12_balanceOf cX12_balanceOf 5 (some .int) (k_rm 1) 0 0 D dy S (k_Pi dy out) 4 [(0, .ref (D.2.2 51)), (1, .int x1), (2, .int x2), (3, .int x3)] []) (x1 : Int32) (x2 : Int32) (x3 : Int32) (s0 : Int32) (S : St) (out : Int32 × St) (h : f_X12_balanceOf_41 k4 x1 x2 x3 s0 S = some out) : Rn yX12_balanceOf cX12_balanceOf 5 (some .int) (k_rm 1) 0 0 D dy S (k_Pi dy out) 41 [(0, .ref (D.2.2 51)), (1, .int x1), (2, .int x2), (3, .int x3)] [.int s0] := by
    unfold f_X12_balanceOf_41 at h
    refine r_istore dX12_balanceOf_41 (by decide) rfl ?_
    refine r_iload_n 3 dX12_balanceOf_43 rfl rfl ?_
    refine r_aload_n 1 dX12_balanceOf_44 rfl rfl ?_
    refine gf_51_34 q_1345 dX12_balanceOf_45 ?_
    refine r_iload_n 4 dX12_balanceOf_48 rfl rfl ?_
    obtain ⟨c1, h⟩ := g_ite h
    refine al_67 (k_b_in c1) dX12_balanceOf_49 ?_
    refine r_if_eq (t := 57) dX12_balanceOf_50 (by decide) (fun c => ?_) (fun c => ?_)
    · rw [if_pos c] at h
      refine r_iload 0 dX12_balanceOf_57 rfl ?_
      refine r_aload_n 1 dX12_balanceOf_59 rfl rfl ?_
      refine r_iload_n 4 dX12_balanceOf_60 rfl rfl ?_
      refine r_iconst (v := 3) dX12_balanceOf_61 rfl ?_
      obtain ⟨q62, hq62, h⟩ := g_bind h
      refine r_callVi [.int x3, .int (3 : Int32)] [.int s0, .int x2] q62 (ok_X12_ofDebt hq62) q_1533 q_1535 q_94 q_1536 q_153 hd_X12_ofDebt (ce_51 D dy _) kc12.1 rfl ⟨Nat.le_of_ble_eq_true rfl, Nat.le_of_ble_eq_true rfl⟩ rfl rfl (Nat.le_of_ble_eq_true rfl) dX12_balanceOf_62 ?_
      refine r_imul dX12_balanceOf_65 ?_
      refine r_aload_n 1 dX12_balanceOf_66 rfl rfl ?_
      refine gf_51_33 q_1344 dX12_balanceOf_67 ?_
      refine r_iload_n 4 dX12_balanceOf_70 rfl rfl ?_
      obtain ⟨c2, h⟩ := g_ite h
      refine al_66 (k_b_in c2) dX12_balanceOf_71 ?_
      refine r_imul dX12_balanceOf_72 ?_
      refine r_sub [1, 2, 4] rfl ?_
      exact w_X12_balanceOf_73 hk4 _ _ _ _ _ _ h
    · rw [if_neg c] at h
      refine r_iconst (v := 0) dX12_balanceOf_53 rfl ?_
      refine r_goto (t := 73) dX12_balanceOf_54 (by decide) ?_
      refine r_sub [1, 2, 4] rfl ?_
      exact w_X12_balanceOf_73 hk4 _ _ _ _ _ _ h
set_option maxRecDepth 100000 in
set_option maxHeartbeats 4000000 in
theorem w_X12_balanceOf_4 {D : k_D} {dy : Nat → Nat} : ∀ (n : Nat) (x1 : Int32) (x2 : Int32) (x3 : Int32) (S : St) (out : Int32 × St), f_X12_balanceOf_4 n x1 x2 x3 S = some out → Rn yX12_balanceOf cX12_balanceOf 5 (some .int) (k_rm 1) 0 0 D dy S (k_Pi dy out) 4 [(0, .ref (D.2.2 51)), (1, .int x1), (2, .int x2), (3, .int x3)] [] := by
  intro n
  induction n with
  | zero => intro x1 x2 x3 S out h; cases h
  | succ n ih =>
    intro x1 x2 x3 S out h
    rw [f_X12_balanceOf_4] at h
    refine r_iload_n 3 dX12_balanceOf_4 rfl rfl ?_
    refine r_aload_n 0 dX12_balanceOf_5 rfl rfl ?_
    obtain ⟨q6, hq6, h⟩ := g_bind h
    refine r_callVi [] [.int x3] q6 (ok_X12_debts hq6) q_1517 q_1519 q_91 q_1520 q_153 hd_X12_debts (ce_51 D dy _) kc12.1 rfl ⟨Nat.le_of_ble_eq_true rfl, Nat.le_of_ble_eq_true rfl⟩ rfl rfl (Nat.le_of_ble_eq_true rfl) dX12_balanceOf_6 ?_
    refine r_icmp_ge (t := 81) dX12_balanceOf_9 (by decide) (fun c => ?_) (fun c => ?_)
    · rw [if_pos c] at h
      refine r_iload_n 2 dX12_balanceOf_81 rfl rfl ?_
      cases h
      exact r_iret rfl dX12_balanceOf_82 ⟨rfl, rfl, rfl⟩
    · rw [if_neg c] at h
      refine r_aload_n 0 dX12_balanceOf_12 rfl rfl ?_
      refine r_iload_n 3 dX12_balanceOf_13 rfl rfl ?_
      refine r_iconst (v := 1) dX12_balanceOf_14 rfl ?_
      obtain ⟨q15, hq15, h⟩ := g_bind h
      refine r_callVi [.int x3, .int (1 : Int32)] [] q15 (ok_X12_ofDebt hq15) q_1533 q_1535 q_94 q_1536 q_153 hd_X12_ofDebt (ce_51 D dy _) kc12.1 rfl ⟨Nat.le_of_ble_eq_true rfl, Nat.le_of_ble_eq_true rfl⟩ rfl rfl (Nat.le_of_ble_eq_true rfl) dX12_balanceOf_15 ?_
      refine r_iload_n 1 dX12_balanceOf_18 rfl rfl ?_
      refine r_icmp_ne (t := 26) dX12_balanceOf_19 (by decide) (fun c => ?_) (fun c => ?_)
      · rw [if_neg c] at h
        refine r_aload_n 0 dX12_balanceOf_26 rfl rfl ?_
        refine r_iload_n 3 dX12_balanceOf_27 rfl rfl ?_
        refine r_iconst (v := 0) dX12_balanceOf_28 rfl ?_
        obtain ⟨q29, hq29, h⟩ := g_bind h
        refine r_callVi [.int x3, .int (0 : Int32)] [] q29 (ok_X12_ofDebt hq29) q_1533 q_1535 q_94 q_1536 q_153 hd_X12_ofDebt (ce_51 D dy _) kc12.1 rfl ⟨Nat.le_of_ble_eq_true rfl, Nat.le_of_ble_eq_true rfl⟩ rfl rfl (Nat.le_of_ble_eq_true rfl) dX12_balanceOf_29 ?_
        refine r_iload_n 1 dX12_balanceOf_32 rfl rfl ?_
        refine r_icmp_ne (t := 40) dX12_balanceOf_33 (by decide) (fun c => ?_) (fun c => ?_)
        · rw [if_neg c] at h
          refine r_iconst (v := 0) dX12_balanceOf_40 rfl ?_
          exact w_X12_balanceOf_41 ih _ _ _ _ _ _ h
        · rw [if_pos c] at h
          refine r_iconst (v := -1) dX12_balanceOf_36 rfl ?_
          refine r_goto (t := 41) dX12_balanceOf_37 (by decide) ?_
          exact w_X12_balanceOf_41 ih _ _ _ _ _ _ h
      · rw [if_pos c] at h
        refine r_iconst (v := 1) dX12_balanceOf_22 rfl ?_
        refine r_goto (t := 41) dX12_balanceOf_23 (by decide) ?_
        exact w_X12_balanceOf_41 ih _ _ _ _ _ _ h
set_option maxRecDepth 100000 in
set_option maxHeartbeats 4000000 in
theorem w_X12_balanceOf_0 {D : k_D} {dy : Nat → Nat} (x1 : Int32) (S : St) (out : Int32 × St) (h : f_X12_balanceOf x1 S = some out) : Rn yX12_balanceOf cX12_balanceOf 5 (some .int) (k_rm 1) 0 0 D dy S (k_Pi dy out) 0 [(0, .ref (D.2.2 51)), (1, .int x1)] [] := by
    unfold f_X12_balanceOf at h
    refine r_iconst (v := 0) dX12_balanceOf_0 rfl ?_
    refine r_istore_n dX12_balanceOf_1 rfl (by decide) rfl ?_
    refine r_iconst (v := 0) dX12_balanceOf_2 rfl ?_
    refine r_istore_n dX12_balanceOf_3 rfl (by decide) rfl ?_
    refine r_sub [2, 3, 1, 0] rfl ?_
    exact w_X12_balanceOf_4 _ _ _ _ _ _ h
theorem ok_X12_balanceOf {D : k_D} {dy : Nat → Nat} {x1 : Int32} {S : St} {out : Int32 × St} (h : f_X12_balanceOf x1 S = some out) : Sp yX12_balanceOf cX12_balanceOf 5 (some .int) (k_rm 1) D dy S [.ref (D.2.2 51), .int x1] (k_Pi dy out) := Sp.of (by decide +kernel) (Nat.le_of_ble_eq_true rfl) (w_X12_balanceOf_0 _ S out h)
noncomputable def f_X12_balance (x1 : Int32) (S : St) : Option (Int32 × St) := k_let (sI S 33 (0 : Int32)) fun S1 => (f_X12_isDancer x1 S1).bind fun q6 => if q6.1 = 0 then some ((-1000000000 : Int32), q6.2) else (f_X12_askAll q6.2).bind fun q17 => (f_X12_balanceOf x1 q17).bind fun q22 => some (q22.1, q22.2)
set_option maxRecDepth 100000 in
set_option maxHeartbeats 4000000 in
theorem w_X12_balance_0 {D : k_D} {dy : Nat → Nat} (x1 : Int32) (S : St) (out : Int32 × St) (h : f_X12_balance x1 S = some out) : Rn yX12_balance cX12_balance 2 (some .int) (k_rm 5) 0 0 D dy S (k_Pi dy out) 0 [(0, .ref (D.2.2 51)), (1, .int x1)] [] := by
    unfold f_X12_balance at h
    refine r_aload_n 0 dX12_balance_0 rfl rfl ?_
    refine r_iconst (v := 0) dX12_balance_1 rfl ?_
    refine pf_51_0 q_1311 dX12_balance_2 ?_
    generalize sI S 33 (0 : Int32) = S1 at h ⊢
    replace h := g_let h
    refine r_iload_n 1 dX12_balance_5 rfl rfl ?_
    obtain ⟨q6, hq6, h⟩ := g_bind h
    refine r_callSi [.int x1] [] q6 (ok_X12_isDancer hq6) q_1512 q_1513 q_1514 q_153 hd_X12_isDancer ⟨Nat.le_of_ble_eq_true rfl, Nat.le_of_ble_eq_true rfl⟩ rfl rfl (Nat.le_of_ble_eq_true rfl) dX12_balance_6 ?_
    refine r_if_ne (t := 16) dX12_balance_9 (by decide) (fun c => ?_) (fun c => ?_)
    · rw [if_neg c] at h
      refine r_aload_n 0 dX12_balance_16 rfl rfl ?_
      obtain ⟨q17, hq17, h⟩ := g_bind h
      refine r_callVv [] [] q17 (ok_X12_askAll hq17) q_1537 q_1539 q_95 q_1540 q_153 hd_X12_askAll (ce_51 D dy _) kc12.1 rfl ⟨Nat.le_of_ble_eq_true rfl, Nat.le_of_ble_eq_true rfl⟩ rfl rfl (Nat.le_of_ble_eq_true rfl) dX12_balance_17 ?_
      refine r_aload_n 0 dX12_balance_20 rfl rfl ?_
      refine r_iload_n 1 dX12_balance_21 rfl rfl ?_
      obtain ⟨q22, hq22, h⟩ := g_bind h
      refine r_callVi [.int x1] [] q22 (ok_X12_balanceOf hq22) q_1721 q_1723 q_123 q_1724 q_153 hd_X12_balanceOf (ce_51 D dy _) kc12.1 rfl ⟨Nat.le_of_ble_eq_true rfl, Nat.le_of_ble_eq_true rfl⟩ rfl rfl (Nat.le_of_ble_eq_true rfl) dX12_balance_22 ?_
      cases h
      exact r_iret rfl dX12_balance_25 ⟨rfl, rfl, rfl⟩
    · rw [if_pos c] at h
      refine r_ldcw (v := -1000000000) q_1720 dX12_balance_12 ?_
      cases h
      exact r_iret rfl dX12_balance_15 ⟨rfl, rfl, rfl⟩
theorem ok_X12_balance {D : k_D} {dy : Nat → Nat} {x1 : Int32} {S : St} {out : Int32 × St} (h : f_X12_balance x1 S = some out) : Sp yX12_balance cX12_balance 2 (some .int) (k_rm 5) D dy S [.ref (D.2.2 51), .int x1] (k_Pi dy out) := Sp.of (by decide +kernel) (Nat.le_of_ble_eq_true rfl) (w_X12_balance_0 _ S out h)
noncomputable def f_X12_richest_37 (k13 : Int32 → Int32 → St → Option (Int32 × St)) (x2 : Int32) (s0 : Int32) (S : St) : Option (Int32 × St) := k13 s0 (x2 + (1 : Int32)) S
noncomputable def f_X12_richest_13 : Nat → Int32 → Int32 → St → Option (Int32 × St)
  | 0, _, _, _ => none
  | n + 1, x1, x2, S => if (8 : Int32) ≤ x2 then some (x1, S) else (f_X12_balanceOf x2 S).bind fun q21 => (f_X12_balanceOf x1 q21.2).bind fun q26 => if q21.1 ≤ q26.1 then f_X12_richest_37 (f_X12_richest_13 n) x2 x1 q26.2 else f_X12_richest_37 (f_X12_richest_13 n) x2 x2 q26.2
noncomputable def f_X12_richest (S : St) : Option (Int32 × St) := k_let (sI S 33 (0 : Int32)) fun S1 => (f_X12_askAll S1).bind fun q6 => f_X12_richest_13 FU (0 : Int32) (1 : Int32) q6
set_option maxRecDepth 100000 in
set_option maxHeartbeats 4000000 in
theorem w_X12_richest_37 {D : k_D} {dy : Nat → Nat} {k13 : Int32 → Int32 → St → Option (Int32 × St)} (hk13 : ∀ (x1 : Int32) (x2 : Int32) (S : St) (out : Int32 × St), k13 x1 x2 S = some out → Rn yX12_richest cX12_richest 3 (some .int) (k_rm 5) 0 0 D dy S (k_Pi dy out) 13 [(0, .ref (D.2.2 51)), (1, .int x1), (2, .int x2)] []) (x2 : Int32) (s0 : Int32) (S : St) (out : Int32 × St) (h : f_X12_richest_37 k13 x2 s0 S = some out) : Rn yX12_richest cX12_richest 3 (some .int) (k_rm 5) 0 0 D dy S (k_Pi dy out) 37 [(0, .ref (D.2.2 51)), (2, .int x2)] [.int s0] := by
    unfold f_X12_richest_37 at h
    refine r_istore_n dX12_richest_37 rfl (by decide) rfl ?_
    refine r_iinc (q := 2) (v := x2 + (1 : Int32)) dX12_richest_38 rfl rfl (by decide) rfl ?_
    refine r_goto (t := 13) dX12_richest_41 (by decide) ?_
    refine r_sub [2, 1, 0] rfl ?_
    exact hk13 _ _ _ _ h
set_option maxRecDepth 100000 in
set_option maxHeartbeats 4000000 in
theorem w_X12_richest_13 {D : k_D} {dy : Nat → Nat} : ∀ (n : Nat) (x1 : Int32) (x2 : Int32) (S : St) (out : Int32 × St), f_X12_richest_13 n x1 x2 S = some out → Rn yX12_richest cX12_richest 3 (some .int) (k_rm 5) 0 0 D dy S (k_Pi dy out) 13 [(0, .ref (D.2.2 51)), (1, .int x1), (2, .int x2)] [] := by
  intro n
  induction n with
  | zero => intro x1 x2 S out h; cases h
  | succ n ih =>
    intro x1 x2 S out h
    rw [f_X12_richest_13] at h
    refine r_iload_n 2 dX12_richest_13 rfl rfl ?_
    refine r_bipush (v := 8) dX12_richest_14 rfl ?_
    refine r_icmp_ge (t := 44) dX12_richest_16 (by decide) (fun c => ?_) (fun c => ?_)
    · rw [if_pos c] at h
      refine r_iload_n 1 dX12_richest_44 rfl rfl ?_
      cases h
      exact r_iret rfl dX12_richest_45 ⟨rfl, rfl, rfl⟩
    · rw [if_neg c] at h
      refine r_aload_n 0 dX12_richest_19 rfl rfl ?_
      refine r_iload_n 2 dX12_richest_20 rfl rfl ?_
      obtain ⟨q21, hq21, h⟩ := g_bind h
      refine r_callVi [.int x2] [] q21 (ok_X12_balanceOf hq21) q_1721 q_1723 q_123 q_1724 q_153 hd_X12_balanceOf (ce_51 D dy _) kc12.1 rfl ⟨Nat.le_of_ble_eq_true rfl, Nat.le_of_ble_eq_true rfl⟩ rfl rfl (Nat.le_of_ble_eq_true rfl) dX12_richest_21 ?_
      refine r_aload_n 0 dX12_richest_24 rfl rfl ?_
      refine r_iload_n 1 dX12_richest_25 rfl rfl ?_
      obtain ⟨q26, hq26, h⟩ := g_bind h
      refine r_callVi [.int x1] [.int q21.1] q26 (ok_X12_balanceOf hq26) q_1721 q_1723 q_123 q_1724 q_153 hd_X12_balanceOf (ce_51 D dy _) kc12.1 rfl ⟨Nat.le_of_ble_eq_true rfl, Nat.le_of_ble_eq_true rfl⟩ rfl rfl (Nat.le_of_ble_eq_true rfl) dX12_richest_26 ?_
      refine r_icmp_le (t := 36) dX12_richest_29 (by decide) (fun c => ?_) (fun c => ?_)
      · rw [if_pos c] at h
        refine r_iload_n 1 dX12_richest_36 rfl rfl ?_
        refine r_sub [0, 2] rfl ?_
        exact w_X12_richest_37 ih _ _ _ _ h
      · rw [if_neg c] at h
        refine r_iload_n 2 dX12_richest_32 rfl rfl ?_
        refine r_goto (t := 37) dX12_richest_33 (by decide) ?_
        refine r_sub [0, 2] rfl ?_
        exact w_X12_richest_37 ih _ _ _ _ h
set_option maxRecDepth 100000 in
set_option maxHeartbeats 4000000 in
theorem w_X12_richest_0 {D : k_D} {dy : Nat → Nat} (S : St) (out : Int32 × St) (h : f_X12_richest S = some out) : Rn yX12_richest cX12_richest 3 (some .int) (k_rm 5) 0 0 D dy S (k_Pi dy out) 0 [(0, .ref (D.2.2 51))] [] := by
    unfold f_X12_richest at h
    refine r_aload_n 0 dX12_richest_0 rfl rfl ?_
    refine r_iconst (v := 0) dX12_richest_1 rfl ?_
    refine pf_51_0 q_1311 dX12_richest_2 ?_
    generalize sI S 33 (0 : Int32) = S1 at h ⊢
    replace h := g_let h
    refine r_aload_n 0 dX12_richest_5 rfl rfl ?_
    obtain ⟨q6, hq6, h⟩ := g_bind h
    refine r_callVv [] [] q6 (ok_X12_askAll hq6) q_1537 q_1539 q_95 q_1540 q_153 hd_X12_askAll (ce_51 D dy _) kc12.1 rfl ⟨Nat.le_of_ble_eq_true rfl, Nat.le_of_ble_eq_true rfl⟩ rfl rfl (Nat.le_of_ble_eq_true rfl) dX12_richest_6 ?_
    refine r_iconst (v := 0) dX12_richest_9 rfl ?_
    refine r_istore_n dX12_richest_10 rfl (by decide) rfl ?_
    refine r_iconst (v := 1) dX12_richest_11 rfl ?_
    refine r_istore_n dX12_richest_12 rfl (by decide) rfl ?_
    refine r_sub [2, 1, 0] rfl ?_
    exact w_X12_richest_13 _ _ _ _ _ h
theorem ok_X12_richest {D : k_D} {dy : Nat → Nat} {S : St} {out : Int32 × St} (h : f_X12_richest S = some out) : Sp yX12_richest cX12_richest 3 (some .int) (k_rm 5) D dy S [.ref (D.2.2 51)] (k_Pi dy out) := Sp.of (by decide +kernel) (Nat.le_of_ble_eq_true rfl) (w_X12_richest_0 S out h)
noncomputable def f_X12_counts_24 (s0 : Int32) (S : St) : Option (Int32 × St) := if s0 = 0 ∨ s0 = 1 then some (s0, S) else none
noncomputable def f_X12_counts_23 (S : St) : Option (Int32 × St) := f_X12_counts_24 (0 : Int32) S
noncomputable def f_X12_counts (x1 : Int32) (x2 : Int32) (S : St) : Option (Int32 × St) := (f_X12_ofDebt x1 (2 : Int32) S).bind fun q3 => if q3.1 = x2 then if k_b x1 16 = true then if (gA q3.2 67 x1.toNatClampNeg) = 0 then f_X12_counts_24 (1 : Int32) q3.2 else f_X12_counts_23 q3.2 else none else f_X12_counts_23 q3.2
set_option maxRecDepth 100000 in
set_option maxHeartbeats 4000000 in
theorem w_X12_counts_24 {D : k_D} {dy : Nat → Nat} (s0 : Int32) (S : St) (out : Int32 × St) (h : f_X12_counts_24 s0 S = some out) : Rn yX12_counts cX12_counts 3 (some .boolean) (k_rm 1) 0 0 D dy S (k_Pi dy out) 24 [] [.int s0] := by
    unfold f_X12_counts_24 at h
    obtain ⟨c, h⟩ := g_ite h
    cases h
    exact r_zret rfl (k_zn c) dX12_counts_24 ⟨rfl, rfl, rfl⟩
set_option maxRecDepth 100000 in
set_option maxHeartbeats 4000000 in
theorem w_X12_counts_23 {D : k_D} {dy : Nat → Nat} (S : St) (out : Int32 × St) (h : f_X12_counts_23 S = some out) : Rn yX12_counts cX12_counts 3 (some .boolean) (k_rm 1) 0 0 D dy S (k_Pi dy out) 23 [] [] := by
    unfold f_X12_counts_23 at h
    refine r_iconst (v := 0) dX12_counts_23 rfl ?_
    exact w_X12_counts_24 _ _ _ h
set_option maxRecDepth 100000 in
set_option maxHeartbeats 4000000 in
theorem w_X12_counts_0 {D : k_D} {dy : Nat → Nat} (x1 : Int32) (x2 : Int32) (S : St) (out : Int32 × St) (h : f_X12_counts x1 x2 S = some out) : Rn yX12_counts cX12_counts 3 (some .boolean) (k_rm 1) 0 0 D dy S (k_Pi dy out) 0 [(0, .ref (D.2.2 51)), (1, .int x1), (2, .int x2)] [] := by
    unfold f_X12_counts at h
    refine r_aload_n 0 dX12_counts_0 rfl rfl ?_
    refine r_iload_n 1 dX12_counts_1 rfl rfl ?_
    refine r_iconst (v := 2) dX12_counts_2 rfl ?_
    obtain ⟨q3, hq3, h⟩ := g_bind h
    refine r_callVi [.int x1, .int (2 : Int32)] [] q3 (ok_X12_ofDebt hq3) q_1533 q_1535 q_94 q_1536 q_153 hd_X12_ofDebt (ce_51 D dy _) kc12.1 rfl ⟨Nat.le_of_ble_eq_true rfl, Nat.le_of_ble_eq_true rfl⟩ rfl rfl (Nat.le_of_ble_eq_true rfl) dX12_counts_3 ?_
    refine r_iload_n 2 dX12_counts_6 rfl rfl ?_
    refine r_icmp_ne (t := 23) dX12_counts_7 (by decide) (fun c => ?_) (fun c => ?_)
    · rw [if_neg c] at h
      refine r_sub [] rfl ?_
      exact w_X12_counts_23 _ _ h
    · rw [if_pos c] at h
      refine r_aload_n 0 dX12_counts_10 rfl rfl ?_
      refine gf_51_34 q_1345 dX12_counts_11 ?_
      refine r_iload_n 1 dX12_counts_14 rfl rfl ?_
      obtain ⟨c1, h⟩ := g_ite h
      refine al_67 (k_b_in c1) dX12_counts_15 ?_
      refine r_if_ne (t := 23) dX12_counts_16 (by decide) (fun c => ?_) (fun c => ?_)
      · rw [if_neg c] at h
        refine r_sub [] rfl ?_
        exact w_X12_counts_23 _ _ h
      · rw [if_pos c] at h
        refine r_iconst (v := 1) dX12_counts_19 rfl ?_
        refine r_goto (t := 24) dX12_counts_20 (by decide) ?_
        refine r_sub [] rfl ?_
        exact w_X12_counts_24 _ _ _ h
theorem ok_X12_counts {D : k_D} {dy : Nat → Nat} {x1 : Int32} {x2 : Int32} {S : St} {out : Int32 × St} (h : f_X12_counts x1 x2 S = some out) : Sp yX12_counts cX12_counts 3 (some .boolean) (k_rm 1) D dy S [.ref (D.2.2 51), .int x1, .int x2] (k_Pi dy out) := Sp.of (by decide +kernel) (Nat.le_of_ble_eq_true rfl) (w_X12_counts_0 _ _ S out h)
noncomputable def f_X12_netOf_72 (k5 : Int32 → Int32 → Int32 → Int32 → St → Option (Int32 × St)) (x1 : Int32) (x2 : Int32) (x4 : Int32) (s0 : Int32) (s1 : Int32) (S : St) : Option (Int32 × St) := k5 x1 x2 (s0 + s1) (x4 + (1 : Int32)) S
noncomputable def f_X12_netOf_45 (k5 : Int32 → Int32 → Int32 → Int32 → St → Option (Int32 × St)) (x1 : Int32) (x2 : Int32) (x3 : Int32) (x4 : Int32) (s0 : Int32) (S : St) : Option (Int32 × St) := (f_X12_counts x4 x2 S).bind fun q52 => if q52.1 = 0 then f_X12_netOf_72 k5 x1 x2 x4 x3 (0 : Int32) q52.2 else (f_X12_ofDebt x4 (3 : Int32) q52.2).bind fun q64 => f_X12_netOf_72 k5 x1 x2 x4 x3 (s0 * q64.1) q64.2
noncomputable def f_X12_netOf_5 : Nat → Int32 → Int32 → Int32 → Int32 → St → Option (Int32 × St)
  | 0, _, _, _, _, _ => none
  | n + 1, x1, x2, x3, x4, S => (f_X12_debts S).bind fun q8 => if q8.1 ≤ x4 then some (x3, q8.2) else (f_X12_ofDebt x4 (1 : Int32) q8.2).bind fun q18 => if q18.1 = x1 then f_X12_netOf_45 (f_X12_netOf_5 n) x1 x2 x3 x4 (1 : Int32) q18.2 else (f_X12_ofDebt x4 (0 : Int32) q18.2).bind fun q33 => if q33.1 = x1 then f_X12_netOf_45 (f_X12_netOf_5 n) x1 x2 x3 x4 (-1 : Int32) q33.2 else f_X12_netOf_45 (f_X12_netOf_5 n) x1 x2 x3 x4 (0 : Int32) q33.2
noncomputable def f_X12_netOf (x1 : Int32) (x2 : Int32) (S : St) : Option (Int32 × St) := f_X12_netOf_5 FU x1 x2 (0 : Int32) (0 : Int32) S
set_option maxRecDepth 100000 in
set_option maxHeartbeats 4000000 in
theorem w_X12_netOf_72 {D : k_D} {dy : Nat → Nat} {k5 : Int32 → Int32 → Int32 → Int32 → St → Option (Int32 × St)} (hk5 : ∀ (x1 : Int32) (x2 : Int32) (x3 : Int32) (x4 : Int32) (S : St) (out : Int32 × St), k5 x1 x2 x3 x4 S = some out → Rn yX12_netOf cX12_netOf 6 (some .int) (k_rm 2) 0 0 D dy S (k_Pi dy out) 5 [(0, .ref (D.2.2 51)), (1, .int x1), (2, .int x2), (3, .int x3), (4, .int x4)] []) (x1 : Int32) (x2 : Int32) (x4 : Int32) (s0 : Int32) (s1 : Int32) (S : St) (out : Int32 × St) (h : f_X12_netOf_72 k5 x1 x2 x4 s0 s1 S = some out) : Rn yX12_netOf cX12_netOf 6 (some .int) (k_rm 2) 0 0 D dy S (k_Pi dy out) 72 [(0, .ref (D.2.2 51)), (1, .int x1), (2, .int x2), (4, .int x4)] [.int s1, .int s0] := by
    unfold f_X12_netOf_72 at h
    refine r_iadd dX12_netOf_72 ?_
    refine r_istore_n dX12_netOf_73 rfl (by decide) rfl ?_
    refine r_iinc (q := 4) (v := x4 + (1 : Int32)) dX12_netOf_74 rfl rfl (by decide) rfl ?_
    refine r_goto (t := 5) dX12_netOf_77 (by decide) ?_
    refine r_sub [2, 3, 4, 1, 0] rfl ?_
    exact hk5 _ _ _ _ _ _ h
set_option maxRecDepth 100000 in
set_option maxHeartbeats 4000000 in
theorem w_X12_netOf_45 {D : k_D} {dy : Nat → Nat} {k5 : Int32 → Int32 → Int32 → Int32 → St → Option (Int32 × St)} (hk5 : ∀ (x1 : Int32) (x2 : Int32) (x3 : Int32) (x4 : Int32) (S : St) (out : Int32 × St), k5 x1 x2 x3 x4 S = some out → Rn yX12_netOf cX12_netOf 6 (some .int) (k_rm 2) 0 0 D dy S (k_Pi dy out) 5 [(0, .ref (D.2.2 51)), (1, .int x1), (2, .int x2), (3, .int x3), (4, .int x4)] []) (x1 : Int32) (x2 : Int32) (x3 : Int32) (x4 : Int32) (s0 : Int32) (S : St) (out : Int32 × St) (h : f_X12_netOf_45 k5 x1 x2 x3 x4 s0 S = some out) : Rn yX12_netOf cX12_netOf 6 (some .int) (k_rm 2) 0 0 D dy S (k_Pi dy out) 45 [(0, .ref (D.2.2 51)), (1, .int x1), (2, .int x2), (3, .int x3), (4, .int x4)] [.int s0] := by
    unfold f_X12_netOf_45 at h
    refine r_istore dX12_netOf_45 (by decide) rfl ?_
    refine r_iload_n 4 dX12_netOf_47 rfl rfl ?_
    refine r_aload_n 1 dX12_netOf_48 rfl rfl ?_
    refine r_iload 5 dX12_netOf_49 rfl ?_
    refine r_iload_n 3 dX12_netOf_51 rfl rfl ?_
    obtain ⟨q52, hq52, h⟩ := g_bind h
    refine r_callVi [.int x4, .int x2] [.int x3] q52 (ok_X12_counts hq52) q_1737 q_1739 q_125 q_1740 q_153 hd_X12_counts (ce_51 D dy _) kc12.1 rfl ⟨Nat.le_of_ble_eq_true rfl, Nat.le_of_ble_eq_true rfl⟩ rfl rfl (Nat.le_of_ble_eq_true rfl) dX12_netOf_52 ?_
    refine r_if_eq (t := 71) dX12_netOf_55 (by decide) (fun c => ?_) (fun c => ?_)
    · rw [if_pos c] at h
      refine r_iconst (v := 0) dX12_netOf_71 rfl ?_
      refine r_sub [1, 2, 3, 5] rfl ?_
      exact w_X12_netOf_72 hk5 _ _ _ _ _ _ _ h
    · rw [if_neg c] at h
      refine r_iload 0 dX12_netOf_58 rfl ?_
      refine r_aload_n 1 dX12_netOf_60 rfl rfl ?_
      refine r_iload 5 dX12_netOf_61 rfl ?_
      refine r_iconst (v := 3) dX12_netOf_63 rfl ?_
      obtain ⟨q64, hq64, h⟩ := g_bind h
      refine r_callVi [.int x4, .int (3 : Int32)] [.int s0, .int x3] q64 (ok_X12_ofDebt hq64) q_1533 q_1535 q_94 q_1536 q_153 hd_X12_ofDebt (ce_51 D dy _) kc12.1 rfl ⟨Nat.le_of_ble_eq_true rfl, Nat.le_of_ble_eq_true rfl⟩ rfl rfl (Nat.le_of_ble_eq_true rfl) dX12_netOf_64 ?_
      refine r_imul dX12_netOf_67 ?_
      refine r_goto (t := 72) dX12_netOf_68 (by decide) ?_
      refine r_sub [1, 2, 3, 5] rfl ?_
      exact w_X12_netOf_72 hk5 _ _ _ _ _ _ _ h
set_option maxRecDepth 100000 in
set_option maxHeartbeats 4000000 in
theorem w_X12_netOf_5 {D : k_D} {dy : Nat → Nat} : ∀ (n : Nat) (x1 : Int32) (x2 : Int32) (x3 : Int32) (x4 : Int32) (S : St) (out : Int32 × St), f_X12_netOf_5 n x1 x2 x3 x4 S = some out → Rn yX12_netOf cX12_netOf 6 (some .int) (k_rm 2) 0 0 D dy S (k_Pi dy out) 5 [(0, .ref (D.2.2 51)), (1, .int x1), (2, .int x2), (3, .int x3), (4, .int x4)] [] := by
  intro n
  induction n with
  | zero => intro x1 x2 x3 x4 S out h; cases h
  | succ n ih =>
    intro x1 x2 x3 x4 S out h
    rw [f_X12_netOf_5] at h
    refine r_iload 4 dX12_netOf_5 rfl ?_
    refine r_aload_n 0 dX12_netOf_7 rfl rfl ?_
    obtain ⟨q8, hq8, h⟩ := g_bind h
    refine r_callVi [] [.int x4] q8 (ok_X12_debts hq8) q_1517 q_1519 q_91 q_1520 q_153 hd_X12_debts (ce_51 D dy _) kc12.1 rfl ⟨Nat.le_of_ble_eq_true rfl, Nat.le_of_ble_eq_true rfl⟩ rfl rfl (Nat.le_of_ble_eq_true rfl) dX12_netOf_8 ?_
    refine r_icmp_ge (t := 80) dX12_netOf_11 (by decide) (fun c => ?_) (fun c => ?_)
    · rw [if_pos c] at h
      refine r_iload_n 3 dX12_netOf_80 rfl rfl ?_
      cases h
      exact r_iret rfl dX12_netOf_81 ⟨rfl, rfl, rfl⟩
    · rw [if_neg c] at h
      refine r_aload_n 0 dX12_netOf_14 rfl rfl ?_
      refine r_iload 4 dX12_netOf_15 rfl ?_
      refine r_iconst (v := 1) dX12_netOf_17 rfl ?_
      obtain ⟨q18, hq18, h⟩ := g_bind h
      refine r_callVi [.int x4, .int (1 : Int32)] [] q18 (ok_X12_ofDebt hq18) q_1533 q_1535 q_94 q_1536 q_153 hd_X12_ofDebt (ce_51 D dy _) kc12.1 rfl ⟨Nat.le_of_ble_eq_true rfl, Nat.le_of_ble_eq_true rfl⟩ rfl rfl (Nat.le_of_ble_eq_true rfl) dX12_netOf_18 ?_
      refine r_iload_n 1 dX12_netOf_21 rfl rfl ?_
      refine r_icmp_ne (t := 29) dX12_netOf_22 (by decide) (fun c => ?_) (fun c => ?_)
      · rw [if_neg c] at h
        refine r_aload_n 0 dX12_netOf_29 rfl rfl ?_
        refine r_iload 4 dX12_netOf_30 rfl ?_
        refine r_iconst (v := 0) dX12_netOf_32 rfl ?_
        obtain ⟨q33, hq33, h⟩ := g_bind h
        refine r_callVi [.int x4, .int (0 : Int32)] [] q33 (ok_X12_ofDebt hq33) q_1533 q_1535 q_94 q_1536 q_153 hd_X12_ofDebt (ce_51 D dy _) kc12.1 rfl ⟨Nat.le_of_ble_eq_true rfl, Nat.le_of_ble_eq_true rfl⟩ rfl rfl (Nat.le_of_ble_eq_true rfl) dX12_netOf_33 ?_
        refine r_iload_n 1 dX12_netOf_36 rfl rfl ?_
        refine r_icmp_ne (t := 44) dX12_netOf_37 (by decide) (fun c => ?_) (fun c => ?_)
        · rw [if_neg c] at h
          refine r_iconst (v := 0) dX12_netOf_44 rfl ?_
          exact w_X12_netOf_45 ih _ _ _ _ _ _ _ h
        · rw [if_pos c] at h
          refine r_iconst (v := -1) dX12_netOf_40 rfl ?_
          refine r_goto (t := 45) dX12_netOf_41 (by decide) ?_
          exact w_X12_netOf_45 ih _ _ _ _ _ _ _ h
      · rw [if_pos c] at h
        refine r_iconst (v := 1) dX12_netOf_25 rfl ?_
        refine r_goto (t := 45) dX12_netOf_26 (by decide) ?_
        exact w_X12_netOf_45 ih _ _ _ _ _ _ _ h
set_option maxRecDepth 100000 in
set_option maxHeartbeats 4000000 in
theorem w_X12_netOf_0 {D : k_D} {dy : Nat → Nat} (x1 : Int32) (x2 : Int32) (S : St) (out : Int32 × St) (h : f_X12_netOf x1 x2 S = some out) : Rn yX12_netOf cX12_netOf 6 (some .int) (k_rm 2) 0 0 D dy S (k_Pi dy out) 0 [(0, .ref (D.2.2 51)), (1, .int x1), (2, .int x2)] [] := by
    unfold f_X12_netOf at h
    refine r_iconst (v := 0) dX12_netOf_0 rfl ?_
    refine r_istore_n dX12_netOf_1 rfl (by decide) rfl ?_
    refine r_iconst (v := 0) dX12_netOf_2 rfl ?_
    refine r_istore dX12_netOf_3 (by decide) rfl ?_
    refine r_sub [2, 3, 4, 1, 0] rfl ?_
    exact w_X12_netOf_5 _ _ _ _ _ _ _ h
theorem ok_X12_netOf {D : k_D} {dy : Nat → Nat} {x1 : Int32} {x2 : Int32} {S : St} {out : Int32 × St} (h : f_X12_netOf x1 x2 S = some out) : Sp yX12_netOf cX12_netOf 6 (some .int) (k_rm 2) D dy S [.ref (D.2.2 51), .int x1, .int x2] (k_Pi dy out) := Sp.of (by decide +kernel) (Nat.le_of_ble_eq_true rfl) (w_X12_netOf_0 _ _ S out h)
noncomputable def f_X12_net_20 (S : St) : Option (Int32 × St) := some ((-1000000000 : Int32), S)
noncomputable def f_X12_net (x1 : Int32) (x2 : Int32) (S : St) : Option (Int32 × St) := k_let (sI S 33 (0 : Int32)) fun S1 => (f_X12_isDancer x1 S1).bind fun q6 => if q6.1 = 0 then f_X12_net_20 q6.2 else (f_X12_isTune x2 q6.2).bind fun q14 => if q14.1 = 0 then f_X12_net_20 q14.2 else (f_X12_askAll q14.2).bind fun q25 => (f_X12_netOf x1 x2 q25).bind fun q31 => some (q31.1, q31.2)
set_option maxRecDepth 100000 in
set_option maxHeartbeats 4000000 in
theorem w_X12_net_20 {D : k_D} {dy : Nat → Nat} (S : St) (out : Int32 × St) (h : f_X12_net_20 S = some out) : Rn yX12_net cX12_net 3 (some .int) (k_rm 5) 0 0 D dy S (k_Pi dy out) 20 [] [] := by
    unfold f_X12_net_20 at h
    refine r_ldcw (v := -1000000000) q_1720 dX12_net_20 ?_
    cases h
    exact r_iret rfl dX12_net_23 ⟨rfl, rfl, rfl⟩
set_option maxRecDepth 100000 in
set_option maxHeartbeats 4000000 in
theorem w_X12_net_0 {D : k_D} {dy : Nat → Nat} (x1 : Int32) (x2 : Int32) (S : St) (out : Int32 × St) (h : f_X12_net x1 x2 S = some out) : Rn yX12_net cX12_net 3 (some .int) (k_rm 5) 0 0 D dy S (k_Pi dy out) 0 [(0, .ref (D.2.2 51)), (1, .int x1), (2, .int x2)] [] := by
    unfold f_X12_net at h
    refine r_aload_n 0 dX12_net_0 rfl rfl ?_
    refine r_iconst (v := 0) dX12_net_1 rfl ?_
    refine pf_51_0 q_1311 dX12_net_2 ?_
    generalize sI S 33 (0 : Int32) = S1 at h ⊢
    replace h := g_let h
    refine r_iload_n 1 dX12_net_5 rfl rfl ?_
    obtain ⟨q6, hq6, h⟩ := g_bind h
    refine r_callSi [.int x1] [] q6 (ok_X12_isDancer hq6) q_1512 q_1513 q_1514 q_153 hd_X12_isDancer ⟨Nat.le_of_ble_eq_true rfl, Nat.le_of_ble_eq_true rfl⟩ rfl rfl (Nat.le_of_ble_eq_true rfl) dX12_net_6 ?_
    refine r_if_eq (t := 20) dX12_net_9 (by decide) (fun c => ?_) (fun c => ?_)
    · rw [if_pos c] at h
      refine r_sub [] rfl ?_
      exact w_X12_net_20 _ _ h
    · rw [if_neg c] at h
      refine r_aload_n 0 dX12_net_12 rfl rfl ?_
      refine r_iload_n 2 dX12_net_13 rfl rfl ?_
      obtain ⟨q14, hq14, h⟩ := g_bind h
      refine r_callVi [.int x2] [] q14 (ok_X12_isTune hq14) q_1501 q_1503 q_90 q_1504 q_153 hd_X12_isTune (ce_51 D dy _) kc12.1 rfl ⟨Nat.le_of_ble_eq_true rfl, Nat.le_of_ble_eq_true rfl⟩ rfl rfl (Nat.le_of_ble_eq_true rfl) dX12_net_14 ?_
      refine r_if_ne (t := 24) dX12_net_17 (by decide) (fun c => ?_) (fun c => ?_)
      · rw [if_neg c] at h
        refine r_aload_n 0 dX12_net_24 rfl rfl ?_
        obtain ⟨q25, hq25, h⟩ := g_bind h
        refine r_callVv [] [] q25 (ok_X12_askAll hq25) q_1537 q_1539 q_95 q_1540 q_153 hd_X12_askAll (ce_51 D dy _) kc12.1 rfl ⟨Nat.le_of_ble_eq_true rfl, Nat.le_of_ble_eq_true rfl⟩ rfl rfl (Nat.le_of_ble_eq_true rfl) dX12_net_25 ?_
        refine r_aload_n 0 dX12_net_28 rfl rfl ?_
        refine r_iload_n 1 dX12_net_29 rfl rfl ?_
        refine r_iload_n 2 dX12_net_30 rfl rfl ?_
        obtain ⟨q31, hq31, h⟩ := g_bind h
        refine r_callVi [.int x1, .int x2] [] q31 (ok_X12_netOf hq31) q_1733 q_1735 q_124 q_1736 q_153 hd_X12_netOf (ce_51 D dy _) kc12.1 rfl ⟨Nat.le_of_ble_eq_true rfl, Nat.le_of_ble_eq_true rfl⟩ rfl rfl (Nat.le_of_ble_eq_true rfl) dX12_net_31 ?_
        cases h
        exact r_iret rfl dX12_net_34 ⟨rfl, rfl, rfl⟩
      · rw [if_pos c] at h
        refine r_sub [] rfl ?_
        exact w_X12_net_20 _ _ h
theorem ok_X12_net {D : k_D} {dy : Nat → Nat} {x1 : Int32} {x2 : Int32} {S : St} {out : Int32 × St} (h : f_X12_net x1 x2 S = some out) : Sp yX12_net cX12_net 3 (some .int) (k_rm 5) D dy S [.ref (D.2.2 51), .int x1, .int x2] (k_Pi dy out) := Sp.of (by decide +kernel) (Nat.le_of_ble_eq_true rfl) (w_X12_net_0 _ _ S out h)
noncomputable def f_X12_payments_222 (k37 : Int32 → Int32 → Int32 → St → Option (Int32 × St)) (x1 : Int32) (x2 : Int32) (x3 : Int32) (s1 : Int32) (s2 : Int32) (s3 : Int32) (S : St) : Option (Int32 × St) := if k_b s1 256 = true then k_let (sA S 70 s1.toNatClampNeg (s2 + s3)) fun S2 => k37 x1 x2 (x3 + (1 : Int32)) S2 else none
noncomputable def f_X12_payments_221 (k37 : Int32 → Int32 → Int32 → St → Option (Int32 × St)) (x1 : Int32) (x2 : Int32) (x3 : Int32) (s1 : Int32) (s2 : Int32) (S : St) : Option (Int32 × St) := f_X12_payments_222 k37 x1 x2 x3 s1 s2 (0 : Int32) S
noncomputable def f_X12_payments_182 (k106 : Int32 → Int32 → Int32 → Int32 → St → Option (Int32 × St)) (x1 : Int32) (x2 : Int32) (x3 : Int32) (x4 : Int32) (s1 : Int32) (s2 : Int32) (S : St) : Option (Int32 × St) := if k_b s1 256 = true then k_let (sA S 70 s1.toNatClampNeg s2) fun S2 => k106 x1 x2 x3 (x4 + (1 : Int32)) S2 else none
noncomputable def f_X12_payments_176 (k106 : Int32 → Int32 → Int32 → Int32 → St → Option (Int32 × St)) (x1 : Int32) (x2 : Int32) (x3 : Int32) (x4 : Int32) (s1 : Int32) (S : St) : Option (Int32 × St) := if k_b x3 256 = true then f_X12_payments_182 k106 x1 x2 x3 x4 s1 (gA S 70 x3.toNatClampNeg) S else none
noncomputable def f_X12_payments_134 (k106 : Int32 → Int32 → Int32 → Int32 → St → Option (Int32 × St)) (x1 : Int32) (x2 : Int32) (x3 : Int32) (x4 : Int32) (s0 : Int32) (S : St) : Option (Int32 × St) := (f_X12_is x3 x4 S).bind fun q144 => if q144.1 = 0 then f_X12_payments_176 k106 x1 x2 x3 x4 x3 q144.2 else if k_b s0 256 = true then if k_b x3 256 = true then if (gA q144.2 70 s0.toNatClampNeg) ≤ (gA q144.2 70 x3.toNatClampNeg) then f_X12_payments_176 k106 x1 x2 x3 x4 x3 q144.2 else if k_b s0 256 = true then f_X12_payments_182 k106 x1 x2 x3 x4 x3 (gA q144.2 70 s0.toNatClampNeg) q144.2 else none else none else none
noncomputable def f_X12_payments_106 (k37 : Int32 → Int32 → Int32 → St → Option (Int32 × St)) : Nat → Int32 → Int32 → Int32 → Int32 → St → Option (Int32 × St)
  | 0, _, _, _, _, _ => none
  | n + 1, x1, x2, x3, x4, S => if (8 : Int32) ≤ x4 then if k_b x3 256 = true then if x3 = 0 then f_X12_payments_221 k37 x1 x2 x3 x3 (gA S 70 x3.toNatClampNeg) S else if (x3 &&& (x2 ^^^ (-1 : Int32))) = 0 then if k_b x3 256 = true then if (gA S 69 x3.toNatClampNeg) = 0 then f_X12_payments_222 k37 x1 x2 x3 x3 (gA S 70 x3.toNatClampNeg) (1 : Int32) S else f_X12_payments_221 k37 x1 x2 x3 x3 (gA S 70 x3.toNatClampNeg) S else none else f_X12_payments_221 k37 x1 x2 x3 x3 (gA S 70 x3.toNatClampNeg) S else none else (f_X12_is x3 x4 S).bind fun q116 => if q116.1 = 0 then f_X12_payments_134 (f_X12_payments_106 k37 n) x1 x2 x3 x4 (0 : Int32) q116.2 else f_X12_payments_134 (f_X12_payments_106 k37 n) x1 x2 x3 x4 (x3 &&& (((1 : Int32) <<< (x4 &&& 31)) ^^^ (-1 : Int32))) q116.2
noncomputable def f_X12_payments_95 (k61 : Int32 → Int32 → Int32 → Int32 → St → Option (Int32 × St)) (x1 : Int32) (x2 : Int32) (x3 : Int32) (x4 : Int32) (s1 : Int32) (s2 : Int32) (s3 : Int32) (S : St) : Option (Int32 × St) := if k_b s1 256 = true then k_let (sA S 69 s1.toNatClampNeg (s2 + s3)) fun S2 => k61 x1 x2 x3 (x4 + (1 : Int32)) S2 else none
noncomputable def f_X12_payments_61 (k37 : Int32 → Int32 → Int32 → St → Option (Int32 × St)) : Nat → Int32 → Int32 → Int32 → Int32 → St → Option (Int32 × St)
  | 0, _, _, _, _, _ => none
  | n + 1, x1, x2, x3, x4, S => if (8 : Int32) ≤ x4 then f_X12_payments_106 k37 FU x1 x2 x3 (0 : Int32) S else if k_b x3 256 = true then (f_X12_is x3 x4 S).bind fun q78 => if q78.1 = 0 then f_X12_payments_95 (f_X12_payments_61 k37 n) x1 x2 x3 x4 x3 (gA S 69 x3.toNatClampNeg) (0 : Int32) q78.2 else (f_X12_netOf x4 x1 q78.2).bind fun q88 => f_X12_payments_95 (f_X12_payments_61 k37 n) x1 x2 x3 x4 x3 (gA S 69 x3.toNatClampNeg) q88.1 q88.2 else none
noncomputable def f_X12_payments_37 : Nat → Int32 → Int32 → Int32 → St → Option (Int32 × St)
  | 0, _, _, _, _ => none
  | n + 1, x1, x2, x3, S => if (256 : Int32) ≤ x3 then (f_X12_bits x2 S).bind fun q231 => if k_b x2 256 = true then some (q231.1 - (gA q231.2 70 x2.toNatClampNeg), q231.2) else none else if k_b x3 256 = true then k_let (sA S 69 x3.toNatClampNeg (0 : Int32)) fun S3 => if k_b x3 256 = true then k_let (sA S3 70 x3.toNatClampNeg (0 : Int32)) fun S5 => f_X12_payments_61 (f_X12_payments_37 n) FU x1 x2 x3 (0 : Int32) S5 else none else none
noncomputable def f_X12_payments_27 (k4 : Int32 → Int32 → Int32 → St → Option (Int32 × St)) (x1 : Int32) (x3 : Int32) (s0 : Int32) (s1 : Int32) (S : St) : Option (Int32 × St) := k4 x1 (s0 ||| s1) (x3 + (1 : Int32)) S
noncomputable def f_X12_payments_4 : Nat → Int32 → Int32 → Int32 → St → Option (Int32 × St)
  | 0, _, _, _, _ => none
  | n + 1, x1, x2, x3, S => if (8 : Int32) ≤ x3 then f_X12_payments_37 FU x1 x2 (0 : Int32) S else (f_X12_netOf x3 x1 S).bind fun q14 => if q14.1 = 0 then f_X12_payments_27 (f_X12_payments_4 n) x1 x3 x2 (0 : Int32) q14.2 else f_X12_payments_27 (f_X12_payments_4 n) x1 x3 x2 ((1 : Int32) <<< (x3 &&& 31)) q14.2
noncomputable def f_X12_payments (x1 : Int32) (S : St) : Option (Int32 × St) := f_X12_payments_4 FU x1 (0 : Int32) (0 : Int32) S
set_option maxRecDepth 100000 in
set_option maxHeartbeats 4000000 in
theorem w_X12_payments_222 {D : k_D} {dy : Nat → Nat} {k37 : Int32 → Int32 → Int32 → St → Option (Int32 × St)} (hk37 : ∀ (x1 : Int32) (x2 : Int32) (x3 : Int32) (S : St) (out : Int32 × St), k37 x1 x2 x3 S = some out → Rn yX12_payments cX12_payments 6 (some .int) (k_rm 3) 0 0 D dy S (k_Pi dy out) 37 [(0, .ref (D.2.2 51)), (1, .int x1), (2, .int x2), (3, .int x3)] []) (x1 : Int32) (x2 : Int32) (x3 : Int32) (s1 : Int32) (s2 : Int32) (s3 : Int32) (S : St) (out : Int32 × St) (h : f_X12_payments_222 k37 x1 x2 x3 s1 s2 s3 S = some out) : Rn yX12_payments cX12_payments 6 (some .int) (k_rm 3) 0 0 D dy S (k_Pi dy out) 222 [(0, .ref (D.2.2 51)), (1, .int x1), (2, .int x2), (3, .int x3)] [.int s3, .int s2, .int s1, .ref (D.2.2 70)] := by
    unfold f_X12_payments_222 at h
    refine r_iadd dX12_payments_222 ?_
    obtain ⟨c1, h⟩ := g_ite h
    refine as_70 (k_b_in c1) dX12_payments_223 ?_
    generalize sA S 70 s1.toNatClampNeg (s2 + s3) = S2 at h ⊢
    replace h := g_let h
    refine r_iinc (q := 3) (v := x3 + (1 : Int32)) dX12_payments_224 rfl rfl (by decide) rfl ?_
    refine r_goto (t := 37) dX12_payments_227 (by decide) ?_
    refine r_sub [1, 2, 3, 0] rfl ?_
    exact hk37 _ _ _ _ _ h
set_option maxRecDepth 100000 in
set_option maxHeartbeats 4000000 in
theorem w_X12_payments_221 {D : k_D} {dy : Nat → Nat} {k37 : Int32 → Int32 → Int32 → St → Option (Int32 × St)} (hk37 : ∀ (x1 : Int32) (x2 : Int32) (x3 : Int32) (S : St) (out : Int32 × St), k37 x1 x2 x3 S = some out → Rn yX12_payments cX12_payments 6 (some .int) (k_rm 3) 0 0 D dy S (k_Pi dy out) 37 [(0, .ref (D.2.2 51)), (1, .int x1), (2, .int x2), (3, .int x3)] []) (x1 : Int32) (x2 : Int32) (x3 : Int32) (s1 : Int32) (s2 : Int32) (S : St) (out : Int32 × St) (h : f_X12_payments_221 k37 x1 x2 x3 s1 s2 S = some out) : Rn yX12_payments cX12_payments 6 (some .int) (k_rm 3) 0 0 D dy S (k_Pi dy out) 221 [(0, .ref (D.2.2 51)), (1, .int x1), (2, .int x2), (3, .int x3)] [.int s2, .int s1, .ref (D.2.2 70)] := by
    unfold f_X12_payments_221 at h
    refine r_iconst (v := 0) dX12_payments_221 rfl ?_
    exact w_X12_payments_222 hk37 _ _ _ _ _ _ _ _ h
set_option maxRecDepth 100000 in
set_option maxHeartbeats 4000000 in
theorem w_X12_payments_182 {D : k_D} {dy : Nat → Nat} {k106 : Int32 → Int32 → Int32 → Int32 → St → Option (Int32 × St)} (hk106 : ∀ (x1 : Int32) (x2 : Int32) (x3 : Int32) (x4 : Int32) (S : St) (out : Int32 × St), k106 x1 x2 x3 x4 S = some out → Rn yX12_payments cX12_payments 6 (some .int) (k_rm 3) 0 0 D dy S (k_Pi dy out) 106 [(0, .ref (D.2.2 51)), (1, .int x1), (2, .int x2), (3, .int x3), (4, .int x4)] []) (x1 : Int32) (x2 : Int32) (x3 : Int32) (x4 : Int32) (s1 : Int32) (s2 : Int32) (S : St) (out : Int32 × St) (h : f_X12_payments_182 k106 x1 x2 x3 x4 s1 s2 S = some out) : Rn yX12_payments cX12_payments 6 (some .int) (k_rm 3) 0 0 D dy S (k_Pi dy out) 182 [(0, .ref (D.2.2 51)), (1, .int x1), (2, .int x2), (3, .int x3), (4, .int x4)] [.int s2, .int s1, .ref (D.2.2 70)] := by
    unfold f_X12_payments_182 at h
    obtain ⟨c1, h⟩ := g_ite h
    refine as_70 (k_b_in c1) dX12_payments_182 ?_
    generalize sA S 70 s1.toNatClampNeg s2 = S2 at h ⊢
    replace h := g_let h
    refine r_iinc (q := 4) (v := x4 + (1 : Int32)) dX12_payments_183 rfl rfl (by decide) rfl ?_
    refine r_goto (t := 106) dX12_payments_186 (by decide) ?_
    refine r_sub [1, 2, 3, 4, 0] rfl ?_
    exact hk106 _ _ _ _ _ _ h
set_option maxRecDepth 100000 in
set_option maxHeartbeats 4000000 in
theorem w_X12_payments_176 {D : k_D} {dy : Nat → Nat} {k106 : Int32 → Int32 → Int32 → Int32 → St → Option (Int32 × St)} (hk106 : ∀ (x1 : Int32) (x2 : Int32) (x3 : Int32) (x4 : Int32) (S : St) (out : Int32 × St), k106 x1 x2 x3 x4 S = some out → Rn yX12_payments cX12_payments 6 (some .int) (k_rm 3) 0 0 D dy S (k_Pi dy out) 106 [(0, .ref (D.2.2 51)), (1, .int x1), (2, .int x2), (3, .int x3), (4, .int x4)] []) (x1 : Int32) (x2 : Int32) (x3 : Int32) (x4 : Int32) (s1 : Int32) (S : St) (out : Int32 × St) (h : f_X12_payments_176 k106 x1 x2 x3 x4 s1 S = some out) : Rn yX12_payments cX12_payments 6 (some .int) (k_rm 3) 0 0 D dy S (k_Pi dy out) 176 [(0, .ref (D.2.2 51)), (1, .int x1), (2, .int x2), (3, .int x3), (4, .int x4)] [.int s1, .ref (D.2.2 70)] := by
    unfold f_X12_payments_176 at h
    refine r_aload_n 0 dX12_payments_176 rfl rfl ?_
    refine gf_51_37 q_1348 dX12_payments_177 ?_
    refine r_iload_n 3 dX12_payments_180 rfl rfl ?_
    obtain ⟨c1, h⟩ := g_ite h
    refine al_70 (k_b_in c1) dX12_payments_181 ?_
    exact w_X12_payments_182 hk106 _ _ _ _ _ _ _ _ h
set_option maxRecDepth 100000 in
set_option maxHeartbeats 4000000 in
theorem w_X12_payments_134 {D : k_D} {dy : Nat → Nat} {k106 : Int32 → Int32 → Int32 → Int32 → St → Option (Int32 × St)} (hk106 : ∀ (x1 : Int32) (x2 : Int32) (x3 : Int32) (x4 : Int32) (S : St) (out : Int32 × St), k106 x1 x2 x3 x4 S = some out → Rn yX12_payments cX12_payments 6 (some .int) (k_rm 3) 0 0 D dy S (k_Pi dy out) 106 [(0, .ref (D.2.2 51)), (1, .int x1), (2, .int x2), (3, .int x3), (4, .int x4)] []) (x1 : Int32) (x2 : Int32) (x3 : Int32) (x4 : Int32) (s0 : Int32) (S : St) (out : Int32 × St) (h : f_X12_payments_134 k106 x1 x2 x3 x4 s0 S = some out) : Rn yX12_payments cX12_payments 6 (some .int) (k_rm 3) 0 0 D dy S (k_Pi dy out) 134 [(0, .ref (D.2.2 51)), (1, .int x1), (2, .int x2), (3, .int x3), (4, .int x4)] [.int s0] := by
    unfold f_X12_payments_134 at h
    refine r_istore dX12_payments_134 (by decide) rfl ?_
    refine r_aload_n 1 dX12_payments_136 rfl rfl ?_
    refine gf_51_37 q_1348 dX12_payments_137 ?_
    refine r_iload_n 4 dX12_payments_140 rfl rfl ?_
    refine r_iload_n 4 dX12_payments_141 rfl rfl ?_
    refine r_iload 5 dX12_payments_142 rfl ?_
    obtain ⟨q144, hq144, h⟩ := g_bind h
    refine r_callSi [.int x3, .int x4] [.int x3, .ref (D.2.2 70)] q144 (ok_X12_is hq144) q_1750 q_1751 q_1752 q_153 hd_X12_is ⟨Nat.le_of_ble_eq_true rfl, Nat.le_of_ble_eq_true rfl⟩ rfl rfl (Nat.le_of_ble_eq_true rfl) dX12_payments_144 ?_
    refine r_if_eq (t := 176) dX12_payments_147 (by decide) (fun c => ?_) (fun c => ?_)
    · rw [if_pos c] at h
      refine r_sub [1, 2, 3, 4, 5] rfl ?_
      exact w_X12_payments_176 hk106 _ _ _ _ _ _ _ h
    · rw [if_neg c] at h
      refine r_aload_n 1 dX12_payments_150 rfl rfl ?_
      refine gf_51_37 q_1348 dX12_payments_151 ?_
      refine r_iload 0 dX12_payments_154 rfl ?_
      obtain ⟨c1, h⟩ := g_ite h
      refine al_70 (k_b_in c1) dX12_payments_156 ?_
      refine r_aload_n 1 dX12_payments_157 rfl rfl ?_
      refine gf_51_37 q_1348 dX12_payments_158 ?_
      refine r_iload_n 4 dX12_payments_161 rfl rfl ?_
      obtain ⟨c2, h⟩ := g_ite h
      refine al_70 (k_b_in c2) dX12_payments_162 ?_
      refine r_icmp_le (t := 176) dX12_payments_163 (by decide) (fun c => ?_) (fun c => ?_)
      · rw [if_pos c] at h
        refine r_sub [1, 2, 3, 4, 5] rfl ?_
        exact w_X12_payments_176 hk106 _ _ _ _ _ _ _ h
      · rw [if_neg c] at h
        refine r_aload_n 1 dX12_payments_166 rfl rfl ?_
        refine gf_51_37 q_1348 dX12_payments_167 ?_
        refine r_iload 0 dX12_payments_170 rfl ?_
        obtain ⟨c3, h⟩ := g_ite h
        refine al_70 (k_b_in c3) dX12_payments_172 ?_
        refine r_goto (t := 182) dX12_payments_173 (by decide) ?_
        refine r_sub [1, 2, 3, 4, 5] rfl ?_
        exact w_X12_payments_182 hk106 _ _ _ _ _ _ _ _ h
set_option maxRecDepth 100000 in
set_option maxHeartbeats 4000000 in
theorem w_X12_payments_106 {D : k_D} {dy : Nat → Nat} {k37 : Int32 → Int32 → Int32 → St → Option (Int32 × St)} (hk37 : ∀ (x1 : Int32) (x2 : Int32) (x3 : Int32) (S : St) (out : Int32 × St), k37 x1 x2 x3 S = some out → Rn yX12_payments cX12_payments 6 (some .int) (k_rm 3) 0 0 D dy S (k_Pi dy out) 37 [(0, .ref (D.2.2 51)), (1, .int x1), (2, .int x2), (3, .int x3)] []) : ∀ (n : Nat) (x1 : Int32) (x2 : Int32) (x3 : Int32) (x4 : Int32) (S : St) (out : Int32 × St), f_X12_payments_106 k37 n x1 x2 x3 x4 S = some out → Rn yX12_payments cX12_payments 6 (some .int) (k_rm 3) 0 0 D dy S (k_Pi dy out) 106 [(0, .ref (D.2.2 51)), (1, .int x1), (2, .int x2), (3, .int x3), (4, .int x4)] [] := by
  intro n
  induction n with
  | zero => intro x1 x2 x3 x4 S out h; cases h
  | succ n ih =>
    intro x1 x2 x3 x4 S out h
    rw [f_X12_payments_106] at h
    refine r_iload 4 dX12_payments_106 rfl ?_
    refine r_bipush (v := 8) dX12_payments_108 rfl ?_
    refine r_icmp_ge (t := 189) dX12_payments_110 (by decide) (fun c => ?_) (fun c => ?_)
    · rw [if_pos c] at h
      refine r_aload_n 0 dX12_payments_189 rfl rfl ?_
      refine gf_51_37 q_1348 dX12_payments_190 ?_
      refine r_iload_n 3 dX12_payments_193 rfl rfl ?_
      refine r_dup2 dX12_payments_194 rfl rfl ?_
      obtain ⟨c1, h⟩ := g_ite h
      refine al_70 (k_b_in c1) dX12_payments_195 ?_
      refine r_iload_n 3 dX12_payments_196 rfl rfl ?_
      refine r_if_eq (t := 221) dX12_payments_197 (by decide) (fun c => ?_) (fun c => ?_)
      · rw [if_pos c] at h
        refine r_sub [0, 1, 2, 3] rfl ?_
        exact w_X12_payments_221 hk37 _ _ _ _ _ _ _ h
      · rw [if_neg c] at h
        refine r_iload_n 3 dX12_payments_200 rfl rfl ?_
        refine r_iload_n 2 dX12_payments_201 rfl rfl ?_
        refine r_iconst (v := -1) dX12_payments_202 rfl ?_
        refine r_ixor dX12_payments_203 ?_
        refine r_iand dX12_payments_204 ?_
        refine r_if_ne (t := 221) dX12_payments_205 (by decide) (fun c => ?_) (fun c => ?_)
        · rw [if_neg c] at h
          refine r_sub [0, 1, 2, 3] rfl ?_
          exact w_X12_payments_221 hk37 _ _ _ _ _ _ _ h
        · rw [if_pos c] at h
          refine r_aload_n 0 dX12_payments_208 rfl rfl ?_
          refine gf_51_36 q_1347 dX12_payments_209 ?_
          refine r_iload_n 3 dX12_payments_212 rfl rfl ?_
          obtain ⟨c2, h⟩ := g_ite h
          refine al_69 (k_b_in c2) dX12_payments_213 ?_
          refine r_if_ne (t := 221) dX12_payments_214 (by decide) (fun c => ?_) (fun c => ?_)
          · rw [if_neg c] at h
            refine r_sub [0, 1, 2, 3] rfl ?_
            exact w_X12_payments_221 hk37 _ _ _ _ _ _ _ h
          · rw [if_pos c] at h
            refine r_iconst (v := 1) dX12_payments_217 rfl ?_
            refine r_goto (t := 222) dX12_payments_218 (by decide) ?_
            refine r_sub [0, 1, 2, 3] rfl ?_
            exact w_X12_payments_222 hk37 _ _ _ _ _ _ _ _ h
    · rw [if_neg c] at h
      refine r_iload_n 3 dX12_payments_113 rfl rfl ?_
      refine r_iload 4 dX12_payments_114 rfl ?_
      obtain ⟨q116, hq116, h⟩ := g_bind h
      refine r_callSi [.int x3, .int x4] [] q116 (ok_X12_is hq116) q_1750 q_1751 q_1752 q_153 hd_X12_is ⟨Nat.le_of_ble_eq_true rfl, Nat.le_of_ble_eq_true rfl⟩ rfl rfl (Nat.le_of_ble_eq_true rfl) dX12_payments_116 ?_
      refine r_if_eq (t := 133) dX12_payments_119 (by decide) (fun c => ?_) (fun c => ?_)
      · rw [if_pos c] at h
        refine r_iconst (v := 0) dX12_payments_133 rfl ?_
        exact w_X12_payments_134 ih _ _ _ _ _ _ _ h
      · rw [if_neg c] at h
        refine r_iload_n 3 dX12_payments_122 rfl rfl ?_
        refine r_iconst (v := 1) dX12_payments_123 rfl ?_
        refine r_iload 4 dX12_payments_124 rfl ?_
        refine r_ishl dX12_payments_126 ?_
        refine r_iconst (v := -1) dX12_payments_127 rfl ?_
        refine r_ixor dX12_payments_128 ?_
        refine r_iand dX12_payments_129 ?_
        refine r_goto (t := 134) dX12_payments_130 (by decide) ?_
        exact w_X12_payments_134 ih _ _ _ _ _ _ _ h
set_option maxRecDepth 100000 in
set_option maxHeartbeats 4000000 in
theorem w_X12_payments_95 {D : k_D} {dy : Nat → Nat} {k61 : Int32 → Int32 → Int32 → Int32 → St → Option (Int32 × St)} (hk61 : ∀ (x1 : Int32) (x2 : Int32) (x3 : Int32) (x4 : Int32) (S : St) (out : Int32 × St), k61 x1 x2 x3 x4 S = some out → Rn yX12_payments cX12_payments 6 (some .int) (k_rm 3) 0 0 D dy S (k_Pi dy out) 61 [(0, .ref (D.2.2 51)), (1, .int x1), (2, .int x2), (3, .int x3), (4, .int x4)] []) (x1 : Int32) (x2 : Int32) (x3 : Int32) (x4 : Int32) (s1 : Int32) (s2 : Int32) (s3 : Int32) (S : St) (out : Int32 × St) (h : f_X12_payments_95 k61 x1 x2 x3 x4 s1 s2 s3 S = some out) : Rn yX12_payments cX12_payments 6 (some .int) (k_rm 3) 0 0 D dy S (k_Pi dy out) 95 [(0, .ref (D.2.2 51)), (1, .int x1), (2, .int x2), (3, .int x3), (4, .int x4)] [.int s3, .int s2, .int s1, .ref (D.2.2 69)] := by
    unfold f_X12_payments_95 at h
    refine r_iadd dX12_payments_95 ?_
    obtain ⟨c1, h⟩ := g_ite h
    refine as_69 (k_b_in c1) dX12_payments_96 ?_
    generalize sA S 69 s1.toNatClampNeg (s2 + s3) = S2 at h ⊢
    replace h := g_let h
    refine r_iinc (q := 4) (v := x4 + (1 : Int32)) dX12_payments_97 rfl rfl (by decide) rfl ?_
    refine r_goto (t := 61) dX12_payments_100 (by decide) ?_
    refine r_sub [1, 2, 3, 4, 0] rfl ?_
    exact hk61 _ _ _ _ _ _ h
set_option maxRecDepth 100000 in
set_option maxHeartbeats 4000000 in
theorem w_X12_payments_61 {D : k_D} {dy : Nat → Nat} {k37 : Int32 → Int32 → Int32 → St → Option (Int32 × St)} (hk37 : ∀ (x1 : Int32) (x2 : Int32) (x3 : Int32) (S : St) (out : Int32 × St), k37 x1 x2 x3 S = some out → Rn yX12_payments cX12_payments 6 (some .int) (k_rm 3) 0 0 D dy S (k_Pi dy out) 37 [(0, .ref (D.2.2 51)), (1, .int x1), (2, .int x2), (3, .int x3)] []) : ∀ (n : Nat) (x1 : Int32) (x2 : Int32) (x3 : Int32) (x4 : Int32) (S : St) (out : Int32 × St), f_X12_payments_61 k37 n x1 x2 x3 x4 S = some out → Rn yX12_payments cX12_payments 6 (some .int) (k_rm 3) 0 0 D dy S (k_Pi dy out) 61 [(0, .ref (D.2.2 51)), (1, .int x1), (2, .int x2), (3, .int x3), (4, .int x4)] [] := by
  intro n
  induction n with
  | zero => intro x1 x2 x3 x4 S out h; cases h
  | succ n ih =>
    intro x1 x2 x3 x4 S out h
    rw [f_X12_payments_61] at h
    refine r_iload 4 dX12_payments_61 rfl ?_
    refine r_bipush (v := 8) dX12_payments_63 rfl ?_
    refine r_icmp_ge (t := 103) dX12_payments_65 (by decide) (fun c => ?_) (fun c => ?_)
    · rw [if_pos c] at h
      refine r_iconst (v := 0) dX12_payments_103 rfl ?_
      refine r_istore dX12_payments_104 (by decide) rfl ?_
      refine r_sub [1, 2, 3, 4, 0] rfl ?_
      exact w_X12_payments_106 hk37 _ _ _ _ _ _ _ h
    · rw [if_neg c] at h
      refine r_aload_n 0 dX12_payments_68 rfl rfl ?_
      refine gf_51_36 q_1347 dX12_payments_69 ?_
      refine r_iload_n 3 dX12_payments_72 rfl rfl ?_
      refine r_dup2 dX12_payments_73 rfl rfl ?_
      obtain ⟨c1, h⟩ := g_ite h
      refine al_69 (k_b_in c1) dX12_payments_74 ?_
      refine r_iload_n 3 dX12_payments_75 rfl rfl ?_
      refine r_iload 4 dX12_payments_76 rfl ?_
      obtain ⟨q78, hq78, h⟩ := g_bind h
      refine r_callSi [.int x3, .int x4] [.int (gA S 69 x3.toNatClampNeg), .int x3, .ref (D.2.2 69)] q78 (ok_X12_is hq78) q_1750 q_1751 q_1752 q_153 hd_X12_is ⟨Nat.le_of_ble_eq_true rfl, Nat.le_of_ble_eq_true rfl⟩ rfl rfl (Nat.le_of_ble_eq_true rfl) dX12_payments_78 ?_
      refine r_if_eq (t := 94) dX12_payments_81 (by decide) (fun c => ?_) (fun c => ?_)
      · rw [if_pos c] at h
        refine r_iconst (v := 0) dX12_payments_94 rfl ?_
        exact w_X12_payments_95 ih _ _ _ _ _ _ _ _ _ h
      · rw [if_neg c] at h
        refine r_aload_n 0 dX12_payments_84 rfl rfl ?_
        refine r_iload 4 dX12_payments_85 rfl ?_
        refine r_iload_n 1 dX12_payments_87 rfl rfl ?_
        obtain ⟨q88, hq88, h⟩ := g_bind h
        refine r_callVi [.int x4, .int x1] [.int (gA S 69 x3.toNatClampNeg), .int x3, .ref (D.2.2 69)] q88 (ok_X12_netOf hq88) q_1733 q_1735 q_124 q_1736 q_153 hd_X12_netOf (ce_51 D dy _) kc12.1 rfl ⟨Nat.le_of_ble_eq_true rfl, Nat.le_of_ble_eq_true rfl⟩ rfl rfl (Nat.le_of_ble_eq_true rfl) dX12_payments_88 ?_
        refine r_goto (t := 95) dX12_payments_91 (by decide) ?_
        exact w_X12_payments_95 ih _ _ _ _ _ _ _ _ _ h
set_option maxRecDepth 100000 in
set_option maxHeartbeats 4000000 in
theorem w_X12_payments_37 {D : k_D} {dy : Nat → Nat} : ∀ (n : Nat) (x1 : Int32) (x2 : Int32) (x3 : Int32) (S : St) (out : Int32 × St), f_X12_payments_37 n x1 x2 x3 S = some out → Rn yX12_payments cX12_payments 6 (some .int) (k_rm 3) 0 0 D dy S (k_Pi dy out) 37 [(0, .ref (D.2.2 51)), (1, .int x1), (2, .int x2), (3, .int x3)] [] := by
  intro n
  induction n with
  | zero => intro x1 x2 x3 S out h; cases h
  | succ n ih =>
    intro x1 x2 x3 S out h
    rw [f_X12_payments_37] at h
    refine r_iload_n 3 dX12_payments_37 rfl rfl ?_
    refine r_sipush (v := 256) dX12_payments_38 rfl ?_
    refine r_icmp_ge (t := 230) dX12_payments_41 (by decide) (fun c => ?_) (fun c => ?_)
    · rw [if_pos c] at h
      refine r_iload_n 2 dX12_payments_230 rfl rfl ?_
      obtain ⟨q231, hq231, h⟩ := g_bind h
      refine r_callSi [.int x2] [] q231 (ok_X12_bits hq231) q_1753 q_1754 q_1755 q_153 hd_X12_bits ⟨Nat.le_of_ble_eq_true rfl, Nat.le_of_ble_eq_true rfl⟩ rfl rfl (Nat.le_of_ble_eq_true rfl) dX12_payments_231 ?_
      refine r_aload_n 0 dX12_payments_234 rfl rfl ?_
      refine gf_51_37 q_1348 dX12_payments_235 ?_
      refine r_iload_n 2 dX12_payments_238 rfl rfl ?_
      obtain ⟨c1, h⟩ := g_ite h
      refine al_70 (k_b_in c1) dX12_payments_239 ?_
      refine r_isub dX12_payments_240 ?_
      cases h
      exact r_iret rfl dX12_payments_241 ⟨rfl, rfl, rfl⟩
    · rw [if_neg c] at h
      refine r_aload_n 0 dX12_payments_44 rfl rfl ?_
      refine gf_51_36 q_1347 dX12_payments_45 ?_
      refine r_iload_n 3 dX12_payments_48 rfl rfl ?_
      refine r_iconst (v := 0) dX12_payments_49 rfl ?_
      obtain ⟨c2, h⟩ := g_ite h
      refine as_69 (k_b_in c2) dX12_payments_50 ?_
      generalize sA S 69 x3.toNatClampNeg (0 : Int32) = S3 at h ⊢
      replace h := g_let h
      refine r_aload_n 0 dX12_payments_51 rfl rfl ?_
      refine gf_51_37 q_1348 dX12_payments_52 ?_
      refine r_iload_n 3 dX12_payments_55 rfl rfl ?_
      refine r_iconst (v := 0) dX12_payments_56 rfl ?_
      obtain ⟨c4, h⟩ := g_ite h
      refine as_70 (k_b_in c4) dX12_payments_57 ?_
      generalize sA S3 70 x3.toNatClampNeg (0 : Int32) = S5 at h ⊢
      replace h := g_let h
      refine r_iconst (v := 0) dX12_payments_58 rfl ?_
      refine r_istore dX12_payments_59 (by decide) rfl ?_
      refine r_sub [1, 2, 3, 4, 0] rfl ?_
      exact w_X12_payments_61 ih _ _ _ _ _ _ _ h
set_option maxRecDepth 100000 in
set_option maxHeartbeats 4000000 in
theorem w_X12_payments_27 {D : k_D} {dy : Nat → Nat} {k4 : Int32 → Int32 → Int32 → St → Option (Int32 × St)} (hk4 : ∀ (x1 : Int32) (x2 : Int32) (x3 : Int32) (S : St) (out : Int32 × St), k4 x1 x2 x3 S = some out → Rn yX12_payments cX12_payments 6 (some .int) (k_rm 3) 0 0 D dy S (k_Pi dy out) 4 [(0, .ref (D.2.2 51)), (1, .int x1), (2, .int x2), (3, .int x3)] []) (x1 : Int32) (x3 : Int32) (s0 : Int32) (s1 : Int32) (S : St) (out : Int32 × St) (h : f_X12_payments_27 k4 x1 x3 s0 s1 S = some out) : Rn yX12_payments cX12_payments 6 (some .int) (k_rm 3) 0 0 D dy S (k_Pi dy out) 27 [(0, .ref (D.2.2 51)), (1, .int x1), (3, .int x3)] [.int s1, .int s0] := by
    unfold f_X12_payments_27 at h
    refine r_ior dX12_payments_27 ?_
    refine r_istore_n dX12_payments_28 rfl (by decide) rfl ?_
    refine r_iinc (q := 3) (v := x3 + (1 : Int32)) dX12_payments_29 rfl rfl (by decide) rfl ?_
    refine r_goto (t := 4) dX12_payments_32 (by decide) ?_
    refine r_sub [2, 3, 1, 0] rfl ?_
    exact hk4 _ _ _ _ _ h
set_option maxRecDepth 100000 in
set_option maxHeartbeats 4000000 in
theorem w_X12_payments_4 {D : k_D} {dy : Nat → Nat} : ∀ (n : Nat) (x1 : Int32) (x2 : Int32) (x3 : Int32) (S : St) (out : Int32 × St), f_X12_payments_4 n x1 x2 x3 S = some out → Rn yX12_payments cX12_payments 6 (some .int) (k_rm 3) 0 0 D dy S (k_Pi dy out) 4 [(0, .ref (D.2.2 51)), (1, .int x1), (2, .int x2), (3, .int x3)] [] := by
  intro n
  induction n with
  | zero => intro x1 x2 x3 S out h; cases h
  | succ n ih =>
    intro x1 x2 x3 S out h
    rw [f_X12_payments_4] at h
    refine r_iload_n 3 dX12_payments_4 rfl rfl ?_
    refine r_bipush (v := 8) dX12_payments_5 rfl ?_
    refine r_icmp_ge (t := 35) dX12_payments_7 (by decide) (fun c => ?_) (fun c => ?_)
    · rw [if_pos c] at h
      refine r_iconst (v := 0) dX12_payments_35 rfl ?_
      refine r_istore_n dX12_payments_36 rfl (by decide) rfl ?_
      refine r_sub [1, 2, 3, 0] rfl ?_
      exact w_X12_payments_37 _ _ _ _ _ _ h
    · rw [if_neg c] at h
      refine r_iload_n 2 dX12_payments_10 rfl rfl ?_
      refine r_aload_n 0 dX12_payments_11 rfl rfl ?_
      refine r_iload_n 3 dX12_payments_12 rfl rfl ?_
      refine r_iload_n 1 dX12_payments_13 rfl rfl ?_
      obtain ⟨q14, hq14, h⟩ := g_bind h
      refine r_callVi [.int x3, .int x1] [.int x2] q14 (ok_X12_netOf hq14) q_1733 q_1735 q_124 q_1736 q_153 hd_X12_netOf (ce_51 D dy _) kc12.1 rfl ⟨Nat.le_of_ble_eq_true rfl, Nat.le_of_ble_eq_true rfl⟩ rfl rfl (Nat.le_of_ble_eq_true rfl) dX12_payments_14 ?_
      refine r_if_ne (t := 24) dX12_payments_17 (by decide) (fun c => ?_) (fun c => ?_)
      · rw [if_neg c] at h
        refine r_iconst (v := 1) dX12_payments_24 rfl ?_
        refine r_iload_n 3 dX12_payments_25 rfl rfl ?_
        refine r_ishl dX12_payments_26 ?_
        refine r_sub [0, 1, 3] rfl ?_
        exact w_X12_payments_27 ih _ _ _ _ _ _ h
      · rw [if_pos c] at h
        refine r_iconst (v := 0) dX12_payments_20 rfl ?_
        refine r_goto (t := 27) dX12_payments_21 (by decide) ?_
        refine r_sub [0, 1, 3] rfl ?_
        exact w_X12_payments_27 ih _ _ _ _ _ _ h
set_option maxRecDepth 100000 in
set_option maxHeartbeats 4000000 in
theorem w_X12_payments_0 {D : k_D} {dy : Nat → Nat} (x1 : Int32) (S : St) (out : Int32 × St) (h : f_X12_payments x1 S = some out) : Rn yX12_payments cX12_payments 6 (some .int) (k_rm 3) 0 0 D dy S (k_Pi dy out) 0 [(0, .ref (D.2.2 51)), (1, .int x1)] [] := by
    unfold f_X12_payments at h
    refine r_iconst (v := 0) dX12_payments_0 rfl ?_
    refine r_istore_n dX12_payments_1 rfl (by decide) rfl ?_
    refine r_iconst (v := 0) dX12_payments_2 rfl ?_
    refine r_istore_n dX12_payments_3 rfl (by decide) rfl ?_
    refine r_sub [2, 3, 1, 0] rfl ?_
    exact w_X12_payments_4 _ _ _ _ _ _ h
theorem ok_X12_payments {D : k_D} {dy : Nat → Nat} {x1 : Int32} {S : St} {out : Int32 × St} (h : f_X12_payments x1 S = some out) : Sp yX12_payments cX12_payments 6 (some .int) (k_rm 3) D dy S [.ref (D.2.2 51), .int x1] (k_Pi dy out) := Sp.of (by decide +kernel) (Nat.le_of_ble_eq_true rfl) (w_X12_payments_0 _ S out h)
noncomputable def f_X12_left_25 (S : St) : Option (Int32 × St) := some ((-1 : Int32), S)
noncomputable def f_X12_left_134 (x3 : Int32) (S : St) : Option (Int32 × St) := some (x3, S)
noncomputable def f_X12_left_126 (k93 : Int32 → Int32 → Int32 → Int32 → St → Option (Int32 × St)) (x1 : Int32) (x2 : Int32) (x4 : Int32) (s0 : Int32) (s1 : Int32) (S : St) : Option (Int32 × St) := k93 x1 x2 (s0 + s1) (x4 + (1 : Int32)) S
noncomputable def f_X12_left_93 : Nat → Int32 → Int32 → Int32 → Int32 → St → Option (Int32 × St)
  | 0, _, _, _, _, _ => none
  | n + 1, x1, x2, x3, x4, S => if (8 : Int32) ≤ x4 then f_X12_left_134 x3 S else if x2 = (1 : Int32) then (f_X12_netOf x4 x1 S).bind fun q109 => if q109.1 ≤ 0 then f_X12_left_126 (f_X12_left_93 n) x1 x2 x4 x3 (0 : Int32) q109.2 else f_X12_left_126 (f_X12_left_93 n) x1 x2 x4 x3 q109.1 q109.2 else f_X12_left_134 x3 S
noncomputable def f_X12_left_90 (x1 : Int32) (x2 : Int32) (x3 : Int32) (S : St) : Option (Int32 × St) := f_X12_left_93 FU x1 x2 x3 (0 : Int32) S
noncomputable def f_X12_left_82 (k47 : Int32 → Int32 → Int32 → Int32 → St → Option (Int32 × St)) (x1 : Int32) (x2 : Int32) (x4 : Int32) (s0 : Int32) (s1 : Int32) (S : St) : Option (Int32 × St) := k47 x1 x2 (s0 + s1) (x4 + (1 : Int32)) S
noncomputable def f_X12_left_47 : Nat → Int32 → Int32 → Int32 → Int32 → St → Option (Int32 × St)
  | 0, _, _, _, _, _ => none
  | n + 1, x1, x2, x3, x4, S => (f_X12_debts S).bind fun q50 => if q50.1 ≤ x4 then f_X12_left_90 x1 x2 x3 q50.2 else if x2 = 0 then (f_X12_counts x4 x1 q50.2).bind fun q65 => if q65.1 = 0 then f_X12_left_82 (f_X12_left_47 n) x1 x2 x4 x3 (0 : Int32) q65.2 else (f_X12_ofDebt x4 (3 : Int32) q65.2).bind fun q75 => f_X12_left_82 (f_X12_left_47 n) x1 x2 x4 x3 q75.1 q75.2 else f_X12_left_90 x1 x2 x3 q50.2
noncomputable def f_X12_left (x1 : Int32) (x2 : Int32) (S : St) : Option (Int32 × St) := k_let (sI S 33 (0 : Int32)) fun S1 => (f_X12_isTune x1 S1).bind fun q7 => if q7.1 = 0 then f_X12_left_25 q7.2 else (f_X12_in x2.toInt64 (0 : Int64) (2 : Int64) q7.2).bind fun q19 => if q19.1 = 0 then f_X12_left_25 q19.2 else (f_X12_askAll q19.2).bind fun q28 => if x2 = (2 : Int32) then (f_X12_payments x1 q28).bind fun q38 => some (q38.1, q38.2) else f_X12_left_47 FU x1 x2 (0 : Int32) (0 : Int32) q28
set_option maxRecDepth 100000 in
set_option maxHeartbeats 4000000 in
theorem w_X12_left_25 {D : k_D} {dy : Nat → Nat} (S : St) (out : Int32 × St) (h : f_X12_left_25 S = some out) : Rn yX12_left cX12_left 6 (some .int) (k_rm 5) 0 0 D dy S (k_Pi dy out) 25 [] [] := by
    unfold f_X12_left_25 at h
    refine r_iconst (v := -1) dX12_left_25 rfl ?_
    cases h
    exact r_iret rfl dX12_left_26 ⟨rfl, rfl, rfl⟩
set_option maxRecDepth 100000 in
set_option maxHeartbeats 4000000 in
theorem w_X12_left_134 {D : k_D} {dy : Nat → Nat} (x3 : Int32) (S : St) (out : Int32 × St) (h : f_X12_left_134 x3 S = some out) : Rn yX12_left cX12_left 6 (some .int) (k_rm 5) 0 0 D dy S (k_Pi dy out) 134 [(3, .int x3)] [] := by
    unfold f_X12_left_134 at h
    refine r_iload_n 0 dX12_left_134 rfl rfl ?_
    cases h
    exact r_iret rfl dX12_left_135 ⟨rfl, rfl, rfl⟩
set_option maxRecDepth 100000 in
set_option maxHeartbeats 4000000 in
theorem w_X12_left_126 {D : k_D} {dy : Nat → Nat} {k93 : Int32 → Int32 → Int32 → Int32 → St → Option (Int32 × St)} (hk93 : ∀ (x1 : Int32) (x2 : Int32) (x3 : Int32) (x4 : Int32) (S : St) (out : Int32 × St), k93 x1 x2 x3 x4 S = some out → Rn yX12_left cX12_left 6 (some .int) (k_rm 5) 0 0 D dy S (k_Pi dy out) 93 [(0, .ref (D.2.2 51)), (1, .int x1), (2, .int x2), (3, .int x3), (4, .int x4)] []) (x1 : Int32) (x2 : Int32) (x4 : Int32) (s0 : Int32) (s1 : Int32) (S : St) (out : Int32 × St) (h : f_X12_left_126 k93 x1 x2 x4 s0 s1 S = some out) : Rn yX12_left cX12_left 6 (some .int) (k_rm 5) 0 0 D dy S (k_Pi dy out) 126 [(0, .ref (D.2.2 51)), (1, .int x1), (2, .int x2), (4, .int x4)] [.int s1, .int s0] := by
    unfold f_X12_left_126 at h
    refine r_iadd dX12_left_126 ?_
    refine r_istore_n dX12_left_127 rfl (by decide) rfl ?_
    refine r_iinc (q := 4) (v := x4 + (1 : Int32)) dX12_left_128 rfl rfl (by decide) rfl ?_
    refine r_goto (t := 93) dX12_left_131 (by decide) ?_
    refine r_sub [2, 3, 4, 1, 0] rfl ?_
    exact hk93 _ _ _ _ _ _ h
set_option maxRecDepth 100000 in
set_option maxHeartbeats 4000000 in
theorem w_X12_left_93 {D : k_D} {dy : Nat → Nat} : ∀ (n : Nat) (x1 : Int32) (x2 : Int32) (x3 : Int32) (x4 : Int32) (S : St) (out : Int32 × St), f_X12_left_93 n x1 x2 x3 x4 S = some out → Rn yX12_left cX12_left 6 (some .int) (k_rm 5) 0 0 D dy S (k_Pi dy out) 93 [(0, .ref (D.2.2 51)), (1, .int x1), (2, .int x2), (3, .int x3), (4, .int x4)] [] := by
  intro n
  induction n with
  | zero => intro x1 x2 x3 x4 S out h; cases h
  | succ n ih =>
    intro x1 x2 x3 x4 S out h
    rw [f_X12_left_93] at h
    refine r_iload 4 dX12_left_93 rfl ?_
    refine r_bipush (v := 8) dX12_left_95 rfl ?_
    refine r_icmp_ge (t := 134) dX12_left_97 (by decide) (fun c => ?_) (fun c => ?_)
    · rw [if_pos c] at h
      refine r_sub [3] rfl ?_
      exact w_X12_left_134 _ _ _ h
    · rw [if_neg c] at h
      refine r_iload_n 2 dX12_left_100 rfl rfl ?_
      refine r_iconst (v := 1) dX12_left_101 rfl ?_
      refine r_icmp_ne (t := 134) dX12_left_102 (by decide) (fun c => ?_) (fun c => ?_)
      · rw [if_neg c] at h
        refine r_sub [3] rfl ?_
        exact w_X12_left_134 _ _ _ h
      · rw [if_pos c] at h
        refine r_aload_n 0 dX12_left_105 rfl rfl ?_
        refine r_iload 4 dX12_left_106 rfl ?_
        refine r_iload_n 1 dX12_left_108 rfl rfl ?_
        obtain ⟨q109, hq109, h⟩ := g_bind h
        refine r_callVi [.int x4, .int x1] [] q109 (ok_X12_netOf hq109) q_1733 q_1735 q_124 q_1736 q_153 hd_X12_netOf (ce_51 D dy _) kc12.1 rfl ⟨Nat.le_of_ble_eq_true rfl, Nat.le_of_ble_eq_true rfl⟩ rfl rfl (Nat.le_of_ble_eq_true rfl) dX12_left_109 ?_
        refine r_istore dX12_left_112 (by decide) rfl ?_
        refine r_iload_n 4 dX12_left_114 rfl rfl ?_
        refine r_iload 0 dX12_left_115 rfl ?_
        refine r_if_le (t := 125) dX12_left_117 (by decide) (fun c => ?_) (fun c => ?_)
        · rw [if_pos c] at h
          refine r_iconst (v := 0) dX12_left_125 rfl ?_
          refine r_sub [1, 2, 3, 5] rfl ?_
          exact w_X12_left_126 ih _ _ _ _ _ _ _ h
        · rw [if_neg c] at h
          refine r_iload 0 dX12_left_120 rfl ?_
          refine r_goto (t := 126) dX12_left_122 (by decide) ?_
          refine r_sub [1, 2, 3, 5] rfl ?_
          exact w_X12_left_126 ih _ _ _ _ _ _ _ h
set_option maxRecDepth 100000 in
set_option maxHeartbeats 4000000 in
theorem w_X12_left_90 {D : k_D} {dy : Nat → Nat} (x1 : Int32) (x2 : Int32) (x3 : Int32) (S : St) (out : Int32 × St) (h : f_X12_left_90 x1 x2 x3 S = some out) : Rn yX12_left cX12_left 6 (some .int) (k_rm 5) 0 0 D dy S (k_Pi dy out) 90 [(0, .ref (D.2.2 51)), (1, .int x1), (2, .int x2), (3, .int x3)] [] := by
    unfold f_X12_left_90 at h
    refine r_iconst (v := 0) dX12_left_90 rfl ?_
    refine r_istore dX12_left_91 (by decide) rfl ?_
    refine r_sub [1, 2, 3, 4, 0] rfl ?_
    exact w_X12_left_93 _ _ _ _ _ _ _ h
set_option maxRecDepth 100000 in
set_option maxHeartbeats 4000000 in
theorem w_X12_left_82 {D : k_D} {dy : Nat → Nat} {k47 : Int32 → Int32 → Int32 → Int32 → St → Option (Int32 × St)} (hk47 : ∀ (x1 : Int32) (x2 : Int32) (x3 : Int32) (x4 : Int32) (S : St) (out : Int32 × St), k47 x1 x2 x3 x4 S = some out → Rn yX12_left cX12_left 6 (some .int) (k_rm 5) 0 0 D dy S (k_Pi dy out) 47 [(0, .ref (D.2.2 51)), (1, .int x1), (2, .int x2), (3, .int x3), (4, .int x4)] []) (x1 : Int32) (x2 : Int32) (x4 : Int32) (s0 : Int32) (s1 : Int32) (S : St) (out : Int32 × St) (h : f_X12_left_82 k47 x1 x2 x4 s0 s1 S = some out) : Rn yX12_left cX12_left 6 (some .int) (k_rm 5) 0 0 D dy S (k_Pi dy out) 82 [(0, .ref (D.2.2 51)), (1, .int x1), (2, .int x2), (4, .int x4)] [.int s1, .int s0] := by
    unfold f_X12_left_82 at h
    refine r_iadd dX12_left_82 ?_
    refine r_istore_n dX12_left_83 rfl (by decide) rfl ?_
    refine r_iinc (q := 4) (v := x4 + (1 : Int32)) dX12_left_84 rfl rfl (by decide) rfl ?_
    refine r_goto (t := 47) dX12_left_87 (by decide) ?_
    refine r_sub [2, 3, 4, 1, 0] rfl ?_
    exact hk47 _ _ _ _ _ _ h
set_option maxRecDepth 100000 in
set_option maxHeartbeats 4000000 in
theorem w_X12_left_47 {D : k_D} {dy : Nat → Nat} : ∀ (n : Nat) (x1 : Int32) (x2 : Int32) (x3 : Int32) (x4 : Int32) (S : St) (out : Int32 × St), f_X12_left_47 n x1 x2 x3 x4 S = some out → Rn yX12_left cX12_left 6 (some .int) (k_rm 5) 0 0 D dy S (k_Pi dy out) 47 [(0, .ref (D.2.2 51)), (1, .int x1), (2, .int x2), (3, .int x3), (4, .int x4)] [] := by
  intro n
  induction n with
  | zero => intro x1 x2 x3 x4 S out h; cases h
  | succ n ih =>
    intro x1 x2 x3 x4 S out h
    rw [f_X12_left_47] at h
    refine r_iload 4 dX12_left_47 rfl ?_
    refine r_aload_n 0 dX12_left_49 rfl rfl ?_
    obtain ⟨q50, hq50, h⟩ := g_bind h
    refine r_callVi [] [.int x4] q50 (ok_X12_debts hq50) q_1517 q_1519 q_91 q_1520 q_153 hd_X12_debts (ce_51 D dy _) kc12.1 rfl ⟨Nat.le_of_ble_eq_true rfl, Nat.le_of_ble_eq_true rfl⟩ rfl rfl (Nat.le_of_ble_eq_true rfl) dX12_left_50 ?_
    refine r_icmp_ge (t := 90) dX12_left_53 (by decide) (fun c => ?_) (fun c => ?_)
    · rw [if_pos c] at h
      refine r_sub [0, 1, 2, 3] rfl ?_
      exact w_X12_left_90 _ _ _ _ _ h
    · rw [if_neg c] at h
      refine r_iload_n 2 dX12_left_56 rfl rfl ?_
      refine r_if_ne (t := 90) dX12_left_57 (by decide) (fun c => ?_) (fun c => ?_)
      · rw [if_neg c] at h
        refine r_sub [0, 1, 2, 3] rfl ?_
        exact w_X12_left_90 _ _ _ _ _ h
      · rw [if_pos c] at h
        refine r_iload_n 3 dX12_left_60 rfl rfl ?_
        refine r_aload_n 0 dX12_left_61 rfl rfl ?_
        refine r_iload 4 dX12_left_62 rfl ?_
        refine r_iload_n 1 dX12_left_64 rfl rfl ?_
        obtain ⟨q65, hq65, h⟩ := g_bind h
        refine r_callVi [.int x4, .int x1] [.int x3] q65 (ok_X12_counts hq65) q_1737 q_1739 q_125 q_1740 q_153 hd_X12_counts (ce_51 D dy _) kc12.1 rfl ⟨Nat.le_of_ble_eq_true rfl, Nat.le_of_ble_eq_true rfl⟩ rfl rfl (Nat.le_of_ble_eq_true rfl) dX12_left_65 ?_
        refine r_if_eq (t := 81) dX12_left_68 (by decide) (fun c => ?_) (fun c => ?_)
        · rw [if_pos c] at h
          refine r_iconst (v := 0) dX12_left_81 rfl ?_
          refine r_sub [0, 1, 2, 4] rfl ?_
          exact w_X12_left_82 ih _ _ _ _ _ _ _ h
        · rw [if_neg c] at h
          refine r_aload_n 0 dX12_left_71 rfl rfl ?_
          refine r_iload 4 dX12_left_72 rfl ?_
          refine r_iconst (v := 3) dX12_left_74 rfl ?_
          obtain ⟨q75, hq75, h⟩ := g_bind h
          refine r_callVi [.int x4, .int (3 : Int32)] [.int x3] q75 (ok_X12_ofDebt hq75) q_1533 q_1535 q_94 q_1536 q_153 hd_X12_ofDebt (ce_51 D dy _) kc12.1 rfl ⟨Nat.le_of_ble_eq_true rfl, Nat.le_of_ble_eq_true rfl⟩ rfl rfl (Nat.le_of_ble_eq_true rfl) dX12_left_75 ?_
          refine r_goto (t := 82) dX12_left_78 (by decide) ?_
          refine r_sub [0, 1, 2, 4] rfl ?_
          exact w_X12_left_82 ih _ _ _ _ _ _ _ h
set_option maxRecDepth 100000 in
set_option maxHeartbeats 4000000 in
theorem w_X12_left_0 {D : k_D} {dy : Nat → Nat} (x1 : Int32) (x2 : Int32) (S : St) (out : Int32 × St) (h : f_X12_left x1 x2 S = some out) : Rn yX12_left cX12_left 6 (some .int) (k_rm 5) 0 0 D dy S (k_Pi dy out) 0 [(0, .ref (D.2.2 51)), (1, .int x1), (2, .int x2)] [] := by
    unfold f_X12_left at h
    refine r_aload_n 0 dX12_left_0 rfl rfl ?_
    refine r_iconst (v := 0) dX12_left_1 rfl ?_
    refine pf_51_0 q_1311 dX12_left_2 ?_
    generalize sI S 33 (0 : Int32) = S1 at h ⊢
    replace h := g_let h
    refine r_aload_n 0 dX12_left_5 rfl rfl ?_
    refine r_iload_n 1 dX12_left_6 rfl rfl ?_
    obtain ⟨q7, hq7, h⟩ := g_bind h
    refine r_callVi [.int x1] [] q7 (ok_X12_isTune hq7) q_1501 q_1503 q_90 q_1504 q_153 hd_X12_isTune (ce_51 D dy _) kc12.1 rfl ⟨Nat.le_of_ble_eq_true rfl, Nat.le_of_ble_eq_true rfl⟩ rfl rfl (Nat.le_of_ble_eq_true rfl) dX12_left_7 ?_
    refine r_if_eq (t := 25) dX12_left_10 (by decide) (fun c => ?_) (fun c => ?_)
    · rw [if_pos c] at h
      refine r_sub [] rfl ?_
      exact w_X12_left_25 _ _ h
    · rw [if_neg c] at h
      refine r_iload_n 2 dX12_left_13 rfl rfl ?_
      refine r_i2l dX12_left_14 ?_
      refine r_lconst (v := 0) dX12_left_15 rfl ?_
      refine r_ldc2 (v := 2) q_1745 dX12_left_16 ?_
      obtain ⟨q19, hq19, h⟩ := g_bind h
      refine r_callSi [.long x2.toInt64, .long (0 : Int64), .long (2 : Int64)] [] q19 (ok_X12_in hq19) q_1481 q_1482 q_1483 q_153 hd_X12_in ⟨Nat.le_of_ble_eq_true rfl, Nat.le_of_ble_eq_true rfl⟩ rfl rfl (Nat.le_of_ble_eq_true rfl) dX12_left_19 ?_
      refine r_if_ne (t := 27) dX12_left_22 (by decide) (fun c => ?_) (fun c => ?_)
      · rw [if_neg c] at h
        refine r_aload_n 0 dX12_left_27 rfl rfl ?_
        obtain ⟨q28, hq28, h⟩ := g_bind h
        refine r_callVv [] [] q28 (ok_X12_askAll hq28) q_1537 q_1539 q_95 q_1540 q_153 hd_X12_askAll (ce_51 D dy _) kc12.1 rfl ⟨Nat.le_of_ble_eq_true rfl, Nat.le_of_ble_eq_true rfl⟩ rfl rfl (Nat.le_of_ble_eq_true rfl) dX12_left_28 ?_
        refine r_iload_n 2 dX12_left_31 rfl rfl ?_
        refine r_iconst (v := 2) dX12_left_32 rfl ?_
        refine r_icmp_ne (t := 42) dX12_left_33 (by decide) (fun c => ?_) (fun c => ?_)
        · rw [if_neg c] at h
          refine r_iconst (v := 0) dX12_left_42 rfl ?_
          refine r_istore_n dX12_left_43 rfl (by decide) rfl ?_
          refine r_iconst (v := 0) dX12_left_44 rfl ?_
          refine r_istore dX12_left_45 (by decide) rfl ?_
          refine r_sub [2, 3, 4, 1, 0] rfl ?_
          exact w_X12_left_47 _ _ _ _ _ _ _ h
        · rw [if_pos c] at h
          refine r_aload_n 0 dX12_left_36 rfl rfl ?_
          refine r_iload_n 1 dX12_left_37 rfl rfl ?_
          obtain ⟨q38, hq38, h⟩ := g_bind h
          refine r_callVi [.int x1] [] q38 (ok_X12_payments hq38) q_1746 q_1748 q_126 q_1749 q_153 hd_X12_payments (ce_51 D dy _) kc12.1 rfl ⟨Nat.le_of_ble_eq_true rfl, Nat.le_of_ble_eq_true rfl⟩ rfl rfl (Nat.le_of_ble_eq_true rfl) dX12_left_38 ?_
          cases h
          exact r_iret rfl dX12_left_41 ⟨rfl, rfl, rfl⟩
      · rw [if_pos c] at h
        refine r_sub [] rfl ?_
        exact w_X12_left_25 _ _ h
theorem ok_X12_left {D : k_D} {dy : Nat → Nat} {x1 : Int32} {x2 : Int32} {S : St} {out : Int32 × St} (h : f_X12_left x1 x2 S = some out) : Sp yX12_left cX12_left 6 (some .int) (k_rm 5) D dy S [.ref (D.2.2 51), .int x1, .int x2] (k_Pi dy out) := Sp.of (by decide +kernel) (Nat.le_of_ble_eq_true rfl) (w_X12_left_0 _ _ S out h)
noncomputable def f_X12_between_60 (k6 : Int32 → Int32 → Int32 → Int32 → Int32 → St → Option (Int32 × St)) (x1 : Int32) (x2 : Int32) (x3 : Int32) (x5 : Int32) (s0 : Int32) (s1 : Int32) (S : St) : Option (Int32 × St) := k6 x1 x2 x3 (s0 + s1) (x5 + (1 : Int32)) S
noncomputable def f_X12_between_59 (k6 : Int32 → Int32 → Int32 → Int32 → Int32 → St → Option (Int32 × St)) (x1 : Int32) (x2 : Int32) (x3 : Int32) (x5 : Int32) (s0 : Int32) (S : St) : Option (Int32 × St) := f_X12_between_60 k6 x1 x2 x3 x5 s0 (0 : Int32) S
noncomputable def f_X12_between_6 : Nat → Int32 → Int32 → Int32 → Int32 → Int32 → St → Option (Int32 × St)
  | 0, _, _, _, _, _, _ => none
  | n + 1, x1, x2, x3, x4, x5, S => (f_X12_debts S).bind fun q9 => if q9.1 ≤ x5 then some (x4, q9.2) else (f_X12_counts x5 x3 q9.2).bind fun q21 => if q21.1 = 0 then f_X12_between_59 (f_X12_between_6 n) x1 x2 x3 x5 x4 q21.2 else (f_X12_ofDebt x5 (0 : Int32) q21.2).bind fun q31 => if q31.1 = x1 then (f_X12_ofDebt x5 (1 : Int32) q31.2).bind fun q42 => if q42.1 = x2 then (f_X12_ofDebt x5 (3 : Int32) q42.2).bind fun q53 => f_X12_between_60 (f_X12_between_6 n) x1 x2 x3 x5 x4 q53.1 q53.2 else f_X12_between_59 (f_X12_between_6 n) x1 x2 x3 x5 x4 q42.2 else f_X12_between_59 (f_X12_between_6 n) x1 x2 x3 x5 x4 q31.2
noncomputable def f_X12_between (x1 : Int32) (x2 : Int32) (x3 : Int32) (S : St) : Option (Int32 × St) := f_X12_between_6 FU x1 x2 x3 (0 : Int32) (0 : Int32) S
set_option maxRecDepth 100000 in
set_option maxHeartbeats 4000000 in
theorem w_X12_between_60 {D : k_D} {dy : Nat → Nat} {k6 : Int32 → Int32 → Int32 → Int32 → Int32 → St → Option (Int32 × St)} (hk6 : ∀ (x1 : Int32) (x2 : Int32) (x3 : Int32) (x4 : Int32) (x5 : Int32) (S : St) (out : Int32 × St), k6 x1 x2 x3 x4 x5 S = some out → Rn yX12_between cX12_between 6 (some .int) (k_rm 2) 0 0 D dy S (k_Pi dy out) 6 [(0, .ref (D.2.2 51)), (1, .int x1), (2, .int x2), (3, .int x3), (4, .int x4), (5, .int x5)] []) (x1 : Int32) (x2 : Int32) (x3 : Int32) (x5 : Int32) (s0 : Int32) (s1 : Int32) (S : St) (out : Int32 × St) (h : f_X12_between_60 k6 x1 x2 x3 x5 s0 s1 S = some out) : Rn yX12_between cX12_between 6 (some .int) (k_rm 2) 0 0 D dy S (k_Pi dy out) 60 [(0, .ref (D.2.2 51)), (1, .int x1), (2, .int x2), (3, .int x3), (5, .int x5)] [.int s1, .int s0] := by
    unfold f_X12_between_60 at h
    refine r_iadd dX12_between_60 ?_
    refine r_istore dX12_between_61 (by decide) rfl ?_
    refine r_iinc (q := 5) (v := x5 + (1 : Int32)) dX12_between_63 rfl rfl (by decide) rfl ?_
    refine r_goto (t := 6) dX12_between_66 (by decide) ?_
    refine r_sub [2, 3, 4, 5, 1, 0] rfl ?_
    exact hk6 _ _ _ _ _ _ _ h
set_option maxRecDepth 100000 in
set_option maxHeartbeats 4000000 in
theorem w_X12_between_59 {D : k_D} {dy : Nat → Nat} {k6 : Int32 → Int32 → Int32 → Int32 → Int32 → St → Option (Int32 × St)} (hk6 : ∀ (x1 : Int32) (x2 : Int32) (x3 : Int32) (x4 : Int32) (x5 : Int32) (S : St) (out : Int32 × St), k6 x1 x2 x3 x4 x5 S = some out → Rn yX12_between cX12_between 6 (some .int) (k_rm 2) 0 0 D dy S (k_Pi dy out) 6 [(0, .ref (D.2.2 51)), (1, .int x1), (2, .int x2), (3, .int x3), (4, .int x4), (5, .int x5)] []) (x1 : Int32) (x2 : Int32) (x3 : Int32) (x5 : Int32) (s0 : Int32) (S : St) (out : Int32 × St) (h : f_X12_between_59 k6 x1 x2 x3 x5 s0 S = some out) : Rn yX12_between cX12_between 6 (some .int) (k_rm 2) 0 0 D dy S (k_Pi dy out) 59 [(0, .ref (D.2.2 51)), (1, .int x1), (2, .int x2), (3, .int x3), (5, .int x5)] [.int s0] := by
    unfold f_X12_between_59 at h
    refine r_iconst (v := 0) dX12_between_59 rfl ?_
    exact w_X12_between_60 hk6 _ _ _ _ _ _ _ _ h
set_option maxRecDepth 100000 in
set_option maxHeartbeats 4000000 in
theorem w_X12_between_6 {D : k_D} {dy : Nat → Nat} : ∀ (n : Nat) (x1 : Int32) (x2 : Int32) (x3 : Int32) (x4 : Int32) (x5 : Int32) (S : St) (out : Int32 × St), f_X12_between_6 n x1 x2 x3 x4 x5 S = some out → Rn yX12_between cX12_between 6 (some .int) (k_rm 2) 0 0 D dy S (k_Pi dy out) 6 [(0, .ref (D.2.2 51)), (1, .int x1), (2, .int x2), (3, .int x3), (4, .int x4), (5, .int x5)] [] := by
  intro n
  induction n with
  | zero => intro x1 x2 x3 x4 x5 S out h; cases h
  | succ n ih =>
    intro x1 x2 x3 x4 x5 S out h
    rw [f_X12_between_6] at h
    refine r_iload 5 dX12_between_6 rfl ?_
    refine r_aload_n 0 dX12_between_8 rfl rfl ?_
    obtain ⟨q9, hq9, h⟩ := g_bind h
    refine r_callVi [] [.int x5] q9 (ok_X12_debts hq9) q_1517 q_1519 q_91 q_1520 q_153 hd_X12_debts (ce_51 D dy _) kc12.1 rfl ⟨Nat.le_of_ble_eq_true rfl, Nat.le_of_ble_eq_true rfl⟩ rfl rfl (Nat.le_of_ble_eq_true rfl) dX12_between_9 ?_
    refine r_icmp_ge (t := 69) dX12_between_12 (by decide) (fun c => ?_) (fun c => ?_)
    · rw [if_pos c] at h
      refine r_iload 4 dX12_between_69 rfl ?_
      cases h
      exact r_iret rfl dX12_between_71 ⟨rfl, rfl, rfl⟩
    · rw [if_neg c] at h
      refine r_iload 4 dX12_between_15 rfl ?_
      refine r_aload_n 0 dX12_between_17 rfl rfl ?_
      refine r_iload 5 dX12_between_18 rfl ?_
      refine r_iload_n 3 dX12_between_20 rfl rfl ?_
      obtain ⟨q21, hq21, h⟩ := g_bind h
      refine r_callVi [.int x5, .int x3] [.int x4] q21 (ok_X12_counts hq21) q_1737 q_1739 q_125 q_1740 q_153 hd_X12_counts (ce_51 D dy _) kc12.1 rfl ⟨Nat.le_of_ble_eq_true rfl, Nat.le_of_ble_eq_true rfl⟩ rfl rfl (Nat.le_of_ble_eq_true rfl) dX12_between_21 ?_
      refine r_if_eq (t := 59) dX12_between_24 (by decide) (fun c => ?_) (fun c => ?_)
      · rw [if_pos c] at h
        refine r_sub [0, 1, 2, 3, 5] rfl ?_
        exact w_X12_between_59 ih _ _ _ _ _ _ _ h
      · rw [if_neg c] at h
        refine r_aload_n 0 dX12_between_27 rfl rfl ?_
        refine r_iload 5 dX12_between_28 rfl ?_
        refine r_iconst (v := 0) dX12_between_30 rfl ?_
        obtain ⟨q31, hq31, h⟩ := g_bind h
        refine r_callVi [.int x5, .int (0 : Int32)] [.int x4] q31 (ok_X12_ofDebt hq31) q_1533 q_1535 q_94 q_1536 q_153 hd_X12_ofDebt (ce_51 D dy _) kc12.1 rfl ⟨Nat.le_of_ble_eq_true rfl, Nat.le_of_ble_eq_true rfl⟩ rfl rfl (Nat.le_of_ble_eq_true rfl) dX12_between_31 ?_
        refine r_iload_n 1 dX12_between_34 rfl rfl ?_
        refine r_icmp_ne (t := 59) dX12_between_35 (by decide) (fun c => ?_) (fun c => ?_)
        · rw [if_neg c] at h
          refine r_sub [0, 1, 2, 3, 5] rfl ?_
          exact w_X12_between_59 ih _ _ _ _ _ _ _ h
        · rw [if_pos c] at h
          refine r_aload_n 0 dX12_between_38 rfl rfl ?_
          refine r_iload 5 dX12_between_39 rfl ?_
          refine r_iconst (v := 1) dX12_between_41 rfl ?_
          obtain ⟨q42, hq42, h⟩ := g_bind h
          refine r_callVi [.int x5, .int (1 : Int32)] [.int x4] q42 (ok_X12_ofDebt hq42) q_1533 q_1535 q_94 q_1536 q_153 hd_X12_ofDebt (ce_51 D dy _) kc12.1 rfl ⟨Nat.le_of_ble_eq_true rfl, Nat.le_of_ble_eq_true rfl⟩ rfl rfl (Nat.le_of_ble_eq_true rfl) dX12_between_42 ?_
          refine r_iload_n 2 dX12_between_45 rfl rfl ?_
          refine r_icmp_ne (t := 59) dX12_between_46 (by decide) (fun c => ?_) (fun c => ?_)
          · rw [if_neg c] at h
            refine r_sub [0, 1, 2, 3, 5] rfl ?_
            exact w_X12_between_59 ih _ _ _ _ _ _ _ h
          · rw [if_pos c] at h
            refine r_aload_n 0 dX12_between_49 rfl rfl ?_
            refine r_iload 5 dX12_between_50 rfl ?_
            refine r_iconst (v := 3) dX12_between_52 rfl ?_
            obtain ⟨q53, hq53, h⟩ := g_bind h
            refine r_callVi [.int x5, .int (3 : Int32)] [.int x4] q53 (ok_X12_ofDebt hq53) q_1533 q_1535 q_94 q_1536 q_153 hd_X12_ofDebt (ce_51 D dy _) kc12.1 rfl ⟨Nat.le_of_ble_eq_true rfl, Nat.le_of_ble_eq_true rfl⟩ rfl rfl (Nat.le_of_ble_eq_true rfl) dX12_between_53 ?_
            refine r_goto (t := 60) dX12_between_56 (by decide) ?_
            refine r_sub [0, 1, 2, 3, 5] rfl ?_
            exact w_X12_between_60 ih _ _ _ _ _ _ _ _ h
set_option maxRecDepth 100000 in
set_option maxHeartbeats 4000000 in
theorem w_X12_between_0 {D : k_D} {dy : Nat → Nat} (x1 : Int32) (x2 : Int32) (x3 : Int32) (S : St) (out : Int32 × St) (h : f_X12_between x1 x2 x3 S = some out) : Rn yX12_between cX12_between 6 (some .int) (k_rm 2) 0 0 D dy S (k_Pi dy out) 0 [(0, .ref (D.2.2 51)), (1, .int x1), (2, .int x2), (3, .int x3)] [] := by
    unfold f_X12_between at h
    refine r_iconst (v := 0) dX12_between_0 rfl ?_
    refine r_istore dX12_between_1 (by decide) rfl ?_
    refine r_iconst (v := 0) dX12_between_3 rfl ?_
    refine r_istore dX12_between_4 (by decide) rfl ?_
    refine r_sub [2, 3, 4, 5, 1, 0] rfl ?_
    exact w_X12_between_6 _ _ _ _ _ _ _ _ h
theorem ok_X12_between {D : k_D} {dy : Nat → Nat} {x1 : Int32} {x2 : Int32} {x3 : Int32} {S : St} {out : Int32 × St} (h : f_X12_between x1 x2 x3 S = some out) : Sp yX12_between cX12_between 6 (some .int) (k_rm 2) D dy S [.ref (D.2.2 51), .int x1, .int x2, .int x3] (k_Pi dy out) := Sp.of (by decide +kernel) (Nat.le_of_ble_eq_true rfl) (w_X12_between_0 _ _ _ S out h)
noncomputable def f_X12_keepRing_66 (S : St) : Option (St) := some S
noncomputable def f_X12_keepRing_43 : Nat → Int32 → Int32 → St → Option (St)
  | 0, _, _, _ => none
  | n + 1, x1, x3, S => if x1 ≤ x3 then f_X12_keepRing_66 S else if k_b x3 9 = true then if k_b x3 8 = true then k_let (sA S 73 x3.toNatClampNeg (gA S 72 x3.toNatClampNeg)) fun S3 => f_X12_keepRing_43 n x1 (x3 + (1 : Int32)) S3 else none else none
noncomputable def f_X12_keepRing_31 (x1 : Int32) (x2 : Int32) (S : St) : Option (St) := k_let (sI S 49 x1) fun S1 => k_let (sI S1 50 x2) fun S2 => f_X12_keepRing_43 FU x1 (0 : Int32) S2
noncomputable def f_X12_keepRing (x1 : Int32) (x2 : Int32) (S : St) : Option (St) := if (gI S 49) = 0 then f_X12_keepRing_31 x1 x2 S else if x1 < (gI S 49) then f_X12_keepRing_31 x1 x2 S else if x1 = (gI S 49) then if (gI S 50) ≤ x2 then f_X12_keepRing_66 S else f_X12_keepRing_31 x1 x2 S else f_X12_keepRing_66 S
set_option maxRecDepth 100000 in
set_option maxHeartbeats 4000000 in
theorem w_X12_keepRing_66 {D : k_D} {dy : Nat → Nat} (S : St) (out : St) (h : f_X12_keepRing_66 S = some out) : Rn yX12_keepRing cX12_keepRing 4 none (k_rm 0) 0 0 D dy S (k_Pv dy out) 66 [] [] := by
    unfold f_X12_keepRing_66 at h
    exact r_vret rfl dX12_keepRing_66 ⟨rfl, rfl, Option.some.inj h⟩
set_option maxRecDepth 100000 in
set_option maxHeartbeats 4000000 in
theorem w_X12_keepRing_43 {D : k_D} {dy : Nat → Nat} : ∀ (n : Nat) (x1 : Int32) (x3 : Int32) (S : St) (out : St), f_X12_keepRing_43 n x1 x3 S = some out → Rn yX12_keepRing cX12_keepRing 4 none (k_rm 0) 0 0 D dy S (k_Pv dy out) 43 [(0, .ref (D.2.2 51)), (1, .int x1), (3, .int x3)] [] := by
  intro n
  induction n with
  | zero => intro x1 x3 S out h; cases h
  | succ n ih =>
    intro x1 x3 S out h
    rw [f_X12_keepRing_43] at h
    refine r_iload_n 2 dX12_keepRing_43 rfl rfl ?_
    refine r_iload_n 1 dX12_keepRing_44 rfl rfl ?_
    refine r_icmp_ge (t := 66) dX12_keepRing_45 (by decide) (fun c => ?_) (fun c => ?_)
    · rw [if_pos c] at h
      refine r_sub [] rfl ?_
      exact w_X12_keepRing_66 _ _ h
    · rw [if_neg c] at h
      refine r_aload_n 0 dX12_keepRing_48 rfl rfl ?_
      refine gf_51_40 q_1351 dX12_keepRing_49 ?_
      refine r_iload_n 2 dX12_keepRing_52 rfl rfl ?_
      refine r_aload_n 0 dX12_keepRing_53 rfl rfl ?_
      refine gf_51_39 q_1350 dX12_keepRing_54 ?_
      refine r_iload_n 2 dX12_keepRing_57 rfl rfl ?_
      obtain ⟨c1, h⟩ := g_ite h
      refine al_72 (k_b_in c1) dX12_keepRing_58 ?_
      obtain ⟨c2, h⟩ := g_ite h
      refine as_73 (k_b_in c2) dX12_keepRing_59 ?_
      generalize sA S 73 x3.toNatClampNeg (gA S 72 x3.toNatClampNeg) = S3 at h ⊢
      replace h := g_let h
      refine r_iinc (q := 2) (v := x3 + (1 : Int32)) dX12_keepRing_60 rfl rfl (by decide) rfl ?_
      refine r_goto (t := 43) dX12_keepRing_63 (by decide) ?_
      refine r_sub [1, 2, 0] rfl ?_
      exact ih _ _ _ _ h
set_option maxRecDepth 100000 in
set_option maxHeartbeats 4000000 in
theorem w_X12_keepRing_31 {D : k_D} {dy : Nat → Nat} (x1 : Int32) (x2 : Int32) (S : St) (out : St) (h : f_X12_keepRing_31 x1 x2 S = some out) : Rn yX12_keepRing cX12_keepRing 4 none (k_rm 0) 0 0 D dy S (k_Pv dy out) 31 [(0, .ref (D.2.2 51)), (1, .int x1), (2, .int x2)] [] := by
    unfold f_X12_keepRing_31 at h
    refine r_aload_n 0 dX12_keepRing_31 rfl rfl ?_
    refine r_iload_n 1 dX12_keepRing_32 rfl rfl ?_
    refine pf_51_41 q_1352 dX12_keepRing_33 ?_
    generalize sI S 49 x1 = S1 at h ⊢
    replace h := g_let h
    refine r_aload_n 0 dX12_keepRing_36 rfl rfl ?_
    refine r_iload_n 2 dX12_keepRing_37 rfl rfl ?_
    refine pf_51_42 q_1353 dX12_keepRing_38 ?_
    generalize sI S1 50 x2 = S2 at h ⊢
    replace h := g_let h
    refine r_iconst (v := 0) dX12_keepRing_41 rfl ?_
    refine r_istore_n dX12_keepRing_42 rfl (by decide) rfl ?_
    refine r_sub [1, 2, 0] rfl ?_
    exact w_X12_keepRing_43 _ _ _ _ _ h
set_option maxRecDepth 100000 in
set_option maxHeartbeats 4000000 in
theorem w_X12_keepRing_0 {D : k_D} {dy : Nat → Nat} (x1 : Int32) (x2 : Int32) (S : St) (out : St) (h : f_X12_keepRing x1 x2 S = some out) : Rn yX12_keepRing cX12_keepRing 4 none (k_rm 0) 0 0 D dy S (k_Pv dy out) 0 [(0, .ref (D.2.2 51)), (1, .int x1), (2, .int x2)] [] := by
    unfold f_X12_keepRing at h
    refine r_aload_n 0 dX12_keepRing_0 rfl rfl ?_
    refine gf_51_41 q_1352 dX12_keepRing_1 ?_
    refine r_if_eq (t := 31) dX12_keepRing_4 (by decide) (fun c => ?_) (fun c => ?_)
    · rw [if_pos c] at h
      exact w_X12_keepRing_31 _ _ _ _ h
    · rw [if_neg c] at h
      refine r_iload_n 1 dX12_keepRing_7 rfl rfl ?_
      refine r_aload_n 0 dX12_keepRing_8 rfl rfl ?_
      refine gf_51_41 q_1352 dX12_keepRing_9 ?_
      refine r_icmp_lt (t := 31) dX12_keepRing_12 (by decide) (fun c => ?_) (fun c => ?_)
      · rw [if_pos c] at h
        exact w_X12_keepRing_31 _ _ _ _ h
      · rw [if_neg c] at h
        refine r_iload_n 1 dX12_keepRing_15 rfl rfl ?_
        refine r_aload_n 0 dX12_keepRing_16 rfl rfl ?_
        refine gf_51_41 q_1352 dX12_keepRing_17 ?_
        refine r_icmp_ne (t := 66) dX12_keepRing_20 (by decide) (fun c => ?_) (fun c => ?_)
        · rw [if_neg c] at h
          refine r_sub [] rfl ?_
          exact w_X12_keepRing_66 _ _ h
        · rw [if_pos c] at h
          refine r_iload_n 2 dX12_keepRing_23 rfl rfl ?_
          refine r_aload_n 0 dX12_keepRing_24 rfl rfl ?_
          refine gf_51_42 q_1353 dX12_keepRing_25 ?_
          refine r_icmp_ge (t := 66) dX12_keepRing_28 (by decide) (fun c => ?_) (fun c => ?_)
          · rw [if_pos c] at h
            refine r_sub [] rfl ?_
            exact w_X12_keepRing_66 _ _ h
          · rw [if_neg c] at h
            exact w_X12_keepRing_31 _ _ _ _ h
theorem ok_X12_keepRing {D : k_D} {dy : Nat → Nat} {x1 : Int32} {x2 : Int32} {S : St} {out : St} (h : f_X12_keepRing x1 x2 S = some out) : Sp yX12_keepRing cX12_keepRing 4 none (k_rm 0) D dy S [.ref (D.2.2 51), .int x1, .int x2] (k_Pv dy out) := Sp.of (by decide +kernel) (Nat.le_of_ble_eq_true rfl) (w_X12_keepRing_0 _ _ S out h)
