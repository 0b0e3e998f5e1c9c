noncomputable def f_X12_bands_22 (S : St) : Option (Int32 × St) := some ((-1 : Int32), S)
noncomputable def f_X12_bands_274 (s0 : Int32) (S : St) : Option (Int32 × St) := some (s0, S)
noncomputable def f_X12_bands_257 (k134 : Int32 → Int32 → Int32 → Int32 → Int32 → Int32 → St → Option (Int32 × St)) (x2 : Int32) (x3 : Int32) (x4 : Int32) (x5 : Int32) (x6 : Int32) (x7 : Int32) (S : St) : Option (Int32 × St) := k134 x2 x3 x4 x5 x6 (x7 + (1 : Int32)) S
noncomputable def f_X12_bands_255 (k134 : Int32 → Int32 → Int32 → Int32 → Int32 → Int32 → St → Option (Int32 × St)) (x2 : Int32) (x3 : Int32) (x4 : Int32) (x6 : Int32) (x7 : Int32) (s0 : Int32) (S : St) : Option (Int32 × St) := f_X12_bands_257 k134 x2 x3 x4 s0 x6 x7 S
noncomputable def f_X12_bands_239 (k134 : Int32 → Int32 → Int32 → Int32 → Int32 → Int32 → St → Option (Int32 × St)) (x2 : Int32) (x3 : Int32) (x4 : Int32) (x5 : Int32) (x7 : Int32) (x9 : Int32) (s0 : Int32) (S : St) : Option (Int32 × St) := if x5 ≤ x9 then f_X12_bands_255 k134 x2 x3 x4 s0 x7 x5 S else f_X12_bands_255 k134 x2 x3 x4 s0 x7 x9 S
noncomputable def f_X12_bands_223 (k134 : Int32 → Int32 → Int32 → Int32 → Int32 → Int32 → St → Option (Int32 × St)) (x2 : Int32) (x3 : Int32) (x4 : Int32) (x5 : Int32) (x6 : Int32) (x7 : Int32) (s0 : Int32) (S : St) : Option (Int32 × St) := if x5 ≤ s0 then f_X12_bands_239 k134 x2 x3 x4 x5 x7 s0 x6 S else f_X12_bands_239 k134 x2 x3 x4 x5 x7 s0 x7 S
noncomputable def f_X12_bands_194 (k155 : Int32 → Int32 → Int32 → Int32 → Int32 → Int32 → Int32 → Int32 → St → Option (Int32 × St)) (x2 : Int32) (x3 : Int32) (x4 : Int32) (x5 : Int32) (x6 : Int32) (x7 : Int32) (x9 : Int32) (s0 : Int32) (s1 : Int32) (S : St) : Option (Int32 × St) := k155 x2 x3 x4 x5 x6 x7 (s0 + s1) (x9 + (1 : Int32)) S
noncomputable def f_X12_bands_155 (k134 : Int32 → Int32 → Int32 → Int32 → Int32 → Int32 → St → Option (Int32 × St)) : Nat → Int32 → Int32 → Int32 → Int32 → Int32 → Int32 → Int32 → Int32 → St → Option (Int32 × St)
  | 0, _, _, _, _, _, _, _, _, _ => none
  | n + 1, x2, x3, x4, x5, x6, x7, x8, x9, S => (f_X12_debts S).bind fun q158 => if q158.1 ≤ x9 then if x8 ≤ (x4 - x8) then f_X12_bands_223 k134 x2 x3 x4 x5 x6 x7 (x4 - x8) q158.2 else f_X12_bands_223 k134 x2 x3 x4 x5 x6 x7 x8 q158.2 else (f_X12_is x7 x9 q158.2).bind fun q170 => if q170.1 = 0 then f_X12_bands_194 (f_X12_bands_155 k134 n) x2 x3 x4 x5 x6 x7 x9 x8 (0 : Int32) q170.2 else (f_X12_ofDebt x9 (3 : Int32) q170.2).bind fun q180 => (f_X12_lengthOf x9 q180.2).bind fun q186 => f_X12_bands_194 (f_X12_bands_155 k134 n) x2 x3 x4 x5 x6 x7 x9 x8 (q180.1 * q186.1) q186.2
noncomputable def f_X12_bands_134 : Nat → Int32 → Int32 → Int32 → Int32 → Int32 → Int32 → St → Option (Int32 × St)
  | 0, _, _, _, _, _, _, _ => none
  | n + 1, x2, x3, x4, x5, x6, x7, S => if x3 < x7 then if x2 = 0 then f_X12_bands_274 x5 S else f_X12_bands_274 x6 S else if (x7 &&& (x3 ^^^ (-1 : Int32))) = 0 then f_X12_bands_155 (f_X12_bands_134 n) FU x2 x3 x4 x5 x6 x7 (0 : Int32) (0 : Int32) S else f_X12_bands_257 (f_X12_bands_134 n) x2 x3 x4 x5 x6 x7 S
noncomputable def f_X12_bands_114 (k36 : Int32 → Int32 → Int32 → Int32 → Int32 → St → Option (Int32 × St)) (x1 : Int32) (x2 : Int32) (x3 : Int32) (x5 : Int32) (s0 : Int32) (s1 : Int32) (S : St) : Option (Int32 × St) := k36 x1 x2 x3 (s0 + s1) (x5 + (1 : Int32)) S
noncomputable def f_X12_bands_87 (k36 : Int32 → Int32 → Int32 → Int32 → Int32 → St → Option (Int32 × St)) (x1 : Int32) (x2 : Int32) (x4 : Int32) (x5 : Int32) (x6 : Int32) (s0 : Int32) (s1 : Int32) (S : St) : Option (Int32 × St) := if x6 = 0 then f_X12_bands_114 k36 x1 x2 (s0 ||| s1) x5 x4 (0 : Int32) S else (f_X12_ofDebt x5 (3 : Int32) S).bind fun q100 => (f_X12_lengthOf x5 q100.2).bind fun q106 => f_X12_bands_114 k36 x1 x2 (s0 ||| s1) x5 x4 (q100.1 * q106.1) q106.2
noncomputable def f_X12_bands_71 (k36 : Int32 → Int32 → Int32 → Int32 → Int32 → St → Option (Int32 × St)) (x1 : Int32) (x2 : Int32) (x3 : Int32) (x4 : Int32) (x5 : Int32) (s0 : Int32) (S : St) : Option (Int32 × St) := if s0 = 0 then f_X12_bands_87 k36 x1 x2 x4 x5 s0 x3 (0 : Int32) S else f_X12_bands_87 k36 x1 x2 x4 x5 s0 x3 ((1 : Int32) <<< (x5 &&& 31)) S
noncomputable def f_X12_bands_70 (k36 : Int32 → Int32 → Int32 → Int32 → Int32 → St → Option (Int32 × St)) (x1 : Int32) (x2 : Int32) (x3 : Int32) (x4 : Int32) (x5 : Int32) (S : St) : Option (Int32 × St) := f_X12_bands_71 k36 x1 x2 x3 x4 x5 (0 : Int32) S
noncomputable def f_X12_bands_36 : Nat → Int32 → Int32 → Int32 → Int32 → Int32 → St → Option (Int32 × St)
  | 0, _, _, _, _, _, _ => none
  | n + 1, x1, x2, x3, x4, x5, S => (f_X12_debts S).bind fun q39 => if q39.1 ≤ x5 then f_X12_bands_134 FU x2 x3 x4 (1000000 : Int32) (0 : Int32) (0 : Int32) q39.2 else (f_X12_ofDebt x5 (1 : Int32) q39.2).bind fun q49 => if q49.1 = x1 then if k_b x5 16 = true then if (gA q49.2 67 x5.toNatClampNeg) = 0 then f_X12_bands_71 (f_X12_bands_36 n) x1 x2 x3 x4 x5 (1 : Int32) q49.2 else f_X12_bands_70 (f_X12_bands_36 n) x1 x2 x3 x4 x5 q49.2 else none else f_X12_bands_70 (f_X12_bands_36 n) x1 x2 x3 x4 x5 q49.2
noncomputable def f_X12_bands (x1 : Int32) (x2 : Int32) (S : St) : Option (Int32 × St) := k_let (sI S 33 (0 : Int32)) fun S1 => (f_X12_isDancer x1 S1).bind fun q6 => if q6.1 = 0 then f_X12_bands_22 q6.2 else (f_X12_in x2.toInt64 (0 : Int64) (1 : Int64) q6.2).bind fun q16 => if q16.1 = 0 then f_X12_bands_22 q16.2 else (f_X12_askAll q16.2).bind fun q25 => f_X12_bands_36 FU x1 x2 (0 : Int32) (0 : Int32) (0 : Int32) q25
set_option maxRecDepth 100000 in
set_option maxHeartbeats 4000000 in
theorem w_X12_bands_22 {D : k_D} {dy : Nat → Nat} (S : St) (out : Int32 × St) (h : f_X12_bands_22 S = some out) : Rn yX12_bands cX12_bands 10 (some .int) (k_rm 5) 0 0 D dy S (k_Pi dy out) 22 [] [] := by
    unfold f_X12_bands_22 at h
    refine r_iconst (v := -1) dX12_bands_22 rfl ?_
    cases h
    exact r_iret rfl dX12_bands_23 ⟨rfl, rfl, rfl⟩
set_option maxRecDepth 100000 in
set_option maxHeartbeats 4000000 in
theorem w_X12_bands_274 {D : k_D} {dy : Nat → Nat} (s0 : Int32) (S : St) (out : Int32 × St) (h : f_X12_bands_274 s0 S = some out) : Rn yX12_bands cX12_bands 10 (some .int) (k_rm 5) 0 0 D dy S (k_Pi dy out) 274 [] [.int s0] := by
    unfold f_X12_bands_274 at h
    cases h
    exact r_iret rfl dX12_bands_274 ⟨rfl, rfl, rfl⟩
set_option maxRecDepth 100000 in
set_option maxHeartbeats 4000000 in
theorem w_X12_bands_257 {D : k_D} {dy : Nat → Nat} {k134 : Int32 → Int32 → Int32 → Int32 → Int32 → Int32 → St → Option (Int32 × St)} (hk134 : ∀ (x2 : Int32) (x3 : Int32) (x4 : Int32) (x5 : Int32) (x6 : Int32) (x7 : Int32) (S : St) (out : Int32 × St), k134 x2 x3 x4 x5 x6 x7 S = some out → Rn yX12_bands cX12_bands 10 (some .int) (k_rm 5) 0 0 D dy S (k_Pi dy out) 134 [(0, .ref (D.2.2 51)), (2, .int x2), (3, .int x3), (4, .int x4), (5, .int x5), (6, .int x6), (7, .int x7)] []) (x2 : Int32) (x3 : Int32) (x4 : Int32) (x5 : Int32) (x6 : Int32) (x7 : Int32) (S : St) (out : Int32 × St) (h : f_X12_bands_257 k134 x2 x3 x4 x5 x6 x7 S = some out) : Rn yX12_bands cX12_bands 10 (some .int) (k_rm 5) 0 0 D dy S (k_Pi dy out) 257 [(0, .ref (D.2.2 51)), (2, .int x2), (3, .int x3), (4, .int x4), (5, .int x5), (6, .int x6), (7, .int x7)] [] := by
    unfold f_X12_bands_257 at h
    refine r_iinc (q := 6) (v := x7 + (1 : Int32)) dX12_bands_257 rfl rfl (by decide) rfl ?_
    refine r_goto (t := 134) dX12_bands_260 (by decide) ?_
    refine r_sub [1, 2, 3, 4, 5, 6, 0] rfl ?_
    exact hk134 _ _ _ _ _ _ _ _ h
set_option maxRecDepth 100000 in
set_option maxHeartbeats 4000000 in
theorem w_X12_bands_255 {D : k_D} {dy : Nat → Nat} {k134 : Int32 → Int32 → Int32 → Int32 → Int32 → Int32 → St → Option (Int32 × St)} (hk134 : ∀ (x2 : Int32) (x3 : Int32) (x4 : Int32) (x5 : Int32) (x6 : Int32) (x7 : Int32) (S : St) (out : Int32 × St), k134 x2 x3 x4 x5 x6 x7 S = some out → Rn yX12_bands cX12_bands 10 (some .int) (k_rm 5) 0 0 D dy S (k_Pi dy out) 134 [(0, .ref (D.2.2 51)), (2, .int x2), (3, .int x3), (4, .int x4), (5, .int x5), (6, .int x6), (7, .int x7)] []) (x2 : Int32) (x3 : Int32) (x4 : Int32) (x6 : Int32) (x7 : Int32) (s0 : Int32) (S : St) (out : Int32 × St) (h : f_X12_bands_255 k134 x2 x3 x4 x6 x7 s0 S = some out) : Rn yX12_bands cX12_bands 10 (some .int) (k_rm 5) 0 0 D dy S (k_Pi dy out) 255 [(0, .ref (D.2.2 51)), (2, .int x2), (3, .int x3), (4, .int x4), (6, .int x6), (7, .int x7)] [.int s0] := by
    unfold f_X12_bands_255 at h
    refine r_istore dX12_bands_255 (by decide) rfl ?_
    refine r_sub [1, 2, 3, 4, 0, 5, 6] rfl ?_
    exact w_X12_bands_257 hk134 _ _ _ _ _ _ _ _ h
set_option maxRecDepth 100000 in
set_option maxHeartbeats 4000000 in
theorem w_X12_bands_239 {D : k_D} {dy : Nat → Nat} {k134 : Int32 → Int32 → Int32 → Int32 → Int32 → Int32 → St → Option (Int32 × St)} (hk134 : ∀ (x2 : Int32) (x3 : Int32) (x4 : Int32) (x5 : Int32) (x6 : Int32) (x7 : Int32) (S : St) (out : Int32 × St), k134 x2 x3 x4 x5 x6 x7 S = some out → Rn yX12_bands cX12_bands 10 (some .int) (k_rm 5) 0 0 D dy S (k_Pi dy out) 134 [(0, .ref (D.2.2 51)), (2, .int x2), (3, .int x3), (4, .int x4), (5, .int x5), (6, .int x6), (7, .int x7)] []) (x2 : Int32) (x3 : Int32) (x4 : Int32) (x5 : Int32) (x7 : Int32) (x9 : Int32) (s0 : Int32) (S : St) (out : Int32 × St) (h : f_X12_bands_239 k134 x2 x3 x4 x5 x7 x9 s0 S = some out) : Rn yX12_bands cX12_bands 10 (some .int) (k_rm 5) 0 0 D dy S (k_Pi dy out) 239 [(0, .ref (D.2.2 51)), (2, .int x2), (3, .int x3), (4, .int x4), (5, .int x5), (7, .int x7), (9, .int x9)] [.int s0] := by
    unfold f_X12_bands_239 at h
    refine r_istore dX12_bands_239 (by decide) rfl ?_
    refine r_iload 7 dX12_bands_241 rfl ?_
    refine r_iload 5 dX12_bands_243 rfl ?_
    refine r_icmp_ge (t := 253) dX12_bands_245 (by decide) (fun c => ?_) (fun c => ?_)
    · rw [if_pos c] at h
      refine r_iload 5 dX12_bands_253 rfl ?_
      refine r_sub [1, 2, 3, 4, 0, 6] rfl ?_
      exact w_X12_bands_255 hk134 _ _ _ _ _ _ _ _ h
    · rw [if_neg c] at h
      refine r_iload 7 dX12_bands_248 rfl ?_
      refine r_goto (t := 255) dX12_bands_250 (by decide) ?_
      refine r_sub [1, 2, 3, 4, 0, 6] rfl ?_
      exact w_X12_bands_255 hk134 _ _ _ _ _ _ _ _ h
set_option maxRecDepth 100000 in
set_option maxHeartbeats 4000000 in
theorem w_X12_bands_223 {D : k_D} {dy : Nat → Nat} {k134 : Int32 → Int32 → Int32 → Int32 → Int32 → Int32 → St → Option (Int32 × St)} (hk134 : ∀ (x2 : Int32) (x3 : Int32) (x4 : Int32) (x5 : Int32) (x6 : Int32) (x7 : Int32) (S : St) (out : Int32 × St), k134 x2 x3 x4 x5 x6 x7 S = some out → Rn yX12_bands cX12_bands 10 (some .int) (k_rm 5) 0 0 D dy S (k_Pi dy out) 134 [(0, .ref (D.2.2 51)), (2, .int x2), (3, .int x3), (4, .int x4), (5, .int x5), (6, .int x6), (7, .int x7)] []) (x2 : Int32) (x3 : Int32) (x4 : Int32) (x5 : Int32) (x6 : Int32) (x7 : Int32) (s0 : Int32) (S : St) (out : Int32 × St) (h : f_X12_bands_223 k134 x2 x3 x4 x5 x6 x7 s0 S = some out) : Rn yX12_bands cX12_bands 10 (some .int) (k_rm 5) 0 0 D dy S (k_Pi dy out) 223 [(0, .ref (D.2.2 51)), (2, .int x2), (3, .int x3), (4, .int x4), (5, .int x5), (6, .int x6), (7, .int x7)] [.int s0] := by
    unfold f_X12_bands_223 at h
    refine r_istore dX12_bands_223 (by decide) rfl ?_
    refine r_iload 0 dX12_bands_225 rfl ?_
    refine r_iload 5 dX12_bands_227 rfl ?_
    refine r_icmp_ge (t := 237) dX12_bands_229 (by decide) (fun c => ?_) (fun c => ?_)
    · rw [if_pos c] at h
      refine r_iload 6 dX12_bands_237 rfl ?_
      refine r_sub [1, 2, 3, 4, 5, 7, 0] rfl ?_
      exact w_X12_bands_239 hk134 _ _ _ _ _ _ _ _ _ h
    · rw [if_neg c] at h
      refine r_iload 7 dX12_bands_232 rfl ?_
      refine r_goto (t := 239) dX12_bands_234 (by decide) ?_
      refine r_sub [1, 2, 3, 4, 5, 7, 0] rfl ?_
      exact w_X12_bands_239 hk134 _ _ _ _ _ _ _ _ _ h
set_option maxRecDepth 100000 in
set_option maxHeartbeats 4000000 in
theorem w_X12_bands_194 {D : k_D} {dy : Nat → Nat} {k155 : Int32 → Int32 → Int32 → Int32 → Int32 → Int32 → Int32 → Int32 → St → Option (Int32 × St)} (hk155 : ∀ (x2 : Int32) (x3 : Int32) (x4 : Int32) (x5 : Int32) (x6 : Int32) (x7 : Int32) (x8 : Int32) (x9 : Int32) (S : St) (out : Int32 × St), k155 x2 x3 x4 x5 x6 x7 x8 x9 S = some out → Rn yX12_bands cX12_bands 10 (some .int) (k_rm 5) 0 0 D dy S (k_Pi dy out) 155 [(0, .ref (D.2.2 51)), (2, .int x2), (3, .int x3), (4, .int x4), (5, .int x5), (6, .int x6), (7, .int x7), (8, .int x8), (9, .int x9)] []) (x2 : Int32) (x3 : Int32) (x4 : Int32) (x5 : Int32) (x6 : Int32) (x7 : Int32) (x9 : Int32) (s0 : Int32) (s1 : Int32) (S : St) (out : Int32 × St) (h : f_X12_bands_194 k155 x2 x3 x4 x5 x6 x7 x9 s0 s1 S = some out) : Rn yX12_bands cX12_bands 10 (some .int) (k_rm 5) 0 0 D dy S (k_Pi dy out) 194 [(0, .ref (D.2.2 51)), (2, .int x2), (3, .int x3), (4, .int x4), (5, .int x5), (6, .int x6), (7, .int x7), (9, .int x9)] [.int s1, .int s0] := by
    unfold f_X12_bands_194 at h
    refine r_iadd dX12_bands_194 ?_
    refine r_istore dX12_bands_195 (by decide) rfl ?_
    refine r_iinc (q := 8) (v := x9 + (1 : Int32)) dX12_bands_197 rfl rfl (by decide) rfl ?_
    refine r_goto (t := 155) dX12_bands_200 (by decide) ?_
    refine r_sub [2, 3, 4, 5, 6, 7, 8, 1, 0] rfl ?_
    exact hk155 _ _ _ _ _ _ _ _ _ _ h
set_option maxRecDepth 100000 in
set_option maxHeartbeats 4000000 in
theorem w_X12_bands_155 {D : k_D} {dy : Nat → Nat} {k134 : Int32 → Int32 → Int32 → Int32 → Int32 → Int32 → St → Option (Int32 × St)} (hk134 : ∀ (x2 : Int32) (x3 : Int32) (x4 : Int32) (x5 : Int32) (x6 : Int32) (x7 : Int32) (S : St) (out : Int32 × St), k134 x2 x3 x4 x5 x6 x7 S = some out → Rn yX12_bands cX12_bands 10 (some .int) (k_rm 5) 0 0 D dy S (k_Pi dy out) 134 [(0, .ref (D.2.2 51)), (2, .int x2), (3, .int x3), (4, .int x4), (5, .int x5), (6, .int x6), (7, .int x7)] []) : ∀ (n : Nat) (x2 : Int32) (x3 : Int32) (x4 : Int32) (x5 : Int32) (x6 : Int32) (x7 : Int32) (x8 : Int32) (x9 : Int32) (S : St) (out : Int32 × St), f_X12_bands_155 k134 n x2 x3 x4 x5 x6 x7 x8 x9 S = some out → Rn yX12_bands cX12_bands 10 (some .int) (k_rm 5) 0 0 D dy S (k_Pi dy out) 155 [(0, .ref (D.2.2 51)), (2, .int x2), (3, .int x3), (4, .int x4), (5, .int x5), (6, .int x6), (7, .int x7), (8, .int x8), (9, .int x9)] [] := by
  intro n
  induction n with
  | zero => intro x2 x3 x4 x5 x6 x7 x8 x9 S out h; cases h
  | succ n ih =>
    intro x2 x3 x4 x5 x6 x7 x8 x9 S out h
    rw [f_X12_bands_155] at h
    refine r_iload 8 dX12_bands_155 rfl ?_
    refine r_aload_n 0 dX12_bands_157 rfl rfl ?_
    obtain ⟨q158, hq158, h⟩ := g_bind h
    refine r_callVi [] [.int x9] q158 (ok_X12_debts hq158) q_1517 q_1519 q_91 q_1520 q_153 hd_X12_debts (ce_51 D dy _) kc12.1 rfl ⟨Nat.le_of_ble_eq_true rfl, Nat.le_of_ble_eq_true rfl⟩ rfl rfl (Nat.le_of_ble_eq_true rfl) dX12_bands_158 ?_
    refine r_icmp_ge (t := 203) dX12_bands_161 (by decide) (fun c => ?_) (fun c => ?_)
    · rw [if_pos c] at h
      refine r_iload 7 dX12_bands_203 rfl ?_
      refine r_iload 3 dX12_bands_205 rfl ?_
      refine r_iload 7 dX12_bands_207 rfl ?_
      refine r_isub dX12_bands_209 ?_
      refine r_icmp_le (t := 218) dX12_bands_210 (by decide) (fun c => ?_) (fun c => ?_)
      · rw [if_pos c] at h
        refine r_iload 3 dX12_bands_218 rfl ?_
        refine r_iload 7 dX12_bands_220 rfl ?_
        refine r_isub dX12_bands_222 ?_
        refine r_sub [0, 1, 2, 3, 4, 5, 6] rfl ?_
        exact w_X12_bands_223 hk134 _ _ _ _ _ _ _ _ _ h
      · rw [if_neg c] at h
        refine r_iload 7 dX12_bands_213 rfl ?_
        refine r_goto (t := 223) dX12_bands_215 (by decide) ?_
        refine r_sub [0, 1, 2, 3, 4, 5, 6] rfl ?_
        exact w_X12_bands_223 hk134 _ _ _ _ _ _ _ _ _ h
    · rw [if_neg c] at h
      refine r_iload 7 dX12_bands_164 rfl ?_
      refine r_iload 6 dX12_bands_166 rfl ?_
      refine r_iload 8 dX12_bands_168 rfl ?_
      obtain ⟨q170, hq170, h⟩ := g_bind h
      refine r_callSi [.int x7, .int x9] [.int x8] q170 (ok_X12_is hq170) q_1750 q_1751 q_1752 q_153 hd_X12_is ⟨Nat.le_of_ble_eq_true rfl, Nat.le_of_ble_eq_true rfl⟩ rfl rfl (Nat.le_of_ble_eq_true rfl) dX12_bands_170 ?_
      refine r_if_eq (t := 193) dX12_bands_173 (by decide) (fun c => ?_) (fun c => ?_)
      · rw [if_pos c] at h
        refine r_iconst (v := 0) dX12_bands_193 rfl ?_
        refine r_sub [0, 1, 2, 3, 4, 5, 6, 8] rfl ?_
        exact w_X12_bands_194 ih _ _ _ _ _ _ _ _ _ _ _ h
      · rw [if_neg c] at h
        refine r_aload_n 0 dX12_bands_176 rfl rfl ?_
        refine r_iload 8 dX12_bands_177 rfl ?_
        refine r_iconst (v := 3) dX12_bands_179 rfl ?_
        obtain ⟨q180, hq180, h⟩ := g_bind h
        refine r_callVi [.int x9, .int (3 : Int32)] [.int x8] q180 (ok_X12_ofDebt hq180) q_1533 q_1535 q_94 q_1536 q_153 hd_X12_ofDebt (ce_51 D dy _) kc12.1 rfl ⟨Nat.le_of_ble_eq_true rfl, Nat.le_of_ble_eq_true rfl⟩ rfl rfl (Nat.le_of_ble_eq_true rfl) dX12_bands_180 ?_
        refine r_aload_n 0 dX12_bands_183 rfl rfl ?_
        refine r_iload 8 dX12_bands_184 rfl ?_
        obtain ⟨q186, hq186, h⟩ := g_bind h
        refine r_callVi [.int x9] [.int q180.1, .int x8] q186 (ok_X12_lengthOf hq186) q_1545 q_1547 q_97 q_1548 q_153 hd_X12_lengthOf (ce_51 D dy _) kc12.1 rfl ⟨Nat.le_of_ble_eq_true rfl, Nat.le_of_ble_eq_true rfl⟩ rfl rfl (Nat.le_of_ble_eq_true rfl) dX12_bands_186 ?_
        refine r_imul dX12_bands_189 ?_
        refine r_goto (t := 194) dX12_bands_190 (by decide) ?_
        refine r_sub [0, 1, 2, 3, 4, 5, 6, 8] rfl ?_
        exact w_X12_bands_194 ih _ _ _ _ _ _ _ _ _ _ _ h
set_option maxRecDepth 100000 in
set_option maxHeartbeats 4000000 in
theorem w_X12_bands_134 {D : k_D} {dy : Nat → Nat} : ∀ (n : Nat) (x2 : Int32) (x3 : Int32) (x4 : Int32) (x5 : Int32) (x6 : Int32) (x7 : Int32) (S : St) (out : Int32 × St), f_X12_bands_134 n x2 x3 x4 x5 x6 x7 S = some out → Rn yX12_bands cX12_bands 10 (some .int) (k_rm 5) 0 0 D dy S (k_Pi dy out) 134 [(0, .ref (D.2.2 51)), (2, .int x2), (3, .int x3), (4, .int x4), (5, .int x5), (6, .int x6), (7, .int x7)] [] := by
  intro n
  induction n with
  | zero => intro x2 x3 x4 x5 x6 x7 S out h; cases h
  | succ n ih =>
    intro x2 x3 x4 x5 x6 x7 S out h
    rw [f_X12_bands_134] at h
    refine r_iload 6 dX12_bands_134 rfl ?_
    refine r_iload_n 2 dX12_bands_136 rfl rfl ?_
    refine r_icmp_gt (t := 263) dX12_bands_137 (by decide) (fun c => ?_) (fun c => ?_)
    · rw [if_pos c] at h
      refine r_iload_n 1 dX12_bands_263 rfl rfl ?_
      refine r_if_ne (t := 272) dX12_bands_264 (by decide) (fun c => ?_) (fun c => ?_)
      · rw [if_neg c] at h
        refine r_iload 5 dX12_bands_272 rfl ?_
        refine r_sub [] rfl ?_
        exact w_X12_bands_274 _ _ _ h
      · rw [if_pos c] at h
        refine r_iload 4 dX12_bands_267 rfl ?_
        refine r_goto (t := 274) dX12_bands_269 (by decide) ?_
        refine r_sub [] rfl ?_
        exact w_X12_bands_274 _ _ _ h
    · rw [if_neg c] at h
      refine r_iload 6 dX12_bands_140 rfl ?_
      refine r_iload_n 2 dX12_bands_142 rfl rfl ?_
      refine r_iconst (v := -1) dX12_bands_143 rfl ?_
      refine r_ixor dX12_bands_144 ?_
      refine r_iand dX12_bands_145 ?_
      refine r_if_ne (t := 257) dX12_bands_146 (by decide) (fun c => ?_) (fun c => ?_)
      · rw [if_neg c] at h
        exact w_X12_bands_257 ih _ _ _ _ _ _ _ _ h
      · rw [if_pos c] at h
        refine r_iconst (v := 0) dX12_bands_149 rfl ?_
        refine r_istore dX12_bands_150 (by decide) rfl ?_
        refine r_iconst (v := 0) dX12_bands_152 rfl ?_
        refine r_istore dX12_bands_153 (by decide) rfl ?_
        refine r_sub [2, 3, 4, 5, 6, 7, 8, 1, 0] rfl ?_
        exact w_X12_bands_155 ih _ _ _ _ _ _ _ _ _ _ _ h
set_option maxRecDepth 100000 in
set_option maxHeartbeats 4000000 in
theorem w_X12_bands_114 {D : k_D} {dy : Nat → Nat} {k36 : Int32 → Int32 → Int32 → Int32 → Int32 → St → Option (Int32 × St)} (hk36 : ∀ (x1 : Int32) (x2 : Int32) (x3 : Int32) (x4 : Int32) (x5 : Int32) (S : St) (out : Int32 × St), k36 x1 x2 x3 x4 x5 S = some out → Rn yX12_bands cX12_bands 10 (some .int) (k_rm 5) 0 0 D dy S (k_Pi dy out) 36 [(0, .ref (D.2.2 51)), (1, .int x1), (2, .int x2), (3, .int x3), (4, .int x4), (5, .int x5)] []) (x1 : Int32) (x2 : Int32) (x3 : Int32) (x5 : Int32) (s0 : Int32) (s1 : Int32) (S : St) (out : Int32 × St) (h : f_X12_bands_114 k36 x1 x2 x3 x5 s0 s1 S = some out) : Rn yX12_bands cX12_bands 10 (some .int) (k_rm 5) 0 0 D dy S (k_Pi dy out) 114 [(0, .ref (D.2.2 51)), (1, .int x1), (2, .int x2), (3, .int x3), (5, .int x5)] [.int s1, .int s0] := by
    unfold f_X12_bands_114 at h
    refine r_iadd dX12_bands_114 ?_
    refine r_istore dX12_bands_115 (by decide) rfl ?_
    refine r_iinc (q := 5) (v := x5 + (1 : Int32)) dX12_bands_117 rfl rfl (by decide) rfl ?_
    refine r_goto (t := 36) dX12_bands_120 (by decide) ?_
    refine r_sub [2, 3, 4, 5, 1, 0] rfl ?_
    exact hk36 _ _ _ _ _ _ _ h
set_option maxRecDepth 100000 in
set_option maxHeartbeats 4000000 in
theorem w_X12_bands_87 {D : k_D} {dy : Nat → Nat} {k36 : Int32 → Int32 → Int32 → Int32 → Int32 → St → Option (Int32 × St)} (hk36 : ∀ (x1 : Int32) (x2 : Int32) (x3 : Int32) (x4 : Int32) (x5 : Int32) (S : St) (out : Int32 × St), k36 x1 x2 x3 x4 x5 S = some out → Rn yX12_bands cX12_bands 10 (some .int) (k_rm 5) 0 0 D dy S (k_Pi dy out) 36 [(0, .ref (D.2.2 51)), (1, .int x1), (2, .int x2), (3, .int x3), (4, .int x4), (5, .int x5)] []) (x1 : Int32) (x2 : Int32) (x4 : Int32) (x5 : Int32) (x6 : Int32) (s0 : Int32) (s1 : Int32) (S : St) (out : Int32 × St) (h : f_X12_bands_87 k36 x1 x2 x4 x5 x6 s0 s1 S = some out) : Rn yX12_bands cX12_bands 10 (some .int) (k_rm 5) 0 0 D dy S (k_Pi dy out) 87 [(0, .ref (D.2.2 51)), (1, .int x1), (2, .int x2), (4, .int x4), (5, .int x5), (6, .int x6)] [.int s1, .int s0] := by
    unfold f_X12_bands_87 at h
    refine r_ior dX12_bands_87 ?_
    refine r_istore_n dX12_bands_88 rfl (by decide) rfl ?_
    refine r_iload 4 dX12_bands_89 rfl ?_
    refine r_iload 6 dX12_bands_91 rfl ?_
    refine r_if_eq (t := 113) dX12_bands_93 (by decide) (fun c => ?_) (fun c => ?_)
    · rw [if_pos c] at h
      refine r_iconst (v := 0) dX12_bands_113 rfl ?_
      refine r_sub [1, 2, 3, 0, 5] rfl ?_
      exact w_X12_bands_114 hk36 _ _ _ _ _ _ _ _ h
    · rw [if_neg c] at h
      refine r_aload_n 1 dX12_bands_96 rfl rfl ?_
      refine r_iload 5 dX12_bands_97 rfl ?_
      refine r_iconst (v := 3) dX12_bands_99 rfl ?_
      obtain ⟨q100, hq100, h⟩ := g_bind h
      refine r_callVi [.int x5, .int (3 : Int32)] [.int x4] q100 (ok_X12_ofDebt hq100) q_1533 q_1535 q_94 q_1536 q_153 hd_X12_ofDebt (ce_51 D dy _) kc12.1 rfl ⟨Nat.le_of_ble_eq_true rfl, Nat.le_of_ble_eq_true rfl⟩ rfl rfl (Nat.le_of_ble_eq_true rfl) dX12_bands_100 ?_
      refine r_aload_n 1 dX12_bands_103 rfl rfl ?_
      refine r_iload 5 dX12_bands_104 rfl ?_
      obtain ⟨q106, hq106, h⟩ := g_bind h
      refine r_callVi [.int x5] [.int q100.1, .int x4] q106 (ok_X12_lengthOf hq106) q_1545 q_1547 q_97 q_1548 q_153 hd_X12_lengthOf (ce_51 D dy _) kc12.1 rfl ⟨Nat.le_of_ble_eq_true rfl, Nat.le_of_ble_eq_true rfl⟩ rfl rfl (Nat.le_of_ble_eq_true rfl) dX12_bands_106 ?_
      refine r_imul dX12_bands_109 ?_
      refine r_goto (t := 114) dX12_bands_110 (by decide) ?_
      refine r_sub [1, 2, 3, 0, 5] rfl ?_
      exact w_X12_bands_114 hk36 _ _ _ _ _ _ _ _ h
set_option maxRecDepth 100000 in
set_option maxHeartbeats 4000000 in
theorem w_X12_bands_71 {D : k_D} {dy : Nat → Nat} {k36 : Int32 → Int32 → Int32 → Int32 → Int32 → St → Option (Int32 × St)} (hk36 : ∀ (x1 : Int32) (x2 : Int32) (x3 : Int32) (x4 : Int32) (x5 : Int32) (S : St) (out : Int32 × St), k36 x1 x2 x3 x4 x5 S = some out → Rn yX12_bands cX12_bands 10 (some .int) (k_rm 5) 0 0 D dy S (k_Pi dy out) 36 [(0, .ref (D.2.2 51)), (1, .int x1), (2, .int x2), (3, .int x3), (4, .int x4), (5, .int x5)] []) (x1 : Int32) (x2 : Int32) (x3 : Int32) (x4 : Int32) (x5 : Int32) (s0 : Int32) (S : St) (out : Int32 × St) (h : f_X12_bands_71 k36 x1 x2 x3 x4 x5 s0 S = some out) : Rn yX12_bands cX12_bands 10 (some .int) (k_rm 5) 0 0 D dy S (k_Pi dy out) 71 [(0, .ref (D.2.2 51)), (1, .int x1), (2, .int x2), (3, .int x3), (4, .int x4), (5, .int x5)] [.int s0] := by
    unfold f_X12_bands_71 at h
    refine r_istore dX12_bands_71 (by decide) rfl ?_
    refine r_iload_n 4 dX12_bands_73 rfl rfl ?_
    refine r_iload 0 dX12_bands_74 rfl ?_
    refine r_if_eq (t := 86) dX12_bands_76 (by decide) (fun c => ?_) (fun c => ?_)
    · rw [if_pos c] at h
      refine r_iconst (v := 0) dX12_bands_86 rfl ?_
      refine r_sub [1, 2, 3, 5, 6, 0] rfl ?_
      exact w_X12_bands_87 hk36 _ _ _ _ _ _ _ _ _ h
    · rw [if_neg c] at h
      refine r_iconst (v := 1) dX12_bands_79 rfl ?_
      refine r_iload 6 dX12_bands_80 rfl ?_
      refine r_ishl dX12_bands_82 ?_
      refine r_goto (t := 87) dX12_bands_83 (by decide) ?_
      refine r_sub [1, 2, 3, 5, 6, 0] rfl ?_
      exact w_X12_bands_87 hk36 _ _ _ _ _ _ _ _ _ h
set_option maxRecDepth 100000 in
set_option maxHeartbeats 4000000 in
theorem w_X12_bands_70 {D : k_D} {dy : Nat → Nat} {k36 : Int32 → Int32 → Int32 → Int32 → Int32 → St → Option (Int32 × St)} (hk36 : ∀ (x1 : Int32) (x2 : Int32) (x3 : Int32) (x4 : Int32) (x5 : Int32) (S : St) (out : Int32 × St), k36 x1 x2 x3 x4 x5 S = some out → Rn yX12_bands cX12_bands 10 (some .int) (k_rm 5) 0 0 D dy S (k_Pi dy out) 36 [(0, .ref (D.2.2 51)), (1, .int x1), (2, .int x2), (3, .int x3), (4, .int x4), (5, .int x5)] []) (x1 : Int32) (x2 : Int32) (x3 : Int32) (x4 : Int32) (x5 : Int32) (S : St) (out : Int32 × St) (h : f_X12_bands_70 k36 x1 x2 x3 x4 x5 S = some out) : Rn yX12_bands cX12_bands 10 (some .int) (k_rm 5) 0 0 D dy S (k_Pi dy out) 70 [(0, .ref (D.2.2 51)), (1, .int x1), (2, .int x2), (3, .int x3), (4, .int x4), (5, .int x5)] [] := by
    unfold f_X12_bands_70 at h
    refine r_iconst (v := 0) dX12_bands_70 rfl ?_
    exact w_X12_bands_71 hk36 _ _ _ _ _ _ _ _ h
set_option maxRecDepth 100000 in
set_option maxHeartbeats 4000000 in
theorem w_X12_bands_36 {D : k_D} {dy : Nat → Nat} : ∀ (n : Nat) (x1 : Int32) (x2 : Int32) (x3 : Int32) (x4 : Int32) (x5 : Int32) (S : St) (out : Int32 × St), f_X12_bands_36 n x1 x2 x3 x4 x5 S = some out → Rn yX12_bands cX12_bands 10 (some .int) (k_rm 5) 0 0 D dy S (k_Pi dy out) 36 [(0, .ref (D.2.2 51)), (1, .int x1), (2, .int x2), (3, .int x3), (4, .int x4), (5, .int x5)] [] := by
  intro n
  induction n with
  | zero => intro x1 x2 x3 x4 x5 S out h; cases h
  | succ n ih =>
    intro x1 x2 x3 x4 x5 S out h
    rw [f_X12_bands_36] at h
    refine r_iload 5 dX12_bands_36 rfl ?_
    refine r_aload_n 0 dX12_bands_38 rfl rfl ?_
    obtain ⟨q39, hq39, h⟩ := g_bind h
    refine r_callVi [] [.int x5] q39 (ok_X12_debts hq39) q_1517 q_1519 q_91 q_1520 q_153 hd_X12_debts (ce_51 D dy _) kc12.1 rfl ⟨Nat.le_of_ble_eq_true rfl, Nat.le_of_ble_eq_true rfl⟩ rfl rfl (Nat.le_of_ble_eq_true rfl) dX12_bands_39 ?_
    refine r_icmp_ge (t := 123) dX12_bands_42 (by decide) (fun c => ?_) (fun c => ?_)
    · rw [if_pos c] at h
      refine r_ldcw (v := 1000000) q_1780 dX12_bands_123 ?_
      refine r_istore dX12_bands_126 (by decide) rfl ?_
      refine r_iconst (v := 0) dX12_bands_128 rfl ?_
      refine r_istore dX12_bands_129 (by decide) rfl ?_
      refine r_iconst (v := 0) dX12_bands_131 rfl ?_
      refine r_istore dX12_bands_132 (by decide) rfl ?_
      refine r_sub [3, 5, 6, 7, 2, 1, 0] rfl ?_
      exact w_X12_bands_134 _ _ _ _ _ _ _ _ _ h
    · rw [if_neg c] at h
      refine r_aload_n 0 dX12_bands_45 rfl rfl ?_
      refine r_iload 5 dX12_bands_46 rfl ?_
      refine r_iconst (v := 1) dX12_bands_48 rfl ?_
      obtain ⟨q49, hq49, h⟩ := g_bind h
      refine r_callVi [.int x5, .int (1 : Int32)] [] q49 (ok_X12_ofDebt hq49) q_1533 q_1535 q_94 q_1536 q_153 hd_X12_ofDebt (ce_51 D dy _) kc12.1 rfl ⟨Nat.le_of_ble_eq_true rfl, Nat.le_of_ble_eq_true rfl⟩ rfl rfl (Nat.le_of_ble_eq_true rfl) dX12_bands_49 ?_
      refine r_iload_n 1 dX12_bands_52 rfl rfl ?_
      refine r_icmp_ne (t := 70) dX12_bands_53 (by decide) (fun c => ?_) (fun c => ?_)
      · rw [if_neg c] at h
        exact w_X12_bands_70 ih _ _ _ _ _ _ _ h
      · rw [if_pos c] at h
        refine r_aload_n 0 dX12_bands_56 rfl rfl ?_
        refine gf_51_34 q_1345 dX12_bands_57 ?_
        refine r_iload 5 dX12_bands_60 rfl ?_
        obtain ⟨c1, h⟩ := g_ite h
        refine al_67 (k_b_in c1) dX12_bands_62 ?_
        refine r_if_ne (t := 70) dX12_bands_63 (by decide) (fun c => ?_) (fun c => ?_)
        · rw [if_neg c] at h
          exact w_X12_bands_70 ih _ _ _ _ _ _ _ h
        · rw [if_pos c] at h
          refine r_iconst (v := 1) dX12_bands_66 rfl ?_
          refine r_goto (t := 71) dX12_bands_67 (by decide) ?_
          exact w_X12_bands_71 ih _ _ _ _ _ _ _ _ h
set_option maxRecDepth 100000 in
set_option maxHeartbeats 4000000 in
theorem w_X12_bands_0 {D : k_D} {dy : Nat → Nat} (x1 : Int32) (x2 : Int32) (S : St) (out : Int32 × St) (h : f_X12_bands x1 x2 S = some out) : Rn yX12_bands cX12_bands 10 (some .int) (k_rm 5) 0 0 D dy S (k_Pi dy out) 0 [(0, .ref (D.2.2 51)), (1, .int x1), (2, .int x2)] [] := by
    unfold f_X12_bands at h
    refine r_aload_n 0 dX12_bands_0 rfl rfl ?_
    refine r_iconst (v := 0) dX12_bands_1 rfl ?_
    refine pf_51_0 q_1311 dX12_bands_2 ?_
    generalize sI S 33 (0 : Int32) = S1 at h ⊢
    replace h := g_let h
    refine r_iload_n 1 dX12_bands_5 rfl rfl ?_
    obtain ⟨q6, hq6, h⟩ := g_bind h
    refine r_callSi [.int x1] [] q6 (ok_X12_isDancer hq6) q_1512 q_1513 q_1514 q_153 hd_X12_isDancer ⟨Nat.le_of_ble_eq_true rfl, Nat.le_of_ble_eq_true rfl⟩ rfl rfl (Nat.le_of_ble_eq_true rfl) dX12_bands_6 ?_
    refine r_if_eq (t := 22) dX12_bands_9 (by decide) (fun c => ?_) (fun c => ?_)
    · rw [if_pos c] at h
      refine r_sub [] rfl ?_
      exact w_X12_bands_22 _ _ h
    · rw [if_neg c] at h
      refine r_iload_n 2 dX12_bands_12 rfl rfl ?_
      refine r_i2l dX12_bands_13 ?_
      refine r_lconst (v := 0) dX12_bands_14 rfl ?_
      refine r_lconst (v := 1) dX12_bands_15 rfl ?_
      obtain ⟨q16, hq16, h⟩ := g_bind h
      refine r_callSi [.long x2.toInt64, .long (0 : Int64), .long (1 : Int64)] [] q16 (ok_X12_in hq16) q_1481 q_1482 q_1483 q_153 hd_X12_in ⟨Nat.le_of_ble_eq_true rfl, Nat.le_of_ble_eq_true rfl⟩ rfl rfl (Nat.le_of_ble_eq_true rfl) dX12_bands_16 ?_
      refine r_if_ne (t := 24) dX12_bands_19 (by decide) (fun c => ?_) (fun c => ?_)
      · rw [if_neg c] at h
        refine r_aload_n 0 dX12_bands_24 rfl rfl ?_
        obtain ⟨q25, hq25, h⟩ := g_bind h
        refine r_callVv [] [] q25 (ok_X12_askAll hq25) q_1537 q_1539 q_95 q_1540 q_153 hd_X12_askAll (ce_51 D dy _) kc12.1 rfl ⟨Nat.le_of_ble_eq_true rfl, Nat.le_of_ble_eq_true rfl⟩ rfl rfl (Nat.le_of_ble_eq_true rfl) dX12_bands_25 ?_
        refine r_iconst (v := 0) dX12_bands_28 rfl ?_
        refine r_istore_n dX12_bands_29 rfl (by decide) rfl ?_
        refine r_iconst (v := 0) dX12_bands_30 rfl ?_
        refine r_istore dX12_bands_31 (by decide) rfl ?_
        refine r_iconst (v := 0) dX12_bands_33 rfl ?_
        refine r_istore dX12_bands_34 (by decide) rfl ?_
        refine r_sub [3, 4, 5, 2, 1, 0] rfl ?_
        exact w_X12_bands_36 _ _ _ _ _ _ _ _ h
      · rw [if_pos c] at h
        refine r_sub [] rfl ?_
        exact w_X12_bands_22 _ _ h
theorem ok_X12_bands {D : k_D} {dy : Nat → Nat} {x1 : Int32} {x2 : Int32} {S : St} {out : Int32 × St} (h : f_X12_bands x1 x2 S = some out) : Sp yX12_bands cX12_bands 10 (some .int) (k_rm 5) D dy S [.ref (D.2.2 51), .int x1, .int x2] (k_Pi dy out) := Sp.of (by decide +kernel) (Nat.le_of_ble_eq_true rfl) (w_X12_bands_0 _ _ S out h)
noncomputable def f_X12_wedding (x1 : Int32) (x2 : Int32) (S : St) : Option (Int32 × St) := k_let (sI S 33 (0 : Int32)) fun S1 => (f_X12_isWedding x1 x2 (0 : Int32) S1).bind fun q8 => if q8.1 = 0 then (f_X12_tell (-1 : Int32) q8.2).bind fun q16 => some (q16.1, q16.2) else if k_b (4 : Int32) 5560 = true then if (gA q8.2 53 (4 : Int32).toNatClampNeg) = (8 : Int32) then (f_X12_tell (-5 : Int32) q8.2).bind fun q36 => some (q36.1, q36.2) else if k_b ((94 : Int32) + ((2 : Int32) * (gA q8.2 53 (4 : Int32).toNatClampNeg))) 5560 = true then k_let (sA q8.2 53 ((94 : Int32) + ((2 : Int32) * (gA q8.2 53 (4 : Int32).toNatClampNeg))).toNatClampNeg x1) fun S4 => if k_b (((94 : Int32) + ((2 : Int32) * (gA q8.2 53 (4 : Int32).toNatClampNeg))) + (1 : Int32)) 5560 = true then k_let (sA S4 53 (((94 : Int32) + ((2 : Int32) * (gA q8.2 53 (4 : Int32).toNatClampNeg))) + (1 : Int32)).toNatClampNeg x2) fun S6 => if k_b (4 : Int32) 5560 = true then if k_b (4 : Int32) 5560 = true then k_let (sA S6 53 (4 : Int32).toNatClampNeg ((gA S6 53 (4 : Int32).toNatClampNeg) + (1 : Int32))) fun S9 => (f_X12_tell ((gA q8.2 53 (4 : Int32).toNatClampNeg) + (1 : Int32)) S9).bind fun q80 => some (q80.1, q80.2) else none else none else none else none else none
set_option maxRecDepth 100000 in
set_option maxHeartbeats 4000000 in
theorem w_X12_wedding_0 {D : k_D} {dy : Nat → Nat} (x1 : Int32) (x2 : Int32) (S : St) (out : Int32 × St) (h : f_X12_wedding x1 x2 S = some out) : Rn yX12_wedding cX12_wedding 4 (some .int) (k_rm 3) 0 0 D dy S (k_Pi dy out) 0 [(0, .ref (D.2.2 51)), (1, .int x1), (2, .int x2)] [] := by
    unfold f_X12_wedding at h
    refine r_aload_n 0 dX12_wedding_0 rfl rfl ?_
    refine r_iconst (v := 0) dX12_wedding_1 rfl ?_
    refine pf_51_0 q_1311 dX12_wedding_2 ?_
    generalize sI S 33 (0 : Int32) = S1 at h ⊢
    replace h := g_let h
    refine r_iload_n 1 dX12_wedding_5 rfl rfl ?_
    refine r_iload_n 2 dX12_wedding_6 rfl rfl ?_
    refine r_iconst (v := 0) dX12_wedding_7 rfl ?_
    obtain ⟨q8, hq8, h⟩ := g_bind h
    refine r_callSi [.int x1, .int x2, .int (0 : Int32)] [] q8 (ok_X12_isWedding hq8) q_1785 q_1786 q_1787 q_153 hd_X12_isWedding ⟨Nat.le_of_ble_eq_true rfl, Nat.le_of_ble_eq_true rfl⟩ rfl rfl (Nat.le_of_ble_eq_true rfl) dX12_wedding_8 ?_
    refine r_if_ne (t := 20) dX12_wedding_11 (by decide) (fun c => ?_) (fun c => ?_)
    · rw [if_neg c] at h
      refine r_aload_n 0 dX12_wedding_20 rfl rfl ?_
      refine gf_51_3 q_1314 dX12_wedding_21 ?_
      refine r_iconst (v := 4) dX12_wedding_24 rfl ?_
      obtain ⟨c2, h⟩ := g_ite h
      refine al_53 (k_b_in c2) dX12_wedding_25 ?_
      refine r_istore_n dX12_wedding_26 rfl (by decide) rfl ?_
      refine r_iload_n 0 dX12_wedding_27 rfl rfl ?_
      refine r_bipush (v := 8) dX12_wedding_28 rfl ?_
      refine r_icmp_ne (t := 40) dX12_wedding_30 (by decide) (fun c => ?_) (fun c => ?_)
      · rw [if_neg c] at h
        refine r_aload_n 1 dX12_wedding_40 rfl rfl ?_
        refine gf_51_3 q_1314 dX12_wedding_41 ?_
        refine r_bipush (v := 94) dX12_wedding_44 rfl ?_
        refine r_iconst (v := 2) dX12_wedding_46 rfl ?_
        refine r_iload_n 0 dX12_wedding_47 rfl rfl ?_
        refine r_imul dX12_wedding_48 ?_
        refine r_iadd dX12_wedding_49 ?_
        refine r_iload_n 2 dX12_wedding_50 rfl rfl ?_
        obtain ⟨c3, h⟩ := g_ite h
        refine as_53 (k_b_in c3) dX12_wedding_51 ?_
        generalize sA q8.2 53 ((94 : Int32) + ((2 : Int32) * (gA q8.2 53 (4 : Int32).toNatClampNeg))).toNatClampNeg x1 = S4 at h ⊢
        replace h := g_let h
        refine r_aload_n 1 dX12_wedding_52 rfl rfl ?_
        refine gf_51_3 q_1314 dX12_wedding_53 ?_
        refine r_bipush (v := 94) dX12_wedding_56 rfl ?_
        refine r_iconst (v := 2) dX12_wedding_58 rfl ?_
        refine r_iload_n 0 dX12_wedding_59 rfl rfl ?_
        refine r_imul dX12_wedding_60 ?_
        refine r_iadd dX12_wedding_61 ?_
        refine r_iconst (v := 1) dX12_wedding_62 rfl ?_
        refine r_iadd dX12_wedding_63 ?_
        refine r_iload_n 3 dX12_wedding_64 rfl rfl ?_
        obtain ⟨c5, h⟩ := g_ite h
        refine as_53 (k_b_in c5) dX12_wedding_65 ?_
        generalize sA S4 53 (((94 : Int32) + ((2 : Int32) * (gA q8.2 53 (4 : Int32).toNatClampNeg))) + (1 : Int32)).toNatClampNeg x2 = S6 at h ⊢
        replace h := g_let h
        refine r_aload_n 1 dX12_wedding_66 rfl rfl ?_
        refine gf_51_3 q_1314 dX12_wedding_67 ?_
        refine r_iconst (v := 4) dX12_wedding_70 rfl ?_
        refine r_dup2 dX12_wedding_71 rfl rfl ?_
        obtain ⟨c7, h⟩ := g_ite h
        refine al_53 (k_b_in c7) dX12_wedding_72 ?_
        refine r_iconst (v := 1) dX12_wedding_73 rfl ?_
        refine r_iadd dX12_wedding_74 ?_
        obtain ⟨c8, h⟩ := g_ite h
        refine as_53 (k_b_in c8) dX12_wedding_75 ?_
        generalize sA S6 53 (4 : Int32).toNatClampNeg ((gA S6 53 (4 : Int32).toNatClampNeg) + (1 : Int32)) = S9 at h ⊢
        replace h := g_let h
        refine r_aload_n 1 dX12_wedding_76 rfl rfl ?_
        refine r_iload_n 0 dX12_wedding_77 rfl rfl ?_
        refine r_iconst (v := 1) dX12_wedding_78 rfl ?_
        refine r_iadd dX12_wedding_79 ?_
        obtain ⟨q80, hq80, h⟩ := g_bind h
        refine r_callVi [.int ((gA q8.2 53 (4 : Int32).toNatClampNeg) + (1 : Int32))] [] q80 (ok_X12_tell hq80) q_1484 q_1486 q_89 q_1487 q_153 hd_X12_tell (ce_51 D dy _) kc12.1 rfl ⟨Nat.le_of_ble_eq_true rfl, Nat.le_of_ble_eq_true rfl⟩ rfl rfl (Nat.le_of_ble_eq_true rfl) dX12_wedding_80 ?_
        cases h
        exact r_iret rfl dX12_wedding_83 ⟨rfl, rfl, rfl⟩
      · rw [if_pos c] at h
        refine r_aload_n 1 dX12_wedding_33 rfl rfl ?_
        refine r_bipush (v := -5) dX12_wedding_34 rfl ?_
        obtain ⟨q36, hq36, h⟩ := g_bind h
        refine r_callVi [.int (-5 : Int32)] [] q36 (ok_X12_tell hq36) q_1484 q_1486 q_89 q_1487 q_153 hd_X12_tell (ce_51 D dy _) kc12.1 rfl ⟨Nat.le_of_ble_eq_true rfl, Nat.le_of_ble_eq_true rfl⟩ rfl rfl (Nat.le_of_ble_eq_true rfl) dX12_wedding_36 ?_
        cases h
        exact r_iret rfl dX12_wedding_39 ⟨rfl, rfl, rfl⟩
    · rw [if_pos c] at h
      refine r_aload_n 0 dX12_wedding_14 rfl rfl ?_
      refine r_iconst (v := -1) dX12_wedding_15 rfl ?_
      obtain ⟨q16, hq16, h⟩ := g_bind h
      refine r_callVi [.int (-1 : Int32)] [] q16 (ok_X12_tell hq16) q_1484 q_1486 q_89 q_1487 q_153 hd_X12_tell (ce_51 D dy _) kc12.1 rfl ⟨Nat.le_of_ble_eq_true rfl, Nat.le_of_ble_eq_true rfl⟩ rfl rfl (Nat.le_of_ble_eq_true rfl) dX12_wedding_16 ?_
      cases h
      exact r_iret rfl dX12_wedding_19 ⟨rfl, rfl, rfl⟩
theorem ok_X12_wedding {D : k_D} {dy : Nat → Nat} {x1 : Int32} {x2 : Int32} {S : St} {out : Int32 × St} (h : f_X12_wedding x1 x2 S = some out) : Sp yX12_wedding cX12_wedding 4 (some .int) (k_rm 3) D dy S [.ref (D.2.2 51), .int x1, .int x2] (k_Pi dy out) := Sp.of (by decide +kernel) (Nat.le_of_ble_eq_true rfl) (w_X12_wedding_0 _ _ S out h)
noncomputable def f_X12_divorce (S : St) : Option (Int32 × St) := k_let (sI S 33 (0 : Int32)) fun S1 => if k_b (4 : Int32) 5560 = true then if k_b (4 : Int32) 5560 = true then k_let (sA S1 53 (4 : Int32).toNatClampNeg (0 : Int32)) fun S4 => some (gA S1 53 (4 : Int32).toNatClampNeg, S4) else none else none
set_option maxRecDepth 100000 in
set_option maxHeartbeats 4000000 in
theorem w_X12_divorce_0 {D : k_D} {dy : Nat → Nat} (S : St) (out : Int32 × St) (h : f_X12_divorce S = some out) : Rn yX12_divorce cX12_divorce 2 (some .int) (k_rm 0) 0 0 D dy S (k_Pi dy out) 0 [(0, .ref (D.2.2 51))] [] := by
    unfold f_X12_divorce at h
    refine r_aload_n 0 dX12_divorce_0 rfl rfl ?_
    refine r_iconst (v := 0) dX12_divorce_1 rfl ?_
    refine pf_51_0 q_1311 dX12_divorce_2 ?_
    generalize sI S 33 (0 : Int32) = S1 at h ⊢
    replace h := g_let h
    refine r_aload_n 0 dX12_divorce_5 rfl rfl ?_
    refine gf_51_3 q_1314 dX12_divorce_6 ?_
    refine r_iconst (v := 4) dX12_divorce_9 rfl ?_
    obtain ⟨c2, h⟩ := g_ite h
    refine al_53 (k_b_in c2) dX12_divorce_10 ?_
    refine r_istore_n dX12_divorce_11 rfl (by decide) rfl ?_
    refine r_aload_n 1 dX12_divorce_12 rfl rfl ?_
    refine gf_51_3 q_1314 dX12_divorce_13 ?_
    refine r_iconst (v := 4) dX12_divorce_16 rfl ?_
    refine r_iconst (v := 0) dX12_divorce_17 rfl ?_
    obtain ⟨c3, h⟩ := g_ite h
    refine as_53 (k_b_in c3) dX12_divorce_18 ?_
    generalize sA S1 53 (4 : Int32).toNatClampNeg (0 : Int32) = S4 at h ⊢
    replace h := g_let h
    refine r_iload_n 0 dX12_divorce_19 rfl rfl ?_
    cases h
    exact r_iret rfl dX12_divorce_20 ⟨rfl, rfl, rfl⟩
theorem ok_X12_divorce {D : k_D} {dy : Nat → Nat} {S : St} {out : Int32 × St} (h : f_X12_divorce S = some out) : Sp yX12_divorce cX12_divorce 2 (some .int) (k_rm 0) D dy S [.ref (D.2.2 51)] (k_Pi dy out) := Sp.of (by decide +kernel) (Nat.le_of_ble_eq_true rfl) (w_X12_divorce_0 S out h)
noncomputable def f_X12_free_207 (k116 : Int32 → Int32 → Int32 → Int32 → St → Option (Int32 × St)) (x2 : Int32) (x3 : Int32) (x4 : Int32) (x5 : Int32) (s0 : Int32) (S : St) : Option (Int32 × St) := if k_b x5 16 = true then if k_b x5 16 = true then k_let (sA S 76 x5.toNatClampNeg ((gA S 76 x5.toNatClampNeg) - s0)) fun S3 => (f_X12_lengthOf x5 S3).bind fun q233 => k116 (x2 - s0) x3 (x4 - (s0 * q233.1)) (x5 + (1 : Int32)) q233.2 else none else none
noncomputable def f_X12_free_161 (k116 : Int32 → Int32 → Int32 → Int32 → St → Option (Int32 × St)) (x2 : Int32) (x3 : Int32) (x4 : Int32) (x5 : Int32) (s0 : Int32) (S : St) : Option (Int32 × St) := (f_X12_lengthOf x5 S).bind fun q168 => if ¬ q168.1 = 0 then if s0 = 0 then f_X12_free_207 k116 x2 x3 x4 x5 (0 : Int32) q168.2 else if k_b x5 16 = true then if (gA q168.2 76 x5.toNatClampNeg) ≤ (x4 / q168.1) then if k_b x5 16 = true then f_X12_free_207 k116 x2 x3 x4 x5 (gA q168.2 76 x5.toNatClampNeg) q168.2 else none else f_X12_free_207 k116 x2 x3 x4 x5 (x4 / q168.1) q168.2 else none else none
noncomputable def f_X12_free_160 (k116 : Int32 → Int32 → Int32 → Int32 → St → Option (Int32 × St)) (x2 : Int32) (x3 : Int32) (x4 : Int32) (x5 : Int32) (S : St) : Option (Int32 × St) := f_X12_free_161 k116 x2 x3 x4 x5 (0 : Int32) S
noncomputable def f_X12_free_116 (k88 : Int32 → Int32 → St → Option (Int32 × St)) : Nat → Int32 → Int32 → Int32 → Int32 → St → Option (Int32 × St)
  | 0, _, _, _, _, _ => none
  | n + 1, x2, x3, x4, x5, S => (f_X12_debts S).bind fun q119 => if q119.1 ≤ x5 then if x2 = 0 then some (x3, q119.2) else k88 x2 (x3 + (1 : Int32)) q119.2 else (f_X12_ofDebt x5 (1 : Int32) q119.2).bind fun q129 => if k_b ((94 : Int32) + ((2 : Int32) * x3)) 5560 = true then if q129.1 = (gA q129.2 53 ((94 : Int32) + ((2 : Int32) * x3)).toNatClampNeg) then if k_b x5 16 = true then if (gA q129.2 68 x5.toNatClampNeg) = 0 then f_X12_free_161 (f_X12_free_116 k88 n) x2 x3 x4 x5 (1 : Int32) q129.2 else f_X12_free_160 (f_X12_free_116 k88 n) x2 x3 x4 x5 q129.2 else none else f_X12_free_160 (f_X12_free_116 k88 n) x2 x3 x4 x5 q129.2 else none
noncomputable def f_X12_free_88 : Nat → Int32 → Int32 → St → Option (Int32 × St)
  | 0, _, _, _ => none
  | n + 1, x2, x3, S => if k_b (4 : Int32) 5560 = true then if (gA S 53 (4 : Int32).toNatClampNeg) ≤ x3 then some ((100 : Int32), S) else if k_b (((94 : Int32) + ((2 : Int32) * x3)) + (1 : Int32)) 5560 = true then f_X12_free_116 (f_X12_free_88 n) FU x2 x3 (gA S 53 (((94 : Int32) + ((2 : Int32) * x3)) + (1 : Int32)).toNatClampNeg) (0 : Int32) S else none else none
noncomputable def f_X12_free_64 (k22 : Int32 → Int32 → Int32 → St → Option (Int32 × St)) (x1 : Int32) (x2 : Int32) (x3 : Int32) (s1 : Int32) (s2 : Int32) (S : St) : Option (Int32 × St) := if k_b s1 16 = true then k_let (sA S 76 s1.toNatClampNeg s2) fun S2 => if k_b x3 16 = true then k22 x1 (x2 + (gA S2 76 x3.toNatClampNeg)) (x3 + (1 : Int32)) S2 else none else none
noncomputable def f_X12_free_63 (k22 : Int32 → Int32 → Int32 → St → Option (Int32 × St)) (x1 : Int32) (x2 : Int32) (x3 : Int32) (s1 : Int32) (S : St) : Option (Int32 × St) := f_X12_free_64 k22 x1 x2 x3 s1 (0 : Int32) S
noncomputable def f_X12_free_22 : Nat → Int32 → Int32 → Int32 → St → Option (Int32 × St)
  | 0, _, _, _, _ => none
  | n + 1, x1, x2, x3, S => (f_X12_debts S).bind fun q24 => if q24.1 ≤ x3 then if x2 = 0 then some ((-1 : Int32), q24.2) else f_X12_free_88 FU x2 (0 : Int32) q24.2 else (f_X12_ofDebt x3 (0 : Int32) q24.2).bind fun q38 => if q38.1 = x1 then if k_b x3 16 = true then if (gA q38.2 67 x3.toNatClampNeg) = 0 then (f_X12_ofDebt x3 (3 : Int32) q38.2).bind fun q57 => f_X12_free_64 (f_X12_free_22 n) x1 x2 x3 x3 q57.1 q57.2 else f_X12_free_63 (f_X12_free_22 n) x1 x2 x3 x3 q38.2 else none else f_X12_free_63 (f_X12_free_22 n) x1 x2 x3 x3 q38.2
noncomputable def f_X12_free (x1 : Int32) (S : St) : Option (Int32 × St) := k_let (sI S 33 (0 : Int32)) fun S1 => (f_X12_isDancer x1 S1).bind fun q6 => if q6.1 = 0 then some ((-1 : Int32), q6.2) else (f_X12_askAll q6.2).bind fun q15 => f_X12_free_22 FU x1 (0 : Int32) (0 : Int32) q15
set_option maxRecDepth 100000 in
set_option maxHeartbeats 4000000 in
theorem w_X12_free_207 {D : k_D} {dy : Nat → Nat} {k116 : Int32 → Int32 → Int32 → Int32 → St → Option (Int32 × St)} (hk116 : ∀ (x2 : Int32) (x3 : Int32) (x4 : Int32) (x5 : Int32) (S : St) (out : Int32 × St), k116 x2 x3 x4 x5 S = some out → Rn yX12_free cX12_free 9 (some .int) (k_rm 5) 0 0 D dy S (k_Pi dy out) 116 [(0, .ref (D.2.2 51)), (2, .int x2), (3, .int x3), (4, .int x4), (5, .int x5)] []) (x2 : Int32) (x3 : Int32) (x4 : Int32) (x5 : Int32) (s0 : Int32) (S : St) (out : Int32 × St) (h : f_X12_free_207 k116 x2 x3 x4 x5 s0 S = some out) : Rn yX12_free cX12_free 9 (some .int) (k_rm 5) 0 0 D dy S (k_Pi dy out) 207 [(0, .ref (D.2.2 51)), (2, .int x2), (3, .int x3), (4, .int x4), (5, .int x5)] [.int s0] := by
    unfold f_X12_free_207 at h
    refine r_istore dX12_free_207 (by decide) rfl ?_
    refine r_aload_n 1 dX12_free_209 rfl rfl ?_
    refine gf_51_48 q_1359 dX12_free_210 ?_
    refine r_iload 5 dX12_free_213 rfl ?_
    refine r_dup2 dX12_free_215 rfl rfl ?_
    obtain ⟨c1, h⟩ := g_ite h
    refine al_76 (k_b_in c1) dX12_free_216 ?_
    refine r_iload 0 dX12_free_217 rfl ?_
    refine r_isub dX12_free_219 ?_
    obtain ⟨c2, h⟩ := g_ite h
    refine as_76 (k_b_in c2) dX12_free_220 ?_
    generalize sA S 76 x5.toNatClampNeg ((gA S 76 x5.toNatClampNeg) - s0) = S3 at h ⊢
    replace h := g_let h
    refine r_iload_n 2 dX12_free_221 rfl rfl ?_
    refine r_iload 0 dX12_free_222 rfl ?_
    refine r_isub dX12_free_224 ?_
    refine r_istore_n dX12_free_225 rfl (by decide) rfl ?_
    refine r_iload 4 dX12_free_226 rfl ?_
    refine r_iload 1 dX12_free_228 rfl ?_
    refine r_aload_n 2 dX12_free_230 rfl rfl ?_
    refine r_iload 5 dX12_free_231 rfl ?_
    obtain ⟨q233, hq233, h⟩ := g_bind h
    refine r_callVi [.int x5] [.int s0, .int x4] q233 (ok_X12_lengthOf hq233) q_1545 q_1547 q_97 q_1548 q_153 hd_X12_lengthOf (ce_51 D dy _) kc12.1 rfl ⟨Nat.le_of_ble_eq_true rfl, Nat.le_of_ble_eq_true rfl⟩ rfl rfl (Nat.le_of_ble_eq_true rfl) dX12_free_233 ?_
    refine r_imul dX12_free_236 ?_
    refine r_isub dX12_free_237 ?_
    refine r_istore dX12_free_238 (by decide) rfl ?_
    refine r_iinc (q := 5) (v := x5 + (1 : Int32)) dX12_free_240 rfl rfl (by decide) rfl ?_
    refine r_goto (t := 116) dX12_free_243 (by decide) ?_
    refine r_sub [4, 2, 5, 1, 0] rfl ?_
    exact hk116 _ _ _ _ _ _ h
set_option maxRecDepth 100000 in
set_option maxHeartbeats 4000000 in
theorem w_X12_free_161 {D : k_D} {dy : Nat → Nat} {k116 : Int32 → Int32 → Int32 → Int32 → St → Option (Int32 × St)} (hk116 : ∀ (x2 : Int32) (x3 : Int32) (x4 : Int32) (x5 : Int32) (S : St) (out : Int32 × St), k116 x2 x3 x4 x5 S = some out → Rn yX12_free cX12_free 9 (some .int) (k_rm 5) 0 0 D dy S (k_Pi dy out) 116 [(0, .ref (D.2.2 51)), (2, .int x2), (3, .int x3), (4, .int x4), (5, .int x5)] []) (x2 : Int32) (x3 : Int32) (x4 : Int32) (x5 : Int32) (s0 : Int32) (S : St) (out : Int32 × St) (h : f_X12_free_161 k116 x2 x3 x4 x5 s0 S = some out) : Rn yX12_free cX12_free 9 (some .int) (k_rm 5) 0 0 D dy S (k_Pi dy out) 161 [(0, .ref (D.2.2 51)), (2, .int x2), (3, .int x3), (4, .int x4), (5, .int x5)] [.int s0] := by
    unfold f_X12_free_161 at h
    refine r_istore dX12_free_161 (by decide) rfl ?_
    refine r_iload 4 dX12_free_163 rfl ?_
    refine r_aload_n 1 dX12_free_165 rfl rfl ?_
    refine r_iload 5 dX12_free_166 rfl ?_
    obtain ⟨q168, hq168, h⟩ := g_bind h
    refine r_callVi [.int x5] [.int x4] q168 (ok_X12_lengthOf hq168) q_1545 q_1547 q_97 q_1548 q_153 hd_X12_lengthOf (ce_51 D dy _) kc12.1 rfl ⟨Nat.le_of_ble_eq_true rfl, Nat.le_of_ble_eq_true rfl⟩ rfl rfl (Nat.le_of_ble_eq_true rfl) dX12_free_168 ?_
    obtain ⟨c1, h⟩ := g_ite h
    refine r_idiv dX12_free_171 c1 ?_
    refine r_istore dX12_free_172 (by decide) rfl ?_
    refine r_iload 1 dX12_free_174 rfl ?_
    refine r_if_ne (t := 183) dX12_free_176 (by decide) (fun c => ?_) (fun c => ?_)
    · rw [if_neg c] at h
      refine r_iload 0 dX12_free_183 rfl ?_
      refine r_aload_n 2 dX12_free_185 rfl rfl ?_
      refine gf_51_48 q_1359 dX12_free_186 ?_
      refine r_iload 6 dX12_free_189 rfl ?_
      obtain ⟨c2, h⟩ := g_ite h
      refine al_76 (k_b_in c2) dX12_free_191 ?_
      refine r_icmp_ge (t := 200) dX12_free_192 (by decide) (fun c => ?_) (fun c => ?_)
      · rw [if_pos c] at h
        refine r_aload_n 2 dX12_free_200 rfl rfl ?_
        refine gf_51_48 q_1359 dX12_free_201 ?_
        refine r_iload 6 dX12_free_204 rfl ?_
        obtain ⟨c3, h⟩ := g_ite h
        refine al_76 (k_b_in c3) dX12_free_206 ?_
        refine r_sub [2, 3, 4, 5, 6] rfl ?_
        exact w_X12_free_207 hk116 _ _ _ _ _ _ _ h
      · rw [if_neg c] at h
        refine r_iload 0 dX12_free_195 rfl ?_
        refine r_goto (t := 207) dX12_free_197 (by decide) ?_
        refine r_sub [2, 3, 4, 5, 6] rfl ?_
        exact w_X12_free_207 hk116 _ _ _ _ _ _ _ h
    · rw [if_pos c] at h
      refine r_iconst (v := 0) dX12_free_179 rfl ?_
      refine r_goto (t := 207) dX12_free_180 (by decide) ?_
      refine r_sub [2, 3, 4, 5, 6] rfl ?_
      exact w_X12_free_207 hk116 _ _ _ _ _ _ _ h
set_option maxRecDepth 100000 in
set_option maxHeartbeats 4000000 in
theorem w_X12_free_160 {D : k_D} {dy : Nat → Nat} {k116 : Int32 → Int32 → Int32 → Int32 → St → Option (Int32 × St)} (hk116 : ∀ (x2 : Int32) (x3 : Int32) (x4 : Int32) (x5 : Int32) (S : St) (out : Int32 × St), k116 x2 x3 x4 x5 S = some out → Rn yX12_free cX12_free 9 (some .int) (k_rm 5) 0 0 D dy S (k_Pi dy out) 116 [(0, .ref (D.2.2 51)), (2, .int x2), (3, .int x3), (4, .int x4), (5, .int x5)] []) (x2 : Int32) (x3 : Int32) (x4 : Int32) (x5 : Int32) (S : St) (out : Int32 × St) (h : f_X12_free_160 k116 x2 x3 x4 x5 S = some out) : Rn yX12_free cX12_free 9 (some .int) (k_rm 5) 0 0 D dy S (k_Pi dy out) 160 [(0, .ref (D.2.2 51)), (2, .int x2), (3, .int x3), (4, .int x4), (5, .int x5)] [] := by
    unfold f_X12_free_160 at h
    refine r_iconst (v := 0) dX12_free_160 rfl ?_
    exact w_X12_free_161 hk116 _ _ _ _ _ _ _ h
set_option maxRecDepth 100000 in
set_option maxHeartbeats 4000000 in
theorem w_X12_free_116 {D : k_D} {dy : Nat → Nat} {k88 : Int32 → Int32 → St → Option (Int32 × St)} (hk88 : ∀ (x2 : Int32) (x3 : Int32) (S : St) (out : Int32 × St), k88 x2 x3 S = some out → Rn yX12_free cX12_free 9 (some .int) (k_rm 5) 0 0 D dy S (k_Pi dy out) 88 [(0, .ref (D.2.2 51)), (2, .int x2), (3, .int x3)] []) : ∀ (n : Nat) (x2 : Int32) (x3 : Int32) (x4 : Int32) (x5 : Int32) (S : St) (out : Int32 × St), f_X12_free_116 k88 n x2 x3 x4 x5 S = some out → Rn yX12_free cX12_free 9 (some .int) (k_rm 5) 0 0 D dy S (k_Pi dy out) 116 [(0, .ref (D.2.2 51)), (2, .int x2), (3, .int x3), (4, .int x4), (5, .int x5)] [] := by
  intro n
  induction n with
  | zero => intro x2 x3 x4 x5 S out h; cases h
  | succ n ih =>
    intro x2 x3 x4 x5 S out h
    rw [f_X12_free_116] at h
    refine r_iload 4 dX12_free_116 rfl ?_
    refine r_aload_n 0 dX12_free_118 rfl rfl ?_
    obtain ⟨q119, hq119, h⟩ := g_bind h
    refine r_callVi [] [.int x5] q119 (ok_X12_debts hq119) q_1517 q_1519 q_91 q_1520 q_153 hd_X12_debts (ce_51 D dy _) kc12.1 rfl ⟨Nat.le_of_ble_eq_true rfl, Nat.le_of_ble_eq_true rfl⟩ rfl rfl (Nat.le_of_ble_eq_true rfl) dX12_free_119 ?_
    refine r_icmp_ge (t := 246) dX12_free_122 (by decide) (fun c => ?_) (fun c => ?_)
    · rw [if_pos c] at h
      refine r_iload_n 1 dX12_free_246 rfl rfl ?_
      refine r_if_ne (t := 252) dX12_free_247 (by decide) (fun c => ?_) (fun c => ?_)
      · rw [if_neg c] at h
        refine r_iinc (q := 2) (v := x3 + (1 : Int32)) dX12_free_252 rfl rfl (by decide) rfl ?_
        refine r_goto (t := 88) dX12_free_255 (by decide) ?_
        refine r_sub [1, 2, 0] rfl ?_
        exact hk88 _ _ _ _ h
      · rw [if_pos c] at h
        refine r_iload_n 2 dX12_free_250 rfl rfl ?_
        cases h
        exact r_iret rfl dX12_free_251 ⟨rfl, rfl, rfl⟩
    · rw [if_neg c] at h
      refine r_aload_n 0 dX12_free_125 rfl rfl ?_
      refine r_iload 4 dX12_free_126 rfl ?_
      refine r_iconst (v := 1) dX12_free_128 rfl ?_
      obtain ⟨q129, hq129, h⟩ := g_bind h
      refine r_callVi [.int x5, .int (1 : Int32)] [] q129 (ok_X12_ofDebt hq129) q_1533 q_1535 q_94 q_1536 q_153 hd_X12_ofDebt (ce_51 D dy _) kc12.1 rfl ⟨Nat.le_of_ble_eq_true rfl, Nat.le_of_ble_eq_true rfl⟩ rfl rfl (Nat.le_of_ble_eq_true rfl) dX12_free_129 ?_
      refine r_aload_n 0 dX12_free_132 rfl rfl ?_
      refine gf_51_3 q_1314 dX12_free_133 ?_
      refine r_bipush (v := 94) dX12_free_136 rfl ?_
      refine r_iconst (v := 2) dX12_free_138 rfl ?_
      refine r_iload_n 2 dX12_free_139 rfl rfl ?_
      refine r_imul dX12_free_140 ?_
      refine r_iadd dX12_free_141 ?_
      obtain ⟨c1, h⟩ := g_ite h
      refine al_53 (k_b_in c1) dX12_free_142 ?_
      refine r_icmp_ne (t := 160) dX12_free_143 (by decide) (fun c => ?_) (fun c => ?_)
      · rw [if_neg c] at h
        exact w_X12_free_160 ih _ _ _ _ _ _ h
      · rw [if_pos c] at h
        refine r_aload_n 0 dX12_free_146 rfl rfl ?_
        refine gf_51_35 q_1346 dX12_free_147 ?_
        refine r_iload 4 dX12_free_150 rfl ?_
        obtain ⟨c2, h⟩ := g_ite h
        refine al_68 (k_b_in c2) dX12_free_152 ?_
        refine r_if_ne (t := 160) dX12_free_153 (by decide) (fun c => ?_) (fun c => ?_)
        · rw [if_neg c] at h
          exact w_X12_free_160 ih _ _ _ _ _ _ h
        · rw [if_pos c] at h
          refine r_iconst (v := 1) dX12_free_156 rfl ?_
          refine r_goto (t := 161) dX12_free_157 (by decide) ?_
          exact w_X12_free_161 ih _ _ _ _ _ _ _ h
set_option maxRecDepth 100000 in
set_option maxHeartbeats 4000000 in
theorem w_X12_free_88 {D : k_D} {dy : Nat → Nat} : ∀ (n : Nat) (x2 : Int32) (x3 : Int32) (S : St) (out : Int32 × St), f_X12_free_88 n x2 x3 S = some out → Rn yX12_free cX12_free 9 (some .int) (k_rm 5) 0 0 D dy S (k_Pi dy out) 88 [(0, .ref (D.2.2 51)), (2, .int x2), (3, .int x3)] [] := by
  intro n
  induction n with
  | zero => intro x2 x3 S out h; cases h
  | succ n ih =>
    intro x2 x3 S out h
    rw [f_X12_free_88] at h
    refine r_iload_n 2 dX12_free_88 rfl rfl ?_
    refine r_aload_n 0 dX12_free_89 rfl rfl ?_
    refine gf_51_3 q_1314 dX12_free_90 ?_
    refine r_iconst (v := 4) dX12_free_93 rfl ?_
    obtain ⟨c1, h⟩ := g_ite h
    refine al_53 (k_b_in c1) dX12_free_94 ?_
    refine r_icmp_ge (t := 258) dX12_free_95 (by decide) (fun c => ?_) (fun c => ?_)
    · rw [if_pos c] at h
      refine r_bipush (v := 100) dX12_free_258 rfl ?_
      cases h
      exact r_iret rfl dX12_free_260 ⟨rfl, rfl, rfl⟩
    · rw [if_neg c] at h
      refine r_aload_n 0 dX12_free_98 rfl rfl ?_
      refine gf_51_3 q_1314 dX12_free_99 ?_
      refine r_bipush (v := 94) dX12_free_102 rfl ?_
      refine r_iconst (v := 2) dX12_free_104 rfl ?_
      refine r_iload_n 2 dX12_free_105 rfl rfl ?_
      refine r_imul dX12_free_106 ?_
      refine r_iadd dX12_free_107 ?_
      refine r_iconst (v := 1) dX12_free_108 rfl ?_
      refine r_iadd dX12_free_109 ?_
      obtain ⟨c2, h⟩ := g_ite h
      refine al_53 (k_b_in c2) dX12_free_110 ?_
      refine r_istore dX12_free_111 (by decide) rfl ?_
      refine r_iconst (v := 0) dX12_free_113 rfl ?_
      refine r_istore dX12_free_114 (by decide) rfl ?_
      refine r_sub [2, 3, 4, 1, 0] rfl ?_
      exact w_X12_free_116 ih _ _ _ _ _ _ _ h
set_option maxRecDepth 100000 in
set_option maxHeartbeats 4000000 in
theorem w_X12_free_64 {D : k_D} {dy : Nat → Nat} {k22 : Int32 → Int32 → Int32 → St → Option (Int32 × St)} (hk22 : ∀ (x1 : Int32) (x2 : Int32) (x3 : Int32) (S : St) (out : Int32 × St), k22 x1 x2 x3 S = some out → Rn yX12_free cX12_free 9 (some .int) (k_rm 5) 0 0 D dy S (k_Pi dy out) 22 [(0, .ref (D.2.2 51)), (1, .int x1), (2, .int x2), (3, .int x3)] []) (x1 : Int32) (x2 : Int32) (x3 : Int32) (s1 : Int32) (s2 : Int32) (S : St) (out : Int32 × St) (h : f_X12_free_64 k22 x1 x2 x3 s1 s2 S = some out) : Rn yX12_free cX12_free 9 (some .int) (k_rm 5) 0 0 D dy S (k_Pi dy out) 64 [(0, .ref (D.2.2 51)), (1, .int x1), (2, .int x2), (3, .int x3)] [.int s2, .int s1, .ref (D.2.2 76)] := by
    unfold f_X12_free_64 at h
    obtain ⟨c1, h⟩ := g_ite h
    refine as_76 (k_b_in c1) dX12_free_64 ?_
    generalize sA S 76 s1.toNatClampNeg s2 = S2 at h ⊢
    replace h := g_let h
    refine r_iload_n 2 dX12_free_65 rfl rfl ?_
    refine r_aload_n 0 dX12_free_66 rfl rfl ?_
    refine gf_51_48 q_1359 dX12_free_67 ?_
    refine r_iload_n 3 dX12_free_70 rfl rfl ?_
    obtain ⟨c3, h⟩ := g_ite h
    refine al_76 (k_b_in c3) dX12_free_71 ?_
    refine r_iadd dX12_free_72 ?_
    refine r_istore_n dX12_free_73 rfl (by decide) rfl ?_
    refine r_iinc (q := 3) (v := x3 + (1 : Int32)) dX12_free_74 rfl rfl (by decide) rfl ?_
    refine r_goto (t := 22) dX12_free_77 (by decide) ?_
    refine r_sub [2, 3, 1, 0] rfl ?_
    exact hk22 _ _ _ _ _ h
set_option maxRecDepth 100000 in
set_option maxHeartbeats 4000000 in
theorem w_X12_free_63 {D : k_D} {dy : Nat → Nat} {k22 : Int32 → Int32 → Int32 → St → Option (Int32 × St)} (hk22 : ∀ (x1 : Int32) (x2 : Int32) (x3 : Int32) (S : St) (out : Int32 × St), k22 x1 x2 x3 S = some out → Rn yX12_free cX12_free 9 (some .int) (k_rm 5) 0 0 D dy S (k_Pi dy out) 22 [(0, .ref (D.2.2 51)), (1, .int x1), (2, .int x2), (3, .int x3)] []) (x1 : Int32) (x2 : Int32) (x3 : Int32) (s1 : Int32) (S : St) (out : Int32 × St) (h : f_X12_free_63 k22 x1 x2 x3 s1 S = some out) : Rn yX12_free cX12_free 9 (some .int) (k_rm 5) 0 0 D dy S (k_Pi dy out) 63 [(0, .ref (D.2.2 51)), (1, .int x1), (2, .int x2), (3, .int x3)] [.int s1, .ref (D.2.2 76)] := by
    unfold f_X12_free_63 at h
    refine r_iconst (v := 0) dX12_free_63 rfl ?_
    exact w_X12_free_64 hk22 _ _ _ _ _ _ _ h
set_option maxRecDepth 100000 in
set_option maxHeartbeats 4000000 in
theorem w_X12_free_22 {D : k_D} {dy : Nat → Nat} : ∀ (n : Nat) (x1 : Int32) (x2 : Int32) (x3 : Int32) (S : St) (out : Int32 × St), f_X12_free_22 n x1 x2 x3 S = some out → Rn yX12_free cX12_free 9 (some .int) (k_rm 5) 0 0 D dy S (k_Pi dy out) 22 [(0, .ref (D.2.2 51)), (1, .int x1), (2, .int x2), (3, .int x3)] [] := by
  intro n
  induction n with
  | zero => intro x1 x2 x3 S out h; cases h
  | succ n ih =>
    intro x1 x2 x3 S out h
    rw [f_X12_free_22] at h
    refine r_iload_n 3 dX12_free_22 rfl rfl ?_
    refine r_aload_n 0 dX12_free_23 rfl rfl ?_
    obtain ⟨q24, hq24, h⟩ := g_bind h
    refine r_callVi [] [.int x3] q24 (ok_X12_debts hq24) q_1517 q_1519 q_91 q_1520 q_153 hd_X12_debts (ce_51 D dy _) kc12.1 rfl ⟨Nat.le_of_ble_eq_true rfl, Nat.le_of_ble_eq_true rfl⟩ rfl rfl (Nat.le_of_ble_eq_true rfl) dX12_free_24 ?_
    refine r_icmp_ge (t := 80) dX12_free_27 (by decide) (fun c => ?_) (fun c => ?_)
    · rw [if_pos c] at h
      refine r_iload_n 2 dX12_free_80 rfl rfl ?_
      refine r_if_ne (t := 86) dX12_free_81 (by decide) (fun c => ?_) (fun c => ?_)
      · rw [if_neg c] at h
        refine r_iconst (v := 0) dX12_free_86 rfl ?_
        refine r_istore_n dX12_free_87 rfl (by decide) rfl ?_
        refine r_sub [1, 3, 0] rfl ?_
        exact w_X12_free_88 _ _ _ _ _ h
      · rw [if_pos c] at h
        refine r_iconst (v := -1) dX12_free_84 rfl ?_
        cases h
        exact r_iret rfl dX12_free_85 ⟨rfl, rfl, rfl⟩
    · rw [if_neg c] at h
      refine r_aload_n 0 dX12_free_30 rfl rfl ?_
      refine gf_51_48 q_1359 dX12_free_31 ?_
      refine r_iload_n 3 dX12_free_34 rfl rfl ?_
      refine r_aload_n 0 dX12_free_35 rfl rfl ?_
      refine r_iload_n 3 dX12_free_36 rfl rfl ?_
      refine r_iconst (v := 0) dX12_free_37 rfl ?_
      obtain ⟨q38, hq38, h⟩ := g_bind h
      refine r_callVi [.int x3, .int (0 : Int32)] [.int x3, .ref (D.2.2 76)] q38 (ok_X12_ofDebt hq38) q_1533 q_1535 q_94 q_1536 q_153 hd_X12_ofDebt (ce_51 D dy _) kc12.1 rfl ⟨Nat.le_of_ble_eq_true rfl, Nat.le_of_ble_eq_true rfl⟩ rfl rfl (Nat.le_of_ble_eq_true rfl) dX12_free_38 ?_
      refine r_iload_n 1 dX12_free_41 rfl rfl ?_
      refine r_icmp_ne (t := 63) dX12_free_42 (by decide) (fun c => ?_) (fun c => ?_)
      · rw [if_neg c] at h
        exact w_X12_free_63 ih _ _ _ _ _ _ h
      · rw [if_pos c] at h
        refine r_aload_n 0 dX12_free_45 rfl rfl ?_
        refine gf_51_34 q_1345 dX12_free_46 ?_
        refine r_iload_n 3 dX12_free_49 rfl rfl ?_
        obtain ⟨c1, h⟩ := g_ite h
        refine al_67 (k_b_in c1) dX12_free_50 ?_
        refine r_if_ne (t := 63) dX12_free_51 (by decide) (fun c => ?_) (fun c => ?_)
        · rw [if_neg c] at h
          exact w_X12_free_63 ih _ _ _ _ _ _ h
        · rw [if_pos c] at h
          refine r_aload_n 0 dX12_free_54 rfl rfl ?_
          refine r_iload_n 3 dX12_free_55 rfl rfl ?_
          refine r_iconst (v := 3) dX12_free_56 rfl ?_
          obtain ⟨q57, hq57, h⟩ := g_bind h
          refine r_callVi [.int x3, .int (3 : Int32)] [.int x3, .ref (D.2.2 76)] q57 (ok_X12_ofDebt hq57) q_1533 q_1535 q_94 q_1536 q_153 hd_X12_ofDebt (ce_51 D dy _) kc12.1 rfl ⟨Nat.le_of_ble_eq_true rfl, Nat.le_of_ble_eq_true rfl⟩ rfl rfl (Nat.le_of_ble_eq_true rfl) dX12_free_57 ?_
          refine r_goto (t := 64) dX12_free_60 (by decide) ?_
          exact w_X12_free_64 ih _ _ _ _ _ _ _ h
set_option maxRecDepth 100000 in
set_option maxHeartbeats 4000000 in
theorem w_X12_free_0 {D : k_D} {dy : Nat → Nat} (x1 : Int32) (S : St) (out : Int32 × St) (h : f_X12_free x1 S = some out) : Rn yX12_free cX12_free 9 (some .int) (k_rm 5) 0 0 D dy S (k_Pi dy out) 0 [(0, .ref (D.2.2 51)), (1, .int x1)] [] := by
    unfold f_X12_free at h
    refine r_aload_n 0 dX12_free_0 rfl rfl ?_
    refine r_iconst (v := 0) dX12_free_1 rfl ?_
    refine pf_51_0 q_1311 dX12_free_2 ?_
    generalize sI S 33 (0 : Int32) = S1 at h ⊢
    replace h := g_let h
    refine r_iload_n 1 dX12_free_5 rfl rfl ?_
    obtain ⟨q6, hq6, h⟩ := g_bind h
    refine r_callSi [.int x1] [] q6 (ok_X12_isDancer hq6) q_1512 q_1513 q_1514 q_153 hd_X12_isDancer ⟨Nat.le_of_ble_eq_true rfl, Nat.le_of_ble_eq_true rfl⟩ rfl rfl (Nat.le_of_ble_eq_true rfl) dX12_free_6 ?_
    refine r_if_ne (t := 14) dX12_free_9 (by decide) (fun c => ?_) (fun c => ?_)
    · rw [if_neg c] at h
      refine r_aload_n 0 dX12_free_14 rfl rfl ?_
      obtain ⟨q15, hq15, h⟩ := g_bind h
      refine r_callVv [] [] q15 (ok_X12_askAll hq15) q_1537 q_1539 q_95 q_1540 q_153 hd_X12_askAll (ce_51 D dy _) kc12.1 rfl ⟨Nat.le_of_ble_eq_true rfl, Nat.le_of_ble_eq_true rfl⟩ rfl rfl (Nat.le_of_ble_eq_true rfl) dX12_free_15 ?_
      refine r_iconst (v := 0) dX12_free_18 rfl ?_
      refine r_istore_n dX12_free_19 rfl (by decide) rfl ?_
      refine r_iconst (v := 0) dX12_free_20 rfl ?_
      refine r_istore_n dX12_free_21 rfl (by decide) rfl ?_
      refine r_sub [2, 3, 1, 0] rfl ?_
      exact w_X12_free_22 _ _ _ _ _ _ h
    · rw [if_pos c] at h
      refine r_iconst (v := -1) dX12_free_12 rfl ?_
      cases h
      exact r_iret rfl dX12_free_13 ⟨rfl, rfl, rfl⟩
theorem ok_X12_free {D : k_D} {dy : Nat → Nat} {x1 : Int32} {S : St} {out : Int32 × St} (h : f_X12_free x1 S = some out) : Sp yX12_free cX12_free 9 (some .int) (k_rm 5) D dy S [.ref (D.2.2 51), .int x1] (k_Pi dy out) := Sp.of (by decide +kernel) (Nat.le_of_ble_eq_true rfl) (w_X12_free_0 _ S out h)
noncomputable def f_X12_dance (x1 : Int32) (x2 : Int32) (S : St) : Option (Int32 × St) := k_let (sI S 33 (0 : Int32)) fun S1 => (f_X12_isDancer x1 S1).bind fun q6 => if q6.1 = 0 then (f_X12_tell (-1 : Int32) q6.2).bind fun q14 => some (q14.1, q14.2) else (f_X12_isTune x2 q6.2).bind fun q20 => if q20.1 = 0 then (f_X12_tell (-2 : Int32) q20.2).bind fun q29 => some (q29.1, q29.2) else if k_b (5 : Int32) 5560 = true then if (gA q20.2 53 (5 : Int32).toNatClampNeg) = (10 : Int32) then (f_X12_tell (-5 : Int32) q20.2).bind fun q49 => some (q49.1, q49.2) else if k_b ((110 : Int32) + ((2 : Int32) * (gA q20.2 53 (5 : Int32).toNatClampNeg))) 5560 = true then k_let (sA q20.2 53 ((110 : Int32) + ((2 : Int32) * (gA q20.2 53 (5 : Int32).toNatClampNeg))).toNatClampNeg x1) fun S4 => if k_b (((110 : Int32) + ((2 : Int32) * (gA q20.2 53 (5 : Int32).toNatClampNeg))) + (1 : Int32)) 5560 = true then k_let (sA S4 53 (((110 : Int32) + ((2 : Int32) * (gA q20.2 53 (5 : Int32).toNatClampNeg))) + (1 : Int32)).toNatClampNeg x2) fun S6 => if k_b (5 : Int32) 5560 = true then if k_b (5 : Int32) 5560 = true then k_let (sA S6 53 (5 : Int32).toNatClampNeg ((gA S6 53 (5 : Int32).toNatClampNeg) + (1 : Int32))) fun S9 => (f_X12_tell (gA q20.2 53 (5 : Int32).toNatClampNeg) S9).bind fun q91 => some (q91.1, q91.2) else none else none else none else none else none
set_option maxRecDepth 100000 in
set_option maxHeartbeats 4000000 in
theorem w_X12_dance_0 {D : k_D} {dy : Nat → Nat} (x1 : Int32) (x2 : Int32) (S : St) (out : Int32 × St) (h : f_X12_dance x1 x2 S = some out) : Rn yX12_dance cX12_dance 4 (some .int) (k_rm 2) 0 0 D dy S (k_Pi dy out) 0 [(0, .ref (D.2.2 51)), (1, .int x1), (2, .int x2)] [] := by
    unfold f_X12_dance at h
    refine r_aload_n 0 dX12_dance_0 rfl rfl ?_
    refine r_iconst (v := 0) dX12_dance_1 rfl ?_
    refine pf_51_0 q_1311 dX12_dance_2 ?_
    generalize sI S 33 (0 : Int32) = S1 at h ⊢
    replace h := g_let h
    refine r_iload_n 1 dX12_dance_5 rfl rfl ?_
    obtain ⟨q6, hq6, h⟩ := g_bind h
    refine r_callSi [.int x1] [] q6 (ok_X12_isDancer hq6) q_1512 q_1513 q_1514 q_153 hd_X12_isDancer ⟨Nat.le_of_ble_eq_true rfl, Nat.le_of_ble_eq_true rfl⟩ rfl rfl (Nat.le_of_ble_eq_true rfl) dX12_dance_6 ?_
    refine r_if_ne (t := 18) dX12_dance_9 (by decide) (fun c => ?_) (fun c => ?_)
    · rw [if_neg c] at h
      refine r_aload_n 0 dX12_dance_18 rfl rfl ?_
      refine r_iload_n 2 dX12_dance_19 rfl rfl ?_
      obtain ⟨q20, hq20, h⟩ := g_bind h
      refine r_callVi [.int x2] [] q20 (ok_X12_isTune hq20) q_1501 q_1503 q_90 q_1504 q_153 hd_X12_isTune (ce_51 D dy _) kc12.1 rfl ⟨Nat.le_of_ble_eq_true rfl, Nat.le_of_ble_eq_true rfl⟩ rfl rfl (Nat.le_of_ble_eq_true rfl) dX12_dance_20 ?_
      refine r_if_ne (t := 33) dX12_dance_23 (by decide) (fun c => ?_) (fun c => ?_)
      · rw [if_neg c] at h
        refine r_aload_n 0 dX12_dance_33 rfl rfl ?_
        refine gf_51_3 q_1314 dX12_dance_34 ?_
        refine r_iconst (v := 5) dX12_dance_37 rfl ?_
        obtain ⟨c2, h⟩ := g_ite h
        refine al_53 (k_b_in c2) dX12_dance_38 ?_
        refine r_istore_n dX12_dance_39 rfl (by decide) rfl ?_
        refine r_iload_n 0 dX12_dance_40 rfl rfl ?_
        refine r_bipush (v := 10) dX12_dance_41 rfl ?_
        refine r_icmp_ne (t := 53) dX12_dance_43 (by decide) (fun c => ?_) (fun c => ?_)
        · rw [if_neg c] at h
          refine r_aload_n 1 dX12_dance_53 rfl rfl ?_
          refine gf_51_3 q_1314 dX12_dance_54 ?_
          refine r_bipush (v := 110) dX12_dance_57 rfl ?_
          refine r_iconst (v := 2) dX12_dance_59 rfl ?_
          refine r_iload_n 0 dX12_dance_60 rfl rfl ?_
          refine r_imul dX12_dance_61 ?_
          refine r_iadd dX12_dance_62 ?_
          refine r_iload_n 2 dX12_dance_63 rfl rfl ?_
          obtain ⟨c3, h⟩ := g_ite h
          refine as_53 (k_b_in c3) dX12_dance_64 ?_
          generalize sA q20.2 53 ((110 : Int32) + ((2 : Int32) * (gA q20.2 53 (5 : Int32).toNatClampNeg))).toNatClampNeg x1 = S4 at h ⊢
          replace h := g_let h
          refine r_aload_n 1 dX12_dance_65 rfl rfl ?_
          refine gf_51_3 q_1314 dX12_dance_66 ?_
          refine r_bipush (v := 110) dX12_dance_69 rfl ?_
          refine r_iconst (v := 2) dX12_dance_71 rfl ?_
          refine r_iload_n 0 dX12_dance_72 rfl rfl ?_
          refine r_imul dX12_dance_73 ?_
          refine r_iadd dX12_dance_74 ?_
          refine r_iconst (v := 1) dX12_dance_75 rfl ?_
          refine r_iadd dX12_dance_76 ?_
          refine r_iload_n 3 dX12_dance_77 rfl rfl ?_
          obtain ⟨c5, h⟩ := g_ite h
          refine as_53 (k_b_in c5) dX12_dance_78 ?_
          generalize sA S4 53 (((110 : Int32) + ((2 : Int32) * (gA q20.2 53 (5 : Int32).toNatClampNeg))) + (1 : Int32)).toNatClampNeg x2 = S6 at h ⊢
          replace h := g_let h
          refine r_aload_n 1 dX12_dance_79 rfl rfl ?_
          refine gf_51_3 q_1314 dX12_dance_80 ?_
          refine r_iconst (v := 5) dX12_dance_83 rfl ?_
          refine r_dup2 dX12_dance_84 rfl rfl ?_
          obtain ⟨c7, h⟩ := g_ite h
          refine al_53 (k_b_in c7) dX12_dance_85 ?_
          refine r_iconst (v := 1) dX12_dance_86 rfl ?_
          refine r_iadd dX12_dance_87 ?_
          obtain ⟨c8, h⟩ := g_ite h
          refine as_53 (k_b_in c8) dX12_dance_88 ?_
          generalize sA S6 53 (5 : Int32).toNatClampNeg ((gA S6 53 (5 : Int32).toNatClampNeg) + (1 : Int32)) = S9 at h ⊢
          replace h := g_let h
          refine r_aload_n 1 dX12_dance_89 rfl rfl ?_
          refine r_iload_n 0 dX12_dance_90 rfl rfl ?_
          obtain ⟨q91, hq91, h⟩ := g_bind h
          refine r_callVi [.int (gA q20.2 53 (5 : Int32).toNatClampNeg)] [] q91 (ok_X12_tell hq91) q_1484 q_1486 q_89 q_1487 q_153 hd_X12_tell (ce_51 D dy _) kc12.1 rfl ⟨Nat.le_of_ble_eq_true rfl, Nat.le_of_ble_eq_true rfl⟩ rfl rfl (Nat.le_of_ble_eq_true rfl) dX12_dance_91 ?_
          cases h
          exact r_iret rfl dX12_dance_94 ⟨rfl, rfl, rfl⟩
        · rw [if_pos c] at h
          refine r_aload_n 1 dX12_dance_46 rfl rfl ?_
          refine r_bipush (v := -5) dX12_dance_47 rfl ?_
          obtain ⟨q49, hq49, h⟩ := g_bind h
          refine r_callVi [.int (-5 : Int32)] [] q49 (ok_X12_tell hq49) q_1484 q_1486 q_89 q_1487 q_153 hd_X12_tell (ce_51 D dy _) kc12.1 rfl ⟨Nat.le_of_ble_eq_true rfl, Nat.le_of_ble_eq_true rfl⟩ rfl rfl (Nat.le_of_ble_eq_true rfl) dX12_dance_49 ?_
          cases h
          exact r_iret rfl dX12_dance_52 ⟨rfl, rfl, rfl⟩
      · rw [if_pos c] at h
        refine r_aload_n 0 dX12_dance_26 rfl rfl ?_
        refine r_bipush (v := -2) dX12_dance_27 rfl ?_
        obtain ⟨q29, hq29, h⟩ := g_bind h
        refine r_callVi [.int (-2 : Int32)] [] q29 (ok_X12_tell hq29) q_1484 q_1486 q_89 q_1487 q_153 hd_X12_tell (ce_51 D dy _) kc12.1 rfl ⟨Nat.le_of_ble_eq_true rfl, Nat.le_of_ble_eq_true rfl⟩ rfl rfl (Nat.le_of_ble_eq_true rfl) dX12_dance_29 ?_
        cases h
        exact r_iret rfl dX12_dance_32 ⟨rfl, rfl, rfl⟩
    · rw [if_pos c] at h
      refine r_aload_n 0 dX12_dance_12 rfl rfl ?_
      refine r_iconst (v := -1) dX12_dance_13 rfl ?_
      obtain ⟨q14, hq14, h⟩ := g_bind h
      refine r_callVi [.int (-1 : Int32)] [] q14 (ok_X12_tell hq14) q_1484 q_1486 q_89 q_1487 q_153 hd_X12_tell (ce_51 D dy _) kc12.1 rfl ⟨Nat.le_of_ble_eq_true rfl, Nat.le_of_ble_eq_true rfl⟩ rfl rfl (Nat.le_of_ble_eq_true rfl) dX12_dance_14 ?_
      cases h
      exact r_iret rfl dX12_dance_17 ⟨rfl, rfl, rfl⟩
theorem ok_X12_dance {D : k_D} {dy : Nat → Nat} {x1 : Int32} {x2 : Int32} {S : St} {out : Int32 × St} (h : f_X12_dance x1 x2 S = some out) : Sp yX12_dance cX12_dance 4 (some .int) (k_rm 2) D dy S [.ref (D.2.2 51), .int x1, .int x2] (k_Pi dy out) := Sp.of (by decide +kernel) (Nat.le_of_ble_eq_true rfl) (w_X12_dance_0 _ _ S out h)
noncomputable def f_X12_isDance (x1 : Int32) (S : St) : Option (Int32 × St) := if k_b (5 : Int32) 5560 = true then (f_X12_in x1.toInt64 (0 : Int64) (((gA S 53 (5 : Int32).toNatClampNeg).toInt64) - (1 : Int64)) S).bind fun q12 => if q12.1 = 0 ∨ q12.1 = 1 then some (q12.1, q12.2) else none else none
set_option maxRecDepth 100000 in
set_option maxHeartbeats 4000000 in
theorem w_X12_isDance_0 {D : k_D} {dy : Nat → Nat} (x1 : Int32) (S : St) (out : Int32 × St) (h : f_X12_isDance x1 S = some out) : Rn yX12_isDance cX12_isDance 2 (some .boolean) (k_rm 1) 0 0 D dy S (k_Pi dy out) 0 [(0, .ref (D.2.2 51)), (1, .int x1)] [] := by
    unfold f_X12_isDance at h
    refine r_iload_n 1 dX12_isDance_0 rfl rfl ?_
    refine r_i2l dX12_isDance_1 ?_
    refine r_lconst (v := 0) dX12_isDance_2 rfl ?_
    refine r_aload_n 0 dX12_isDance_3 rfl rfl ?_
    refine gf_51_3 q_1314 dX12_isDance_4 ?_
    refine r_iconst (v := 5) dX12_isDance_7 rfl ?_
    obtain ⟨c1, h⟩ := g_ite h
    refine al_53 (k_b_in c1) dX12_isDance_8 ?_
    refine r_i2l dX12_isDance_9 ?_
    refine r_lconst (v := 1) dX12_isDance_10 rfl ?_
    refine r_lsub dX12_isDance_11 ?_
    obtain ⟨q12, hq12, h⟩ := g_bind h
    refine r_callSi [.long x1.toInt64, .long (0 : Int64), .long (((gA S 53 (5 : Int32).toNatClampNeg).toInt64) - (1 : Int64))] [] q12 (ok_X12_in hq12) q_1481 q_1482 q_1483 q_153 hd_X12_in ⟨Nat.le_of_ble_eq_true rfl, Nat.le_of_ble_eq_true rfl⟩ rfl rfl (Nat.le_of_ble_eq_true rfl) dX12_isDance_12 ?_
    obtain ⟨c, h⟩ := g_ite h
    cases h
    exact r_zret rfl (k_zn c) dX12_isDance_15 ⟨rfl, rfl, rfl⟩
theorem ok_X12_isDance {D : k_D} {dy : Nat → Nat} {x1 : Int32} {S : St} {out : Int32 × St} (h : f_X12_isDance x1 S = some out) : Sp yX12_isDance cX12_isDance 2 (some .boolean) (k_rm 1) D dy S [.ref (D.2.2 51), .int x1] (k_Pi dy out) := Sp.of (by decide +kernel) (Nat.le_of_ble_eq_true rfl) (w_X12_isDance_0 _ S out h)
noncomputable def f_X12_ahead_32 (S : St) : Option (Int32 × St) := (f_X12_tell (-2 : Int32) S).bind fun q35 => some (q35.1, q35.2)
noncomputable def f_X12_ahead (x1 : Int32) (x2 : Int32) (S : St) : Option (Int32 × St) := k_let (sI S 33 (0 : Int32)) fun S1 => if x1 = x2 then (f_X12_tell (-1 : Int32) S1).bind fun q12 => some (q12.1, q12.2) else (f_X12_isDance x1 S1).bind fun q18 => if q18.1 = 0 then f_X12_ahead_32 q18.2 else (f_X12_isDance x2 q18.2).bind fun q26 => if q26.1 = 0 then f_X12_ahead_32 q26.2 else if k_b (6 : Int32) 5560 = true then if (gA q26.2 53 (6 : Int32).toNatClampNeg) = (12 : Int32) then (f_X12_tell (-5 : Int32) q26.2).bind fun q56 => some (q56.1, q56.2) else if k_b ((130 : Int32) + ((2 : Int32) * (gA q26.2 53 (6 : Int32).toNatClampNeg))) 5560 = true then k_let (sA q26.2 53 ((130 : Int32) + ((2 : Int32) * (gA q26.2 53 (6 : Int32).toNatClampNeg))).toNatClampNeg x1) fun S4 => if k_b (((130 : Int32) + ((2 : Int32) * (gA q26.2 53 (6 : Int32).toNatClampNeg))) + (1 : Int32)) 5560 = true then k_let (sA S4 53 (((130 : Int32) + ((2 : Int32) * (gA q26.2 53 (6 : Int32).toNatClampNeg))) + (1 : Int32)).toNatClampNeg x2) fun S6 => if k_b (6 : Int32) 5560 = true then if k_b (6 : Int32) 5560 = true then k_let (sA S6 53 (6 : Int32).toNatClampNeg ((gA S6 53 (6 : Int32).toNatClampNeg) + (1 : Int32))) fun S9 => (f_X12_tell ((gA q26.2 53 (6 : Int32).toNatClampNeg) + (1 : Int32)) S9).bind fun q103 => some (q103.1, q103.2) else none else none else none else none else none
set_option maxRecDepth 100000 in
set_option maxHeartbeats 4000000 in
theorem w_X12_ahead_32 {D : k_D} {dy : Nat → Nat} (S : St) (out : Int32 × St) (h : f_X12_ahead_32 S = some out) : Rn yX12_ahead cX12_ahead 4 (some .int) (k_rm 2) 0 0 D dy S (k_Pi dy out) 32 [(0, .ref (D.2.2 51))] [] := by
    unfold f_X12_ahead_32 at h
    refine r_aload_n 0 dX12_ahead_32 rfl rfl ?_
    refine r_bipush (v := -2) dX12_ahead_33 rfl ?_
    obtain ⟨q35, hq35, h⟩ := g_bind h
    refine r_callVi [.int (-2 : Int32)] [] q35 (ok_X12_tell hq35) q_1484 q_1486 q_89 q_1487 q_153 hd_X12_tell (ce_51 D dy _) kc12.1 rfl ⟨Nat.le_of_ble_eq_true rfl, Nat.le_of_ble_eq_true rfl⟩ rfl rfl (Nat.le_of_ble_eq_true rfl) dX12_ahead_35 ?_
    cases h
    exact r_iret rfl dX12_ahead_38 ⟨rfl, rfl, rfl⟩
set_option maxRecDepth 100000 in
set_option maxHeartbeats 4000000 in
theorem w_X12_ahead_0 {D : k_D} {dy : Nat → Nat} (x1 : Int32) (x2 : Int32) (S : St) (out : Int32 × St) (h : f_X12_ahead x1 x2 S = some out) : Rn yX12_ahead cX12_ahead 4 (some .int) (k_rm 2) 0 0 D dy S (k_Pi dy out) 0 [(0, .ref (D.2.2 51)), (1, .int x1), (2, .int x2)] [] := by
    unfold f_X12_ahead at h
    refine r_aload_n 0 dX12_ahead_0 rfl rfl ?_
    refine r_iconst (v := 0) dX12_ahead_1 rfl ?_
    refine pf_51_0 q_1311 dX12_ahead_2 ?_
    generalize sI S 33 (0 : Int32) = S1 at h ⊢
    replace h := g_let h
    refine r_iload_n 1 dX12_ahead_5 rfl rfl ?_
    refine r_iload_n 2 dX12_ahead_6 rfl rfl ?_
    refine r_icmp_ne (t := 16) dX12_ahead_7 (by decide) (fun c => ?_) (fun c => ?_)
    · rw [if_neg c] at h
      refine r_aload_n 0 dX12_ahead_16 rfl rfl ?_
      refine r_iload_n 1 dX12_ahead_17 rfl rfl ?_
      obtain ⟨q18, hq18, h⟩ := g_bind h
      refine r_callVi [.int x1] [] q18 (ok_X12_isDance hq18) q_1830 q_1832 q_134 q_1833 q_153 hd_X12_isDance (ce_51 D dy _) kc12.1 rfl ⟨Nat.le_of_ble_eq_true rfl, Nat.le_of_ble_eq_true rfl⟩ rfl rfl (Nat.le_of_ble_eq_true rfl) dX12_ahead_18 ?_
      refine r_if_eq (t := 32) dX12_ahead_21 (by decide) (fun c => ?_) (fun c => ?_)
      · rw [if_pos c] at h
        refine r_sub [0] rfl ?_
        exact w_X12_ahead_32 _ _ h
      · rw [if_neg c] at h
        refine r_aload_n 0 dX12_ahead_24 rfl rfl ?_
        refine r_iload_n 2 dX12_ahead_25 rfl rfl ?_
        obtain ⟨q26, hq26, h⟩ := g_bind h
        refine r_callVi [.int x2] [] q26 (ok_X12_isDance hq26) q_1830 q_1832 q_134 q_1833 q_153 hd_X12_isDance (ce_51 D dy _) kc12.1 rfl ⟨Nat.le_of_ble_eq_true rfl, Nat.le_of_ble_eq_true rfl⟩ rfl rfl (Nat.le_of_ble_eq_true rfl) dX12_ahead_26 ?_
        refine r_if_ne (t := 39) dX12_ahead_29 (by decide) (fun c => ?_) (fun c => ?_)
        · rw [if_neg c] at h
          refine r_aload_n 0 dX12_ahead_39 rfl rfl ?_
          refine gf_51_3 q_1314 dX12_ahead_40 ?_
          refine r_bipush (v := 6) dX12_ahead_43 rfl ?_
          obtain ⟨c2, h⟩ := g_ite h
          refine al_53 (k_b_in c2) dX12_ahead_45 ?_
          refine r_istore_n dX12_ahead_46 rfl (by decide) rfl ?_
          refine r_iload_n 0 dX12_ahead_47 rfl rfl ?_
          refine r_bipush (v := 12) dX12_ahead_48 rfl ?_
          refine r_icmp_ne (t := 60) dX12_ahead_50 (by decide) (fun c => ?_) (fun c => ?_)
          · rw [if_neg c] at h
            refine r_aload_n 1 dX12_ahead_60 rfl rfl ?_
            refine gf_51_3 q_1314 dX12_ahead_61 ?_
            refine r_sipush (v := 130) dX12_ahead_64 rfl ?_
            refine r_iconst (v := 2) dX12_ahead_67 rfl ?_
            refine r_iload_n 0 dX12_ahead_68 rfl rfl ?_
            refine r_imul dX12_ahead_69 ?_
            refine r_iadd dX12_ahead_70 ?_
            refine r_iload_n 2 dX12_ahead_71 rfl rfl ?_
            obtain ⟨c3, h⟩ := g_ite h
            refine as_53 (k_b_in c3) dX12_ahead_72 ?_
            generalize sA q26.2 53 ((130 : Int32) + ((2 : Int32) * (gA q26.2 53 (6 : Int32).toNatClampNeg))).toNatClampNeg x1 = S4 at h ⊢
            replace h := g_let h
            refine r_aload_n 1 dX12_ahead_73 rfl rfl ?_
            refine gf_51_3 q_1314 dX12_ahead_74 ?_
            refine r_sipush (v := 130) dX12_ahead_77 rfl ?_
            refine r_iconst (v := 2) dX12_ahead_80 rfl ?_
            refine r_iload_n 0 dX12_ahead_81 rfl rfl ?_
            refine r_imul dX12_ahead_82 ?_
            refine r_iadd dX12_ahead_83 ?_
            refine r_iconst (v := 1) dX12_ahead_84 rfl ?_
            refine r_iadd dX12_ahead_85 ?_
            refine r_iload_n 3 dX12_ahead_86 rfl rfl ?_
            obtain ⟨c5, h⟩ := g_ite h
            refine as_53 (k_b_in c5) dX12_ahead_87 ?_
            generalize sA S4 53 (((130 : Int32) + ((2 : Int32) * (gA q26.2 53 (6 : Int32).toNatClampNeg))) + (1 : Int32)).toNatClampNeg x2 = S6 at h ⊢
            replace h := g_let h
            refine r_aload_n 1 dX12_ahead_88 rfl rfl ?_
            refine gf_51_3 q_1314 dX12_ahead_89 ?_
            refine r_bipush (v := 6) dX12_ahead_92 rfl ?_
            refine r_dup2 dX12_ahead_94 rfl rfl ?_
            obtain ⟨c7, h⟩ := g_ite h
            refine al_53 (k_b_in c7) dX12_ahead_95 ?_
            refine r_iconst (v := 1) dX12_ahead_96 rfl ?_
            refine r_iadd dX12_ahead_97 ?_
            obtain ⟨c8, h⟩ := g_ite h
            refine as_53 (k_b_in c8) dX12_ahead_98 ?_
            generalize sA S6 53 (6 : Int32).toNatClampNeg ((gA S6 53 (6 : Int32).toNatClampNeg) + (1 : Int32)) = S9 at h ⊢
            replace h := g_let h
            refine r_aload_n 1 dX12_ahead_99 rfl rfl ?_
            refine r_iload_n 0 dX12_ahead_100 rfl rfl ?_
            refine r_iconst (v := 1) dX12_ahead_101 rfl ?_
            refine r_iadd dX12_ahead_102 ?_
            obtain ⟨q103, hq103, h⟩ := g_bind h
            refine r_callVi [.int ((gA q26.2 53 (6 : Int32).toNatClampNeg) + (1 : Int32))] [] q103 (ok_X12_tell hq103) q_1484 q_1486 q_89 q_1487 q_153 hd_X12_tell (ce_51 D dy _) kc12.1 rfl ⟨Nat.le_of_ble_eq_true rfl, Nat.le_of_ble_eq_true rfl⟩ rfl rfl (Nat.le_of_ble_eq_true rfl) dX12_ahead_103 ?_
            cases h
            exact r_iret rfl dX12_ahead_106 ⟨rfl, rfl, rfl⟩
          · rw [if_pos c] at h
            refine r_aload_n 1 dX12_ahead_53 rfl rfl ?_
            refine r_bipush (v := -5) dX12_ahead_54 rfl ?_
            obtain ⟨q56, hq56, h⟩ := g_bind h
            refine r_callVi [.int (-5 : Int32)] [] q56 (ok_X12_tell hq56) q_1484 q_1486 q_89 q_1487 q_153 hd_X12_tell (ce_51 D dy _) kc12.1 rfl ⟨Nat.le_of_ble_eq_true rfl, Nat.le_of_ble_eq_true rfl⟩ rfl rfl (Nat.le_of_ble_eq_true rfl) dX12_ahead_56 ?_
            cases h
            exact r_iret rfl dX12_ahead_59 ⟨rfl, rfl, rfl⟩
        · rw [if_pos c] at h
          refine r_sub [0] rfl ?_
          exact w_X12_ahead_32 _ _ h
    · rw [if_pos c] at h
      refine r_aload_n 0 dX12_ahead_10 rfl rfl ?_
      refine r_iconst (v := -1) dX12_ahead_11 rfl ?_
      obtain ⟨q12, hq12, h⟩ := g_bind h
      refine r_callVi [.int (-1 : Int32)] [] q12 (ok_X12_tell hq12) q_1484 q_1486 q_89 q_1487 q_153 hd_X12_tell (ce_51 D dy _) kc12.1 rfl ⟨Nat.le_of_ble_eq_true rfl, Nat.le_of_ble_eq_true rfl⟩ rfl rfl (Nat.le_of_ble_eq_true rfl) dX12_ahead_12 ?_
      cases h
      exact r_iret rfl dX12_ahead_15 ⟨rfl, rfl, rfl⟩
theorem ok_X12_ahead {D : k_D} {dy : Nat → Nat} {x1 : Int32} {x2 : Int32} {S : St} {out : Int32 × St} (h : f_X12_ahead x1 x2 S = some out) : Sp yX12_ahead cX12_ahead 4 (some .int) (k_rm 2) D dy S [.ref (D.2.2 51), .int x1, .int x2] (k_Pi dy out) := Sp.of (by decide +kernel) (Nat.le_of_ble_eq_true rfl) (w_X12_ahead_0 _ _ S out h)
noncomputable def f_X12_forget (S : St) : Option (Int32 × St) := k_let (sI S 33 (0 : Int32)) fun S1 => if k_b (5 : Int32) 5560 = true then if k_b (5 : Int32) 5560 = true then k_let (sA S1 53 (5 : Int32).toNatClampNeg (0 : Int32)) fun S4 => if k_b (6 : Int32) 5560 = true then k_let (sA S4 53 (6 : Int32).toNatClampNeg (0 : Int32)) fun S6 => some (gA S1 53 (5 : Int32).toNatClampNeg, S6) else none else none else none
set_option maxRecDepth 100000 in
set_option maxHeartbeats 4000000 in
theorem w_X12_forget_0 {D : k_D} {dy : Nat → Nat} (S : St) (out : Int32 × St) (h : f_X12_forget S = some out) : Rn yX12_forget cX12_forget 2 (some .int) (k_rm 0) 0 0 D dy S (k_Pi dy out) 0 [(0, .ref (D.2.2 51))] [] := by
    unfold f_X12_forget at h
    refine r_aload_n 0 dX12_forget_0 rfl rfl ?_
    refine r_iconst (v := 0) dX12_forget_1 rfl ?_
    refine pf_51_0 q_1311 dX12_forget_2 ?_
    generalize sI S 33 (0 : Int32) = S1 at h ⊢
    replace h := g_let h
    refine r_aload_n 0 dX12_forget_5 rfl rfl ?_
    refine gf_51_3 q_1314 dX12_forget_6 ?_
    refine r_iconst (v := 5) dX12_forget_9 rfl ?_
    obtain ⟨c2, h⟩ := g_ite h
    refine al_53 (k_b_in c2) dX12_forget_10 ?_
    refine r_istore_n dX12_forget_11 rfl (by decide) rfl ?_
    refine r_aload_n 1 dX12_forget_12 rfl rfl ?_
    refine gf_51_3 q_1314 dX12_forget_13 ?_
    refine r_iconst (v := 5) dX12_forget_16 rfl ?_
    refine r_iconst (v := 0) dX12_forget_17 rfl ?_
    obtain ⟨c3, h⟩ := g_ite h
    refine as_53 (k_b_in c3) dX12_forget_18 ?_
    generalize sA S1 53 (5 : Int32).toNatClampNeg (0 : Int32) = S4 at h ⊢
    replace h := g_let h
    refine r_aload_n 1 dX12_forget_19 rfl rfl ?_
    refine gf_51_3 q_1314 dX12_forget_20 ?_
    refine r_bipush (v := 6) dX12_forget_23 rfl ?_
    refine r_iconst (v := 0) dX12_forget_25 rfl ?_
    obtain ⟨c5, h⟩ := g_ite h
    refine as_53 (k_b_in c5) dX12_forget_26 ?_
    generalize sA S4 53 (6 : Int32).toNatClampNeg (0 : Int32) = S6 at h ⊢
    replace h := g_let h
    refine r_iload_n 0 dX12_forget_27 rfl rfl ?_
    cases h
    exact r_iret rfl dX12_forget_28 ⟨rfl, rfl, rfl⟩
theorem ok_X12_forget {D : k_D} {dy : Nat → Nat} {S : St} {out : Int32 × St} (h : f_X12_forget S = some out) : Sp yX12_forget cX12_forget 2 (some .int) (k_rm 0) D dy S [.ref (D.2.2 51)] (k_Pi dy out) := Sp.of (by decide +kernel) (Nat.le_of_ble_eq_true rfl) (w_X12_forget_0 S out h)
noncomputable def f_X12_findBefore_122 (k86 : Int32 → Int32 → St → Option (St)) (x1 : Int32) (x2 : Int32) (s1 : Int32) (s2 : Int32) (s3 : Int32) (S : St) : Option (St) := if k_b s1 10 = true then k_let (sA S 77 s1.toNatClampNeg (s2 ||| s3)) fun S2 => k86 x1 (x2 + (1 : Int32)) S2 else none
noncomputable def f_X12_findBefore_86 (k78 : Int32 → St → Option (St)) : Nat → Int32 → Int32 → St → Option (St)
  | 0, _, _, _ => none
  | n + 1, x1, x2, S => if (10 : Int32) ≤ x2 then k78 (x1 + (1 : Int32)) S else if k_b x2 10 = true then if k_b x2 10 = true then (f_X12_is (gA S 77 x2.toNatClampNeg) x1 S).bind fun q106 => if q106.1 = 0 then f_X12_findBefore_122 (f_X12_findBefore_86 k78 n) x1 x2 x2 (gA S 77 x2.toNatClampNeg) (0 : Int32) q106.2 else if k_b x1 10 = true then f_X12_findBefore_122 (f_X12_findBefore_86 k78 n) x1 x2 x2 (gA S 77 x2.toNatClampNeg) (gA q106.2 77 x1.toNatClampNeg) q106.2 else none else none else none
noncomputable def f_X12_findBefore_78 : Nat → Int32 → St → Option (St)
  | 0, _, _ => none
  | n + 1, x1, S => if (10 : Int32) ≤ x1 then some S else f_X12_findBefore_86 (f_X12_findBefore_78 n) FU x1 (0 : Int32) S
noncomputable def f_X12_findBefore_23 : Nat → Int32 → St → Option (St)
  | 0, _, _ => none
  | n + 1, x1, S => if k_b (6 : Int32) 5560 = true then if (gA S 53 (6 : Int32).toNatClampNeg) ≤ x1 then f_X12_findBefore_78 FU (0 : Int32) S else if k_b (((130 : Int32) + ((2 : Int32) * x1)) + (1 : Int32)) 5560 = true then if k_b (gA S 53 (((130 : Int32) + ((2 : Int32) * x1)) + (1 : Int32)).toNatClampNeg) 10 = true then if k_b ((130 : Int32) + ((2 : Int32) * x1)) 5560 = true then if k_b (gA S 53 (((130 : Int32) + ((2 : Int32) * x1)) + (1 : Int32)).toNatClampNeg) 10 = true then k_let (sA S 77 (gA S 53 (((130 : Int32) + ((2 : Int32) * x1)) + (1 : Int32)).toNatClampNeg).toNatClampNeg ((gA S 77 (gA S 53 (((130 : Int32) + ((2 : Int32) * x1)) + (1 : Int32)).toNatClampNeg).toNatClampNeg) ||| ((1 : Int32) <<< ((gA S 53 ((130 : Int32) + ((2 : Int32) * x1)).toNatClampNeg) &&& 31)))) fun S6 => f_X12_findBefore_23 n (x1 + (1 : Int32)) S6 else none else none else none else none else none
noncomputable def f_X12_findBefore_2 : Nat → Int32 → St → Option (St)
  | 0, _, _ => none
  | n + 1, x1, S => if (10 : Int32) ≤ x1 then f_X12_findBefore_23 FU (0 : Int32) S else if k_b x1 10 = true then k_let (sA S 77 x1.toNatClampNeg (0 : Int32)) fun S2 => f_X12_findBefore_2 n (x1 + (1 : Int32)) S2 else none
noncomputable def f_X12_findBefore (S : St) : Option (St) := f_X12_findBefore_2 FU (0 : Int32) S
set_option maxRecDepth 100000 in
set_option maxHeartbeats 4000000 in
theorem w_X12_findBefore_122 {D : k_D} {dy : Nat → Nat} {k86 : Int32 → Int32 → St → Option (St)} (hk86 : ∀ (x1 : Int32) (x2 : Int32) (S : St) (out : St), k86 x1 x2 S = some out → Rn yX12_findBefore cX12_findBefore 3 none (k_rm 1) 0 0 D dy S (k_Pv dy out) 86 [(0, .ref (D.2.2 51)), (1, .int x1), (2, .int x2)] []) (x1 : Int32) (x2 : Int32) (s1 : Int32) (s2 : Int32) (s3 : Int32) (S : St) (out : St) (h : f_X12_findBefore_122 k86 x1 x2 s1 s2 s3 S = some out) : Rn yX12_findBefore cX12_findBefore 3 none (k_rm 1) 0 0 D dy S (k_Pv dy out) 122 [(0, .ref (D.2.2 51)), (1, .int x1), (2, .int x2)] [.int s3, .int s2, .int s1, .ref (D.2.2 77)] := by
    unfold f_X12_findBefore_122 at h
    refine r_ior dX12_findBefore_122 ?_
    obtain ⟨c1, h⟩ := g_ite h
    refine as_77 (k_b_in c1) dX12_findBefore_123 ?_
    generalize sA S 77 s1.toNatClampNeg (s2 ||| s3) = S2 at h ⊢
    replace h := g_let h
    refine r_iinc (q := 2) (v := x2 + (1 : Int32)) dX12_findBefore_124 rfl rfl (by decide) rfl ?_
    refine r_goto (t := 86) dX12_findBefore_127 (by decide) ?_
    refine r_sub [1, 2, 0] rfl ?_
    exact hk86 _ _ _ _ h
set_option maxRecDepth 100000 in
set_option maxHeartbeats 4000000 in
theorem w_X12_findBefore_86 {D : k_D} {dy : Nat → Nat} {k78 : Int32 → St → Option (St)} (hk78 : ∀ (x1 : Int32) (S : St) (out : St), k78 x1 S = some out → Rn yX12_findBefore cX12_findBefore 3 none (k_rm 1) 0 0 D dy S (k_Pv dy out) 78 [(0, .ref (D.2.2 51)), (1, .int x1)] []) : ∀ (n : Nat) (x1 : Int32) (x2 : Int32) (S : St) (out : St), f_X12_findBefore_86 k78 n x1 x2 S = some out → Rn yX12_findBefore cX12_findBefore 3 none (k_rm 1) 0 0 D dy S (k_Pv dy out) 86 [(0, .ref (D.2.2 51)), (1, .int x1), (2, .int x2)] [] := by
  intro n
  induction n with
  | zero => intro x1 x2 S out h; cases h
  | succ n ih =>
    intro x1 x2 S out h
    rw [f_X12_findBefore_86] at h
    refine r_iload_n 2 dX12_findBefore_86 rfl rfl ?_
    refine r_bipush (v := 10) dX12_findBefore_87 rfl ?_
    refine r_icmp_ge (t := 130) dX12_findBefore_89 (by decide) (fun c => ?_) (fun c => ?_)
    · rw [if_pos c] at h
      refine r_iinc (q := 1) (v := x1 + (1 : Int32)) dX12_findBefore_130 rfl rfl (by decide) rfl ?_
      refine r_goto (t := 78) dX12_findBefore_133 (by decide) ?_
      refine r_sub [1, 0] rfl ?_
      exact hk78 _ _ _ h
    · rw [if_neg c] at h
      refine r_aload_n 0 dX12_findBefore_92 rfl rfl ?_
      refine gf_51_49 q_1360 dX12_findBefore_93 ?_
      refine r_iload_n 2 dX12_findBefore_96 rfl rfl ?_
      refine r_dup2 dX12_findBefore_97 rfl rfl ?_
      obtain ⟨c1, h⟩ := g_ite h
      refine al_77 (k_b_in c1) dX12_findBefore_98 ?_
      refine r_aload_n 0 dX12_findBefore_99 rfl rfl ?_
      refine gf_51_49 q_1360 dX12_findBefore_100 ?_
      refine r_iload_n 2 dX12_findBefore_103 rfl rfl ?_
      obtain ⟨c2, h⟩ := g_ite h
      refine al_77 (k_b_in c2) dX12_findBefore_104 ?_
      refine r_iload_n 1 dX12_findBefore_105 rfl rfl ?_
      obtain ⟨q106, hq106, h⟩ := g_bind h
      refine r_callSi [.int (gA S 77 x2.toNatClampNeg), .int x1] [.int (gA S 77 x2.toNatClampNeg), .int x2, .ref (D.2.2 77)] q106 (ok_X12_is hq106) q_1750 q_1751 q_1752 q_153 hd_X12_is ⟨Nat.le_of_ble_eq_true rfl, Nat.le_of_ble_eq_true rfl⟩ rfl rfl (Nat.le_of_ble_eq_true rfl) dX12_findBefore_106 ?_
      refine r_if_eq (t := 121) dX12_findBefore_109 (by decide) (fun c => ?_) (fun c => ?_)
      · rw [if_pos c] at h
        refine r_iconst (v := 0) dX12_findBefore_121 rfl ?_
        exact w_X12_findBefore_122 ih _ _ _ _ _ _ _ h
      · rw [if_neg c] at h
        refine r_aload_n 0 dX12_findBefore_112 rfl rfl ?_
        refine gf_51_49 q_1360 dX12_findBefore_113 ?_
        refine r_iload_n 1 dX12_findBefore_116 rfl rfl ?_
        obtain ⟨c3, h⟩ := g_ite h
        refine al_77 (k_b_in c3) dX12_findBefore_117 ?_
        refine r_goto (t := 122) dX12_findBefore_118 (by decide) ?_
        exact w_X12_findBefore_122 ih _ _ _ _ _ _ _ h
set_option maxRecDepth 100000 in
set_option maxHeartbeats 4000000 in
theorem w_X12_findBefore_78 {D : k_D} {dy : Nat → Nat} : ∀ (n : Nat) (x1 : Int32) (S : St) (out : St), f_X12_findBefore_78 n x1 S = some out → Rn yX12_findBefore cX12_findBefore 3 none (k_rm 1) 0 0 D dy S (k_Pv dy out) 78 [(0, .ref (D.2.2 51)), (1, .int x1)] [] := by
  intro n
  induction n with
  | zero => intro x1 S out h; cases h
  | succ n ih =>
    intro x1 S out h
    rw [f_X12_findBefore_78] at h
    refine r_iload_n 1 dX12_findBefore_78 rfl rfl ?_
    refine r_bipush (v := 10) dX12_findBefore_79 rfl ?_
    refine r_icmp_ge (t := 136) dX12_findBefore_81 (by decide) (fun c => ?_) (fun c => ?_)
    · rw [if_pos c] at h
      exact r_vret rfl dX12_findBefore_136 ⟨rfl, rfl, Option.some.inj h⟩
    · rw [if_neg c] at h
      refine r_iconst (v := 0) dX12_findBefore_84 rfl ?_
      refine r_istore_n dX12_findBefore_85 rfl (by decide) rfl ?_
      refine r_sub [1, 2, 0] rfl ?_
      exact w_X12_findBefore_86 ih _ _ _ _ _ h
set_option maxRecDepth 100000 in
set_option maxHeartbeats 4000000 in
theorem w_X12_findBefore_23 {D : k_D} {dy : Nat → Nat} : ∀ (n : Nat) (x1 : Int32) (S : St) (out : St), f_X12_findBefore_23 n x1 S = some out → Rn yX12_findBefore cX12_findBefore 3 none (k_rm 1) 0 0 D dy S (k_Pv dy out) 23 [(0, .ref (D.2.2 51)), (1, .int x1)] [] := by
  intro n
  induction n with
  | zero => intro x1 S out h; cases h
  | succ n ih =>
    intro x1 S out h
    rw [f_X12_findBefore_23] at h
    refine r_iload_n 1 dX12_findBefore_23 rfl rfl ?_
    refine r_aload_n 0 dX12_findBefore_24 rfl rfl ?_
    refine gf_51_3 q_1314 dX12_findBefore_25 ?_
    refine r_bipush (v := 6) dX12_findBefore_28 rfl ?_
    obtain ⟨c1, h⟩ := g_ite h
    refine al_53 (k_b_in c1) dX12_findBefore_30 ?_
    refine r_icmp_ge (t := 76) dX12_findBefore_31 (by decide) (fun c => ?_) (fun c => ?_)
    · rw [if_pos c] at h
      refine r_iconst (v := 0) dX12_findBefore_76 rfl ?_
      refine r_istore_n dX12_findBefore_77 rfl (by decide) rfl ?_
      refine r_sub [1, 0] rfl ?_
      exact w_X12_findBefore_78 _ _ _ _ h
    · rw [if_neg c] at h
      refine r_aload_n 0 dX12_findBefore_34 rfl rfl ?_
      refine gf_51_49 q_1360 dX12_findBefore_35 ?_
      refine r_aload_n 0 dX12_findBefore_38 rfl rfl ?_
      refine gf_51_3 q_1314 dX12_findBefore_39 ?_
      refine r_sipush (v := 130) dX12_findBefore_42 rfl ?_
      refine r_iconst (v := 2) dX12_findBefore_45 rfl ?_
      refine r_iload_n 1 dX12_findBefore_46 rfl rfl ?_
      refine r_imul dX12_findBefore_47 ?_
      refine r_iadd dX12_findBefore_48 ?_
      refine r_iconst (v := 1) dX12_findBefore_49 rfl ?_
      refine r_iadd dX12_findBefore_50 ?_
      obtain ⟨c2, h⟩ := g_ite h
      refine al_53 (k_b_in c2) dX12_findBefore_51 ?_
      refine r_dup2 dX12_findBefore_52 rfl rfl ?_
      obtain ⟨c3, h⟩ := g_ite h
      refine al_77 (k_b_in c3) dX12_findBefore_53 ?_
      refine r_iconst (v := 1) dX12_findBefore_54 rfl ?_
      refine r_aload_n 0 dX12_findBefore_55 rfl rfl ?_
      refine gf_51_3 q_1314 dX12_findBefore_56 ?_
      refine r_sipush (v := 130) dX12_findBefore_59 rfl ?_
      refine r_iconst (v := 2) dX12_findBefore_62 rfl ?_
      refine r_iload_n 1 dX12_findBefore_63 rfl rfl ?_
      refine r_imul dX12_findBefore_64 ?_
      refine r_iadd dX12_findBefore_65 ?_
      obtain ⟨c4, h⟩ := g_ite h
      refine al_53 (k_b_in c4) dX12_findBefore_66 ?_
      refine r_ishl dX12_findBefore_67 ?_
      refine r_ior dX12_findBefore_68 ?_
      obtain ⟨c5, h⟩ := g_ite h
      refine as_77 (k_b_in c5) dX12_findBefore_69 ?_
      generalize sA S 77 (gA S 53 (((130 : Int32) + ((2 : Int32) * x1)) + (1 : Int32)).toNatClampNeg).toNatClampNeg ((gA S 77 (gA S 53 (((130 : Int32) + ((2 : Int32) * x1)) + (1 : Int32)).toNatClampNeg).toNatClampNeg) ||| ((1 : Int32) <<< ((gA S 53 ((130 : Int32) + ((2 : Int32) * x1)).toNatClampNeg) &&& 31))) = S6 at h ⊢
      replace h := g_let h
      refine r_iinc (q := 1) (v := x1 + (1 : Int32)) dX12_findBefore_70 rfl rfl (by decide) rfl ?_
      refine r_goto (t := 23) dX12_findBefore_73 (by decide) ?_
      refine r_sub [1, 0] rfl ?_
      exact ih _ _ _ h
set_option maxRecDepth 100000 in
set_option maxHeartbeats 4000000 in
theorem w_X12_findBefore_2 {D : k_D} {dy : Nat → Nat} : ∀ (n : Nat) (x1 : Int32) (S : St) (out : St), f_X12_findBefore_2 n x1 S = some out → Rn yX12_findBefore cX12_findBefore 3 none (k_rm 1) 0 0 D dy S (k_Pv dy out) 2 [(0, .ref (D.2.2 51)), (1, .int x1)] [] := by
  intro n
  induction n with
  | zero => intro x1 S out h; cases h
  | succ n ih =>
    intro x1 S out h
    rw [f_X12_findBefore_2] at h
    refine r_iload_n 1 dX12_findBefore_2 rfl rfl ?_
    refine r_bipush (v := 10) dX12_findBefore_3 rfl ?_
    refine r_icmp_ge (t := 21) dX12_findBefore_5 (by decide) (fun c => ?_) (fun c => ?_)
    · rw [if_pos c] at h
      refine r_iconst (v := 0) dX12_findBefore_21 rfl ?_
      refine r_istore_n dX12_findBefore_22 rfl (by decide) rfl ?_
      refine r_sub [1, 0] rfl ?_
      exact w_X12_findBefore_23 _ _ _ _ h
    · rw [if_neg c] at h
      refine r_aload_n 0 dX12_findBefore_8 rfl rfl ?_
      refine gf_51_49 q_1360 dX12_findBefore_9 ?_
      refine r_iload_n 1 dX12_findBefore_12 rfl rfl ?_
      refine r_iconst (v := 0) dX12_findBefore_13 rfl ?_
      obtain ⟨c1, h⟩ := g_ite h
      refine as_77 (k_b_in c1) dX12_findBefore_14 ?_
      generalize sA S 77 x1.toNatClampNeg (0 : Int32) = S2 at h ⊢
      replace h := g_let h
      refine r_iinc (q := 1) (v := x1 + (1 : Int32)) dX12_findBefore_15 rfl rfl (by decide) rfl ?_
      refine r_goto (t := 2) dX12_findBefore_18 (by decide) ?_
      refine r_sub [1, 0] rfl ?_
      exact ih _ _ _ h
set_option maxRecDepth 100000 in
set_option maxHeartbeats 4000000 in
theorem w_X12_findBefore_0 {D : k_D} {dy : Nat → Nat} (S : St) (out : St) (h : f_X12_findBefore S = some out) : Rn yX12_findBefore cX12_findBefore 3 none (k_rm 1) 0 0 D dy S (k_Pv dy out) 0 [(0, .ref (D.2.2 51))] [] := by
    unfold f_X12_findBefore at h
    refine r_iconst (v := 0) dX12_findBefore_0 rfl ?_
    refine r_istore_n dX12_findBefore_1 rfl (by decide) rfl ?_
    refine r_sub [1, 0] rfl ?_
    exact w_X12_findBefore_2 _ _ _ _ h
theorem ok_X12_findBefore {D : k_D} {dy : Nat → Nat} {S : St} {out : St} (h : f_X12_findBefore S = some out) : Sp yX12_findBefore cX12_findBefore 3 none (k_rm 1) D dy S [.ref (D.2.2 51)] (k_Pv dy out) := Sp.of (by decide +kernel) (Nat.le_of_ble_eq_true rfl) (w_X12_findBefore_0 S out h)
noncomputable def f_X12_dancesOf_39 (k4 : Int32 → Int32 → Int32 → St → Option (Int32 × St)) (x1 : Int32) (x3 : Int32) (s0 : Int32) (s1 : Int32) (S : St) : Option (Int32 × St) := k4 x1 (s0 ||| s1) (x3 + (1 : Int32)) S
noncomputable def f_X12_dancesOf_4 : Nat → Int32 → Int32 → Int32 → St → Option (Int32 × St)
  | 0, _, _, _, _ => none
  | n + 1, x1, x2, x3, S => if k_b (5 : Int32) 5560 = true then if (gA S 53 (5 : Int32).toNatClampNeg) ≤ x3 then some (x2, S) else if k_b (((110 : Int32) + ((2 : Int32) * x3)) + (1 : Int32)) 5560 = true then if (gA S 53 (((110 : Int32) + ((2 : Int32) * x3)) + (1 : Int32)).toNatClampNeg) = x1 then f_X12_dancesOf_39 (f_X12_dancesOf_4 n) x1 x3 x2 ((1 : Int32) <<< (x3 &&& 31)) S else f_X12_dancesOf_39 (f_X12_dancesOf_4 n) x1 x3 x2 (0 : Int32) S else none else none
noncomputable def f_X12_dancesOf (x1 : Int32) (S : St) : Option (Int32 × St) := f_X12_dancesOf_4 FU x1 (0 : Int32) (0 : Int32) S
set_option maxRecDepth 100000 in
set_option maxHeartbeats 4000000 in
theorem w_X12_dancesOf_39 {D : k_D} {dy : Nat → Nat} {k4 : Int32 → Int32 → Int32 → St → Option (Int32 × St)} (hk4 : ∀ (x1 : Int32) (x2 : Int32) (x3 : Int32) (S : St) (out : Int32 × St), k4 x1 x2 x3 S = some out → Rn yX12_dancesOf cX12_dancesOf 4 (some .int) (k_rm 0) 0 0 D dy S (k_Pi dy out) 4 [(0, .ref (D.2.2 51)), (1, .int x1), (2, .int x2), (3, .int x3)] []) (x1 : Int32) (x3 : Int32) (s0 : Int32) (s1 : Int32) (S : St) (out : Int32 × St) (h : f_X12_dancesOf_39 k4 x1 x3 s0 s1 S = some out) : Rn yX12_dancesOf cX12_dancesOf 4 (some .int) (k_rm 0) 0 0 D dy S (k_Pi dy out) 39 [(0, .ref (D.2.2 51)), (1, .int x1), (3, .int x3)] [.int s1, .int s0] := by
    unfold f_X12_dancesOf_39 at h
    refine r_ior dX12_dancesOf_39 ?_
    refine r_istore_n dX12_dancesOf_40 rfl (by decide) rfl ?_
    refine r_iinc (q := 3) (v := x3 + (1 : Int32)) dX12_dancesOf_41 rfl rfl (by decide) rfl ?_
    refine r_goto (t := 4) dX12_dancesOf_44 (by decide) ?_
    refine r_sub [2, 3, 1, 0] rfl ?_
    exact hk4 _ _ _ _ _ h
set_option maxRecDepth 100000 in
set_option maxHeartbeats 4000000 in
theorem w_X12_dancesOf_4 {D : k_D} {dy : Nat → Nat} : ∀ (n : Nat) (x1 : Int32) (x2 : Int32) (x3 : Int32) (S : St) (out : Int32 × St), f_X12_dancesOf_4 n x1 x2 x3 S = some out → Rn yX12_dancesOf cX12_dancesOf 4 (some .int) (k_rm 0) 0 0 D dy S (k_Pi dy out) 4 [(0, .ref (D.2.2 51)), (1, .int x1), (2, .int x2), (3, .int x3)] [] := by
  intro n
  induction n with
  | zero => intro x1 x2 x3 S out h; cases h
  | succ n ih =>
    intro x1 x2 x3 S out h
    rw [f_X12_dancesOf_4] at h
    refine r_iload_n 3 dX12_dancesOf_4 rfl rfl ?_
    refine r_aload_n 0 dX12_dancesOf_5 rfl rfl ?_
    refine gf_51_3 q_1314 dX12_dancesOf_6 ?_
    refine r_iconst (v := 5) dX12_dancesOf_9 rfl ?_
    obtain ⟨c1, h⟩ := g_ite h
    refine al_53 (k_b_in c1) dX12_dancesOf_10 ?_
    refine r_icmp_ge (t := 47) dX12_dancesOf_11 (by decide) (fun c => ?_) (fun c => ?_)
    · rw [if_pos c] at h
      refine r_iload_n 2 dX12_dancesOf_47 rfl rfl ?_
      cases h
      exact r_iret rfl dX12_dancesOf_48 ⟨rfl, rfl, rfl⟩
    · rw [if_neg c] at h
      refine r_iload_n 2 dX12_dancesOf_14 rfl rfl ?_
      refine r_aload_n 0 dX12_dancesOf_15 rfl rfl ?_
      refine gf_51_3 q_1314 dX12_dancesOf_16 ?_
      refine r_bipush (v := 110) dX12_dancesOf_19 rfl ?_
      refine r_iconst (v := 2) dX12_dancesOf_21 rfl ?_
      refine r_iload_n 3 dX12_dancesOf_22 rfl rfl ?_
      refine r_imul dX12_dancesOf_23 ?_
      refine r_iadd dX12_dancesOf_24 ?_
      refine r_iconst (v := 1) dX12_dancesOf_25 rfl ?_
      refine r_iadd dX12_dancesOf_26 ?_
      obtain ⟨c2, h⟩ := g_ite h
      refine al_53 (k_b_in c2) dX12_dancesOf_27 ?_
      refine r_iload_n 1 dX12_dancesOf_28 rfl rfl ?_
      refine r_icmp_ne (t := 38) dX12_dancesOf_29 (by decide) (fun c => ?_) (fun c => ?_)
      · rw [if_neg c] at h
        refine r_iconst (v := 0) dX12_dancesOf_38 rfl ?_
        refine r_sub [0, 1, 3] rfl ?_
        exact w_X12_dancesOf_39 ih _ _ _ _ _ _ h
      · rw [if_pos c] at h
        refine r_iconst (v := 1) dX12_dancesOf_32 rfl ?_
        refine r_iload_n 3 dX12_dancesOf_33 rfl rfl ?_
        refine r_ishl dX12_dancesOf_34 ?_
        refine r_goto (t := 39) dX12_dancesOf_35 (by decide) ?_
        refine r_sub [0, 1, 3] rfl ?_
        exact w_X12_dancesOf_39 ih _ _ _ _ _ _ h
set_option maxRecDepth 100000 in
set_option maxHeartbeats 4000000 in
theorem w_X12_dancesOf_0 {D : k_D} {dy : Nat → Nat} (x1 : Int32) (S : St) (out : Int32 × St) (h : f_X12_dancesOf x1 S = some out) : Rn yX12_dancesOf cX12_dancesOf 4 (some .int) (k_rm 0) 0 0 D dy S (k_Pi dy out) 0 [(0, .ref (D.2.2 51)), (1, .int x1)] [] := by
    unfold f_X12_dancesOf at h
    refine r_iconst (v := 0) dX12_dancesOf_0 rfl ?_
    refine r_istore_n dX12_dancesOf_1 rfl (by decide) rfl ?_
    refine r_iconst (v := 0) dX12_dancesOf_2 rfl ?_
    refine r_istore_n dX12_dancesOf_3 rfl (by decide) rfl ?_
    refine r_sub [2, 3, 1, 0] rfl ?_
    exact w_X12_dancesOf_4 _ _ _ _ _ _ h
theorem ok_X12_dancesOf {D : k_D} {dy : Nat → Nat} {x1 : Int32} {S : St} {out : Int32 × St} (h : f_X12_dancesOf x1 S = some out) : Sp yX12_dancesOf cX12_dancesOf 4 (some .int) (k_rm 0) D dy S [.ref (D.2.2 51), .int x1] (k_Pi dy out) := Sp.of (by decide +kernel) (Nat.le_of_ble_eq_true rfl) (w_X12_dancesOf_0 _ S out h)
noncomputable def f_X12_findOrders_110 (k2 : Int32 → Int32 → St → Option (St)) (x1 : Int32) (x2 : Int32) (S : St) : Option (St) := k2 x1 (x2 + (1 : Int32)) S
noncomputable def f_X12_findOrders_102 (k24 : Int32 → Int32 → Int32 → St → Option (St)) (x1 : Int32) (x2 : Int32) (x3 : Int32) (s1 : Int32) (s2 : Int32) (s3 : Int32) (S : St) : Option (St) := if k_b s1 1024 = true then k_let (sA S 78 s1.toNatClampNeg (s2 + s3)) fun S2 => k24 x1 x2 (x3 + (1 : Int32)) S2 else none
noncomputable def f_X12_findOrders_72 (k24 : Int32 → Int32 → Int32 → St → Option (St)) (x1 : Int32) (x2 : Int32) (x3 : Int32) (s0 : Int32) (S : St) : Option (St) := if k_b x2 1024 = true then if s0 = 0 then f_X12_findOrders_102 k24 x1 x2 x3 x2 (gA S 78 x2.toNatClampNeg) (0 : Int32) S else if k_b (x2 &&& (((1 : Int32) <<< (x3 &&& 31)) ^^^ (-1 : Int32))) 1024 = true then f_X12_findOrders_102 k24 x1 x2 x3 x2 (gA S 78 x2.toNatClampNeg) (gA S 78 (x2 &&& (((1 : Int32) <<< (x3 &&& 31)) ^^^ (-1 : Int32))).toNatClampNeg) S else none else none
noncomputable def f_X12_findOrders_71 (k24 : Int32 → Int32 → Int32 → St → Option (St)) (x1 : Int32) (x2 : Int32) (x3 : Int32) (S : St) : Option (St) := f_X12_findOrders_72 k24 x1 x2 x3 (0 : Int32) S
noncomputable def f_X12_findOrders_24 (k2 : Int32 → Int32 → St → Option (St)) : Nat → Int32 → Int32 → Int32 → St → Option (St)
  | 0, _, _, _, _ => none
  | n + 1, x1, x2, x3, S => if (10 : Int32) ≤ x3 then f_X12_findOrders_110 k2 x1 x2 S else if (x2 &&& (x1 ^^^ (-1 : Int32))) = 0 then (f_X12_is x2 x3 S).bind fun q40 => if q40.1 = 0 then f_X12_findOrders_71 (f_X12_findOrders_24 k2 n) x1 x2 x3 q40.2 else if k_b x3 10 = true then if (((gA q40.2 77 x3.toNatClampNeg) &&& x1) &&& ((x2 &&& (((1 : Int32) <<< (x3 &&& 31)) ^^^ (-1 : Int32))) ^^^ (-1 : Int32))) = 0 then f_X12_findOrders_72 (f_X12_findOrders_24 k2 n) x1 x2 x3 (1 : Int32) q40.2 else f_X12_findOrders_71 (f_X12_findOrders_24 k2 n) x1 x2 x3 q40.2 else none else f_X12_findOrders_110 k2 x1 x2 S
noncomputable def f_X12_findOrders_21 (k2 : Int32 → Int32 → St → Option (St)) (x1 : Int32) (x2 : Int32) (s1 : Int32) (s2 : Int32) (S : St) : Option (St) := if k_b s1 1024 = true then k_let (sA S 78 s1.toNatClampNeg s2) fun S2 => f_X12_findOrders_24 k2 FU x1 x2 (0 : Int32) S2 else none
noncomputable def f_X12_findOrders_2 : Nat → Int32 → Int32 → St → Option (St)
  | 0, _, _, _ => none
  | n + 1, x1, x2, S => if x1 < x2 then some S else if x2 = 0 then f_X12_findOrders_21 (f_X12_findOrders_2 n) x1 x2 x2 (1 : Int32) S else f_X12_findOrders_21 (f_X12_findOrders_2 n) x1 x2 x2 (0 : Int32) S
noncomputable def f_X12_findOrders (x1 : Int32) (S : St) : Option (St) := f_X12_findOrders_2 FU x1 (0 : Int32) S
set_option maxRecDepth 100000 in
set_option maxHeartbeats 4000000 in
theorem w_X12_findOrders_110 {D : k_D} {dy : Nat → Nat} {k2 : Int32 → Int32 → St → Option (St)} (hk2 : ∀ (x1 : Int32) (x2 : Int32) (S : St) (out : St), k2 x1 x2 S = some out → Rn yX12_findOrders cX12_findOrders 5 none (k_rm 1) 0 0 D dy S (k_Pv dy out) 2 [(0, .ref (D.2.2 51)), (1, .int x1), (2, .int x2)] []) (x1 : Int32) (x2 : Int32) (S : St) (out : St) (h : f_X12_findOrders_110 k2 x1 x2 S = some out) : Rn yX12_findOrders cX12_findOrders 5 none (k_rm 1) 0 0 D dy S (k_Pv dy out) 110 [(0, .ref (D.2.2 51)), (1, .int x1), (2, .int x2)] [] := by
    unfold f_X12_findOrders_110 at h
    refine r_iinc (q := 2) (v := x2 + (1 : Int32)) dX12_findOrders_110 rfl rfl (by decide) rfl ?_
    refine r_goto (t := 2) dX12_findOrders_113 (by decide) ?_
    refine r_sub [1, 2, 0] rfl ?_
    exact hk2 _ _ _ _ h
set_option maxRecDepth 100000 in
set_option maxHeartbeats 4000000 in
theorem w_X12_findOrders_102 {D : k_D} {dy : Nat → Nat} {k24 : Int32 → Int32 → Int32 → St → Option (St)} (hk24 : ∀ (x1 : Int32) (x2 : Int32) (x3 : Int32) (S : St) (out : St), k24 x1 x2 x3 S = some out → Rn yX12_findOrders cX12_findOrders 5 none (k_rm 1) 0 0 D dy S (k_Pv dy out) 24 [(0, .ref (D.2.2 51)), (1, .int x1), (2, .int x2), (3, .int x3)] []) (x1 : Int32) (x2 : Int32) (x3 : Int32) (s1 : Int32) (s2 : Int32) (s3 : Int32) (S : St) (out : St) (h : f_X12_findOrders_102 k24 x1 x2 x3 s1 s2 s3 S = some out) : Rn yX12_findOrders cX12_findOrders 5 none (k_rm 1) 0 0 D dy S (k_Pv dy out) 102 [(0, .ref (D.2.2 51)), (1, .int x1), (2, .int x2), (3, .int x3)] [.int s3, .int s2, .int s1, .ref (D.2.2 78)] := by
    unfold f_X12_findOrders_102 at h
    refine r_iadd dX12_findOrders_102 ?_
    obtain ⟨c1, h⟩ := g_ite h
    refine as_78 (k_b_in c1) dX12_findOrders_103 ?_
    generalize sA S 78 s1.toNatClampNeg (s2 + s3) = S2 at h ⊢
    replace h := g_let h
    refine r_iinc (q := 3) (v := x3 + (1 : Int32)) dX12_findOrders_104 rfl rfl (by decide) rfl ?_
    refine r_goto (t := 24) dX12_findOrders_107 (by decide) ?_
    refine r_sub [1, 2, 3, 0] rfl ?_
    exact hk24 _ _ _ _ _ h
set_option maxRecDepth 100000 in
set_option maxHeartbeats 4000000 in
theorem w_X12_findOrders_72 {D : k_D} {dy : Nat → Nat} {k24 : Int32 → Int32 → Int32 → St → Option (St)} (hk24 : ∀ (x1 : Int32) (x2 : Int32) (x3 : Int32) (S : St) (out : St), k24 x1 x2 x3 S = some out → Rn yX12_findOrders cX12_findOrders 5 none (k_rm 1) 0 0 D dy S (k_Pv dy out) 24 [(0, .ref (D.2.2 51)), (1, .int x1), (2, .int x2), (3, .int x3)] []) (x1 : Int32) (x2 : Int32) (x3 : Int32) (s0 : Int32) (S : St) (out : St) (h : f_X12_findOrders_72 k24 x1 x2 x3 s0 S = some out) : Rn yX12_findOrders cX12_findOrders 5 none (k_rm 1) 0 0 D dy S (k_Pv dy out) 72 [(0, .ref (D.2.2 51)), (1, .int x1), (2, .int x2), (3, .int x3)] [.int s0] := by
    unfold f_X12_findOrders_72 at h
    refine r_istore dX12_findOrders_72 (by decide) rfl ?_
    refine r_aload_n 1 dX12_findOrders_74 rfl rfl ?_
    refine gf_51_50 q_1361 dX12_findOrders_75 ?_
    refine r_iload_n 3 dX12_findOrders_78 rfl rfl ?_
    refine r_dup2 dX12_findOrders_79 rfl rfl ?_
    obtain ⟨c1, h⟩ := g_ite h
    refine al_78 (k_b_in c1) dX12_findOrders_80 ?_
    refine r_iload 0 dX12_findOrders_81 rfl ?_
    refine r_if_eq (t := 101) dX12_findOrders_83 (by decide) (fun c => ?_) (fun c => ?_)
    · rw [if_pos c] at h
      refine r_iconst (v := 0) dX12_findOrders_101 rfl ?_
      refine r_sub [1, 2, 3, 4] rfl ?_
      exact w_X12_findOrders_102 hk24 _ _ _ _ _ _ _ _ h
    · rw [if_neg c] at h
      refine r_aload_n 1 dX12_findOrders_86 rfl rfl ?_
      refine gf_51_50 q_1361 dX12_findOrders_87 ?_
      refine r_iload_n 3 dX12_findOrders_90 rfl rfl ?_
      refine r_iconst (v := 1) dX12_findOrders_91 rfl ?_
      refine r_iload_n 4 dX12_findOrders_92 rfl rfl ?_
      refine r_ishl dX12_findOrders_93 ?_
      refine r_iconst (v := -1) dX12_findOrders_94 rfl ?_
      refine r_ixor dX12_findOrders_95 ?_
      refine r_iand dX12_findOrders_96 ?_
      obtain ⟨c2, h⟩ := g_ite h
      refine al_78 (k_b_in c2) dX12_findOrders_97 ?_
      refine r_goto (t := 102) dX12_findOrders_98 (by decide) ?_
      refine r_sub [1, 2, 3, 4] rfl ?_
      exact w_X12_findOrders_102 hk24 _ _ _ _ _ _ _ _ h
set_option maxRecDepth 100000 in
set_option maxHeartbeats 4000000 in
theorem w_X12_findOrders_71 {D : k_D} {dy : Nat → Nat} {k24 : Int32 → Int32 → Int32 → St → Option (St)} (hk24 : ∀ (x1 : Int32) (x2 : Int32) (x3 : Int32) (S : St) (out : St), k24 x1 x2 x3 S = some out → Rn yX12_findOrders cX12_findOrders 5 none (k_rm 1) 0 0 D dy S (k_Pv dy out) 24 [(0, .ref (D.2.2 51)), (1, .int x1), (2, .int x2), (3, .int x3)] []) (x1 : Int32) (x2 : Int32) (x3 : Int32) (S : St) (out : St) (h : f_X12_findOrders_71 k24 x1 x2 x3 S = some out) : Rn yX12_findOrders cX12_findOrders 5 none (k_rm 1) 0 0 D dy S (k_Pv dy out) 71 [(0, .ref (D.2.2 51)), (1, .int x1), (2, .int x2), (3, .int x3)] [] := by
    unfold f_X12_findOrders_71 at h
    refine r_iconst (v := 0) dX12_findOrders_71 rfl ?_
    exact w_X12_findOrders_72 hk24 _ _ _ _ _ _ h
set_option maxRecDepth 100000 in
set_option maxHeartbeats 4000000 in
theorem w_X12_findOrders_24 {D : k_D} {dy : Nat → Nat} {k2 : Int32 → Int32 → St → Option (St)} (hk2 : ∀ (x1 : Int32) (x2 : Int32) (S : St) (out : St), k2 x1 x2 S = some out → Rn yX12_findOrders cX12_findOrders 5 none (k_rm 1) 0 0 D dy S (k_Pv dy out) 2 [(0, .ref (D.2.2 51)), (1, .int x1), (2, .int x2)] []) : ∀ (n : Nat) (x1 : Int32) (x2 : Int32) (x3 : Int32) (S : St) (out : St), f_X12_findOrders_24 k2 n x1 x2 x3 S = some out → Rn yX12_findOrders cX12_findOrders 5 none (k_rm 1) 0 0 D dy S (k_Pv dy out) 24 [(0, .ref (D.2.2 51)), (1, .int x1), (2, .int x2), (3, .int x3)] [] := by
  intro n
  induction n with
  | zero => intro x1 x2 x3 S out h; cases h
  | succ n ih =>
    intro x1 x2 x3 S out h
    rw [f_X12_findOrders_24] at h
    refine r_iload_n 3 dX12_findOrders_24 rfl rfl ?_
    refine r_bipush (v := 10) dX12_findOrders_25 rfl ?_
    refine r_icmp_ge (t := 110) dX12_findOrders_27 (by decide) (fun c => ?_) (fun c => ?_)
    · rw [if_pos c] at h
      refine r_sub [0, 1, 2] rfl ?_
      exact w_X12_findOrders_110 hk2 _ _ _ _ h
    · rw [if_neg c] at h
      refine r_iload_n 2 dX12_findOrders_30 rfl rfl ?_
      refine r_iload_n 1 dX12_findOrders_31 rfl rfl ?_
      refine r_iconst (v := -1) dX12_findOrders_32 rfl ?_
      refine r_ixor dX12_findOrders_33 ?_
      refine r_iand dX12_findOrders_34 ?_
      refine r_if_ne (t := 110) dX12_findOrders_35 (by decide) (fun c => ?_) (fun c => ?_)
      · rw [if_neg c] at h
        refine r_sub [0, 1, 2] rfl ?_
        exact w_X12_findOrders_110 hk2 _ _ _ _ h
      · rw [if_pos c] at h
        refine r_iload_n 2 dX12_findOrders_38 rfl rfl ?_
        refine r_iload_n 3 dX12_findOrders_39 rfl rfl ?_
        obtain ⟨q40, hq40, h⟩ := g_bind h
        refine r_callSi [.int x2, .int x3] [] q40 (ok_X12_is hq40) q_1750 q_1751 q_1752 q_153 hd_X12_is ⟨Nat.le_of_ble_eq_true rfl, Nat.le_of_ble_eq_true rfl⟩ rfl rfl (Nat.le_of_ble_eq_true rfl) dX12_findOrders_40 ?_
        refine r_if_eq (t := 71) dX12_findOrders_43 (by decide) (fun c => ?_) (fun c => ?_)
        · rw [if_pos c] at h
          exact w_X12_findOrders_71 ih _ _ _ _ _ h
        · rw [if_neg c] at h
          refine r_aload_n 0 dX12_findOrders_46 rfl rfl ?_
          refine gf_51_49 q_1360 dX12_findOrders_47 ?_
          refine r_iload_n 3 dX12_findOrders_50 rfl rfl ?_
          obtain ⟨c1, h⟩ := g_ite h
          refine al_77 (k_b_in c1) dX12_findOrders_51 ?_
          refine r_iload_n 1 dX12_findOrders_52 rfl rfl ?_
          refine r_iand dX12_findOrders_53 ?_
          refine r_iload_n 2 dX12_findOrders_54 rfl rfl ?_
          refine r_iconst (v := 1) dX12_findOrders_55 rfl ?_
          refine r_iload_n 3 dX12_findOrders_56 rfl rfl ?_
          refine r_ishl dX12_findOrders_57 ?_
          refine r_iconst (v := -1) dX12_findOrders_58 rfl ?_
          refine r_ixor dX12_findOrders_59 ?_
          refine r_iand dX12_findOrders_60 ?_
          refine r_iconst (v := -1) dX12_findOrders_61 rfl ?_
          refine r_ixor dX12_findOrders_62 ?_
          refine r_iand dX12_findOrders_63 ?_
          refine r_if_ne (t := 71) dX12_findOrders_64 (by decide) (fun c => ?_) (fun c => ?_)
          · rw [if_neg c] at h
            exact w_X12_findOrders_71 ih _ _ _ _ _ h
          · rw [if_pos c] at h
            refine r_iconst (v := 1) dX12_findOrders_67 rfl ?_
            refine r_goto (t := 72) dX12_findOrders_68 (by decide) ?_
            exact w_X12_findOrders_72 ih _ _ _ _ _ _ h
set_option maxRecDepth 100000 in
set_option maxHeartbeats 4000000 in
theorem w_X12_findOrders_21 {D : k_D} {dy : Nat → Nat} {k2 : Int32 → Int32 → St → Option (St)} (hk2 : ∀ (x1 : Int32) (x2 : Int32) (S : St) (out : St), k2 x1 x2 S = some out → Rn yX12_findOrders cX12_findOrders 5 none (k_rm 1) 0 0 D dy S (k_Pv dy out) 2 [(0, .ref (D.2.2 51)), (1, .int x1), (2, .int x2)] []) (x1 : Int32) (x2 : Int32) (s1 : Int32) (s2 : Int32) (S : St) (out : St) (h : f_X12_findOrders_21 k2 x1 x2 s1 s2 S = some out) : Rn yX12_findOrders cX12_findOrders 5 none (k_rm 1) 0 0 D dy S (k_Pv dy out) 21 [(0, .ref (D.2.2 51)), (1, .int x1), (2, .int x2)] [.int s2, .int s1, .ref (D.2.2 78)] := by
    unfold f_X12_findOrders_21 at h
    obtain ⟨c1, h⟩ := g_ite h
    refine as_78 (k_b_in c1) dX12_findOrders_21 ?_
    generalize sA S 78 s1.toNatClampNeg s2 = S2 at h ⊢
    replace h := g_let h
    refine r_iconst (v := 0) dX12_findOrders_22 rfl ?_
    refine r_istore_n dX12_findOrders_23 rfl (by decide) rfl ?_
    refine r_sub [1, 2, 3, 0] rfl ?_
    exact w_X12_findOrders_24 hk2 _ _ _ _ _ _ h
set_option maxRecDepth 100000 in
set_option maxHeartbeats 4000000 in
theorem w_X12_findOrders_2 {D : k_D} {dy : Nat → Nat} : ∀ (n : Nat) (x1 : Int32) (x2 : Int32) (S : St) (out : St), f_X12_findOrders_2 n x1 x2 S = some out → Rn yX12_findOrders cX12_findOrders 5 none (k_rm 1) 0 0 D dy S (k_Pv dy out) 2 [(0, .ref (D.2.2 51)), (1, .int x1), (2, .int x2)] [] := by
  intro n
  induction n with
  | zero => intro x1 x2 S out h; cases h
  | succ n ih =>
    intro x1 x2 S out h
    rw [f_X12_findOrders_2] at h
    refine r_iload_n 2 dX12_findOrders_2 rfl rfl ?_
    refine r_iload_n 1 dX12_findOrders_3 rfl rfl ?_
    refine r_icmp_gt (t := 116) dX12_findOrders_4 (by decide) (fun c => ?_) (fun c => ?_)
    · rw [if_pos c] at h
      exact r_vret rfl dX12_findOrders_116 ⟨rfl, rfl, Option.some.inj h⟩
    · rw [if_neg c] at h
      refine r_aload_n 0 dX12_findOrders_7 rfl rfl ?_
      refine gf_51_50 q_1361 dX12_findOrders_8 ?_
      refine r_iload_n 2 dX12_findOrders_11 rfl rfl ?_
      refine r_iload_n 2 dX12_findOrders_12 rfl rfl ?_
      refine r_if_ne (t := 20) dX12_findOrders_13 (by decide) (fun c => ?_) (fun c => ?_)
      · rw [if_neg c] at h
        refine r_iconst (v := 0) dX12_findOrders_20 rfl ?_
        exact w_X12_findOrders_21 ih _ _ _ _ _ _ h
      · rw [if_pos c] at h
        refine r_iconst (v := 1) dX12_findOrders_16 rfl ?_
        refine r_goto (t := 21) dX12_findOrders_17 (by decide) ?_
        exact w_X12_findOrders_21 ih _ _ _ _ _ _ h
set_option maxRecDepth 100000 in
set_option maxHeartbeats 4000000 in
theorem w_X12_findOrders_0 {D : k_D} {dy : Nat → Nat} (x1 : Int32) (S : St) (out : St) (h : f_X12_findOrders x1 S = some out) : Rn yX12_findOrders cX12_findOrders 5 none (k_rm 1) 0 0 D dy S (k_Pv dy out) 0 [(0, .ref (D.2.2 51)), (1, .int x1)] [] := by
    unfold f_X12_findOrders at h
    refine r_iconst (v := 0) dX12_findOrders_0 rfl ?_
    refine r_istore_n dX12_findOrders_1 rfl (by decide) rfl ?_
    refine r_sub [1, 2, 0] rfl ?_
    exact w_X12_findOrders_2 _ _ _ _ _ h
theorem ok_X12_findOrders {D : k_D} {dy : Nat → Nat} {x1 : Int32} {S : St} {out : St} (h : f_X12_findOrders x1 S = some out) : Sp yX12_findOrders cX12_findOrders 5 none (k_rm 1) D dy S [.ref (D.2.2 51), .int x1] (k_Pv dy out) := Sp.of (by decide +kernel) (Nat.le_of_ble_eq_true rfl) (w_X12_findOrders_0 _ S out h)
