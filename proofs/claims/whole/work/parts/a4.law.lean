theorem q_955 : k_in (.methodLink "java/util/Arrays" 150 arraycopyName) := ⟨List.mem_of_getElem? (i := 955) (by decide +kernel), by decide +kernel⟩
theorem k_rfv (x : Option Nat) : va_rf x = .null ∨ ∃ a, va_rf x = .ref a := by
  cases x with
  | none => exact Or.inl rfl
  | some a => exact Or.inr ⟨a, rfl⟩
def k_Px (q : Int32 × St) : k_Po := fun v _ S1 => v = some (.int q.1) ∧ S1 = q.2
theorem r_callVNa {y : MethodName} {cc : ByteArray} {nL : Nat} {ret : Option FieldType} {rm : Room} {mc ms : Nat} {D : k_D} {dy : Nat → Nat} {S : St} {Post : k_Po} {pc : Nat} {ls : List (Nat × Value)} {st : List Value} {z : MethodName} {host : String} {zc : ByteArray} {zL n i k0 ci a0 d2 : Nat} {zr : Option FieldType} {fs : List Value} {r : vw_C} (As rest : List Value) (q : Nat × St) (hS : Sp z zc zL zr (k_rm1 d2) D dy S (.ref a0 :: As) (k_Pa dy q)) (w1 : k_in (.methodLinkNest y.cls i z host)) (w2 : k_in (.instanceMethod z)) (w3 : k_in (.selects r.1 z z)) (w4 : k_in (.code z zc zL zr)) (w5 : k_in (.initialized z.cls)) (hd : (z.cls ≠ "java/lang/invoke/MethodHandle" ∧ z.cls ≠ "java/lang/invoke/VarHandle") ∧ (parseMethodDescriptor z.desc).map (fun d => d.parameters.length) = some n) (he : k_cell D dy S k0 = some (.inr (ci, fs))) (hc : vwCl[ci]? = some r) (ha : k_ad D dy k0 = a0) (hR : (k_rm1 d2).frames + 1 ≤ rm.frames ∧ 8 + (zL + 11) + (k_rm1 d2).locals ≤ rm.locals) (hmc : (k_rm1 d2).cells ≤ mc) (hms : (k_rm1 d2).slots ≤ ms)
    (hn : As.length = n) (hst : st = As.reverse ++ .ref a0 :: rest) (hcat : (rest.map fun v => v.category).sum ≤ 8) (d : decode cc pc = .ok (.invokevirtual i, 3)) (kk0 : ∀ d1 : Nat → Nat, (∀ j, (q.1 = 0 ∨ j ≠ 30 + (q.1 - 1)) → d1 j = dy j) → q.1 = 0 → Rn y cc nL ret rm (mc - 1) (ms - 800) D d1 q.2 Post (pc + 3) ls (.null :: rest)) (kk1 : ∀ d1 : Nat → Nat, (∀ j, (q.1 = 0 ∨ j ≠ 30 + (q.1 - 1)) → d1 j = dy j) → ¬ q.1 = 0 → Rn y cc nL ret rm (mc - 1) (ms - 800) D d1 q.2 Post (pc + 3) ls (.ref (d1 (30 + (q.1 - 1))) :: rest)) : Rn y cc nL ret rm mc ms D dy S Post pc ls st := by
  refine r_callVN As rest hS w1 w2 w3 w4 w5 hd he hc ha hR hmc hms hn hst hcat d ?_
  rintro v d1 S1 ⟨h1, h2, h3⟩
  rw [h1, h2]
  show Rn y cc nL ret rm (mc - 1) (ms - 800) D d1 q.2 Post (pc + 3) ls (va_rf (k_law d1 q.1) :: rest)
  by_cases c : q.1 = 0
  · rw [k_law_0 c]; exact kk0 d1 h3 c
  · rw [k_law_1 c]; exact kk1 d1 h3 c
/-! copyOf of the reader's code, by fewer than 800 -/
theorem k_setcode {D : k_D} {dy : Nat → Nat} {S : St} {n : Nat} {f g : Nat → Int32} : ∀ j, j ≠ k_N + (30 + (gC S).length) → k_cell D dy (sC S (gC S ++ [(n, g)])) j = k_cell D dy (sC S (gC S ++ [(n, f)])) j := by
  intro j hj
  unfold k_cell k_dyn
  by_cases c1 : j < k_N
  · rw [if_pos c1, if_pos c1]; rfl
  · rw [if_neg c1, if_neg c1]
    by_cases c2 : j - k_N < 30
    · rw [if_pos c2, if_pos c2]; rfl
    · rw [if_neg c2, if_neg c2]
      show ((gC S ++ [(n, g)])[j - k_N - 30]?).map _ = ((gC S ++ [(n, f)])[j - k_N - 30]?).map _
      congr 1
      by_cases c3 : j - k_N - 30 < (gC S).length
      · rw [List.getElem?_append_left c3, List.getElem?_append_left c3]
      · rw [List.getElem?_eq_none (by rw [List.length_append]; show (gC S).length + 1 ≤ _; omega), List.getElem?_eq_none (by rw [List.length_append]; show (gC S).length + 1 ≤ _; omega)]
theorem k_code_n {S : St} {n : Nat} {f : Nat → Int32} : k_code (sC S (gC S ++ [(n, f)])) (gC S).length = some (n, f) := by
  show (gC S ++ [(n, f)])[(gC S).length]? = _
  rw [List.getElem?_append_right (Nat.le_refl _), Nat.sub_self]
  rfl
noncomputable def f_J7_copyOf (x1 : Int32) (S : St) : Option (Nat × St) := if 0 ≤ x1 then if x1 < 800 then if k_iv S = true then some ((gC S).length + 1, sC S (gC S ++ [(x1.toNatClampNeg, va_cpy (gA S 24) (fun _ => 0) 0 0 x1.toNatClampNeg)])) else none else none else none
set_option maxRecDepth 100000 in
set_option maxHeartbeats 4000000 in
theorem w_J7_copyOf {D : k_D} {dy : Nat → Nat} (x1 : Int32) (S : St) (out : Nat × St) (h : f_J7_copyOf x1 S = some out) : Rn yJ7_copyOf_59c91 cJ7_copyOf_59c91 3 (some (.array .int)) (k_rm1 1) 1 800 D dy S (k_Pa dy out) 0 [(0, .ref (D.2.2 24)), (1, .int x1)] [] := by
    unfold f_J7_copyOf at h
    obtain ⟨c0, h⟩ := g_ite h
    obtain ⟨c1, h⟩ := g_ite h
    obtain ⟨c2, h⟩ := g_ite h
    have t0 : 0 ≤ x1.toInt := Int32.le_iff_toInt_le.mp c0
    have t1 : x1.toInt < 800 := Int32.lt_iff_toInt_lt.mp c1
    have tn : (x1.toNatClampNeg : Int) = x1.toInt := Int32.cast_toNatClampNeg x1 c0
    have hn : ¬ x1 < 0 := fun z => by
      have : x1.toInt < 0 := Int32.lt_iff_toInt_lt.mp z
      omega
    refine r_iload_n 1 dJ7_copyOf_59c91_0 rfl rfl ?_
    refine r_aload_n 0 dJ7_copyOf_59c91_1 rfl rfl ?_
    refine ln_24 dJ7_copyOf_59c91_2 ?_
    refine r_icmp_ne (t := 14) dJ7_copyOf_59c91_3 (by decide) (fun c => ?_) (fun c => ?_)
    · refine r_iload_n 1 dJ7_copyOf_59c91_14 rfl rfl ?_
      refine r_newcode (N := x1.toNatClampNeg) c2 hn rfl (by omega) q_233 (Nat.le_refl _) (Nat.le_refl _) dJ7_copyOf_59c91_15 (fun d1 hd1 => ?_)
      refine r_astore_n dJ7_copyOf_59c91_17 rfl (by decide) rfl ?_
      refine r_aload_n 1 dJ7_copyOf_59c91_18 rfl rfl ?_
      refine r_iconst (v := 0) dJ7_copyOf_59c91_19 rfl ?_
      refine r_aload_n 0 dJ7_copyOf_59c91_20 rfl rfl ?_
      refine r_iconst (v := 0) dJ7_copyOf_59c91_21 rfl ?_
      refine r_aload_n 1 dJ7_copyOf_59c91_22 rfl rfl ?_
      refine ln_24 dJ7_copyOf_59c91_23 ?_
      refine r_iload_n 2 dJ7_copyOf_59c91_24 rfl rfl ?_
      refine r_min q_954 q_745 q_155 q_746 ⟨Nat.le_of_ble_eq_true rfl, Nat.le_of_ble_eq_true rfl⟩ dJ7_copyOf_59c91_25 ?_
      rw [if_pos c1]
      refine r_copy (S := sC S (gC S ++ [(x1.toNatClampNeg, fun _ => 0)])) (dy := d1) (rm := k_rm1 1) (st := []) (sp := 0) (dp := 0) (n := x1) (S' := sC S (gC S ++ [(x1.toNatClampNeg, va_cpy (gA S 24) (fun _ => 0) 0 0 x1.toNatClampNeg)])) (n0 := 800) (n1 := x1.toNatClampNeg) (f := gA S 24) (g := fun _ => 0) 24 (k_N + (30 + (gC S).length)) (ce_24 D d1 _) (k_ce_code k_code_n) rfl (k_ad_code D d1 _) (k_ce_code k_code_n) k_setcode (by decide) (by decide) hn (by show 0 + x1.toNatClampNeg ≤ 800; omega) (by show 0 + x1.toNatClampNeg ≤ x1.toNatClampNeg; omega) q_955 q_957 q_956 q_160 ⟨Nat.le_of_ble_eq_true rfl, by decide +kernel⟩ dJ7_copyOf_59c91_28 ?_
      refine r_aload_n 0 dJ7_copyOf_59c91_31 rfl rfl ?_
      cases h
      exact r_aret rfl (Or.inr ⟨_, rfl⟩) (Or.inr ⟨_, rfl⟩) dJ7_copyOf_59c91_32 ⟨congrArg some (k_law_s _ _).symm, rfl, fun j hj => hd1 j (by rcases hj with z | z <;> first | omega | exact z)⟩
    · rw [c] at c1
      exact absurd c1 (by decide)
theorem ok_J7_copyOf {D : k_D} {dy : Nat → Nat} {x1 : Int32} {S : St} {out : Nat × St} (h : f_J7_copyOf x1 S = some out) : Sp yJ7_copyOf_59c91 cJ7_copyOf_59c91 3 (some (.array .int)) (k_rm1 1) D dy S [.ref (D.2.2 24), .int x1] (k_Pa dy out) := Sp.of (by decide +kernel) (Nat.le_of_ble_eq_true rfl) (w_J7_copyOf x1 S out h)
noncomputable def f_X7_read_91 (S : St) : Option (Nat × St) := some (0, S)
noncomputable def f_X7_read_90 (S : St) : Option (Nat × St) := f_X7_read_91 S
noncomputable def f_X7_read_65 (x1 : Int32) (S : St) : Option (Nat × St) := if x1 = 0 then f_X7_read_90 S else if (gI S 13) = 0 then f_J7_copyOf (gI S 10) S else f_X7_read_90 S
noncomputable def f_X7_read_31 : Nat → Int32 → Int32 → St → Option (Nat × St)
  | 0, _, _, _ => none
  | n + 1, x1, x2, S => if (12 : Int32) ≤ x2 then f_X7_read_65 x1 S else if x1 = 0 then f_X7_read_65 x1 S else (f_X7_seesSign (59 : Int32) S).bind fun q44 => if q44.1 = 0 then f_X7_read_65 x1 q44.2 else (f_X7_step q44.2).bind fun q51 => (f_X7_readClause q51).bind fun q55 => f_X7_read_31 n q55.1 (x2 + (1 : Int32)) q55.2
noncomputable def f_X7_read (S : St) : Option (Nat × St) := k_let (sI S 10 (0 : Int32)) fun S1 => k_let (sI S1 11 (0 : Int32)) fun S2 => k_let (sI S2 12 (0 : Int32)) fun S3 => k_let (sI S3 16 (0 : Int32)) fun S4 => (f_X7_step S4).bind fun q21 => (f_X7_readClause q21).bind fun q25 => f_X7_read_31 FU q25.1 (0 : Int32) q25.2
set_option maxRecDepth 100000 in
set_option maxHeartbeats 4000000 in
theorem w_X7_read_91 {D : k_D} {dy : Nat → Nat} (S : St) (out : Nat × St) (h : f_X7_read_91 S = some out) : Rn yX7_read cX7_read 3 (some (.array .int)) (k_rm1 170) 1 800 D dy S (k_Pa dy out) 91 [] [.null] := by
    unfold f_X7_read_91 at h
    cases h
    exact r_aret rfl (Or.inr ⟨_, rfl⟩) (Or.inl rfl) dX7_read_91 ⟨rfl, rfl, fun _ _ => rfl⟩
set_option maxRecDepth 100000 in
set_option maxHeartbeats 4000000 in
theorem w_X7_read_90 {D : k_D} {dy : Nat → Nat} (S : St) (out : Nat × St) (h : f_X7_read_90 S = some out) : Rn yX7_read cX7_read 3 (some (.array .int)) (k_rm1 170) 1 800 D dy S (k_Pa dy out) 90 [] [] := by
    unfold f_X7_read_90 at h
    refine r_null dX7_read_90 ?_
    exact w_X7_read_91 _ _ h
set_option maxRecDepth 100000 in
set_option maxHeartbeats 4000000 in
theorem w_X7_read_65 {D : k_D} {dy : Nat → Nat} (x1 : Int32) (S : St) (out : Nat × St) (h : f_X7_read_65 x1 S = some out) : Rn yX7_read cX7_read 3 (some (.array .int)) (k_rm1 170) 1 800 D dy S (k_Pa dy out) 65 [(0, .ref (D.2.2 23)), (1, .int x1)] [] := by
    unfold f_X7_read_65 at h
    refine r_iload_n 1 dX7_read_65 rfl rfl ?_
    refine r_if_eq (t := 90) dX7_read_66 (by decide) (fun c => ?_) (fun c => ?_)
    · rw [if_pos c] at h
      refine r_sub [] rfl ?_
      exact w_X7_read_90 _ _ h
    · rw [if_neg c] at h
      refine r_aload_n 0 dX7_read_69 rfl rfl ?_
      refine gf_23_5 q_339 dX7_read_70 ?_
      refine r_if_ne (t := 90) dX7_read_73 (by decide) (fun c => ?_) (fun c => ?_)
      · rw [if_neg c] at h
        refine r_sub [] rfl ?_
        exact w_X7_read_90 _ _ h
      · rw [if_pos c] at h
        refine r_aload_n 0 dX7_read_76 rfl rfl ?_
        refine gf_23_1 q_335 dX7_read_77 ?_
        refine r_aload_n 0 dX7_read_80 rfl rfl ?_
        refine gf_23_2 q_336 dX7_read_81 ?_
        refine r_callS [.ref (D.2.2 24), .int (gI S 10)] [] (ok_J7_copyOf h) q_944 q_945 q_946 q_154 hd_J7_copyOf_59c91 ⟨Nat.le_of_ble_eq_true rfl, Nat.le_of_ble_eq_true rfl⟩ (Nat.le_refl _) (Nat.le_refl _) rfl rfl (Nat.le_of_ble_eq_true rfl) dX7_read_84 ?_
        rintro v d1 S1 ⟨rfl, rfl, hd⟩
        refine r_goto (t := 91) dX7_read_87 (by decide) ?_
        exact r_aret rfl (Or.inr ⟨_, rfl⟩) (k_rfv _) dX7_read_91 ⟨rfl, rfl, hd⟩
set_option maxRecDepth 100000 in
set_option maxHeartbeats 4000000 in
theorem w_X7_read_31 {D : k_D} {dy : Nat → Nat} : ∀ (n : Nat) (x1 : Int32) (x2 : Int32) (S : St) (out : Nat × St), f_X7_read_31 n x1 x2 S = some out → Rn yX7_read cX7_read 3 (some (.array .int)) (k_rm1 170) 1 800 D dy S (k_Pa dy out) 31 [(0, .ref (D.2.2 23)), (1, .int x1), (2, .int x2)] [] := by
  intro n
  induction n with
  | zero => intro x1 x2 S out h; cases h
  | succ n ih =>
    intro x1 x2 S out h
    rw [f_X7_read_31] at h
    refine r_iload_n 2 dX7_read_31 rfl rfl ?_
    refine r_bipush (v := 12) dX7_read_32 rfl ?_
    refine r_icmp_ge (t := 65) dX7_read_34 (by decide) (fun c => ?_) (fun c => ?_)
    · rw [if_pos c] at h
      refine r_sub [0, 1] rfl ?_
      exact w_X7_read_65 _ _ _ h
    · rw [if_neg c] at h
      refine r_iload_n 1 dX7_read_37 rfl rfl ?_
      refine r_if_eq (t := 65) dX7_read_38 (by decide) (fun c => ?_) (fun c => ?_)
      · rw [if_pos c] at h
        refine r_sub [0, 1] rfl ?_
        exact w_X7_read_65 _ _ _ h
      · rw [if_neg c] at h
        refine r_aload_n 0 dX7_read_41 rfl rfl ?_
        refine r_bipush (v := 59) dX7_read_42 rfl ?_
        obtain ⟨q44, hq44, h⟩ := g_bind h
        refine r_callVi [.int (59 : Int32)] [] q44 (ok_X7_seesSign hq44) q_901 q_903 q_35 q_904 q_145 hd_X7_seesSign (ce_23 D dy _) kc7.1 rfl ⟨Nat.le_of_ble_eq_true rfl, Nat.le_of_ble_eq_true rfl⟩ rfl rfl (Nat.le_of_ble_eq_true rfl) dX7_read_44 ?_
        refine r_if_eq (t := 65) dX7_read_47 (by decide) (fun c => ?_) (fun c => ?_)
        · rw [if_pos c] at h
          refine r_sub [0, 1] rfl ?_
          exact w_X7_read_65 _ _ _ h
        · rw [if_neg c] at h
          refine r_aload_n 0 dX7_read_50 rfl rfl ?_
          obtain ⟨q51, hq51, h⟩ := g_bind h
          refine r_callVv [] [] q51 (ok_X7_step hq51) q_808 q_810 q_25 q_811 q_145 hd_X7_step (ce_23 D dy _) kc7.1 rfl ⟨Nat.le_of_ble_eq_true rfl, Nat.le_of_ble_eq_true rfl⟩ rfl rfl (Nat.le_of_ble_eq_true rfl) dX7_read_51 ?_
          refine r_aload_n 0 dX7_read_54 rfl rfl ?_
          obtain ⟨q55, hq55, h⟩ := g_bind h
          refine r_callVi [] [] q55 (ok_X7_readClause hq55) q_822 q_824 q_28 q_825 q_145 hd_X7_readClause (ce_23 D dy _) kc7.1 rfl ⟨Nat.le_of_ble_eq_true rfl, Nat.le_of_ble_eq_true rfl⟩ rfl rfl (Nat.le_of_ble_eq_true rfl) dX7_read_55 ?_
          refine r_istore_n dX7_read_58 rfl (by decide) rfl ?_
          refine r_iinc (q := 2) (v := x2 + (1 : Int32)) dX7_read_59 rfl rfl (by decide) rfl ?_
          refine r_goto (t := 31) dX7_read_62 (by decide) ?_
          refine r_sub [2, 1, 0] rfl ?_
          exact ih _ _ _ _ h
set_option maxRecDepth 100000 in
set_option maxHeartbeats 4000000 in
theorem w_X7_read_0 {D : k_D} {dy : Nat → Nat} (S : St) (out : Nat × St) (h : f_X7_read S = some out) : Rn yX7_read cX7_read 3 (some (.array .int)) (k_rm1 170) 1 800 D dy S (k_Pa dy out) 0 [(0, .ref (D.2.2 23))] [] := by
    unfold f_X7_read at h
    refine r_aload_n 0 dX7_read_0 rfl rfl ?_
    refine r_iconst (v := 0) dX7_read_1 rfl ?_
    refine pf_23_2 q_336 dX7_read_2 ?_
    generalize sI S 10 (0 : Int32) = S1 at h ⊢
    replace h := g_let h
    refine r_aload_n 0 dX7_read_5 rfl rfl ?_
    refine r_iconst (v := 0) dX7_read_6 rfl ?_
    refine pf_23_3 q_337 dX7_read_7 ?_
    generalize sI S1 11 (0 : Int32) = S2 at h ⊢
    replace h := g_let h
    refine r_aload_n 0 dX7_read_10 rfl rfl ?_
    refine r_iconst (v := 0) dX7_read_11 rfl ?_
    refine pf_23_4 q_338 dX7_read_12 ?_
    generalize sI S2 12 (0 : Int32) = S3 at h ⊢
    replace h := g_let h
    refine r_aload_n 0 dX7_read_15 rfl rfl ?_
    refine r_iconst (v := 0) dX7_read_16 rfl ?_
    refine pf_23_8 q_343 dX7_read_17 ?_
    generalize sI S3 16 (0 : Int32) = S4 at h ⊢
    replace h := g_let h
    refine r_aload_n 0 dX7_read_20 rfl rfl ?_
    obtain ⟨q21, hq21, h⟩ := g_bind h
    refine r_callVv [] [] q21 (ok_X7_step hq21) q_808 q_810 q_25 q_811 q_145 hd_X7_step (ce_23 D dy _) kc7.1 rfl ⟨Nat.le_of_ble_eq_true rfl, Nat.le_of_ble_eq_true rfl⟩ rfl rfl (Nat.le_of_ble_eq_true rfl) dX7_read_21 ?_
    refine r_aload_n 0 dX7_read_24 rfl rfl ?_
    obtain ⟨q25, hq25, h⟩ := g_bind h
    refine r_callVi [] [] q25 (ok_X7_readClause hq25) q_822 q_824 q_28 q_825 q_145 hd_X7_readClause (ce_23 D dy _) kc7.1 rfl ⟨Nat.le_of_ble_eq_true rfl, Nat.le_of_ble_eq_true rfl⟩ rfl rfl (Nat.le_of_ble_eq_true rfl) dX7_read_25 ?_
    refine r_istore_n dX7_read_28 rfl (by decide) rfl ?_
    refine r_iconst (v := 0) dX7_read_29 rfl ?_
    refine r_istore_n dX7_read_30 rfl (by decide) rfl ?_
    refine r_sub [2, 1, 0] rfl ?_
    exact w_X7_read_31 _ _ _ _ _ h
theorem ok_X7_read {D : k_D} {dy : Nat → Nat} {S : St} {out : Nat × St} (h : f_X7_read S = some out) : Sp yX7_read cX7_read 3 (some (.array .int)) (k_rm1 170) D dy S [.ref (D.2.2 23)] (k_Pa dy out) := Sp.of (by decide +kernel) (Nat.le_of_ble_eq_true rfl) (w_X7_read_0 S out h)
noncomputable def f_X10_addLaw_n_13 (S : St) : Option (Int32 × St) := some ((-1 : Int32), S)
noncomputable def f_X10_addLaw_n (S : St) : Option (Int32 × St) := f_X10_addLaw_n_13 S
set_option maxRecDepth 100000 in
set_option maxHeartbeats 4000000 in
theorem w_X10_addLaw_n_13 {D : k_D} {dy : Nat → Nat} (S : St) (out : Int32 × St) (h : f_X10_addLaw_n_13 S = some out) : Rn yX10_addLaw cX10_addLaw 2 (some .int) (k_rm 0) 0 0 D dy S (k_Pi dy out) 13 [] [] := by
    unfold f_X10_addLaw_n_13 at h
    refine r_iconst (v := -1) dX10_addLaw_13 rfl ?_
    cases h
    exact r_iret rfl dX10_addLaw_14 ⟨rfl, rfl, rfl⟩
set_option maxRecDepth 100000 in
set_option maxHeartbeats 4000000 in
theorem w_X10_addLaw_n_0 {D : k_D} {dy : Nat → Nat} (S : St) (out : Int32 × St) (h : f_X10_addLaw_n S = some out) : Rn yX10_addLaw cX10_addLaw 2 (some .int) (k_rm 0) 0 0 D dy S (k_Pi dy out) 0 [(0, .ref (D.2.2 0)), (1, .null)] [] := by
    unfold f_X10_addLaw_n at h
    refine r_aload_nN 1 dX10_addLaw_0 rfl rfl ?_
    refine r_ifnullN (t := 13) dX10_addLaw_1 (by decide) ?_
    refine r_sub [] rfl ?_
    exact w_X10_addLaw_n_13 _ _ h
theorem ok_X10_addLaw_n {D : k_D} {dy : Nat → Nat} {S : St} {out : Int32 × St} (h : f_X10_addLaw_n S = some out) : Sp yX10_addLaw cX10_addLaw 2 (some .int) (k_rm 0) D dy S [.ref (D.2.2 0), .null] (k_Pi dy out) := Sp.of (by decide +kernel) (Nat.le_of_ble_eq_true rfl) (w_X10_addLaw_n_0 S out h)
noncomputable def f_X11_law_82 (s0 : Int32) (S : St) : Option (Int32 × St) := some (s0, S)
noncomputable def f_X11_law_56 (x1 : Int32) (x2 : Int32) (S : St) : Option (Int32 × St) := k_let (sI S 8 (0 : Int32)) fun S1 => if x1 = (-1 : Int32) then (f_X11_refuse x2 S1).bind fun q71 => f_X11_law_82 q71.1 q71.2 else (f_X11_done x1 S1).bind fun q79 => f_X11_law_82 q79.1 q79.2
noncomputable def f_X11_law_41 (s1 : Int32) (S : St) : Option (Int32 × St) := k_let (sI S 31 s1) fun S1 => (f_X10_addLaw_n S1).bind fun q52 => f_X11_law_56 q52.1 (-6 : Int32) q52.2
noncomputable def f_X11_law_41v1 (x3 : Nat) (s1 : Int32) (S : St) : Option (Int32 × St) := k_let (sI S 31 s1) fun S1 => (f_X10_addLaw x3 S1).bind fun q52 => f_X11_law_56 q52.1 (-6 : Int32) q52.2
noncomputable def f_X11_law (S : St) : Option (Int32 × St) := if (6 : Int32) ≤ (gI S 3) then f_X11_law_56 (-1 : Int32) (-5 : Int32) S else (f_X7_read S).bind fun q21 => if q21.1 = 0 then f_X11_law_41 (gI q21.2 15) q21.2 else f_X11_law_41v1 (q21.1 - 1) (-1 : Int32) q21.2
set_option maxRecDepth 100000 in
set_option maxHeartbeats 4000000 in
theorem w_X11_law_82 {mc ms : Nat} {D : k_D} {dy : Nat → Nat} (s0 : Int32) (S : St) (out : Int32 × St) (h : f_X11_law_82 s0 S = some out) : Rn yX11_law cX11_law 4 (some .int) (k_rm1 171) mc ms D dy S (k_Px out) 82 [] [.int s0] := by
    unfold f_X11_law_82 at h
    cases h
    exact r_iret rfl dX11_law_82 ⟨rfl, rfl⟩
set_option maxRecDepth 100000 in
set_option maxHeartbeats 4000000 in
theorem w_X11_law_56 {mc ms : Nat} {D : k_D} {dy : Nat → Nat} (x1 : Int32) (x2 : Int32) (S : St) (out : Int32 × St) (h : f_X11_law_56 x1 x2 S = some out) : Rn yX11_law cX11_law 4 (some .int) (k_rm1 171) mc ms D dy S (k_Px out) 56 [(0, .ref (D.2.2 48)), (1, .int x1), (2, .int x2)] [] := by
    unfold f_X11_law_56 at h
    refine r_aload_n 0 dX11_law_56 rfl rfl ?_
    refine gf_48_2 q_592 dX11_law_57 ?_
    refine r_iconst (v := 0) dX11_law_60 rfl ?_
    refine pfN_15_1 q_320 dX11_law_61 ?_
    generalize sI S 8 (0 : Int32) = S1 at h ⊢
    replace h := g_let h
    refine r_iload_n 1 dX11_law_64 rfl rfl ?_
    refine r_iconst (v := -1) dX11_law_65 rfl ?_
    refine r_icmp_ne (t := 77) dX11_law_66 (by decide) (fun c => ?_) (fun c => ?_)
    · rw [if_neg c] at h
      refine r_aload_n 0 dX11_law_77 rfl rfl ?_
      refine r_iload_n 1 dX11_law_78 rfl rfl ?_
      obtain ⟨q79, hq79, h⟩ := g_bind h
      refine r_callVi [.int x1] [] q79 (ok_X11_done hq79) q_648 q_650 q_2 q_651 q_141 hd_X11_done (ce_48 D dy _) kc11.1 rfl ⟨Nat.le_of_ble_eq_true rfl, Nat.le_of_ble_eq_true rfl⟩ rfl rfl (Nat.le_of_ble_eq_true rfl) dX11_law_79 ?_
      refine r_sub [] rfl ?_
      exact w_X11_law_82 _ _ _ h
    · rw [if_pos c] at h
      refine r_aload_n 0 dX11_law_69 rfl rfl ?_
      refine r_iload_n 2 dX11_law_70 rfl rfl ?_
      obtain ⟨q71, hq71, h⟩ := g_bind h
      refine r_callVi [.int x2] [] q71 (ok_X11_refuse hq71) q_640 q_642 q_0 q_643 q_141 hd_X11_refuse (ce_48 D dy _) kc11.1 rfl ⟨Nat.le_of_ble_eq_true rfl, Nat.le_of_ble_eq_true rfl⟩ rfl rfl (Nat.le_of_ble_eq_true rfl) dX11_law_71 ?_
      refine r_goto (t := 82) dX11_law_74 (by decide) ?_
      refine r_sub [] rfl ?_
      exact w_X11_law_82 _ _ _ h
set_option maxRecDepth 100000 in
set_option maxHeartbeats 4000000 in
theorem w_X11_law_41 {mc ms : Nat} {D : k_D} {dy : Nat → Nat} (s1 : Int32) (S : St) (out : Int32 × St) (h : f_X11_law_41 s1 S = some out) : Rn yX11_law cX11_law 4 (some .int) (k_rm1 171) mc ms D dy S (k_Px out) 41 [(0, .ref (D.2.2 48)), (3, .null)] [.int s1, .ref (D.2.2 48)] := by
    unfold f_X11_law_41 at h
    refine pf_48_13 q_603 dX11_law_41 ?_
    generalize sI S 31 s1 = S1 at h ⊢
    replace h := g_let h
    refine r_bipush (v := -6) dX11_law_44 rfl ?_
    refine r_istore_n dX11_law_46 rfl (by decide) rfl ?_
    refine r_aload_n 1 dX11_law_47 rfl rfl ?_
    refine gf_48_0 q_590 dX11_law_48 ?_
    refine r_aload_nN 2 dX11_law_51 rfl rfl ?_
    obtain ⟨q52, hq52, h⟩ := g_bind h
    refine r_callVNi [.null] [] q52 (ok_X10_addLaw_n hq52) q_958 q_960 q_43 q_961 q_142 hd_X10_addLaw (ce_0 D dy _) kc10.1 rfl ⟨Nat.le_of_ble_eq_true rfl, Nat.le_of_ble_eq_true rfl⟩ rfl rfl (Nat.le_of_ble_eq_true rfl) dX11_law_52 ?_
    refine r_istore_n dX11_law_55 rfl (by decide) rfl ?_
    refine r_sub [2, 0, 1] rfl ?_
    exact w_X11_law_56 _ _ _ _ h
set_option maxRecDepth 100000 in
set_option maxHeartbeats 4000000 in
theorem w_X11_law_41v1 {mc ms : Nat} {D : k_D} {dy : Nat → Nat} (x3 : Nat) (s1 : Int32) (S : St) (out : Int32 × St) (h : f_X11_law_41v1 x3 s1 S = some out) : Rn yX11_law cX11_law 4 (some .int) (k_rm1 171) mc ms D dy S (k_Px out) 41 [(0, .ref (D.2.2 48)), (3, .ref (dy (30 + x3)))] [.int s1, .ref (D.2.2 48)] := by
    unfold f_X11_law_41v1 at h
    refine pf_48_13 q_603 dX11_law_41 ?_
    generalize sI S 31 s1 = S1 at h ⊢
    replace h := g_let h
    refine r_bipush (v := -6) dX11_law_44 rfl ?_
    refine r_istore_n dX11_law_46 rfl (by decide) rfl ?_
    refine r_aload_n 1 dX11_law_47 rfl rfl ?_
    refine gf_48_0 q_590 dX11_law_48 ?_
    refine r_aload_n 2 dX11_law_51 rfl rfl ?_
    obtain ⟨q52, hq52, h⟩ := g_bind h
    refine r_callVNi [.ref (dy (30 + x3))] [] q52 (ok_X10_addLaw hq52) q_958 q_960 q_43 q_961 q_142 hd_X10_addLaw (ce_0 D dy _) kc10.1 rfl ⟨Nat.le_of_ble_eq_true rfl, Nat.le_of_ble_eq_true rfl⟩ rfl rfl (Nat.le_of_ble_eq_true rfl) dX11_law_52 ?_
    refine r_istore_n dX11_law_55 rfl (by decide) rfl ?_
    refine r_sub [2, 0, 1] rfl ?_
    exact w_X11_law_56 _ _ _ _ h
set_option maxRecDepth 100000 in
set_option maxHeartbeats 4000000 in
theorem w_X11_law_0 {D : k_D} {dy : Nat → Nat} (S : St) (out : Int32 × St) (h : f_X11_law S = some out) : Rn yX11_law cX11_law 4 (some .int) (k_rm1 171) 1 800 D dy S (k_Px out) 0 [(0, .ref (D.2.2 48))] [] := by
    unfold f_X11_law at h
    refine r_iconst (v := -1) dX11_law_0 rfl ?_
    refine r_istore_n dX11_law_1 rfl (by decide) rfl ?_
    refine r_bipush (v := -5) dX11_law_2 rfl ?_
    refine r_istore_n dX11_law_4 rfl (by decide) rfl ?_
    refine r_aload_n 2 dX11_law_5 rfl rfl ?_
    refine gf_48_0 q_590 dX11_law_6 ?_
    refine gfN_0_5 q_254 dX11_law_9 ?_
    refine r_bipush (v := 6) dX11_law_12 rfl ?_
    refine r_icmp_ge (t := 56) dX11_law_14 (by decide) (fun c => ?_) (fun c => ?_)
    · rw [if_pos c] at h
      refine r_sub [2, 1, 0] rfl ?_
      exact w_X11_law_56 _ _ _ _ h
    · rw [if_neg c] at h
      refine r_aload_n 2 dX11_law_17 rfl rfl ?_
      refine gf_48_3 q_593 dX11_law_18 ?_
      obtain ⟨q21, hq21, h⟩ := g_bind h
      refine r_callVNa (d2 := 170) [] [] q21 (ok_X7_read hq21) q_804 q_806 q_24 q_807 q_145 hd_X7_read (ce_23 D dy _) kc7.1 rfl ⟨Nat.le_of_ble_eq_true rfl, Nat.le_of_ble_eq_true rfl⟩ (Nat.le_refl _) (Nat.le_refl _) rfl rfl (Nat.le_of_ble_eq_true rfl) dX11_law_21 (fun dy hdy c => ?_) (fun dy hdy c => ?_)
      · rw [if_pos c] at h
        refine r_astore_nN dX11_law_24 rfl (by decide) rfl ?_
        refine r_aload_n 3 dX11_law_25 rfl rfl ?_
        refine r_aload_nN 0 dX11_law_26 rfl rfl ?_
        refine r_ifnonnullN dX11_law_27 ?_
        refine r_aload_n 3 dX11_law_30 rfl rfl ?_
        refine gf_48_3 q_593 dX11_law_31 ?_
        refine gfN_23_7 q_342 dX11_law_34 ?_
        refine r_goto (t := 41) dX11_law_37 (by decide) ?_
        refine r_sub [3, 0] rfl ?_
        exact w_X11_law_41 _ _ _ h
      · rw [if_neg c] at h
        refine r_astore_n dX11_law_24 rfl (by decide) rfl ?_
        refine r_aload_n 3 dX11_law_25 rfl rfl ?_
        refine r_aload_n 0 dX11_law_26 rfl rfl ?_
        refine r_ifnonnull (t := 40) dX11_law_27 (by decide) ?_
        refine r_iconst (v := -1) dX11_law_40 rfl ?_
        refine r_sub [3, 0] rfl ?_
        exact w_X11_law_41v1 _ _ _ _ h
theorem ok_X11_law {D : k_D} {dy : Nat → Nat} {S : St} {out : Int32 × St} (h : f_X11_law S = some out) : Sp yX11_law cX11_law 4 (some .int) (k_rm1 171) D dy S [.ref (D.2.2 48)] (k_Px out) := Sp.of (by decide +kernel) (Nat.le_of_ble_eq_true rfl) (w_X11_law_0 S out h)
