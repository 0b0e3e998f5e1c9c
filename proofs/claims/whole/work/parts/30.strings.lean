/-! text constants: their lengths and signs -/
def k_slen (i : Nat) : Int32 := Int32.ofNat (k_sl.getD i 0)
def k_sch (i j : Nat) : Int32 := (k_sb.getD i []).getD j 0
section R3
variable {y : MethodName} {cc : ByteArray} {nL : Nat} {ret : Option FieldType} {rm : Room} {mc ms : Nat} {D : k_D} {dy : Nat → Nat} {S : St} {Post : k_Po} {pc : Nat} {ls : List (Nat × Value)} {st : List Value}
theorem r_ldcS {i n : Nat} (hi : i < k_nS) (hy : y.cls = RX7) (hn : k_si.getD i 0 = n) (d : decode cc pc = .ok (.ldc n, 2)) (k : Rn y cc nL ret rm mc ms D dy S Post (pc + 2) ls (.ref (D.2.2 (1000 + i)) :: st)) : Rn y cc nL ret rm mc ms D dy S Post pc ls st := by
  subst hn
  intro p l e s m a b me c A X H lo cl sl Y la hl
  exact va_ldcS X.1 X.2.1 (by rw [← hy]; exact X.own) (X.ot.2.1 i hi) d (k p l e s m a b me c A X H lo cl sl Y la hl)
theorem r_getsC {n : Nat} (w : k_in (.fieldLink y.cls n "java/lang/String" "COMPACT_STRINGS" "Z")) (d : decode cc pc = .ok (.getstatic n, 3)) (k : Rn y cc nL ret rm mc ms D dy S Post (pc + 3) ls (.int 1 :: st)) : Rn y cc nL ret rm mc ms D dy S Post pc ls st := by
  intro p l e s m a b me c A X H lo cl sl Y la hl
  exact va_gets X.1 X.2.1 X.ot.2.2.1 Y.2.1 X.own (w.use X.tb) (fun x h => h) d (k p l e s m a b me c A X H lo cl sl Y la hl)
theorem r_getsF {n : Nat} (w : k_in (.fieldLink y.cls n "jdk/internal/util/Preconditions" "SIOOBE_FORMATTER" "Ljava/util/function/BiFunction;")) (d : decode cc pc = .ok (.getstatic n, 3)) (k : ∀ v : Value, (v = .null ∨ ∃ t, v = .ref t) → Rn y cc nL ret rm mc ms D dy S Post (pc + 3) ls (v :: st)) : Rn y cc nL ret rm mc ms D dy S Post pc ls st := by
  intro p l e s m a b me c A X H lo cl sl Y la hl
  rcases X.ot.2.2.2 with h | ⟨t, h⟩
  · exact va_gets X.1 X.2.1 h Y.2.1 X.own (w.use X.tb) (fun x h => h) d (k _ (Or.inl rfl) p l e s m a b me c A X H lo cl sl Y la hl)
  · exact va_gets X.1 X.2.1 h Y.2.1 X.own (w.use X.tb) (fun x h => h) d (k _ (Or.inr ⟨t, rfl⟩) p l e s m a b me c A X H lo cl sl Y la hl)
theorem r_sval {i n : Nat} (hi : i < k_nS) (w : k_in (.fieldLink y.cls n "java/lang/String" "value" "[B")) (d : decode cc pc = .ok (.getfield n, 3)) (k : Rn y cc nL ret rm mc ms D dy S Post (pc + 3) ls (.ref (D.2.2 (2000 + i)) :: st)) : Rn y cc nL ret rm mc ms D dy S Post pc ls (.ref (D.2.2 (1000 + i)) :: st) := by
  intro p l e s m a b me c A X H lo cl sl Y la hl
  exact vk_getf X.1 X.2.1 (X.ot.1.1 i hi).2.2.1 Y.2.1 X.own (w.use X.tb) (fun x h => h) d (k p l e s m a b me c A X H lo cl sl Y la hl)
theorem r_scod {i n : Nat} (hi : i < k_nS) (w : k_in (.fieldLink y.cls n "java/lang/String" "coder" "B")) (d : decode cc pc = .ok (.getfield n, 3)) (k : Rn y cc nL ret rm mc ms D dy S Post (pc + 3) ls (.int 0 :: st)) : Rn y cc nL ret rm mc ms D dy S Post pc ls (.ref (D.2.2 (1000 + i)) :: st) := by
  intro p l e s m a b me c A X H lo cl sl Y la hl
  exact vk_getf X.1 X.2.1 (X.ot.1.1 i hi).2.1 Y.2.1 X.own (w.use X.tb) (fun x h => h) d (k p l e s m a b me c A X H lo cl sl Y la hl)
theorem r_svlen {i : Nat} (hi : i < k_nS) (d : decode cc pc = .ok (.arraylength, 1)) (k : Rn y cc nL ret rm mc ms D dy S Post (pc + 1) ls (.int (k_slen i) :: st)) : Rn y cc nL ret rm mc ms D dy S Post pc ls (.ref (D.2.2 (2000 + i)) :: st) := by
  intro p l e s m a b me c A X H lo cl sl Y la hl
  exact va_tlen X.1 X.2.1 (X.ot.1.1 i hi).2.2.2 Y.2.1 rfl d (k p l e s m a b me c A X H lo cl sl Y la hl)
theorem r_svld {i : Nat} {j : Int32} (hi : i < k_nS) (hin : vp_in j (k_sl.getD i 0)) (d : decode cc pc = .ok (.baload, 1)) (k : Rn y cc nL ret rm mc ms D dy S Post (pc + 1) ls (.int (k_sch i j.toNatClampNeg) :: st)) : Rn y cc nL ret rm mc ms D dy S Post pc ls (.int j :: .ref (D.2.2 (2000 + i)) :: st) := by
  intro p l e s m a b me c A X H lo cl sl Y la hl
  exact va_tb X.1 X.2.1 (X.ot.1.1 i hi).2.2.2 Y.2.1 hin rfl d (k p l e s m a b me c A X H lo cl sl Y la hl)
theorem r_i2c {x v : Int32} (d : decode cc pc = .ok (.i2c, 1)) (hv : (x.toUInt32 % 65536).toInt32 = v) (k : Rn y cc nL ret rm mc ms D dy S Post (pc + 1) ls (.int v :: st)) : Rn y cc nL ret rm mc ms D dy S Post pc ls (.int x :: st) := fun p l e s m a b me c A X H lo cl sl Y la hl => lv_i2c X.1 X.2.1 d hv (k p l e s m a b me c A X H lo cl sl Y la hl)
/-- a call on a text constant -/
theorem r_callS0 {z : MethodName} {zc : ByteArray} {zL n i j d2 : Nat} {zr : Option FieldType} (As rest : List Value) (q : Int32 × St) (hj : j < k_nS) (hS : Sp z zc zL zr (k_rm d2) D dy S (.ref (D.2.2 (1000 + j)) :: As) (k_Pi dy q)) (w1 : k_in (.methodLink y.cls i z)) (w2 : k_in (.instanceMethod z)) (w3 : k_in (.selects "java/lang/String" z z)) (w4 : k_in (.code z zc zL zr)) (w5 : k_in (.initialized z.cls))
    (hd : (z.cls ≠ "java/lang/invoke/MethodHandle" ∧ z.cls ≠ "java/lang/invoke/VarHandle") ∧ (parseMethodDescriptor z.desc).map (fun d => d.parameters.length) = some n) (hR : (k_rm d2).frames + 1 ≤ rm.frames ∧ 8 + (zL + 11) + (k_rm d2).locals ≤ rm.locals)
    (hn : As.length = n) (hst : st = As.reverse ++ .ref (D.2.2 (1000 + j)) :: rest) (hcat : (rest.map fun v => v.category).sum ≤ 8) (d : decode cc pc = .ok (.invokevirtual i, 3)) (kk : Rn y cc nL ret rm mc ms D dy q.2 Post (pc + 3) ls (.int q.1 :: rest)) : Rn y cc nL ret rm mc ms D dy S Post pc ls st := by
  subst hst
  intro p l e s m a b me c A X H lo cl sl Y la hl
  have hp := k_pre (As := .ref (D.2.2 (1000 + j)) :: As) X.tb X.kk X.ot X.new Y
  refine k_after (rest := rest) (a := (Value.ref (D.2.2 (1000 + j)) :: As).toArray) (rm2 := k_rm d2) (Post2 := k_Pi dy q) X Y hl (Nat.zero_le _) (Nat.zero_le _) ?_ ?_
  · exact va_runV (S := ⟨X.1, X.2.1, X.2.2.1, X.own, fun w h => absurd h (List.not_mem_nil (a := w))⟩) (Ts := []) (hS l H.size) ⟨⟨rfl, rfl, hR.1, hR.2, k_mono X.tb w4, List.mem_singleton.mpr rfl, w4.use X.tb, w5.use X.tb, hd.1, k_pars hd.2, w1.use X.tb⟩, w2.use X.tb, w3.use X.tb⟩ ⟨hp.1, vk_recv (i := j) (adK := fun i => D.2.2 (1000 + i)) X.ot.1 hj Y.2.1, hp.2⟩ rfl hn hl.1 rfl (lv_room hcat) d ⟨by have := Y.2.2.1; exact Nat.le_trans (Nat.le_add_right cl mc) this, by have := Y.2.2.2; exact Nat.le_trans (Nat.le_add_right sl ms) this⟩
  · intro v d1 S1 h
    obtain ⟨h1, h2, h3⟩ := h
    rw [h1, h2, h3]
    exact kk
end R3
theorem sc_all : ∀ i, i < k_nS → ∀ j, j < k_sl.getD i 0 → (((k_sch i j) &&& (Int16.ofInt 255).toInt32).toUInt32 % 65536).toInt32 = k_sch i j ∧ narrow .char (.int (k_sch i j)) = .int (k_sch i j) := by decide +kernel
theorem sc_len : ∀ i, i < k_nS → (k_slen i) >>> ((0 : Int32) &&& 31) = k_slen i ∧ (k_slen i).toInt = (k_sl.getD i 0 : Nat) := by decide +kernel
set_option maxRecDepth 100000 in
theorem ok_J0_coder_7d493 {D : k_D} {dy : Nat → Nat} {S : St} {i : Nat} (hi : i < k_nS) : Sp yJ0_coder_7d493 cJ0_coder_7d493 1 (some .byte) (k_rm 0) D dy S [.ref (D.2.2 (1000 + i))] (k_Pi dy (0, S)) := by
  refine Sp.of (by decide +kernel) (Nat.le_of_ble_eq_true rfl) ?_
  refine r_getsC q_843 dJ0_coder_7d493_0 ?_
  refine r_if_eq (t := 13) dJ0_coder_7d493_3 (by decide) (fun c => absurd c (by decide)) (fun _ => ?_)
  refine r_aload_n 0 dJ0_coder_7d493_6 rfl rfl ?_
  refine r_scod hi q_1886 dJ0_coder_7d493_7 ?_
  refine r_goto (t := 14) dJ0_coder_7d493_10 (by decide) ?_
  exact r_zret rfl rfl dJ0_coder_7d493_14 ⟨rfl, rfl, rfl⟩
set_option maxRecDepth 100000 in
theorem ok_J0_isLatin1_aae02 {D : k_D} {dy : Nat → Nat} {S : St} {i : Nat} (hi : i < k_nS) : Sp yJ0_isLatin1_aae02 cJ0_isLatin1_aae02 1 (some .boolean) (k_rm 0) D dy S [.ref (D.2.2 (1000 + i))] (k_Pi dy (1, S)) := by
  refine Sp.of (by decide +kernel) (Nat.le_of_ble_eq_true rfl) ?_
  refine r_getsC q_843 dJ0_isLatin1_aae02_0 ?_
  refine r_if_eq (t := 17) dJ0_isLatin1_aae02_3 (by decide) (fun c => absurd c (by decide)) (fun _ => ?_)
  refine r_aload_n 0 dJ0_isLatin1_aae02_6 rfl rfl ?_
  refine r_scod hi q_1886 dJ0_isLatin1_aae02_7 ?_
  refine r_if_ne (t := 17) dJ0_isLatin1_aae02_10 (by decide) (fun c => absurd rfl c) (fun _ => ?_)
  refine r_iconst (v := 1) dJ0_isLatin1_aae02_13 rfl ?_
  refine r_goto (t := 18) dJ0_isLatin1_aae02_14 (by decide) ?_
  exact r_zret rfl rfl dJ0_isLatin1_aae02_18 ⟨rfl, rfl, rfl⟩
def f_J0_length_8abf5 (x0 : Nat) (S : St) : Option (Int32 × St) := if x0 < k_nS then some (k_slen x0, S) else none
set_option maxRecDepth 100000 in
theorem ok_J0_length_8abf5 {D : k_D} {dy : Nat → Nat} {x0 : Nat} {S : St} {out : Int32 × St} (h : f_J0_length_8abf5 x0 S = some out) : Sp yJ0_length_8abf5 cJ0_length_8abf5 1 (some .int) (k_rm 1) D dy S [.ref (D.2.2 (1000 + x0))] (k_Pi dy out) := by
  obtain ⟨hi, h⟩ := g_ite h
  cases h
  refine Sp.of (by decide +kernel) (Nat.le_of_ble_eq_true rfl) ?_
  refine r_aload_n 0 dJ0_length_8abf5_0 rfl rfl ?_
  refine r_sval hi q_1885 dJ0_length_8abf5_1 ?_
  refine r_svlen hi dJ0_length_8abf5_4 ?_
  refine r_aload_n 0 dJ0_length_8abf5_5 rfl rfl ?_
  refine r_callS0 (j := x0) [] [.int (k_slen x0)] (0, S) hi (ok_J0_coder_7d493 hi) q_839 q_840 q_841 q_842 q_156 hd_J0_coder_7d493 ⟨Nat.le_of_ble_eq_true rfl, Nat.le_of_ble_eq_true rfl⟩ rfl rfl (Nat.le_of_ble_eq_true rfl) dJ0_length_8abf5_6 ?_
  refine r_ishr dJ0_length_8abf5_9 ?_
  refine r_iret rfl dJ0_length_8abf5_10 ⟨?_, rfl, rfl⟩
  rw [(sc_len x0 hi).1]
set_option maxRecDepth 100000 in
theorem ok_J3_checkIndex_8e157 {D : k_D} {dy : Nat → Nat} {S : St} {j n : Int32} {v : Value} (hv : v = .null ∨ ∃ t, v = .ref t) (h1 : ¬ j < 0) (h2 : j < n) : Sp yJ3_checkIndex_8e157 cJ3_checkIndex_8e157 3 (some .int) (k_rm 0) D dy S [.int j, .int n, v] (k_Pi dy (j, S)) := by
  have hc : (lg_sl [.int j, .int n, v]).length ≤ 3 := by
    rcases hv with rfl | ⟨t, rfl⟩ <;> exact Nat.le_of_ble_eq_true rfl
  refine Sp.of (by decide +kernel) hc ?_
  refine r_iload_n 0 dJ3_checkIndex_8e157_0 rfl rfl ?_
  refine r_if_lt (t := 9) dJ3_checkIndex_8e157_1 (by decide) (fun c => absurd c h1) (fun _ => ?_)
  refine r_iload_n 0 dJ3_checkIndex_8e157_4 rfl rfl ?_
  refine r_iload_n 1 dJ3_checkIndex_8e157_5 rfl rfl ?_
  refine r_icmp_lt (t := 16) dJ3_checkIndex_8e157_6 (by decide) (fun _ => ?_) (fun c => absurd h2 c)
  refine r_iload_n 0 dJ3_checkIndex_8e157_16 rfl rfl ?_
  exact r_iret rfl dJ3_checkIndex_8e157_17 ⟨rfl, rfl, rfl⟩
set_option maxRecDepth 100000 in
theorem ok_J0_checkIndex_df160 {D : k_D} {dy : Nat → Nat} {S : St} {j n : Int32} (h1 : ¬ j < 0) (h2 : j < n) : Sp yJ0_checkIndex_df160 cJ0_checkIndex_df160 2 none (k_rm 1) D dy S [.int j, .int n] (k_Pv dy S) := by
  refine Sp.of (by decide +kernel) (Nat.le_of_ble_eq_true rfl) ?_
  refine r_iload_n 0 dJ0_checkIndex_df160_0 rfl rfl ?_
  refine r_iload_n 1 dJ0_checkIndex_df160_1 rfl rfl ?_
  refine r_getsF q_859 dJ0_checkIndex_df160_2 (fun v hv => ?_)
  refine r_callSi [.int j, .int n, v] [] (j, S) (ok_J3_checkIndex_8e157 hv h1 h2) q_861 q_862 q_863 q_158 hd_J3_checkIndex_8e157 ⟨Nat.le_of_ble_eq_true rfl, Nat.le_of_ble_eq_true rfl⟩ rfl rfl (Nat.le_of_ble_eq_true rfl) dJ0_checkIndex_df160_5 ?_
  refine r_pop dJ0_checkIndex_df160_8 rfl ?_
  exact r_vret rfl dJ0_checkIndex_df160_9 ⟨rfl, rfl, rfl⟩
set_option maxRecDepth 100000 in
theorem ok_J1_charAt_3b067 {D : k_D} {dy : Nat → Nat} {S : St} {i : Nat} {j : Int32} (hi : i < k_nS) (hb : k_b j (k_sl.getD i 0) = true) : Sp yJ1_charAt_3b067 cJ1_charAt_3b067 2 (some .char) (k_rm 2) D dy S [.ref (D.2.2 (2000 + i)), .int j] (k_Pi dy (k_sch i j.toNatClampNeg, S)) := by
  have hj := k_b_in hb
  have hlt : j.toNatClampNeg < k_sl.getD i 0 := Nat.not_le.mp fun q => hj (Or.inr q)
  have h1 : ¬ j < 0 := fun q => hj (Or.inl q)
  have h2 : j < k_slen i := by
    rw [Int32.lt_iff_toInt_lt, (sc_len i hi).2]
    have h0 : (0 : Int) ≤ j.toInt := by
      have := Int32.not_lt.mp h1
      simpa using Int32.le_iff_toInt_le.mp this
    have : j.toNatClampNeg = j.toInt.toNat := rfl
    omega
  have hs := sc_all i hi j.toNatClampNeg hlt
  refine Sp.of (by decide +kernel) (Nat.le_of_ble_eq_true rfl) ?_
  refine r_iload_n 1 dJ1_charAt_3b067_0 rfl rfl ?_
  refine r_aload_n 0 dJ1_charAt_3b067_1 rfl rfl ?_
  refine r_svlen hi dJ1_charAt_3b067_2 ?_
  refine r_callSv [.int j, .int (k_slen i)] [] S (ok_J0_checkIndex_df160 h1 h2) q_856 q_857 q_858 q_156 hd_J0_checkIndex_df160 ⟨Nat.le_of_ble_eq_true rfl, Nat.le_of_ble_eq_true rfl⟩ rfl rfl (Nat.le_of_ble_eq_true rfl) dJ1_charAt_3b067_3 ?_
  refine r_aload_n 0 dJ1_charAt_3b067_6 rfl rfl ?_
  refine r_iload_n 1 dJ1_charAt_3b067_7 rfl rfl ?_
  refine r_svld hi hj dJ1_charAt_3b067_8 ?_
  refine r_sipush dJ1_charAt_3b067_9 rfl ?_
  refine r_iand dJ1_charAt_3b067_12 ?_
  refine r_i2c dJ1_charAt_3b067_13 hs.1 ?_
  exact r_zret rfl hs.2 dJ1_charAt_3b067_14 ⟨rfl, rfl, rfl⟩
def f_J0_charAt_5068e (x0 : Nat) (x1 : Int32) (S : St) : Option (Int32 × St) := if x0 < k_nS then if k_b x1 (k_sl.getD x0 0) = true then some (k_sch x0 x1.toNatClampNeg, S) else none else none
set_option maxRecDepth 100000 in
theorem ok_J0_charAt_5068e {D : k_D} {dy : Nat → Nat} {x0 : Nat} {x1 : Int32} {S : St} {out : Int32 × St} (h : f_J0_charAt_5068e x0 x1 S = some out) : Sp yJ0_charAt_5068e cJ0_charAt_5068e 2 (some .char) (k_rm 3) D dy S [.ref (D.2.2 (1000 + x0)), .int x1] (k_Pi dy out) := by
  obtain ⟨hi, h⟩ := g_ite h
  obtain ⟨hb, h⟩ := g_ite h
  cases h
  have hlt : x1.toNatClampNeg < k_sl.getD x0 0 := Nat.not_le.mp fun q => (k_b_in hb) (Or.inr q)
  refine Sp.of (by decide +kernel) (Nat.le_of_ble_eq_true rfl) ?_
  refine r_aload_n 0 dJ0_charAt_5068e_0 rfl rfl ?_
  refine r_callS0 (j := x0) [] [] (1, S) hi (ok_J0_isLatin1_aae02 hi) q_849 q_850 q_851 q_852 q_156 hd_J0_isLatin1_aae02 ⟨Nat.le_of_ble_eq_true rfl, Nat.le_of_ble_eq_true rfl⟩ rfl rfl (Nat.le_of_ble_eq_true rfl) dJ0_charAt_5068e_1 ?_
  refine r_if_eq (t := 16) dJ0_charAt_5068e_4 (by decide) (fun c => absurd c (show ¬ (1 : Int32) = 0 by decide)) (fun _ => ?_)
  refine r_aload_n 0 dJ0_charAt_5068e_7 rfl rfl ?_
  refine r_sval hi q_1885 dJ0_charAt_5068e_8 ?_
  refine r_iload_n 1 dJ0_charAt_5068e_11 rfl rfl ?_
  refine r_callSi [.ref (D.2.2 (2000 + x0)), .int x1] [] (k_sch x0 x1.toNatClampNeg, S) (ok_J1_charAt_3b067 hi hb) q_853 q_854 q_855 q_157 hd_J1_charAt_3b067 ⟨Nat.le_of_ble_eq_true rfl, Nat.le_of_ble_eq_true rfl⟩ rfl rfl (Nat.le_of_ble_eq_true rfl) dJ0_charAt_5068e_12 ?_
  exact r_zret rfl (sc_all x0 hi _ hlt).2 dJ0_charAt_5068e_15 ⟨rfl, rfl, rfl⟩
