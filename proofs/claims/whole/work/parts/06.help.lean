def k_let {α β : Type} (a : α) (f : α → β) : β := f a
theorem g_let {α β : Type} {a : α} {f : α → Option β} {b : β} (h : k_let a f = some b) : f a = some b := h
theorem FU_ex : ∃ n : Nat, 1000000000 ≤ n := ⟨1000000000, Nat.le_refl _⟩
noncomputable def FU : Nat := Classical.choose FU_ex
theorem FU_ge {m : Nat} (h : m < 1000000000) : m < FU := Nat.lt_of_lt_of_le h (Classical.choose_spec FU_ex)
def k_b (i : Int32) (n : Nat) : Bool := decide (0 ≤ i) && decide (i.toNatClampNeg < n)
theorem k_b_in {i : Int32} {n : Nat} (h : k_b i n = true) : vp_in i n := by
  unfold k_b at h
  rw [Bool.and_eq_true, decide_eq_true_eq, decide_eq_true_eq] at h
  intro q
  rcases q with q | q
  · exact absurd q (Int32.not_lt.mpr h.1)
  · omega
theorem k_zn {v : Int32} (h : v = 0 ∨ v = 1) : narrow .boolean (.int v) = .int v := by
  rcases h with rfl | rfl <;> rfl
theorem g_ne {x w : Int32} {k : Int} (h : ¬ x = w) (hw : w.toInt = k) : x.toInt ≠ k := fun e => h (Int32.toInt_inj.mp (e.trans hw.symm))
theorem lc_def (x w : Int64) : lg_cmp x w = if x < w then -1 else if x = w then 0 else 1 := by
  unfold lg_cmp
  by_cases h1 : x < w
  · have h3 : ¬ x > w := Int64.not_lt.mpr (Int64.le_of_lt h1)
    have h4 : ¬ x = w := fun e => absurd h1 (by rw [e]; exact Int64.lt_irrefl)
    rw [if_neg h3, if_neg h4, if_pos h1]
  · by_cases h2 : x = w
    · have h3 : ¬ x > w := by rw [h2]; exact Int64.lt_irrefl
      rw [if_neg h3, if_pos h2, if_neg h1, if_pos h2]
    · have h3 : x > w := (Int64.lt_or_lt_of_ne (fun e => h2 e.symm)).resolve_right h1
      rw [if_pos h3, if_neg h1, if_neg h2]
theorem lc_lt {x w : Int64} : lg_cmp x w < 0 ↔ x < w := by
  rw [lc_def]
  by_cases h1 : x < w
  · rw [if_pos h1]; exact ⟨fun _ => h1, fun _ => by decide⟩
  · rw [if_neg h1]
    by_cases h2 : x = w
    · rw [if_pos h2]; exact ⟨fun h => absurd h (by decide), fun h => absurd h h1⟩
    · rw [if_neg h2]; exact ⟨fun h => absurd h (by decide), fun h => absurd h h1⟩
theorem lc_gt {x w : Int64} : 0 < lg_cmp x w ↔ w < x := by
  rw [lc_def]
  by_cases h1 : x < w
  · rw [if_pos h1]; exact ⟨fun h => absurd h (by decide), fun h => absurd h (Int64.not_lt.mpr (Int64.le_of_lt h1))⟩
  · rw [if_neg h1]
    by_cases h2 : x = w
    · rw [if_pos h2]; exact ⟨fun h => absurd h (by decide), fun h => absurd h (by rw [h2]; exact Int64.lt_irrefl)⟩
    · rw [if_neg h2]
      exact ⟨fun _ => (Int64.lt_or_lt_of_ne (fun e => h2 e.symm)).resolve_right h1, fun _ => by decide⟩
theorem lc_eq {x w : Int64} : lg_cmp x w = 0 ↔ x = w := by
  rw [lc_def]
  by_cases h1 : x < w
  · rw [if_pos h1]; exact ⟨fun h => absurd h (by decide), fun h => absurd h1 (by rw [h]; exact Int64.lt_irrefl)⟩
  · rw [if_neg h1]
    by_cases h2 : x = w
    · rw [if_pos h2]; exact ⟨fun _ => h2, fun _ => rfl⟩
    · rw [if_neg h2]; exact ⟨fun h => absurd h (by decide), fun h => absurd h h2⟩
theorem lc_ge {x w : Int64} : 0 ≤ lg_cmp x w ↔ w ≤ x := by
  rw [← Int32.not_lt, lc_lt, Int64.not_lt]
theorem lc_le {x w : Int64} : lg_cmp x w ≤ 0 ↔ x ≤ w := by
  rw [← Int32.not_lt, lc_gt, Int64.not_lt]
def k_rm (d : Nat) : Room := { frames := d, cells := 0, slots := 0, locals := 60 * d }
def k_Pi (dy : Nat → Nat) (q : Int32 × St) : k_Po := fun v d1 S1 => v = some (.int q.1) ∧ d1 = dy ∧ S1 = q.2
def k_Pl (dy : Nat → Nat) (q : Int64 × St) : k_Po := fun v d1 S1 => v = some (.long q.1) ∧ d1 = dy ∧ S1 = q.2
def k_Pv (dy : Nat → Nat) (q : St) : k_Po := fun v d1 S1 => v = none ∧ d1 = dy ∧ S1 = q
def k_cv (dy : Nat → Nat) (r : Nat) : Value := va_rf (k_law dy r)
theorem r_callVi {y : MethodName} {cc : ByteArray} {nL : Nat} {ret : Option FieldType} {rm : Room} {mc ms : Nat} {D : k_D} {dy : Nat → Nat} {S : St} {Post : k_Po} {pc : Nat} {ls : List (Nat × Value)} {st : List Value} {z : MethodName} {zc : ByteArray} {zL n i k0 ci a0 d2 : Nat} {zr : Option FieldType} {fs : List Value} {r : vw_C} (As rest : List Value) (q : Int32 × St) (hS : Sp z zc zL zr (k_rm d2) D dy S (.ref a0 :: As) (k_Pi dy q)) (w1 : k_in (.methodLink y.cls i z)) (w2 : k_in (.instanceMethod z)) (w3 : k_in (.selects r.1 z z)) (w4 : k_in (.code z zc zL zr)) (w5 : k_in (.initialized z.cls)) (hd : (z.cls ≠ "java/lang/invoke/MethodHandle" ∧ z.cls ≠ "java/lang/invoke/VarHandle") ∧ (parseMethodDescriptor z.desc).map (fun d => d.parameters.length) = some n) (he : k_cell D dy S k0 = some (.inr (ci, fs))) (hc : vwCl[ci]? = some r) (ha : k_ad D dy k0 = a0) (hR : (k_rm d2).frames + 1 ≤ rm.frames ∧ 8 + (zL + 11) + (k_rm d2).locals ≤ rm.locals)
    (hn : As.length = n) (hst : st = As.reverse ++ .ref a0 :: rest) (hcat : (rest.map fun v => v.category).sum ≤ 8) (d : decode cc pc = .ok (.invokevirtual i, 3)) (kk : Rn y cc nL ret rm mc ms D dy q.2 Post (pc + 3) ls (.int q.1 :: rest)) : Rn y cc nL ret rm mc ms D dy S Post pc ls st := by
  refine r_callV As rest hS w1 w2 w3 w4 w5 hd he hc ha hR (Nat.zero_le _) (Nat.zero_le _) hn hst hcat d ?_
  intro v d1 S1 h
  obtain ⟨h1, h2, h3⟩ := h
  rw [h1, h2, h3]
  exact kk
theorem r_callSi {y : MethodName} {cc : ByteArray} {nL : Nat} {ret : Option FieldType} {rm : Room} {mc ms : Nat} {D : k_D} {dy : Nat → Nat} {S : St} {Post : k_Po} {pc : Nat} {ls : List (Nat × Value)} {st : List Value} {z : MethodName} {zc : ByteArray} {zL n i d2 : Nat} {zr : Option FieldType} (As rest : List Value) (q : Int32 × St) (hS : Sp z zc zL zr (k_rm d2) D dy S As (k_Pi dy q)) (w1 : k_in (.methodLink y.cls i z)) (w2 : k_in (.static z)) (w4 : k_in (.code z zc zL zr)) (w5 : k_in (.initialized z.cls)) (hd : (z.cls ≠ "java/lang/invoke/MethodHandle" ∧ z.cls ≠ "java/lang/invoke/VarHandle") ∧ (parseMethodDescriptor z.desc).map (fun d => d.parameters.length) = some n) (hR : (k_rm d2).frames + 1 ≤ rm.frames ∧ 8 + (zL + 11) + (k_rm d2).locals ≤ rm.locals)
    (hn : As.length = n) (hst : st = As.reverse ++ rest) (hcat : (rest.map fun v => v.category).sum ≤ 8) (d : decode cc pc = .ok (.invokestatic i, 3)) (kk : Rn y cc nL ret rm mc ms D dy q.2 Post (pc + 3) ls (.int q.1 :: rest)) : Rn y cc nL ret rm mc ms D dy S Post pc ls st := by
  refine r_callS As rest hS w1 w2 w4 w5 hd hR (Nat.zero_le _) (Nat.zero_le _) hn hst hcat d ?_
  intro v d1 S1 h
  obtain ⟨h1, h2, h3⟩ := h
  rw [h1, h2, h3]
  exact kk
theorem r_callVl {y : MethodName} {cc : ByteArray} {nL : Nat} {ret : Option FieldType} {rm : Room} {mc ms : Nat} {D : k_D} {dy : Nat → Nat} {S : St} {Post : k_Po} {pc : Nat} {ls : List (Nat × Value)} {st : List Value} {z : MethodName} {zc : ByteArray} {zL n i k0 ci a0 d2 : Nat} {zr : Option FieldType} {fs : List Value} {r : vw_C} (As rest : List Value) (q : Int64 × St) (hS : Sp z zc zL zr (k_rm d2) D dy S (.ref a0 :: As) (k_Pl dy q)) (w1 : k_in (.methodLink y.cls i z)) (w2 : k_in (.instanceMethod z)) (w3 : k_in (.selects r.1 z z)) (w4 : k_in (.code z zc zL zr)) (w5 : k_in (.initialized z.cls)) (hd : (z.cls ≠ "java/lang/invoke/MethodHandle" ∧ z.cls ≠ "java/lang/invoke/VarHandle") ∧ (parseMethodDescriptor z.desc).map (fun d => d.parameters.length) = some n) (he : k_cell D dy S k0 = some (.inr (ci, fs))) (hc : vwCl[ci]? = some r) (ha : k_ad D dy k0 = a0) (hR : (k_rm d2).frames + 1 ≤ rm.frames ∧ 8 + (zL + 11) + (k_rm d2).locals ≤ rm.locals)
    (hn : As.length = n) (hst : st = As.reverse ++ .ref a0 :: rest) (hcat : (rest.map fun v => v.category).sum ≤ 8) (d : decode cc pc = .ok (.invokevirtual i, 3)) (kk : Rn y cc nL ret rm mc ms D dy q.2 Post (pc + 3) ls (.long q.1 :: rest)) : Rn y cc nL ret rm mc ms D dy S Post pc ls st := by
  refine r_callV As rest hS w1 w2 w3 w4 w5 hd he hc ha hR (Nat.zero_le _) (Nat.zero_le _) hn hst hcat d ?_
  intro v d1 S1 h
  obtain ⟨h1, h2, h3⟩ := h
  rw [h1, h2, h3]
  exact kk
theorem r_callSl {y : MethodName} {cc : ByteArray} {nL : Nat} {ret : Option FieldType} {rm : Room} {mc ms : Nat} {D : k_D} {dy : Nat → Nat} {S : St} {Post : k_Po} {pc : Nat} {ls : List (Nat × Value)} {st : List Value} {z : MethodName} {zc : ByteArray} {zL n i d2 : Nat} {zr : Option FieldType} (As rest : List Value) (q : Int64 × St) (hS : Sp z zc zL zr (k_rm d2) D dy S As (k_Pl dy q)) (w1 : k_in (.methodLink y.cls i z)) (w2 : k_in (.static z)) (w4 : k_in (.code z zc zL zr)) (w5 : k_in (.initialized z.cls)) (hd : (z.cls ≠ "java/lang/invoke/MethodHandle" ∧ z.cls ≠ "java/lang/invoke/VarHandle") ∧ (parseMethodDescriptor z.desc).map (fun d => d.parameters.length) = some n) (hR : (k_rm d2).frames + 1 ≤ rm.frames ∧ 8 + (zL + 11) + (k_rm d2).locals ≤ rm.locals)
    (hn : As.length = n) (hst : st = As.reverse ++ rest) (hcat : (rest.map fun v => v.category).sum ≤ 8) (d : decode cc pc = .ok (.invokestatic i, 3)) (kk : Rn y cc nL ret rm mc ms D dy q.2 Post (pc + 3) ls (.long q.1 :: rest)) : Rn y cc nL ret rm mc ms D dy S Post pc ls st := by
  refine r_callS As rest hS w1 w2 w4 w5 hd hR (Nat.zero_le _) (Nat.zero_le _) hn hst hcat d ?_
  intro v d1 S1 h
  obtain ⟨h1, h2, h3⟩ := h
  rw [h1, h2, h3]
  exact kk
theorem r_callVv {y : MethodName} {cc : ByteArray} {nL : Nat} {ret : Option FieldType} {rm : Room} {mc ms : Nat} {D : k_D} {dy : Nat → Nat} {S : St} {Post : k_Po} {pc : Nat} {ls : List (Nat × Value)} {st : List Value} {z : MethodName} {zc : ByteArray} {zL n i k0 ci a0 d2 : Nat} {zr : Option FieldType} {fs : List Value} {r : vw_C} (As rest : List Value) (q : St) (hS : Sp z zc zL zr (k_rm d2) D dy S (.ref a0 :: As) (k_Pv dy q)) (w1 : k_in (.methodLink y.cls i z)) (w2 : k_in (.instanceMethod z)) (w3 : k_in (.selects r.1 z z)) (w4 : k_in (.code z zc zL zr)) (w5 : k_in (.initialized z.cls)) (hd : (z.cls ≠ "java/lang/invoke/MethodHandle" ∧ z.cls ≠ "java/lang/invoke/VarHandle") ∧ (parseMethodDescriptor z.desc).map (fun d => d.parameters.length) = some n) (he : k_cell D dy S k0 = some (.inr (ci, fs))) (hc : vwCl[ci]? = some r) (ha : k_ad D dy k0 = a0) (hR : (k_rm d2).frames + 1 ≤ rm.frames ∧ 8 + (zL + 11) + (k_rm d2).locals ≤ rm.locals)
    (hn : As.length = n) (hst : st = As.reverse ++ .ref a0 :: rest) (hcat : (rest.map fun v => v.category).sum ≤ 8) (d : decode cc pc = .ok (.invokevirtual i, 3)) (kk : Rn y cc nL ret rm mc ms D dy q Post (pc + 3) ls rest) : Rn y cc nL ret rm mc ms D dy S Post pc ls st := by
  refine r_callV As rest hS w1 w2 w3 w4 w5 hd he hc ha hR (Nat.zero_le _) (Nat.zero_le _) hn hst hcat d ?_
  intro v d1 S1 h
  obtain ⟨h1, h2, h3⟩ := h
  rw [h1, h2, h3]
  exact kk
theorem r_callSv {y : MethodName} {cc : ByteArray} {nL : Nat} {ret : Option FieldType} {rm : Room} {mc ms : Nat} {D : k_D} {dy : Nat → Nat} {S : St} {Post : k_Po} {pc : Nat} {ls : List (Nat × Value)} {st : List Value} {z : MethodName} {zc : ByteArray} {zL n i d2 : Nat} {zr : Option FieldType} (As rest : List Value) (q : St) (hS : Sp z zc zL zr (k_rm d2) D dy S As (k_Pv dy q)) (w1 : k_in (.methodLink y.cls i z)) (w2 : k_in (.static z)) (w4 : k_in (.code z zc zL zr)) (w5 : k_in (.initialized z.cls)) (hd : (z.cls ≠ "java/lang/invoke/MethodHandle" ∧ z.cls ≠ "java/lang/invoke/VarHandle") ∧ (parseMethodDescriptor z.desc).map (fun d => d.parameters.length) = some n) (hR : (k_rm d2).frames + 1 ≤ rm.frames ∧ 8 + (zL + 11) + (k_rm d2).locals ≤ rm.locals)
    (hn : As.length = n) (hst : st = As.reverse ++ rest) (hcat : (rest.map fun v => v.category).sum ≤ 8) (d : decode cc pc = .ok (.invokestatic i, 3)) (kk : Rn y cc nL ret rm mc ms D dy q Post (pc + 3) ls rest) : Rn y cc nL ret rm mc ms D dy S Post pc ls st := by
  refine r_callS As rest hS w1 w2 w4 w5 hd hR (Nat.zero_le _) (Nat.zero_le _) hn hst hcat d ?_
  intro v d1 S1 h
  obtain ⟨h1, h2, h3⟩ := h
  rw [h1, h2, h3]
  exact kk
theorem r_callVNi {y : MethodName} {cc : ByteArray} {nL : Nat} {ret : Option FieldType} {rm : Room} {mc ms : Nat} {D : k_D} {dy : Nat → Nat} {S : St} {Post : k_Po} {pc : Nat} {ls : List (Nat × Value)} {st : List Value} {z : MethodName} {host : String} {zc : ByteArray} {zL n i k0 ci a0 d2 : Nat} {zr : Option FieldType} {fs : List Value} {r : vw_C} (As rest : List Value) (q : Int32 × St) (hS : Sp z zc zL zr (k_rm d2) D dy S (.ref a0 :: As) (k_Pi dy q)) (w1 : k_in (.methodLinkNest y.cls i z host)) (w2 : k_in (.instanceMethod z)) (w3 : k_in (.selects r.1 z z)) (w4 : k_in (.code z zc zL zr)) (w5 : k_in (.initialized z.cls)) (hd : (z.cls ≠ "java/lang/invoke/MethodHandle" ∧ z.cls ≠ "java/lang/invoke/VarHandle") ∧ (parseMethodDescriptor z.desc).map (fun d => d.parameters.length) = some n) (he : k_cell D dy S k0 = some (.inr (ci, fs))) (hc : vwCl[ci]? = some r) (ha : k_ad D dy k0 = a0) (hR : (k_rm d2).frames + 1 ≤ rm.frames ∧ 8 + (zL + 11) + (k_rm d2).locals ≤ rm.locals)
    (hn : As.length = n) (hst : st = As.reverse ++ .ref a0 :: rest) (hcat : (rest.map fun v => v.category).sum ≤ 8) (d : decode cc pc = .ok (.invokevirtual i, 3)) (kk : Rn y cc nL ret rm mc ms D dy q.2 Post (pc + 3) ls (.int q.1 :: rest)) : Rn y cc nL ret rm mc ms D dy S Post pc ls st := by
  refine r_callVN As rest hS w1 w2 w3 w4 w5 hd he hc ha hR (Nat.zero_le _) (Nat.zero_le _) hn hst hcat d ?_
  intro v d1 S1 h
  obtain ⟨h1, h2, h3⟩ := h
  rw [h1, h2, h3]
  exact kk
theorem r_callSNi {y : MethodName} {cc : ByteArray} {nL : Nat} {ret : Option FieldType} {rm : Room} {mc ms : Nat} {D : k_D} {dy : Nat → Nat} {S : St} {Post : k_Po} {pc : Nat} {ls : List (Nat × Value)} {st : List Value} {z : MethodName} {host : String} {zc : ByteArray} {zL n i d2 : Nat} {zr : Option FieldType} (As rest : List Value) (q : Int32 × St) (hS : Sp z zc zL zr (k_rm d2) D dy S As (k_Pi dy q)) (w1 : k_in (.methodLinkNest y.cls i z host)) (w2 : k_in (.static z)) (w4 : k_in (.code z zc zL zr)) (w5 : k_in (.initialized z.cls)) (hd : (z.cls ≠ "java/lang/invoke/MethodHandle" ∧ z.cls ≠ "java/lang/invoke/VarHandle") ∧ (parseMethodDescriptor z.desc).map (fun d => d.parameters.length) = some n) (hR : (k_rm d2).frames + 1 ≤ rm.frames ∧ 8 + (zL + 11) + (k_rm d2).locals ≤ rm.locals)
    (hn : As.length = n) (hst : st = As.reverse ++ rest) (hcat : (rest.map fun v => v.category).sum ≤ 8) (d : decode cc pc = .ok (.invokestatic i, 3)) (kk : Rn y cc nL ret rm mc ms D dy q.2 Post (pc + 3) ls (.int q.1 :: rest)) : Rn y cc nL ret rm mc ms D dy S Post pc ls st := by
  refine r_callSN As rest hS w1 w2 w4 w5 hd hR (Nat.zero_le _) (Nat.zero_le _) hn hst hcat d ?_
  intro v d1 S1 h
  obtain ⟨h1, h2, h3⟩ := h
  rw [h1, h2, h3]
  exact kk
theorem r_callVNl {y : MethodName} {cc : ByteArray} {nL : Nat} {ret : Option FieldType} {rm : Room} {mc ms : Nat} {D : k_D} {dy : Nat → Nat} {S : St} {Post : k_Po} {pc : Nat} {ls : List (Nat × Value)} {st : List Value} {z : MethodName} {host : String} {zc : ByteArray} {zL n i k0 ci a0 d2 : Nat} {zr : Option FieldType} {fs : List Value} {r : vw_C} (As rest : List Value) (q : Int64 × St) (hS : Sp z zc zL zr (k_rm d2) D dy S (.ref a0 :: As) (k_Pl dy q)) (w1 : k_in (.methodLinkNest y.cls i z host)) (w2 : k_in (.instanceMethod z)) (w3 : k_in (.selects r.1 z z)) (w4 : k_in (.code z zc zL zr)) (w5 : k_in (.initialized z.cls)) (hd : (z.cls ≠ "java/lang/invoke/MethodHandle" ∧ z.cls ≠ "java/lang/invoke/VarHandle") ∧ (parseMethodDescriptor z.desc).map (fun d => d.parameters.length) = some n) (he : k_cell D dy S k0 = some (.inr (ci, fs))) (hc : vwCl[ci]? = some r) (ha : k_ad D dy k0 = a0) (hR : (k_rm d2).frames + 1 ≤ rm.frames ∧ 8 + (zL + 11) + (k_rm d2).locals ≤ rm.locals)
    (hn : As.length = n) (hst : st = As.reverse ++ .ref a0 :: rest) (hcat : (rest.map fun v => v.category).sum ≤ 8) (d : decode cc pc = .ok (.invokevirtual i, 3)) (kk : Rn y cc nL ret rm mc ms D dy q.2 Post (pc + 3) ls (.long q.1 :: rest)) : Rn y cc nL ret rm mc ms D dy S Post pc ls st := by
  refine r_callVN As rest hS w1 w2 w3 w4 w5 hd he hc ha hR (Nat.zero_le _) (Nat.zero_le _) hn hst hcat d ?_
  intro v d1 S1 h
  obtain ⟨h1, h2, h3⟩ := h
  rw [h1, h2, h3]
  exact kk
theorem r_callSNl {y : MethodName} {cc : ByteArray} {nL : Nat} {ret : Option FieldType} {rm : Room} {mc ms : Nat} {D : k_D} {dy : Nat → Nat} {S : St} {Post : k_Po} {pc : Nat} {ls : List (Nat × Value)} {st : List Value} {z : MethodName} {host : String} {zc : ByteArray} {zL n i d2 : Nat} {zr : Option FieldType} (As rest : List Value) (q : Int64 × St) (hS : Sp z zc zL zr (k_rm d2) D dy S As (k_Pl dy q)) (w1 : k_in (.methodLinkNest y.cls i z host)) (w2 : k_in (.static z)) (w4 : k_in (.code z zc zL zr)) (w5 : k_in (.initialized z.cls)) (hd : (z.cls ≠ "java/lang/invoke/MethodHandle" ∧ z.cls ≠ "java/lang/invoke/VarHandle") ∧ (parseMethodDescriptor z.desc).map (fun d => d.parameters.length) = some n) (hR : (k_rm d2).frames + 1 ≤ rm.frames ∧ 8 + (zL + 11) + (k_rm d2).locals ≤ rm.locals)
    (hn : As.length = n) (hst : st = As.reverse ++ rest) (hcat : (rest.map fun v => v.category).sum ≤ 8) (d : decode cc pc = .ok (.invokestatic i, 3)) (kk : Rn y cc nL ret rm mc ms D dy q.2 Post (pc + 3) ls (.long q.1 :: rest)) : Rn y cc nL ret rm mc ms D dy S Post pc ls st := by
  refine r_callSN As rest hS w1 w2 w4 w5 hd hR (Nat.zero_le _) (Nat.zero_le _) hn hst hcat d ?_
  intro v d1 S1 h
  obtain ⟨h1, h2, h3⟩ := h
  rw [h1, h2, h3]
  exact kk
theorem r_callVNv {y : MethodName} {cc : ByteArray} {nL : Nat} {ret : Option FieldType} {rm : Room} {mc ms : Nat} {D : k_D} {dy : Nat → Nat} {S : St} {Post : k_Po} {pc : Nat} {ls : List (Nat × Value)} {st : List Value} {z : MethodName} {host : String} {zc : ByteArray} {zL n i k0 ci a0 d2 : Nat} {zr : Option FieldType} {fs : List Value} {r : vw_C} (As rest : List Value) (q : St) (hS : Sp z zc zL zr (k_rm d2) D dy S (.ref a0 :: As) (k_Pv dy q)) (w1 : k_in (.methodLinkNest y.cls i z host)) (w2 : k_in (.instanceMethod z)) (w3 : k_in (.selects r.1 z z)) (w4 : k_in (.code z zc zL zr)) (w5 : k_in (.initialized z.cls)) (hd : (z.cls ≠ "java/lang/invoke/MethodHandle" ∧ z.cls ≠ "java/lang/invoke/VarHandle") ∧ (parseMethodDescriptor z.desc).map (fun d => d.parameters.length) = some n) (he : k_cell D dy S k0 = some (.inr (ci, fs))) (hc : vwCl[ci]? = some r) (ha : k_ad D dy k0 = a0) (hR : (k_rm d2).frames + 1 ≤ rm.frames ∧ 8 + (zL + 11) + (k_rm d2).locals ≤ rm.locals)
    (hn : As.length = n) (hst : st = As.reverse ++ .ref a0 :: rest) (hcat : (rest.map fun v => v.category).sum ≤ 8) (d : decode cc pc = .ok (.invokevirtual i, 3)) (kk : Rn y cc nL ret rm mc ms D dy q Post (pc + 3) ls rest) : Rn y cc nL ret rm mc ms D dy S Post pc ls st := by
  refine r_callVN As rest hS w1 w2 w3 w4 w5 hd he hc ha hR (Nat.zero_le _) (Nat.zero_le _) hn hst hcat d ?_
  intro v d1 S1 h
  obtain ⟨h1, h2, h3⟩ := h
  rw [h1, h2, h3]
  exact kk
theorem r_callSNv {y : MethodName} {cc : ByteArray} {nL : Nat} {ret : Option FieldType} {rm : Room} {mc ms : Nat} {D : k_D} {dy : Nat → Nat} {S : St} {Post : k_Po} {pc : Nat} {ls : List (Nat × Value)} {st : List Value} {z : MethodName} {host : String} {zc : ByteArray} {zL n i d2 : Nat} {zr : Option FieldType} (As rest : List Value) (q : St) (hS : Sp z zc zL zr (k_rm d2) D dy S As (k_Pv dy q)) (w1 : k_in (.methodLinkNest y.cls i z host)) (w2 : k_in (.static z)) (w4 : k_in (.code z zc zL zr)) (w5 : k_in (.initialized z.cls)) (hd : (z.cls ≠ "java/lang/invoke/MethodHandle" ∧ z.cls ≠ "java/lang/invoke/VarHandle") ∧ (parseMethodDescriptor z.desc).map (fun d => d.parameters.length) = some n) (hR : (k_rm d2).frames + 1 ≤ rm.frames ∧ 8 + (zL + 11) + (k_rm d2).locals ≤ rm.locals)
    (hn : As.length = n) (hst : st = As.reverse ++ rest) (hcat : (rest.map fun v => v.category).sum ≤ 8) (d : decode cc pc = .ok (.invokestatic i, 3)) (kk : Rn y cc nL ret rm mc ms D dy q Post (pc + 3) ls rest) : Rn y cc nL ret rm mc ms D dy S Post pc ls st := by
  refine r_callSN As rest hS w1 w2 w4 w5 hd hR (Nat.zero_le _) (Nat.zero_le _) hn hst hcat d ?_
  intro v d1 S1 h
  obtain ⟨h1, h2, h3⟩ := h
  rw [h1, h2, h3]
  exact kk
