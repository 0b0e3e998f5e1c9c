/-! codes of laws: in a state they are numbers, on the machine cells made on the way -/
def k_Pc (dy : Nat → Nat) (q : Nat × St) : k_Po := fun v d1 S1 => v = some (va_rf (k_law dy q.1)) ∧ d1 = dy ∧ S1 = q.2
theorem k_law_0 {dy : Nat → Nat} {r : Nat} (h : r = 0) : va_rf (k_law dy r) = .null := by
  subst h
  rfl
theorem k_law_1 {dy : Nat → Nat} {r : Nat} (h : ¬ r = 0) : va_rf (k_law dy r) = .ref (dy (30 + (r - 1))) := by
  unfold k_law
  rw [if_neg h]
  rfl
theorem k_law_s (dy : Nat → Nat) (e : Nat) : va_rf (k_law dy (e + 1)) = .ref (dy (30 + e)) := by
  rw [k_law_1 (by omega), Nat.add_sub_cancel]
def k_code (S : St) (e : Nat) : Option (Nat × (Nat → Int32)) := (gC S)[e]?
theorem k_ce_code {D : k_D} {dy : Nat → Nat} {S : St} {e : Nat} {a : Nat × (Nat → Int32)} (h : k_code S e = some a) : k_cell D dy S (k_N + (30 + e)) = some (.inl (D.2.1 0, a.1, .inl a.2)) := by
  unfold k_cell k_dyn
  rw [if_neg (by omega), Nat.add_sub_cancel_left, if_neg (by omega), Nat.add_sub_cancel_left]
  unfold k_code at h
  rw [h]
  rfl
theorem k_ad_code (D : k_D) (dy : Nat → Nat) (j : Nat) : k_ad D dy (k_N + j) = dy j := by
  unfold k_ad
  rw [if_neg (by omega), Nat.add_sub_cancel_left]
section R2
variable {y : MethodName} {cc : ByteArray} {nL : Nat} {ret : Option FieldType} {rm : Room} {mc ms : Nat} {D : k_D} {dy : Nat → Nat} {S : St} {Post : k_Po} {pc : Nat} {ls : List (Nat × Value)} {st : List Value}
theorem r_ialdC {e : Nat} {a : Nat × (Nat → Int32)} {i : Int32} (hA : k_code S e = some a) (hin : vp_in i a.1) (d : decode cc pc = .ok (.iaload, 1)) (k : Rn y cc nL ret rm mc ms D dy S Post (pc + 1) ls (.int (a.2 i.toNatClampNeg) :: st)) : Rn y cc nL ret rm mc ms D dy S Post pc ls (.int i :: .ref (dy (30 + e)) :: st) := r_iald (k_N + (30 + e)) (k_ce_code hA) (k_ad_code D dy _) hin d k
theorem r_alenC {e : Nat} {a : Nat × (Nat → Int32)} (hA : k_code S e = some a) (d : decode cc pc = .ok (.arraylength, 1)) (k : Rn y cc nL ret rm mc ms D dy S Post (pc + 1) ls (.int (Int32.ofNat a.1) :: st)) : Rn y cc nL ret rm mc ms D dy S Post pc ls (.ref (dy (30 + e)) :: st) := r_alen 0 (k_N + (30 + e)) (k_ce_code hA) rfl (k_ad_code D dy _) rfl d k
theorem r_aald {ty : FieldType} {t0 n : Nat} {cA : ClassId} {f : Nat → Option Nat} (k0 : Nat) (he : k_cell D dy S k0 = some (.inl (cA, n, .inr (.inr (.inr (.inr f)))))) (ht : (k_tys D)[t0]? = some (cA, ty)) (hr : ty.isReference = true) {a0 : Nat} (ha : k_ad D dy k0 = a0) {i : Int32} (hin : vp_in i n) (d : decode cc pc = .ok (.aaload, 1)) (k : Rn y cc nL ret rm mc ms D dy S Post (pc + 1) ls (va_rf (f i.toNatClampNeg) :: st)) : Rn y cc nL ret rm mc ms D dy S Post pc ls (.int i :: .ref a0 :: st) := by
  subst ha
  intro p l E s m a b me c A X H lo cl sl Y la hl
  have hlt : i.toNatClampNeg < n := Nat.not_le.mp fun q => hin (Or.inr q)
  exact W.aald (v := va_rf (f i.toNatClampNeg)) (ty := ty) X.1 X.2.1 (Y.1.1 k0 _ he) ((X.kn.2 t0 _ ht).1 n (fun j => va_rf (f j))) hr (fun q => by cases q) (by show ¬ (i < 0 ∨ (arrV _ _ _).slots.size ≤ _); rw [arrV_size]; exact hin) (by show (arrV _ _ _).slots[_]? = _; rw [arrV_read _ _ hlt]) rfl rfl d (k p l E s m a b me c A X H lo cl sl Y la hl)
theorem r_aaldL {i : Int32} (hin : vp_in i 6) (d : decode cc pc = .ok (.aaload, 1)) (k0 : gR S 0 i.toNatClampNeg = 0 → Rn y cc nL ret rm mc ms D dy S Post (pc + 1) ls (.null :: st)) (k1 : ¬ gR S 0 i.toNatClampNeg = 0 → Rn y cc nL ret rm mc ms D dy S Post (pc + 1) ls (.ref (dy (30 + (gR S 0 i.toNatClampNeg - 1))) :: st)) : Rn y cc nL ret rm mc ms D dy S Post pc ls (.int i :: .ref (D.2.2 8) :: st) := by
  refine r_aald (t0 := 4) 8 (ce_8 D dy S) rfl rfl rfl hin d ?_
  by_cases c : gR S 0 i.toNatClampNeg = 0
  · show Rn y cc nL ret rm mc ms D dy S Post (pc + 1) ls (va_rf (k_law dy (gR S 0 i.toNatClampNeg)) :: st)
    rw [k_law_0 c]
    exact k0 c
  · show Rn y cc nL ret rm mc ms D dy S Post (pc + 1) ls (va_rf (k_law dy (gR S 0 i.toNatClampNeg)) :: st)
    rw [k_law_1 c]
    exact k1 c
theorem k_sR (D : k_D) (dy : Nat → Nat) (S : St) (i r : Nat) : k_cell D dy (sR S 0 i r) 8 = some (.inl (D.2.1 4, 6, .inr (.inr (.inr (.inr (va_up (fun j => k_law dy (gR S 0 j)) i (k_law dy r))))))) ∧ ∀ j, j ≠ 8 → k_cell D dy (sR S 0 i r) j = k_cell D dy S j := by
  have h := k_cset (D := D) (dy := dy) (S := S) (S' := sR S 0 i r) (k := 8) (e := .inl (D.2.1 4, 6, .inr (.inr (.inr (.inr (fun j => k_law dy (gR (sR S 0 i r) 0 j))))))) (by decide) rfl rfl
  have e8 : (fun j => k_law dy (gR (sR S 0 i r) 0 j)) = va_up (fun j => k_law dy (gR S 0 j)) i (k_law dy r) := by
    funext j
    show k_law dy (if j = i then r else gR S 0 j) = if j = i then k_law dy r else k_law dy (gR S 0 j)
    by_cases c : j = i
    · rw [if_pos c, if_pos c]
    · rw [if_neg c, if_neg c]
  rw [e8] at h
  exact h
theorem r_aastL {e : Nat} {a : Nat × (Nat → Int32)} {i : Int32} (hA : k_code S e = some a) (hin : vp_in i 6) (d : decode cc pc = .ok (.aastore, 1)) (k : Rn y cc nL ret rm mc ms D dy (sR S 0 i.toNatClampNeg (e + 1)) Post (pc + 1) ls st) : Rn y cc nL ret rm mc ms D dy S Post pc ls (.ref (dy (30 + e)) :: .int i :: .ref (D.2.2 8) :: st) := by
  intro p l E s m ar b me c A X H lo cl sl Y la hl
  have hlt : i.toNatClampNeg < 6 := Nat.not_le.mp fun q => hin (Or.inr q)
  have h0 : ¬ i < 0 := fun q => hin (Or.inl q)
  obtain ⟨kA, hk1, hk2, -⟩ := X.kk.2
  obtain ⟨kI, hk0, -⟩ := ((X.kn.2 0 _ rfl).1 0 (fun _ => .null)).2
  have hv := Y.1.1 _ _ (k_ce_code hA)
  rw [k_ad_code] at hv
  have h8 := k_sR D dy S i.toNatClampNeg (e + 1)
  refine W.aast X.1 X.2.1 (Y.1.1 8 _ (ce_8 D dy S)) (fun q h => by cases h) (fun h => by cases h) hk1 hk2 rfl hk0 ⟨h0, by show _ < (arrV _ _ _).slots.size; rw [arrV_size]; exact hlt⟩ hv (fun q h => by cases h) hk0 (va_asg _ _) rfl rfl d fun H1 e1 z1 oq => ?_
  refine k p l E s m ar b me c A X H1 _ cl sl (Y.set (ce_8 D dy S) h8.1 h8.2 ?_ oq (Y.2.1.put z1 oq (Y.1.2.2 8 _ (ce_8 D dy S)))) la hl
  show H1[_]? = some (vp_cell _ _)
  refine e1.trans ?_
  rw [vp_cell_q]
  show some ((vp_cell _ (6, .inr (.inr (.inr (.inr (fun j => k_law dy (gR S 0 j))))))).setSlot _ _) = _
  rw [vp_cell_q, arrV_store]
  refine congrArg some ?_
  show arrV (D.2.1 4) 6 _ = vp_cell (D.2.1 4) (6, .inr (.inr (.inr (.inr (va_up (fun j => k_law dy (gR S 0 j)) i.toNatClampNeg (k_law dy (e + 1)))))))
  rw [vp_cell_q]
  congr 1
  funext q
  by_cases hq : q = i.toNatClampNeg
  · subst hq
    simp only [updV, va_up, if_pos]
    rw [k_law_s]
  · simp [updV, va_up, hq]
end R2
theorem r_callVc {y : MethodName} {cc : ByteArray} {nL : Nat} {ret : Option FieldType} {rm : Room} {mc ms : Nat} {D : k_D} {dy : Nat → Nat} {S : St} {Post : k_Po} {pc : Nat} {ls : List (Nat × Value)} {st : List Value} {z : MethodName} {zc : ByteArray} {zL n i k0 ci a0 d2 : Nat} {zr : Option FieldType} {fs : List Value} {r : vw_C} (As rest : List Value) (q : Nat × St) (hS : Sp z zc zL zr (k_rm d2) D dy S (.ref a0 :: As) (k_Pc dy q)) (w1 : k_in (.methodLink y.cls i z)) (w2 : k_in (.instanceMethod z)) (w3 : k_in (.selects r.1 z z)) (w4 : k_in (.code z zc zL zr)) (w5 : k_in (.initialized z.cls)) (hd : (z.cls ≠ "java/lang/invoke/MethodHandle" ∧ z.cls ≠ "java/lang/invoke/VarHandle") ∧ (parseMethodDescriptor z.desc).map (fun d => d.parameters.length) = some n) (he : k_cell D dy S k0 = some (.inr (ci, fs))) (hc : vwCl[ci]? = some r) (ha : k_ad D dy k0 = a0) (hR : (k_rm d2).frames + 1 ≤ rm.frames ∧ 8 + (zL + 11) + (k_rm d2).locals ≤ rm.locals)
    (hn : As.length = n) (hst : st = As.reverse ++ .ref a0 :: rest) (hcat : (rest.map fun v => v.category).sum ≤ 8) (d : decode cc pc = .ok (.invokevirtual i, 3)) (kk0 : q.1 = 0 → Rn y cc nL ret rm mc ms D dy q.2 Post (pc + 3) ls (.null :: rest)) (kk1 : ¬ q.1 = 0 → Rn y cc nL ret rm mc ms D dy q.2 Post (pc + 3) ls (.ref (dy (30 + (q.1 - 1))) :: rest)) : Rn y cc nL ret rm mc ms D dy S Post pc ls st := by
  refine r_callV As rest hS w1 w2 w3 w4 w5 hd he hc ha hR (Nat.zero_le _) (Nat.zero_le _) hn hst hcat d ?_
  intro v d1 S1 h
  obtain ⟨h1, h2, h3⟩ := h
  rw [h1, h2, h3]
  show Rn y cc nL ret rm mc ms D dy q.2 Post (pc + 3) ls (va_rf (k_law dy q.1) :: rest)
  by_cases c : q.1 = 0
  · rw [k_law_0 c]; exact kk0 c
  · rw [k_law_1 c]; exact kk1 c
theorem r_callVNc {y : MethodName} {cc : ByteArray} {nL : Nat} {ret : Option FieldType} {rm : Room} {mc ms : Nat} {D : k_D} {dy : Nat → Nat} {S : St} {Post : k_Po} {pc : Nat} {ls : List (Nat × Value)} {st : List Value} {z : MethodName} {host : String} {zc : ByteArray} {zL n i k0 ci a0 d2 : Nat} {zr : Option FieldType} {fs : List Value} {r : vw_C} (As rest : List Value) (q : Nat × St) (hS : Sp z zc zL zr (k_rm d2) D dy S (.ref a0 :: As) (k_Pc dy q)) (w1 : k_in (.methodLinkNest y.cls i z host)) (w2 : k_in (.instanceMethod z)) (w3 : k_in (.selects r.1 z z)) (w4 : k_in (.code z zc zL zr)) (w5 : k_in (.initialized z.cls)) (hd : (z.cls ≠ "java/lang/invoke/MethodHandle" ∧ z.cls ≠ "java/lang/invoke/VarHandle") ∧ (parseMethodDescriptor z.desc).map (fun d => d.parameters.length) = some n) (he : k_cell D dy S k0 = some (.inr (ci, fs))) (hc : vwCl[ci]? = some r) (ha : k_ad D dy k0 = a0) (hR : (k_rm d2).frames + 1 ≤ rm.frames ∧ 8 + (zL + 11) + (k_rm d2).locals ≤ rm.locals)
    (hn : As.length = n) (hst : st = As.reverse ++ .ref a0 :: rest) (hcat : (rest.map fun v => v.category).sum ≤ 8) (d : decode cc pc = .ok (.invokevirtual i, 3)) (kk0 : q.1 = 0 → Rn y cc nL ret rm mc ms D dy q.2 Post (pc + 3) ls (.null :: rest)) (kk1 : ¬ q.1 = 0 → Rn y cc nL ret rm mc ms D dy q.2 Post (pc + 3) ls (.ref (dy (30 + (q.1 - 1))) :: rest)) : Rn y cc nL ret rm mc ms D dy S Post pc ls st := by
  refine r_callVN As rest hS w1 w2 w3 w4 w5 hd he hc ha hR (Nat.zero_le _) (Nat.zero_le _) hn hst hcat d ?_
  intro v d1 S1 h
  obtain ⟨h1, h2, h3⟩ := h
  rw [h1, h2, h3]
  show Rn y cc nL ret rm mc ms D dy q.2 Post (pc + 3) ls (va_rf (k_law dy q.1) :: rest)
  by_cases c : q.1 = 0
  · rw [k_law_0 c]; exact kk0 c
  · rw [k_law_1 c]; exact kk1 c
