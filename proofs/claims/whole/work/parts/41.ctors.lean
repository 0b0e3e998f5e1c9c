theorem q_167 : k_in (.methodLink RX11 1 objectInit) := ⟨List.mem_of_getElem? (i := 167) (by decide +kernel), by decide +kernel⟩
theorem q_168 : k_in (.instanceMethod objectInit) := ⟨List.mem_of_getElem? (i := 168) (by decide +kernel), by decide +kernel⟩
theorem q_169 : k_in (.code objectInit ⟨#[0xb1]⟩ 1 none) := ⟨List.mem_of_getElem? (i := 169) (by decide +kernel), by decide +kernel⟩
theorem q_175 : k_in (.methodLink RX10 3 objectInit) := ⟨List.mem_of_getElem? (i := 175) (by decide +kernel), by decide +kernel⟩
theorem q_181 : k_in (.methodLink RX1 3 objectInit) := ⟨List.mem_of_getElem? (i := 181) (by decide +kernel), by decide +kernel⟩
theorem q_317 : k_in (.methodLink RX9 3 objectInit) := ⟨List.mem_of_getElem? (i := 317) (by decide +kernel), by decide +kernel⟩
theorem q_333 : k_in (.methodLink RX7 3 objectInit) := ⟨List.mem_of_getElem? (i := 333) (by decide +kernel), by decide +kernel⟩
theorem q_368 : k_in (.methodLink RX3 3 objectInit) := ⟨List.mem_of_getElem? (i := 368) (by decide +kernel), by decide +kernel⟩
theorem q_409 : k_in (.methodLink RX4 3 objectInit) := ⟨List.mem_of_getElem? (i := 409) (by decide +kernel), by decide +kernel⟩
theorem q_436 : k_in (.methodLink RX8 3 objectInit) := ⟨List.mem_of_getElem? (i := 436) (by decide +kernel), by decide +kernel⟩
theorem q_463 : k_in (.methodLink RX2 3 objectInit) := ⟨List.mem_of_getElem? (i := 463) (by decide +kernel), by decide +kernel⟩
theorem q_518 : k_in (.methodLink RX0 3 objectInit) := ⟨List.mem_of_getElem? (i := 518) (by decide +kernel), by decide +kernel⟩
theorem q_545 : k_in (.methodLink RX5 3 objectInit) := ⟨List.mem_of_getElem? (i := 545) (by decide +kernel), by decide +kernel⟩
theorem q_564 : k_in (.methodLink RX6 3 objectInit) := ⟨List.mem_of_getElem? (i := 564) (by decide +kernel), by decide +kernel⟩
theorem q_1300 : k_in (.methodLink RX12 1 objectInit) := ⟨List.mem_of_getElem? (i := 1300) (by decide +kernel), by decide +kernel⟩
theorem k_pick {K K' : List (Nat × Nat)} (is : List Nat) (h : is.map (fun i => K[i]?) = K'.map some) : ∀ p ∈ K', p ∈ K := by
  intro p hp
  have h1 : some p ∈ K'.map some := List.mem_map.mpr ⟨p, hp, rfl⟩
  rw [← h] at h1
  obtain ⟨i, -, hi⟩ := List.mem_map.mp h1
  exact List.mem_of_getElem? hi
theorem j_F {y : MethodName} {cc : ByteArray} {nL : Nat} {ret : Option FieldType} {rm : Room} {D : k_D} {p : Program} {l : Launch} {e : Env} {s : State} {m : MethodId} {a : Array Value} {b : List Frame} {me : Method} {c : Code} {A : Nat → Prop} {Q : State → Prop} {mc ms : Nat} {F F2 : Nat → Option va_E} {ad : Nat → Nat} {pc : Nat} {ls : List (Nat × Value)} {st : List Value} (h : ∀ j, F2 j = F j) (k : In y cc nL ret rm D p l e s m a b me c A Q mc ms F2 ad pc ls st) : In y cc nL ret rm D p l e s m a b me c A Q mc ms F ad pc ls st := by
  have e1 : F2 = F := funext h
  rw [← e1]
  exact k
theorem j_lmul {y : MethodName} {cc : ByteArray} {nL : Nat} {ret : Option FieldType} {rm : Room} {D : k_D} {p : Program} {l : Launch} {e : Env} {s : State} {m : MethodId} {a : Array Value} {b : List Frame} {me : Method} {c : Code} {A : Nat → Prop} {Q : State → Prop} {mc ms : Nat} {F : Nat → Option va_E} {ad : Nat → Nat} {pc : Nat} {ls : List (Nat × Value)} {st : List Value} (X : k_X y cc nL ret D p s m me c A) {x w v : Int64} (d : decode cc pc = .ok (.lmul, 1)) (hv : x * w = v) (k : In y cc nL ret rm D p l e s m a b me c A Q mc ms F ad (pc + 1) ls (.long v :: st)) : In y cc nL ret rm D p l e s m a b me c A Q mc ms F ad pc ls (.long w :: .long x :: st) := by
  subst hv
  exact i_lmul X d k
def k_ov : List (Nat × va_E) → (Nat → Option va_E) → Nat → Option va_E
  | [], F, k => F k
  | (i, e) :: L, F, k => if k = i then some e else k_ov L F k
theorem k_ovn {k : Nat} {e : va_E} {L : List (Nat × va_E)} {F : Nat → Option va_E} : ∀ j, j ≠ k → k_ov ((k, e) :: L) F j = k_ov L F j := fun j hj => if_neg hj
theorem k_ovs {k : Nat} {e e' : va_E} {F : Nat → Option va_E} : ∀ {L : List (Nat × va_E)} (p : Nat), L[p]? = some (k, e) → ∀ j, j ≠ k → k_ov (L.set p (k, e')) F j = k_ov L F j
  | [], _, h => by simp at h
  | (i, f) :: L, 0, h => by
    intro j hj
    cases h
    show (if j = k then some e' else k_ov L F j) = (if j = k then some e else k_ov L F j)
    rw [if_neg hj, if_neg hj]
  | (i, f) :: L, p + 1, h => by
    intro j hj
    show (if j = i then some f else k_ov (L.set p (k, e')) F j) = (if j = i then some f else k_ov L F j)
    rw [k_ovs p h j hj]
theorem k_ovq {k : Nat} {e e' : va_E} {F : Nat → Option va_E} {L L' : List (Nat × va_E)} (p : Nat) (h : L[p]? = some (k, e)) (hL : L' = L.set p (k, e')) : ∀ j, j ≠ k → k_ov L' F j = k_ov L F j := by
  subst hL
  exact k_ovs p h
theorem k_ovc {k : Nat} {L : List (Nat × va_E)} {G G' : Nat → Option va_E} (h : ∀ j, j ≠ k → G' j = G j) : ∀ j, j ≠ k → k_ov L G' j = k_ov L G j := by
  intro j hj
  induction L with
  | nil => exact h j hj
  | cons a L ih =>
    show (if j = a.1 then some a.2 else k_ov L G' j) = (if j = a.1 then some a.2 else k_ov L G j)
    rw [ih]
theorem k_adk {K : List (Nat × Nat)} {ad ad' : Nat → Nat} {lo hi : Nat} (hA : ∀ p ∈ K, ad p.1 = p.2) (h : ∀ j, (j < lo ∨ hi < j) → ad' j = ad j) (hk : K.all (fun p => decide (p.1 < lo) || decide (hi < p.1)) = true) : ∀ p ∈ K, ad' p.1 = p.2 := by
  intro p hp
  have := List.all_eq_true.mp hk p hp
  rw [Bool.or_eq_true, decide_eq_true_eq, decide_eq_true_eq] at this
  rw [h p.1 this]
  exact hA p hp
theorem k_adn {K : List (Nat × Nat)} {ad : Nat → Nat} {k1 q : Nat} (hA : ∀ p ∈ K, ad p.1 = p.2) (hk : K.all (fun p => decide (p.1 ≠ k1)) = true) : ∀ p ∈ (k1, q) :: K, k_up ad k1 q p.1 = p.2 := by
  intro p hp
  rcases List.mem_cons.mp hp with h | h
  · subst h
    show (if k1 = k1 then q else _) = q
    rw [if_pos rfl]
  · have := List.all_eq_true.mp hk p h
    rw [decide_eq_true_eq] at this
    show (if p.1 = k1 then q else ad p.1) = p.2
    rw [if_neg this]
    exact hA p h
theorem k_out {ad ad' ad'' : Nat → Nat} {lo hi lo' hi' : Nat} (h : ∀ j, (j < lo ∨ hi < j) → ad' j = ad j) (h' : ∀ j, (j < lo' ∨ hi' < j) → ad'' j = ad' j) (h1 : lo ≤ lo') (h2 : hi' ≤ hi) : ∀ j, (j < lo ∨ hi < j) → ad'' j = ad j := fun j hj => (h' j (by omega)).trans (h j hj)
theorem k_outn {ad ad' : Nat → Nat} {lo hi k1 q : Nat} (h : ∀ j, (j < lo ∨ hi < j) → ad' j = ad j) (h1 : lo ≤ k1) (h2 : k1 ≤ hi) : ∀ j, (j < lo ∨ hi < j) → k_up ad' k1 q j = ad j := fun j hj => by
  show (if j = k1 then q else ad' j) = ad j
  rw [if_neg (by omega)]
  exact h j hj
set_option maxRecDepth 100000 in
set_option maxHeartbeats 4000000 in
theorem c_X1_init_2 {D : k_D} {F : Nat → Option va_E} {ad : Nat → Nat} {a0 : Nat} (ha0 : ad 2 = a0) (hF0 : F 2 = some (.inr (1, [.null, .null, .null, .null, .null, .int 0]))) (hf : ∀ j, 3 ≤ j → j ≤ 7 → j ≠ 2 → F j = none) : Sf yX1_init cX1_init 1 none { frames := 1, cells := 5, slots := 80, locals := 60 } D F ad [.ref a0] (fun v F' ad' => v = none ∧ (∀ j, (j < 3 ∨ 7 < j) → ad' j = ad j) ∧ ∃ q3 q4 q5 q6 q7 : Nat, (∀ p ∈ ([(3, q3), (4, q4), (5, q5), (6, q6), (7, q7)] : List (Nat × Nat)), ad' p.1 = p.2) ∧ F' = k_ov [(7, .inl (D.2.1 0, (16, .inl (fun _ => 0)))), (6, .inl (D.2.1 0, (16, .inl (fun _ => 0)))), (5, .inl (D.2.1 0, (16, .inl (fun _ => 0)))), (4, .inl (D.2.1 0, (16, .inl (fun _ => 0)))), (2, .inr (1, [.ref q3, .ref q4, .ref q5, .ref q6, .ref q7, .int 0])), (3, .inl (D.2.1 0, (16, .inl (fun _ => 0))))] F) := by
  refine Sf.of (by decide +kernel) (Nat.le_of_ble_eq_true rfl) ?_
  intro p l e s m a b me c A X hm
  have hin : me.name = "<init>" := hm
  have hA0 : ∀ p ∈ ([(2, a0)] : List (Nat × Nat)), ad p.1 = p.2 := by
    intro p hp
    simp only [List.mem_cons, List.not_mem_nil, or_false] at hp
    rcases hp with rfl
    · exact ha0
  have ho0 : ∀ j, (j < 3 ∨ 7 < j) → ad j = ad j := fun j _ => rfl
  refine i_aload_n X 0 dX1_init_0 rfl rfl ?_
  refine i_objInit X q_181 q_168 q_169 ⟨Nat.le_of_ble_eq_true rfl, Nat.le_of_ble_eq_true rfl⟩ dX1_init_1 ?_
  refine i_aload_n X 0 dX1_init_4 rfl rfl ?_
  refine i_bipush X (v := 16) dX1_init_5 rfl ?_
  refine i_newa X 0 (at_ := .int) (a0 := (16, .inl (fun _ => 0))) rfl rfl (fun h => h) 3 (hf 3 (by decide) (by decide) (by decide)) (fun _ => rfl) q_233 (by decide) rfl (Nat.le_of_ble_eq_true rfl) (Nat.le_of_ble_eq_true rfl) (Nat.le_of_ble_eq_true rfl) dX1_init_7 (fun q3 => ?_)
  have hA1 := k_adn (k1 := 3) (q := q3) hA0 rfl
  have ho1 := k_outn (k1 := 3) (q := q3) ho0 (by decide) (by decide)
  refine j_F (F2 := (k_ov [(3, .inl (D.2.1 0, (16, .inl (fun _ => 0))))] F)) (fun j => rfl) ?_
  refine i_putF X hin rfl (f := 0) (F := (k_ov [(3, .inl (D.2.1 0, (16, .inl (fun _ => 0))))] F)) (F' := (k_ov [(2, .inr (1, [.ref q3, .null, .null, .null, .null, .int 0])), (3, .inl (D.2.1 0, (16, .inl (fun _ => 0))))] F)) kc1 2 hF0 (by decide) (hA1 _ (List.mem_of_getElem? (i := 1) rfl)) rfl k_ovn rfl rfl rfl (Nat.le_of_ble_eq_true rfl) q_182 dX1_init_9 ?_
  refine i_aload_n X 0 dX1_init_12 rfl rfl ?_
  refine i_bipush X (v := 16) dX1_init_13 rfl ?_
  refine i_newa X 0 (at_ := .int) (a0 := (16, .inl (fun _ => 0))) rfl rfl (fun h => h) 4 (hf 4 (by decide) (by decide) (by decide)) (fun _ => rfl) q_233 (by decide) rfl (Nat.le_of_ble_eq_true rfl) (Nat.le_of_ble_eq_true rfl) (Nat.le_of_ble_eq_true rfl) dX1_init_15 (fun q4 => ?_)
  have hA2 := k_adn (k1 := 4) (q := q4) hA1 rfl
  have ho2 := k_outn (k1 := 4) (q := q4) ho1 (by decide) (by decide)
  refine j_F (F2 := (k_ov [(4, .inl (D.2.1 0, (16, .inl (fun _ => 0)))), (2, .inr (1, [.ref q3, .null, .null, .null, .null, .int 0])), (3, .inl (D.2.1 0, (16, .inl (fun _ => 0))))] F)) (fun j => rfl) ?_
  refine i_putF X hin rfl (f := 1) (F := (k_ov [(4, .inl (D.2.1 0, (16, .inl (fun _ => 0)))), (2, .inr (1, [.ref q3, .null, .null, .null, .null, .int 0])), (3, .inl (D.2.1 0, (16, .inl (fun _ => 0))))] F)) (F' := (k_ov [(4, .inl (D.2.1 0, (16, .inl (fun _ => 0)))), (2, .inr (1, [.ref q3, .ref q4, .null, .null, .null, .int 0])), (3, .inl (D.2.1 0, (16, .inl (fun _ => 0))))] F)) kc1 2 rfl (by decide) (hA2 _ (List.mem_of_getElem? (i := 2) rfl)) rfl (k_ovq 1 rfl rfl) rfl rfl rfl (Nat.le_of_ble_eq_true rfl) q_188 dX1_init_17 ?_
  refine i_aload_n X 0 dX1_init_20 rfl rfl ?_
  refine i_bipush X (v := 16) dX1_init_21 rfl ?_
  refine i_newa X 0 (at_ := .int) (a0 := (16, .inl (fun _ => 0))) rfl rfl (fun h => h) 5 (hf 5 (by decide) (by decide) (by decide)) (fun _ => rfl) q_233 (by decide) rfl (Nat.le_of_ble_eq_true rfl) (Nat.le_of_ble_eq_true rfl) (Nat.le_of_ble_eq_true rfl) dX1_init_23 (fun q5 => ?_)
  have hA3 := k_adn (k1 := 5) (q := q5) hA2 rfl
  have ho3 := k_outn (k1 := 5) (q := q5) ho2 (by decide) (by decide)
  refine j_F (F2 := (k_ov [(5, .inl (D.2.1 0, (16, .inl (fun _ => 0)))), (4, .inl (D.2.1 0, (16, .inl (fun _ => 0)))), (2, .inr (1, [.ref q3, .ref q4, .null, .null, .null, .int 0])), (3, .inl (D.2.1 0, (16, .inl (fun _ => 0))))] F)) (fun j => rfl) ?_
  refine i_putF X hin rfl (f := 2) (F := (k_ov [(5, .inl (D.2.1 0, (16, .inl (fun _ => 0)))), (4, .inl (D.2.1 0, (16, .inl (fun _ => 0)))), (2, .inr (1, [.ref q3, .ref q4, .null, .null, .null, .int 0])), (3, .inl (D.2.1 0, (16, .inl (fun _ => 0))))] F)) (F' := (k_ov [(5, .inl (D.2.1 0, (16, .inl (fun _ => 0)))), (4, .inl (D.2.1 0, (16, .inl (fun _ => 0)))), (2, .inr (1, [.ref q3, .ref q4, .ref q5, .null, .null, .int 0])), (3, .inl (D.2.1 0, (16, .inl (fun _ => 0))))] F)) kc1 2 rfl (by decide) (hA3 _ (List.mem_of_getElem? (i := 3) rfl)) rfl (k_ovq 2 rfl rfl) rfl rfl rfl (Nat.le_of_ble_eq_true rfl) q_195 dX1_init_25 ?_
  refine i_aload_n X 0 dX1_init_28 rfl rfl ?_
  refine i_bipush X (v := 16) dX1_init_29 rfl ?_
  refine i_newa X 0 (at_ := .int) (a0 := (16, .inl (fun _ => 0))) rfl rfl (fun h => h) 6 (hf 6 (by decide) (by decide) (by decide)) (fun _ => rfl) q_233 (by decide) rfl (Nat.le_of_ble_eq_true rfl) (Nat.le_of_ble_eq_true rfl) (Nat.le_of_ble_eq_true rfl) dX1_init_31 (fun q6 => ?_)
  have hA4 := k_adn (k1 := 6) (q := q6) hA3 rfl
  have ho4 := k_outn (k1 := 6) (q := q6) ho3 (by decide) (by decide)
  refine j_F (F2 := (k_ov [(6, .inl (D.2.1 0, (16, .inl (fun _ => 0)))), (5, .inl (D.2.1 0, (16, .inl (fun _ => 0)))), (4, .inl (D.2.1 0, (16, .inl (fun _ => 0)))), (2, .inr (1, [.ref q3, .ref q4, .ref q5, .null, .null, .int 0])), (3, .inl (D.2.1 0, (16, .inl (fun _ => 0))))] F)) (fun j => rfl) ?_
  refine i_putF X hin rfl (f := 3) (F := (k_ov [(6, .inl (D.2.1 0, (16, .inl (fun _ => 0)))), (5, .inl (D.2.1 0, (16, .inl (fun _ => 0)))), (4, .inl (D.2.1 0, (16, .inl (fun _ => 0)))), (2, .inr (1, [.ref q3, .ref q4, .ref q5, .null, .null, .int 0])), (3, .inl (D.2.1 0, (16, .inl (fun _ => 0))))] F)) (F' := (k_ov [(6, .inl (D.2.1 0, (16, .inl (fun _ => 0)))), (5, .inl (D.2.1 0, (16, .inl (fun _ => 0)))), (4, .inl (D.2.1 0, (16, .inl (fun _ => 0)))), (2, .inr (1, [.ref q3, .ref q4, .ref q5, .ref q6, .null, .int 0])), (3, .inl (D.2.1 0, (16, .inl (fun _ => 0))))] F)) kc1 2 rfl (by decide) (hA4 _ (List.mem_of_getElem? (i := 4) rfl)) rfl (k_ovq 3 rfl rfl) rfl rfl rfl (Nat.le_of_ble_eq_true rfl) q_201 dX1_init_33 ?_
  refine i_aload_n X 0 dX1_init_36 rfl rfl ?_
  refine i_bipush X (v := 16) dX1_init_37 rfl ?_
  refine i_newa X 0 (at_ := .int) (a0 := (16, .inl (fun _ => 0))) rfl rfl (fun h => h) 7 (hf 7 (by decide) (by decide) (by decide)) (fun _ => rfl) q_233 (by decide) rfl (Nat.le_of_ble_eq_true rfl) (Nat.le_of_ble_eq_true rfl) (Nat.le_of_ble_eq_true rfl) dX1_init_39 (fun q7 => ?_)
  have hA5 := k_adn (k1 := 7) (q := q7) hA4 rfl
  have ho5 := k_outn (k1 := 7) (q := q7) ho4 (by decide) (by decide)
  refine j_F (F2 := (k_ov [(7, .inl (D.2.1 0, (16, .inl (fun _ => 0)))), (6, .inl (D.2.1 0, (16, .inl (fun _ => 0)))), (5, .inl (D.2.1 0, (16, .inl (fun _ => 0)))), (4, .inl (D.2.1 0, (16, .inl (fun _ => 0)))), (2, .inr (1, [.ref q3, .ref q4, .ref q5, .ref q6, .null, .int 0])), (3, .inl (D.2.1 0, (16, .inl (fun _ => 0))))] F)) (fun j => rfl) ?_
  refine i_putF X hin rfl (f := 4) (F := (k_ov [(7, .inl (D.2.1 0, (16, .inl (fun _ => 0)))), (6, .inl (D.2.1 0, (16, .inl (fun _ => 0)))), (5, .inl (D.2.1 0, (16, .inl (fun _ => 0)))), (4, .inl (D.2.1 0, (16, .inl (fun _ => 0)))), (2, .inr (1, [.ref q3, .ref q4, .ref q5, .ref q6, .null, .int 0])), (3, .inl (D.2.1 0, (16, .inl (fun _ => 0))))] F)) (F' := (k_ov [(7, .inl (D.2.1 0, (16, .inl (fun _ => 0)))), (6, .inl (D.2.1 0, (16, .inl (fun _ => 0)))), (5, .inl (D.2.1 0, (16, .inl (fun _ => 0)))), (4, .inl (D.2.1 0, (16, .inl (fun _ => 0)))), (2, .inr (1, [.ref q3, .ref q4, .ref q5, .ref q6, .ref q7, .int 0])), (3, .inl (D.2.1 0, (16, .inl (fun _ => 0))))] F)) kc1 2 rfl (by decide) (hA5 _ (List.mem_of_getElem? (i := 5) rfl)) rfl (k_ovq 4 rfl rfl) rfl rfl rfl (Nat.le_of_ble_eq_true rfl) q_209 dX1_init_41 ?_
  refine i_aload_n X 0 dX1_init_44 rfl rfl ?_
  refine i_iconst X (v := 0) dX1_init_45 rfl ?_
  refine i_put X (f := 5) (F := (k_ov [(7, .inl (D.2.1 0, (16, .inl (fun _ => 0)))), (6, .inl (D.2.1 0, (16, .inl (fun _ => 0)))), (5, .inl (D.2.1 0, (16, .inl (fun _ => 0)))), (4, .inl (D.2.1 0, (16, .inl (fun _ => 0)))), (2, .inr (1, [.ref q3, .ref q4, .ref q5, .ref q6, .ref q7, .int 0])), (3, .inl (D.2.1 0, (16, .inl (fun _ => 0))))] F)) (F' := (k_ov [(7, .inl (D.2.1 0, (16, .inl (fun _ => 0)))), (6, .inl (D.2.1 0, (16, .inl (fun _ => 0)))), (5, .inl (D.2.1 0, (16, .inl (fun _ => 0)))), (4, .inl (D.2.1 0, (16, .inl (fun _ => 0)))), (2, .inr (1, [.ref q3, .ref q4, .ref q5, .ref q6, .ref q7, .int 0])), (3, .inl (D.2.1 0, (16, .inl (fun _ => 0))))] F)) kc1 2 rfl (by decide) (hA5 _ (List.mem_of_getElem? (i := 5) rfl)) rfl (k_ovq 4 rfl rfl) rfl rfl rfl (Nat.le_of_ble_eq_true rfl) q_211 dX1_init_46 ?_
  have hE : ∀ p ∈ ([(3, q3), (4, q4), (5, q5), (6, q6), (7, q7)] : List (Nat × Nat)), (k_up (k_up (k_up (k_up (k_up ad 3 q3) 4 q4) 5 q5) 6 q6) 7 q7) p.1 = p.2 := fun p hp => hA5 p (k_pick [4, 3, 2, 1, 0] rfl p hp)
  exact i_vret X rfl dX1_init_49 ⟨rfl, ho5, q3, q4, q5, q6, q7, hE, rfl⟩
set_option maxRecDepth 100000 in
set_option maxHeartbeats 4000000 in
theorem c_X10_init_0 {D : k_D} {F : Nat → Option va_E} {ad : Nat → Nat} {a0 : Nat} (ha0 : ad 0 = a0) (hF0 : F 0 = some (.inr (10, [.null, .int 0, .null, .int 0, .null, .int 0, .int 0, .null, .null, .int 0, .null, .null, .int 0, .null, .null, .int 0]))) (hf : ∀ j, 1 ≤ j → j ≤ 14 → j ≠ 0 → F j = none) : Sf yX10_init cX10_init 1 none { frames := 2, cells := 14, slots := 158, locals := 120 } D F ad [.ref a0] (fun v F' ad' => v = none ∧ (∀ j, (j < 1 ∨ 14 < j) → ad' j = ad j) ∧ ∃ q1 q2 q3 q4 q5 q6 q7 q8 q9 q10 q11 q12 q13 q14 : Nat, (∀ p ∈ ([(1, q1), (2, q2), (3, q3), (4, q4), (5, q5), (6, q6), (7, q7), (8, q8), (9, q9), (10, q10), (11, q11), (12, q12), (13, q13), (14, q14)] : List (Nat × Nat)), ad' p.1 = p.2) ∧ F' = k_ov [(14, .inl (D.2.1 0, (12, .inl (fun _ => 0)))), (13, .inl (D.2.1 0, (12, .inl (fun _ => 0)))), (12, .inl (D.2.1 0, (10, .inl (fun _ => 0)))), (11, .inl (D.2.1 0, (10, .inl (fun _ => 0)))), (10, .inl (D.2.1 0, (8, .inl (fun _ => 0)))), (9, .inl (D.2.1 0, (8, .inl (fun _ => 0)))), (8, .inl (D.2.1 4, 6, .inr (.inr (.inr (.inr (fun _ => none)))))), (7, .inl (D.2.1 0, (16, .inl (fun _ => 0)))), (6, .inl (D.2.1 0, (16, .inl (fun _ => 0)))), (5, .inl (D.2.1 0, (16, .inl (fun _ => 0)))), (4, .inl (D.2.1 0, (16, .inl (fun _ => 0)))), (2, .inr (1, [.ref q3, .ref q4, .ref q5, .ref q6, .ref q7, .int 0])), (3, .inl (D.2.1 0, (16, .inl (fun _ => 0)))), (2, .inr (1, [.null, .null, .null, .null, .null, .int 0])), (0, .inr (10, [.ref q1, .int 0, .ref q2, .int 0, .ref q8, .int 0, .int (-1), .ref q9, .ref q10, .int 0, .ref q11, .ref q12, .int 0, .ref q13, .ref q14, .int 0])), (1, .inl (D.2.1 0, (6, .inl (fun _ => 0))))] F) := by
  refine Sf.of (by decide +kernel) (Nat.le_of_ble_eq_true rfl) ?_
  intro p l e s m a b me c A X hm
  have hin : me.name = "<init>" := hm
  have hA0 : ∀ p ∈ ([(0, a0)] : List (Nat × Nat)), ad p.1 = p.2 := by
    intro p hp
    simp only [List.mem_cons, List.not_mem_nil, or_false] at hp
    rcases hp with rfl
    · exact ha0
  have ho0 : ∀ j, (j < 1 ∨ 14 < j) → ad j = ad j := fun j _ => rfl
  refine i_aload_n X 0 dX10_init_0 rfl rfl ?_
  refine i_objInit X q_175 q_168 q_169 ⟨Nat.le_of_ble_eq_true rfl, Nat.le_of_ble_eq_true rfl⟩ dX10_init_1 ?_
  refine i_aload_n X 0 dX10_init_4 rfl rfl ?_
  refine i_bipush X (v := 6) dX10_init_5 rfl ?_
  refine i_newa X 0 (at_ := .int) (a0 := (6, .inl (fun _ => 0))) rfl rfl (fun h => h) 1 (hf 1 (by decide) (by decide) (by decide)) (fun _ => rfl) q_233 (by decide) rfl (Nat.le_of_ble_eq_true rfl) (Nat.le_of_ble_eq_true rfl) (Nat.le_of_ble_eq_true rfl) dX10_init_7 (fun q1 => ?_)
  have hA1 := k_adn (k1 := 1) (q := q1) hA0 rfl
  have ho1 := k_outn (k1 := 1) (q := q1) ho0 (by decide) (by decide)
  refine j_F (F2 := (k_ov [(1, .inl (D.2.1 0, (6, .inl (fun _ => 0))))] F)) (fun j => rfl) ?_
  refine i_putF X hin rfl (f := 0) (F := (k_ov [(1, .inl (D.2.1 0, (6, .inl (fun _ => 0))))] F)) (F' := (k_ov [(0, .inr (10, [.ref q1, .int 0, .null, .int 0, .null, .int 0, .int 0, .null, .null, .int 0, .null, .null, .int 0, .null, .null, .int 0])), (1, .inl (D.2.1 0, (6, .inl (fun _ => 0))))] F)) kc10 0 hF0 (by decide) (hA1 _ (List.mem_of_getElem? (i := 1) rfl)) rfl k_ovn rfl rfl rfl (Nat.le_of_ble_eq_true rfl) q_236 dX10_init_9 ?_
  refine i_aload_n X 0 dX10_init_12 rfl rfl ?_
  refine i_iconst X (v := 0) dX10_init_13 rfl ?_
  refine i_put X (f := 1) (F := (k_ov [(0, .inr (10, [.ref q1, .int 0, .null, .int 0, .null, .int 0, .int 0, .null, .null, .int 0, .null, .null, .int 0, .null, .null, .int 0])), (1, .inl (D.2.1 0, (6, .inl (fun _ => 0))))] F)) (F' := (k_ov [(0, .inr (10, [.ref q1, .int 0, .null, .int 0, .null, .int 0, .int 0, .null, .null, .int 0, .null, .null, .int 0, .null, .null, .int 0])), (1, .inl (D.2.1 0, (6, .inl (fun _ => 0))))] F)) kc10 0 rfl (by decide) (hA1 _ (List.mem_of_getElem? (i := 1) rfl)) rfl (k_ovq 0 rfl rfl) rfl rfl rfl (Nat.le_of_ble_eq_true rfl) q_238 dX10_init_14 ?_
  refine i_aload_n X 0 dX10_init_17 rfl rfl ?_
  refine i_new X kc1 (fs := [.null, .null, .null, .null, .null, .int 0]) 2 (hf 2 (by decide) (by decide) (by decide)) (fun j hj => by revert j hj; decide) q_176 q_177 q_143 (Nat.le_of_ble_eq_true rfl) (Nat.le_of_ble_eq_true rfl) dX10_init_18 (fun q2 => ?_)
  have hA2 := k_adn (k1 := 2) (q := q2) hA1 rfl
  have ho2 := k_outn (k1 := 2) (q := q2) ho1 (by decide) (by decide)
  refine j_F (F2 := (k_ov [(2, .inr (1, [.null, .null, .null, .null, .null, .int 0])), (0, .inr (10, [.ref q1, .int 0, .null, .int 0, .null, .int 0, .int 0, .null, .null, .int 0, .null, .null, .int 0, .null, .null, .int 0])), (1, .inl (D.2.1 0, (6, .inl (fun _ => 0))))] F)) (fun j => rfl) ?_
  refine i_dup X dX10_init_21 rfl ?_
  refine i_callIN X [] [.ref q2, .ref a0] (c_X1_init_2 (hA2 _ (List.mem_of_getElem? (i := 0) rfl)) rfl (fun j h1 h2 h3 => (show (k_ov [(2, .inr (1, [.null, .null, .null, .null, .null, .int 0])), (0, .inr (10, [.ref q1, .int 0, .null, .int 0, .null, .int 0, .int 0, .null, .null, .int 0, .null, .null, .int 0, .null, .null, .int 0])), (1, .inl (D.2.1 0, (6, .inl (fun _ => 0))))] F) j = none from by
    have e := hf j (by omega) (by omega) (by omega)
    simp only [k_ov]
    repeat rw [if_neg (by omega)]
    exact e))) q_178 q_179 q_180 q_143 rfl hd_X1_init ⟨Nat.le_of_ble_eq_true rfl, Nat.le_of_ble_eq_true rfl⟩ (Nat.le_of_ble_eq_true rfl) (Nat.le_of_ble_eq_true rfl) rfl rfl (Nat.le_of_ble_eq_true rfl) dX10_init_22 ?_
  rintro v F1 ad1 ⟨rfl, hx, q3, q4, q5, q6, q7, hy, rfl⟩
  have hB := k_adk hA2 hx rfl
  have hA3 : ∀ p ∈ ([(3, q3), (4, q4), (5, q5), (6, q6), (7, q7), (2, q2), (1, q1), (0, a0)] : List (Nat × Nat)), ad1 p.1 = p.2 := fun p hp => (List.mem_append.mp (show p ∈ [(3, q3), (4, q4), (5, q5), (6, q6), (7, q7)] ++ _ from hp)).elim (hy p) (hB p)
  have ho3 := k_out ho2 hx (by decide) (by decide)
  refine i_putF X hin rfl (f := 2) (F := (k_ov [(7, .inl (D.2.1 0, (16, .inl (fun _ => 0)))), (6, .inl (D.2.1 0, (16, .inl (fun _ => 0)))), (5, .inl (D.2.1 0, (16, .inl (fun _ => 0)))), (4, .inl (D.2.1 0, (16, .inl (fun _ => 0)))), (2, .inr (1, [.ref q3, .ref q4, .ref q5, .ref q6, .ref q7, .int 0])), (3, .inl (D.2.1 0, (16, .inl (fun _ => 0))))] (k_ov [(2, .inr (1, [.null, .null, .null, .null, .null, .int 0])), (0, .inr (10, [.ref q1, .int 0, .null, .int 0, .null, .int 0, .int 0, .null, .null, .int 0, .null, .null, .int 0, .null, .null, .int 0])), (1, .inl (D.2.1 0, (6, .inl (fun _ => 0))))] F))) (F' := (k_ov [(7, .inl (D.2.1 0, (16, .inl (fun _ => 0)))), (6, .inl (D.2.1 0, (16, .inl (fun _ => 0)))), (5, .inl (D.2.1 0, (16, .inl (fun _ => 0)))), (4, .inl (D.2.1 0, (16, .inl (fun _ => 0)))), (2, .inr (1, [.ref q3, .ref q4, .ref q5, .ref q6, .ref q7, .int 0])), (3, .inl (D.2.1 0, (16, .inl (fun _ => 0))))] (k_ov [(2, .inr (1, [.null, .null, .null, .null, .null, .int 0])), (0, .inr (10, [.ref q1, .int 0, .ref q2, .int 0, .null, .int 0, .int 0, .null, .null, .int 0, .null, .null, .int 0, .null, .null, .int 0])), (1, .inl (D.2.1 0, (6, .inl (fun _ => 0))))] F))) kc10 0 rfl (by decide) (hA3 _ (List.mem_of_getElem? (i := 7) rfl)) rfl (k_ovc (k_ovq 1 rfl rfl)) rfl rfl rfl (Nat.le_of_ble_eq_true rfl) q_241 dX10_init_25 ?_
  refine i_aload_n X 0 dX10_init_28 rfl rfl ?_
  refine i_iconst X (v := 0) dX10_init_29 rfl ?_
  refine i_put X (f := 3) (F := (k_ov [(7, .inl (D.2.1 0, (16, .inl (fun _ => 0)))), (6, .inl (D.2.1 0, (16, .inl (fun _ => 0)))), (5, .inl (D.2.1 0, (16, .inl (fun _ => 0)))), (4, .inl (D.2.1 0, (16, .inl (fun _ => 0)))), (2, .inr (1, [.ref q3, .ref q4, .ref q5, .ref q6, .ref q7, .int 0])), (3, .inl (D.2.1 0, (16, .inl (fun _ => 0))))] (k_ov [(2, .inr (1, [.null, .null, .null, .null, .null, .int 0])), (0, .inr (10, [.ref q1, .int 0, .ref q2, .int 0, .null, .int 0, .int 0, .null, .null, .int 0, .null, .null, .int 0, .null, .null, .int 0])), (1, .inl (D.2.1 0, (6, .inl (fun _ => 0))))] F))) (F' := (k_ov [(7, .inl (D.2.1 0, (16, .inl (fun _ => 0)))), (6, .inl (D.2.1 0, (16, .inl (fun _ => 0)))), (5, .inl (D.2.1 0, (16, .inl (fun _ => 0)))), (4, .inl (D.2.1 0, (16, .inl (fun _ => 0)))), (2, .inr (1, [.ref q3, .ref q4, .ref q5, .ref q6, .ref q7, .int 0])), (3, .inl (D.2.1 0, (16, .inl (fun _ => 0))))] (k_ov [(2, .inr (1, [.null, .null, .null, .null, .null, .int 0])), (0, .inr (10, [.ref q1, .int 0, .ref q2, .int 0, .null, .int 0, .int 0, .null, .null, .int 0, .null, .null, .int 0, .null, .null, .int 0])), (1, .inl (D.2.1 0, (6, .inl (fun _ => 0))))] F))) kc10 0 rfl (by decide) (hA3 _ (List.mem_of_getElem? (i := 7) rfl)) rfl (k_ovc (k_ovq 1 rfl rfl)) rfl rfl rfl (Nat.le_of_ble_eq_true rfl) q_249 dX10_init_30 ?_
  refine i_aload_n X 0 dX10_init_33 rfl rfl ?_
  refine i_bipush X (v := 6) dX10_init_34 rfl ?_
  refine i_anewI X 8 (hf 8 (by decide) (by decide) (by decide)) q_234 (by decide) rfl (Nat.le_of_ble_eq_true rfl) (Nat.le_of_ble_eq_true rfl) (Nat.le_of_ble_eq_true rfl) dX10_init_36 (fun q8 => ?_)
  have hA4 := k_adn (k1 := 8) (q := q8) hA3 rfl
  have ho4 := k_outn (k1 := 8) (q := q8) ho3 (by decide) (by decide)
  refine j_F (F2 := (k_ov [(8, .inl (D.2.1 4, 6, .inr (.inr (.inr (.inr (fun _ => none)))))), (7, .inl (D.2.1 0, (16, .inl (fun _ => 0)))), (6, .inl (D.2.1 0, (16, .inl (fun _ => 0)))), (5, .inl (D.2.1 0, (16, .inl (fun _ => 0)))), (4, .inl (D.2.1 0, (16, .inl (fun _ => 0)))), (2, .inr (1, [.ref q3, .ref q4, .ref q5, .ref q6, .ref q7, .int 0])), (3, .inl (D.2.1 0, (16, .inl (fun _ => 0))))] (k_ov [(2, .inr (1, [.null, .null, .null, .null, .null, .int 0])), (0, .inr (10, [.ref q1, .int 0, .ref q2, .int 0, .null, .int 0, .int 0, .null, .null, .int 0, .null, .null, .int 0, .null, .null, .int 0])), (1, .inl (D.2.1 0, (6, .inl (fun _ => 0))))] F))) (fun j => rfl) ?_
  refine i_putF X hin rfl (f := 4) (F := (k_ov [(8, .inl (D.2.1 4, 6, .inr (.inr (.inr (.inr (fun _ => none)))))), (7, .inl (D.2.1 0, (16, .inl (fun _ => 0)))), (6, .inl (D.2.1 0, (16, .inl (fun _ => 0)))), (5, .inl (D.2.1 0, (16, .inl (fun _ => 0)))), (4, .inl (D.2.1 0, (16, .inl (fun _ => 0)))), (2, .inr (1, [.ref q3, .ref q4, .ref q5, .ref q6, .ref q7, .int 0])), (3, .inl (D.2.1 0, (16, .inl (fun _ => 0))))] (k_ov [(2, .inr (1, [.null, .null, .null, .null, .null, .int 0])), (0, .inr (10, [.ref q1, .int 0, .ref q2, .int 0, .null, .int 0, .int 0, .null, .null, .int 0, .null, .null, .int 0, .null, .null, .int 0])), (1, .inl (D.2.1 0, (6, .inl (fun _ => 0))))] F))) (F' := (k_ov [(8, .inl (D.2.1 4, 6, .inr (.inr (.inr (.inr (fun _ => none)))))), (7, .inl (D.2.1 0, (16, .inl (fun _ => 0)))), (6, .inl (D.2.1 0, (16, .inl (fun _ => 0)))), (5, .inl (D.2.1 0, (16, .inl (fun _ => 0)))), (4, .inl (D.2.1 0, (16, .inl (fun _ => 0)))), (2, .inr (1, [.ref q3, .ref q4, .ref q5, .ref q6, .ref q7, .int 0])), (3, .inl (D.2.1 0, (16, .inl (fun _ => 0))))] (k_ov [(2, .inr (1, [.null, .null, .null, .null, .null, .int 0])), (0, .inr (10, [.ref q1, .int 0, .ref q2, .int 0, .ref q8, .int 0, .int 0, .null, .null, .int 0, .null, .null, .int 0, .null, .null, .int 0])), (1, .inl (D.2.1 0, (6, .inl (fun _ => 0))))] F))) kc10 0 rfl (by decide) (hA4 _ (List.mem_of_getElem? (i := 8) rfl)) rfl (k_ovc (k_ovq 1 rfl rfl)) rfl rfl rfl (Nat.le_of_ble_eq_true rfl) q_252 dX10_init_39 ?_
  refine i_aload_n X 0 dX10_init_42 rfl rfl ?_
  refine i_iconst X (v := 0) dX10_init_43 rfl ?_
  refine i_put X (f := 5) (F := (k_ov [(8, .inl (D.2.1 4, 6, .inr (.inr (.inr (.inr (fun _ => none)))))), (7, .inl (D.2.1 0, (16, .inl (fun _ => 0)))), (6, .inl (D.2.1 0, (16, .inl (fun _ => 0)))), (5, .inl (D.2.1 0, (16, .inl (fun _ => 0)))), (4, .inl (D.2.1 0, (16, .inl (fun _ => 0)))), (2, .inr (1, [.ref q3, .ref q4, .ref q5, .ref q6, .ref q7, .int 0])), (3, .inl (D.2.1 0, (16, .inl (fun _ => 0))))] (k_ov [(2, .inr (1, [.null, .null, .null, .null, .null, .int 0])), (0, .inr (10, [.ref q1, .int 0, .ref q2, .int 0, .ref q8, .int 0, .int 0, .null, .null, .int 0, .null, .null, .int 0, .null, .null, .int 0])), (1, .inl (D.2.1 0, (6, .inl (fun _ => 0))))] F))) (F' := (k_ov [(8, .inl (D.2.1 4, 6, .inr (.inr (.inr (.inr (fun _ => none)))))), (7, .inl (D.2.1 0, (16, .inl (fun _ => 0)))), (6, .inl (D.2.1 0, (16, .inl (fun _ => 0)))), (5, .inl (D.2.1 0, (16, .inl (fun _ => 0)))), (4, .inl (D.2.1 0, (16, .inl (fun _ => 0)))), (2, .inr (1, [.ref q3, .ref q4, .ref q5, .ref q6, .ref q7, .int 0])), (3, .inl (D.2.1 0, (16, .inl (fun _ => 0))))] (k_ov [(2, .inr (1, [.null, .null, .null, .null, .null, .int 0])), (0, .inr (10, [.ref q1, .int 0, .ref q2, .int 0, .ref q8, .int 0, .int 0, .null, .null, .int 0, .null, .null, .int 0, .null, .null, .int 0])), (1, .inl (D.2.1 0, (6, .inl (fun _ => 0))))] F))) kc10 0 rfl (by decide) (hA4 _ (List.mem_of_getElem? (i := 8) rfl)) rfl (k_ovc (k_ovq 1 rfl rfl)) rfl rfl rfl (Nat.le_of_ble_eq_true rfl) q_253 dX10_init_44 ?_
  refine i_aload_n X 0 dX10_init_47 rfl rfl ?_
  refine i_iconst X (v := -1) dX10_init_48 rfl ?_
  refine i_put X (f := 6) (F := (k_ov [(8, .inl (D.2.1 4, 6, .inr (.inr (.inr (.inr (fun _ => none)))))), (7, .inl (D.2.1 0, (16, .inl (fun _ => 0)))), (6, .inl (D.2.1 0, (16, .inl (fun _ => 0)))), (5, .inl (D.2.1 0, (16, .inl (fun _ => 0)))), (4, .inl (D.2.1 0, (16, .inl (fun _ => 0)))), (2, .inr (1, [.ref q3, .ref q4, .ref q5, .ref q6, .ref q7, .int 0])), (3, .inl (D.2.1 0, (16, .inl (fun _ => 0))))] (k_ov [(2, .inr (1, [.null, .null, .null, .null, .null, .int 0])), (0, .inr (10, [.ref q1, .int 0, .ref q2, .int 0, .ref q8, .int 0, .int 0, .null, .null, .int 0, .null, .null, .int 0, .null, .null, .int 0])), (1, .inl (D.2.1 0, (6, .inl (fun _ => 0))))] F))) (F' := (k_ov [(8, .inl (D.2.1 4, 6, .inr (.inr (.inr (.inr (fun _ => none)))))), (7, .inl (D.2.1 0, (16, .inl (fun _ => 0)))), (6, .inl (D.2.1 0, (16, .inl (fun _ => 0)))), (5, .inl (D.2.1 0, (16, .inl (fun _ => 0)))), (4, .inl (D.2.1 0, (16, .inl (fun _ => 0)))), (2, .inr (1, [.ref q3, .ref q4, .ref q5, .ref q6, .ref q7, .int 0])), (3, .inl (D.2.1 0, (16, .inl (fun _ => 0))))] (k_ov [(2, .inr (1, [.null, .null, .null, .null, .null, .int 0])), (0, .inr (10, [.ref q1, .int 0, .ref q2, .int 0, .ref q8, .int 0, .int (-1), .null, .null, .int 0, .null, .null, .int 0, .null, .null, .int 0])), (1, .inl (D.2.1 0, (6, .inl (fun _ => 0))))] F))) kc10 0 rfl (by decide) (hA4 _ (List.mem_of_getElem? (i := 8) rfl)) rfl (k_ovc (k_ovq 1 rfl rfl)) rfl rfl rfl (Nat.le_of_ble_eq_true rfl) q_255 dX10_init_49 ?_
  refine i_aload_n X 0 dX10_init_52 rfl rfl ?_
  refine i_bipush X (v := 8) dX10_init_53 rfl ?_
  refine i_newa X 0 (at_ := .int) (a0 := (8, .inl (fun _ => 0))) rfl rfl (fun h => h) 9 (hf 9 (by decide) (by decide) (by decide)) (fun _ => rfl) q_233 (by decide) rfl (Nat.le_of_ble_eq_true rfl) (Nat.le_of_ble_eq_true rfl) (Nat.le_of_ble_eq_true rfl) dX10_init_55 (fun q9 => ?_)
  have hA5 := k_adn (k1 := 9) (q := q9) hA4 rfl
  have ho5 := k_outn (k1 := 9) (q := q9) ho4 (by decide) (by decide)
  refine j_F (F2 := (k_ov [(9, .inl (D.2.1 0, (8, .inl (fun _ => 0)))), (8, .inl (D.2.1 4, 6, .inr (.inr (.inr (.inr (fun _ => none)))))), (7, .inl (D.2.1 0, (16, .inl (fun _ => 0)))), (6, .inl (D.2.1 0, (16, .inl (fun _ => 0)))), (5, .inl (D.2.1 0, (16, .inl (fun _ => 0)))), (4, .inl (D.2.1 0, (16, .inl (fun _ => 0)))), (2, .inr (1, [.ref q3, .ref q4, .ref q5, .ref q6, .ref q7, .int 0])), (3, .inl (D.2.1 0, (16, .inl (fun _ => 0))))] (k_ov [(2, .inr (1, [.null, .null, .null, .null, .null, .int 0])), (0, .inr (10, [.ref q1, .int 0, .ref q2, .int 0, .ref q8, .int 0, .int (-1), .null, .null, .int 0, .null, .null, .int 0, .null, .null, .int 0])), (1, .inl (D.2.1 0, (6, .inl (fun _ => 0))))] F))) (fun j => rfl) ?_
  refine i_putF X hin rfl (f := 7) (F := (k_ov [(9, .inl (D.2.1 0, (8, .inl (fun _ => 0)))), (8, .inl (D.2.1 4, 6, .inr (.inr (.inr (.inr (fun _ => none)))))), (7, .inl (D.2.1 0, (16, .inl (fun _ => 0)))), (6, .inl (D.2.1 0, (16, .inl (fun _ => 0)))), (5, .inl (D.2.1 0, (16, .inl (fun _ => 0)))), (4, .inl (D.2.1 0, (16, .inl (fun _ => 0)))), (2, .inr (1, [.ref q3, .ref q4, .ref q5, .ref q6, .ref q7, .int 0])), (3, .inl (D.2.1 0, (16, .inl (fun _ => 0))))] (k_ov [(2, .inr (1, [.null, .null, .null, .null, .null, .int 0])), (0, .inr (10, [.ref q1, .int 0, .ref q2, .int 0, .ref q8, .int 0, .int (-1), .null, .null, .int 0, .null, .null, .int 0, .null, .null, .int 0])), (1, .inl (D.2.1 0, (6, .inl (fun _ => 0))))] F))) (F' := (k_ov [(9, .inl (D.2.1 0, (8, .inl (fun _ => 0)))), (8, .inl (D.2.1 4, 6, .inr (.inr (.inr (.inr (fun _ => none)))))), (7, .inl (D.2.1 0, (16, .inl (fun _ => 0)))), (6, .inl (D.2.1 0, (16, .inl (fun _ => 0)))), (5, .inl (D.2.1 0, (16, .inl (fun _ => 0)))), (4, .inl (D.2.1 0, (16, .inl (fun _ => 0)))), (2, .inr (1, [.ref q3, .ref q4, .ref q5, .ref q6, .ref q7, .int 0])), (3, .inl (D.2.1 0, (16, .inl (fun _ => 0))))] (k_ov [(2, .inr (1, [.null, .null, .null, .null, .null, .int 0])), (0, .inr (10, [.ref q1, .int 0, .ref q2, .int 0, .ref q8, .int 0, .int (-1), .ref q9, .null, .int 0, .null, .null, .int 0, .null, .null, .int 0])), (1, .inl (D.2.1 0, (6, .inl (fun _ => 0))))] F))) kc10 0 rfl (by decide) (hA5 _ (List.mem_of_getElem? (i := 9) rfl)) rfl (k_ovc (k_ovq 1 rfl rfl)) rfl rfl rfl (Nat.le_of_ble_eq_true rfl) q_257 dX10_init_57 ?_
  refine i_aload_n X 0 dX10_init_60 rfl rfl ?_
  refine i_bipush X (v := 8) dX10_init_61 rfl ?_
  refine i_newa X 0 (at_ := .int) (a0 := (8, .inl (fun _ => 0))) rfl rfl (fun h => h) 10 (hf 10 (by decide) (by decide) (by decide)) (fun _ => rfl) q_233 (by decide) rfl (Nat.le_of_ble_eq_true rfl) (Nat.le_of_ble_eq_true rfl) (Nat.le_of_ble_eq_true rfl) dX10_init_63 (fun q10 => ?_)
  have hA6 := k_adn (k1 := 10) (q := q10) hA5 rfl
  have ho6 := k_outn (k1 := 10) (q := q10) ho5 (by decide) (by decide)
  refine j_F (F2 := (k_ov [(10, .inl (D.2.1 0, (8, .inl (fun _ => 0)))), (9, .inl (D.2.1 0, (8, .inl (fun _ => 0)))), (8, .inl (D.2.1 4, 6, .inr (.inr (.inr (.inr (fun _ => none)))))), (7, .inl (D.2.1 0, (16, .inl (fun _ => 0)))), (6, .inl (D.2.1 0, (16, .inl (fun _ => 0)))), (5, .inl (D.2.1 0, (16, .inl (fun _ => 0)))), (4, .inl (D.2.1 0, (16, .inl (fun _ => 0)))), (2, .inr (1, [.ref q3, .ref q4, .ref q5, .ref q6, .ref q7, .int 0])), (3, .inl (D.2.1 0, (16, .inl (fun _ => 0))))] (k_ov [(2, .inr (1, [.null, .null, .null, .null, .null, .int 0])), (0, .inr (10, [.ref q1, .int 0, .ref q2, .int 0, .ref q8, .int 0, .int (-1), .ref q9, .null, .int 0, .null, .null, .int 0, .null, .null, .int 0])), (1, .inl (D.2.1 0, (6, .inl (fun _ => 0))))] F))) (fun j => rfl) ?_
  refine i_putF X hin rfl (f := 8) (F := (k_ov [(10, .inl (D.2.1 0, (8, .inl (fun _ => 0)))), (9, .inl (D.2.1 0, (8, .inl (fun _ => 0)))), (8, .inl (D.2.1 4, 6, .inr (.inr (.inr (.inr (fun _ => none)))))), (7, .inl (D.2.1 0, (16, .inl (fun _ => 0)))), (6, .inl (D.2.1 0, (16, .inl (fun _ => 0)))), (5, .inl (D.2.1 0, (16, .inl (fun _ => 0)))), (4, .inl (D.2.1 0, (16, .inl (fun _ => 0)))), (2, .inr (1, [.ref q3, .ref q4, .ref q5, .ref q6, .ref q7, .int 0])), (3, .inl (D.2.1 0, (16, .inl (fun _ => 0))))] (k_ov [(2, .inr (1, [.null, .null, .null, .null, .null, .int 0])), (0, .inr (10, [.ref q1, .int 0, .ref q2, .int 0, .ref q8, .int 0, .int (-1), .ref q9, .null, .int 0, .null, .null, .int 0, .null, .null, .int 0])), (1, .inl (D.2.1 0, (6, .inl (fun _ => 0))))] F))) (F' := (k_ov [(10, .inl (D.2.1 0, (8, .inl (fun _ => 0)))), (9, .inl (D.2.1 0, (8, .inl (fun _ => 0)))), (8, .inl (D.2.1 4, 6, .inr (.inr (.inr (.inr (fun _ => none)))))), (7, .inl (D.2.1 0, (16, .inl (fun _ => 0)))), (6, .inl (D.2.1 0, (16, .inl (fun _ => 0)))), (5, .inl (D.2.1 0, (16, .inl (fun _ => 0)))), (4, .inl (D.2.1 0, (16, .inl (fun _ => 0)))), (2, .inr (1, [.ref q3, .ref q4, .ref q5, .ref q6, .ref q7, .int 0])), (3, .inl (D.2.1 0, (16, .inl (fun _ => 0))))] (k_ov [(2, .inr (1, [.null, .null, .null, .null, .null, .int 0])), (0, .inr (10, [.ref q1, .int 0, .ref q2, .int 0, .ref q8, .int 0, .int (-1), .ref q9, .ref q10, .int 0, .null, .null, .int 0, .null, .null, .int 0])), (1, .inl (D.2.1 0, (6, .inl (fun _ => 0))))] F))) kc10 0 rfl (by decide) (hA6 _ (List.mem_of_getElem? (i := 10) rfl)) rfl (k_ovc (k_ovq 1 rfl rfl)) rfl rfl rfl (Nat.le_of_ble_eq_true rfl) q_259 dX10_init_65 ?_
  refine i_aload_n X 0 dX10_init_68 rfl rfl ?_
  refine i_iconst X (v := 0) dX10_init_69 rfl ?_
  refine i_put X (f := 9) (F := (k_ov [(10, .inl (D.2.1 0, (8, .inl (fun _ => 0)))), (9, .inl (D.2.1 0, (8, .inl (fun _ => 0)))), (8, .inl (D.2.1 4, 6, .inr (.inr (.inr (.inr (fun _ => none)))))), (7, .inl (D.2.1 0, (16, .inl (fun _ => 0)))), (6, .inl (D.2.1 0, (16, .inl (fun _ => 0)))), (5, .inl (D.2.1 0, (16, .inl (fun _ => 0)))), (4, .inl (D.2.1 0, (16, .inl (fun _ => 0)))), (2, .inr (1, [.ref q3, .ref q4, .ref q5, .ref q6, .ref q7, .int 0])), (3, .inl (D.2.1 0, (16, .inl (fun _ => 0))))] (k_ov [(2, .inr (1, [.null, .null, .null, .null, .null, .int 0])), (0, .inr (10, [.ref q1, .int 0, .ref q2, .int 0, .ref q8, .int 0, .int (-1), .ref q9, .ref q10, .int 0, .null, .null, .int 0, .null, .null, .int 0])), (1, .inl (D.2.1 0, (6, .inl (fun _ => 0))))] F))) (F' := (k_ov [(10, .inl (D.2.1 0, (8, .inl (fun _ => 0)))), (9, .inl (D.2.1 0, (8, .inl (fun _ => 0)))), (8, .inl (D.2.1 4, 6, .inr (.inr (.inr (.inr (fun _ => none)))))), (7, .inl (D.2.1 0, (16, .inl (fun _ => 0)))), (6, .inl (D.2.1 0, (16, .inl (fun _ => 0)))), (5, .inl (D.2.1 0, (16, .inl (fun _ => 0)))), (4, .inl (D.2.1 0, (16, .inl (fun _ => 0)))), (2, .inr (1, [.ref q3, .ref q4, .ref q5, .ref q6, .ref q7, .int 0])), (3, .inl (D.2.1 0, (16, .inl (fun _ => 0))))] (k_ov [(2, .inr (1, [.null, .null, .null, .null, .null, .int 0])), (0, .inr (10, [.ref q1, .int 0, .ref q2, .int 0, .ref q8, .int 0, .int (-1), .ref q9, .ref q10, .int 0, .null, .null, .int 0, .null, .null, .int 0])), (1, .inl (D.2.1 0, (6, .inl (fun _ => 0))))] F))) kc10 0 rfl (by decide) (hA6 _ (List.mem_of_getElem? (i := 10) rfl)) rfl (k_ovc (k_ovq 1 rfl rfl)) rfl rfl rfl (Nat.le_of_ble_eq_true rfl) q_261 dX10_init_70 ?_
  refine i_aload_n X 0 dX10_init_73 rfl rfl ?_
  refine i_bipush X (v := 10) dX10_init_74 rfl ?_
  refine i_newa X 0 (at_ := .int) (a0 := (10, .inl (fun _ => 0))) rfl rfl (fun h => h) 11 (hf 11 (by decide) (by decide) (by decide)) (fun _ => rfl) q_233 (by decide) rfl (Nat.le_of_ble_eq_true rfl) (Nat.le_of_ble_eq_true rfl) (Nat.le_of_ble_eq_true rfl) dX10_init_76 (fun q11 => ?_)
  have hA7 := k_adn (k1 := 11) (q := q11) hA6 rfl
  have ho7 := k_outn (k1 := 11) (q := q11) ho6 (by decide) (by decide)
  refine j_F (F2 := (k_ov [(11, .inl (D.2.1 0, (10, .inl (fun _ => 0)))), (10, .inl (D.2.1 0, (8, .inl (fun _ => 0)))), (9, .inl (D.2.1 0, (8, .inl (fun _ => 0)))), (8, .inl (D.2.1 4, 6, .inr (.inr (.inr (.inr (fun _ => none)))))), (7, .inl (D.2.1 0, (16, .inl (fun _ => 0)))), (6, .inl (D.2.1 0, (16, .inl (fun _ => 0)))), (5, .inl (D.2.1 0, (16, .inl (fun _ => 0)))), (4, .inl (D.2.1 0, (16, .inl (fun _ => 0)))), (2, .inr (1, [.ref q3, .ref q4, .ref q5, .ref q6, .ref q7, .int 0])), (3, .inl (D.2.1 0, (16, .inl (fun _ => 0))))] (k_ov [(2, .inr (1, [.null, .null, .null, .null, .null, .int 0])), (0, .inr (10, [.ref q1, .int 0, .ref q2, .int 0, .ref q8, .int 0, .int (-1), .ref q9, .ref q10, .int 0, .null, .null, .int 0, .null, .null, .int 0])), (1, .inl (D.2.1 0, (6, .inl (fun _ => 0))))] F))) (fun j => rfl) ?_
  refine i_putF X hin rfl (f := 10) (F := (k_ov [(11, .inl (D.2.1 0, (10, .inl (fun _ => 0)))), (10, .inl (D.2.1 0, (8, .inl (fun _ => 0)))), (9, .inl (D.2.1 0, (8, .inl (fun _ => 0)))), (8, .inl (D.2.1 4, 6, .inr (.inr (.inr (.inr (fun _ => none)))))), (7, .inl (D.2.1 0, (16, .inl (fun _ => 0)))), (6, .inl (D.2.1 0, (16, .inl (fun _ => 0)))), (5, .inl (D.2.1 0, (16, .inl (fun _ => 0)))), (4, .inl (D.2.1 0, (16, .inl (fun _ => 0)))), (2, .inr (1, [.ref q3, .ref q4, .ref q5, .ref q6, .ref q7, .int 0])), (3, .inl (D.2.1 0, (16, .inl (fun _ => 0))))] (k_ov [(2, .inr (1, [.null, .null, .null, .null, .null, .int 0])), (0, .inr (10, [.ref q1, .int 0, .ref q2, .int 0, .ref q8, .int 0, .int (-1), .ref q9, .ref q10, .int 0, .null, .null, .int 0, .null, .null, .int 0])), (1, .inl (D.2.1 0, (6, .inl (fun _ => 0))))] F))) (F' := (k_ov [(11, .inl (D.2.1 0, (10, .inl (fun _ => 0)))), (10, .inl (D.2.1 0, (8, .inl (fun _ => 0)))), (9, .inl (D.2.1 0, (8, .inl (fun _ => 0)))), (8, .inl (D.2.1 4, 6, .inr (.inr (.inr (.inr (fun _ => none)))))), (7, .inl (D.2.1 0, (16, .inl (fun _ => 0)))), (6, .inl (D.2.1 0, (16, .inl (fun _ => 0)))), (5, .inl (D.2.1 0, (16, .inl (fun _ => 0)))), (4, .inl (D.2.1 0, (16, .inl (fun _ => 0)))), (2, .inr (1, [.ref q3, .ref q4, .ref q5, .ref q6, .ref q7, .int 0])), (3, .inl (D.2.1 0, (16, .inl (fun _ => 0))))] (k_ov [(2, .inr (1, [.null, .null, .null, .null, .null, .int 0])), (0, .inr (10, [.ref q1, .int 0, .ref q2, .int 0, .ref q8, .int 0, .int (-1), .ref q9, .ref q10, .int 0, .ref q11, .null, .int 0, .null, .null, .int 0])), (1, .inl (D.2.1 0, (6, .inl (fun _ => 0))))] F))) kc10 0 rfl (by decide) (hA7 _ (List.mem_of_getElem? (i := 11) rfl)) rfl (k_ovc (k_ovq 1 rfl rfl)) rfl rfl rfl (Nat.le_of_ble_eq_true rfl) q_264 dX10_init_78 ?_
  refine i_aload_n X 0 dX10_init_81 rfl rfl ?_
  refine i_bipush X (v := 10) dX10_init_82 rfl ?_
  refine i_newa X 0 (at_ := .int) (a0 := (10, .inl (fun _ => 0))) rfl rfl (fun h => h) 12 (hf 12 (by decide) (by decide) (by decide)) (fun _ => rfl) q_233 (by decide) rfl (Nat.le_of_ble_eq_true rfl) (Nat.le_of_ble_eq_true rfl) (Nat.le_of_ble_eq_true rfl) dX10_init_84 (fun q12 => ?_)
  have hA8 := k_adn (k1 := 12) (q := q12) hA7 rfl
  have ho8 := k_outn (k1 := 12) (q := q12) ho7 (by decide) (by decide)
  refine j_F (F2 := (k_ov [(12, .inl (D.2.1 0, (10, .inl (fun _ => 0)))), (11, .inl (D.2.1 0, (10, .inl (fun _ => 0)))), (10, .inl (D.2.1 0, (8, .inl (fun _ => 0)))), (9, .inl (D.2.1 0, (8, .inl (fun _ => 0)))), (8, .inl (D.2.1 4, 6, .inr (.inr (.inr (.inr (fun _ => none)))))), (7, .inl (D.2.1 0, (16, .inl (fun _ => 0)))), (6, .inl (D.2.1 0, (16, .inl (fun _ => 0)))), (5, .inl (D.2.1 0, (16, .inl (fun _ => 0)))), (4, .inl (D.2.1 0, (16, .inl (fun _ => 0)))), (2, .inr (1, [.ref q3, .ref q4, .ref q5, .ref q6, .ref q7, .int 0])), (3, .inl (D.2.1 0, (16, .inl (fun _ => 0))))] (k_ov [(2, .inr (1, [.null, .null, .null, .null, .null, .int 0])), (0, .inr (10, [.ref q1, .int 0, .ref q2, .int 0, .ref q8, .int 0, .int (-1), .ref q9, .ref q10, .int 0, .ref q11, .null, .int 0, .null, .null, .int 0])), (1, .inl (D.2.1 0, (6, .inl (fun _ => 0))))] F))) (fun j => rfl) ?_
  refine i_putF X hin rfl (f := 11) (F := (k_ov [(12, .inl (D.2.1 0, (10, .inl (fun _ => 0)))), (11, .inl (D.2.1 0, (10, .inl (fun _ => 0)))), (10, .inl (D.2.1 0, (8, .inl (fun _ => 0)))), (9, .inl (D.2.1 0, (8, .inl (fun _ => 0)))), (8, .inl (D.2.1 4, 6, .inr (.inr (.inr (.inr (fun _ => none)))))), (7, .inl (D.2.1 0, (16, .inl (fun _ => 0)))), (6, .inl (D.2.1 0, (16, .inl (fun _ => 0)))), (5, .inl (D.2.1 0, (16, .inl (fun _ => 0)))), (4, .inl (D.2.1 0, (16, .inl (fun _ => 0)))), (2, .inr (1, [.ref q3, .ref q4, .ref q5, .ref q6, .ref q7, .int 0])), (3, .inl (D.2.1 0, (16, .inl (fun _ => 0))))] (k_ov [(2, .inr (1, [.null, .null, .null, .null, .null, .int 0])), (0, .inr (10, [.ref q1, .int 0, .ref q2, .int 0, .ref q8, .int 0, .int (-1), .ref q9, .ref q10, .int 0, .ref q11, .null, .int 0, .null, .null, .int 0])), (1, .inl (D.2.1 0, (6, .inl (fun _ => 0))))] F))) (F' := (k_ov [(12, .inl (D.2.1 0, (10, .inl (fun _ => 0)))), (11, .inl (D.2.1 0, (10, .inl (fun _ => 0)))), (10, .inl (D.2.1 0, (8, .inl (fun _ => 0)))), (9, .inl (D.2.1 0, (8, .inl (fun _ => 0)))), (8, .inl (D.2.1 4, 6, .inr (.inr (.inr (.inr (fun _ => none)))))), (7, .inl (D.2.1 0, (16, .inl (fun _ => 0)))), (6, .inl (D.2.1 0, (16, .inl (fun _ => 0)))), (5, .inl (D.2.1 0, (16, .inl (fun _ => 0)))), (4, .inl (D.2.1 0, (16, .inl (fun _ => 0)))), (2, .inr (1, [.ref q3, .ref q4, .ref q5, .ref q6, .ref q7, .int 0])), (3, .inl (D.2.1 0, (16, .inl (fun _ => 0))))] (k_ov [(2, .inr (1, [.null, .null, .null, .null, .null, .int 0])), (0, .inr (10, [.ref q1, .int 0, .ref q2, .int 0, .ref q8, .int 0, .int (-1), .ref q9, .ref q10, .int 0, .ref q11, .ref q12, .int 0, .null, .null, .int 0])), (1, .inl (D.2.1 0, (6, .inl (fun _ => 0))))] F))) kc10 0 rfl (by decide) (hA8 _ (List.mem_of_getElem? (i := 12) rfl)) rfl (k_ovc (k_ovq 1 rfl rfl)) rfl rfl rfl (Nat.le_of_ble_eq_true rfl) q_266 dX10_init_86 ?_
  refine i_aload_n X 0 dX10_init_89 rfl rfl ?_
  refine i_iconst X (v := 0) dX10_init_90 rfl ?_
  refine i_put X (f := 12) (F := (k_ov [(12, .inl (D.2.1 0, (10, .inl (fun _ => 0)))), (11, .inl (D.2.1 0, (10, .inl (fun _ => 0)))), (10, .inl (D.2.1 0, (8, .inl (fun _ => 0)))), (9, .inl (D.2.1 0, (8, .inl (fun _ => 0)))), (8, .inl (D.2.1 4, 6, .inr (.inr (.inr (.inr (fun _ => none)))))), (7, .inl (D.2.1 0, (16, .inl (fun _ => 0)))), (6, .inl (D.2.1 0, (16, .inl (fun _ => 0)))), (5, .inl (D.2.1 0, (16, .inl (fun _ => 0)))), (4, .inl (D.2.1 0, (16, .inl (fun _ => 0)))), (2, .inr (1, [.ref q3, .ref q4, .ref q5, .ref q6, .ref q7, .int 0])), (3, .inl (D.2.1 0, (16, .inl (fun _ => 0))))] (k_ov [(2, .inr (1, [.null, .null, .null, .null, .null, .int 0])), (0, .inr (10, [.ref q1, .int 0, .ref q2, .int 0, .ref q8, .int 0, .int (-1), .ref q9, .ref q10, .int 0, .ref q11, .ref q12, .int 0, .null, .null, .int 0])), (1, .inl (D.2.1 0, (6, .inl (fun _ => 0))))] F))) (F' := (k_ov [(12, .inl (D.2.1 0, (10, .inl (fun _ => 0)))), (11, .inl (D.2.1 0, (10, .inl (fun _ => 0)))), (10, .inl (D.2.1 0, (8, .inl (fun _ => 0)))), (9, .inl (D.2.1 0, (8, .inl (fun _ => 0)))), (8, .inl (D.2.1 4, 6, .inr (.inr (.inr (.inr (fun _ => none)))))), (7, .inl (D.2.1 0, (16, .inl (fun _ => 0)))), (6, .inl (D.2.1 0, (16, .inl (fun _ => 0)))), (5, .inl (D.2.1 0, (16, .inl (fun _ => 0)))), (4, .inl (D.2.1 0, (16, .inl (fun _ => 0)))), (2, .inr (1, [.ref q3, .ref q4, .ref q5, .ref q6, .ref q7, .int 0])), (3, .inl (D.2.1 0, (16, .inl (fun _ => 0))))] (k_ov [(2, .inr (1, [.null, .null, .null, .null, .null, .int 0])), (0, .inr (10, [.ref q1, .int 0, .ref q2, .int 0, .ref q8, .int 0, .int (-1), .ref q9, .ref q10, .int 0, .ref q11, .ref q12, .int 0, .null, .null, .int 0])), (1, .inl (D.2.1 0, (6, .inl (fun _ => 0))))] F))) kc10 0 rfl (by decide) (hA8 _ (List.mem_of_getElem? (i := 12) rfl)) rfl (k_ovc (k_ovq 1 rfl rfl)) rfl rfl rfl (Nat.le_of_ble_eq_true rfl) q_268 dX10_init_91 ?_
  refine i_aload_n X 0 dX10_init_94 rfl rfl ?_
  refine i_bipush X (v := 12) dX10_init_95 rfl ?_
  refine i_newa X 0 (at_ := .int) (a0 := (12, .inl (fun _ => 0))) rfl rfl (fun h => h) 13 (hf 13 (by decide) (by decide) (by decide)) (fun _ => rfl) q_233 (by decide) rfl (Nat.le_of_ble_eq_true rfl) (Nat.le_of_ble_eq_true rfl) (Nat.le_of_ble_eq_true rfl) dX10_init_97 (fun q13 => ?_)
  have hA9 := k_adn (k1 := 13) (q := q13) hA8 rfl
  have ho9 := k_outn (k1 := 13) (q := q13) ho8 (by decide) (by decide)
  refine j_F (F2 := (k_ov [(13, .inl (D.2.1 0, (12, .inl (fun _ => 0)))), (12, .inl (D.2.1 0, (10, .inl (fun _ => 0)))), (11, .inl (D.2.1 0, (10, .inl (fun _ => 0)))), (10, .inl (D.2.1 0, (8, .inl (fun _ => 0)))), (9, .inl (D.2.1 0, (8, .inl (fun _ => 0)))), (8, .inl (D.2.1 4, 6, .inr (.inr (.inr (.inr (fun _ => none)))))), (7, .inl (D.2.1 0, (16, .inl (fun _ => 0)))), (6, .inl (D.2.1 0, (16, .inl (fun _ => 0)))), (5, .inl (D.2.1 0, (16, .inl (fun _ => 0)))), (4, .inl (D.2.1 0, (16, .inl (fun _ => 0)))), (2, .inr (1, [.ref q3, .ref q4, .ref q5, .ref q6, .ref q7, .int 0])), (3, .inl (D.2.1 0, (16, .inl (fun _ => 0))))] (k_ov [(2, .inr (1, [.null, .null, .null, .null, .null, .int 0])), (0, .inr (10, [.ref q1, .int 0, .ref q2, .int 0, .ref q8, .int 0, .int (-1), .ref q9, .ref q10, .int 0, .ref q11, .ref q12, .int 0, .null, .null, .int 0])), (1, .inl (D.2.1 0, (6, .inl (fun _ => 0))))] F))) (fun j => rfl) ?_
  refine i_putF X hin rfl (f := 13) (F := (k_ov [(13, .inl (D.2.1 0, (12, .inl (fun _ => 0)))), (12, .inl (D.2.1 0, (10, .inl (fun _ => 0)))), (11, .inl (D.2.1 0, (10, .inl (fun _ => 0)))), (10, .inl (D.2.1 0, (8, .inl (fun _ => 0)))), (9, .inl (D.2.1 0, (8, .inl (fun _ => 0)))), (8, .inl (D.2.1 4, 6, .inr (.inr (.inr (.inr (fun _ => none)))))), (7, .inl (D.2.1 0, (16, .inl (fun _ => 0)))), (6, .inl (D.2.1 0, (16, .inl (fun _ => 0)))), (5, .inl (D.2.1 0, (16, .inl (fun _ => 0)))), (4, .inl (D.2.1 0, (16, .inl (fun _ => 0)))), (2, .inr (1, [.ref q3, .ref q4, .ref q5, .ref q6, .ref q7, .int 0])), (3, .inl (D.2.1 0, (16, .inl (fun _ => 0))))] (k_ov [(2, .inr (1, [.null, .null, .null, .null, .null, .int 0])), (0, .inr (10, [.ref q1, .int 0, .ref q2, .int 0, .ref q8, .int 0, .int (-1), .ref q9, .ref q10, .int 0, .ref q11, .ref q12, .int 0, .null, .null, .int 0])), (1, .inl (D.2.1 0, (6, .inl (fun _ => 0))))] F))) (F' := (k_ov [(13, .inl (D.2.1 0, (12, .inl (fun _ => 0)))), (12, .inl (D.2.1 0, (10, .inl (fun _ => 0)))), (11, .inl (D.2.1 0, (10, .inl (fun _ => 0)))), (10, .inl (D.2.1 0, (8, .inl (fun _ => 0)))), (9, .inl (D.2.1 0, (8, .inl (fun _ => 0)))), (8, .inl (D.2.1 4, 6, .inr (.inr (.inr (.inr (fun _ => none)))))), (7, .inl (D.2.1 0, (16, .inl (fun _ => 0)))), (6, .inl (D.2.1 0, (16, .inl (fun _ => 0)))), (5, .inl (D.2.1 0, (16, .inl (fun _ => 0)))), (4, .inl (D.2.1 0, (16, .inl (fun _ => 0)))), (2, .inr (1, [.ref q3, .ref q4, .ref q5, .ref q6, .ref q7, .int 0])), (3, .inl (D.2.1 0, (16, .inl (fun _ => 0))))] (k_ov [(2, .inr (1, [.null, .null, .null, .null, .null, .int 0])), (0, .inr (10, [.ref q1, .int 0, .ref q2, .int 0, .ref q8, .int 0, .int (-1), .ref q9, .ref q10, .int 0, .ref q11, .ref q12, .int 0, .ref q13, .null, .int 0])), (1, .inl (D.2.1 0, (6, .inl (fun _ => 0))))] F))) kc10 0 rfl (by decide) (hA9 _ (List.mem_of_getElem? (i := 13) rfl)) rfl (k_ovc (k_ovq 1 rfl rfl)) rfl rfl rfl (Nat.le_of_ble_eq_true rfl) q_271 dX10_init_99 ?_
  refine i_aload_n X 0 dX10_init_102 rfl rfl ?_
  refine i_bipush X (v := 12) dX10_init_103 rfl ?_
  refine i_newa X 0 (at_ := .int) (a0 := (12, .inl (fun _ => 0))) rfl rfl (fun h => h) 14 (hf 14 (by decide) (by decide) (by decide)) (fun _ => rfl) q_233 (by decide) rfl (Nat.le_of_ble_eq_true rfl) (Nat.le_of_ble_eq_true rfl) (Nat.le_of_ble_eq_true rfl) dX10_init_105 (fun q14 => ?_)
  have hA10 := k_adn (k1 := 14) (q := q14) hA9 rfl
  have ho10 := k_outn (k1 := 14) (q := q14) ho9 (by decide) (by decide)
  refine j_F (F2 := (k_ov [(14, .inl (D.2.1 0, (12, .inl (fun _ => 0)))), (13, .inl (D.2.1 0, (12, .inl (fun _ => 0)))), (12, .inl (D.2.1 0, (10, .inl (fun _ => 0)))), (11, .inl (D.2.1 0, (10, .inl (fun _ => 0)))), (10, .inl (D.2.1 0, (8, .inl (fun _ => 0)))), (9, .inl (D.2.1 0, (8, .inl (fun _ => 0)))), (8, .inl (D.2.1 4, 6, .inr (.inr (.inr (.inr (fun _ => none)))))), (7, .inl (D.2.1 0, (16, .inl (fun _ => 0)))), (6, .inl (D.2.1 0, (16, .inl (fun _ => 0)))), (5, .inl (D.2.1 0, (16, .inl (fun _ => 0)))), (4, .inl (D.2.1 0, (16, .inl (fun _ => 0)))), (2, .inr (1, [.ref q3, .ref q4, .ref q5, .ref q6, .ref q7, .int 0])), (3, .inl (D.2.1 0, (16, .inl (fun _ => 0))))] (k_ov [(2, .inr (1, [.null, .null, .null, .null, .null, .int 0])), (0, .inr (10, [.ref q1, .int 0, .ref q2, .int 0, .ref q8, .int 0, .int (-1), .ref q9, .ref q10, .int 0, .ref q11, .ref q12, .int 0, .ref q13, .null, .int 0])), (1, .inl (D.2.1 0, (6, .inl (fun _ => 0))))] F))) (fun j => rfl) ?_
  refine i_putF X hin rfl (f := 14) (F := (k_ov [(14, .inl (D.2.1 0, (12, .inl (fun _ => 0)))), (13, .inl (D.2.1 0, (12, .inl (fun _ => 0)))), (12, .inl (D.2.1 0, (10, .inl (fun _ => 0)))), (11, .inl (D.2.1 0, (10, .inl (fun _ => 0)))), (10, .inl (D.2.1 0, (8, .inl (fun _ => 0)))), (9, .inl (D.2.1 0, (8, .inl (fun _ => 0)))), (8, .inl (D.2.1 4, 6, .inr (.inr (.inr (.inr (fun _ => none)))))), (7, .inl (D.2.1 0, (16, .inl (fun _ => 0)))), (6, .inl (D.2.1 0, (16, .inl (fun _ => 0)))), (5, .inl (D.2.1 0, (16, .inl (fun _ => 0)))), (4, .inl (D.2.1 0, (16, .inl (fun _ => 0)))), (2, .inr (1, [.ref q3, .ref q4, .ref q5, .ref q6, .ref q7, .int 0])), (3, .inl (D.2.1 0, (16, .inl (fun _ => 0))))] (k_ov [(2, .inr (1, [.null, .null, .null, .null, .null, .int 0])), (0, .inr (10, [.ref q1, .int 0, .ref q2, .int 0, .ref q8, .int 0, .int (-1), .ref q9, .ref q10, .int 0, .ref q11, .ref q12, .int 0, .ref q13, .null, .int 0])), (1, .inl (D.2.1 0, (6, .inl (fun _ => 0))))] F))) (F' := (k_ov [(14, .inl (D.2.1 0, (12, .inl (fun _ => 0)))), (13, .inl (D.2.1 0, (12, .inl (fun _ => 0)))), (12, .inl (D.2.1 0, (10, .inl (fun _ => 0)))), (11, .inl (D.2.1 0, (10, .inl (fun _ => 0)))), (10, .inl (D.2.1 0, (8, .inl (fun _ => 0)))), (9, .inl (D.2.1 0, (8, .inl (fun _ => 0)))), (8, .inl (D.2.1 4, 6, .inr (.inr (.inr (.inr (fun _ => none)))))), (7, .inl (D.2.1 0, (16, .inl (fun _ => 0)))), (6, .inl (D.2.1 0, (16, .inl (fun _ => 0)))), (5, .inl (D.2.1 0, (16, .inl (fun _ => 0)))), (4, .inl (D.2.1 0, (16, .inl (fun _ => 0)))), (2, .inr (1, [.ref q3, .ref q4, .ref q5, .ref q6, .ref q7, .int 0])), (3, .inl (D.2.1 0, (16, .inl (fun _ => 0))))] (k_ov [(2, .inr (1, [.null, .null, .null, .null, .null, .int 0])), (0, .inr (10, [.ref q1, .int 0, .ref q2, .int 0, .ref q8, .int 0, .int (-1), .ref q9, .ref q10, .int 0, .ref q11, .ref q12, .int 0, .ref q13, .ref q14, .int 0])), (1, .inl (D.2.1 0, (6, .inl (fun _ => 0))))] F))) kc10 0 rfl (by decide) (hA10 _ (List.mem_of_getElem? (i := 14) rfl)) rfl (k_ovc (k_ovq 1 rfl rfl)) rfl rfl rfl (Nat.le_of_ble_eq_true rfl) q_273 dX10_init_107 ?_
  refine i_aload_n X 0 dX10_init_110 rfl rfl ?_
  refine i_iconst X (v := 0) dX10_init_111 rfl ?_
  refine i_put X (f := 15) (F := (k_ov [(14, .inl (D.2.1 0, (12, .inl (fun _ => 0)))), (13, .inl (D.2.1 0, (12, .inl (fun _ => 0)))), (12, .inl (D.2.1 0, (10, .inl (fun _ => 0)))), (11, .inl (D.2.1 0, (10, .inl (fun _ => 0)))), (10, .inl (D.2.1 0, (8, .inl (fun _ => 0)))), (9, .inl (D.2.1 0, (8, .inl (fun _ => 0)))), (8, .inl (D.2.1 4, 6, .inr (.inr (.inr (.inr (fun _ => none)))))), (7, .inl (D.2.1 0, (16, .inl (fun _ => 0)))), (6, .inl (D.2.1 0, (16, .inl (fun _ => 0)))), (5, .inl (D.2.1 0, (16, .inl (fun _ => 0)))), (4, .inl (D.2.1 0, (16, .inl (fun _ => 0)))), (2, .inr (1, [.ref q3, .ref q4, .ref q5, .ref q6, .ref q7, .int 0])), (3, .inl (D.2.1 0, (16, .inl (fun _ => 0))))] (k_ov [(2, .inr (1, [.null, .null, .null, .null, .null, .int 0])), (0, .inr (10, [.ref q1, .int 0, .ref q2, .int 0, .ref q8, .int 0, .int (-1), .ref q9, .ref q10, .int 0, .ref q11, .ref q12, .int 0, .ref q13, .ref q14, .int 0])), (1, .inl (D.2.1 0, (6, .inl (fun _ => 0))))] F))) (F' := (k_ov [(14, .inl (D.2.1 0, (12, .inl (fun _ => 0)))), (13, .inl (D.2.1 0, (12, .inl (fun _ => 0)))), (12, .inl (D.2.1 0, (10, .inl (fun _ => 0)))), (11, .inl (D.2.1 0, (10, .inl (fun _ => 0)))), (10, .inl (D.2.1 0, (8, .inl (fun _ => 0)))), (9, .inl (D.2.1 0, (8, .inl (fun _ => 0)))), (8, .inl (D.2.1 4, 6, .inr (.inr (.inr (.inr (fun _ => none)))))), (7, .inl (D.2.1 0, (16, .inl (fun _ => 0)))), (6, .inl (D.2.1 0, (16, .inl (fun _ => 0)))), (5, .inl (D.2.1 0, (16, .inl (fun _ => 0)))), (4, .inl (D.2.1 0, (16, .inl (fun _ => 0)))), (2, .inr (1, [.ref q3, .ref q4, .ref q5, .ref q6, .ref q7, .int 0])), (3, .inl (D.2.1 0, (16, .inl (fun _ => 0))))] (k_ov [(2, .inr (1, [.null, .null, .null, .null, .null, .int 0])), (0, .inr (10, [.ref q1, .int 0, .ref q2, .int 0, .ref q8, .int 0, .int (-1), .ref q9, .ref q10, .int 0, .ref q11, .ref q12, .int 0, .ref q13, .ref q14, .int 0])), (1, .inl (D.2.1 0, (6, .inl (fun _ => 0))))] F))) kc10 0 rfl (by decide) (hA10 _ (List.mem_of_getElem? (i := 14) rfl)) rfl (k_ovc (k_ovq 1 rfl rfl)) rfl rfl rfl (Nat.le_of_ble_eq_true rfl) q_275 dX10_init_112 ?_
  have hE : ∀ p ∈ ([(1, q1), (2, q2), (3, q3), (4, q4), (5, q5), (6, q6), (7, q7), (8, q8), (9, q9), (10, q10), (11, q11), (12, q12), (13, q13), (14, q14)] : List (Nat × Nat)), (k_up (k_up (k_up (k_up (k_up (k_up (k_up ad1 8 q8) 9 q9) 10 q10) 11 q11) 12 q12) 13 q13) 14 q14) p.1 = p.2 := fun p hp => hA10 p (k_pick [13, 12, 7, 8, 9, 10, 11, 6, 5, 4, 3, 2, 1, 0] rfl p hp)
  exact i_vret X rfl dX10_init_115 ⟨rfl, ho10, q1, q2, q3, q4, q5, q6, q7, q8, q9, q10, q11, q12, q13, q14, hE, rfl⟩
set_option maxRecDepth 100000 in
set_option maxHeartbeats 4000000 in
theorem c_X9_init_15 {D : k_D} {F : Nat → Option va_E} {ad : Nat → Nat} {a0 : Nat} (ha0 : ad 15 = a0) (hF0 : F 15 = some (.inr (9, [.null, .int 0]))) (hf : ∀ j, 16 ≤ j → j ≤ 16 → j ≠ 15 → F j = none) : Sf yX9_init cX9_init 1 none { frames := 1, cells := 1, slots := 400, locals := 60 } D F ad [.ref a0] (fun v F' ad' => v = none ∧ (∀ j, (j < 16 ∨ 16 < j) → ad' j = ad j) ∧ ∃ q16 : Nat, (∀ p ∈ ([(16, q16)] : List (Nat × Nat)), ad' p.1 = p.2) ∧ F' = k_ov [(15, .inr (9, [.ref q16, .int 0])), (16, .inl (D.2.1 1, (400, .inl (fun _ => 0))))] F) := by
  refine Sf.of (by decide +kernel) (Nat.le_of_ble_eq_true rfl) ?_
  intro p l e s m a b me c A X hm
  have hin : me.name = "<init>" := hm
  have hA0 : ∀ p ∈ ([(15, a0)] : List (Nat × Nat)), ad p.1 = p.2 := by
    intro p hp
    simp only [List.mem_cons, List.not_mem_nil, or_false] at hp
    rcases hp with rfl
    · exact ha0
  have ho0 : ∀ j, (j < 16 ∨ 16 < j) → ad j = ad j := fun j _ => rfl
  refine i_aload_n X 0 dX9_init_0 rfl rfl ?_
  refine i_objInit X q_317 q_168 q_169 ⟨Nat.le_of_ble_eq_true rfl, Nat.le_of_ble_eq_true rfl⟩ dX9_init_1 ?_
  refine i_aload_n X 0 dX9_init_4 rfl rfl ?_
  refine i_sipush X (v := 400) dX9_init_5 rfl ?_
  refine i_newa X 1 (at_ := .byte) (a0 := (400, .inl (fun _ => 0))) rfl rfl (fun h => h) 16 (hf 16 (by decide) (by decide) (by decide)) (fun _ => rfl) q_327 (by decide) rfl (Nat.le_of_ble_eq_true rfl) (Nat.le_of_ble_eq_true rfl) (Nat.le_of_ble_eq_true rfl) dX9_init_8 (fun q16 => ?_)
  have hA1 := k_adn (k1 := 16) (q := q16) hA0 rfl
  have ho1 := k_outn (k1 := 16) (q := q16) ho0 (by decide) (by decide)
  refine j_F (F2 := (k_ov [(16, .inl (D.2.1 1, (400, .inl (fun _ => 0))))] F)) (fun j => rfl) ?_
  refine i_putF X hin rfl (f := 0) (F := (k_ov [(16, .inl (D.2.1 1, (400, .inl (fun _ => 0))))] F)) (F' := (k_ov [(15, .inr (9, [.ref q16, .int 0])), (16, .inl (D.2.1 1, (400, .inl (fun _ => 0))))] F)) kc9 15 hF0 (by decide) (hA1 _ (List.mem_of_getElem? (i := 1) rfl)) rfl k_ovn rfl rfl rfl (Nat.le_of_ble_eq_true rfl) q_318 dX9_init_10 ?_
  refine i_aload_n X 0 dX9_init_13 rfl rfl ?_
  refine i_iconst X (v := 0) dX9_init_14 rfl ?_
  refine i_put X (f := 1) (F := (k_ov [(15, .inr (9, [.ref q16, .int 0])), (16, .inl (D.2.1 1, (400, .inl (fun _ => 0))))] F)) (F' := (k_ov [(15, .inr (9, [.ref q16, .int 0])), (16, .inl (D.2.1 1, (400, .inl (fun _ => 0))))] F)) kc9 15 rfl (by decide) (hA1 _ (List.mem_of_getElem? (i := 1) rfl)) rfl (k_ovq 0 rfl rfl) rfl rfl rfl (Nat.le_of_ble_eq_true rfl) q_319 dX9_init_15 ?_
  have hE : ∀ p ∈ ([(16, q16)] : List (Nat × Nat)), (k_up ad 16 q16) p.1 = p.2 := fun p hp => hA1 p (k_pick [0] rfl p hp)
  exact i_vret X rfl dX9_init_18 ⟨rfl, ho1, q16, hE, rfl⟩
set_option maxRecDepth 100000 in
set_option maxHeartbeats 4000000 in
theorem c_X7_init_23 {D : k_D} {F : Nat → Option va_E} {ad : Nat → Nat} {a0 a1 : Nat} (ha0 : ad 23 = a0) (ha1 : ad 15 = a1) (hF0 : F 23 = some (.inr (7, [.null, .null, .int 0, .int 0, .int 0, .int 0, .int 0, .int 0, .int 0]))) (hf : ∀ j, 24 ≤ j → j ≤ 24 → j ≠ 23 → F j = none) : Sf yX7_init cX7_init 2 none { frames := 1, cells := 1, slots := 800, locals := 60 } D F ad [.ref a0, .ref a1] (fun v F' ad' => v = none ∧ (∀ j, (j < 24 ∨ 24 < j) → ad' j = ad j) ∧ ∃ q24 : Nat, (∀ p ∈ ([(24, q24)] : List (Nat × Nat)), ad' p.1 = p.2) ∧ F' = k_ov [(23, .inr (7, [.ref a1, .ref q24, .int 0, .int 0, .int 0, .int 0, .int 0, .int 0, .int 0])), (24, .inl (D.2.1 0, (800, .inl (fun _ => 0))))] F) := by
  refine Sf.of (by decide +kernel) (Nat.le_of_ble_eq_true rfl) ?_
  intro p l e s m a b me c A X hm
  have hin : me.name = "<init>" := hm
  have hA0 : ∀ p ∈ ([(23, a0), (15, a1)] : List (Nat × Nat)), ad p.1 = p.2 := by
    intro p hp
    simp only [List.mem_cons, List.not_mem_nil, or_false] at hp
    rcases hp with rfl | rfl
    · exact ha0
    · exact ha1
  have ho0 : ∀ j, (j < 24 ∨ 24 < j) → ad j = ad j := fun j _ => rfl
  refine i_aload_n X 0 dX7_init_0 rfl rfl ?_
  refine i_objInit X q_333 q_168 q_169 ⟨Nat.le_of_ble_eq_true rfl, Nat.le_of_ble_eq_true rfl⟩ dX7_init_1 ?_
  refine i_aload_n X 0 dX7_init_4 rfl rfl ?_
  refine i_sipush X (v := 800) dX7_init_5 rfl ?_
  refine i_newa X 0 (at_ := .int) (a0 := (800, .inl (fun _ => 0))) rfl rfl (fun h => h) 24 (hf 24 (by decide) (by decide) (by decide)) (fun _ => rfl) q_233 (by decide) rfl (Nat.le_of_ble_eq_true rfl) (Nat.le_of_ble_eq_true rfl) (Nat.le_of_ble_eq_true rfl) dX7_init_8 (fun q24 => ?_)
  have hA1 := k_adn (k1 := 24) (q := q24) hA0 rfl
  have ho1 := k_outn (k1 := 24) (q := q24) ho0 (by decide) (by decide)
  refine j_F (F2 := (k_ov [(24, .inl (D.2.1 0, (800, .inl (fun _ => 0))))] F)) (fun j => rfl) ?_
  refine i_putF X hin rfl (f := 1) (F := (k_ov [(24, .inl (D.2.1 0, (800, .inl (fun _ => 0))))] F)) (F' := (k_ov [(23, .inr (7, [.null, .ref q24, .int 0, .int 0, .int 0, .int 0, .int 0, .int 0, .int 0])), (24, .inl (D.2.1 0, (800, .inl (fun _ => 0))))] F)) kc7 23 hF0 (by decide) (hA1 _ (List.mem_of_getElem? (i := 1) rfl)) rfl k_ovn rfl rfl rfl (Nat.le_of_ble_eq_true rfl) q_335 dX7_init_10 ?_
  refine i_aload_n X 0 dX7_init_13 rfl rfl ?_
  refine i_iconst X (v := 0) dX7_init_14 rfl ?_
  refine i_put X (f := 2) (F := (k_ov [(23, .inr (7, [.null, .ref q24, .int 0, .int 0, .int 0, .int 0, .int 0, .int 0, .int 0])), (24, .inl (D.2.1 0, (800, .inl (fun _ => 0))))] F)) (F' := (k_ov [(23, .inr (7, [.null, .ref q24, .int 0, .int 0, .int 0, .int 0, .int 0, .int 0, .int 0])), (24, .inl (D.2.1 0, (800, .inl (fun _ => 0))))] F)) kc7 23 rfl (by decide) (hA1 _ (List.mem_of_getElem? (i := 1) rfl)) rfl (k_ovq 0 rfl rfl) rfl rfl rfl (Nat.le_of_ble_eq_true rfl) q_336 dX7_init_15 ?_
  refine i_aload_n X 0 dX7_init_18 rfl rfl ?_
  refine i_iconst X (v := 0) dX7_init_19 rfl ?_
  refine i_put X (f := 3) (F := (k_ov [(23, .inr (7, [.null, .ref q24, .int 0, .int 0, .int 0, .int 0, .int 0, .int 0, .int 0])), (24, .inl (D.2.1 0, (800, .inl (fun _ => 0))))] F)) (F' := (k_ov [(23, .inr (7, [.null, .ref q24, .int 0, .int 0, .int 0, .int 0, .int 0, .int 0, .int 0])), (24, .inl (D.2.1 0, (800, .inl (fun _ => 0))))] F)) kc7 23 rfl (by decide) (hA1 _ (List.mem_of_getElem? (i := 1) rfl)) rfl (k_ovq 0 rfl rfl) rfl rfl rfl (Nat.le_of_ble_eq_true rfl) q_337 dX7_init_20 ?_
  refine i_aload_n X 0 dX7_init_23 rfl rfl ?_
  refine i_iconst X (v := 0) dX7_init_24 rfl ?_
  refine i_put X (f := 4) (F := (k_ov [(23, .inr (7, [.null, .ref q24, .int 0, .int 0, .int 0, .int 0, .int 0, .int 0, .int 0])), (24, .inl (D.2.1 0, (800, .inl (fun _ => 0))))] F)) (F' := (k_ov [(23, .inr (7, [.null, .ref q24, .int 0, .int 0, .int 0, .int 0, .int 0, .int 0, .int 0])), (24, .inl (D.2.1 0, (800, .inl (fun _ => 0))))] F)) kc7 23 rfl (by decide) (hA1 _ (List.mem_of_getElem? (i := 1) rfl)) rfl (k_ovq 0 rfl rfl) rfl rfl rfl (Nat.le_of_ble_eq_true rfl) q_338 dX7_init_25 ?_
  refine i_aload_n X 0 dX7_init_28 rfl rfl ?_
  refine i_iconst X (v := 0) dX7_init_29 rfl ?_
  refine i_put X (f := 5) (F := (k_ov [(23, .inr (7, [.null, .ref q24, .int 0, .int 0, .int 0, .int 0, .int 0, .int 0, .int 0])), (24, .inl (D.2.1 0, (800, .inl (fun _ => 0))))] F)) (F' := (k_ov [(23, .inr (7, [.null, .ref q24, .int 0, .int 0, .int 0, .int 0, .int 0, .int 0, .int 0])), (24, .inl (D.2.1 0, (800, .inl (fun _ => 0))))] F)) kc7 23 rfl (by decide) (hA1 _ (List.mem_of_getElem? (i := 1) rfl)) rfl (k_ovq 0 rfl rfl) rfl rfl rfl (Nat.le_of_ble_eq_true rfl) q_339 dX7_init_30 ?_
  refine i_aload_n X 0 dX7_init_33 rfl rfl ?_
  refine i_iconst X (v := 0) dX7_init_34 rfl ?_
  refine i_put X (f := 6) (F := (k_ov [(23, .inr (7, [.null, .ref q24, .int 0, .int 0, .int 0, .int 0, .int 0, .int 0, .int 0])), (24, .inl (D.2.1 0, (800, .inl (fun _ => 0))))] F)) (F' := (k_ov [(23, .inr (7, [.null, .ref q24, .int 0, .int 0, .int 0, .int 0, .int 0, .int 0, .int 0])), (24, .inl (D.2.1 0, (800, .inl (fun _ => 0))))] F)) kc7 23 rfl (by decide) (hA1 _ (List.mem_of_getElem? (i := 1) rfl)) rfl (k_ovq 0 rfl rfl) rfl rfl rfl (Nat.le_of_ble_eq_true rfl) q_340 dX7_init_35 ?_
  refine i_aload_n X 0 dX7_init_38 rfl rfl ?_
  refine i_iconst X (v := 0) dX7_init_39 rfl ?_
  refine i_put X (f := 7) (F := (k_ov [(23, .inr (7, [.null, .ref q24, .int 0, .int 0, .int 0, .int 0, .int 0, .int 0, .int 0])), (24, .inl (D.2.1 0, (800, .inl (fun _ => 0))))] F)) (F' := (k_ov [(23, .inr (7, [.null, .ref q24, .int 0, .int 0, .int 0, .int 0, .int 0, .int 0, .int 0])), (24, .inl (D.2.1 0, (800, .inl (fun _ => 0))))] F)) kc7 23 rfl (by decide) (hA1 _ (List.mem_of_getElem? (i := 1) rfl)) rfl (k_ovq 0 rfl rfl) rfl rfl rfl (Nat.le_of_ble_eq_true rfl) q_341 dX7_init_40 ?_
  refine i_aload_n X 0 dX7_init_43 rfl rfl ?_
  refine i_iconst X (v := 0) dX7_init_44 rfl ?_
  refine i_put X (f := 8) (F := (k_ov [(23, .inr (7, [.null, .ref q24, .int 0, .int 0, .int 0, .int 0, .int 0, .int 0, .int 0])), (24, .inl (D.2.1 0, (800, .inl (fun _ => 0))))] F)) (F' := (k_ov [(23, .inr (7, [.null, .ref q24, .int 0, .int 0, .int 0, .int 0, .int 0, .int 0, .int 0])), (24, .inl (D.2.1 0, (800, .inl (fun _ => 0))))] F)) kc7 23 rfl (by decide) (hA1 _ (List.mem_of_getElem? (i := 1) rfl)) rfl (k_ovq 0 rfl rfl) rfl rfl rfl (Nat.le_of_ble_eq_true rfl) q_343 dX7_init_45 ?_
  refine i_aload_n X 0 dX7_init_48 rfl rfl ?_
  refine i_aload_n X 1 dX7_init_49 rfl rfl ?_
  refine i_putF X hin rfl (f := 0) (F := (k_ov [(23, .inr (7, [.null, .ref q24, .int 0, .int 0, .int 0, .int 0, .int 0, .int 0, .int 0])), (24, .inl (D.2.1 0, (800, .inl (fun _ => 0))))] F)) (F' := (k_ov [(23, .inr (7, [.ref a1, .ref q24, .int 0, .int 0, .int 0, .int 0, .int 0, .int 0, .int 0])), (24, .inl (D.2.1 0, (800, .inl (fun _ => 0))))] F)) kc7 23 rfl (by decide) (hA1 _ (List.mem_of_getElem? (i := 1) rfl)) rfl (k_ovq 0 rfl rfl) rfl rfl rfl (Nat.le_of_ble_eq_true rfl) q_334 dX7_init_50 ?_
  have hE : ∀ p ∈ ([(24, q24)] : List (Nat × Nat)), (k_up ad 24 q24) p.1 = p.2 := fun p hp => hA1 p (k_pick [0] rfl p hp)
  exact i_vret X rfl dX7_init_53 ⟨rfl, ho1, q24, hE, rfl⟩
set_option maxRecDepth 100000 in
set_option maxHeartbeats 4000000 in
theorem c_X3_init_17 {D : k_D} {F : Nat → Option va_E} {ad : Nat → Nat} {a0 a1 av : Nat} {fs : List Value} (ha0 : ad 17 = a0) (ha1 : ad 0 = a1) (hF0 : F 17 = some (.inr (3, [.null, .null, .null, .null, .null, .null, .null, .int 0]))) (hf : ∀ j, 18 ≤ j → j ≤ 22 → j ≠ 17 → F j = none) (hv : F 0 = some (.inr (10, fs))) (hv2 : fs[2]? = some (.ref av)) : Sf yX3_init cX3_init 2 none { frames := 1, cells := 5, slots := 120, locals := 60 } D F ad [.ref a0, .ref a1] (fun v F' ad' => v = none ∧ (∀ j, (j < 18 ∨ 22 < j) → ad' j = ad j) ∧ ∃ q18 q19 q20 q21 q22 : Nat, (∀ p ∈ ([(18, q18), (19, q19), (20, q20), (21, q21), (22, q22)] : List (Nat × Nat)), ad' p.1 = p.2) ∧ F' = k_ov [(22, .inl (D.2.1 0, (64, .inl (fun _ => 0)))), (21, .inl (D.2.1 0, (8, .inl (fun _ => 0)))), (20, .inl (D.2.1 2, (16, .inl (fun _ => 0)))), (19, .inl (D.2.1 2, (16, .inl (fun _ => 0)))), (17, .inr (3, [.ref a1, .ref av, .ref q18, .ref q19, .ref q20, .ref q21, .ref q22, .int 0])), (18, .inl (D.2.1 0, (16, .inl (fun _ => 0))))] F) := by
  refine Sf.of (by decide +kernel) (Nat.le_of_ble_eq_true rfl) ?_
  intro p l e s m a b me c A X hm
  have hin : me.name = "<init>" := hm
  have hA0 : ∀ p ∈ ([(17, a0), (0, a1)] : List (Nat × Nat)), ad p.1 = p.2 := by
    intro p hp
    simp only [List.mem_cons, List.not_mem_nil, or_false] at hp
    rcases hp with rfl | rfl
    · exact ha0
    · exact ha1
  have ho0 : ∀ j, (j < 18 ∨ 22 < j) → ad j = ad j := fun j _ => rfl
  refine i_aload_n X 0 dX3_init_0 rfl rfl ?_
  refine i_objInit X q_368 q_168 q_169 ⟨Nat.le_of_ble_eq_true rfl, Nat.le_of_ble_eq_true rfl⟩ dX3_init_1 ?_
  refine i_aload_n X 0 dX3_init_4 rfl rfl ?_
  refine i_bipush X (v := 16) dX3_init_5 rfl ?_
  refine i_newa X 0 (at_ := .int) (a0 := (16, .inl (fun _ => 0))) rfl rfl (fun h => h) 18 (hf 18 (by decide) (by decide) (by decide)) (fun _ => rfl) q_233 (by decide) rfl (Nat.le_of_ble_eq_true rfl) (Nat.le_of_ble_eq_true rfl) (Nat.le_of_ble_eq_true rfl) dX3_init_7 (fun q18 => ?_)
  have hA1 := k_adn (k1 := 18) (q := q18) hA0 rfl
  have ho1 := k_outn (k1 := 18) (q := q18) ho0 (by decide) (by decide)
  refine j_F (F2 := (k_ov [(18, .inl (D.2.1 0, (16, .inl (fun _ => 0))))] F)) (fun j => rfl) ?_
  refine i_putF X hin rfl (f := 2) (F := (k_ov [(18, .inl (D.2.1 0, (16, .inl (fun _ => 0))))] F)) (F' := (k_ov [(17, .inr (3, [.null, .null, .ref q18, .null, .null, .null, .null, .int 0])), (18, .inl (D.2.1 0, (16, .inl (fun _ => 0))))] F)) kc3 17 hF0 (by decide) (hA1 _ (List.mem_of_getElem? (i := 1) rfl)) rfl k_ovn rfl rfl rfl (Nat.le_of_ble_eq_true rfl) q_371 dX3_init_9 ?_
  refine i_aload_n X 0 dX3_init_12 rfl rfl ?_
  refine i_bipush X (v := 16) dX3_init_13 rfl ?_
  refine i_newa X 2 (at_ := .boolean) (a0 := (16, .inl (fun _ => 0))) rfl rfl (fun h => h) 19 (hf 19 (by decide) (by decide) (by decide)) (fun _ => rfl) q_403 (by decide) rfl (Nat.le_of_ble_eq_true rfl) (Nat.le_of_ble_eq_true rfl) (Nat.le_of_ble_eq_true rfl) dX3_init_15 (fun q19 => ?_)
  have hA2 := k_adn (k1 := 19) (q := q19) hA1 rfl
  have ho2 := k_outn (k1 := 19) (q := q19) ho1 (by decide) (by decide)
  refine j_F (F2 := (k_ov [(19, .inl (D.2.1 2, (16, .inl (fun _ => 0)))), (17, .inr (3, [.null, .null, .ref q18, .null, .null, .null, .null, .int 0])), (18, .inl (D.2.1 0, (16, .inl (fun _ => 0))))] F)) (fun j => rfl) ?_
  refine i_putF X hin rfl (f := 3) (F := (k_ov [(19, .inl (D.2.1 2, (16, .inl (fun _ => 0)))), (17, .inr (3, [.null, .null, .ref q18, .null, .null, .null, .null, .int 0])), (18, .inl (D.2.1 0, (16, .inl (fun _ => 0))))] F)) (F' := (k_ov [(19, .inl (D.2.1 2, (16, .inl (fun _ => 0)))), (17, .inr (3, [.null, .null, .ref q18, .ref q19, .null, .null, .null, .int 0])), (18, .inl (D.2.1 0, (16, .inl (fun _ => 0))))] F)) kc3 17 rfl (by decide) (hA2 _ (List.mem_of_getElem? (i := 2) rfl)) rfl (k_ovq 1 rfl rfl) rfl rfl rfl (Nat.le_of_ble_eq_true rfl) q_374 dX3_init_17 ?_
  refine i_aload_n X 0 dX3_init_20 rfl rfl ?_
  refine i_bipush X (v := 16) dX3_init_21 rfl ?_
  refine i_newa X 2 (at_ := .boolean) (a0 := (16, .inl (fun _ => 0))) rfl rfl (fun h => h) 20 (hf 20 (by decide) (by decide) (by decide)) (fun _ => rfl) q_403 (by decide) rfl (Nat.le_of_ble_eq_true rfl) (Nat.le_of_ble_eq_true rfl) (Nat.le_of_ble_eq_true rfl) dX3_init_23 (fun q20 => ?_)
  have hA3 := k_adn (k1 := 20) (q := q20) hA2 rfl
  have ho3 := k_outn (k1 := 20) (q := q20) ho2 (by decide) (by decide)
  refine j_F (F2 := (k_ov [(20, .inl (D.2.1 2, (16, .inl (fun _ => 0)))), (19, .inl (D.2.1 2, (16, .inl (fun _ => 0)))), (17, .inr (3, [.null, .null, .ref q18, .ref q19, .null, .null, .null, .int 0])), (18, .inl (D.2.1 0, (16, .inl (fun _ => 0))))] F)) (fun j => rfl) ?_
  refine i_putF X hin rfl (f := 4) (F := (k_ov [(20, .inl (D.2.1 2, (16, .inl (fun _ => 0)))), (19, .inl (D.2.1 2, (16, .inl (fun _ => 0)))), (17, .inr (3, [.null, .null, .ref q18, .ref q19, .null, .null, .null, .int 0])), (18, .inl (D.2.1 0, (16, .inl (fun _ => 0))))] F)) (F' := (k_ov [(20, .inl (D.2.1 2, (16, .inl (fun _ => 0)))), (19, .inl (D.2.1 2, (16, .inl (fun _ => 0)))), (17, .inr (3, [.null, .null, .ref q18, .ref q19, .ref q20, .null, .null, .int 0])), (18, .inl (D.2.1 0, (16, .inl (fun _ => 0))))] F)) kc3 17 rfl (by decide) (hA3 _ (List.mem_of_getElem? (i := 3) rfl)) rfl (k_ovq 2 rfl rfl) rfl rfl rfl (Nat.le_of_ble_eq_true rfl) q_380 dX3_init_25 ?_
  refine i_aload_n X 0 dX3_init_28 rfl rfl ?_
  refine i_bipush X (v := 8) dX3_init_29 rfl ?_
  refine i_newa X 0 (at_ := .int) (a0 := (8, .inl (fun _ => 0))) rfl rfl (fun h => h) 21 (hf 21 (by decide) (by decide) (by decide)) (fun _ => rfl) q_233 (by decide) rfl (Nat.le_of_ble_eq_true rfl) (Nat.le_of_ble_eq_true rfl) (Nat.le_of_ble_eq_true rfl) dX3_init_31 (fun q21 => ?_)
  have hA4 := k_adn (k1 := 21) (q := q21) hA3 rfl
  have ho4 := k_outn (k1 := 21) (q := q21) ho3 (by decide) (by decide)
  refine j_F (F2 := (k_ov [(21, .inl (D.2.1 0, (8, .inl (fun _ => 0)))), (20, .inl (D.2.1 2, (16, .inl (fun _ => 0)))), (19, .inl (D.2.1 2, (16, .inl (fun _ => 0)))), (17, .inr (3, [.null, .null, .ref q18, .ref q19, .ref q20, .null, .null, .int 0])), (18, .inl (D.2.1 0, (16, .inl (fun _ => 0))))] F)) (fun j => rfl) ?_
  refine i_putF X hin rfl (f := 5) (F := (k_ov [(21, .inl (D.2.1 0, (8, .inl (fun _ => 0)))), (20, .inl (D.2.1 2, (16, .inl (fun _ => 0)))), (19, .inl (D.2.1 2, (16, .inl (fun _ => 0)))), (17, .inr (3, [.null, .null, .ref q18, .ref q19, .ref q20, .null, .null, .int 0])), (18, .inl (D.2.1 0, (16, .inl (fun _ => 0))))] F)) (F' := (k_ov [(21, .inl (D.2.1 0, (8, .inl (fun _ => 0)))), (20, .inl (D.2.1 2, (16, .inl (fun _ => 0)))), (19, .inl (D.2.1 2, (16, .inl (fun _ => 0)))), (17, .inr (3, [.null, .null, .ref q18, .ref q19, .ref q20, .ref q21, .null, .int 0])), (18, .inl (D.2.1 0, (16, .inl (fun _ => 0))))] F)) kc3 17 rfl (by decide) (hA4 _ (List.mem_of_getElem? (i := 4) rfl)) rfl (k_ovq 3 rfl rfl) rfl rfl rfl (Nat.le_of_ble_eq_true rfl) q_383 dX3_init_33 ?_
  refine i_aload_n X 0 dX3_init_36 rfl rfl ?_
  refine i_bipush X (v := 64) dX3_init_37 rfl ?_
  refine i_newa X 0 (at_ := .int) (a0 := (64, .inl (fun _ => 0))) rfl rfl (fun h => h) 22 (hf 22 (by decide) (by decide) (by decide)) (fun _ => rfl) q_233 (by decide) rfl (Nat.le_of_ble_eq_true rfl) (Nat.le_of_ble_eq_true rfl) (Nat.le_of_ble_eq_true rfl) dX3_init_39 (fun q22 => ?_)
  have hA5 := k_adn (k1 := 22) (q := q22) hA4 rfl
  have ho5 := k_outn (k1 := 22) (q := q22) ho4 (by decide) (by decide)
  refine j_F (F2 := (k_ov [(22, .inl (D.2.1 0, (64, .inl (fun _ => 0)))), (21, .inl (D.2.1 0, (8, .inl (fun _ => 0)))), (20, .inl (D.2.1 2, (16, .inl (fun _ => 0)))), (19, .inl (D.2.1 2, (16, .inl (fun _ => 0)))), (17, .inr (3, [.null, .null, .ref q18, .ref q19, .ref q20, .ref q21, .null, .int 0])), (18, .inl (D.2.1 0, (16, .inl (fun _ => 0))))] F)) (fun j => rfl) ?_
  refine i_putF X hin rfl (f := 6) (F := (k_ov [(22, .inl (D.2.1 0, (64, .inl (fun _ => 0)))), (21, .inl (D.2.1 0, (8, .inl (fun _ => 0)))), (20, .inl (D.2.1 2, (16, .inl (fun _ => 0)))), (19, .inl (D.2.1 2, (16, .inl (fun _ => 0)))), (17, .inr (3, [.null, .null, .ref q18, .ref q19, .ref q20, .ref q21, .null, .int 0])), (18, .inl (D.2.1 0, (16, .inl (fun _ => 0))))] F)) (F' := (k_ov [(22, .inl (D.2.1 0, (64, .inl (fun _ => 0)))), (21, .inl (D.2.1 0, (8, .inl (fun _ => 0)))), (20, .inl (D.2.1 2, (16, .inl (fun _ => 0)))), (19, .inl (D.2.1 2, (16, .inl (fun _ => 0)))), (17, .inr (3, [.null, .null, .ref q18, .ref q19, .ref q20, .ref q21, .ref q22, .int 0])), (18, .inl (D.2.1 0, (16, .inl (fun _ => 0))))] F)) kc3 17 rfl (by decide) (hA5 _ (List.mem_of_getElem? (i := 5) rfl)) rfl (k_ovq 4 rfl rfl) rfl rfl rfl (Nat.le_of_ble_eq_true rfl) q_384 dX3_init_41 ?_
  refine i_aload_n X 0 dX3_init_44 rfl rfl ?_
  refine i_iconst X (v := 0) dX3_init_45 rfl ?_
  refine i_put X (f := 7) (F := (k_ov [(22, .inl (D.2.1 0, (64, .inl (fun _ => 0)))), (21, .inl (D.2.1 0, (8, .inl (fun _ => 0)))), (20, .inl (D.2.1 2, (16, .inl (fun _ => 0)))), (19, .inl (D.2.1 2, (16, .inl (fun _ => 0)))), (17, .inr (3, [.null, .null, .ref q18, .ref q19, .ref q20, .ref q21, .ref q22, .int 0])), (18, .inl (D.2.1 0, (16, .inl (fun _ => 0))))] F)) (F' := (k_ov [(22, .inl (D.2.1 0, (64, .inl (fun _ => 0)))), (21, .inl (D.2.1 0, (8, .inl (fun _ => 0)))), (20, .inl (D.2.1 2, (16, .inl (fun _ => 0)))), (19, .inl (D.2.1 2, (16, .inl (fun _ => 0)))), (17, .inr (3, [.null, .null, .ref q18, .ref q19, .ref q20, .ref q21, .ref q22, .int 0])), (18, .inl (D.2.1 0, (16, .inl (fun _ => 0))))] F)) kc3 17 rfl (by decide) (hA5 _ (List.mem_of_getElem? (i := 5) rfl)) rfl (k_ovq 4 rfl rfl) rfl rfl rfl (Nat.le_of_ble_eq_true rfl) q_385 dX3_init_46 ?_
  refine i_aload_n X 0 dX3_init_49 rfl rfl ?_
  refine i_aload_n X 1 dX3_init_50 rfl rfl ?_
  refine i_putF X hin rfl (f := 0) (F := (k_ov [(22, .inl (D.2.1 0, (64, .inl (fun _ => 0)))), (21, .inl (D.2.1 0, (8, .inl (fun _ => 0)))), (20, .inl (D.2.1 2, (16, .inl (fun _ => 0)))), (19, .inl (D.2.1 2, (16, .inl (fun _ => 0)))), (17, .inr (3, [.null, .null, .ref q18, .ref q19, .ref q20, .ref q21, .ref q22, .int 0])), (18, .inl (D.2.1 0, (16, .inl (fun _ => 0))))] F)) (F' := (k_ov [(22, .inl (D.2.1 0, (64, .inl (fun _ => 0)))), (21, .inl (D.2.1 0, (8, .inl (fun _ => 0)))), (20, .inl (D.2.1 2, (16, .inl (fun _ => 0)))), (19, .inl (D.2.1 2, (16, .inl (fun _ => 0)))), (17, .inr (3, [.ref a1, .null, .ref q18, .ref q19, .ref q20, .ref q21, .ref q22, .int 0])), (18, .inl (D.2.1 0, (16, .inl (fun _ => 0))))] F)) kc3 17 rfl (by decide) (hA5 _ (List.mem_of_getElem? (i := 5) rfl)) rfl (k_ovq 4 rfl rfl) rfl rfl rfl (Nat.le_of_ble_eq_true rfl) q_369 dX3_init_51 ?_
  refine i_aload_n X 0 dX3_init_54 rfl rfl ?_
  refine i_aload_n X 1 dX3_init_55 rfl rfl ?_
  refine i_getN X (f := 2) (F := (k_ov [(22, .inl (D.2.1 0, (64, .inl (fun _ => 0)))), (21, .inl (D.2.1 0, (8, .inl (fun _ => 0)))), (20, .inl (D.2.1 2, (16, .inl (fun _ => 0)))), (19, .inl (D.2.1 2, (16, .inl (fun _ => 0)))), (17, .inr (3, [.ref a1, .null, .ref q18, .ref q19, .ref q20, .ref q21, .ref q22, .int 0])), (18, .inl (D.2.1 0, (16, .inl (fun _ => 0))))] F)) kc10 0 hv (by decide) hv2 (hA5 _ (List.mem_of_getElem? (i := 6) rfl)) q_246 dX3_init_56 ?_
  refine i_putF X hin rfl (f := 1) (F := (k_ov [(22, .inl (D.2.1 0, (64, .inl (fun _ => 0)))), (21, .inl (D.2.1 0, (8, .inl (fun _ => 0)))), (20, .inl (D.2.1 2, (16, .inl (fun _ => 0)))), (19, .inl (D.2.1 2, (16, .inl (fun _ => 0)))), (17, .inr (3, [.ref a1, .null, .ref q18, .ref q19, .ref q20, .ref q21, .ref q22, .int 0])), (18, .inl (D.2.1 0, (16, .inl (fun _ => 0))))] F)) (F' := (k_ov [(22, .inl (D.2.1 0, (64, .inl (fun _ => 0)))), (21, .inl (D.2.1 0, (8, .inl (fun _ => 0)))), (20, .inl (D.2.1 2, (16, .inl (fun _ => 0)))), (19, .inl (D.2.1 2, (16, .inl (fun _ => 0)))), (17, .inr (3, [.ref a1, .ref av, .ref q18, .ref q19, .ref q20, .ref q21, .ref q22, .int 0])), (18, .inl (D.2.1 0, (16, .inl (fun _ => 0))))] F)) kc3 17 rfl (by decide) (hA5 _ (List.mem_of_getElem? (i := 5) rfl)) rfl (k_ovq 4 rfl rfl) rfl rfl rfl (Nat.le_of_ble_eq_true rfl) q_370 dX3_init_59 ?_
  have hE : ∀ p ∈ ([(18, q18), (19, q19), (20, q20), (21, q21), (22, q22)] : List (Nat × Nat)), (k_up (k_up (k_up (k_up (k_up ad 18 q18) 19 q19) 20 q20) 21 q21) 22 q22) p.1 = p.2 := fun p hp => hA5 p (k_pick [4, 3, 2, 1, 0] rfl p hp)
  exact i_vret X rfl dX3_init_62 ⟨rfl, ho5, q18, q19, q20, q21, q22, hE, rfl⟩
set_option maxRecDepth 100000 in
set_option maxHeartbeats 4000000 in
theorem c_X4_init_25 {D : k_D} {F : Nat → Option va_E} {ad : Nat → Nat} {a0 a1 a2 av : Nat} {fs : List Value} (ha0 : ad 25 = a0) (ha1 : ad 0 = a1) (ha2 : ad 17 = a2) (hF0 : F 25 = some (.inr (4, [.null, .null, .null, .null, .null, .int 0]))) (hf : ∀ j, 26 ≤ j → j ≤ 28 → j ≠ 25 → F j = none) (hv : F 0 = some (.inr (10, fs))) (hv2 : fs[2]? = some (.ref av)) : Sf yX4_init cX4_init 3 none { frames := 1, cells := 3, slots := 520, locals := 60 } D F ad [.ref a0, .ref a1, .ref a2] (fun v F' ad' => v = none ∧ (∀ j, (j < 26 ∨ 28 < j) → ad' j = ad j) ∧ ∃ q26 q27 q28 : Nat, (∀ p ∈ ([(26, q26), (27, q27), (28, q28)] : List (Nat × Nat)), ad' p.1 = p.2) ∧ F' = k_ov [(28, .inl (D.2.1 0, (256, .inl (fun _ => 0)))), (27, .inl (D.2.1 0, (256, .inl (fun _ => 0)))), (25, .inr (4, [.ref av, .ref a2, .ref q26, .ref q27, .ref q28, .int 0])), (26, .inl (D.2.1 0, (8, .inl (fun _ => 0))))] F) := by
  refine Sf.of (by decide +kernel) (Nat.le_of_ble_eq_true rfl) ?_
  intro p l e s m a b me c A X hm
  have hin : me.name = "<init>" := hm
  have hA0 : ∀ p ∈ ([(25, a0), (0, a1), (17, a2)] : List (Nat × Nat)), ad p.1 = p.2 := by
    intro p hp
    simp only [List.mem_cons, List.not_mem_nil, or_false] at hp
    rcases hp with rfl | rfl | rfl
    · exact ha0
    · exact ha1
    · exact ha2
  have ho0 : ∀ j, (j < 26 ∨ 28 < j) → ad j = ad j := fun j _ => rfl
  refine i_aload_n X 0 dX4_init_0 rfl rfl ?_
  refine i_objInit X q_409 q_168 q_169 ⟨Nat.le_of_ble_eq_true rfl, Nat.le_of_ble_eq_true rfl⟩ dX4_init_1 ?_
  refine i_aload_n X 0 dX4_init_4 rfl rfl ?_
  refine i_bipush X (v := 8) dX4_init_5 rfl ?_
  refine i_newa X 0 (at_ := .int) (a0 := (8, .inl (fun _ => 0))) rfl rfl (fun h => h) 26 (hf 26 (by decide) (by decide) (by decide)) (fun _ => rfl) q_233 (by decide) rfl (Nat.le_of_ble_eq_true rfl) (Nat.le_of_ble_eq_true rfl) (Nat.le_of_ble_eq_true rfl) dX4_init_7 (fun q26 => ?_)
  have hA1 := k_adn (k1 := 26) (q := q26) hA0 rfl
  have ho1 := k_outn (k1 := 26) (q := q26) ho0 (by decide) (by decide)
  refine j_F (F2 := (k_ov [(26, .inl (D.2.1 0, (8, .inl (fun _ => 0))))] F)) (fun j => rfl) ?_
  refine i_putF X hin rfl (f := 2) (F := (k_ov [(26, .inl (D.2.1 0, (8, .inl (fun _ => 0))))] F)) (F' := (k_ov [(25, .inr (4, [.null, .null, .ref q26, .null, .null, .int 0])), (26, .inl (D.2.1 0, (8, .inl (fun _ => 0))))] F)) kc4 25 hF0 (by decide) (hA1 _ (List.mem_of_getElem? (i := 1) rfl)) rfl k_ovn rfl rfl rfl (Nat.le_of_ble_eq_true rfl) q_412 dX4_init_9 ?_
  refine i_aload_n X 0 dX4_init_12 rfl rfl ?_
  refine i_sipush X (v := 256) dX4_init_13 rfl ?_
  refine i_newa X 0 (at_ := .int) (a0 := (256, .inl (fun _ => 0))) rfl rfl (fun h => h) 27 (hf 27 (by decide) (by decide) (by decide)) (fun _ => rfl) q_233 (by decide) rfl (Nat.le_of_ble_eq_true rfl) (Nat.le_of_ble_eq_true rfl) (Nat.le_of_ble_eq_true rfl) dX4_init_16 (fun q27 => ?_)
  have hA2 := k_adn (k1 := 27) (q := q27) hA1 rfl
  have ho2 := k_outn (k1 := 27) (q := q27) ho1 (by decide) (by decide)
  refine j_F (F2 := (k_ov [(27, .inl (D.2.1 0, (256, .inl (fun _ => 0)))), (25, .inr (4, [.null, .null, .ref q26, .null, .null, .int 0])), (26, .inl (D.2.1 0, (8, .inl (fun _ => 0))))] F)) (fun j => rfl) ?_
  refine i_putF X hin rfl (f := 3) (F := (k_ov [(27, .inl (D.2.1 0, (256, .inl (fun _ => 0)))), (25, .inr (4, [.null, .null, .ref q26, .null, .null, .int 0])), (26, .inl (D.2.1 0, (8, .inl (fun _ => 0))))] F)) (F' := (k_ov [(27, .inl (D.2.1 0, (256, .inl (fun _ => 0)))), (25, .inr (4, [.null, .null, .ref q26, .ref q27, .null, .int 0])), (26, .inl (D.2.1 0, (8, .inl (fun _ => 0))))] F)) kc4 25 rfl (by decide) (hA2 _ (List.mem_of_getElem? (i := 2) rfl)) rfl (k_ovq 1 rfl rfl) rfl rfl rfl (Nat.le_of_ble_eq_true rfl) q_414 dX4_init_18 ?_
  refine i_aload_n X 0 dX4_init_21 rfl rfl ?_
  refine i_sipush X (v := 256) dX4_init_22 rfl ?_
  refine i_newa X 0 (at_ := .int) (a0 := (256, .inl (fun _ => 0))) rfl rfl (fun h => h) 28 (hf 28 (by decide) (by decide) (by decide)) (fun _ => rfl) q_233 (by decide) rfl (Nat.le_of_ble_eq_true rfl) (Nat.le_of_ble_eq_true rfl) (Nat.le_of_ble_eq_true rfl) dX4_init_25 (fun q28 => ?_)
  have hA3 := k_adn (k1 := 28) (q := q28) hA2 rfl
  have ho3 := k_outn (k1 := 28) (q := q28) ho2 (by decide) (by decide)
  refine j_F (F2 := (k_ov [(28, .inl (D.2.1 0, (256, .inl (fun _ => 0)))), (27, .inl (D.2.1 0, (256, .inl (fun _ => 0)))), (25, .inr (4, [.null, .null, .ref q26, .ref q27, .null, .int 0])), (26, .inl (D.2.1 0, (8, .inl (fun _ => 0))))] F)) (fun j => rfl) ?_
  refine i_putF X hin rfl (f := 4) (F := (k_ov [(28, .inl (D.2.1 0, (256, .inl (fun _ => 0)))), (27, .inl (D.2.1 0, (256, .inl (fun _ => 0)))), (25, .inr (4, [.null, .null, .ref q26, .ref q27, .null, .int 0])), (26, .inl (D.2.1 0, (8, .inl (fun _ => 0))))] F)) (F' := (k_ov [(28, .inl (D.2.1 0, (256, .inl (fun _ => 0)))), (27, .inl (D.2.1 0, (256, .inl (fun _ => 0)))), (25, .inr (4, [.null, .null, .ref q26, .ref q27, .ref q28, .int 0])), (26, .inl (D.2.1 0, (8, .inl (fun _ => 0))))] F)) kc4 25 rfl (by decide) (hA3 _ (List.mem_of_getElem? (i := 3) rfl)) rfl (k_ovq 2 rfl rfl) rfl rfl rfl (Nat.le_of_ble_eq_true rfl) q_415 dX4_init_27 ?_
  refine i_aload_n X 0 dX4_init_30 rfl rfl ?_
  refine i_iconst X (v := 0) dX4_init_31 rfl ?_
  refine i_put X (f := 5) (F := (k_ov [(28, .inl (D.2.1 0, (256, .inl (fun _ => 0)))), (27, .inl (D.2.1 0, (256, .inl (fun _ => 0)))), (25, .inr (4, [.null, .null, .ref q26, .ref q27, .ref q28, .int 0])), (26, .inl (D.2.1 0, (8, .inl (fun _ => 0))))] F)) (F' := (k_ov [(28, .inl (D.2.1 0, (256, .inl (fun _ => 0)))), (27, .inl (D.2.1 0, (256, .inl (fun _ => 0)))), (25, .inr (4, [.null, .null, .ref q26, .ref q27, .ref q28, .int 0])), (26, .inl (D.2.1 0, (8, .inl (fun _ => 0))))] F)) kc4 25 rfl (by decide) (hA3 _ (List.mem_of_getElem? (i := 3) rfl)) rfl (k_ovq 2 rfl rfl) rfl rfl rfl (Nat.le_of_ble_eq_true rfl) q_416 dX4_init_32 ?_
  refine i_aload_n X 0 dX4_init_35 rfl rfl ?_
  refine i_aload_n X 1 dX4_init_36 rfl rfl ?_
  refine i_getN X (f := 2) (F := (k_ov [(28, .inl (D.2.1 0, (256, .inl (fun _ => 0)))), (27, .inl (D.2.1 0, (256, .inl (fun _ => 0)))), (25, .inr (4, [.null, .null, .ref q26, .ref q27, .ref q28, .int 0])), (26, .inl (D.2.1 0, (8, .inl (fun _ => 0))))] F)) kc10 0 hv (by decide) hv2 (hA3 _ (List.mem_of_getElem? (i := 4) rfl)) q_244 dX4_init_37 ?_
  refine i_putF X hin rfl (f := 0) (F := (k_ov [(28, .inl (D.2.1 0, (256, .inl (fun _ => 0)))), (27, .inl (D.2.1 0, (256, .inl (fun _ => 0)))), (25, .inr (4, [.null, .null, .ref q26, .ref q27, .ref q28, .int 0])), (26, .inl (D.2.1 0, (8, .inl (fun _ => 0))))] F)) (F' := (k_ov [(28, .inl (D.2.1 0, (256, .inl (fun _ => 0)))), (27, .inl (D.2.1 0, (256, .inl (fun _ => 0)))), (25, .inr (4, [.ref av, .null, .ref q26, .ref q27, .ref q28, .int 0])), (26, .inl (D.2.1 0, (8, .inl (fun _ => 0))))] F)) kc4 25 rfl (by decide) (hA3 _ (List.mem_of_getElem? (i := 3) rfl)) rfl (k_ovq 2 rfl rfl) rfl rfl rfl (Nat.le_of_ble_eq_true rfl) q_410 dX4_init_40 ?_
  refine i_aload_n X 0 dX4_init_43 rfl rfl ?_
  refine i_aload_n X 2 dX4_init_44 rfl rfl ?_
  refine i_putF X hin rfl (f := 1) (F := (k_ov [(28, .inl (D.2.1 0, (256, .inl (fun _ => 0)))), (27, .inl (D.2.1 0, (256, .inl (fun _ => 0)))), (25, .inr (4, [.ref av, .null, .ref q26, .ref q27, .ref q28, .int 0])), (26, .inl (D.2.1 0, (8, .inl (fun _ => 0))))] F)) (F' := (k_ov [(28, .inl (D.2.1 0, (256, .inl (fun _ => 0)))), (27, .inl (D.2.1 0, (256, .inl (fun _ => 0)))), (25, .inr (4, [.ref av, .ref a2, .ref q26, .ref q27, .ref q28, .int 0])), (26, .inl (D.2.1 0, (8, .inl (fun _ => 0))))] F)) kc4 25 rfl (by decide) (hA3 _ (List.mem_of_getElem? (i := 3) rfl)) rfl (k_ovq 2 rfl rfl) rfl rfl rfl (Nat.le_of_ble_eq_true rfl) q_411 dX4_init_45 ?_
  have hE : ∀ p ∈ ([(26, q26), (27, q27), (28, q28)] : List (Nat × Nat)), (k_up (k_up (k_up ad 26 q26) 27 q27) 28 q28) p.1 = p.2 := fun p hp => hA3 p (k_pick [2, 1, 0] rfl p hp)
  exact i_vret X rfl dX4_init_48 ⟨rfl, ho3, q26, q27, q28, hE, rfl⟩
set_option maxRecDepth 100000 in
set_option maxHeartbeats 4000000 in
theorem c_X8_init_29 {D : k_D} {F : Nat → Option va_E} {ad : Nat → Nat} {a0 a1 a2 av : Nat} {fs : List Value} (ha0 : ad 29 = a0) (ha1 : ad 0 = a1) (ha2 : ad 17 = a2) (hF0 : F 29 = some (.inr (8, [.null, .null, .null, .null, .int 0, .int 0]))) (hf : ∀ j, 30 ≤ j → j ≤ 31 → j ≠ 29 → F j = none) (hv : F 0 = some (.inr (10, fs))) (hv2 : fs[2]? = some (.ref av)) : Sf yX8_init cX8_init 3 none { frames := 1, cells := 2, slots := 16, locals := 60 } D F ad [.ref a0, .ref a1, .ref a2] (fun v F' ad' => v = none ∧ (∀ j, (j < 30 ∨ 31 < j) → ad' j = ad j) ∧ ∃ q30 q31 : Nat, (∀ p ∈ ([(30, q30), (31, q31)] : List (Nat × Nat)), ad' p.1 = p.2) ∧ F' = k_ov [(31, .inl (D.2.1 0, (8, .inl (fun _ => 0)))), (29, .inr (8, [.ref av, .ref a2, .ref q30, .ref q31, .int 0, .int (-1)])), (30, .inl (D.2.1 0, (8, .inl (fun _ => 0))))] F) := by
  refine Sf.of (by decide +kernel) (Nat.le_of_ble_eq_true rfl) ?_
  intro p l e s m a b me c A X hm
  have hin : me.name = "<init>" := hm
  have hA0 : ∀ p ∈ ([(29, a0), (0, a1), (17, a2)] : List (Nat × Nat)), ad p.1 = p.2 := by
    intro p hp
    simp only [List.mem_cons, List.not_mem_nil, or_false] at hp
    rcases hp with rfl | rfl | rfl
    · exact ha0
    · exact ha1
    · exact ha2
  have ho0 : ∀ j, (j < 30 ∨ 31 < j) → ad j = ad j := fun j _ => rfl
  refine i_aload_n X 0 dX8_init_0 rfl rfl ?_
  refine i_objInit X q_436 q_168 q_169 ⟨Nat.le_of_ble_eq_true rfl, Nat.le_of_ble_eq_true rfl⟩ dX8_init_1 ?_
  refine i_aload_n X 0 dX8_init_4 rfl rfl ?_
  refine i_bipush X (v := 8) dX8_init_5 rfl ?_
  refine i_newa X 0 (at_ := .int) (a0 := (8, .inl (fun _ => 0))) rfl rfl (fun h => h) 30 (hf 30 (by decide) (by decide) (by decide)) (fun _ => rfl) q_233 (by decide) rfl (Nat.le_of_ble_eq_true rfl) (Nat.le_of_ble_eq_true rfl) (Nat.le_of_ble_eq_true rfl) dX8_init_7 (fun q30 => ?_)
  have hA1 := k_adn (k1 := 30) (q := q30) hA0 rfl
  have ho1 := k_outn (k1 := 30) (q := q30) ho0 (by decide) (by decide)
  refine j_F (F2 := (k_ov [(30, .inl (D.2.1 0, (8, .inl (fun _ => 0))))] F)) (fun j => rfl) ?_
  refine i_putF X hin rfl (f := 2) (F := (k_ov [(30, .inl (D.2.1 0, (8, .inl (fun _ => 0))))] F)) (F' := (k_ov [(29, .inr (8, [.null, .null, .ref q30, .null, .int 0, .int 0])), (30, .inl (D.2.1 0, (8, .inl (fun _ => 0))))] F)) kc8 29 hF0 (by decide) (hA1 _ (List.mem_of_getElem? (i := 1) rfl)) rfl k_ovn rfl rfl rfl (Nat.le_of_ble_eq_true rfl) q_439 dX8_init_9 ?_
  refine i_aload_n X 0 dX8_init_12 rfl rfl ?_
  refine i_bipush X (v := 8) dX8_init_13 rfl ?_
  refine i_newa X 0 (at_ := .int) (a0 := (8, .inl (fun _ => 0))) rfl rfl (fun h => h) 31 (hf 31 (by decide) (by decide) (by decide)) (fun _ => rfl) q_233 (by decide) rfl (Nat.le_of_ble_eq_true rfl) (Nat.le_of_ble_eq_true rfl) (Nat.le_of_ble_eq_true rfl) dX8_init_15 (fun q31 => ?_)
  have hA2 := k_adn (k1 := 31) (q := q31) hA1 rfl
  have ho2 := k_outn (k1 := 31) (q := q31) ho1 (by decide) (by decide)
  refine j_F (F2 := (k_ov [(31, .inl (D.2.1 0, (8, .inl (fun _ => 0)))), (29, .inr (8, [.null, .null, .ref q30, .null, .int 0, .int 0])), (30, .inl (D.2.1 0, (8, .inl (fun _ => 0))))] F)) (fun j => rfl) ?_
  refine i_putF X hin rfl (f := 3) (F := (k_ov [(31, .inl (D.2.1 0, (8, .inl (fun _ => 0)))), (29, .inr (8, [.null, .null, .ref q30, .null, .int 0, .int 0])), (30, .inl (D.2.1 0, (8, .inl (fun _ => 0))))] F)) (F' := (k_ov [(31, .inl (D.2.1 0, (8, .inl (fun _ => 0)))), (29, .inr (8, [.null, .null, .ref q30, .ref q31, .int 0, .int 0])), (30, .inl (D.2.1 0, (8, .inl (fun _ => 0))))] F)) kc8 29 rfl (by decide) (hA2 _ (List.mem_of_getElem? (i := 2) rfl)) rfl (k_ovq 1 rfl rfl) rfl rfl rfl (Nat.le_of_ble_eq_true rfl) q_440 dX8_init_17 ?_
  refine i_aload_n X 0 dX8_init_20 rfl rfl ?_
  refine i_iconst X (v := 0) dX8_init_21 rfl ?_
  refine i_put X (f := 4) (F := (k_ov [(31, .inl (D.2.1 0, (8, .inl (fun _ => 0)))), (29, .inr (8, [.null, .null, .ref q30, .ref q31, .int 0, .int 0])), (30, .inl (D.2.1 0, (8, .inl (fun _ => 0))))] F)) (F' := (k_ov [(31, .inl (D.2.1 0, (8, .inl (fun _ => 0)))), (29, .inr (8, [.null, .null, .ref q30, .ref q31, .int 0, .int 0])), (30, .inl (D.2.1 0, (8, .inl (fun _ => 0))))] F)) kc8 29 rfl (by decide) (hA2 _ (List.mem_of_getElem? (i := 2) rfl)) rfl (k_ovq 1 rfl rfl) rfl rfl rfl (Nat.le_of_ble_eq_true rfl) q_442 dX8_init_22 ?_
  refine i_aload_n X 0 dX8_init_25 rfl rfl ?_
  refine i_iconst X (v := -1) dX8_init_26 rfl ?_
  refine i_put X (f := 5) (F := (k_ov [(31, .inl (D.2.1 0, (8, .inl (fun _ => 0)))), (29, .inr (8, [.null, .null, .ref q30, .ref q31, .int 0, .int 0])), (30, .inl (D.2.1 0, (8, .inl (fun _ => 0))))] F)) (F' := (k_ov [(31, .inl (D.2.1 0, (8, .inl (fun _ => 0)))), (29, .inr (8, [.null, .null, .ref q30, .ref q31, .int 0, .int (-1)])), (30, .inl (D.2.1 0, (8, .inl (fun _ => 0))))] F)) kc8 29 rfl (by decide) (hA2 _ (List.mem_of_getElem? (i := 2) rfl)) rfl (k_ovq 1 rfl rfl) rfl rfl rfl (Nat.le_of_ble_eq_true rfl) q_444 dX8_init_27 ?_
  refine i_aload_n X 0 dX8_init_30 rfl rfl ?_
  refine i_aload_n X 1 dX8_init_31 rfl rfl ?_
  refine i_getN X (f := 2) (F := (k_ov [(31, .inl (D.2.1 0, (8, .inl (fun _ => 0)))), (29, .inr (8, [.null, .null, .ref q30, .ref q31, .int 0, .int (-1)])), (30, .inl (D.2.1 0, (8, .inl (fun _ => 0))))] F)) kc10 0 hv (by decide) hv2 (hA2 _ (List.mem_of_getElem? (i := 3) rfl)) q_243 dX8_init_32 ?_
  refine i_putF X hin rfl (f := 0) (F := (k_ov [(31, .inl (D.2.1 0, (8, .inl (fun _ => 0)))), (29, .inr (8, [.null, .null, .ref q30, .ref q31, .int 0, .int (-1)])), (30, .inl (D.2.1 0, (8, .inl (fun _ => 0))))] F)) (F' := (k_ov [(31, .inl (D.2.1 0, (8, .inl (fun _ => 0)))), (29, .inr (8, [.ref av, .null, .ref q30, .ref q31, .int 0, .int (-1)])), (30, .inl (D.2.1 0, (8, .inl (fun _ => 0))))] F)) kc8 29 rfl (by decide) (hA2 _ (List.mem_of_getElem? (i := 2) rfl)) rfl (k_ovq 1 rfl rfl) rfl rfl rfl (Nat.le_of_ble_eq_true rfl) q_437 dX8_init_35 ?_
  refine i_aload_n X 0 dX8_init_38 rfl rfl ?_
  refine i_aload_n X 2 dX8_init_39 rfl rfl ?_
  refine i_putF X hin rfl (f := 1) (F := (k_ov [(31, .inl (D.2.1 0, (8, .inl (fun _ => 0)))), (29, .inr (8, [.ref av, .null, .ref q30, .ref q31, .int 0, .int (-1)])), (30, .inl (D.2.1 0, (8, .inl (fun _ => 0))))] F)) (F' := (k_ov [(31, .inl (D.2.1 0, (8, .inl (fun _ => 0)))), (29, .inr (8, [.ref av, .ref a2, .ref q30, .ref q31, .int 0, .int (-1)])), (30, .inl (D.2.1 0, (8, .inl (fun _ => 0))))] F)) kc8 29 rfl (by decide) (hA2 _ (List.mem_of_getElem? (i := 2) rfl)) rfl (k_ovq 1 rfl rfl) rfl rfl rfl (Nat.le_of_ble_eq_true rfl) q_438 dX8_init_40 ?_
  have hE : ∀ p ∈ ([(30, q30), (31, q31)] : List (Nat × Nat)), (k_up (k_up ad 30 q30) 31 q31) p.1 = p.2 := fun p hp => hA2 p (k_pick [1, 0] rfl p hp)
  exact i_vret X rfl dX8_init_43 ⟨rfl, ho2, q30, q31, hE, rfl⟩
def k_X2_init_32_0 : Nat → Int64 := vp_updL (fun _ => 0) (15 : Int32).toNatClampNeg (1 : Int64)
def k_X2_init_32_1 : Nat → Int64 := vp_updL (k_X2_init_32_0) (14 : Int32).toNatClampNeg (10 : Int64)
def k_X2_init_32_2 : Nat → Int64 := vp_updL (k_X2_init_32_1) (13 : Int32).toNatClampNeg (100 : Int64)
def k_X2_init_32_3 : Nat → Int64 := vp_updL (k_X2_init_32_2) (12 : Int32).toNatClampNeg (1000 : Int64)
def k_X2_init_32_4 : Nat → Int64 := vp_updL (k_X2_init_32_3) (11 : Int32).toNatClampNeg (10000 : Int64)
def k_X2_init_32_5 : Nat → Int64 := vp_updL (k_X2_init_32_4) (10 : Int32).toNatClampNeg (100000 : Int64)
def k_X2_init_32_6 : Nat → Int64 := vp_updL (k_X2_init_32_5) (9 : Int32).toNatClampNeg (1000000 : Int64)
def k_X2_init_32_7 : Nat → Int64 := vp_updL (k_X2_init_32_6) (8 : Int32).toNatClampNeg (10000000 : Int64)
def k_X2_init_32_8 : Nat → Int64 := vp_updL (k_X2_init_32_7) (7 : Int32).toNatClampNeg (100000000 : Int64)
def k_X2_init_32_9 : Nat → Int64 := vp_updL (k_X2_init_32_8) (6 : Int32).toNatClampNeg (1000000000 : Int64)
def k_X2_init_32_10 : Nat → Int64 := vp_updL (k_X2_init_32_9) (5 : Int32).toNatClampNeg (10000000000 : Int64)
def k_X2_init_32_11 : Nat → Int64 := vp_updL (k_X2_init_32_10) (4 : Int32).toNatClampNeg (100000000000 : Int64)
def k_X2_init_32_12 : Nat → Int64 := vp_updL (k_X2_init_32_11) (3 : Int32).toNatClampNeg (1000000000000 : Int64)
def k_X2_init_32_13 : Nat → Int64 := vp_updL (k_X2_init_32_12) (2 : Int32).toNatClampNeg (10000000000000 : Int64)
def k_X2_init_32_14 : Nat → Int64 := vp_updL (k_X2_init_32_13) (1 : Int32).toNatClampNeg (100000000000000 : Int64)
def k_X2_init_32_15 : Nat → Int64 := vp_updL (k_X2_init_32_14) (0 : Int32).toNatClampNeg (1000000000000000 : Int64)
set_option maxRecDepth 100000 in
set_option maxHeartbeats 4000000 in
theorem c_X2_init_32 {D : k_D} {F : Nat → Option va_E} {ad : Nat → Nat} {a0 a1 a2 av : Nat} {fs : List Value} (ha0 : ad 32 = a0) (ha1 : ad 0 = a1) (ha2 : ad 17 = a2) (hF0 : F 32 = some (.inr (2, [.null, .null, .null, .null, .null, .null, .null, .null, .null, .int 0, .int 0, .int 0, .int 0, .int 0]))) (hf : ∀ j, 33 ≤ j → j ≤ 38 → j ≠ 32 → F j = none) (hv : F 0 = some (.inr (10, fs))) (hv2 : fs[2]? = some (.ref av)) : Sf yX2_init cX2_init 6 none { frames := 1, cells := 6, slots := 4370, locals := 60 } D F ad [.ref a0, .ref a1, .ref a2] (fun v F' ad' => v = none ∧ (∀ j, (j < 33 ∨ 38 < j) → ad' j = ad j) ∧ ∃ q33 q34 q35 q36 q37 q38 : Nat, (∀ p ∈ ([(33, q33), (34, q34), (35, q35), (36, q36), (37, q37), (38, q38)] : List (Nat × Nat)), ad' p.1 = p.2) ∧ F' = k_ov [(38, .inl (D.2.1 0, (16, .inl (fun _ => 0)))), (37, .inl (D.2.1 3, (16, .inr (.inl (k_X2_init_32_15))))), (36, .inl (D.2.1 3, (241, .inr (.inl (fun _ => 0))))), (35, .inl (D.2.1 3, (241, .inr (.inl (fun _ => 0))))), (34, .inl (D.2.1 3, (1928, .inr (.inl (fun _ => 0))))), (32, .inr (2, [.ref a1, .ref av, .ref a2, .ref q33, .ref q34, .ref q35, .ref q36, .ref q37, .ref q38, .int (-1), .int 0, .int 0, .int 0, .int 0])), (33, .inl (D.2.1 3, (1928, .inr (.inl (fun _ => 0)))))] F) := by
  refine Sf.of (by decide +kernel) (Nat.le_of_ble_eq_true rfl) ?_
  intro p l e s m a b me c A X hm
  have hin : me.name = "<init>" := hm
  have hA0 : ∀ p ∈ ([(32, a0), (0, a1), (17, a2)] : List (Nat × Nat)), ad p.1 = p.2 := by
    intro p hp
    simp only [List.mem_cons, List.not_mem_nil, or_false] at hp
    rcases hp with rfl | rfl | rfl
    · exact ha0
    · exact ha1
    · exact ha2
  have ho0 : ∀ j, (j < 33 ∨ 38 < j) → ad j = ad j := fun j _ => rfl
  refine i_aload_n X 0 dX2_init_0 rfl rfl ?_
  refine i_objInit X q_463 q_168 q_169 ⟨Nat.le_of_ble_eq_true rfl, Nat.le_of_ble_eq_true rfl⟩ dX2_init_1 ?_
  refine i_aload_n X 0 dX2_init_4 rfl rfl ?_
  refine i_sipush X (v := 1928) dX2_init_5 rfl ?_
  refine i_newa X 3 (at_ := .long) (a0 := (1928, .inr (.inl (fun _ => 0)))) rfl rfl (fun h => h) 33 (hf 33 (by decide) (by decide) (by decide)) (fun _ => rfl) q_512 (by decide) rfl (Nat.le_of_ble_eq_true rfl) (Nat.le_of_ble_eq_true rfl) (Nat.le_of_ble_eq_true rfl) dX2_init_8 (fun q33 => ?_)
  have hA1 := k_adn (k1 := 33) (q := q33) hA0 rfl
  have ho1 := k_outn (k1 := 33) (q := q33) ho0 (by decide) (by decide)
  refine j_F (F2 := (k_ov [(33, .inl (D.2.1 3, (1928, .inr (.inl (fun _ => 0)))))] F)) (fun j => rfl) ?_
  refine i_putF X hin rfl (f := 3) (F := (k_ov [(33, .inl (D.2.1 3, (1928, .inr (.inl (fun _ => 0)))))] F)) (F' := (k_ov [(32, .inr (2, [.null, .null, .null, .ref q33, .null, .null, .null, .null, .null, .int 0, .int 0, .int 0, .int 0, .int 0])), (33, .inl (D.2.1 3, (1928, .inr (.inl (fun _ => 0)))))] F)) kc2 32 hF0 (by decide) (hA1 _ (List.mem_of_getElem? (i := 1) rfl)) rfl k_ovn rfl rfl rfl (Nat.le_of_ble_eq_true rfl) q_468 dX2_init_10 ?_
  refine i_aload_n X 0 dX2_init_13 rfl rfl ?_
  refine i_sipush X (v := 1928) dX2_init_14 rfl ?_
  refine i_newa X 3 (at_ := .long) (a0 := (1928, .inr (.inl (fun _ => 0)))) rfl rfl (fun h => h) 34 (hf 34 (by decide) (by decide) (by decide)) (fun _ => rfl) q_512 (by decide) rfl (Nat.le_of_ble_eq_true rfl) (Nat.le_of_ble_eq_true rfl) (Nat.le_of_ble_eq_true rfl) dX2_init_17 (fun q34 => ?_)
  have hA2 := k_adn (k1 := 34) (q := q34) hA1 rfl
  have ho2 := k_outn (k1 := 34) (q := q34) ho1 (by decide) (by decide)
  refine j_F (F2 := (k_ov [(34, .inl (D.2.1 3, (1928, .inr (.inl (fun _ => 0))))), (32, .inr (2, [.null, .null, .null, .ref q33, .null, .null, .null, .null, .null, .int 0, .int 0, .int 0, .int 0, .int 0])), (33, .inl (D.2.1 3, (1928, .inr (.inl (fun _ => 0)))))] F)) (fun j => rfl) ?_
  refine i_putF X hin rfl (f := 4) (F := (k_ov [(34, .inl (D.2.1 3, (1928, .inr (.inl (fun _ => 0))))), (32, .inr (2, [.null, .null, .null, .ref q33, .null, .null, .null, .null, .null, .int 0, .int 0, .int 0, .int 0, .int 0])), (33, .inl (D.2.1 3, (1928, .inr (.inl (fun _ => 0)))))] F)) (F' := (k_ov [(34, .inl (D.2.1 3, (1928, .inr (.inl (fun _ => 0))))), (32, .inr (2, [.null, .null, .null, .ref q33, .ref q34, .null, .null, .null, .null, .int 0, .int 0, .int 0, .int 0, .int 0])), (33, .inl (D.2.1 3, (1928, .inr (.inl (fun _ => 0)))))] F)) kc2 32 rfl (by decide) (hA2 _ (List.mem_of_getElem? (i := 2) rfl)) rfl (k_ovq 1 rfl rfl) rfl rfl rfl (Nat.le_of_ble_eq_true rfl) q_469 dX2_init_19 ?_
  refine i_aload_n X 0 dX2_init_22 rfl rfl ?_
  refine i_sipush X (v := 241) dX2_init_23 rfl ?_
  refine i_newa X 3 (at_ := .long) (a0 := (241, .inr (.inl (fun _ => 0)))) rfl rfl (fun h => h) 35 (hf 35 (by decide) (by decide) (by decide)) (fun _ => rfl) q_512 (by decide) rfl (Nat.le_of_ble_eq_true rfl) (Nat.le_of_ble_eq_true rfl) (Nat.le_of_ble_eq_true rfl) dX2_init_26 (fun q35 => ?_)
  have hA3 := k_adn (k1 := 35) (q := q35) hA2 rfl
  have ho3 := k_outn (k1 := 35) (q := q35) ho2 (by decide) (by decide)
  refine j_F (F2 := (k_ov [(35, .inl (D.2.1 3, (241, .inr (.inl (fun _ => 0))))), (34, .inl (D.2.1 3, (1928, .inr (.inl (fun _ => 0))))), (32, .inr (2, [.null, .null, .null, .ref q33, .ref q34, .null, .null, .null, .null, .int 0, .int 0, .int 0, .int 0, .int 0])), (33, .inl (D.2.1 3, (1928, .inr (.inl (fun _ => 0)))))] F)) (fun j => rfl) ?_
  refine i_putF X hin rfl (f := 5) (F := (k_ov [(35, .inl (D.2.1 3, (241, .inr (.inl (fun _ => 0))))), (34, .inl (D.2.1 3, (1928, .inr (.inl (fun _ => 0))))), (32, .inr (2, [.null, .null, .null, .ref q33, .ref q34, .null, .null, .null, .null, .int 0, .int 0, .int 0, .int 0, .int 0])), (33, .inl (D.2.1 3, (1928, .inr (.inl (fun _ => 0)))))] F)) (F' := (k_ov [(35, .inl (D.2.1 3, (241, .inr (.inl (fun _ => 0))))), (34, .inl (D.2.1 3, (1928, .inr (.inl (fun _ => 0))))), (32, .inr (2, [.null, .null, .null, .ref q33, .ref q34, .ref q35, .null, .null, .null, .int 0, .int 0, .int 0, .int 0, .int 0])), (33, .inl (D.2.1 3, (1928, .inr (.inl (fun _ => 0)))))] F)) kc2 32 rfl (by decide) (hA3 _ (List.mem_of_getElem? (i := 3) rfl)) rfl (k_ovq 2 rfl rfl) rfl rfl rfl (Nat.le_of_ble_eq_true rfl) q_470 dX2_init_28 ?_
  refine i_aload_n X 0 dX2_init_31 rfl rfl ?_
  refine i_sipush X (v := 241) dX2_init_32 rfl ?_
  refine i_newa X 3 (at_ := .long) (a0 := (241, .inr (.inl (fun _ => 0)))) rfl rfl (fun h => h) 36 (hf 36 (by decide) (by decide) (by decide)) (fun _ => rfl) q_512 (by decide) rfl (Nat.le_of_ble_eq_true rfl) (Nat.le_of_ble_eq_true rfl) (Nat.le_of_ble_eq_true rfl) dX2_init_35 (fun q36 => ?_)
  have hA4 := k_adn (k1 := 36) (q := q36) hA3 rfl
  have ho4 := k_outn (k1 := 36) (q := q36) ho3 (by decide) (by decide)
  refine j_F (F2 := (k_ov [(36, .inl (D.2.1 3, (241, .inr (.inl (fun _ => 0))))), (35, .inl (D.2.1 3, (241, .inr (.inl (fun _ => 0))))), (34, .inl (D.2.1 3, (1928, .inr (.inl (fun _ => 0))))), (32, .inr (2, [.null, .null, .null, .ref q33, .ref q34, .ref q35, .null, .null, .null, .int 0, .int 0, .int 0, .int 0, .int 0])), (33, .inl (D.2.1 3, (1928, .inr (.inl (fun _ => 0)))))] F)) (fun j => rfl) ?_
  refine i_putF X hin rfl (f := 6) (F := (k_ov [(36, .inl (D.2.1 3, (241, .inr (.inl (fun _ => 0))))), (35, .inl (D.2.1 3, (241, .inr (.inl (fun _ => 0))))), (34, .inl (D.2.1 3, (1928, .inr (.inl (fun _ => 0))))), (32, .inr (2, [.null, .null, .null, .ref q33, .ref q34, .ref q35, .null, .null, .null, .int 0, .int 0, .int 0, .int 0, .int 0])), (33, .inl (D.2.1 3, (1928, .inr (.inl (fun _ => 0)))))] F)) (F' := (k_ov [(36, .inl (D.2.1 3, (241, .inr (.inl (fun _ => 0))))), (35, .inl (D.2.1 3, (241, .inr (.inl (fun _ => 0))))), (34, .inl (D.2.1 3, (1928, .inr (.inl (fun _ => 0))))), (32, .inr (2, [.null, .null, .null, .ref q33, .ref q34, .ref q35, .ref q36, .null, .null, .int 0, .int 0, .int 0, .int 0, .int 0])), (33, .inl (D.2.1 3, (1928, .inr (.inl (fun _ => 0)))))] F)) kc2 32 rfl (by decide) (hA4 _ (List.mem_of_getElem? (i := 4) rfl)) rfl (k_ovq 3 rfl rfl) rfl rfl rfl (Nat.le_of_ble_eq_true rfl) q_471 dX2_init_37 ?_
  refine i_aload_n X 0 dX2_init_40 rfl rfl ?_
  refine i_bipush X (v := 16) dX2_init_41 rfl ?_
  refine i_newa X 3 (at_ := .long) (a0 := (16, .inr (.inl (fun _ => 0)))) rfl rfl (fun h => h) 37 (hf 37 (by decide) (by decide) (by decide)) (fun _ => rfl) q_512 (by decide) rfl (Nat.le_of_ble_eq_true rfl) (Nat.le_of_ble_eq_true rfl) (Nat.le_of_ble_eq_true rfl) dX2_init_43 (fun q37 => ?_)
  have hA5 := k_adn (k1 := 37) (q := q37) hA4 rfl
  have ho5 := k_outn (k1 := 37) (q := q37) ho4 (by decide) (by decide)
  refine j_F (F2 := (k_ov [(37, .inl (D.2.1 3, (16, .inr (.inl (fun _ => 0))))), (36, .inl (D.2.1 3, (241, .inr (.inl (fun _ => 0))))), (35, .inl (D.2.1 3, (241, .inr (.inl (fun _ => 0))))), (34, .inl (D.2.1 3, (1928, .inr (.inl (fun _ => 0))))), (32, .inr (2, [.null, .null, .null, .ref q33, .ref q34, .ref q35, .ref q36, .null, .null, .int 0, .int 0, .int 0, .int 0, .int 0])), (33, .inl (D.2.1 3, (1928, .inr (.inl (fun _ => 0)))))] F)) (fun j => rfl) ?_
  refine i_putF X hin rfl (f := 7) (F := (k_ov [(37, .inl (D.2.1 3, (16, .inr (.inl (fun _ => 0))))), (36, .inl (D.2.1 3, (241, .inr (.inl (fun _ => 0))))), (35, .inl (D.2.1 3, (241, .inr (.inl (fun _ => 0))))), (34, .inl (D.2.1 3, (1928, .inr (.inl (fun _ => 0))))), (32, .inr (2, [.null, .null, .null, .ref q33, .ref q34, .ref q35, .ref q36, .null, .null, .int 0, .int 0, .int 0, .int 0, .int 0])), (33, .inl (D.2.1 3, (1928, .inr (.inl (fun _ => 0)))))] F)) (F' := (k_ov [(37, .inl (D.2.1 3, (16, .inr (.inl (fun _ => 0))))), (36, .inl (D.2.1 3, (241, .inr (.inl (fun _ => 0))))), (35, .inl (D.2.1 3, (241, .inr (.inl (fun _ => 0))))), (34, .inl (D.2.1 3, (1928, .inr (.inl (fun _ => 0))))), (32, .inr (2, [.null, .null, .null, .ref q33, .ref q34, .ref q35, .ref q36, .ref q37, .null, .int 0, .int 0, .int 0, .int 0, .int 0])), (33, .inl (D.2.1 3, (1928, .inr (.inl (fun _ => 0)))))] F)) kc2 32 rfl (by decide) (hA5 _ (List.mem_of_getElem? (i := 5) rfl)) rfl (k_ovq 4 rfl rfl) rfl rfl rfl (Nat.le_of_ble_eq_true rfl) q_472 dX2_init_45 ?_
  refine i_aload_n X 0 dX2_init_48 rfl rfl ?_
  refine i_bipush X (v := 16) dX2_init_49 rfl ?_
  refine i_newa X 0 (at_ := .int) (a0 := (16, .inl (fun _ => 0))) rfl rfl (fun h => h) 38 (hf 38 (by decide) (by decide) (by decide)) (fun _ => rfl) q_233 (by decide) rfl (Nat.le_of_ble_eq_true rfl) (Nat.le_of_ble_eq_true rfl) (Nat.le_of_ble_eq_true rfl) dX2_init_51 (fun q38 => ?_)
  have hA6 := k_adn (k1 := 38) (q := q38) hA5 rfl
  have ho6 := k_outn (k1 := 38) (q := q38) ho5 (by decide) (by decide)
  refine j_F (F2 := (k_ov [(38, .inl (D.2.1 0, (16, .inl (fun _ => 0)))), (37, .inl (D.2.1 3, (16, .inr (.inl (fun _ => 0))))), (36, .inl (D.2.1 3, (241, .inr (.inl (fun _ => 0))))), (35, .inl (D.2.1 3, (241, .inr (.inl (fun _ => 0))))), (34, .inl (D.2.1 3, (1928, .inr (.inl (fun _ => 0))))), (32, .inr (2, [.null, .null, .null, .ref q33, .ref q34, .ref q35, .ref q36, .ref q37, .null, .int 0, .int 0, .int 0, .int 0, .int 0])), (33, .inl (D.2.1 3, (1928, .inr (.inl (fun _ => 0)))))] F)) (fun j => rfl) ?_
  refine i_putF X hin rfl (f := 8) (F := (k_ov [(38, .inl (D.2.1 0, (16, .inl (fun _ => 0)))), (37, .inl (D.2.1 3, (16, .inr (.inl (fun _ => 0))))), (36, .inl (D.2.1 3, (241, .inr (.inl (fun _ => 0))))), (35, .inl (D.2.1 3, (241, .inr (.inl (fun _ => 0))))), (34, .inl (D.2.1 3, (1928, .inr (.inl (fun _ => 0))))), (32, .inr (2, [.null, .null, .null, .ref q33, .ref q34, .ref q35, .ref q36, .ref q37, .null, .int 0, .int 0, .int 0, .int 0, .int 0])), (33, .inl (D.2.1 3, (1928, .inr (.inl (fun _ => 0)))))] F)) (F' := (k_ov [(38, .inl (D.2.1 0, (16, .inl (fun _ => 0)))), (37, .inl (D.2.1 3, (16, .inr (.inl (fun _ => 0))))), (36, .inl (D.2.1 3, (241, .inr (.inl (fun _ => 0))))), (35, .inl (D.2.1 3, (241, .inr (.inl (fun _ => 0))))), (34, .inl (D.2.1 3, (1928, .inr (.inl (fun _ => 0))))), (32, .inr (2, [.null, .null, .null, .ref q33, .ref q34, .ref q35, .ref q36, .ref q37, .ref q38, .int 0, .int 0, .int 0, .int 0, .int 0])), (33, .inl (D.2.1 3, (1928, .inr (.inl (fun _ => 0)))))] F)) kc2 32 rfl (by decide) (hA6 _ (List.mem_of_getElem? (i := 6) rfl)) rfl (k_ovq 5 rfl rfl) rfl rfl rfl (Nat.le_of_ble_eq_true rfl) q_473 dX2_init_53 ?_
  refine i_aload_n X 0 dX2_init_56 rfl rfl ?_
  refine i_iconst X (v := -1) dX2_init_57 rfl ?_
  refine i_put X (f := 9) (F := (k_ov [(38, .inl (D.2.1 0, (16, .inl (fun _ => 0)))), (37, .inl (D.2.1 3, (16, .inr (.inl (fun _ => 0))))), (36, .inl (D.2.1 3, (241, .inr (.inl (fun _ => 0))))), (35, .inl (D.2.1 3, (241, .inr (.inl (fun _ => 0))))), (34, .inl (D.2.1 3, (1928, .inr (.inl (fun _ => 0))))), (32, .inr (2, [.null, .null, .null, .ref q33, .ref q34, .ref q35, .ref q36, .ref q37, .ref q38, .int 0, .int 0, .int 0, .int 0, .int 0])), (33, .inl (D.2.1 3, (1928, .inr (.inl (fun _ => 0)))))] F)) (F' := (k_ov [(38, .inl (D.2.1 0, (16, .inl (fun _ => 0)))), (37, .inl (D.2.1 3, (16, .inr (.inl (fun _ => 0))))), (36, .inl (D.2.1 3, (241, .inr (.inl (fun _ => 0))))), (35, .inl (D.2.1 3, (241, .inr (.inl (fun _ => 0))))), (34, .inl (D.2.1 3, (1928, .inr (.inl (fun _ => 0))))), (32, .inr (2, [.null, .null, .null, .ref q33, .ref q34, .ref q35, .ref q36, .ref q37, .ref q38, .int (-1), .int 0, .int 0, .int 0, .int 0])), (33, .inl (D.2.1 3, (1928, .inr (.inl (fun _ => 0)))))] F)) kc2 32 rfl (by decide) (hA6 _ (List.mem_of_getElem? (i := 6) rfl)) rfl (k_ovq 5 rfl rfl) rfl rfl rfl (Nat.le_of_ble_eq_true rfl) q_475 dX2_init_58 ?_
  refine i_aload_n X 0 dX2_init_61 rfl rfl ?_
  refine i_iconst X (v := 0) dX2_init_62 rfl ?_
  refine i_put X (f := 10) (F := (k_ov [(38, .inl (D.2.1 0, (16, .inl (fun _ => 0)))), (37, .inl (D.2.1 3, (16, .inr (.inl (fun _ => 0))))), (36, .inl (D.2.1 3, (241, .inr (.inl (fun _ => 0))))), (35, .inl (D.2.1 3, (241, .inr (.inl (fun _ => 0))))), (34, .inl (D.2.1 3, (1928, .inr (.inl (fun _ => 0))))), (32, .inr (2, [.null, .null, .null, .ref q33, .ref q34, .ref q35, .ref q36, .ref q37, .ref q38, .int (-1), .int 0, .int 0, .int 0, .int 0])), (33, .inl (D.2.1 3, (1928, .inr (.inl (fun _ => 0)))))] F)) (F' := (k_ov [(38, .inl (D.2.1 0, (16, .inl (fun _ => 0)))), (37, .inl (D.2.1 3, (16, .inr (.inl (fun _ => 0))))), (36, .inl (D.2.1 3, (241, .inr (.inl (fun _ => 0))))), (35, .inl (D.2.1 3, (241, .inr (.inl (fun _ => 0))))), (34, .inl (D.2.1 3, (1928, .inr (.inl (fun _ => 0))))), (32, .inr (2, [.null, .null, .null, .ref q33, .ref q34, .ref q35, .ref q36, .ref q37, .ref q38, .int (-1), .int 0, .int 0, .int 0, .int 0])), (33, .inl (D.2.1 3, (1928, .inr (.inl (fun _ => 0)))))] F)) kc2 32 rfl (by decide) (hA6 _ (List.mem_of_getElem? (i := 6) rfl)) rfl (k_ovq 5 rfl rfl) rfl rfl rfl (Nat.le_of_ble_eq_true rfl) q_476 dX2_init_63 ?_
  refine i_aload_n X 0 dX2_init_66 rfl rfl ?_
  refine i_iconst X (v := 0) dX2_init_67 rfl ?_
  refine i_put X (f := 11) (F := (k_ov [(38, .inl (D.2.1 0, (16, .inl (fun _ => 0)))), (37, .inl (D.2.1 3, (16, .inr (.inl (fun _ => 0))))), (36, .inl (D.2.1 3, (241, .inr (.inl (fun _ => 0))))), (35, .inl (D.2.1 3, (241, .inr (.inl (fun _ => 0))))), (34, .inl (D.2.1 3, (1928, .inr (.inl (fun _ => 0))))), (32, .inr (2, [.null, .null, .null, .ref q33, .ref q34, .ref q35, .ref q36, .ref q37, .ref q38, .int (-1), .int 0, .int 0, .int 0, .int 0])), (33, .inl (D.2.1 3, (1928, .inr (.inl (fun _ => 0)))))] F)) (F' := (k_ov [(38, .inl (D.2.1 0, (16, .inl (fun _ => 0)))), (37, .inl (D.2.1 3, (16, .inr (.inl (fun _ => 0))))), (36, .inl (D.2.1 3, (241, .inr (.inl (fun _ => 0))))), (35, .inl (D.2.1 3, (241, .inr (.inl (fun _ => 0))))), (34, .inl (D.2.1 3, (1928, .inr (.inl (fun _ => 0))))), (32, .inr (2, [.null, .null, .null, .ref q33, .ref q34, .ref q35, .ref q36, .ref q37, .ref q38, .int (-1), .int 0, .int 0, .int 0, .int 0])), (33, .inl (D.2.1 3, (1928, .inr (.inl (fun _ => 0)))))] F)) kc2 32 rfl (by decide) (hA6 _ (List.mem_of_getElem? (i := 6) rfl)) rfl (k_ovq 5 rfl rfl) rfl rfl rfl (Nat.le_of_ble_eq_true rfl) q_477 dX2_init_68 ?_
  refine i_aload_n X 0 dX2_init_71 rfl rfl ?_
  refine i_iconst X (v := 0) dX2_init_72 rfl ?_
  refine i_put X (f := 12) (F := (k_ov [(38, .inl (D.2.1 0, (16, .inl (fun _ => 0)))), (37, .inl (D.2.1 3, (16, .inr (.inl (fun _ => 0))))), (36, .inl (D.2.1 3, (241, .inr (.inl (fun _ => 0))))), (35, .inl (D.2.1 3, (241, .inr (.inl (fun _ => 0))))), (34, .inl (D.2.1 3, (1928, .inr (.inl (fun _ => 0))))), (32, .inr (2, [.null, .null, .null, .ref q33, .ref q34, .ref q35, .ref q36, .ref q37, .ref q38, .int (-1), .int 0, .int 0, .int 0, .int 0])), (33, .inl (D.2.1 3, (1928, .inr (.inl (fun _ => 0)))))] F)) (F' := (k_ov [(38, .inl (D.2.1 0, (16, .inl (fun _ => 0)))), (37, .inl (D.2.1 3, (16, .inr (.inl (fun _ => 0))))), (36, .inl (D.2.1 3, (241, .inr (.inl (fun _ => 0))))), (35, .inl (D.2.1 3, (241, .inr (.inl (fun _ => 0))))), (34, .inl (D.2.1 3, (1928, .inr (.inl (fun _ => 0))))), (32, .inr (2, [.null, .null, .null, .ref q33, .ref q34, .ref q35, .ref q36, .ref q37, .ref q38, .int (-1), .int 0, .int 0, .int 0, .int 0])), (33, .inl (D.2.1 3, (1928, .inr (.inl (fun _ => 0)))))] F)) kc2 32 rfl (by decide) (hA6 _ (List.mem_of_getElem? (i := 6) rfl)) rfl (k_ovq 5 rfl rfl) rfl rfl rfl (Nat.le_of_ble_eq_true rfl) q_479 dX2_init_73 ?_
  refine i_aload_n X 0 dX2_init_76 rfl rfl ?_
  refine i_iconst X (v := 0) dX2_init_77 rfl ?_
  refine i_put X (f := 13) (F := (k_ov [(38, .inl (D.2.1 0, (16, .inl (fun _ => 0)))), (37, .inl (D.2.1 3, (16, .inr (.inl (fun _ => 0))))), (36, .inl (D.2.1 3, (241, .inr (.inl (fun _ => 0))))), (35, .inl (D.2.1 3, (241, .inr (.inl (fun _ => 0))))), (34, .inl (D.2.1 3, (1928, .inr (.inl (fun _ => 0))))), (32, .inr (2, [.null, .null, .null, .ref q33, .ref q34, .ref q35, .ref q36, .ref q37, .ref q38, .int (-1), .int 0, .int 0, .int 0, .int 0])), (33, .inl (D.2.1 3, (1928, .inr (.inl (fun _ => 0)))))] F)) (F' := (k_ov [(38, .inl (D.2.1 0, (16, .inl (fun _ => 0)))), (37, .inl (D.2.1 3, (16, .inr (.inl (fun _ => 0))))), (36, .inl (D.2.1 3, (241, .inr (.inl (fun _ => 0))))), (35, .inl (D.2.1 3, (241, .inr (.inl (fun _ => 0))))), (34, .inl (D.2.1 3, (1928, .inr (.inl (fun _ => 0))))), (32, .inr (2, [.null, .null, .null, .ref q33, .ref q34, .ref q35, .ref q36, .ref q37, .ref q38, .int (-1), .int 0, .int 0, .int 0, .int 0])), (33, .inl (D.2.1 3, (1928, .inr (.inl (fun _ => 0)))))] F)) kc2 32 rfl (by decide) (hA6 _ (List.mem_of_getElem? (i := 6) rfl)) rfl (k_ovq 5 rfl rfl) rfl rfl rfl (Nat.le_of_ble_eq_true rfl) q_481 dX2_init_78 ?_
  refine i_aload_n X 0 dX2_init_81 rfl rfl ?_
  refine i_aload_n X 1 dX2_init_82 rfl rfl ?_
  refine i_putF X hin rfl (f := 0) (F := (k_ov [(38, .inl (D.2.1 0, (16, .inl (fun _ => 0)))), (37, .inl (D.2.1 3, (16, .inr (.inl (fun _ => 0))))), (36, .inl (D.2.1 3, (241, .inr (.inl (fun _ => 0))))), (35, .inl (D.2.1 3, (241, .inr (.inl (fun _ => 0))))), (34, .inl (D.2.1 3, (1928, .inr (.inl (fun _ => 0))))), (32, .inr (2, [.null, .null, .null, .ref q33, .ref q34, .ref q35, .ref q36, .ref q37, .ref q38, .int (-1), .int 0, .int 0, .int 0, .int 0])), (33, .inl (D.2.1 3, (1928, .inr (.inl (fun _ => 0)))))] F)) (F' := (k_ov [(38, .inl (D.2.1 0, (16, .inl (fun _ => 0)))), (37, .inl (D.2.1 3, (16, .inr (.inl (fun _ => 0))))), (36, .inl (D.2.1 3, (241, .inr (.inl (fun _ => 0))))), (35, .inl (D.2.1 3, (241, .inr (.inl (fun _ => 0))))), (34, .inl (D.2.1 3, (1928, .inr (.inl (fun _ => 0))))), (32, .inr (2, [.ref a1, .null, .null, .ref q33, .ref q34, .ref q35, .ref q36, .ref q37, .ref q38, .int (-1), .int 0, .int 0, .int 0, .int 0])), (33, .inl (D.2.1 3, (1928, .inr (.inl (fun _ => 0)))))] F)) kc2 32 rfl (by decide) (hA6 _ (List.mem_of_getElem? (i := 6) rfl)) rfl (k_ovq 5 rfl rfl) rfl rfl rfl (Nat.le_of_ble_eq_true rfl) q_465 dX2_init_83 ?_
  refine i_aload_n X 0 dX2_init_86 rfl rfl ?_
  refine i_aload_n X 1 dX2_init_87 rfl rfl ?_
  refine i_getN X (f := 2) (F := (k_ov [(38, .inl (D.2.1 0, (16, .inl (fun _ => 0)))), (37, .inl (D.2.1 3, (16, .inr (.inl (fun _ => 0))))), (36, .inl (D.2.1 3, (241, .inr (.inl (fun _ => 0))))), (35, .inl (D.2.1 3, (241, .inr (.inl (fun _ => 0))))), (34, .inl (D.2.1 3, (1928, .inr (.inl (fun _ => 0))))), (32, .inr (2, [.ref a1, .null, .null, .ref q33, .ref q34, .ref q35, .ref q36, .ref q37, .ref q38, .int (-1), .int 0, .int 0, .int 0, .int 0])), (33, .inl (D.2.1 3, (1928, .inr (.inl (fun _ => 0)))))] F)) kc10 0 hv (by decide) hv2 (hA6 _ (List.mem_of_getElem? (i := 7) rfl)) q_247 dX2_init_88 ?_
  refine i_putF X hin rfl (f := 1) (F := (k_ov [(38, .inl (D.2.1 0, (16, .inl (fun _ => 0)))), (37, .inl (D.2.1 3, (16, .inr (.inl (fun _ => 0))))), (36, .inl (D.2.1 3, (241, .inr (.inl (fun _ => 0))))), (35, .inl (D.2.1 3, (241, .inr (.inl (fun _ => 0))))), (34, .inl (D.2.1 3, (1928, .inr (.inl (fun _ => 0))))), (32, .inr (2, [.ref a1, .null, .null, .ref q33, .ref q34, .ref q35, .ref q36, .ref q37, .ref q38, .int (-1), .int 0, .int 0, .int 0, .int 0])), (33, .inl (D.2.1 3, (1928, .inr (.inl (fun _ => 0)))))] F)) (F' := (k_ov [(38, .inl (D.2.1 0, (16, .inl (fun _ => 0)))), (37, .inl (D.2.1 3, (16, .inr (.inl (fun _ => 0))))), (36, .inl (D.2.1 3, (241, .inr (.inl (fun _ => 0))))), (35, .inl (D.2.1 3, (241, .inr (.inl (fun _ => 0))))), (34, .inl (D.2.1 3, (1928, .inr (.inl (fun _ => 0))))), (32, .inr (2, [.ref a1, .ref av, .null, .ref q33, .ref q34, .ref q35, .ref q36, .ref q37, .ref q38, .int (-1), .int 0, .int 0, .int 0, .int 0])), (33, .inl (D.2.1 3, (1928, .inr (.inl (fun _ => 0)))))] F)) kc2 32 rfl (by decide) (hA6 _ (List.mem_of_getElem? (i := 6) rfl)) rfl (k_ovq 5 rfl rfl) rfl rfl rfl (Nat.le_of_ble_eq_true rfl) q_466 dX2_init_91 ?_
  refine i_aload_n X 0 dX2_init_94 rfl rfl ?_
  refine i_aload_n X 2 dX2_init_95 rfl rfl ?_
  refine i_putF X hin rfl (f := 2) (F := (k_ov [(38, .inl (D.2.1 0, (16, .inl (fun _ => 0)))), (37, .inl (D.2.1 3, (16, .inr (.inl (fun _ => 0))))), (36, .inl (D.2.1 3, (241, .inr (.inl (fun _ => 0))))), (35, .inl (D.2.1 3, (241, .inr (.inl (fun _ => 0))))), (34, .inl (D.2.1 3, (1928, .inr (.inl (fun _ => 0))))), (32, .inr (2, [.ref a1, .ref av, .null, .ref q33, .ref q34, .ref q35, .ref q36, .ref q37, .ref q38, .int (-1), .int 0, .int 0, .int 0, .int 0])), (33, .inl (D.2.1 3, (1928, .inr (.inl (fun _ => 0)))))] F)) (F' := (k_ov [(38, .inl (D.2.1 0, (16, .inl (fun _ => 0)))), (37, .inl (D.2.1 3, (16, .inr (.inl (fun _ => 0))))), (36, .inl (D.2.1 3, (241, .inr (.inl (fun _ => 0))))), (35, .inl (D.2.1 3, (241, .inr (.inl (fun _ => 0))))), (34, .inl (D.2.1 3, (1928, .inr (.inl (fun _ => 0))))), (32, .inr (2, [.ref a1, .ref av, .ref a2, .ref q33, .ref q34, .ref q35, .ref q36, .ref q37, .ref q38, .int (-1), .int 0, .int 0, .int 0, .int 0])), (33, .inl (D.2.1 3, (1928, .inr (.inl (fun _ => 0)))))] F)) kc2 32 rfl (by decide) (hA6 _ (List.mem_of_getElem? (i := 6) rfl)) rfl (k_ovq 5 rfl rfl) rfl rfl rfl (Nat.le_of_ble_eq_true rfl) q_467 dX2_init_96 ?_
  refine i_lconst X (v := 1) dX2_init_99 rfl ?_
  refine i_lstore_n X (lv := [(3, .long (1 : Int64)), (0, .ref a0), (1, .ref a1), (2, .ref a2)]) dX2_init_100 rfl (by decide) rfl ?_
  refine i_bipush X (v := 15) dX2_init_101 rfl ?_
  refine i_istore X (lv := [(5, .int 15), (3, .long (1 : Int64)), (0, .ref a0), (1, .ref a1), (2, .ref a2)]) dX2_init_103 (by decide) rfl ?_
  refine i_iload X 0 dX2_init_105 rfl ?_
  refine i_if_lt X (t := 130) dX2_init_107 (by decide) (fun c => absurd c (show ¬ (15 : Int32) < 0 by decide)) (fun _ => ?_)
  refine i_aload_n X 2 dX2_init_110 rfl rfl ?_
  refine i_get X (f := 7) (F := (k_ov [(38, .inl (D.2.1 0, (16, .inl (fun _ => 0)))), (37, .inl (D.2.1 3, (16, .inr (.inl (fun _ => 0))))), (36, .inl (D.2.1 3, (241, .inr (.inl (fun _ => 0))))), (35, .inl (D.2.1 3, (241, .inr (.inl (fun _ => 0))))), (34, .inl (D.2.1 3, (1928, .inr (.inl (fun _ => 0))))), (32, .inr (2, [.ref a1, .ref av, .ref a2, .ref q33, .ref q34, .ref q35, .ref q36, .ref q37, .ref q38, .int (-1), .int 0, .int 0, .int 0, .int 0])), (33, .inl (D.2.1 3, (1928, .inr (.inl (fun _ => 0)))))] F)) kc2 32 rfl (by decide) rfl (hA6 _ (List.mem_of_getElem? (i := 6) rfl)) q_472 dX2_init_111 ?_
  refine i_iload X 0 dX2_init_114 rfl ?_
  refine i_lload_n X 1 dX2_init_116 rfl rfl ?_
  refine i_last X (F := (k_ov [(38, .inl (D.2.1 0, (16, .inl (fun _ => 0)))), (37, .inl (D.2.1 3, (16, .inr (.inl (fun _ => 0))))), (36, .inl (D.2.1 3, (241, .inr (.inl (fun _ => 0))))), (35, .inl (D.2.1 3, (241, .inr (.inl (fun _ => 0))))), (34, .inl (D.2.1 3, (1928, .inr (.inl (fun _ => 0))))), (32, .inr (2, [.ref a1, .ref av, .ref a2, .ref q33, .ref q34, .ref q35, .ref q36, .ref q37, .ref q38, .int (-1), .int 0, .int 0, .int 0, .int 0])), (33, .inl (D.2.1 3, (1928, .inr (.inl (fun _ => 0)))))] F)) (F' := (k_ov [(38, .inl (D.2.1 0, (16, .inl (fun _ => 0)))), (37, .inl (D.2.1 3, (16, .inr (.inl (k_X2_init_32_0))))), (36, .inl (D.2.1 3, (241, .inr (.inl (fun _ => 0))))), (35, .inl (D.2.1 3, (241, .inr (.inl (fun _ => 0))))), (34, .inl (D.2.1 3, (1928, .inr (.inl (fun _ => 0))))), (32, .inr (2, [.ref a1, .ref av, .ref a2, .ref q33, .ref q34, .ref q35, .ref q36, .ref q37, .ref q38, .int (-1), .int 0, .int 0, .int 0, .int 0])), (33, .inl (D.2.1 3, (1928, .inr (.inl (fun _ => 0)))))] F)) 37 rfl (hA6 _ (List.mem_of_getElem? (i := 1) rfl)) rfl (k_ovq 1 rfl rfl) (k_b_in (by decide)) dX2_init_117 ?_
  refine i_lload_n X 1 dX2_init_118 rfl rfl ?_
  refine i_ldc2 X (v := 10) q_464 dX2_init_119 ?_
  refine j_lmul X (v := 10) dX2_init_122 (by decide) ?_
  refine i_lstore_n X (lv := [(3, .long (10 : Int64)), (5, .int 15), (0, .ref a0), (1, .ref a1), (2, .ref a2)]) dX2_init_123 rfl (by decide) rfl ?_
  refine i_iinc X (q := 1) (v := 14) (lv := [(5, .int 14), (3, .long (10 : Int64)), (0, .ref a0), (1, .ref a1), (2, .ref a2)]) dX2_init_124 rfl (by decide) (by decide) rfl ?_
  refine i_goto X (t := 105) dX2_init_127 (by decide) ?_
  refine i_iload X 0 dX2_init_105 rfl ?_
  refine i_if_lt X (t := 130) dX2_init_107 (by decide) (fun c => absurd c (show ¬ (14 : Int32) < 0 by decide)) (fun _ => ?_)
  refine i_aload_n X 2 dX2_init_110 rfl rfl ?_
  refine i_get X (f := 7) (F := (k_ov [(38, .inl (D.2.1 0, (16, .inl (fun _ => 0)))), (37, .inl (D.2.1 3, (16, .inr (.inl (k_X2_init_32_0))))), (36, .inl (D.2.1 3, (241, .inr (.inl (fun _ => 0))))), (35, .inl (D.2.1 3, (241, .inr (.inl (fun _ => 0))))), (34, .inl (D.2.1 3, (1928, .inr (.inl (fun _ => 0))))), (32, .inr (2, [.ref a1, .ref av, .ref a2, .ref q33, .ref q34, .ref q35, .ref q36, .ref q37, .ref q38, .int (-1), .int 0, .int 0, .int 0, .int 0])), (33, .inl (D.2.1 3, (1928, .inr (.inl (fun _ => 0)))))] F)) kc2 32 rfl (by decide) rfl (hA6 _ (List.mem_of_getElem? (i := 6) rfl)) q_472 dX2_init_111 ?_
  refine i_iload X 0 dX2_init_114 rfl ?_
  refine i_lload_n X 1 dX2_init_116 rfl rfl ?_
  refine i_last X (F := (k_ov [(38, .inl (D.2.1 0, (16, .inl (fun _ => 0)))), (37, .inl (D.2.1 3, (16, .inr (.inl (k_X2_init_32_0))))), (36, .inl (D.2.1 3, (241, .inr (.inl (fun _ => 0))))), (35, .inl (D.2.1 3, (241, .inr (.inl (fun _ => 0))))), (34, .inl (D.2.1 3, (1928, .inr (.inl (fun _ => 0))))), (32, .inr (2, [.ref a1, .ref av, .ref a2, .ref q33, .ref q34, .ref q35, .ref q36, .ref q37, .ref q38, .int (-1), .int 0, .int 0, .int 0, .int 0])), (33, .inl (D.2.1 3, (1928, .inr (.inl (fun _ => 0)))))] F)) (F' := (k_ov [(38, .inl (D.2.1 0, (16, .inl (fun _ => 0)))), (37, .inl (D.2.1 3, (16, .inr (.inl (k_X2_init_32_1))))), (36, .inl (D.2.1 3, (241, .inr (.inl (fun _ => 0))))), (35, .inl (D.2.1 3, (241, .inr (.inl (fun _ => 0))))), (34, .inl (D.2.1 3, (1928, .inr (.inl (fun _ => 0))))), (32, .inr (2, [.ref a1, .ref av, .ref a2, .ref q33, .ref q34, .ref q35, .ref q36, .ref q37, .ref q38, .int (-1), .int 0, .int 0, .int 0, .int 0])), (33, .inl (D.2.1 3, (1928, .inr (.inl (fun _ => 0)))))] F)) 37 rfl (hA6 _ (List.mem_of_getElem? (i := 1) rfl)) rfl (k_ovq 1 rfl rfl) (k_b_in (by decide)) dX2_init_117 ?_
  refine i_lload_n X 1 dX2_init_118 rfl rfl ?_
  refine i_ldc2 X (v := 10) q_464 dX2_init_119 ?_
  refine j_lmul X (v := 100) dX2_init_122 (by decide) ?_
  refine i_lstore_n X (lv := [(3, .long (100 : Int64)), (5, .int 14), (0, .ref a0), (1, .ref a1), (2, .ref a2)]) dX2_init_123 rfl (by decide) rfl ?_
  refine i_iinc X (q := 1) (v := 13) (lv := [(5, .int 13), (3, .long (100 : Int64)), (0, .ref a0), (1, .ref a1), (2, .ref a2)]) dX2_init_124 rfl (by decide) (by decide) rfl ?_
  refine i_goto X (t := 105) dX2_init_127 (by decide) ?_
  refine i_iload X 0 dX2_init_105 rfl ?_
  refine i_if_lt X (t := 130) dX2_init_107 (by decide) (fun c => absurd c (show ¬ (13 : Int32) < 0 by decide)) (fun _ => ?_)
  refine i_aload_n X 2 dX2_init_110 rfl rfl ?_
  refine i_get X (f := 7) (F := (k_ov [(38, .inl (D.2.1 0, (16, .inl (fun _ => 0)))), (37, .inl (D.2.1 3, (16, .inr (.inl (k_X2_init_32_1))))), (36, .inl (D.2.1 3, (241, .inr (.inl (fun _ => 0))))), (35, .inl (D.2.1 3, (241, .inr (.inl (fun _ => 0))))), (34, .inl (D.2.1 3, (1928, .inr (.inl (fun _ => 0))))), (32, .inr (2, [.ref a1, .ref av, .ref a2, .ref q33, .ref q34, .ref q35, .ref q36, .ref q37, .ref q38, .int (-1), .int 0, .int 0, .int 0, .int 0])), (33, .inl (D.2.1 3, (1928, .inr (.inl (fun _ => 0)))))] F)) kc2 32 rfl (by decide) rfl (hA6 _ (List.mem_of_getElem? (i := 6) rfl)) q_472 dX2_init_111 ?_
  refine i_iload X 0 dX2_init_114 rfl ?_
  refine i_lload_n X 1 dX2_init_116 rfl rfl ?_
  refine i_last X (F := (k_ov [(38, .inl (D.2.1 0, (16, .inl (fun _ => 0)))), (37, .inl (D.2.1 3, (16, .inr (.inl (k_X2_init_32_1))))), (36, .inl (D.2.1 3, (241, .inr (.inl (fun _ => 0))))), (35, .inl (D.2.1 3, (241, .inr (.inl (fun _ => 0))))), (34, .inl (D.2.1 3, (1928, .inr (.inl (fun _ => 0))))), (32, .inr (2, [.ref a1, .ref av, .ref a2, .ref q33, .ref q34, .ref q35, .ref q36, .ref q37, .ref q38, .int (-1), .int 0, .int 0, .int 0, .int 0])), (33, .inl (D.2.1 3, (1928, .inr (.inl (fun _ => 0)))))] F)) (F' := (k_ov [(38, .inl (D.2.1 0, (16, .inl (fun _ => 0)))), (37, .inl (D.2.1 3, (16, .inr (.inl (k_X2_init_32_2))))), (36, .inl (D.2.1 3, (241, .inr (.inl (fun _ => 0))))), (35, .inl (D.2.1 3, (241, .inr (.inl (fun _ => 0))))), (34, .inl (D.2.1 3, (1928, .inr (.inl (fun _ => 0))))), (32, .inr (2, [.ref a1, .ref av, .ref a2, .ref q33, .ref q34, .ref q35, .ref q36, .ref q37, .ref q38, .int (-1), .int 0, .int 0, .int 0, .int 0])), (33, .inl (D.2.1 3, (1928, .inr (.inl (fun _ => 0)))))] F)) 37 rfl (hA6 _ (List.mem_of_getElem? (i := 1) rfl)) rfl (k_ovq 1 rfl rfl) (k_b_in (by decide)) dX2_init_117 ?_
  refine i_lload_n X 1 dX2_init_118 rfl rfl ?_
  refine i_ldc2 X (v := 10) q_464 dX2_init_119 ?_
  refine j_lmul X (v := 1000) dX2_init_122 (by decide) ?_
  refine i_lstore_n X (lv := [(3, .long (1000 : Int64)), (5, .int 13), (0, .ref a0), (1, .ref a1), (2, .ref a2)]) dX2_init_123 rfl (by decide) rfl ?_
  refine i_iinc X (q := 1) (v := 12) (lv := [(5, .int 12), (3, .long (1000 : Int64)), (0, .ref a0), (1, .ref a1), (2, .ref a2)]) dX2_init_124 rfl (by decide) (by decide) rfl ?_
  refine i_goto X (t := 105) dX2_init_127 (by decide) ?_
  refine i_iload X 0 dX2_init_105 rfl ?_
  refine i_if_lt X (t := 130) dX2_init_107 (by decide) (fun c => absurd c (show ¬ (12 : Int32) < 0 by decide)) (fun _ => ?_)
  refine i_aload_n X 2 dX2_init_110 rfl rfl ?_
  refine i_get X (f := 7) (F := (k_ov [(38, .inl (D.2.1 0, (16, .inl (fun _ => 0)))), (37, .inl (D.2.1 3, (16, .inr (.inl (k_X2_init_32_2))))), (36, .inl (D.2.1 3, (241, .inr (.inl (fun _ => 0))))), (35, .inl (D.2.1 3, (241, .inr (.inl (fun _ => 0))))), (34, .inl (D.2.1 3, (1928, .inr (.inl (fun _ => 0))))), (32, .inr (2, [.ref a1, .ref av, .ref a2, .ref q33, .ref q34, .ref q35, .ref q36, .ref q37, .ref q38, .int (-1), .int 0, .int 0, .int 0, .int 0])), (33, .inl (D.2.1 3, (1928, .inr (.inl (fun _ => 0)))))] F)) kc2 32 rfl (by decide) rfl (hA6 _ (List.mem_of_getElem? (i := 6) rfl)) q_472 dX2_init_111 ?_
  refine i_iload X 0 dX2_init_114 rfl ?_
  refine i_lload_n X 1 dX2_init_116 rfl rfl ?_
  refine i_last X (F := (k_ov [(38, .inl (D.2.1 0, (16, .inl (fun _ => 0)))), (37, .inl (D.2.1 3, (16, .inr (.inl (k_X2_init_32_2))))), (36, .inl (D.2.1 3, (241, .inr (.inl (fun _ => 0))))), (35, .inl (D.2.1 3, (241, .inr (.inl (fun _ => 0))))), (34, .inl (D.2.1 3, (1928, .inr (.inl (fun _ => 0))))), (32, .inr (2, [.ref a1, .ref av, .ref a2, .ref q33, .ref q34, .ref q35, .ref q36, .ref q37, .ref q38, .int (-1), .int 0, .int 0, .int 0, .int 0])), (33, .inl (D.2.1 3, (1928, .inr (.inl (fun _ => 0)))))] F)) (F' := (k_ov [(38, .inl (D.2.1 0, (16, .inl (fun _ => 0)))), (37, .inl (D.2.1 3, (16, .inr (.inl (k_X2_init_32_3))))), (36, .inl (D.2.1 3, (241, .inr (.inl (fun _ => 0))))), (35, .inl (D.2.1 3, (241, .inr (.inl (fun _ => 0))))), (34, .inl (D.2.1 3, (1928, .inr (.inl (fun _ => 0))))), (32, .inr (2, [.ref a1, .ref av, .ref a2, .ref q33, .ref q34, .ref q35, .ref q36, .ref q37, .ref q38, .int (-1), .int 0, .int 0, .int 0, .int 0])), (33, .inl (D.2.1 3, (1928, .inr (.inl (fun _ => 0)))))] F)) 37 rfl (hA6 _ (List.mem_of_getElem? (i := 1) rfl)) rfl (k_ovq 1 rfl rfl) (k_b_in (by decide)) dX2_init_117 ?_
  refine i_lload_n X 1 dX2_init_118 rfl rfl ?_
  refine i_ldc2 X (v := 10) q_464 dX2_init_119 ?_
  refine j_lmul X (v := 10000) dX2_init_122 (by decide) ?_
  refine i_lstore_n X (lv := [(3, .long (10000 : Int64)), (5, .int 12), (0, .ref a0), (1, .ref a1), (2, .ref a2)]) dX2_init_123 rfl (by decide) rfl ?_
  refine i_iinc X (q := 1) (v := 11) (lv := [(5, .int 11), (3, .long (10000 : Int64)), (0, .ref a0), (1, .ref a1), (2, .ref a2)]) dX2_init_124 rfl (by decide) (by decide) rfl ?_
  refine i_goto X (t := 105) dX2_init_127 (by decide) ?_
  refine i_iload X 0 dX2_init_105 rfl ?_
  refine i_if_lt X (t := 130) dX2_init_107 (by decide) (fun c => absurd c (show ¬ (11 : Int32) < 0 by decide)) (fun _ => ?_)
  refine i_aload_n X 2 dX2_init_110 rfl rfl ?_
  refine i_get X (f := 7) (F := (k_ov [(38, .inl (D.2.1 0, (16, .inl (fun _ => 0)))), (37, .inl (D.2.1 3, (16, .inr (.inl (k_X2_init_32_3))))), (36, .inl (D.2.1 3, (241, .inr (.inl (fun _ => 0))))), (35, .inl (D.2.1 3, (241, .inr (.inl (fun _ => 0))))), (34, .inl (D.2.1 3, (1928, .inr (.inl (fun _ => 0))))), (32, .inr (2, [.ref a1, .ref av, .ref a2, .ref q33, .ref q34, .ref q35, .ref q36, .ref q37, .ref q38, .int (-1), .int 0, .int 0, .int 0, .int 0])), (33, .inl (D.2.1 3, (1928, .inr (.inl (fun _ => 0)))))] F)) kc2 32 rfl (by decide) rfl (hA6 _ (List.mem_of_getElem? (i := 6) rfl)) q_472 dX2_init_111 ?_
  refine i_iload X 0 dX2_init_114 rfl ?_
  refine i_lload_n X 1 dX2_init_116 rfl rfl ?_
  refine i_last X (F := (k_ov [(38, .inl (D.2.1 0, (16, .inl (fun _ => 0)))), (37, .inl (D.2.1 3, (16, .inr (.inl (k_X2_init_32_3))))), (36, .inl (D.2.1 3, (241, .inr (.inl (fun _ => 0))))), (35, .inl (D.2.1 3, (241, .inr (.inl (fun _ => 0))))), (34, .inl (D.2.1 3, (1928, .inr (.inl (fun _ => 0))))), (32, .inr (2, [.ref a1, .ref av, .ref a2, .ref q33, .ref q34, .ref q35, .ref q36, .ref q37, .ref q38, .int (-1), .int 0, .int 0, .int 0, .int 0])), (33, .inl (D.2.1 3, (1928, .inr (.inl (fun _ => 0)))))] F)) (F' := (k_ov [(38, .inl (D.2.1 0, (16, .inl (fun _ => 0)))), (37, .inl (D.2.1 3, (16, .inr (.inl (k_X2_init_32_4))))), (36, .inl (D.2.1 3, (241, .inr (.inl (fun _ => 0))))), (35, .inl (D.2.1 3, (241, .inr (.inl (fun _ => 0))))), (34, .inl (D.2.1 3, (1928, .inr (.inl (fun _ => 0))))), (32, .inr (2, [.ref a1, .ref av, .ref a2, .ref q33, .ref q34, .ref q35, .ref q36, .ref q37, .ref q38, .int (-1), .int 0, .int 0, .int 0, .int 0])), (33, .inl (D.2.1 3, (1928, .inr (.inl (fun _ => 0)))))] F)) 37 rfl (hA6 _ (List.mem_of_getElem? (i := 1) rfl)) rfl (k_ovq 1 rfl rfl) (k_b_in (by decide)) dX2_init_117 ?_
  refine i_lload_n X 1 dX2_init_118 rfl rfl ?_
  refine i_ldc2 X (v := 10) q_464 dX2_init_119 ?_
  refine j_lmul X (v := 100000) dX2_init_122 (by decide) ?_
  refine i_lstore_n X (lv := [(3, .long (100000 : Int64)), (5, .int 11), (0, .ref a0), (1, .ref a1), (2, .ref a2)]) dX2_init_123 rfl (by decide) rfl ?_
  refine i_iinc X (q := 1) (v := 10) (lv := [(5, .int 10), (3, .long (100000 : Int64)), (0, .ref a0), (1, .ref a1), (2, .ref a2)]) dX2_init_124 rfl (by decide) (by decide) rfl ?_
  refine i_goto X (t := 105) dX2_init_127 (by decide) ?_
  refine i_iload X 0 dX2_init_105 rfl ?_
  refine i_if_lt X (t := 130) dX2_init_107 (by decide) (fun c => absurd c (show ¬ (10 : Int32) < 0 by decide)) (fun _ => ?_)
  refine i_aload_n X 2 dX2_init_110 rfl rfl ?_
  refine i_get X (f := 7) (F := (k_ov [(38, .inl (D.2.1 0, (16, .inl (fun _ => 0)))), (37, .inl (D.2.1 3, (16, .inr (.inl (k_X2_init_32_4))))), (36, .inl (D.2.1 3, (241, .inr (.inl (fun _ => 0))))), (35, .inl (D.2.1 3, (241, .inr (.inl (fun _ => 0))))), (34, .inl (D.2.1 3, (1928, .inr (.inl (fun _ => 0))))), (32, .inr (2, [.ref a1, .ref av, .ref a2, .ref q33, .ref q34, .ref q35, .ref q36, .ref q37, .ref q38, .int (-1), .int 0, .int 0, .int 0, .int 0])), (33, .inl (D.2.1 3, (1928, .inr (.inl (fun _ => 0)))))] F)) kc2 32 rfl (by decide) rfl (hA6 _ (List.mem_of_getElem? (i := 6) rfl)) q_472 dX2_init_111 ?_
  refine i_iload X 0 dX2_init_114 rfl ?_
  refine i_lload_n X 1 dX2_init_116 rfl rfl ?_
  refine i_last X (F := (k_ov [(38, .inl (D.2.1 0, (16, .inl (fun _ => 0)))), (37, .inl (D.2.1 3, (16, .inr (.inl (k_X2_init_32_4))))), (36, .inl (D.2.1 3, (241, .inr (.inl (fun _ => 0))))), (35, .inl (D.2.1 3, (241, .inr (.inl (fun _ => 0))))), (34, .inl (D.2.1 3, (1928, .inr (.inl (fun _ => 0))))), (32, .inr (2, [.ref a1, .ref av, .ref a2, .ref q33, .ref q34, .ref q35, .ref q36, .ref q37, .ref q38, .int (-1), .int 0, .int 0, .int 0, .int 0])), (33, .inl (D.2.1 3, (1928, .inr (.inl (fun _ => 0)))))] F)) (F' := (k_ov [(38, .inl (D.2.1 0, (16, .inl (fun _ => 0)))), (37, .inl (D.2.1 3, (16, .inr (.inl (k_X2_init_32_5))))), (36, .inl (D.2.1 3, (241, .inr (.inl (fun _ => 0))))), (35, .inl (D.2.1 3, (241, .inr (.inl (fun _ => 0))))), (34, .inl (D.2.1 3, (1928, .inr (.inl (fun _ => 0))))), (32, .inr (2, [.ref a1, .ref av, .ref a2, .ref q33, .ref q34, .ref q35, .ref q36, .ref q37, .ref q38, .int (-1), .int 0, .int 0, .int 0, .int 0])), (33, .inl (D.2.1 3, (1928, .inr (.inl (fun _ => 0)))))] F)) 37 rfl (hA6 _ (List.mem_of_getElem? (i := 1) rfl)) rfl (k_ovq 1 rfl rfl) (k_b_in (by decide)) dX2_init_117 ?_
  refine i_lload_n X 1 dX2_init_118 rfl rfl ?_
  refine i_ldc2 X (v := 10) q_464 dX2_init_119 ?_
  refine j_lmul X (v := 1000000) dX2_init_122 (by decide) ?_
  refine i_lstore_n X (lv := [(3, .long (1000000 : Int64)), (5, .int 10), (0, .ref a0), (1, .ref a1), (2, .ref a2)]) dX2_init_123 rfl (by decide) rfl ?_
  refine i_iinc X (q := 1) (v := 9) (lv := [(5, .int 9), (3, .long (1000000 : Int64)), (0, .ref a0), (1, .ref a1), (2, .ref a2)]) dX2_init_124 rfl (by decide) (by decide) rfl ?_
  refine i_goto X (t := 105) dX2_init_127 (by decide) ?_
  refine i_iload X 0 dX2_init_105 rfl ?_
  refine i_if_lt X (t := 130) dX2_init_107 (by decide) (fun c => absurd c (show ¬ (9 : Int32) < 0 by decide)) (fun _ => ?_)
  refine i_aload_n X 2 dX2_init_110 rfl rfl ?_
  refine i_get X (f := 7) (F := (k_ov [(38, .inl (D.2.1 0, (16, .inl (fun _ => 0)))), (37, .inl (D.2.1 3, (16, .inr (.inl (k_X2_init_32_5))))), (36, .inl (D.2.1 3, (241, .inr (.inl (fun _ => 0))))), (35, .inl (D.2.1 3, (241, .inr (.inl (fun _ => 0))))), (34, .inl (D.2.1 3, (1928, .inr (.inl (fun _ => 0))))), (32, .inr (2, [.ref a1, .ref av, .ref a2, .ref q33, .ref q34, .ref q35, .ref q36, .ref q37, .ref q38, .int (-1), .int 0, .int 0, .int 0, .int 0])), (33, .inl (D.2.1 3, (1928, .inr (.inl (fun _ => 0)))))] F)) kc2 32 rfl (by decide) rfl (hA6 _ (List.mem_of_getElem? (i := 6) rfl)) q_472 dX2_init_111 ?_
  refine i_iload X 0 dX2_init_114 rfl ?_
  refine i_lload_n X 1 dX2_init_116 rfl rfl ?_
  refine i_last X (F := (k_ov [(38, .inl (D.2.1 0, (16, .inl (fun _ => 0)))), (37, .inl (D.2.1 3, (16, .inr (.inl (k_X2_init_32_5))))), (36, .inl (D.2.1 3, (241, .inr (.inl (fun _ => 0))))), (35, .inl (D.2.1 3, (241, .inr (.inl (fun _ => 0))))), (34, .inl (D.2.1 3, (1928, .inr (.inl (fun _ => 0))))), (32, .inr (2, [.ref a1, .ref av, .ref a2, .ref q33, .ref q34, .ref q35, .ref q36, .ref q37, .ref q38, .int (-1), .int 0, .int 0, .int 0, .int 0])), (33, .inl (D.2.1 3, (1928, .inr (.inl (fun _ => 0)))))] F)) (F' := (k_ov [(38, .inl (D.2.1 0, (16, .inl (fun _ => 0)))), (37, .inl (D.2.1 3, (16, .inr (.inl (k_X2_init_32_6))))), (36, .inl (D.2.1 3, (241, .inr (.inl (fun _ => 0))))), (35, .inl (D.2.1 3, (241, .inr (.inl (fun _ => 0))))), (34, .inl (D.2.1 3, (1928, .inr (.inl (fun _ => 0))))), (32, .inr (2, [.ref a1, .ref av, .ref a2, .ref q33, .ref q34, .ref q35, .ref q36, .ref q37, .ref q38, .int (-1), .int 0, .int 0, .int 0, .int 0])), (33, .inl (D.2.1 3, (1928, .inr (.inl (fun _ => 0)))))] F)) 37 rfl (hA6 _ (List.mem_of_getElem? (i := 1) rfl)) rfl (k_ovq 1 rfl rfl) (k_b_in (by decide)) dX2_init_117 ?_
  refine i_lload_n X 1 dX2_init_118 rfl rfl ?_
  refine i_ldc2 X (v := 10) q_464 dX2_init_119 ?_
  refine j_lmul X (v := 10000000) dX2_init_122 (by decide) ?_
  refine i_lstore_n X (lv := [(3, .long (10000000 : Int64)), (5, .int 9), (0, .ref a0), (1, .ref a1), (2, .ref a2)]) dX2_init_123 rfl (by decide) rfl ?_
  refine i_iinc X (q := 1) (v := 8) (lv := [(5, .int 8), (3, .long (10000000 : Int64)), (0, .ref a0), (1, .ref a1), (2, .ref a2)]) dX2_init_124 rfl (by decide) (by decide) rfl ?_
  refine i_goto X (t := 105) dX2_init_127 (by decide) ?_
  refine i_iload X 0 dX2_init_105 rfl ?_
  refine i_if_lt X (t := 130) dX2_init_107 (by decide) (fun c => absurd c (show ¬ (8 : Int32) < 0 by decide)) (fun _ => ?_)
  refine i_aload_n X 2 dX2_init_110 rfl rfl ?_
  refine i_get X (f := 7) (F := (k_ov [(38, .inl (D.2.1 0, (16, .inl (fun _ => 0)))), (37, .inl (D.2.1 3, (16, .inr (.inl (k_X2_init_32_6))))), (36, .inl (D.2.1 3, (241, .inr (.inl (fun _ => 0))))), (35, .inl (D.2.1 3, (241, .inr (.inl (fun _ => 0))))), (34, .inl (D.2.1 3, (1928, .inr (.inl (fun _ => 0))))), (32, .inr (2, [.ref a1, .ref av, .ref a2, .ref q33, .ref q34, .ref q35, .ref q36, .ref q37, .ref q38, .int (-1), .int 0, .int 0, .int 0, .int 0])), (33, .inl (D.2.1 3, (1928, .inr (.inl (fun _ => 0)))))] F)) kc2 32 rfl (by decide) rfl (hA6 _ (List.mem_of_getElem? (i := 6) rfl)) q_472 dX2_init_111 ?_
  refine i_iload X 0 dX2_init_114 rfl ?_
  refine i_lload_n X 1 dX2_init_116 rfl rfl ?_
  refine i_last X (F := (k_ov [(38, .inl (D.2.1 0, (16, .inl (fun _ => 0)))), (37, .inl (D.2.1 3, (16, .inr (.inl (k_X2_init_32_6))))), (36, .inl (D.2.1 3, (241, .inr (.inl (fun _ => 0))))), (35, .inl (D.2.1 3, (241, .inr (.inl (fun _ => 0))))), (34, .inl (D.2.1 3, (1928, .inr (.inl (fun _ => 0))))), (32, .inr (2, [.ref a1, .ref av, .ref a2, .ref q33, .ref q34, .ref q35, .ref q36, .ref q37, .ref q38, .int (-1), .int 0, .int 0, .int 0, .int 0])), (33, .inl (D.2.1 3, (1928, .inr (.inl (fun _ => 0)))))] F)) (F' := (k_ov [(38, .inl (D.2.1 0, (16, .inl (fun _ => 0)))), (37, .inl (D.2.1 3, (16, .inr (.inl (k_X2_init_32_7))))), (36, .inl (D.2.1 3, (241, .inr (.inl (fun _ => 0))))), (35, .inl (D.2.1 3, (241, .inr (.inl (fun _ => 0))))), (34, .inl (D.2.1 3, (1928, .inr (.inl (fun _ => 0))))), (32, .inr (2, [.ref a1, .ref av, .ref a2, .ref q33, .ref q34, .ref q35, .ref q36, .ref q37, .ref q38, .int (-1), .int 0, .int 0, .int 0, .int 0])), (33, .inl (D.2.1 3, (1928, .inr (.inl (fun _ => 0)))))] F)) 37 rfl (hA6 _ (List.mem_of_getElem? (i := 1) rfl)) rfl (k_ovq 1 rfl rfl) (k_b_in (by decide)) dX2_init_117 ?_
  refine i_lload_n X 1 dX2_init_118 rfl rfl ?_
  refine i_ldc2 X (v := 10) q_464 dX2_init_119 ?_
  refine j_lmul X (v := 100000000) dX2_init_122 (by decide) ?_
  refine i_lstore_n X (lv := [(3, .long (100000000 : Int64)), (5, .int 8), (0, .ref a0), (1, .ref a1), (2, .ref a2)]) dX2_init_123 rfl (by decide) rfl ?_
  refine i_iinc X (q := 1) (v := 7) (lv := [(5, .int 7), (3, .long (100000000 : Int64)), (0, .ref a0), (1, .ref a1), (2, .ref a2)]) dX2_init_124 rfl (by decide) (by decide) rfl ?_
  refine i_goto X (t := 105) dX2_init_127 (by decide) ?_
  refine i_iload X 0 dX2_init_105 rfl ?_
  refine i_if_lt X (t := 130) dX2_init_107 (by decide) (fun c => absurd c (show ¬ (7 : Int32) < 0 by decide)) (fun _ => ?_)
  refine i_aload_n X 2 dX2_init_110 rfl rfl ?_
  refine i_get X (f := 7) (F := (k_ov [(38, .inl (D.2.1 0, (16, .inl (fun _ => 0)))), (37, .inl (D.2.1 3, (16, .inr (.inl (k_X2_init_32_7))))), (36, .inl (D.2.1 3, (241, .inr (.inl (fun _ => 0))))), (35, .inl (D.2.1 3, (241, .inr (.inl (fun _ => 0))))), (34, .inl (D.2.1 3, (1928, .inr (.inl (fun _ => 0))))), (32, .inr (2, [.ref a1, .ref av, .ref a2, .ref q33, .ref q34, .ref q35, .ref q36, .ref q37, .ref q38, .int (-1), .int 0, .int 0, .int 0, .int 0])), (33, .inl (D.2.1 3, (1928, .inr (.inl (fun _ => 0)))))] F)) kc2 32 rfl (by decide) rfl (hA6 _ (List.mem_of_getElem? (i := 6) rfl)) q_472 dX2_init_111 ?_
  refine i_iload X 0 dX2_init_114 rfl ?_
  refine i_lload_n X 1 dX2_init_116 rfl rfl ?_
  refine i_last X (F := (k_ov [(38, .inl (D.2.1 0, (16, .inl (fun _ => 0)))), (37, .inl (D.2.1 3, (16, .inr (.inl (k_X2_init_32_7))))), (36, .inl (D.2.1 3, (241, .inr (.inl (fun _ => 0))))), (35, .inl (D.2.1 3, (241, .inr (.inl (fun _ => 0))))), (34, .inl (D.2.1 3, (1928, .inr (.inl (fun _ => 0))))), (32, .inr (2, [.ref a1, .ref av, .ref a2, .ref q33, .ref q34, .ref q35, .ref q36, .ref q37, .ref q38, .int (-1), .int 0, .int 0, .int 0, .int 0])), (33, .inl (D.2.1 3, (1928, .inr (.inl (fun _ => 0)))))] F)) (F' := (k_ov [(38, .inl (D.2.1 0, (16, .inl (fun _ => 0)))), (37, .inl (D.2.1 3, (16, .inr (.inl (k_X2_init_32_8))))), (36, .inl (D.2.1 3, (241, .inr (.inl (fun _ => 0))))), (35, .inl (D.2.1 3, (241, .inr (.inl (fun _ => 0))))), (34, .inl (D.2.1 3, (1928, .inr (.inl (fun _ => 0))))), (32, .inr (2, [.ref a1, .ref av, .ref a2, .ref q33, .ref q34, .ref q35, .ref q36, .ref q37, .ref q38, .int (-1), .int 0, .int 0, .int 0, .int 0])), (33, .inl (D.2.1 3, (1928, .inr (.inl (fun _ => 0)))))] F)) 37 rfl (hA6 _ (List.mem_of_getElem? (i := 1) rfl)) rfl (k_ovq 1 rfl rfl) (k_b_in (by decide)) dX2_init_117 ?_
  refine i_lload_n X 1 dX2_init_118 rfl rfl ?_
  refine i_ldc2 X (v := 10) q_464 dX2_init_119 ?_
  refine j_lmul X (v := 1000000000) dX2_init_122 (by decide) ?_
  refine i_lstore_n X (lv := [(3, .long (1000000000 : Int64)), (5, .int 7), (0, .ref a0), (1, .ref a1), (2, .ref a2)]) dX2_init_123 rfl (by decide) rfl ?_
  refine i_iinc X (q := 1) (v := 6) (lv := [(5, .int 6), (3, .long (1000000000 : Int64)), (0, .ref a0), (1, .ref a1), (2, .ref a2)]) dX2_init_124 rfl (by decide) (by decide) rfl ?_
  refine i_goto X (t := 105) dX2_init_127 (by decide) ?_
  refine i_iload X 0 dX2_init_105 rfl ?_
  refine i_if_lt X (t := 130) dX2_init_107 (by decide) (fun c => absurd c (show ¬ (6 : Int32) < 0 by decide)) (fun _ => ?_)
  refine i_aload_n X 2 dX2_init_110 rfl rfl ?_
  refine i_get X (f := 7) (F := (k_ov [(38, .inl (D.2.1 0, (16, .inl (fun _ => 0)))), (37, .inl (D.2.1 3, (16, .inr (.inl (k_X2_init_32_8))))), (36, .inl (D.2.1 3, (241, .inr (.inl (fun _ => 0))))), (35, .inl (D.2.1 3, (241, .inr (.inl (fun _ => 0))))), (34, .inl (D.2.1 3, (1928, .inr (.inl (fun _ => 0))))), (32, .inr (2, [.ref a1, .ref av, .ref a2, .ref q33, .ref q34, .ref q35, .ref q36, .ref q37, .ref q38, .int (-1), .int 0, .int 0, .int 0, .int 0])), (33, .inl (D.2.1 3, (1928, .inr (.inl (fun _ => 0)))))] F)) kc2 32 rfl (by decide) rfl (hA6 _ (List.mem_of_getElem? (i := 6) rfl)) q_472 dX2_init_111 ?_
  refine i_iload X 0 dX2_init_114 rfl ?_
  refine i_lload_n X 1 dX2_init_116 rfl rfl ?_
  refine i_last X (F := (k_ov [(38, .inl (D.2.1 0, (16, .inl (fun _ => 0)))), (37, .inl (D.2.1 3, (16, .inr (.inl (k_X2_init_32_8))))), (36, .inl (D.2.1 3, (241, .inr (.inl (fun _ => 0))))), (35, .inl (D.2.1 3, (241, .inr (.inl (fun _ => 0))))), (34, .inl (D.2.1 3, (1928, .inr (.inl (fun _ => 0))))), (32, .inr (2, [.ref a1, .ref av, .ref a2, .ref q33, .ref q34, .ref q35, .ref q36, .ref q37, .ref q38, .int (-1), .int 0, .int 0, .int 0, .int 0])), (33, .inl (D.2.1 3, (1928, .inr (.inl (fun _ => 0)))))] F)) (F' := (k_ov [(38, .inl (D.2.1 0, (16, .inl (fun _ => 0)))), (37, .inl (D.2.1 3, (16, .inr (.inl (k_X2_init_32_9))))), (36, .inl (D.2.1 3, (241, .inr (.inl (fun _ => 0))))), (35, .inl (D.2.1 3, (241, .inr (.inl (fun _ => 0))))), (34, .inl (D.2.1 3, (1928, .inr (.inl (fun _ => 0))))), (32, .inr (2, [.ref a1, .ref av, .ref a2, .ref q33, .ref q34, .ref q35, .ref q36, .ref q37, .ref q38, .int (-1), .int 0, .int 0, .int 0, .int 0])), (33, .inl (D.2.1 3, (1928, .inr (.inl (fun _ => 0)))))] F)) 37 rfl (hA6 _ (List.mem_of_getElem? (i := 1) rfl)) rfl (k_ovq 1 rfl rfl) (k_b_in (by decide)) dX2_init_117 ?_
  refine i_lload_n X 1 dX2_init_118 rfl rfl ?_
  refine i_ldc2 X (v := 10) q_464 dX2_init_119 ?_
  refine j_lmul X (v := 10000000000) dX2_init_122 (by decide) ?_
  refine i_lstore_n X (lv := [(3, .long (10000000000 : Int64)), (5, .int 6), (0, .ref a0), (1, .ref a1), (2, .ref a2)]) dX2_init_123 rfl (by decide) rfl ?_
  refine i_iinc X (q := 1) (v := 5) (lv := [(5, .int 5), (3, .long (10000000000 : Int64)), (0, .ref a0), (1, .ref a1), (2, .ref a2)]) dX2_init_124 rfl (by decide) (by decide) rfl ?_
  refine i_goto X (t := 105) dX2_init_127 (by decide) ?_
  refine i_iload X 0 dX2_init_105 rfl ?_
  refine i_if_lt X (t := 130) dX2_init_107 (by decide) (fun c => absurd c (show ¬ (5 : Int32) < 0 by decide)) (fun _ => ?_)
  refine i_aload_n X 2 dX2_init_110 rfl rfl ?_
  refine i_get X (f := 7) (F := (k_ov [(38, .inl (D.2.1 0, (16, .inl (fun _ => 0)))), (37, .inl (D.2.1 3, (16, .inr (.inl (k_X2_init_32_9))))), (36, .inl (D.2.1 3, (241, .inr (.inl (fun _ => 0))))), (35, .inl (D.2.1 3, (241, .inr (.inl (fun _ => 0))))), (34, .inl (D.2.1 3, (1928, .inr (.inl (fun _ => 0))))), (32, .inr (2, [.ref a1, .ref av, .ref a2, .ref q33, .ref q34, .ref q35, .ref q36, .ref q37, .ref q38, .int (-1), .int 0, .int 0, .int 0, .int 0])), (33, .inl (D.2.1 3, (1928, .inr (.inl (fun _ => 0)))))] F)) kc2 32 rfl (by decide) rfl (hA6 _ (List.mem_of_getElem? (i := 6) rfl)) q_472 dX2_init_111 ?_
  refine i_iload X 0 dX2_init_114 rfl ?_
  refine i_lload_n X 1 dX2_init_116 rfl rfl ?_
  refine i_last X (F := (k_ov [(38, .inl (D.2.1 0, (16, .inl (fun _ => 0)))), (37, .inl (D.2.1 3, (16, .inr (.inl (k_X2_init_32_9))))), (36, .inl (D.2.1 3, (241, .inr (.inl (fun _ => 0))))), (35, .inl (D.2.1 3, (241, .inr (.inl (fun _ => 0))))), (34, .inl (D.2.1 3, (1928, .inr (.inl (fun _ => 0))))), (32, .inr (2, [.ref a1, .ref av, .ref a2, .ref q33, .ref q34, .ref q35, .ref q36, .ref q37, .ref q38, .int (-1), .int 0, .int 0, .int 0, .int 0])), (33, .inl (D.2.1 3, (1928, .inr (.inl (fun _ => 0)))))] F)) (F' := (k_ov [(38, .inl (D.2.1 0, (16, .inl (fun _ => 0)))), (37, .inl (D.2.1 3, (16, .inr (.inl (k_X2_init_32_10))))), (36, .inl (D.2.1 3, (241, .inr (.inl (fun _ => 0))))), (35, .inl (D.2.1 3, (241, .inr (.inl (fun _ => 0))))), (34, .inl (D.2.1 3, (1928, .inr (.inl (fun _ => 0))))), (32, .inr (2, [.ref a1, .ref av, .ref a2, .ref q33, .ref q34, .ref q35, .ref q36, .ref q37, .ref q38, .int (-1), .int 0, .int 0, .int 0, .int 0])), (33, .inl (D.2.1 3, (1928, .inr (.inl (fun _ => 0)))))] F)) 37 rfl (hA6 _ (List.mem_of_getElem? (i := 1) rfl)) rfl (k_ovq 1 rfl rfl) (k_b_in (by decide)) dX2_init_117 ?_
  refine i_lload_n X 1 dX2_init_118 rfl rfl ?_
  refine i_ldc2 X (v := 10) q_464 dX2_init_119 ?_
  refine j_lmul X (v := 100000000000) dX2_init_122 (by decide) ?_
  refine i_lstore_n X (lv := [(3, .long (100000000000 : Int64)), (5, .int 5), (0, .ref a0), (1, .ref a1), (2, .ref a2)]) dX2_init_123 rfl (by decide) rfl ?_
  refine i_iinc X (q := 1) (v := 4) (lv := [(5, .int 4), (3, .long (100000000000 : Int64)), (0, .ref a0), (1, .ref a1), (2, .ref a2)]) dX2_init_124 rfl (by decide) (by decide) rfl ?_
  refine i_goto X (t := 105) dX2_init_127 (by decide) ?_
  refine i_iload X 0 dX2_init_105 rfl ?_
  refine i_if_lt X (t := 130) dX2_init_107 (by decide) (fun c => absurd c (show ¬ (4 : Int32) < 0 by decide)) (fun _ => ?_)
  refine i_aload_n X 2 dX2_init_110 rfl rfl ?_
  refine i_get X (f := 7) (F := (k_ov [(38, .inl (D.2.1 0, (16, .inl (fun _ => 0)))), (37, .inl (D.2.1 3, (16, .inr (.inl (k_X2_init_32_10))))), (36, .inl (D.2.1 3, (241, .inr (.inl (fun _ => 0))))), (35, .inl (D.2.1 3, (241, .inr (.inl (fun _ => 0))))), (34, .inl (D.2.1 3, (1928, .inr (.inl (fun _ => 0))))), (32, .inr (2, [.ref a1, .ref av, .ref a2, .ref q33, .ref q34, .ref q35, .ref q36, .ref q37, .ref q38, .int (-1), .int 0, .int 0, .int 0, .int 0])), (33, .inl (D.2.1 3, (1928, .inr (.inl (fun _ => 0)))))] F)) kc2 32 rfl (by decide) rfl (hA6 _ (List.mem_of_getElem? (i := 6) rfl)) q_472 dX2_init_111 ?_
  refine i_iload X 0 dX2_init_114 rfl ?_
  refine i_lload_n X 1 dX2_init_116 rfl rfl ?_
  refine i_last X (F := (k_ov [(38, .inl (D.2.1 0, (16, .inl (fun _ => 0)))), (37, .inl (D.2.1 3, (16, .inr (.inl (k_X2_init_32_10))))), (36, .inl (D.2.1 3, (241, .inr (.inl (fun _ => 0))))), (35, .inl (D.2.1 3, (241, .inr (.inl (fun _ => 0))))), (34, .inl (D.2.1 3, (1928, .inr (.inl (fun _ => 0))))), (32, .inr (2, [.ref a1, .ref av, .ref a2, .ref q33, .ref q34, .ref q35, .ref q36, .ref q37, .ref q38, .int (-1), .int 0, .int 0, .int 0, .int 0])), (33, .inl (D.2.1 3, (1928, .inr (.inl (fun _ => 0)))))] F)) (F' := (k_ov [(38, .inl (D.2.1 0, (16, .inl (fun _ => 0)))), (37, .inl (D.2.1 3, (16, .inr (.inl (k_X2_init_32_11))))), (36, .inl (D.2.1 3, (241, .inr (.inl (fun _ => 0))))), (35, .inl (D.2.1 3, (241, .inr (.inl (fun _ => 0))))), (34, .inl (D.2.1 3, (1928, .inr (.inl (fun _ => 0))))), (32, .inr (2, [.ref a1, .ref av, .ref a2, .ref q33, .ref q34, .ref q35, .ref q36, .ref q37, .ref q38, .int (-1), .int 0, .int 0, .int 0, .int 0])), (33, .inl (D.2.1 3, (1928, .inr (.inl (fun _ => 0)))))] F)) 37 rfl (hA6 _ (List.mem_of_getElem? (i := 1) rfl)) rfl (k_ovq 1 rfl rfl) (k_b_in (by decide)) dX2_init_117 ?_
  refine i_lload_n X 1 dX2_init_118 rfl rfl ?_
  refine i_ldc2 X (v := 10) q_464 dX2_init_119 ?_
  refine j_lmul X (v := 1000000000000) dX2_init_122 (by decide) ?_
  refine i_lstore_n X (lv := [(3, .long (1000000000000 : Int64)), (5, .int 4), (0, .ref a0), (1, .ref a1), (2, .ref a2)]) dX2_init_123 rfl (by decide) rfl ?_
  refine i_iinc X (q := 1) (v := 3) (lv := [(5, .int 3), (3, .long (1000000000000 : Int64)), (0, .ref a0), (1, .ref a1), (2, .ref a2)]) dX2_init_124 rfl (by decide) (by decide) rfl ?_
  refine i_goto X (t := 105) dX2_init_127 (by decide) ?_
  refine i_iload X 0 dX2_init_105 rfl ?_
  refine i_if_lt X (t := 130) dX2_init_107 (by decide) (fun c => absurd c (show ¬ (3 : Int32) < 0 by decide)) (fun _ => ?_)
  refine i_aload_n X 2 dX2_init_110 rfl rfl ?_
  refine i_get X (f := 7) (F := (k_ov [(38, .inl (D.2.1 0, (16, .inl (fun _ => 0)))), (37, .inl (D.2.1 3, (16, .inr (.inl (k_X2_init_32_11))))), (36, .inl (D.2.1 3, (241, .inr (.inl (fun _ => 0))))), (35, .inl (D.2.1 3, (241, .inr (.inl (fun _ => 0))))), (34, .inl (D.2.1 3, (1928, .inr (.inl (fun _ => 0))))), (32, .inr (2, [.ref a1, .ref av, .ref a2, .ref q33, .ref q34, .ref q35, .ref q36, .ref q37, .ref q38, .int (-1), .int 0, .int 0, .int 0, .int 0])), (33, .inl (D.2.1 3, (1928, .inr (.inl (fun _ => 0)))))] F)) kc2 32 rfl (by decide) rfl (hA6 _ (List.mem_of_getElem? (i := 6) rfl)) q_472 dX2_init_111 ?_
  refine i_iload X 0 dX2_init_114 rfl ?_
  refine i_lload_n X 1 dX2_init_116 rfl rfl ?_
  refine i_last X (F := (k_ov [(38, .inl (D.2.1 0, (16, .inl (fun _ => 0)))), (37, .inl (D.2.1 3, (16, .inr (.inl (k_X2_init_32_11))))), (36, .inl (D.2.1 3, (241, .inr (.inl (fun _ => 0))))), (35, .inl (D.2.1 3, (241, .inr (.inl (fun _ => 0))))), (34, .inl (D.2.1 3, (1928, .inr (.inl (fun _ => 0))))), (32, .inr (2, [.ref a1, .ref av, .ref a2, .ref q33, .ref q34, .ref q35, .ref q36, .ref q37, .ref q38, .int (-1), .int 0, .int 0, .int 0, .int 0])), (33, .inl (D.2.1 3, (1928, .inr (.inl (fun _ => 0)))))] F)) (F' := (k_ov [(38, .inl (D.2.1 0, (16, .inl (fun _ => 0)))), (37, .inl (D.2.1 3, (16, .inr (.inl (k_X2_init_32_12))))), (36, .inl (D.2.1 3, (241, .inr (.inl (fun _ => 0))))), (35, .inl (D.2.1 3, (241, .inr (.inl (fun _ => 0))))), (34, .inl (D.2.1 3, (1928, .inr (.inl (fun _ => 0))))), (32, .inr (2, [.ref a1, .ref av, .ref a2, .ref q33, .ref q34, .ref q35, .ref q36, .ref q37, .ref q38, .int (-1), .int 0, .int 0, .int 0, .int 0])), (33, .inl (D.2.1 3, (1928, .inr (.inl (fun _ => 0)))))] F)) 37 rfl (hA6 _ (List.mem_of_getElem? (i := 1) rfl)) rfl (k_ovq 1 rfl rfl) (k_b_in (by decide)) dX2_init_117 ?_
  refine i_lload_n X 1 dX2_init_118 rfl rfl ?_
  refine i_ldc2 X (v := 10) q_464 dX2_init_119 ?_
  refine j_lmul X (v := 10000000000000) dX2_init_122 (by decide) ?_
  refine i_lstore_n X (lv := [(3, .long (10000000000000 : Int64)), (5, .int 3), (0, .ref a0), (1, .ref a1), (2, .ref a2)]) dX2_init_123 rfl (by decide) rfl ?_
  refine i_iinc X (q := 1) (v := 2) (lv := [(5, .int 2), (3, .long (10000000000000 : Int64)), (0, .ref a0), (1, .ref a1), (2, .ref a2)]) dX2_init_124 rfl (by decide) (by decide) rfl ?_
  refine i_goto X (t := 105) dX2_init_127 (by decide) ?_
  refine i_iload X 0 dX2_init_105 rfl ?_
  refine i_if_lt X (t := 130) dX2_init_107 (by decide) (fun c => absurd c (show ¬ (2 : Int32) < 0 by decide)) (fun _ => ?_)
  refine i_aload_n X 2 dX2_init_110 rfl rfl ?_
  refine i_get X (f := 7) (F := (k_ov [(38, .inl (D.2.1 0, (16, .inl (fun _ => 0)))), (37, .inl (D.2.1 3, (16, .inr (.inl (k_X2_init_32_12))))), (36, .inl (D.2.1 3, (241, .inr (.inl (fun _ => 0))))), (35, .inl (D.2.1 3, (241, .inr (.inl (fun _ => 0))))), (34, .inl (D.2.1 3, (1928, .inr (.inl (fun _ => 0))))), (32, .inr (2, [.ref a1, .ref av, .ref a2, .ref q33, .ref q34, .ref q35, .ref q36, .ref q37, .ref q38, .int (-1), .int 0, .int 0, .int 0, .int 0])), (33, .inl (D.2.1 3, (1928, .inr (.inl (fun _ => 0)))))] F)) kc2 32 rfl (by decide) rfl (hA6 _ (List.mem_of_getElem? (i := 6) rfl)) q_472 dX2_init_111 ?_
  refine i_iload X 0 dX2_init_114 rfl ?_
  refine i_lload_n X 1 dX2_init_116 rfl rfl ?_
  refine i_last X (F := (k_ov [(38, .inl (D.2.1 0, (16, .inl (fun _ => 0)))), (37, .inl (D.2.1 3, (16, .inr (.inl (k_X2_init_32_12))))), (36, .inl (D.2.1 3, (241, .inr (.inl (fun _ => 0))))), (35, .inl (D.2.1 3, (241, .inr (.inl (fun _ => 0))))), (34, .inl (D.2.1 3, (1928, .inr (.inl (fun _ => 0))))), (32, .inr (2, [.ref a1, .ref av, .ref a2, .ref q33, .ref q34, .ref q35, .ref q36, .ref q37, .ref q38, .int (-1), .int 0, .int 0, .int 0, .int 0])), (33, .inl (D.2.1 3, (1928, .inr (.inl (fun _ => 0)))))] F)) (F' := (k_ov [(38, .inl (D.2.1 0, (16, .inl (fun _ => 0)))), (37, .inl (D.2.1 3, (16, .inr (.inl (k_X2_init_32_13))))), (36, .inl (D.2.1 3, (241, .inr (.inl (fun _ => 0))))), (35, .inl (D.2.1 3, (241, .inr (.inl (fun _ => 0))))), (34, .inl (D.2.1 3, (1928, .inr (.inl (fun _ => 0))))), (32, .inr (2, [.ref a1, .ref av, .ref a2, .ref q33, .ref q34, .ref q35, .ref q36, .ref q37, .ref q38, .int (-1), .int 0, .int 0, .int 0, .int 0])), (33, .inl (D.2.1 3, (1928, .inr (.inl (fun _ => 0)))))] F)) 37 rfl (hA6 _ (List.mem_of_getElem? (i := 1) rfl)) rfl (k_ovq 1 rfl rfl) (k_b_in (by decide)) dX2_init_117 ?_
  refine i_lload_n X 1 dX2_init_118 rfl rfl ?_
  refine i_ldc2 X (v := 10) q_464 dX2_init_119 ?_
  refine j_lmul X (v := 100000000000000) dX2_init_122 (by decide) ?_
  refine i_lstore_n X (lv := [(3, .long (100000000000000 : Int64)), (5, .int 2), (0, .ref a0), (1, .ref a1), (2, .ref a2)]) dX2_init_123 rfl (by decide) rfl ?_
  refine i_iinc X (q := 1) (v := 1) (lv := [(5, .int 1), (3, .long (100000000000000 : Int64)), (0, .ref a0), (1, .ref a1), (2, .ref a2)]) dX2_init_124 rfl (by decide) (by decide) rfl ?_
  refine i_goto X (t := 105) dX2_init_127 (by decide) ?_
  refine i_iload X 0 dX2_init_105 rfl ?_
  refine i_if_lt X (t := 130) dX2_init_107 (by decide) (fun c => absurd c (show ¬ (1 : Int32) < 0 by decide)) (fun _ => ?_)
  refine i_aload_n X 2 dX2_init_110 rfl rfl ?_
  refine i_get X (f := 7) (F := (k_ov [(38, .inl (D.2.1 0, (16, .inl (fun _ => 0)))), (37, .inl (D.2.1 3, (16, .inr (.inl (k_X2_init_32_13))))), (36, .inl (D.2.1 3, (241, .inr (.inl (fun _ => 0))))), (35, .inl (D.2.1 3, (241, .inr (.inl (fun _ => 0))))), (34, .inl (D.2.1 3, (1928, .inr (.inl (fun _ => 0))))), (32, .inr (2, [.ref a1, .ref av, .ref a2, .ref q33, .ref q34, .ref q35, .ref q36, .ref q37, .ref q38, .int (-1), .int 0, .int 0, .int 0, .int 0])), (33, .inl (D.2.1 3, (1928, .inr (.inl (fun _ => 0)))))] F)) kc2 32 rfl (by decide) rfl (hA6 _ (List.mem_of_getElem? (i := 6) rfl)) q_472 dX2_init_111 ?_
  refine i_iload X 0 dX2_init_114 rfl ?_
  refine i_lload_n X 1 dX2_init_116 rfl rfl ?_
  refine i_last X (F := (k_ov [(38, .inl (D.2.1 0, (16, .inl (fun _ => 0)))), (37, .inl (D.2.1 3, (16, .inr (.inl (k_X2_init_32_13))))), (36, .inl (D.2.1 3, (241, .inr (.inl (fun _ => 0))))), (35, .inl (D.2.1 3, (241, .inr (.inl (fun _ => 0))))), (34, .inl (D.2.1 3, (1928, .inr (.inl (fun _ => 0))))), (32, .inr (2, [.ref a1, .ref av, .ref a2, .ref q33, .ref q34, .ref q35, .ref q36, .ref q37, .ref q38, .int (-1), .int 0, .int 0, .int 0, .int 0])), (33, .inl (D.2.1 3, (1928, .inr (.inl (fun _ => 0)))))] F)) (F' := (k_ov [(38, .inl (D.2.1 0, (16, .inl (fun _ => 0)))), (37, .inl (D.2.1 3, (16, .inr (.inl (k_X2_init_32_14))))), (36, .inl (D.2.1 3, (241, .inr (.inl (fun _ => 0))))), (35, .inl (D.2.1 3, (241, .inr (.inl (fun _ => 0))))), (34, .inl (D.2.1 3, (1928, .inr (.inl (fun _ => 0))))), (32, .inr (2, [.ref a1, .ref av, .ref a2, .ref q33, .ref q34, .ref q35, .ref q36, .ref q37, .ref q38, .int (-1), .int 0, .int 0, .int 0, .int 0])), (33, .inl (D.2.1 3, (1928, .inr (.inl (fun _ => 0)))))] F)) 37 rfl (hA6 _ (List.mem_of_getElem? (i := 1) rfl)) rfl (k_ovq 1 rfl rfl) (k_b_in (by decide)) dX2_init_117 ?_
  refine i_lload_n X 1 dX2_init_118 rfl rfl ?_
  refine i_ldc2 X (v := 10) q_464 dX2_init_119 ?_
  refine j_lmul X (v := 1000000000000000) dX2_init_122 (by decide) ?_
  refine i_lstore_n X (lv := [(3, .long (1000000000000000 : Int64)), (5, .int 1), (0, .ref a0), (1, .ref a1), (2, .ref a2)]) dX2_init_123 rfl (by decide) rfl ?_
  refine i_iinc X (q := 1) (v := 0) (lv := [(5, .int 0), (3, .long (1000000000000000 : Int64)), (0, .ref a0), (1, .ref a1), (2, .ref a2)]) dX2_init_124 rfl (by decide) (by decide) rfl ?_
  refine i_goto X (t := 105) dX2_init_127 (by decide) ?_
  refine i_iload X 0 dX2_init_105 rfl ?_
  refine i_if_lt X (t := 130) dX2_init_107 (by decide) (fun c => absurd c (show ¬ (0 : Int32) < 0 by decide)) (fun _ => ?_)
  refine i_aload_n X 2 dX2_init_110 rfl rfl ?_
  refine i_get X (f := 7) (F := (k_ov [(38, .inl (D.2.1 0, (16, .inl (fun _ => 0)))), (37, .inl (D.2.1 3, (16, .inr (.inl (k_X2_init_32_14))))), (36, .inl (D.2.1 3, (241, .inr (.inl (fun _ => 0))))), (35, .inl (D.2.1 3, (241, .inr (.inl (fun _ => 0))))), (34, .inl (D.2.1 3, (1928, .inr (.inl (fun _ => 0))))), (32, .inr (2, [.ref a1, .ref av, .ref a2, .ref q33, .ref q34, .ref q35, .ref q36, .ref q37, .ref q38, .int (-1), .int 0, .int 0, .int 0, .int 0])), (33, .inl (D.2.1 3, (1928, .inr (.inl (fun _ => 0)))))] F)) kc2 32 rfl (by decide) rfl (hA6 _ (List.mem_of_getElem? (i := 6) rfl)) q_472 dX2_init_111 ?_
  refine i_iload X 0 dX2_init_114 rfl ?_
  refine i_lload_n X 1 dX2_init_116 rfl rfl ?_
  refine i_last X (F := (k_ov [(38, .inl (D.2.1 0, (16, .inl (fun _ => 0)))), (37, .inl (D.2.1 3, (16, .inr (.inl (k_X2_init_32_14))))), (36, .inl (D.2.1 3, (241, .inr (.inl (fun _ => 0))))), (35, .inl (D.2.1 3, (241, .inr (.inl (fun _ => 0))))), (34, .inl (D.2.1 3, (1928, .inr (.inl (fun _ => 0))))), (32, .inr (2, [.ref a1, .ref av, .ref a2, .ref q33, .ref q34, .ref q35, .ref q36, .ref q37, .ref q38, .int (-1), .int 0, .int 0, .int 0, .int 0])), (33, .inl (D.2.1 3, (1928, .inr (.inl (fun _ => 0)))))] F)) (F' := (k_ov [(38, .inl (D.2.1 0, (16, .inl (fun _ => 0)))), (37, .inl (D.2.1 3, (16, .inr (.inl (k_X2_init_32_15))))), (36, .inl (D.2.1 3, (241, .inr (.inl (fun _ => 0))))), (35, .inl (D.2.1 3, (241, .inr (.inl (fun _ => 0))))), (34, .inl (D.2.1 3, (1928, .inr (.inl (fun _ => 0))))), (32, .inr (2, [.ref a1, .ref av, .ref a2, .ref q33, .ref q34, .ref q35, .ref q36, .ref q37, .ref q38, .int (-1), .int 0, .int 0, .int 0, .int 0])), (33, .inl (D.2.1 3, (1928, .inr (.inl (fun _ => 0)))))] F)) 37 rfl (hA6 _ (List.mem_of_getElem? (i := 1) rfl)) rfl (k_ovq 1 rfl rfl) (k_b_in (by decide)) dX2_init_117 ?_
  refine i_lload_n X 1 dX2_init_118 rfl rfl ?_
  refine i_ldc2 X (v := 10) q_464 dX2_init_119 ?_
  refine j_lmul X (v := 10000000000000000) dX2_init_122 (by decide) ?_
  refine i_lstore_n X (lv := [(3, .long (10000000000000000 : Int64)), (5, .int 0), (0, .ref a0), (1, .ref a1), (2, .ref a2)]) dX2_init_123 rfl (by decide) rfl ?_
  refine i_iinc X (q := 1) (v := -1) (lv := [(5, .int (-1)), (3, .long (10000000000000000 : Int64)), (0, .ref a0), (1, .ref a1), (2, .ref a2)]) dX2_init_124 rfl (by decide) (by decide) rfl ?_
  refine i_goto X (t := 105) dX2_init_127 (by decide) ?_
  refine i_iload X 0 dX2_init_105 rfl ?_
  refine i_if_lt X (t := 130) dX2_init_107 (by decide) (fun _ => ?_) (fun c => absurd (show (-1 : Int32) < 0 by decide) c)
  have hE : ∀ p ∈ ([(33, q33), (34, q34), (35, q35), (36, q36), (37, q37), (38, q38)] : List (Nat × Nat)), (k_up (k_up (k_up (k_up (k_up (k_up ad 33 q33) 34 q34) 35 q35) 36 q36) 37 q37) 38 q38) p.1 = p.2 := fun p hp => hA6 p (k_pick [5, 4, 3, 2, 1, 0] rfl p hp)
  exact i_vret X rfl dX2_init_130 ⟨rfl, ho6, q33, q34, q35, q36, q37, q38, hE, rfl⟩
set_option maxRecDepth 100000 in
set_option maxHeartbeats 4000000 in
theorem c_X0_init_39 {D : k_D} {F : Nat → Option va_E} {ad : Nat → Nat} {a0 a1 a2 av : Nat} {fs : List Value} (ha0 : ad 39 = a0) (ha1 : ad 0 = a1) (ha2 : ad 17 = a2) (hF0 : F 39 = some (.inr (0, [.null, .null, .null, .null, .int 0, .int 0]))) (hf : ∀ j, 40 ≤ j → j ≤ 40 → j ≠ 39 → F j = none) (hv : F 0 = some (.inr (10, fs))) (hv2 : fs[2]? = some (.ref av)) : Sf yX0_init cX0_init 3 none { frames := 1, cells := 1, slots := 4321, locals := 60 } D F ad [.ref a0, .ref a1, .ref a2] (fun v F' ad' => v = none ∧ (∀ j, (j < 40 ∨ 40 < j) → ad' j = ad j) ∧ ∃ q40 : Nat, (∀ p ∈ ([(40, q40)] : List (Nat × Nat)), ad' p.1 = p.2) ∧ F' = k_ov [(39, .inr (0, [.ref a1, .ref av, .ref a2, .ref q40, .int 0, .int 0])), (40, .inl (D.2.1 0, (4321, .inl (fun _ => 0))))] F) := by
  refine Sf.of (by decide +kernel) (Nat.le_of_ble_eq_true rfl) ?_
  intro p l e s m a b me c A X hm
  have hin : me.name = "<init>" := hm
  have hA0 : ∀ p ∈ ([(39, a0), (0, a1), (17, a2)] : List (Nat × Nat)), ad p.1 = p.2 := by
    intro p hp
    simp only [List.mem_cons, List.not_mem_nil, or_false] at hp
    rcases hp with rfl | rfl | rfl
    · exact ha0
    · exact ha1
    · exact ha2
  have ho0 : ∀ j, (j < 40 ∨ 40 < j) → ad j = ad j := fun j _ => rfl
  refine i_aload_n X 0 dX0_init_0 rfl rfl ?_
  refine i_objInit X q_518 q_168 q_169 ⟨Nat.le_of_ble_eq_true rfl, Nat.le_of_ble_eq_true rfl⟩ dX0_init_1 ?_
  refine i_aload_n X 0 dX0_init_4 rfl rfl ?_
  refine i_sipush X (v := 4321) dX0_init_5 rfl ?_
  refine i_newa X 0 (at_ := .int) (a0 := (4321, .inl (fun _ => 0))) rfl rfl (fun h => h) 40 (hf 40 (by decide) (by decide) (by decide)) (fun _ => rfl) q_233 (by decide) rfl (Nat.le_of_ble_eq_true rfl) (Nat.le_of_ble_eq_true rfl) (Nat.le_of_ble_eq_true rfl) dX0_init_8 (fun q40 => ?_)
  have hA1 := k_adn (k1 := 40) (q := q40) hA0 rfl
  have ho1 := k_outn (k1 := 40) (q := q40) ho0 (by decide) (by decide)
  refine j_F (F2 := (k_ov [(40, .inl (D.2.1 0, (4321, .inl (fun _ => 0))))] F)) (fun j => rfl) ?_
  refine i_putF X hin rfl (f := 3) (F := (k_ov [(40, .inl (D.2.1 0, (4321, .inl (fun _ => 0))))] F)) (F' := (k_ov [(39, .inr (0, [.null, .null, .null, .ref q40, .int 0, .int 0])), (40, .inl (D.2.1 0, (4321, .inl (fun _ => 0))))] F)) kc0 39 hF0 (by decide) (hA1 _ (List.mem_of_getElem? (i := 1) rfl)) rfl k_ovn rfl rfl rfl (Nat.le_of_ble_eq_true rfl) q_522 dX0_init_10 ?_
  refine i_aload_n X 0 dX0_init_13 rfl rfl ?_
  refine i_iconst X (v := 0) dX0_init_14 rfl ?_
  refine i_put X (f := 4) (F := (k_ov [(39, .inr (0, [.null, .null, .null, .ref q40, .int 0, .int 0])), (40, .inl (D.2.1 0, (4321, .inl (fun _ => 0))))] F)) (F' := (k_ov [(39, .inr (0, [.null, .null, .null, .ref q40, .int 0, .int 0])), (40, .inl (D.2.1 0, (4321, .inl (fun _ => 0))))] F)) kc0 39 rfl (by decide) (hA1 _ (List.mem_of_getElem? (i := 1) rfl)) rfl (k_ovq 0 rfl rfl) rfl rfl rfl (Nat.le_of_ble_eq_true rfl) q_523 dX0_init_15 ?_
  refine i_aload_n X 0 dX0_init_18 rfl rfl ?_
  refine i_iconst X (v := 0) dX0_init_19 rfl ?_
  refine i_put X (f := 5) (F := (k_ov [(39, .inr (0, [.null, .null, .null, .ref q40, .int 0, .int 0])), (40, .inl (D.2.1 0, (4321, .inl (fun _ => 0))))] F)) (F' := (k_ov [(39, .inr (0, [.null, .null, .null, .ref q40, .int 0, .int 0])), (40, .inl (D.2.1 0, (4321, .inl (fun _ => 0))))] F)) kc0 39 rfl (by decide) (hA1 _ (List.mem_of_getElem? (i := 1) rfl)) rfl (k_ovq 0 rfl rfl) rfl rfl rfl (Nat.le_of_ble_eq_true rfl) q_525 dX0_init_20 ?_
  refine i_aload_n X 0 dX0_init_23 rfl rfl ?_
  refine i_aload_n X 1 dX0_init_24 rfl rfl ?_
  refine i_putF X hin rfl (f := 0) (F := (k_ov [(39, .inr (0, [.null, .null, .null, .ref q40, .int 0, .int 0])), (40, .inl (D.2.1 0, (4321, .inl (fun _ => 0))))] F)) (F' := (k_ov [(39, .inr (0, [.ref a1, .null, .null, .ref q40, .int 0, .int 0])), (40, .inl (D.2.1 0, (4321, .inl (fun _ => 0))))] F)) kc0 39 rfl (by decide) (hA1 _ (List.mem_of_getElem? (i := 1) rfl)) rfl (k_ovq 0 rfl rfl) rfl rfl rfl (Nat.le_of_ble_eq_true rfl) q_519 dX0_init_25 ?_
  refine i_aload_n X 0 dX0_init_28 rfl rfl ?_
  refine i_aload_n X 1 dX0_init_29 rfl rfl ?_
  refine i_getN X (f := 2) (F := (k_ov [(39, .inr (0, [.ref a1, .null, .null, .ref q40, .int 0, .int 0])), (40, .inl (D.2.1 0, (4321, .inl (fun _ => 0))))] F)) kc10 0 hv (by decide) hv2 (hA1 _ (List.mem_of_getElem? (i := 2) rfl)) q_242 dX0_init_30 ?_
  refine i_putF X hin rfl (f := 1) (F := (k_ov [(39, .inr (0, [.ref a1, .null, .null, .ref q40, .int 0, .int 0])), (40, .inl (D.2.1 0, (4321, .inl (fun _ => 0))))] F)) (F' := (k_ov [(39, .inr (0, [.ref a1, .ref av, .null, .ref q40, .int 0, .int 0])), (40, .inl (D.2.1 0, (4321, .inl (fun _ => 0))))] F)) kc0 39 rfl (by decide) (hA1 _ (List.mem_of_getElem? (i := 1) rfl)) rfl (k_ovq 0 rfl rfl) rfl rfl rfl (Nat.le_of_ble_eq_true rfl) q_520 dX0_init_33 ?_
  refine i_aload_n X 0 dX0_init_36 rfl rfl ?_
  refine i_aload_n X 2 dX0_init_37 rfl rfl ?_
  refine i_putF X hin rfl (f := 2) (F := (k_ov [(39, .inr (0, [.ref a1, .ref av, .null, .ref q40, .int 0, .int 0])), (40, .inl (D.2.1 0, (4321, .inl (fun _ => 0))))] F)) (F' := (k_ov [(39, .inr (0, [.ref a1, .ref av, .ref a2, .ref q40, .int 0, .int 0])), (40, .inl (D.2.1 0, (4321, .inl (fun _ => 0))))] F)) kc0 39 rfl (by decide) (hA1 _ (List.mem_of_getElem? (i := 1) rfl)) rfl (k_ovq 0 rfl rfl) rfl rfl rfl (Nat.le_of_ble_eq_true rfl) q_521 dX0_init_38 ?_
  have hE : ∀ p ∈ ([(40, q40)] : List (Nat × Nat)), (k_up ad 40 q40) p.1 = p.2 := fun p hp => hA1 p (k_pick [0] rfl p hp)
  exact i_vret X rfl dX0_init_41 ⟨rfl, ho1, q40, hE, rfl⟩
set_option maxRecDepth 100000 in
set_option maxHeartbeats 4000000 in
theorem c_X5_init_41 {D : k_D} {F : Nat → Option va_E} {ad : Nat → Nat} {a0 a1 : Nat} (ha0 : ad 41 = a0) (ha1 : ad 0 = a1) (hF0 : F 41 = some (.inr (5, [.null, .null, .null, .int 0]))) (hf : ∀ j, 42 ≤ j → j ≤ 43 → j ≠ 41 → F j = none) : Sf yX5_init cX5_init 2 none { frames := 1, cells := 2, slots := 1034, locals := 60 } D F ad [.ref a0, .ref a1] (fun v F' ad' => v = none ∧ (∀ j, (j < 42 ∨ 43 < j) → ad' j = ad j) ∧ ∃ q42 q43 : Nat, (∀ p ∈ ([(42, q42), (43, q43)] : List (Nat × Nat)), ad' p.1 = p.2) ∧ F' = k_ov [(43, .inl (D.2.1 0, (1024, .inl (fun _ => 0)))), (41, .inr (5, [.ref a1, .ref q42, .ref q43, .int 0])), (42, .inl (D.2.1 0, (10, .inl (fun _ => 0))))] F) := by
  refine Sf.of (by decide +kernel) (Nat.le_of_ble_eq_true rfl) ?_
  intro p l e s m a b me c A X hm
  have hin : me.name = "<init>" := hm
  have hA0 : ∀ p ∈ ([(41, a0), (0, a1)] : List (Nat × Nat)), ad p.1 = p.2 := by
    intro p hp
    simp only [List.mem_cons, List.not_mem_nil, or_false] at hp
    rcases hp with rfl | rfl
    · exact ha0
    · exact ha1
  have ho0 : ∀ j, (j < 42 ∨ 43 < j) → ad j = ad j := fun j _ => rfl
  refine i_aload_n X 0 dX5_init_0 rfl rfl ?_
  refine i_objInit X q_545 q_168 q_169 ⟨Nat.le_of_ble_eq_true rfl, Nat.le_of_ble_eq_true rfl⟩ dX5_init_1 ?_
  refine i_aload_n X 0 dX5_init_4 rfl rfl ?_
  refine i_bipush X (v := 10) dX5_init_5 rfl ?_
  refine i_newa X 0 (at_ := .int) (a0 := (10, .inl (fun _ => 0))) rfl rfl (fun h => h) 42 (hf 42 (by decide) (by decide) (by decide)) (fun _ => rfl) q_233 (by decide) rfl (Nat.le_of_ble_eq_true rfl) (Nat.le_of_ble_eq_true rfl) (Nat.le_of_ble_eq_true rfl) dX5_init_7 (fun q42 => ?_)
  have hA1 := k_adn (k1 := 42) (q := q42) hA0 rfl
  have ho1 := k_outn (k1 := 42) (q := q42) ho0 (by decide) (by decide)
  refine j_F (F2 := (k_ov [(42, .inl (D.2.1 0, (10, .inl (fun _ => 0))))] F)) (fun j => rfl) ?_
  refine i_putF X hin rfl (f := 1) (F := (k_ov [(42, .inl (D.2.1 0, (10, .inl (fun _ => 0))))] F)) (F' := (k_ov [(41, .inr (5, [.null, .ref q42, .null, .int 0])), (42, .inl (D.2.1 0, (10, .inl (fun _ => 0))))] F)) kc5 41 hF0 (by decide) (hA1 _ (List.mem_of_getElem? (i := 1) rfl)) rfl k_ovn rfl rfl rfl (Nat.le_of_ble_eq_true rfl) q_547 dX5_init_9 ?_
  refine i_aload_n X 0 dX5_init_12 rfl rfl ?_
  refine i_sipush X (v := 1024) dX5_init_13 rfl ?_
  refine i_newa X 0 (at_ := .int) (a0 := (1024, .inl (fun _ => 0))) rfl rfl (fun h => h) 43 (hf 43 (by decide) (by decide) (by decide)) (fun _ => rfl) q_233 (by decide) rfl (Nat.le_of_ble_eq_true rfl) (Nat.le_of_ble_eq_true rfl) (Nat.le_of_ble_eq_true rfl) dX5_init_16 (fun q43 => ?_)
  have hA2 := k_adn (k1 := 43) (q := q43) hA1 rfl
  have ho2 := k_outn (k1 := 43) (q := q43) ho1 (by decide) (by decide)
  refine j_F (F2 := (k_ov [(43, .inl (D.2.1 0, (1024, .inl (fun _ => 0)))), (41, .inr (5, [.null, .ref q42, .null, .int 0])), (42, .inl (D.2.1 0, (10, .inl (fun _ => 0))))] F)) (fun j => rfl) ?_
  refine i_putF X hin rfl (f := 2) (F := (k_ov [(43, .inl (D.2.1 0, (1024, .inl (fun _ => 0)))), (41, .inr (5, [.null, .ref q42, .null, .int 0])), (42, .inl (D.2.1 0, (10, .inl (fun _ => 0))))] F)) (F' := (k_ov [(43, .inl (D.2.1 0, (1024, .inl (fun _ => 0)))), (41, .inr (5, [.null, .ref q42, .ref q43, .int 0])), (42, .inl (D.2.1 0, (10, .inl (fun _ => 0))))] F)) kc5 41 rfl (by decide) (hA2 _ (List.mem_of_getElem? (i := 2) rfl)) rfl (k_ovq 1 rfl rfl) rfl rfl rfl (Nat.le_of_ble_eq_true rfl) q_548 dX5_init_18 ?_
  refine i_aload_n X 0 dX5_init_21 rfl rfl ?_
  refine i_iconst X (v := 0) dX5_init_22 rfl ?_
  refine i_put X (f := 3) (F := (k_ov [(43, .inl (D.2.1 0, (1024, .inl (fun _ => 0)))), (41, .inr (5, [.null, .ref q42, .ref q43, .int 0])), (42, .inl (D.2.1 0, (10, .inl (fun _ => 0))))] F)) (F' := (k_ov [(43, .inl (D.2.1 0, (1024, .inl (fun _ => 0)))), (41, .inr (5, [.null, .ref q42, .ref q43, .int 0])), (42, .inl (D.2.1 0, (10, .inl (fun _ => 0))))] F)) kc5 41 rfl (by decide) (hA2 _ (List.mem_of_getElem? (i := 2) rfl)) rfl (k_ovq 1 rfl rfl) rfl rfl rfl (Nat.le_of_ble_eq_true rfl) q_549 dX5_init_23 ?_
  refine i_aload_n X 0 dX5_init_26 rfl rfl ?_
  refine i_aload_n X 1 dX5_init_27 rfl rfl ?_
  refine i_putF X hin rfl (f := 0) (F := (k_ov [(43, .inl (D.2.1 0, (1024, .inl (fun _ => 0)))), (41, .inr (5, [.null, .ref q42, .ref q43, .int 0])), (42, .inl (D.2.1 0, (10, .inl (fun _ => 0))))] F)) (F' := (k_ov [(43, .inl (D.2.1 0, (1024, .inl (fun _ => 0)))), (41, .inr (5, [.ref a1, .ref q42, .ref q43, .int 0])), (42, .inl (D.2.1 0, (10, .inl (fun _ => 0))))] F)) kc5 41 rfl (by decide) (hA2 _ (List.mem_of_getElem? (i := 2) rfl)) rfl (k_ovq 1 rfl rfl) rfl rfl rfl (Nat.le_of_ble_eq_true rfl) q_546 dX5_init_28 ?_
  have hE : ∀ p ∈ ([(42, q42), (43, q43)] : List (Nat × Nat)), (k_up (k_up ad 42 q42) 43 q43) p.1 = p.2 := fun p hp => hA2 p (k_pick [1, 0] rfl p hp)
  exact i_vret X rfl dX5_init_31 ⟨rfl, ho2, q42, q43, hE, rfl⟩
set_option maxRecDepth 100000 in
set_option maxHeartbeats 4000000 in
theorem c_X6_init_44 {D : k_D} {F : Nat → Option va_E} {ad : Nat → Nat} {a0 a1 av : Nat} {fs : List Value} (ha0 : ad 44 = a0) (ha1 : ad 0 = a1) (hF0 : F 44 = some (.inr (6, [.null, .null, .null, .null, .null, .int 0, .int 0]))) (hf : ∀ j, 45 ≤ j → j ≤ 47 → j ≠ 44 → F j = none) (hv : F 0 = some (.inr (10, fs))) (hv2 : fs[2]? = some (.ref av)) : Sf yX6_init cX6_init 2 none { frames := 1, cells := 3, slots := 32, locals := 60 } D F ad [.ref a0, .ref a1] (fun v F' ad' => v = none ∧ (∀ j, (j < 45 ∨ 47 < j) → ad' j = ad j) ∧ ∃ q45 q46 q47 : Nat, (∀ p ∈ ([(45, q45), (46, q46), (47, q47)] : List (Nat × Nat)), ad' p.1 = p.2) ∧ F' = k_ov [(47, .inl (D.2.1 0, (8, .inl (fun _ => 0)))), (46, .inl (D.2.1 0, (8, .inl (fun _ => 0)))), (44, .inr (6, [.ref a1, .ref av, .ref q45, .ref q46, .ref q47, .int 0, .int 0])), (45, .inl (D.2.1 0, (16, .inl (fun _ => 0))))] F) := by
  refine Sf.of (by decide +kernel) (Nat.le_of_ble_eq_true rfl) ?_
  intro p l e s m a b me c A X hm
  have hin : me.name = "<init>" := hm
  have hA0 : ∀ p ∈ ([(44, a0), (0, a1)] : List (Nat × Nat)), ad p.1 = p.2 := by
    intro p hp
    simp only [List.mem_cons, List.not_mem_nil, or_false] at hp
    rcases hp with rfl | rfl
    · exact ha0
    · exact ha1
  have ho0 : ∀ j, (j < 45 ∨ 47 < j) → ad j = ad j := fun j _ => rfl
  refine i_aload_n X 0 dX6_init_0 rfl rfl ?_
  refine i_objInit X q_564 q_168 q_169 ⟨Nat.le_of_ble_eq_true rfl, Nat.le_of_ble_eq_true rfl⟩ dX6_init_1 ?_
  refine i_aload_n X 0 dX6_init_4 rfl rfl ?_
  refine i_bipush X (v := 16) dX6_init_5 rfl ?_
  refine i_newa X 0 (at_ := .int) (a0 := (16, .inl (fun _ => 0))) rfl rfl (fun h => h) 45 (hf 45 (by decide) (by decide) (by decide)) (fun _ => rfl) q_233 (by decide) rfl (Nat.le_of_ble_eq_true rfl) (Nat.le_of_ble_eq_true rfl) (Nat.le_of_ble_eq_true rfl) dX6_init_7 (fun q45 => ?_)
  have hA1 := k_adn (k1 := 45) (q := q45) hA0 rfl
  have ho1 := k_outn (k1 := 45) (q := q45) ho0 (by decide) (by decide)
  refine j_F (F2 := (k_ov [(45, .inl (D.2.1 0, (16, .inl (fun _ => 0))))] F)) (fun j => rfl) ?_
  refine i_putF X hin rfl (f := 2) (F := (k_ov [(45, .inl (D.2.1 0, (16, .inl (fun _ => 0))))] F)) (F' := (k_ov [(44, .inr (6, [.null, .null, .ref q45, .null, .null, .int 0, .int 0])), (45, .inl (D.2.1 0, (16, .inl (fun _ => 0))))] F)) kc6 44 hF0 (by decide) (hA1 _ (List.mem_of_getElem? (i := 1) rfl)) rfl k_ovn rfl rfl rfl (Nat.le_of_ble_eq_true rfl) q_567 dX6_init_9 ?_
  refine i_aload_n X 0 dX6_init_12 rfl rfl ?_
  refine i_bipush X (v := 8) dX6_init_13 rfl ?_
  refine i_newa X 0 (at_ := .int) (a0 := (8, .inl (fun _ => 0))) rfl rfl (fun h => h) 46 (hf 46 (by decide) (by decide) (by decide)) (fun _ => rfl) q_233 (by decide) rfl (Nat.le_of_ble_eq_true rfl) (Nat.le_of_ble_eq_true rfl) (Nat.le_of_ble_eq_true rfl) dX6_init_15 (fun q46 => ?_)
  have hA2 := k_adn (k1 := 46) (q := q46) hA1 rfl
  have ho2 := k_outn (k1 := 46) (q := q46) ho1 (by decide) (by decide)
  refine j_F (F2 := (k_ov [(46, .inl (D.2.1 0, (8, .inl (fun _ => 0)))), (44, .inr (6, [.null, .null, .ref q45, .null, .null, .int 0, .int 0])), (45, .inl (D.2.1 0, (16, .inl (fun _ => 0))))] F)) (fun j => rfl) ?_
  refine i_putF X hin rfl (f := 3) (F := (k_ov [(46, .inl (D.2.1 0, (8, .inl (fun _ => 0)))), (44, .inr (6, [.null, .null, .ref q45, .null, .null, .int 0, .int 0])), (45, .inl (D.2.1 0, (16, .inl (fun _ => 0))))] F)) (F' := (k_ov [(46, .inl (D.2.1 0, (8, .inl (fun _ => 0)))), (44, .inr (6, [.null, .null, .ref q45, .ref q46, .null, .int 0, .int 0])), (45, .inl (D.2.1 0, (16, .inl (fun _ => 0))))] F)) kc6 44 rfl (by decide) (hA2 _ (List.mem_of_getElem? (i := 2) rfl)) rfl (k_ovq 1 rfl rfl) rfl rfl rfl (Nat.le_of_ble_eq_true rfl) q_568 dX6_init_17 ?_
  refine i_aload_n X 0 dX6_init_20 rfl rfl ?_
  refine i_bipush X (v := 8) dX6_init_21 rfl ?_
  refine i_newa X 0 (at_ := .int) (a0 := (8, .inl (fun _ => 0))) rfl rfl (fun h => h) 47 (hf 47 (by decide) (by decide) (by decide)) (fun _ => rfl) q_233 (by decide) rfl (Nat.le_of_ble_eq_true rfl) (Nat.le_of_ble_eq_true rfl) (Nat.le_of_ble_eq_true rfl) dX6_init_23 (fun q47 => ?_)
  have hA3 := k_adn (k1 := 47) (q := q47) hA2 rfl
  have ho3 := k_outn (k1 := 47) (q := q47) ho2 (by decide) (by decide)
  refine j_F (F2 := (k_ov [(47, .inl (D.2.1 0, (8, .inl (fun _ => 0)))), (46, .inl (D.2.1 0, (8, .inl (fun _ => 0)))), (44, .inr (6, [.null, .null, .ref q45, .ref q46, .null, .int 0, .int 0])), (45, .inl (D.2.1 0, (16, .inl (fun _ => 0))))] F)) (fun j => rfl) ?_
  refine i_putF X hin rfl (f := 4) (F := (k_ov [(47, .inl (D.2.1 0, (8, .inl (fun _ => 0)))), (46, .inl (D.2.1 0, (8, .inl (fun _ => 0)))), (44, .inr (6, [.null, .null, .ref q45, .ref q46, .null, .int 0, .int 0])), (45, .inl (D.2.1 0, (16, .inl (fun _ => 0))))] F)) (F' := (k_ov [(47, .inl (D.2.1 0, (8, .inl (fun _ => 0)))), (46, .inl (D.2.1 0, (8, .inl (fun _ => 0)))), (44, .inr (6, [.null, .null, .ref q45, .ref q46, .ref q47, .int 0, .int 0])), (45, .inl (D.2.1 0, (16, .inl (fun _ => 0))))] F)) kc6 44 rfl (by decide) (hA3 _ (List.mem_of_getElem? (i := 3) rfl)) rfl (k_ovq 2 rfl rfl) rfl rfl rfl (Nat.le_of_ble_eq_true rfl) q_570 dX6_init_25 ?_
  refine i_aload_n X 0 dX6_init_28 rfl rfl ?_
  refine i_iconst X (v := 0) dX6_init_29 rfl ?_
  refine i_put X (f := 5) (F := (k_ov [(47, .inl (D.2.1 0, (8, .inl (fun _ => 0)))), (46, .inl (D.2.1 0, (8, .inl (fun _ => 0)))), (44, .inr (6, [.null, .null, .ref q45, .ref q46, .ref q47, .int 0, .int 0])), (45, .inl (D.2.1 0, (16, .inl (fun _ => 0))))] F)) (F' := (k_ov [(47, .inl (D.2.1 0, (8, .inl (fun _ => 0)))), (46, .inl (D.2.1 0, (8, .inl (fun _ => 0)))), (44, .inr (6, [.null, .null, .ref q45, .ref q46, .ref q47, .int 0, .int 0])), (45, .inl (D.2.1 0, (16, .inl (fun _ => 0))))] F)) kc6 44 rfl (by decide) (hA3 _ (List.mem_of_getElem? (i := 3) rfl)) rfl (k_ovq 2 rfl rfl) rfl rfl rfl (Nat.le_of_ble_eq_true rfl) q_572 dX6_init_30 ?_
  refine i_aload_n X 0 dX6_init_33 rfl rfl ?_
  refine i_iconst X (v := 0) dX6_init_34 rfl ?_
  refine i_put X (f := 6) (F := (k_ov [(47, .inl (D.2.1 0, (8, .inl (fun _ => 0)))), (46, .inl (D.2.1 0, (8, .inl (fun _ => 0)))), (44, .inr (6, [.null, .null, .ref q45, .ref q46, .ref q47, .int 0, .int 0])), (45, .inl (D.2.1 0, (16, .inl (fun _ => 0))))] F)) (F' := (k_ov [(47, .inl (D.2.1 0, (8, .inl (fun _ => 0)))), (46, .inl (D.2.1 0, (8, .inl (fun _ => 0)))), (44, .inr (6, [.null, .null, .ref q45, .ref q46, .ref q47, .int 0, .int 0])), (45, .inl (D.2.1 0, (16, .inl (fun _ => 0))))] F)) kc6 44 rfl (by decide) (hA3 _ (List.mem_of_getElem? (i := 3) rfl)) rfl (k_ovq 2 rfl rfl) rfl rfl rfl (Nat.le_of_ble_eq_true rfl) q_574 dX6_init_35 ?_
  refine i_aload_n X 0 dX6_init_38 rfl rfl ?_
  refine i_aload_n X 1 dX6_init_39 rfl rfl ?_
  refine i_putF X hin rfl (f := 0) (F := (k_ov [(47, .inl (D.2.1 0, (8, .inl (fun _ => 0)))), (46, .inl (D.2.1 0, (8, .inl (fun _ => 0)))), (44, .inr (6, [.null, .null, .ref q45, .ref q46, .ref q47, .int 0, .int 0])), (45, .inl (D.2.1 0, (16, .inl (fun _ => 0))))] F)) (F' := (k_ov [(47, .inl (D.2.1 0, (8, .inl (fun _ => 0)))), (46, .inl (D.2.1 0, (8, .inl (fun _ => 0)))), (44, .inr (6, [.ref a1, .null, .ref q45, .ref q46, .ref q47, .int 0, .int 0])), (45, .inl (D.2.1 0, (16, .inl (fun _ => 0))))] F)) kc6 44 rfl (by decide) (hA3 _ (List.mem_of_getElem? (i := 3) rfl)) rfl (k_ovq 2 rfl rfl) rfl rfl rfl (Nat.le_of_ble_eq_true rfl) q_565 dX6_init_40 ?_
  refine i_aload_n X 0 dX6_init_43 rfl rfl ?_
  refine i_aload_n X 1 dX6_init_44 rfl rfl ?_
  refine i_getN X (f := 2) (F := (k_ov [(47, .inl (D.2.1 0, (8, .inl (fun _ => 0)))), (46, .inl (D.2.1 0, (8, .inl (fun _ => 0)))), (44, .inr (6, [.ref a1, .null, .ref q45, .ref q46, .ref q47, .int 0, .int 0])), (45, .inl (D.2.1 0, (16, .inl (fun _ => 0))))] F)) kc10 0 hv (by decide) hv2 (hA3 _ (List.mem_of_getElem? (i := 4) rfl)) q_245 dX6_init_45 ?_
  refine i_putF X hin rfl (f := 1) (F := (k_ov [(47, .inl (D.2.1 0, (8, .inl (fun _ => 0)))), (46, .inl (D.2.1 0, (8, .inl (fun _ => 0)))), (44, .inr (6, [.ref a1, .null, .ref q45, .ref q46, .ref q47, .int 0, .int 0])), (45, .inl (D.2.1 0, (16, .inl (fun _ => 0))))] F)) (F' := (k_ov [(47, .inl (D.2.1 0, (8, .inl (fun _ => 0)))), (46, .inl (D.2.1 0, (8, .inl (fun _ => 0)))), (44, .inr (6, [.ref a1, .ref av, .ref q45, .ref q46, .ref q47, .int 0, .int 0])), (45, .inl (D.2.1 0, (16, .inl (fun _ => 0))))] F)) kc6 44 rfl (by decide) (hA3 _ (List.mem_of_getElem? (i := 3) rfl)) rfl (k_ovq 2 rfl rfl) rfl rfl rfl (Nat.le_of_ble_eq_true rfl) q_566 dX6_init_48 ?_
  have hE : ∀ p ∈ ([(45, q45), (46, q46), (47, q47)] : List (Nat × Nat)), (k_up (k_up (k_up ad 45 q45) 46 q46) 47 q47) p.1 = p.2 := fun p hp => hA3 p (k_pick [2, 1, 0] rfl p hp)
  exact i_vret X rfl dX6_init_51 ⟨rfl, ho3, q45, q46, q47, hE, rfl⟩
