theorem q_167 : k_in (.methodLink RX11 1 objectInit) := ⟨List.mem_of_getElem? (i := 167) (by decide +kernel), by decide +kernel⟩
theorem q_168 : k_in (.instanceMethod objectInit) := ⟨List.mem_of_getElem? (i := 168) (by decide +kernel), by decide +kernel⟩
theorem q_169 : k_in (.code objectInit ⟨#[0xb1]⟩ 1 none) := ⟨List.mem_of_getElem? (i := 169) (by decide +kernel), by decide +kernel⟩
theorem q_175 : k_in (.methodLink RX10 3 objectInit) := ⟨List.mem_of_getElem? (i := 175) (by decide +kernel), by decide +kernel⟩
theorem q_181 : k_in (.methodLink RX1 3 objectInit) := ⟨List.mem_of_getElem? (i := 181) (by decide +kernel), by decide +kernel⟩
theorem q_317 : k_in (.methodLink RX9 3 objectInit) := ⟨List.mem_of_getElem? (i := 317) (by decide +kernel), by decide +kernel⟩
theorem q_333 : k_in (.methodLink RX7 3 objectInit) := ⟨List.mem_of_getElem? (i := 333) (by decide +kernel), by decide +kernel⟩
theorem q_368 : k_in (.methodLink RX3 3 objectInit) := ⟨List.mem_of_getElem? (i := 368) (by decide +kernel), by decide +kernel⟩
theorem q_409 : k_in (.methodLink RX4 3 objectInit) := ⟨List.mem_of_getElem? (i := 409) (by decide +kernel), by decide +kernel⟩
theorem q_436 : k_in (.methodLink RX8 3 objectInit) := ⟨List.mem_of_getElem? (i := 436) (by decide +kernel), by decide +kernel⟩
theorem q_463 : k_in (.methodLink RX2 3 objectInit) := ⟨List.mem_of_getElem? (i := 463) (by decide +kernel), by decide +kernel⟩
theorem q_518 : k_in (.methodLink RX0 3 objectInit) := ⟨List.mem_of_getElem? (i := 518) (by decide +kernel), by decide +kernel⟩
theorem q_545 : k_in (.methodLink RX5 3 objectInit) := ⟨List.mem_of_getElem? (i := 545) (by decide +kernel), by decide +kernel⟩
theorem q_564 : k_in (.methodLink RX6 3 objectInit) := ⟨List.mem_of_getElem? (i := 564) (by decide +kernel), by decide +kernel⟩
theorem q_1300 : k_in (.methodLink RX12 1 objectInit) := ⟨List.mem_of_getElem? (i := 1300) (by decide +kernel), by decide +kernel⟩
theorem k_pick {K K' : List (Nat × Nat)} (is : List Nat) (h : is.map (fun i => K[i]?) = K'.map some) : ∀ p ∈ K', p ∈ K := by
  intro p hp
  have h1 : some p ∈ K'.map some := List.mem_map.mpr ⟨p, hp, rfl⟩
  rw [← h] at h1
  obtain ⟨i, -, hi⟩ := List.mem_map.mp h1
  exact List.mem_of_getElem? hi
theorem j_F {y : MethodName} {cc : ByteArray} {nL : Nat} {ret : Option FieldType} {rm : Room} {D : k_D} {p : Program} {l : Launch} {e : Env} {s : State} {m : MethodId} {a : Array Value} {b : List Frame} {me : Method} {c : Code} {A : Nat → Prop} {Q : State → Prop} {mc ms : Nat} {F F2 : Nat → Option va_E} {ad : Nat → Nat} {pc : Nat} {ls : List (Nat × Value)} {st : List Value} (h : ∀ j, F2 j = F j) (k : In y cc nL ret rm D p l e s m a b me c A Q mc ms F2 ad pc ls st) : In y cc nL ret rm D p l e s m a b me c A Q mc ms F ad pc ls st := by
  have e1 : F2 = F := funext h
  rw [← e1]
  exact k
theorem j_lmul {y : MethodName} {cc : ByteArray} {nL : Nat} {ret : Option FieldType} {rm : Room} {D : k_D} {p : Program} {l : Launch} {e : Env} {s : State} {m : MethodId} {a : Array Value} {b : List Frame} {me : Method} {c : Code} {A : Nat → Prop} {Q : State → Prop} {mc ms : Nat} {F : Nat → Option va_E} {ad : Nat → Nat} {pc : Nat} {ls : List (Nat × Value)} {st : List Value} (X : k_X y cc nL ret D p s m me c A) {x w v : Int64} (d : decode cc pc = .ok (.lmul, 1)) (hv : x * w = v) (k : In y cc nL ret rm D p l e s m a b me c A Q mc ms F ad (pc + 1) ls (.long v :: st)) : In y cc nL ret rm D p l e s m a b me c A Q mc ms F ad pc ls (.long w :: .long x :: st) := by
  subst hv
  exact i_lmul X d k
def k_ov : List (Nat × va_E) → (Nat → Option va_E) → Nat → Option va_E
  | [], F, k => F k
  | (i, e) :: L, F, k => if k = i then some e else k_ov L F k
theorem k_adk {K : List (Nat × Nat)} {ad ad' : Nat → Nat} {lo hi : Nat} (hA : ∀ p ∈ K, ad p.1 = p.2) (h : ∀ j, (j < lo ∨ hi < j) → ad' j = ad j) (hk : K.all (fun p => decide (p.1 < lo) || decide (hi < p.1)) = true) : ∀ p ∈ K, ad' p.1 = p.2 := by
  intro p hp
  have := List.all_eq_true.mp hk p hp
  rw [Bool.or_eq_true, decide_eq_true_eq, decide_eq_true_eq] at this
  rw [h p.1 this]
  exact hA p hp
theorem k_adn {K : List (Nat × Nat)} {ad : Nat → Nat} {k1 q : Nat} (hA : ∀ p ∈ K, ad p.1 = p.2) (hk : K.all (fun p => decide (p.1 ≠ k1)) = true) : ∀ p ∈ (k1, q) :: K, k_up ad k1 q p.1 = p.2 := by
  intro p hp
  rcases List.mem_cons.mp hp with h | h
  · subst h
    show (if k1 = k1 then q else _) = q
    rw [if_pos rfl]
  · have := List.all_eq_true.mp hk p h
    rw [decide_eq_true_eq] at this
    show (if p.1 = k1 then q else ad p.1) = p.2
    rw [if_neg this]
    exact hA p h
theorem k_out {ad ad' ad'' : Nat → Nat} {lo hi lo' hi' : Nat} (h : ∀ j, (j < lo ∨ hi < j) → ad' j = ad j) (h' : ∀ j, (j < lo' ∨ hi' < j) → ad'' j = ad' j) (h1 : lo ≤ lo') (h2 : hi' ≤ hi) : ∀ j, (j < lo ∨ hi < j) → ad'' j = ad j := fun j hj => (h' j (by omega)).trans (h j hj)
theorem k_outn {ad ad' : Nat → Nat} {lo hi k1 q : Nat} (h : ∀ j, (j < lo ∨ hi < j) → ad' j = ad j) (h1 : lo ≤ k1) (h2 : k1 ≤ hi) : ∀ j, (j < lo ∨ hi < j) → k_up ad' k1 q j = ad j := fun j hj => by
  show (if j = k1 then q else ad' j) = ad j
  rw [if_neg (by omega)]
  exact h j hj
def k_X2_init_32_0 : Nat → Int64 := vp_updL (fun _ => 0) (15 : Int32).toNatClampNeg (1 : Int64)
def k_X2_init_32_1 : Nat → Int64 := vp_updL (k_X2_init_32_0) (14 : Int32).toNatClampNeg (10 : Int64)
def k_X2_init_32_2 : Nat → Int64 := vp_updL (k_X2_init_32_1) (13 : Int32).toNatClampNeg (100 : Int64)
def k_X2_init_32_3 : Nat → Int64 := vp_updL (k_X2_init_32_2) (12 : Int32).toNatClampNeg (1000 : Int64)
def k_X2_init_32_4 : Nat → Int64 := vp_updL (k_X2_init_32_3) (11 : Int32).toNatClampNeg (10000 : Int64)
def k_X2_init_32_5 : Nat → Int64 := vp_updL (k_X2_init_32_4) (10 : Int32).toNatClampNeg (100000 : Int64)
def k_X2_init_32_6 : Nat → Int64 := vp_updL (k_X2_init_32_5) (9 : Int32).toNatClampNeg (1000000 : Int64)
def k_X2_init_32_7 : Nat → Int64 := vp_updL (k_X2_init_32_6) (8 : Int32).toNatClampNeg (10000000 : Int64)
def k_X2_init_32_8 : Nat → Int64 := vp_updL (k_X2_init_32_7) (7 : Int32).toNatClampNeg (100000000 : Int64)
def k_X2_init_32_9 : Nat → Int64 := vp_updL (k_X2_init_32_8) (6 : Int32).toNatClampNeg (1000000000 : Int64)
def k_X2_init_32_10 : Nat → Int64 := vp_updL (k_X2_init_32_9) (5 : Int32).toNatClampNeg (10000000000 : Int64)
def k_X2_init_32_11 : Nat → Int64 := vp_updL (k_X2_init_32_10) (4 : Int32).toNatClampNeg (100000000000 : Int64)
def k_X2_init_32_12 : Nat → Int64 := vp_updL (k_X2_init_32_11) (3 : Int32).toNatClampNeg (1000000000000 : Int64)
def k_X2_init_32_13 : Nat → Int64 := vp_updL (k_X2_init_32_12) (2 : Int32).toNatClampNeg (10000000000000 : Int64)
def k_X2_init_32_14 : Nat → Int64 := vp_updL (k_X2_init_32_13) (1 : Int32).toNatClampNeg (100000000000000 : Int64)
def k_X2_init_32_15 : Nat → Int64 := vp_updL (k_X2_init_32_14) (0 : Int32).toNatClampNeg (1000000000000000 : Int64)
set_option maxRecDepth 100000 in
set_option maxHeartbeats 4000000 in
theorem c_X2_init_32 {D : k_D} {F : Nat → Option va_E} {ad : Nat → Nat} {a0 a1 a2 av : Nat} {fs : List Value} (ha0 : ad 32 = a0) (ha1 : ad 0 = a1) (ha2 : ad 17 = a2) (hF0 : F 32 = some (.inr (2, [.null, .null, .null, .null, .null, .null, .null, .null, .null, .int 0, .int 0, .int 0, .int 0, .int 0]))) (hf : ∀ j, 33 ≤ j → j ≤ 38 → j ≠ 32 → F j = none) (hv : F 0 = some (.inr (10, fs))) (hv2 : fs[2]? = some (.ref av)) : Sf yX2_init cX2_init 6 none { frames := 1, cells := 6, slots := 4370, locals := 60 } D F ad [.ref a0, .ref a1, .ref a2] (fun v F' ad' => v = none ∧ (∀ j, (j < 33 ∨ 38 < j) → ad' j = ad j) ∧ ∃ q33 q34 q35 q36 q37 q38 : Nat, (∀ p ∈ ([(33, q33), (34, q34), (35, q35), (36, q36), (37, q37), (38, q38)] : List (Nat × Nat)), ad' p.1 = p.2) ∧ F' = k_ov [(38, .inl (D.2.1 0, (16, .inl (fun _ => 0)))), (37, .inl (D.2.1 3, (16, .inr (.inl (k_X2_init_32_15))))), (36, .inl (D.2.1 3, (241, .inr (.inl (fun _ => 0))))), (35, .inl (D.2.1 3, (241, .inr (.inl (fun _ => 0))))), (34, .inl (D.2.1 3, (1928, .inr (.inl (fun _ => 0))))), (32, .inr (2, [.ref a1, .ref av, .ref a2, .ref q33, .ref q34, .ref q35, .ref q36, .ref q37, .ref q38, .int (-1), .int 0, .int 0, .int 0, .int 0])), (33, .inl (D.2.1 3, (1928, .inr (.inl (fun _ => 0)))))] F) := by
  refine Sf.of (by decide +kernel) (Nat.le_of_ble_eq_true rfl) ?_
  intro p l e s m a b me c A X hm
  have hin : me.name = "<init>" := hm
  have hA0 : ∀ p ∈ ([(32, a0), (0, a1), (17, a2)] : List (Nat × Nat)), ad p.1 = p.2 := by
    intro p hp
    simp only [List.mem_cons, List.not_mem_nil, or_false] at hp
    rcases hp with rfl | rfl | rfl
    · exact ha0
    · exact ha1
    · exact ha2
  have ho0 : ∀ j, (j < 33 ∨ 38 < j) → ad j = ad j := fun j _ => rfl
  refine i_aload_n X 0 dX2_init_0 rfl rfl ?_
  refine i_objInit X q_463 q_168 q_169 ⟨Nat.le_of_ble_eq_true rfl, Nat.le_of_ble_eq_true rfl⟩ dX2_init_1 ?_
  refine i_aload_n X 0 dX2_init_4 rfl rfl ?_
  refine i_sipush X (v := 1928) dX2_init_5 rfl ?_
  refine i_newa X 3 (at_ := .long) (a0 := (1928, .inr (.inl (fun _ => 0)))) rfl rfl (fun h => h) 33 (hf 33 (by decide) (by decide) (by decide)) (fun _ => rfl) q_512 (by decide) rfl (Nat.le_of_ble_eq_true rfl) (Nat.le_of_ble_eq_true rfl) (Nat.le_of_ble_eq_true rfl) dX2_init_8 (fun q33 => ?_)
  have hA1 := k_adn (k1 := 33) (q := q33) hA0 rfl
  have ho1 := k_outn (k1 := 33) (q := q33) ho0 (by decide) (by decide)
  refine j_F (F2 := (k_ov [(33, .inl (D.2.1 3, (1928, .inr (.inl (fun _ => 0)))))] F)) (fun j => rfl) ?_
  refine i_putF X hin rfl (f := 3) (F := (k_ov [(33, .inl (D.2.1 3, (1928, .inr (.inl (fun _ => 0)))))] F)) (F' := (k_ov [(32, .inr (2, [.null, .null, .null, .ref q33, .null, .null, .null, .null, .null, .int 0, .int 0, .int 0, .int 0, .int 0])), (33, .inl (D.2.1 3, (1928, .inr (.inl (fun _ => 0)))))] F)) kc2 32 hF0 (by decide) (hA1 _ (List.mem_of_getElem? (i := 1) rfl)) rfl (fun j hj => by simp only [k_ov, if_neg hj]) rfl rfl rfl (Nat.le_of_ble_eq_true rfl) q_468 dX2_init_10 ?_
  refine i_aload_n X 0 dX2_init_13 rfl rfl ?_
  refine i_sipush X (v := 1928) dX2_init_14 rfl ?_
  refine i_newa X 3 (at_ := .long) (a0 := (1928, .inr (.inl (fun _ => 0)))) rfl rfl (fun h => h) 34 (hf 34 (by decide) (by decide) (by decide)) (fun _ => rfl) q_512 (by decide) rfl (Nat.le_of_ble_eq_true rfl) (Nat.le_of_ble_eq_true rfl) (Nat.le_of_ble_eq_true rfl) dX2_init_17 (fun q34 => ?_)
  have hA2 := k_adn (k1 := 34) (q := q34) hA1 rfl
  have ho2 := k_outn (k1 := 34) (q := q34) ho1 (by decide) (by decide)
  refine j_F (F2 := (k_ov [(34, .inl (D.2.1 3, (1928, .inr (.inl (fun _ => 0))))), (32, .inr (2, [.null, .null, .null, .ref q33, .null, .null, .null, .null, .null, .int 0, .int 0, .int 0, .int 0, .int 0])), (33, .inl (D.2.1 3, (1928, .inr (.inl (fun _ => 0)))))] F)) (fun j => rfl) ?_
  refine i_putF X hin rfl (f := 4) (F := (k_ov [(34, .inl (D.2.1 3, (1928, .inr (.inl (fun _ => 0))))), (32, .inr (2, [.null, .null, .null, .ref q33, .null, .null, .null, .null, .null, .int 0, .int 0, .int 0, .int 0, .int 0])), (33, .inl (D.2.1 3, (1928, .inr (.inl (fun _ => 0)))))] F)) (F' := (k_ov [(34, .inl (D.2.1 3, (1928, .inr (.inl (fun _ => 0))))), (32, .inr (2, [.null, .null, .null, .ref q33, .ref q34, .null, .null, .null, .null, .int 0, .int 0, .int 0, .int 0, .int 0])), (33, .inl (D.2.1 3, (1928, .inr (.inl (fun _ => 0)))))] F)) kc2 32 rfl (by decide) (hA2 _ (List.mem_of_getElem? (i := 2) rfl)) rfl (fun j hj => by simp only [k_ov, if_neg hj]) rfl rfl rfl (Nat.le_of_ble_eq_true rfl) q_469 dX2_init_19 ?_
  refine i_aload_n X 0 dX2_init_22 rfl rfl ?_
  refine i_sipush X (v := 241) dX2_init_23 rfl ?_
  refine i_newa X 3 (at_ := .long) (a0 := (241, .inr (.inl (fun _ => 0)))) rfl rfl (fun h => h) 35 (hf 35 (by decide) (by decide) (by decide)) (fun _ => rfl) q_512 (by decide) rfl (Nat.le_of_ble_eq_true rfl) (Nat.le_of_ble_eq_true rfl) (Nat.le_of_ble_eq_true rfl) dX2_init_26 (fun q35 => ?_)
  have hA3 := k_adn (k1 := 35) (q := q35) hA2 rfl
  have ho3 := k_outn (k1 := 35) (q := q35) ho2 (by decide) (by decide)
  refine j_F (F2 := (k_ov [(35, .inl (D.2.1 3, (241, .inr (.inl (fun _ => 0))))), (34, .inl (D.2.1 3, (1928, .inr (.inl (fun _ => 0))))), (32, .inr (2, [.null, .null, .null, .ref q33, .ref q34, .null, .null, .null, .null, .int 0, .int 0, .int 0, .int 0, .int 0])), (33, .inl (D.2.1 3, (1928, .inr (.inl (fun _ => 0)))))] F)) (fun j => rfl) ?_
  refine i_putF X hin rfl (f := 5) (F := (k_ov [(35, .inl (D.2.1 3, (241, .inr (.inl (fun _ => 0))))), (34, .inl (D.2.1 3, (1928, .inr (.inl (fun _ => 0))))), (32, .inr (2, [.null, .null, .null, .ref q33, .ref q34, .null, .null, .null, .null, .int 0, .int 0, .int 0, .int 0, .int 0])), (33, .inl (D.2.1 3, (1928, .inr (.inl (fun _ => 0)))))] F)) (F' := (k_ov [(35, .inl (D.2.1 3, (241, .inr (.inl (fun _ => 0))))), (34, .inl (D.2.1 3, (1928, .inr (.inl (fun _ => 0))))), (32, .inr (2, [.null, .null, .null, .ref q33, .ref q34, .ref q35, .null, .null, .null, .int 0, .int 0, .int 0, .int 0, .int 0])), (33, .inl (D.2.1 3, (1928, .inr (.inl (fun _ => 0)))))] F)) kc2 32 rfl (by decide) (hA3 _ (List.mem_of_getElem? (i := 3) rfl)) rfl (fun j hj => by simp only [k_ov, if_neg hj]) rfl rfl rfl (Nat.le_of_ble_eq_true rfl) q_470 dX2_init_28 ?_
  refine i_aload_n X 0 dX2_init_31 rfl rfl ?_
  refine i_sipush X (v := 241) dX2_init_32 rfl ?_
  refine i_newa X 3 (at_ := .long) (a0 := (241, .inr (.inl (fun _ => 0)))) rfl rfl (fun h => h) 36 (hf 36 (by decide) (by decide) (by decide)) (fun _ => rfl) q_512 (by decide) rfl (Nat.le_of_ble_eq_true rfl) (Nat.le_of_ble_eq_true rfl) (Nat.le_of_ble_eq_true rfl) dX2_init_35 (fun q36 => ?_)
  have hA4 := k_adn (k1 := 36) (q := q36) hA3 rfl
  have ho4 := k_outn (k1 := 36) (q := q36) ho3 (by decide) (by decide)
  refine j_F (F2 := (k_ov [(36, .inl (D.2.1 3, (241, .inr (.inl (fun _ => 0))))), (35, .inl (D.2.1 3, (241, .inr (.inl (fun _ => 0))))), (34, .inl (D.2.1 3, (1928, .inr (.inl (fun _ => 0))))), (32, .inr (2, [.null, .null, .null, .ref q33, .ref q34, .ref q35, .null, .null, .null, .int 0, .int 0, .int 0, .int 0, .int 0])), (33, .inl (D.2.1 3, (1928, .inr (.inl (fun _ => 0)))))] F)) (fun j => rfl) ?_
  refine i_putF X hin rfl (f := 6) (F := (k_ov [(36, .inl (D.2.1 3, (241, .inr (.inl (fun _ => 0))))), (35, .inl (D.2.1 3, (241, .inr (.inl (fun _ => 0))))), (34, .inl (D.2.1 3, (1928, .inr (.inl (fun _ => 0))))), (32, .inr (2, [.null, .null, .null, .ref q33, .ref q34, .ref q35, .null, .null, .null, .int 0, .int 0, .int 0, .int 0, .int 0])), (33, .inl (D.2.1 3, (1928, .inr (.inl (fun _ => 0)))))] F)) (F' := (k_ov [(36, .inl (D.2.1 3, (241, .inr (.inl (fun _ => 0))))), (35, .inl (D.2.1 3, (241, .inr (.inl (fun _ => 0))))), (34, .inl (D.2.1 3, (1928, .inr (.inl (fun _ => 0))))), (32, .inr (2, [.null, .null, .null, .ref q33, .ref q34, .ref q35, .ref q36, .null, .null, .int 0, .int 0, .int 0, .int 0, .int 0])), (33, .inl (D.2.1 3, (1928, .inr (.inl (fun _ => 0)))))] F)) kc2 32 rfl (by decide) (hA4 _ (List.mem_of_getElem? (i := 4) rfl)) rfl (fun j hj => by simp only [k_ov, if_neg hj]) rfl rfl rfl (Nat.le_of_ble_eq_true rfl) q_471 dX2_init_37 ?_
  refine i_aload_n X 0 dX2_init_40 rfl rfl ?_
  refine i_bipush X (v := 16) dX2_init_41 rfl ?_
  refine i_newa X 3 (at_ := .long) (a0 := (16, .inr (.inl (fun _ => 0)))) rfl rfl (fun h => h) 37 (hf 37 (by decide) (by decide) (by decide)) (fun _ => rfl) q_512 (by decide) rfl (Nat.le_of_ble_eq_true rfl) (Nat.le_of_ble_eq_true rfl) (Nat.le_of_ble_eq_true rfl) dX2_init_43 (fun q37 => ?_)
  have hA5 := k_adn (k1 := 37) (q := q37) hA4 rfl
  have ho5 := k_outn (k1 := 37) (q := q37) ho4 (by decide) (by decide)
  refine j_F (F2 := (k_ov [(37, .inl (D.2.1 3, (16, .inr (.inl (fun _ => 0))))), (36, .inl (D.2.1 3, (241, .inr (.inl (fun _ => 0))))), (35, .inl (D.2.1 3, (241, .inr (.inl (fun _ => 0))))), (34, .inl (D.2.1 3, (1928, .inr (.inl (fun _ => 0))))), (32, .inr (2, [.null, .null, .null, .ref q33, .ref q34, .ref q35, .ref q36, .null, .null, .int 0, .int 0, .int 0, .int 0, .int 0])), (33, .inl (D.2.1 3, (1928, .inr (.inl (fun _ => 0)))))] F)) (fun j => rfl) ?_
  refine i_putF X hin rfl (f := 7) (F := (k_ov [(37, .inl (D.2.1 3, (16, .inr (.inl (fun _ => 0))))), (36, .inl (D.2.1 3, (241, .inr (.inl (fun _ => 0))))), (35, .inl (D.2.1 3, (241, .inr (.inl (fun _ => 0))))), (34, .inl (D.2.1 3, (1928, .inr (.inl (fun _ => 0))))), (32, .inr (2, [.null, .null, .null, .ref q33, .ref q34, .ref q35, .ref q36, .null, .null, .int 0, .int 0, .int 0, .int 0, .int 0])), (33, .inl (D.2.1 3, (1928, .inr (.inl (fun _ => 0)))))] F)) (F' := (k_ov [(37, .inl (D.2.1 3, (16, .inr (.inl (fun _ => 0))))), (36, .inl (D.2.1 3, (241, .inr (.inl (fun _ => 0))))), (35, .inl (D.2.1 3, (241, .inr (.inl (fun _ => 0))))), (34, .inl (D.2.1 3, (1928, .inr (.inl (fun _ => 0))))), (32, .inr (2, [.null, .null, .null, .ref q33, .ref q34, .ref q35, .ref q36, .ref q37, .null, .int 0, .int 0, .int 0, .int 0, .int 0])), (33, .inl (D.2.1 3, (1928, .inr (.inl (fun _ => 0)))))] F)) kc2 32 rfl (by decide) (hA5 _ (List.mem_of_getElem? (i := 5) rfl)) rfl (fun j hj => by simp only [k_ov, if_neg hj]) rfl rfl rfl (Nat.le_of_ble_eq_true rfl) q_472 dX2_init_45 ?_
  refine i_aload_n X 0 dX2_init_48 rfl rfl ?_
  refine i_bipush X (v := 16) dX2_init_49 rfl ?_
  refine i_newa X 0 (at_ := .int) (a0 := (16, .inl (fun _ => 0))) rfl rfl (fun h => h) 38 (hf 38 (by decide) (by decide) (by decide)) (fun _ => rfl) q_233 (by decide) rfl (Nat.le_of_ble_eq_true rfl) (Nat.le_of_ble_eq_true rfl) (Nat.le_of_ble_eq_true rfl) dX2_init_51 (fun q38 => ?_)
  have hA6 := k_adn (k1 := 38) (q := q38) hA5 rfl
  have ho6 := k_outn (k1 := 38) (q := q38) ho5 (by decide) (by decide)
  refine j_F (F2 := (k_ov [(38, .inl (D.2.1 0, (16, .inl (fun _ => 0)))), (37, .inl (D.2.1 3, (16, .inr (.inl (fun _ => 0))))), (36, .inl (D.2.1 3, (241, .inr (.inl (fun _ => 0))))), (35, .inl (D.2.1 3, (241, .inr (.inl (fun _ => 0))))), (34, .inl (D.2.1 3, (1928, .inr (.inl (fun _ => 0))))), (32, .inr (2, [.null, .null, .null, .ref q33, .ref q34, .ref q35, .ref q36, .ref q37, .null, .int 0, .int 0, .int 0, .int 0, .int 0])), (33, .inl (D.2.1 3, (1928, .inr (.inl (fun _ => 0)))))] F)) (fun j => rfl) ?_
  refine i_putF X hin rfl (f := 8) (F := (k_ov [(38, .inl (D.2.1 0, (16, .inl (fun _ => 0)))), (37, .inl (D.2.1 3, (16, .inr (.inl (fun _ => 0))))), (36, .inl (D.2.1 3, (241, .inr (.inl (fun _ => 0))))), (35, .inl (D.2.1 3, (241, .inr (.inl (fun _ => 0))))), (34, .inl (D.2.1 3, (1928, .inr (.inl (fun _ => 0))))), (32, .inr (2, [.null, .null, .null, .ref q33, .ref q34, .ref q35, .ref q36, .ref q37, .null, .int 0, .int 0, .int 0, .int 0, .int 0])), (33, .inl (D.2.1 3, (1928, .inr (.inl (fun _ => 0)))))] F)) (F' := (k_ov [(38, .inl (D.2.1 0, (16, .inl (fun _ => 0)))), (37, .inl (D.2.1 3, (16, .inr (.inl (fun _ => 0))))), (36, .inl (D.2.1 3, (241, .inr (.inl (fun _ => 0))))), (35, .inl (D.2.1 3, (241, .inr (.inl (fun _ => 0))))), (34, .inl (D.2.1 3, (1928, .inr (.inl (fun _ => 0))))), (32, .inr (2, [.null, .null, .null, .ref q33, .ref q34, .ref q35, .ref q36, .ref q37, .ref q38, .int 0, .int 0, .int 0, .int 0, .int 0])), (33, .inl (D.2.1 3, (1928, .inr (.inl (fun _ => 0)))))] F)) kc2 32 rfl (by decide) (hA6 _ (List.mem_of_getElem? (i := 6) rfl)) rfl (fun j hj => by simp only [k_ov, if_neg hj]) rfl rfl rfl (Nat.le_of_ble_eq_true rfl) q_473 dX2_init_53 ?_
  refine i_aload_n X 0 dX2_init_56 rfl rfl ?_
  refine i_iconst X (v := -1) dX2_init_57 rfl ?_
  refine i_put X (f := 9) (F := (k_ov [(38, .inl (D.2.1 0, (16, .inl (fun _ => 0)))), (37, .inl (D.2.1 3, (16, .inr (.inl (fun _ => 0))))), (36, .inl (D.2.1 3, (241, .inr (.inl (fun _ => 0))))), (35, .inl (D.2.1 3, (241, .inr (.inl (fun _ => 0))))), (34, .inl (D.2.1 3, (1928, .inr (.inl (fun _ => 0))))), (32, .inr (2, [.null, .null, .null, .ref q33, .ref q34, .ref q35, .ref q36, .ref q37, .ref q38, .int 0, .int 0, .int 0, .int 0, .int 0])), (33, .inl (D.2.1 3, (1928, .inr (.inl (fun _ => 0)))))] F)) (F' := (k_ov [(38, .inl (D.2.1 0, (16, .inl (fun _ => 0)))), (37, .inl (D.2.1 3, (16, .inr (.inl (fun _ => 0))))), (36, .inl (D.2.1 3, (241, .inr (.inl (fun _ => 0))))), (35, .inl (D.2.1 3, (241, .inr (.inl (fun _ => 0))))), (34, .inl (D.2.1 3, (1928, .inr (.inl (fun _ => 0))))), (32, .inr (2, [.null, .null, .null, .ref q33, .ref q34, .ref q35, .ref q36, .ref q37, .ref q38, .int (-1), .int 0, .int 0, .int 0, .int 0])), (33, .inl (D.2.1 3, (1928, .inr (.inl (fun _ => 0)))))] F)) kc2 32 rfl (by decide) (hA6 _ (List.mem_of_getElem? (i := 6) rfl)) rfl (fun j hj => by simp only [k_ov, if_neg hj]) rfl rfl rfl (Nat.le_of_ble_eq_true rfl) q_475 dX2_init_58 ?_
  refine i_aload_n X 0 dX2_init_61 rfl rfl ?_
  refine i_iconst X (v := 0) dX2_init_62 rfl ?_
  refine i_put X (f := 10) (F := (k_ov [(38, .inl (D.2.1 0, (16, .inl (fun _ => 0)))), (37, .inl (D.2.1 3, (16, .inr (.inl (fun _ => 0))))), (36, .inl (D.2.1 3, (241, .inr (.inl (fun _ => 0))))), (35, .inl (D.2.1 3, (241, .inr (.inl (fun _ => 0))))), (34, .inl (D.2.1 3, (1928, .inr (.inl (fun _ => 0))))), (32, .inr (2, [.null, .null, .null, .ref q33, .ref q34, .ref q35, .ref q36, .ref q37, .ref q38, .int (-1), .int 0, .int 0, .int 0, .int 0])), (33, .inl (D.2.1 3, (1928, .inr (.inl (fun _ => 0)))))] F)) (F' := (k_ov [(38, .inl (D.2.1 0, (16, .inl (fun _ => 0)))), (37, .inl (D.2.1 3, (16, .inr (.inl (fun _ => 0))))), (36, .inl (D.2.1 3, (241, .inr (.inl (fun _ => 0))))), (35, .inl (D.2.1 3, (241, .inr (.inl (fun _ => 0))))), (34, .inl (D.2.1 3, (1928, .inr (.inl (fun _ => 0))))), (32, .inr (2, [.null, .null, .null, .ref q33, .ref q34, .ref q35, .ref q36, .ref q37, .ref q38, .int (-1), .int 0, .int 0, .int 0, .int 0])), (33, .inl (D.2.1 3, (1928, .inr (.inl (fun _ => 0)))))] F)) kc2 32 rfl (by decide) (hA6 _ (List.mem_of_getElem? (i := 6) rfl)) rfl (fun j hj => by simp only [k_ov, if_neg hj]) rfl rfl rfl (Nat.le_of_ble_eq_true rfl) q_476 dX2_init_63 ?_
  refine i_aload_n X 0 dX2_init_66 rfl rfl ?_
  refine i_iconst X (v := 0) dX2_init_67 rfl ?_
  refine i_put X (f := 11) (F := (k_ov [(38, .inl (D.2.1 0, (16, .inl (fun _ => 0)))), (37, .inl (D.2.1 3, (16, .inr (.inl (fun _ => 0))))), (36, .inl (D.2.1 3, (241, .inr (.inl (fun _ => 0))))), (35, .inl (D.2.1 3, (241, .inr (.inl (fun _ => 0))))), (34, .inl (D.2.1 3, (1928, .inr (.inl (fun _ => 0))))), (32, .inr (2, [.null, .null, .null, .ref q33, .ref q34, .ref q35, .ref q36, .ref q37, .ref q38, .int (-1), .int 0, .int 0, .int 0, .int 0])), (33, .inl (D.2.1 3, (1928, .inr (.inl (fun _ => 0)))))] F)) (F' := (k_ov [(38, .inl (D.2.1 0, (16, .inl (fun _ => 0)))), (37, .inl (D.2.1 3, (16, .inr (.inl (fun _ => 0))))), (36, .inl (D.2.1 3, (241, .inr (.inl (fun _ => 0))))), (35, .inl (D.2.1 3, (241, .inr (.inl (fun _ => 0))))), (34, .inl (D.2.1 3, (1928, .inr (.inl (fun _ => 0))))), (32, .inr (2, [.null, .null, .null, .ref q33, .ref q34, .ref q35, .ref q36, .ref q37, .ref q38, .int (-1), .int 0, .int 0, .int 0, .int 0])), (33, .inl (D.2.1 3, (1928, .inr (.inl (fun _ => 0)))))] F)) kc2 32 rfl (by decide) (hA6 _ (List.mem_of_getElem? (i := 6) rfl)) rfl (fun j hj => by simp only [k_ov, if_neg hj]) rfl rfl rfl (Nat.le_of_ble_eq_true rfl) q_477 dX2_init_68 ?_
  refine i_aload_n X 0 dX2_init_71 rfl rfl ?_
  refine i_iconst X (v := 0) dX2_init_72 rfl ?_
  refine i_put X (f := 12) (F := (k_ov [(38, .inl (D.2.1 0, (16, .inl (fun _ => 0)))), (37, .inl (D.2.1 3, (16, .inr (.inl (fun _ => 0))))), (36, .inl (D.2.1 3, (241, .inr (.inl (fun _ => 0))))), (35, .inl (D.2.1 3, (241, .inr (.inl (fun _ => 0))))), (34, .inl (D.2.1 3, (1928, .inr (.inl (fun _ => 0))))), (32, .inr (2, [.null, .null, .null, .ref q33, .ref q34, .ref q35, .ref q36, .ref q37, .ref q38, .int (-1), .int 0, .int 0, .int 0, .int 0])), (33, .inl (D.2.1 3, (1928, .inr (.inl (fun _ => 0)))))] F)) (F' := (k_ov [(38, .inl (D.2.1 0, (16, .inl (fun _ => 0)))), (37, .inl (D.2.1 3, (16, .inr (.inl (fun _ => 0))))), (36, .inl (D.2.1 3, (241, .inr (.inl (fun _ => 0))))), (35, .inl (D.2.1 3, (241, .inr (.inl (fun _ => 0))))), (34, .inl (D.2.1 3, (1928, .inr (.inl (fun _ => 0))))), (32, .inr (2, [.null, .null, .null, .ref q33, .ref q34, .ref q35, .ref q36, .ref q37, .ref q38, .int (-1), .int 0, .int 0, .int 0, .int 0])), (33, .inl (D.2.1 3, (1928, .inr (.inl (fun _ => 0)))))] F)) kc2 32 rfl (by decide) (hA6 _ (List.mem_of_getElem? (i := 6) rfl)) rfl (fun j hj => by simp only [k_ov, if_neg hj]) rfl rfl rfl (Nat.le_of_ble_eq_true rfl) q_479 dX2_init_73 ?_
  refine i_aload_n X 0 dX2_init_76 rfl rfl ?_
  refine i_iconst X (v := 0) dX2_init_77 rfl ?_
  refine i_put X (f := 13) (F := (k_ov [(38, .inl (D.2.1 0, (16, .inl (fun _ => 0)))), (37, .inl (D.2.1 3, (16, .inr (.inl (fun _ => 0))))), (36, .inl (D.2.1 3, (241, .inr (.inl (fun _ => 0))))), (35, .inl (D.2.1 3, (241, .inr (.inl (fun _ => 0))))), (34, .inl (D.2.1 3, (1928, .inr (.inl (fun _ => 0))))), (32, .inr (2, [.null, .null, .null, .ref q33, .ref q34, .ref q35, .ref q36, .ref q37, .ref q38, .int (-1), .int 0, .int 0, .int 0, .int 0])), (33, .inl (D.2.1 3, (1928, .inr (.inl (fun _ => 0)))))] F)) (F' := (k_ov [(38, .inl (D.2.1 0, (16, .inl (fun _ => 0)))), (37, .inl (D.2.1 3, (16, .inr (.inl (fun _ => 0))))), (36, .inl (D.2.1 3, (241, .inr (.inl (fun _ => 0))))), (35, .inl (D.2.1 3, (241, .inr (.inl (fun _ => 0))))), (34, .inl (D.2.1 3, (1928, .inr (.inl (fun _ => 0))))), (32, .inr (2, [.null, .null, .null, .ref q33, .ref q34, .ref q35, .ref q36, .ref q37, .ref q38, .int (-1), .int 0, .int 0, .int 0, .int 0])), (33, .inl (D.2.1 3, (1928, .inr (.inl (fun _ => 0)))))] F)) kc2 32 rfl (by decide) (hA6 _ (List.mem_of_getElem? (i := 6) rfl)) rfl (fun j hj => by simp only [k_ov, if_neg hj]) rfl rfl rfl (Nat.le_of_ble_eq_true rfl) q_481 dX2_init_78 ?_
  refine i_aload_n X 0 dX2_init_81 rfl rfl ?_
  refine i_aload_n X 1 dX2_init_82 rfl rfl ?_
  refine i_putF X hin rfl (f := 0) (F := (k_ov [(38, .inl (D.2.1 0, (16, .inl (fun _ => 0)))), (37, .inl (D.2.1 3, (16, .inr (.inl (fun _ => 0))))), (36, .inl (D.2.1 3, (241, .inr (.inl (fun _ => 0))))), (35, .inl (D.2.1 3, (241, .inr (.inl (fun _ => 0))))), (34, .inl (D.2.1 3, (1928, .inr (.inl (fun _ => 0))))), (32, .inr (2, [.null, .null, .null, .ref q33, .ref q34, .ref q35, .ref q36, .ref q37, .ref q38, .int (-1), .int 0, .int 0, .int 0, .int 0])), (33, .inl (D.2.1 3, (1928, .inr (.inl (fun _ => 0)))))] F)) (F' := (k_ov [(38, .inl (D.2.1 0, (16, .inl (fun _ => 0)))), (37, .inl (D.2.1 3, (16, .inr (.inl (fun _ => 0))))), (36, .inl (D.2.1 3, (241, .inr (.inl (fun _ => 0))))), (35, .inl (D.2.1 3, (241, .inr (.inl (fun _ => 0))))), (34, .inl (D.2.1 3, (1928, .inr (.inl (fun _ => 0))))), (32, .inr (2, [.ref a1, .null, .null, .ref q33, .ref q34, .ref q35, .ref q36, .ref q37, .ref q38, .int (-1), .int 0, .int 0, .int 0, .int 0])), (33, .inl (D.2.1 3, (1928, .inr (.inl (fun _ => 0)))))] F)) kc2 32 rfl (by decide) (hA6 _ (List.mem_of_getElem? (i := 6) rfl)) rfl (fun j hj => by simp only [k_ov, if_neg hj]) rfl rfl rfl (Nat.le_of_ble_eq_true rfl) q_465 dX2_init_83 ?_
  refine i_aload_n X 0 dX2_init_86 rfl rfl ?_
  refine i_aload_n X 1 dX2_init_87 rfl rfl ?_
  refine i_getN X (f := 2) (F := (k_ov [(38, .inl (D.2.1 0, (16, .inl (fun _ => 0)))), (37, .inl (D.2.1 3, (16, .inr (.inl (fun _ => 0))))), (36, .inl (D.2.1 3, (241, .inr (.inl (fun _ => 0))))), (35, .inl (D.2.1 3, (241, .inr (.inl (fun _ => 0))))), (34, .inl (D.2.1 3, (1928, .inr (.inl (fun _ => 0))))), (32, .inr (2, [.ref a1, .null, .null, .ref q33, .ref q34, .ref q35, .ref q36, .ref q37, .ref q38, .int (-1), .int 0, .int 0, .int 0, .int 0])), (33, .inl (D.2.1 3, (1928, .inr (.inl (fun _ => 0)))))] F)) kc10 0 hv (by decide) hv2 (hA6 _ (List.mem_of_getElem? (i := 7) rfl)) q_247 dX2_init_88 ?_
  refine i_putF X hin rfl (f := 1) (F := (k_ov [(38, .inl (D.2.1 0, (16, .inl (fun _ => 0)))), (37, .inl (D.2.1 3, (16, .inr (.inl (fun _ => 0))))), (36, .inl (D.2.1 3, (241, .inr (.inl (fun _ => 0))))), (35, .inl (D.2.1 3, (241, .inr (.inl (fun _ => 0))))), (34, .inl (D.2.1 3, (1928, .inr (.inl (fun _ => 0))))), (32, .inr (2, [.ref a1, .null, .null, .ref q33, .ref q34, .ref q35, .ref q36, .ref q37, .ref q38, .int (-1), .int 0, .int 0, .int 0, .int 0])), (33, .inl (D.2.1 3, (1928, .inr (.inl (fun _ => 0)))))] F)) (F' := (k_ov [(38, .inl (D.2.1 0, (16, .inl (fun _ => 0)))), (37, .inl (D.2.1 3, (16, .inr (.inl (fun _ => 0))))), (36, .inl (D.2.1 3, (241, .inr (.inl (fun _ => 0))))), (35, .inl (D.2.1 3, (241, .inr (.inl (fun _ => 0))))), (34, .inl (D.2.1 3, (1928, .inr (.inl (fun _ => 0))))), (32, .inr (2, [.ref a1, .ref av, .null, .ref q33, .ref q34, .ref q35, .ref q36, .ref q37, .ref q38, .int (-1), .int 0, .int 0, .int 0, .int 0])), (33, .inl (D.2.1 3, (1928, .inr (.inl (fun _ => 0)))))] F)) kc2 32 rfl (by decide) (hA6 _ (List.mem_of_getElem? (i := 6) rfl)) rfl (fun j hj => by simp only [k_ov, if_neg hj]) rfl rfl rfl (Nat.le_of_ble_eq_true rfl) q_466 dX2_init_91 ?_
  refine i_aload_n X 0 dX2_init_94 rfl rfl ?_
  refine i_aload_n X 2 dX2_init_95 rfl rfl ?_
  refine i_putF X hin rfl (f := 2) (F := (k_ov [(38, .inl (D.2.1 0, (16, .inl (fun _ => 0)))), (37, .inl (D.2.1 3, (16, .inr (.inl (fun _ => 0))))), (36, .inl (D.2.1 3, (241, .inr (.inl (fun _ => 0))))), (35, .inl (D.2.1 3, (241, .inr (.inl (fun _ => 0))))), (34, .inl (D.2.1 3, (1928, .inr (.inl (fun _ => 0))))), (32, .inr (2, [.ref a1, .ref av, .null, .ref q33, .ref q34, .ref q35, .ref q36, .ref q37, .ref q38, .int (-1), .int 0, .int 0, .int 0, .int 0])), (33, .inl (D.2.1 3, (1928, .inr (.inl (fun _ => 0)))))] F)) (F' := (k_ov [(38, .inl (D.2.1 0, (16, .inl (fun _ => 0)))), (37, .inl (D.2.1 3, (16, .inr (.inl (fun _ => 0))))), (36, .inl (D.2.1 3, (241, .inr (.inl (fun _ => 0))))), (35, .inl (D.2.1 3, (241, .inr (.inl (fun _ => 0))))), (34, .inl (D.2.1 3, (1928, .inr (.inl (fun _ => 0))))), (32, .inr (2, [.ref a1, .ref av, .ref a2, .ref q33, .ref q34, .ref q35, .ref q36, .ref q37, .ref q38, .int (-1), .int 0, .int 0, .int 0, .int 0])), (33, .inl (D.2.1 3, (1928, .inr (.inl (fun _ => 0)))))] F)) kc2 32 rfl (by decide) (hA6 _ (List.mem_of_getElem? (i := 6) rfl)) rfl (fun j hj => by simp only [k_ov, if_neg hj]) rfl rfl rfl (Nat.le_of_ble_eq_true rfl) q_467 dX2_init_96 ?_
  refine i_lconst X (v := 1) dX2_init_99 rfl ?_
  refine i_lstore_n X (lv := [(3, .long (1 : Int64)), (0, .ref a0), (1, .ref a1), (2, .ref a2)]) dX2_init_100 rfl (by decide) rfl ?_
  refine i_bipush X (v := 15) dX2_init_101 rfl ?_
  refine i_istore X (lv := [(5, .int 15), (3, .long (1 : Int64)), (0, .ref a0), (1, .ref a1), (2, .ref a2)]) dX2_init_103 (by decide) rfl ?_
  refine i_iload X 0 dX2_init_105 rfl ?_
  refine i_if_lt X (t := 130) dX2_init_107 (by decide) (fun c => absurd c (show ¬ (15 : Int32) < 0 by decide)) (fun _ => ?_)
  refine i_aload_n X 2 dX2_init_110 rfl rfl ?_
  refine i_get X (f := 7) (F := (k_ov [(38, .inl (D.2.1 0, (16, .inl (fun _ => 0)))), (37, .inl (D.2.1 3, (16, .inr (.inl (fun _ => 0))))), (36, .inl (D.2.1 3, (241, .inr (.inl (fun _ => 0))))), (35, .inl (D.2.1 3, (241, .inr (.inl (fun _ => 0))))), (34, .inl (D.2.1 3, (1928, .inr (.inl (fun _ => 0))))), (32, .inr (2, [.ref a1, .ref av, .ref a2, .ref q33, .ref q34, .ref q35, .ref q36, .ref q37, .ref q38, .int (-1), .int 0, .int 0, .int 0, .int 0])), (33, .inl (D.2.1 3, (1928, .inr (.inl (fun _ => 0)))))] F)) kc2 32 rfl (by decide) rfl (hA6 _ (List.mem_of_getElem? (i := 6) rfl)) q_472 dX2_init_111 ?_
  refine i_iload X 0 dX2_init_114 rfl ?_
  refine i_lload_n X 1 dX2_init_116 rfl rfl ?_
  refine i_last X (F := (k_ov [(38, .inl (D.2.1 0, (16, .inl (fun _ => 0)))), (37, .inl (D.2.1 3, (16, .inr (.inl (fun _ => 0))))), (36, .inl (D.2.1 3, (241, .inr (.inl (fun _ => 0))))), (35, .inl (D.2.1 3, (241, .inr (.inl (fun _ => 0))))), (34, .inl (D.2.1 3, (1928, .inr (.inl (fun _ => 0))))), (32, .inr (2, [.ref a1, .ref av, .ref a2, .ref q33, .ref q34, .ref q35, .ref q36, .ref q37, .ref q38, .int (-1), .int 0, .int 0, .int 0, .int 0])), (33, .inl (D.2.1 3, (1928, .inr (.inl (fun _ => 0)))))] F)) (F' := (k_ov [(38, .inl (D.2.1 0, (16, .inl (fun _ => 0)))), (37, .inl (D.2.1 3, (16, .inr (.inl (k_X2_init_32_0))))), (36, .inl (D.2.1 3, (241, .inr (.inl (fun _ => 0))))), (35, .inl (D.2.1 3, (241, .inr (.inl (fun _ => 0))))), (34, .inl (D.2.1 3, (1928, .inr (.inl (fun _ => 0))))), (32, .inr (2, [.ref a1, .ref av, .ref a2, .ref q33, .ref q34, .ref q35, .ref q36, .ref q37, .ref q38, .int (-1), .int 0, .int 0, .int 0, .int 0])), (33, .inl (D.2.1 3, (1928, .inr (.inl (fun _ => 0)))))] F)) 37 rfl (hA6 _ (List.mem_of_getElem? (i := 1) rfl)) rfl (fun j hj => by simp only [k_ov, if_neg hj]) (k_b_in (by decide)) dX2_init_117 ?_
  refine i_lload_n X 1 dX2_init_118 rfl rfl ?_
  refine i_ldc2 X (v := 10) q_464 dX2_init_119 ?_
  refine j_lmul X (v := 10) dX2_init_122 (by decide) ?_
  refine i_lstore_n X (lv := [(3, .long (10 : Int64)), (5, .int 15), (0, .ref a0), (1, .ref a1), (2, .ref a2)]) dX2_init_123 rfl (by decide) rfl ?_
  refine i_iinc X (q := 1) (v := 14) (lv := [(5, .int 14), (3, .long (10 : Int64)), (0, .ref a0), (1, .ref a1), (2, .ref a2)]) dX2_init_124 rfl (by decide) (by decide) rfl ?_
  refine i_goto X (t := 105) dX2_init_127 (by decide) ?_
  refine i_iload X 0 dX2_init_105 rfl ?_
  refine i_if_lt X (t := 130) dX2_init_107 (by decide) (fun c => absurd c (show ¬ (14 : Int32) < 0 by decide)) (fun _ => ?_)
  refine i_aload_n X 2 dX2_init_110 rfl rfl ?_
  refine i_get X (f := 7) (F := (k_ov [(38, .inl (D.2.1 0, (16, .inl (fun _ => 0)))), (37, .inl (D.2.1 3, (16, .inr (.inl (k_X2_init_32_0))))), (36, .inl (D.2.1 3, (241, .inr (.inl (fun _ => 0))))), (35, .inl (D.2.1 3, (241, .inr (.inl (fun _ => 0))))), (34, .inl (D.2.1 3, (1928, .inr (.inl (fun _ => 0))))), (32, .inr (2, [.ref a1, .ref av, .ref a2, .ref q33, .ref q34, .ref q35, .ref q36, .ref q37, .ref q38, .int (-1), .int 0, .int 0, .int 0, .int 0])), (33, .inl (D.2.1 3, (1928, .inr (.inl (fun _ => 0)))))] F)) kc2 32 rfl (by decide) rfl (hA6 _ (List.mem_of_getElem? (i := 6) rfl)) q_472 dX2_init_111 ?_
  refine i_iload X 0 dX2_init_114 rfl ?_
  refine i_lload_n X 1 dX2_init_116 rfl rfl ?_
  refine i_last X (F := (k_ov [(38, .inl (D.2.1 0, (16, .inl (fun _ => 0)))), (37, .inl (D.2.1 3, (16, .inr (.inl (k_X2_init_32_0))))), (36, .inl (D.2.1 3, (241, .inr (.inl (fun _ => 0))))), (35, .inl (D.2.1 3, (241, .inr (.inl (fun _ => 0))))), (34, .inl (D.2.1 3, (1928, .inr (.inl (fun _ => 0))))), (32, .inr (2, [.ref a1, .ref av, .ref a2, .ref q33, .ref q34, .ref q35, .ref q36, .ref q37, .ref q38, .int (-1), .int 0, .int 0, .int 0, .int 0])), (33, .inl (D.2.1 3, (1928, .inr (.inl (fun _ => 0)))))] F)) (F' := (k_ov [(38, .inl (D.2.1 0, (16, .inl (fun _ => 0)))), (37, .inl (D.2.1 3, (16, .inr (.inl (k_X2_init_32_1))))), (36, .inl (D.2.1 3, (241, .inr (.inl (fun _ => 0))))), (35, .inl (D.2.1 3, (241, .inr (.inl (fun _ => 0))))), (34, .inl (D.2.1 3, (1928, .inr (.inl (fun _ => 0))))), (32, .inr (2, [.ref a1, .ref av, .ref a2, .ref q33, .ref q34, .ref q35, .ref q36, .ref q37, .ref q38, .int (-1), .int 0, .int 0, .int 0, .int 0])), (33, .inl (D.2.1 3, (1928, .inr (.inl (fun _ => 0)))))] F)) 37 rfl (hA6 _ (List.mem_of_getElem? (i := 1) rfl)) rfl (fun j hj => by simp only [k_ov, if_neg hj]) (k_b_in (by decide)) dX2_init_117 ?_
  refine i_lload_n X 1 dX2_init_118 rfl rfl ?_
  refine i_ldc2 X (v := 10) q_464 dX2_init_119 ?_
  refine j_lmul X (v := 100) dX2_init_122 (by decide) ?_
  refine i_lstore_n X (lv := [(3, .long (100 : Int64)), (5, .int 14), (0, .ref a0), (1, .ref a1), (2, .ref a2)]) dX2_init_123 rfl (by decide) rfl ?_
  refine i_iinc X (q := 1) (v := 13) (lv := [(5, .int 13), (3, .long (100 : Int64)), (0, .ref a0), (1, .ref a1), (2, .ref a2)]) dX2_init_124 rfl (by decide) (by decide) rfl ?_
  refine i_goto X (t := 105) dX2_init_127 (by decide) ?_
  refine i_iload X 0 dX2_init_105 rfl ?_
  refine i_if_lt X (t := 130) dX2_init_107 (by decide) (fun c => absurd c (show ¬ (13 : Int32) < 0 by decide)) (fun _ => ?_)
  refine i_aload_n X 2 dX2_init_110 rfl rfl ?_
  refine i_get X (f := 7) (F := (k_ov [(38, .inl (D.2.1 0, (16, .inl (fun _ => 0)))), (37, .inl (D.2.1 3, (16, .inr (.inl (k_X2_init_32_1))))), (36, .inl (D.2.1 3, (241, .inr (.inl (fun _ => 0))))), (35, .inl (D.2.1 3, (241, .inr (.inl (fun _ => 0))))), (34, .inl (D.2.1 3, (1928, .inr (.inl (fun _ => 0))))), (32, .inr (2, [.ref a1, .ref av, .ref a2, .ref q33, .ref q34, .ref q35, .ref q36, .ref q37, .ref q38, .int (-1), .int 0, .int 0, .int 0, .int 0])), (33, .inl (D.2.1 3, (1928, .inr (.inl (fun _ => 0)))))] F)) kc2 32 rfl (by decide) rfl (hA6 _ (List.mem_of_getElem? (i := 6) rfl)) q_472 dX2_init_111 ?_
  refine i_iload X 0 dX2_init_114 rfl ?_
  refine i_lload_n X 1 dX2_init_116 rfl rfl ?_
  refine i_last X (F := (k_ov [(38, .inl (D.2.1 0, (16, .inl (fun _ => 0)))), (37, .inl (D.2.1 3, (16, .inr (.inl (k_X2_init_32_1))))), (36, .inl (D.2.1 3, (241, .inr (.inl (fun _ => 0))))), (35, .inl (D.2.1 3, (241, .inr (.inl (fun _ => 0))))), (34, .inl (D.2.1 3, (1928, .inr (.inl (fun _ => 0))))), (32, .inr (2, [.ref a1, .ref av, .ref a2, .ref q33, .ref q34, .ref q35, .ref q36, .ref q37, .ref q38, .int (-1), .int 0, .int 0, .int 0, .int 0])), (33, .inl (D.2.1 3, (1928, .inr (.inl (fun _ => 0)))))] F)) (F' := (k_ov [(38, .inl (D.2.1 0, (16, .inl (fun _ => 0)))), (37, .inl (D.2.1 3, (16, .inr (.inl (k_X2_init_32_2))))), (36, .inl (D.2.1 3, (241, .inr (.inl (fun _ => 0))))), (35, .inl (D.2.1 3, (241, .inr (.inl (fun _ => 0))))), (34, .inl (D.2.1 3, (1928, .inr (.inl (fun _ => 0))))), (32, .inr (2, [.ref a1, .ref av, .ref a2, .ref q33, .ref q34, .ref q35, .ref q36, .ref q37, .ref q38, .int (-1), .int 0, .int 0, .int 0, .int 0])), (33, .inl (D.2.1 3, (1928, .inr (.inl (fun _ => 0)))))] F)) 37 rfl (hA6 _ (List.mem_of_getElem? (i := 1) rfl)) rfl (fun j hj => by simp only [k_ov, if_neg hj]) (k_b_in (by decide)) dX2_init_117 ?_
  refine i_lload_n X 1 dX2_init_118 rfl rfl ?_
  refine i_ldc2 X (v := 10) q_464 dX2_init_119 ?_
  refine j_lmul X (v := 1000) dX2_init_122 (by decide) ?_
  refine i_lstore_n X (lv := [(3, .long (1000 : Int64)), (5, .int 13), (0, .ref a0), (1, .ref a1), (2, .ref a2)]) dX2_init_123 rfl (by decide) rfl ?_
  refine i_iinc X (q := 1) (v := 12) (lv := [(5, .int 12), (3, .long (1000 : Int64)), (0, .ref a0), (1, .ref a1), (2, .ref a2)]) dX2_init_124 rfl (by decide) (by decide) rfl ?_
  refine i_goto X (t := 105) dX2_init_127 (by decide) ?_
  refine i_iload X 0 dX2_init_105 rfl ?_
  refine i_if_lt X (t := 130) dX2_init_107 (by decide) (fun c => absurd c (show ¬ (12 : Int32) < 0 by decide)) (fun _ => ?_)
  refine i_aload_n X 2 dX2_init_110 rfl rfl ?_
  refine i_get X (f := 7) (F := (k_ov [(38, .inl (D.2.1 0, (16, .inl (fun _ => 0)))), (37, .inl (D.2.1 3, (16, .inr (.inl (k_X2_init_32_2))))), (36, .inl (D.2.1 3, (241, .inr (.inl (fun _ => 0))))), (35, .inl (D.2.1 3, (241, .inr (.inl (fun _ => 0))))), (34, .inl (D.2.1 3, (1928, .inr (.inl (fun _ => 0))))), (32, .inr (2, [.ref a1, .ref av, .ref a2, .ref q33, .ref q34, .ref q35, .ref q36, .ref q37, .ref q38, .int (-1), .int 0, .int 0, .int 0, .int 0])), (33, .inl (D.2.1 3, (1928, .inr (.inl (fun _ => 0)))))] F)) kc2 32 rfl (by decide) rfl (hA6 _ (List.mem_of_getElem? (i := 6) rfl)) q_472 dX2_init_111 ?_
  refine i_iload X 0 dX2_init_114 rfl ?_
  refine i_lload_n X 1 dX2_init_116 rfl rfl ?_
  refine i_last X (F := (k_ov [(38, .inl (D.2.1 0, (16, .inl (fun _ => 0)))), (37, .inl (D.2.1 3, (16, .inr (.inl (k_X2_init_32_2))))), (36, .inl (D.2.1 3, (241, .inr (.inl (fun _ => 0))))), (35, .inl (D.2.1 3, (241, .inr (.inl (fun _ => 0))))), (34, .inl (D.2.1 3, (1928, .inr (.inl (fun _ => 0))))), (32, .inr (2, [.ref a1, .ref av, .ref a2, .ref q33, .ref q34, .ref q35, .ref q36, .ref q37, .ref q38, .int (-1), .int 0, .int 0, .int 0, .int 0])), (33, .inl (D.2.1 3, (1928, .inr (.inl (fun _ => 0)))))] F)) (F' := (k_ov [(38, .inl (D.2.1 0, (16, .inl (fun _ => 0)))), (37, .inl (D.2.1 3, (16, .inr (.inl (k_X2_init_32_3))))), (36, .inl (D.2.1 3, (241, .inr (.inl (fun _ => 0))))), (35, .inl (D.2.1 3, (241, .inr (.inl (fun _ => 0))))), (34, .inl (D.2.1 3, (1928, .inr (.inl (fun _ => 0))))), (32, .inr (2, [.ref a1, .ref av, .ref a2, .ref q33, .ref q34, .ref q35, .ref q36, .ref q37, .ref q38, .int (-1), .int 0, .int 0, .int 0, .int 0])), (33, .inl (D.2.1 3, (1928, .inr (.inl (fun _ => 0)))))] F)) 37 rfl (hA6 _ (List.mem_of_getElem? (i := 1) rfl)) rfl (fun j hj => by simp only [k_ov, if_neg hj]) (k_b_in (by decide)) dX2_init_117 ?_
  refine i_lload_n X 1 dX2_init_118 rfl rfl ?_
  refine i_ldc2 X (v := 10) q_464 dX2_init_119 ?_
  refine j_lmul X (v := 10000) dX2_init_122 (by decide) ?_
  refine i_lstore_n X (lv := [(3, .long (10000 : Int64)), (5, .int 12), (0, .ref a0), (1, .ref a1), (2, .ref a2)]) dX2_init_123 rfl (by decide) rfl ?_
  refine i_iinc X (q := 1) (v := 11) (lv := [(5, .int 11), (3, .long (10000 : Int64)), (0, .ref a0), (1, .ref a1), (2, .ref a2)]) dX2_init_124 rfl (by decide) (by decide) rfl ?_
  refine i_goto X (t := 105) dX2_init_127 (by decide) ?_
  refine i_iload X 0 dX2_init_105 rfl ?_
  refine i_if_lt X (t := 130) dX2_init_107 (by decide) (fun c => absurd c (show ¬ (11 : Int32) < 0 by decide)) (fun _ => ?_)
  refine i_aload_n X 2 dX2_init_110 rfl rfl ?_
  refine i_get X (f := 7) (F := (k_ov [(38, .inl (D.2.1 0, (16, .inl (fun _ => 0)))), (37, .inl (D.2.1 3, (16, .inr (.inl (k_X2_init_32_3))))), (36, .inl (D.2.1 3, (241, .inr (.inl (fun _ => 0))))), (35, .inl (D.2.1 3, (241, .inr (.inl (fun _ => 0))))), (34, .inl (D.2.1 3, (1928, .inr (.inl (fun _ => 0))))), (32, .inr (2, [.ref a1, .ref av, .ref a2, .ref q33, .ref q34, .ref q35, .ref q36, .ref q37, .ref q38, .int (-1), .int 0, .int 0, .int 0, .int 0])), (33, .inl (D.2.1 3, (1928, .inr (.inl (fun _ => 0)))))] F)) kc2 32 rfl (by decide) rfl (hA6 _ (List.mem_of_getElem? (i := 6) rfl)) q_472 dX2_init_111 ?_
  refine i_iload X 0 dX2_init_114 rfl ?_
  refine i_lload_n X 1 dX2_init_116 rfl rfl ?_
  refine i_last X (F := (k_ov [(38, .inl (D.2.1 0, (16, .inl (fun _ => 0)))), (37, .inl (D.2.1 3, (16, .inr (.inl (k_X2_init_32_3))))), (36, .inl (D.2.1 3, (241, .inr (.inl (fun _ => 0))))), (35, .inl (D.2.1 3, (241, .inr (.inl (fun _ => 0))))), (34, .inl (D.2.1 3, (1928, .inr (.inl (fun _ => 0))))), (32, .inr (2, [.ref a1, .ref av, .ref a2, .ref q33, .ref q34, .ref q35, .ref q36, .ref q37, .ref q38, .int (-1), .int 0, .int 0, .int 0, .int 0])), (33, .inl (D.2.1 3, (1928, .inr (.inl (fun _ => 0)))))] F)) (F' := (k_ov [(38, .inl (D.2.1 0, (16, .inl (fun _ => 0)))), (37, .inl (D.2.1 3, (16, .inr (.inl (k_X2_init_32_4))))), (36, .inl (D.2.1 3, (241, .inr (.inl (fun _ => 0))))), (35, .inl (D.2.1 3, (241, .inr (.inl (fun _ => 0))))), (34, .inl (D.2.1 3, (1928, .inr (.inl (fun _ => 0))))), (32, .inr (2, [.ref a1, .ref av, .ref a2, .ref q33, .ref q34, .ref q35, .ref q36, .ref q37, .ref q38, .int (-1), .int 0, .int 0, .int 0, .int 0])), (33, .inl (D.2.1 3, (1928, .inr (.inl (fun _ => 0)))))] F)) 37 rfl (hA6 _ (List.mem_of_getElem? (i := 1) rfl)) rfl (fun j hj => by simp only [k_ov, if_neg hj]) (k_b_in (by decide)) dX2_init_117 ?_
  refine i_lload_n X 1 dX2_init_118 rfl rfl ?_
  refine i_ldc2 X (v := 10) q_464 dX2_init_119 ?_
  refine j_lmul X (v := 100000) dX2_init_122 (by decide) ?_
  refine i_lstore_n X (lv := [(3, .long (100000 : Int64)), (5, .int 11), (0, .ref a0), (1, .ref a1), (2, .ref a2)]) dX2_init_123 rfl (by decide) rfl ?_
  refine i_iinc X (q := 1) (v := 10) (lv := [(5, .int 10), (3, .long (100000 : Int64)), (0, .ref a0), (1, .ref a1), (2, .ref a2)]) dX2_init_124 rfl (by decide) (by decide) rfl ?_
  refine i_goto X (t := 105) dX2_init_127 (by decide) ?_
  refine i_iload X 0 dX2_init_105 rfl ?_
  refine i_if_lt X (t := 130) dX2_init_107 (by decide) (fun c => absurd c (show ¬ (10 : Int32) < 0 by decide)) (fun _ => ?_)
  refine i_aload_n X 2 dX2_init_110 rfl rfl ?_
  refine i_get X (f := 7) (F := (k_ov [(38, .inl (D.2.1 0, (16, .inl (fun _ => 0)))), (37, .inl (D.2.1 3, (16, .inr (.inl (k_X2_init_32_4))))), (36, .inl (D.2.1 3, (241, .inr (.inl (fun _ => 0))))), (35, .inl (D.2.1 3, (241, .inr (.inl (fun _ => 0))))), (34, .inl (D.2.1 3, (1928, .inr (.inl (fun _ => 0))))), (32, .inr (2, [.ref a1, .ref av, .ref a2, .ref q33, .ref q34, .ref q35, .ref q36, .ref q37, .ref q38, .int (-1), .int 0, .int 0, .int 0, .int 0])), (33, .inl (D.2.1 3, (1928, .inr (.inl (fun _ => 0)))))] F)) kc2 32 rfl (by decide) rfl (hA6 _ (List.mem_of_getElem? (i := 6) rfl)) q_472 dX2_init_111 ?_
  refine i_iload X 0 dX2_init_114 rfl ?_
  refine i_lload_n X 1 dX2_init_116 rfl rfl ?_
  refine i_last X (F := (k_ov [(38, .inl (D.2.1 0, (16, .inl (fun _ => 0)))), (37, .inl (D.2.1 3, (16, .inr (.inl (k_X2_init_32_4))))), (36, .inl (D.2.1 3, (241, .inr (.inl (fun _ => 0))))), (35, .inl (D.2.1 3, (241, .inr (.inl (fun _ => 0))))), (34, .inl (D.2.1 3, (1928, .inr (.inl (fun _ => 0))))), (32, .inr (2, [.ref a1, .ref av, .ref a2, .ref q33, .ref q34, .ref q35, .ref q36, .ref q37, .ref q38, .int (-1), .int 0, .int 0, .int 0, .int 0])), (33, .inl (D.2.1 3, (1928, .inr (.inl (fun _ => 0)))))] F)) (F' := (k_ov [(38, .inl (D.2.1 0, (16, .inl (fun _ => 0)))), (37, .inl (D.2.1 3, (16, .inr (.inl (k_X2_init_32_5))))), (36, .inl (D.2.1 3, (241, .inr (.inl (fun _ => 0))))), (35, .inl (D.2.1 3, (241, .inr (.inl (fun _ => 0))))), (34, .inl (D.2.1 3, (1928, .inr (.inl (fun _ => 0))))), (32, .inr (2, [.ref a1, .ref av, .ref a2, .ref q33, .ref q34, .ref q35, .ref q36, .ref q37, .ref q38, .int (-1), .int 0, .int 0, .int 0, .int 0])), (33, .inl (D.2.1 3, (1928, .inr (.inl (fun _ => 0)))))] F)) 37 rfl (hA6 _ (List.mem_of_getElem? (i := 1) rfl)) rfl (fun j hj => by simp only [k_ov, if_neg hj]) (k_b_in (by decide)) dX2_init_117 ?_
  refine i_lload_n X 1 dX2_init_118 rfl rfl ?_
  refine i_ldc2 X (v := 10) q_464 dX2_init_119 ?_
  refine j_lmul X (v := 1000000) dX2_init_122 (by decide) ?_
  refine i_lstore_n X (lv := [(3, .long (1000000 : Int64)), (5, .int 10), (0, .ref a0), (1, .ref a1), (2, .ref a2)]) dX2_init_123 rfl (by decide) rfl ?_
  refine i_iinc X (q := 1) (v := 9) (lv := [(5, .int 9), (3, .long (1000000 : Int64)), (0, .ref a0), (1, .ref a1), (2, .ref a2)]) dX2_init_124 rfl (by decide) (by decide) rfl ?_
  refine i_goto X (t := 105) dX2_init_127 (by decide) ?_
  refine i_iload X 0 dX2_init_105 rfl ?_
  refine i_if_lt X (t := 130) dX2_init_107 (by decide) (fun c => absurd c (show ¬ (9 : Int32) < 0 by decide)) (fun _ => ?_)
  refine i_aload_n X 2 dX2_init_110 rfl rfl ?_
  refine i_get X (f := 7) (F := (k_ov [(38, .inl (D.2.1 0, (16, .inl (fun _ => 0)))), (37, .inl (D.2.1 3, (16, .inr (.inl (k_X2_init_32_5))))), (36, .inl (D.2.1 3, (241, .inr (.inl (fun _ => 0))))), (35, .inl (D.2.1 3, (241, .inr (.inl (fun _ => 0))))), (34, .inl (D.2.1 3, (1928, .inr (.inl (fun _ => 0))))), (32, .inr (2, [.ref a1, .ref av, .ref a2, .ref q33, .ref q34, .ref q35, .ref q36, .ref q37, .ref q38, .int (-1), .int 0, .int 0, .int 0, .int 0])), (33, .inl (D.2.1 3, (1928, .inr (.inl (fun _ => 0)))))] F)) kc2 32 rfl (by decide) rfl (hA6 _ (List.mem_of_getElem? (i := 6) rfl)) q_472 dX2_init_111 ?_
  refine i_iload X 0 dX2_init_114 rfl ?_
  refine i_lload_n X 1 dX2_init_116 rfl rfl ?_
  refine i_last X (F := (k_ov [(38, .inl (D.2.1 0, (16, .inl (fun _ => 0)))), (37, .inl (D.2.1 3, (16, .inr (.inl (k_X2_init_32_5))))), (36, .inl (D.2.1 3, (241, .inr (.inl (fun _ => 0))))), (35, .inl (D.2.1 3, (241, .inr (.inl (fun _ => 0))))), (34, .inl (D.2.1 3, (1928, .inr (.inl (fun _ => 0))))), (32, .inr (2, [.ref a1, .ref av, .ref a2, .ref q33, .ref q34, .ref q35, .ref q36, .ref q37, .ref q38, .int (-1), .int 0, .int 0, .int 0, .int 0])), (33, .inl (D.2.1 3, (1928, .inr (.inl (fun _ => 0)))))] F)) (F' := (k_ov [(38, .inl (D.2.1 0, (16, .inl (fun _ => 0)))), (37, .inl (D.2.1 3, (16, .inr (.inl (k_X2_init_32_6))))), (36, .inl (D.2.1 3, (241, .inr (.inl (fun _ => 0))))), (35, .inl (D.2.1 3, (241, .inr (.inl (fun _ => 0))))), (34, .inl (D.2.1 3, (1928, .inr (.inl (fun _ => 0))))), (32, .inr (2, [.ref a1, .ref av, .ref a2, .ref q33, .ref q34, .ref q35, .ref q36, .ref q37, .ref q38, .int (-1), .int 0, .int 0, .int 0, .int 0])), (33, .inl (D.2.1 3, (1928, .inr (.inl (fun _ => 0)))))] F)) 37 rfl (hA6 _ (List.mem_of_getElem? (i := 1) rfl)) rfl (fun j hj => by simp only [k_ov, if_neg hj]) (k_b_in (by decide)) dX2_init_117 ?_
  refine i_lload_n X 1 dX2_init_118 rfl rfl ?_
  refine i_ldc2 X (v := 10) q_464 dX2_init_119 ?_
  refine j_lmul X (v := 10000000) dX2_init_122 (by decide) ?_
  refine i_lstore_n X (lv := [(3, .long (10000000 : Int64)), (5, .int 9), (0, .ref a0), (1, .ref a1), (2, .ref a2)]) dX2_init_123 rfl (by decide) rfl ?_
  refine i_iinc X (q := 1) (v := 8) (lv := [(5, .int 8), (3, .long (10000000 : Int64)), (0, .ref a0), (1, .ref a1), (2, .ref a2)]) dX2_init_124 rfl (by decide) (by decide) rfl ?_
  refine i_goto X (t := 105) dX2_init_127 (by decide) ?_
  refine i_iload X 0 dX2_init_105 rfl ?_
  refine i_if_lt X (t := 130) dX2_init_107 (by decide) (fun c => absurd c (show ¬ (8 : Int32) < 0 by decide)) (fun _ => ?_)
  refine i_aload_n X 2 dX2_init_110 rfl rfl ?_
  refine i_get X (f := 7) (F := (k_ov [(38, .inl (D.2.1 0, (16, .inl (fun _ => 0)))), (37, .inl (D.2.1 3, (16, .inr (.inl (k_X2_init_32_6))))), (36, .inl (D.2.1 3, (241, .inr (.inl (fun _ => 0))))), (35, .inl (D.2.1 3, (241, .inr (.inl (fun _ => 0))))), (34, .inl (D.2.1 3, (1928, .inr (.inl (fun _ => 0))))), (32, .inr (2, [.ref a1, .ref av, .ref a2, .ref q33, .ref q34, .ref q35, .ref q36, .ref q37, .ref q38, .int (-1), .int 0, .int 0, .int 0, .int 0])), (33, .inl (D.2.1 3, (1928, .inr (.inl (fun _ => 0)))))] F)) kc2 32 rfl (by decide) rfl (hA6 _ (List.mem_of_getElem? (i := 6) rfl)) q_472 dX2_init_111 ?_
  refine i_iload X 0 dX2_init_114 rfl ?_
  refine i_lload_n X 1 dX2_init_116 rfl rfl ?_
  refine i_last X (F := (k_ov [(38, .inl (D.2.1 0, (16, .inl (fun _ => 0)))), (37, .inl (D.2.1 3, (16, .inr (.inl (k_X2_init_32_6))))), (36, .inl (D.2.1 3, (241, .inr (.inl (fun _ => 0))))), (35, .inl (D.2.1 3, (241, .inr (.inl (fun _ => 0))))), (34, .inl (D.2.1 3, (1928, .inr (.inl (fun _ => 0))))), (32, .inr (2, [.ref a1, .ref av, .ref a2, .ref q33, .ref q34, .ref q35, .ref q36, .ref q37, .ref q38, .int (-1), .int 0, .int 0, .int 0, .int 0])), (33, .inl (D.2.1 3, (1928, .inr (.inl (fun _ => 0)))))] F)) (F' := (k_ov [(38, .inl (D.2.1 0, (16, .inl (fun _ => 0)))), (37, .inl (D.2.1 3, (16, .inr (.inl (k_X2_init_32_7))))), (36, .inl (D.2.1 3, (241, .inr (.inl (fun _ => 0))))), (35, .inl (D.2.1 3, (241, .inr (.inl (fun _ => 0))))), (34, .inl (D.2.1 3, (1928, .inr (.inl (fun _ => 0))))), (32, .inr (2, [.ref a1, .ref av, .ref a2, .ref q33, .ref q34, .ref q35, .ref q36, .ref q37, .ref q38, .int (-1), .int 0, .int 0, .int 0, .int 0])), (33, .inl (D.2.1 3, (1928, .inr (.inl (fun _ => 0)))))] F)) 37 rfl (hA6 _ (List.mem_of_getElem? (i := 1) rfl)) rfl (fun j hj => by simp only [k_ov, if_neg hj]) (k_b_in (by decide)) dX2_init_117 ?_
  refine i_lload_n X 1 dX2_init_118 rfl rfl ?_
  refine i_ldc2 X (v := 10) q_464 dX2_init_119 ?_
  refine j_lmul X (v := 100000000) dX2_init_122 (by decide) ?_
  refine i_lstore_n X (lv := [(3, .long (100000000 : Int64)), (5, .int 8), (0, .ref a0), (1, .ref a1), (2, .ref a2)]) dX2_init_123 rfl (by decide) rfl ?_
  refine i_iinc X (q := 1) (v := 7) (lv := [(5, .int 7), (3, .long (100000000 : Int64)), (0, .ref a0), (1, .ref a1), (2, .ref a2)]) dX2_init_124 rfl (by decide) (by decide) rfl ?_
  refine i_goto X (t := 105) dX2_init_127 (by decide) ?_
  refine i_iload X 0 dX2_init_105 rfl ?_
  refine i_if_lt X (t := 130) dX2_init_107 (by decide) (fun c => absurd c (show ¬ (7 : Int32) < 0 by decide)) (fun _ => ?_)
  refine i_aload_n X 2 dX2_init_110 rfl rfl ?_
  refine i_get X (f := 7) (F := (k_ov [(38, .inl (D.2.1 0, (16, .inl (fun _ => 0)))), (37, .inl (D.2.1 3, (16, .inr (.inl (k_X2_init_32_7))))), (36, .inl (D.2.1 3, (241, .inr (.inl (fun _ => 0))))), (35, .inl (D.2.1 3, (241, .inr (.inl (fun _ => 0))))), (34, .inl (D.2.1 3, (1928, .inr (.inl (fun _ => 0))))), (32, .inr (2, [.ref a1, .ref av, .ref a2, .ref q33, .ref q34, .ref q35, .ref q36, .ref q37, .ref q38, .int (-1), .int 0, .int 0, .int 0, .int 0])), (33, .inl (D.2.1 3, (1928, .inr (.inl (fun _ => 0)))))] F)) kc2 32 rfl (by decide) rfl (hA6 _ (List.mem_of_getElem? (i := 6) rfl)) q_472 dX2_init_111 ?_
  refine i_iload X 0 dX2_init_114 rfl ?_
  refine i_lload_n X 1 dX2_init_116 rfl rfl ?_
  refine i_last X (F := (k_ov [(38, .inl (D.2.1 0, (16, .inl (fun _ => 0)))), (37, .inl (D.2.1 3, (16, .inr (.inl (k_X2_init_32_7))))), (36, .inl (D.2.1 3, (241, .inr (.inl (fun _ => 0))))), (35, .inl (D.2.1 3, (241, .inr (.inl (fun _ => 0))))), (34, .inl (D.2.1 3, (1928, .inr (.inl (fun _ => 0))))), (32, .inr (2, [.ref a1, .ref av, .ref a2, .ref q33, .ref q34, .ref q35, .ref q36, .ref q37, .ref q38, .int (-1), .int 0, .int 0, .int 0, .int 0])), (33, .inl (D.2.1 3, (1928, .inr (.inl (fun _ => 0)))))] F)) (F' := (k_ov [(38, .inl (D.2.1 0, (16, .inl (fun _ => 0)))), (37, .inl (D.2.1 3, (16, .inr (.inl (k_X2_init_32_8))))), (36, .inl (D.2.1 3, (241, .inr (.inl (fun _ => 0))))), (35, .inl (D.2.1 3, (241, .inr (.inl (fun _ => 0))))), (34, .inl (D.2.1 3, (1928, .inr (.inl (fun _ => 0))))), (32, .inr (2, [.ref a1, .ref av, .ref a2, .ref q33, .ref q34, .ref q35, .ref q36, .ref q37, .ref q38, .int (-1), .int 0, .int 0, .int 0, .int 0])), (33, .inl (D.2.1 3, (1928, .inr (.inl (fun _ => 0)))))] F)) 37 rfl (hA6 _ (List.mem_of_getElem? (i := 1) rfl)) rfl (fun j hj => by simp only [k_ov, if_neg hj]) (k_b_in (by decide)) dX2_init_117 ?_
  refine i_lload_n X 1 dX2_init_118 rfl rfl ?_
  refine i_ldc2 X (v := 10) q_464 dX2_init_119 ?_
  refine j_lmul X (v := 1000000000) dX2_init_122 (by decide) ?_
  refine i_lstore_n X (lv := [(3, .long (1000000000 : Int64)), (5, .int 7), (0, .ref a0), (1, .ref a1), (2, .ref a2)]) dX2_init_123 rfl (by decide) rfl ?_
  refine i_iinc X (q := 1) (v := 6) (lv := [(5, .int 6), (3, .long (1000000000 : Int64)), (0, .ref a0), (1, .ref a1), (2, .ref a2)]) dX2_init_124 rfl (by decide) (by decide) rfl ?_
  refine i_goto X (t := 105) dX2_init_127 (by decide) ?_
  refine i_iload X 0 dX2_init_105 rfl ?_
  refine i_if_lt X (t := 130) dX2_init_107 (by decide) (fun c => absurd c (show ¬ (6 : Int32) < 0 by decide)) (fun _ => ?_)
  refine i_aload_n X 2 dX2_init_110 rfl rfl ?_
  refine i_get X (f := 7) (F := (k_ov [(38, .inl (D.2.1 0, (16, .inl (fun _ => 0)))), (37, .inl (D.2.1 3, (16, .inr (.inl (k_X2_init_32_8))))), (36, .inl (D.2.1 3, (241, .inr (.inl (fun _ => 0))))), (35, .inl (D.2.1 3, (241, .inr (.inl (fun _ => 0))))), (34, .inl (D.2.1 3, (1928, .inr (.inl (fun _ => 0))))), (32, .inr (2, [.ref a1, .ref av, .ref a2, .ref q33, .ref q34, .ref q35, .ref q36, .ref q37, .ref q38, .int (-1), .int 0, .int 0, .int 0, .int 0])), (33, .inl (D.2.1 3, (1928, .inr (.inl (fun _ => 0)))))] F)) kc2 32 rfl (by decide) rfl (hA6 _ (List.mem_of_getElem? (i := 6) rfl)) q_472 dX2_init_111 ?_
  refine i_iload X 0 dX2_init_114 rfl ?_
  refine i_lload_n X 1 dX2_init_116 rfl rfl ?_
  refine i_last X (F := (k_ov [(38, .inl (D.2.1 0, (16, .inl (fun _ => 0)))), (37, .inl (D.2.1 3, (16, .inr (.inl (k_X2_init_32_8))))), (36, .inl (D.2.1 3, (241, .inr (.inl (fun _ => 0))))), (35, .inl (D.2.1 3, (241, .inr (.inl (fun _ => 0))))), (34, .inl (D.2.1 3, (1928, .inr (.inl (fun _ => 0))))), (32, .inr (2, [.ref a1, .ref av, .ref a2, .ref q33, .ref q34, .ref q35, .ref q36, .ref q37, .ref q38, .int (-1), .int 0, .int 0, .int 0, .int 0])), (33, .inl (D.2.1 3, (1928, .inr (.inl (fun _ => 0)))))] F)) (F' := (k_ov [(38, .inl (D.2.1 0, (16, .inl (fun _ => 0)))), (37, .inl (D.2.1 3, (16, .inr (.inl (k_X2_init_32_9))))), (36, .inl (D.2.1 3, (241, .inr (.inl (fun _ => 0))))), (35, .inl (D.2.1 3, (241, .inr (.inl (fun _ => 0))))), (34, .inl (D.2.1 3, (1928, .inr (.inl (fun _ => 0))))), (32, .inr (2, [.ref a1, .ref av, .ref a2, .ref q33, .ref q34, .ref q35, .ref q36, .ref q37, .ref q38, .int (-1), .int 0, .int 0, .int 0, .int 0])), (33, .inl (D.2.1 3, (1928, .inr (.inl (fun _ => 0)))))] F)) 37 rfl (hA6 _ (List.mem_of_getElem? (i := 1) rfl)) rfl (fun j hj => by simp only [k_ov, if_neg hj]) (k_b_in (by decide)) dX2_init_117 ?_
  refine i_lload_n X 1 dX2_init_118 rfl rfl ?_
  refine i_ldc2 X (v := 10) q_464 dX2_init_119 ?_
  refine j_lmul X (v := 10000000000) dX2_init_122 (by decide) ?_
  refine i_lstore_n X (lv := [(3, .long (10000000000 : Int64)), (5, .int 6), (0, .ref a0), (1, .ref a1), (2, .ref a2)]) dX2_init_123 rfl (by decide) rfl ?_
  refine i_iinc X (q := 1) (v := 5) (lv := [(5, .int 5), (3, .long (10000000000 : Int64)), (0, .ref a0), (1, .ref a1), (2, .ref a2)]) dX2_init_124 rfl (by decide) (by decide) rfl ?_
  refine i_goto X (t := 105) dX2_init_127 (by decide) ?_
  refine i_iload X 0 dX2_init_105 rfl ?_
  refine i_if_lt X (t := 130) dX2_init_107 (by decide) (fun c => absurd c (show ¬ (5 : Int32) < 0 by decide)) (fun _ => ?_)
  refine i_aload_n X 2 dX2_init_110 rfl rfl ?_
  refine i_get X (f := 7) (F := (k_ov [(38, .inl (D.2.1 0, (16, .inl (fun _ => 0)))), (37, .inl (D.2.1 3, (16, .inr (.inl (k_X2_init_32_9))))), (36, .inl (D.2.1 3, (241, .inr (.inl (fun _ => 0))))), (35, .inl (D.2.1 3, (241, .inr (.inl (fun _ => 0))))), (34, .inl (D.2.1 3, (1928, .inr (.inl (fun _ => 0))))), (32, .inr (2, [.ref a1, .ref av, .ref a2, .ref q33, .ref q34, .ref q35, .ref q36, .ref q37, .ref q38, .int (-1), .int 0, .int 0, .int 0, .int 0])), (33, .inl (D.2.1 3, (1928, .inr (.inl (fun _ => 0)))))] F)) kc2 32 rfl (by decide) rfl (hA6 _ (List.mem_of_getElem? (i := 6) rfl)) q_472 dX2_init_111 ?_
  refine i_iload X 0 dX2_init_114 rfl ?_
  refine i_lload_n X 1 dX2_init_116 rfl rfl ?_
  refine i_last X (F := (k_ov [(38, .inl (D.2.1 0, (16, .inl (fun _ => 0)))), (37, .inl (D.2.1 3, (16, .inr (.inl (k_X2_init_32_9))))), (36, .inl (D.2.1 3, (241, .inr (.inl (fun _ => 0))))), (35, .inl (D.2.1 3, (241, .inr (.inl (fun _ => 0))))), (34, .inl (D.2.1 3, (1928, .inr (.inl (fun _ => 0))))), (32, .inr (2, [.ref a1, .ref av, .ref a2, .ref q33, .ref q34, .ref q35, .ref q36, .ref q37, .ref q38, .int (-1), .int 0, .int 0, .int 0, .int 0])), (33, .inl (D.2.1 3, (1928, .inr (.inl (fun _ => 0)))))] F)) (F' := (k_ov [(38, .inl (D.2.1 0, (16, .inl (fun _ => 0)))), (37, .inl (D.2.1 3, (16, .inr (.inl (k_X2_init_32_10))))), (36, .inl (D.2.1 3, (241, .inr (.inl (fun _ => 0))))), (35, .inl (D.2.1 3, (241, .inr (.inl (fun _ => 0))))), (34, .inl (D.2.1 3, (1928, .inr (.inl (fun _ => 0))))), (32, .inr (2, [.ref a1, .ref av, .ref a2, .ref q33, .ref q34, .ref q35, .ref q36, .ref q37, .ref q38, .int (-1), .int 0, .int 0, .int 0, .int 0])), (33, .inl (D.2.1 3, (1928, .inr (.inl (fun _ => 0)))))] F)) 37 rfl (hA6 _ (List.mem_of_getElem? (i := 1) rfl)) rfl (fun j hj => by simp only [k_ov, if_neg hj]) (k_b_in (by decide)) dX2_init_117 ?_
  refine i_lload_n X 1 dX2_init_118 rfl rfl ?_
  refine i_ldc2 X (v := 10) q_464 dX2_init_119 ?_
  refine j_lmul X (v := 100000000000) dX2_init_122 (by decide) ?_
  refine i_lstore_n X (lv := [(3, .long (100000000000 : Int64)), (5, .int 5), (0, .ref a0), (1, .ref a1), (2, .ref a2)]) dX2_init_123 rfl (by decide) rfl ?_
  refine i_iinc X (q := 1) (v := 4) (lv := [(5, .int 4), (3, .long (100000000000 : Int64)), (0, .ref a0), (1, .ref a1), (2, .ref a2)]) dX2_init_124 rfl (by decide) (by decide) rfl ?_
  refine i_goto X (t := 105) dX2_init_127 (by decide) ?_
  refine i_iload X 0 dX2_init_105 rfl ?_
  refine i_if_lt X (t := 130) dX2_init_107 (by decide) (fun c => absurd c (show ¬ (4 : Int32) < 0 by decide)) (fun _ => ?_)
  refine i_aload_n X 2 dX2_init_110 rfl rfl ?_
  refine i_get X (f := 7) (F := (k_ov [(38, .inl (D.2.1 0, (16, .inl (fun _ => 0)))), (37, .inl (D.2.1 3, (16, .inr (.inl (k_X2_init_32_10))))), (36, .inl (D.2.1 3, (241, .inr (.inl (fun _ => 0))))), (35, .inl (D.2.1 3, (241, .inr (.inl (fun _ => 0))))), (34, .inl (D.2.1 3, (1928, .inr (.inl (fun _ => 0))))), (32, .inr (2, [.ref a1, .ref av, .ref a2, .ref q33, .ref q34, .ref q35, .ref q36, .ref q37, .ref q38, .int (-1), .int 0, .int 0, .int 0, .int 0])), (33, .inl (D.2.1 3, (1928, .inr (.inl (fun _ => 0)))))] F)) kc2 32 rfl (by decide) rfl (hA6 _ (List.mem_of_getElem? (i := 6) rfl)) q_472 dX2_init_111 ?_
  refine i_iload X 0 dX2_init_114 rfl ?_
  refine i_lload_n X 1 dX2_init_116 rfl rfl ?_
  refine i_last X (F := (k_ov [(38, .inl (D.2.1 0, (16, .inl (fun _ => 0)))), (37, .inl (D.2.1 3, (16, .inr (.inl (k_X2_init_32_10))))), (36, .inl (D.2.1 3, (241, .inr (.inl (fun _ => 0))))), (35, .inl (D.2.1 3, (241, .inr (.inl (fun _ => 0))))), (34, .inl (D.2.1 3, (1928, .inr (.inl (fun _ => 0))))), (32, .inr (2, [.ref a1, .ref av, .ref a2, .ref q33, .ref q34, .ref q35, .ref q36, .ref q37, .ref q38, .int (-1), .int 0, .int 0, .int 0, .int 0])), (33, .inl (D.2.1 3, (1928, .inr (.inl (fun _ => 0)))))] F)) (F' := (k_ov [(38, .inl (D.2.1 0, (16, .inl (fun _ => 0)))), (37, .inl (D.2.1 3, (16, .inr (.inl (k_X2_init_32_11))))), (36, .inl (D.2.1 3, (241, .inr (.inl (fun _ => 0))))), (35, .inl (D.2.1 3, (241, .inr (.inl (fun _ => 0))))), (34, .inl (D.2.1 3, (1928, .inr (.inl (fun _ => 0))))), (32, .inr (2, [.ref a1, .ref av, .ref a2, .ref q33, .ref q34, .ref q35, .ref q36, .ref q37, .ref q38, .int (-1), .int 0, .int 0, .int 0, .int 0])), (33, .inl (D.2.1 3, (1928, .inr (.inl (fun _ => 0)))))] F)) 37 rfl (hA6 _ (List.mem_of_getElem? (i := 1) rfl)) rfl (fun j hj => by simp only [k_ov, if_neg hj]) (k_b_in (by decide)) dX2_init_117 ?_
  refine i_lload_n X 1 dX2_init_118 rfl rfl ?_
  refine i_ldc2 X (v := 10) q_464 dX2_init_119 ?_
  refine j_lmul X (v := 1000000000000) dX2_init_122 (by decide) ?_
  refine i_lstore_n X (lv := [(3, .long (1000000000000 : Int64)), (5, .int 4), (0, .ref a0), (1, .ref a1), (2, .ref a2)]) dX2_init_123 rfl (by decide) rfl ?_
  refine i_iinc X (q := 1) (v := 3) (lv := [(5, .int 3), (3, .long (1000000000000 : Int64)), (0, .ref a0), (1, .ref a1), (2, .ref a2)]) dX2_init_124 rfl (by decide) (by decide) rfl ?_
  refine i_goto X (t := 105) dX2_init_127 (by decide) ?_
  refine i_iload X 0 dX2_init_105 rfl ?_
  refine i_if_lt X (t := 130) dX2_init_107 (by decide) (fun c => absurd c (show ¬ (3 : Int32) < 0 by decide)) (fun _ => ?_)
  refine i_aload_n X 2 dX2_init_110 rfl rfl ?_
  refine i_get X (f := 7) (F := (k_ov [(38, .inl (D.2.1 0, (16, .inl (fun _ => 0)))), (37, .inl (D.2.1 3, (16, .inr (.inl (k_X2_init_32_11))))), (36, .inl (D.2.1 3, (241, .inr (.inl (fun _ => 0))))), (35, .inl (D.2.1 3, (241, .inr (.inl (fun _ => 0))))), (34, .inl (D.2.1 3, (1928, .inr (.inl (fun _ => 0))))), (32, .inr (2, [.ref a1, .ref av, .ref a2, .ref q33, .ref q34, .ref q35, .ref q36, .ref q37, .ref q38, .int (-1), .int 0, .int 0, .int 0, .int 0])), (33, .inl (D.2.1 3, (1928, .inr (.inl (fun _ => 0)))))] F)) kc2 32 rfl (by decide) rfl (hA6 _ (List.mem_of_getElem? (i := 6) rfl)) q_472 dX2_init_111 ?_
  refine i_iload X 0 dX2_init_114 rfl ?_
  refine i_lload_n X 1 dX2_init_116 rfl rfl ?_
  refine i_last X (F := (k_ov [(38, .inl (D.2.1 0, (16, .inl (fun _ => 0)))), (37, .inl (D.2.1 3, (16, .inr (.inl (k_X2_init_32_11))))), (36, .inl (D.2.1 3, (241, .inr (.inl (fun _ => 0))))), (35, .inl (D.2.1 3, (241, .inr (.inl (fun _ => 0))))), (34, .inl (D.2.1 3, (1928, .inr (.inl (fun _ => 0))))), (32, .inr (2, [.ref a1, .ref av, .ref a2, .ref q33, .ref q34, .ref q35, .ref q36, .ref q37, .ref q38, .int (-1), .int 0, .int 0, .int 0, .int 0])), (33, .inl (D.2.1 3, (1928, .inr (.inl (fun _ => 0)))))] F)) (F' := (k_ov [(38, .inl (D.2.1 0, (16, .inl (fun _ => 0)))), (37, .inl (D.2.1 3, (16, .inr (.inl (k_X2_init_32_12))))), (36, .inl (D.2.1 3, (241, .inr (.inl (fun _ => 0))))), (35, .inl (D.2.1 3, (241, .inr (.inl (fun _ => 0))))), (34, .inl (D.2.1 3, (1928, .inr (.inl (fun _ => 0))))), (32, .inr (2, [.ref a1, .ref av, .ref a2, .ref q33, .ref q34, .ref q35, .ref q36, .ref q37, .ref q38, .int (-1), .int 0, .int 0, .int 0, .int 0])), (33, .inl (D.2.1 3, (1928, .inr (.inl (fun _ => 0)))))] F)) 37 rfl (hA6 _ (List.mem_of_getElem? (i := 1) rfl)) rfl (fun j hj => by simp only [k_ov, if_neg hj]) (k_b_in (by decide)) dX2_init_117 ?_
  refine i_lload_n X 1 dX2_init_118 rfl rfl ?_
  refine i_ldc2 X (v := 10) q_464 dX2_init_119 ?_
  refine j_lmul X (v := 10000000000000) dX2_init_122 (by decide) ?_
  refine i_lstore_n X (lv := [(3, .long (10000000000000 : Int64)), (5, .int 3), (0, .ref a0), (1, .ref a1), (2, .ref a2)]) dX2_init_123 rfl (by decide) rfl ?_
  refine i_iinc X (q := 1) (v := 2) (lv := [(5, .int 2), (3, .long (10000000000000 : Int64)), (0, .ref a0), (1, .ref a1), (2, .ref a2)]) dX2_init_124 rfl (by decide) (by decide) rfl ?_
  refine i_goto X (t := 105) dX2_init_127 (by decide) ?_
  refine i_iload X 0 dX2_init_105 rfl ?_
  refine i_if_lt X (t := 130) dX2_init_107 (by decide) (fun c => absurd c (show ¬ (2 : Int32) < 0 by decide)) (fun _ => ?_)
  refine i_aload_n X 2 dX2_init_110 rfl rfl ?_
  refine i_get X (f := 7) (F := (k_ov [(38, .inl (D.2.1 0, (16, .inl (fun _ => 0)))), (37, .inl (D.2.1 3, (16, .inr (.inl (k_X2_init_32_12))))), (36, .inl (D.2.1 3, (241, .inr (.inl (fun _ => 0))))), (35, .inl (D.2.1 3, (241, .inr (.inl (fun _ => 0))))), (34, .inl (D.2.1 3, (1928, .inr (.inl (fun _ => 0))))), (32, .inr (2, [.ref a1, .ref av, .ref a2, .ref q33, .ref q34, .ref q35, .ref q36, .ref q37, .ref q38, .int (-1), .int 0, .int 0, .int 0, .int 0])), (33, .inl (D.2.1 3, (1928, .inr (.inl (fun _ => 0)))))] F)) kc2 32 rfl (by decide) rfl (hA6 _ (List.mem_of_getElem? (i := 6) rfl)) q_472 dX2_init_111 ?_
  refine i_iload X 0 dX2_init_114 rfl ?_
  refine i_lload_n X 1 dX2_init_116 rfl rfl ?_
  refine i_last X (F := (k_ov [(38, .inl (D.2.1 0, (16, .inl (fun _ => 0)))), (37, .inl (D.2.1 3, (16, .inr (.inl (k_X2_init_32_12))))), (36, .inl (D.2.1 3, (241, .inr (.inl (fun _ => 0))))), (35, .inl (D.2.1 3, (241, .inr (.inl (fun _ => 0))))), (34, .inl (D.2.1 3, (1928, .inr (.inl (fun _ => 0))))), (32, .inr (2, [.ref a1, .ref av, .ref a2, .ref q33, .ref q34, .ref q35, .ref q36, .ref q37, .ref q38, .int (-1), .int 0, .int 0, .int 0, .int 0])), (33, .inl (D.2.1 3, (1928, .inr (.inl (fun _ => 0)))))] F)) (F' := (k_ov [(38, .inl (D.2.1 0, (16, .inl (fun _ => 0)))), (37, .inl (D.2.1 3, (16, .inr (.inl (k_X2_init_32_13))))), (36, .inl (D.2.1 3, (241, .inr (.inl (fun _ => 0))))), (35, .inl (D.2.1 3, (241, .inr (.inl (fun _ => 0))))), (34, .inl (D.2.1 3, (1928, .inr (.inl (fun _ => 0))))), (32, .inr (2, [.ref a1, .ref av, .ref a2, .ref q33, .ref q34, .ref q35, .ref q36, .ref q37, .ref q38, .int (-1), .int 0, .int 0, .int 0, .int 0])), (33, .inl (D.2.1 3, (1928, .inr (.inl (fun _ => 0)))))] F)) 37 rfl (hA6 _ (List.mem_of_getElem? (i := 1) rfl)) rfl (fun j hj => by simp only [k_ov, if_neg hj]) (k_b_in (by decide)) dX2_init_117 ?_
  refine i_lload_n X 1 dX2_init_118 rfl rfl ?_
  refine i_ldc2 X (v := 10) q_464 dX2_init_119 ?_
  refine j_lmul X (v := 100000000000000) dX2_init_122 (by decide) ?_
  refine i_lstore_n X (lv := [(3, .long (100000000000000 : Int64)), (5, .int 2), (0, .ref a0), (1, .ref a1), (2, .ref a2)]) dX2_init_123 rfl (by decide) rfl ?_
  refine i_iinc X (q := 1) (v := 1) (lv := [(5, .int 1), (3, .long (100000000000000 : Int64)), (0, .ref a0), (1, .ref a1), (2, .ref a2)]) dX2_init_124 rfl (by decide) (by decide) rfl ?_
  refine i_goto X (t := 105) dX2_init_127 (by decide) ?_
  refine i_iload X 0 dX2_init_105 rfl ?_
  refine i_if_lt X (t := 130) dX2_init_107 (by decide) (fun c => absurd c (show ¬ (1 : Int32) < 0 by decide)) (fun _ => ?_)
  refine i_aload_n X 2 dX2_init_110 rfl rfl ?_
  refine i_get X (f := 7) (F := (k_ov [(38, .inl (D.2.1 0, (16, .inl (fun _ => 0)))), (37, .inl (D.2.1 3, (16, .inr (.inl (k_X2_init_32_13))))), (36, .inl (D.2.1 3, (241, .inr (.inl (fun _ => 0))))), (35, .inl (D.2.1 3, (241, .inr (.inl (fun _ => 0))))), (34, .inl (D.2.1 3, (1928, .inr (.inl (fun _ => 0))))), (32, .inr (2, [.ref a1, .ref av, .ref a2, .ref q33, .ref q34, .ref q35, .ref q36, .ref q37, .ref q38, .int (-1), .int 0, .int 0, .int 0, .int 0])), (33, .inl (D.2.1 3, (1928, .inr (.inl (fun _ => 0)))))] F)) kc2 32 rfl (by decide) rfl (hA6 _ (List.mem_of_getElem? (i := 6) rfl)) q_472 dX2_init_111 ?_
  refine i_iload X 0 dX2_init_114 rfl ?_
  refine i_lload_n X 1 dX2_init_116 rfl rfl ?_
  refine i_last X (F := (k_ov [(38, .inl (D.2.1 0, (16, .inl (fun _ => 0)))), (37, .inl (D.2.1 3, (16, .inr (.inl (k_X2_init_32_13))))), (36, .inl (D.2.1 3, (241, .inr (.inl (fun _ => 0))))), (35, .inl (D.2.1 3, (241, .inr (.inl (fun _ => 0))))), (34, .inl (D.2.1 3, (1928, .inr (.inl (fun _ => 0))))), (32, .inr (2, [.ref a1, .ref av, .ref a2, .ref q33, .ref q34, .ref q35, .ref q36, .ref q37, .ref q38, .int (-1), .int 0, .int 0, .int 0, .int 0])), (33, .inl (D.2.1 3, (1928, .inr (.inl (fun _ => 0)))))] F)) (F' := (k_ov [(38, .inl (D.2.1 0, (16, .inl (fun _ => 0)))), (37, .inl (D.2.1 3, (16, .inr (.inl (k_X2_init_32_14))))), (36, .inl (D.2.1 3, (241, .inr (.inl (fun _ => 0))))), (35, .inl (D.2.1 3, (241, .inr (.inl (fun _ => 0))))), (34, .inl (D.2.1 3, (1928, .inr (.inl (fun _ => 0))))), (32, .inr (2, [.ref a1, .ref av, .ref a2, .ref q33, .ref q34, .ref q35, .ref q36, .ref q37, .ref q38, .int (-1), .int 0, .int 0, .int 0, .int 0])), (33, .inl (D.2.1 3, (1928, .inr (.inl (fun _ => 0)))))] F)) 37 rfl (hA6 _ (List.mem_of_getElem? (i := 1) rfl)) rfl (fun j hj => by simp only [k_ov, if_neg hj]) (k_b_in (by decide)) dX2_init_117 ?_
  refine i_lload_n X 1 dX2_init_118 rfl rfl ?_
  refine i_ldc2 X (v := 10) q_464 dX2_init_119 ?_
  refine j_lmul X (v := 1000000000000000) dX2_init_122 (by decide) ?_
  refine i_lstore_n X (lv := [(3, .long (1000000000000000 : Int64)), (5, .int 1), (0, .ref a0), (1, .ref a1), (2, .ref a2)]) dX2_init_123 rfl (by decide) rfl ?_
  refine i_iinc X (q := 1) (v := 0) (lv := [(5, .int 0), (3, .long (1000000000000000 : Int64)), (0, .ref a0), (1, .ref a1), (2, .ref a2)]) dX2_init_124 rfl (by decide) (by decide) rfl ?_
  refine i_goto X (t := 105) dX2_init_127 (by decide) ?_
  refine i_iload X 0 dX2_init_105 rfl ?_
  refine i_if_lt X (t := 130) dX2_init_107 (by decide) (fun c => absurd c (show ¬ (0 : Int32) < 0 by decide)) (fun _ => ?_)
  refine i_aload_n X 2 dX2_init_110 rfl rfl ?_
  refine i_get X (f := 7) (F := (k_ov [(38, .inl (D.2.1 0, (16, .inl (fun _ => 0)))), (37, .inl (D.2.1 3, (16, .inr (.inl (k_X2_init_32_14))))), (36, .inl (D.2.1 3, (241, .inr (.inl (fun _ => 0))))), (35, .inl (D.2.1 3, (241, .inr (.inl (fun _ => 0))))), (34, .inl (D.2.1 3, (1928, .inr (.inl (fun _ => 0))))), (32, .inr (2, [.ref a1, .ref av, .ref a2, .ref q33, .ref q34, .ref q35, .ref q36, .ref q37, .ref q38, .int (-1), .int 0, .int 0, .int 0, .int 0])), (33, .inl (D.2.1 3, (1928, .inr (.inl (fun _ => 0)))))] F)) kc2 32 rfl (by decide) rfl (hA6 _ (List.mem_of_getElem? (i := 6) rfl)) q_472 dX2_init_111 ?_
  refine i_iload X 0 dX2_init_114 rfl ?_
  refine i_lload_n X 1 dX2_init_116 rfl rfl ?_
  refine i_last X (F := (k_ov [(38, .inl (D.2.1 0, (16, .inl (fun _ => 0)))), (37, .inl (D.2.1 3, (16, .inr (.inl (k_X2_init_32_14))))), (36, .inl (D.2.1 3, (241, .inr (.inl (fun _ => 0))))), (35, .inl (D.2.1 3, (241, .inr (.inl (fun _ => 0))))), (34, .inl (D.2.1 3, (1928, .inr (.inl (fun _ => 0))))), (32, .inr (2, [.ref a1, .ref av, .ref a2, .ref q33, .ref q34, .ref q35, .ref q36, .ref q37, .ref q38, .int (-1), .int 0, .int 0, .int 0, .int 0])), (33, .inl (D.2.1 3, (1928, .inr (.inl (fun _ => 0)))))] F)) (F' := (k_ov [(38, .inl (D.2.1 0, (16, .inl (fun _ => 0)))), (37, .inl (D.2.1 3, (16, .inr (.inl (k_X2_init_32_15))))), (36, .inl (D.2.1 3, (241, .inr (.inl (fun _ => 0))))), (35, .inl (D.2.1 3, (241, .inr (.inl (fun _ => 0))))), (34, .inl (D.2.1 3, (1928, .inr (.inl (fun _ => 0))))), (32, .inr (2, [.ref a1, .ref av, .ref a2, .ref q33, .ref q34, .ref q35, .ref q36, .ref q37, .ref q38, .int (-1), .int 0, .int 0, .int 0, .int 0])), (33, .inl (D.2.1 3, (1928, .inr (.inl (fun _ => 0)))))] F)) 37 rfl (hA6 _ (List.mem_of_getElem? (i := 1) rfl)) rfl (fun j hj => by simp only [k_ov, if_neg hj]) (k_b_in (by decide)) dX2_init_117 ?_
  refine i_lload_n X 1 dX2_init_118 rfl rfl ?_
  refine i_ldc2 X (v := 10) q_464 dX2_init_119 ?_
  refine j_lmul X (v := 10000000000000000) dX2_init_122 (by decide) ?_
  refine i_lstore_n X (lv := [(3, .long (10000000000000000 : Int64)), (5, .int 0), (0, .ref a0), (1, .ref a1), (2, .ref a2)]) dX2_init_123 rfl (by decide) rfl ?_
  refine i_iinc X (q := 1) (v := -1) (lv := [(5, .int (-1)), (3, .long (10000000000000000 : Int64)), (0, .ref a0), (1, .ref a1), (2, .ref a2)]) dX2_init_124 rfl (by decide) (by decide) rfl ?_
  refine i_goto X (t := 105) dX2_init_127 (by decide) ?_
  refine i_iload X 0 dX2_init_105 rfl ?_
  refine i_if_lt X (t := 130) dX2_init_107 (by decide) (fun _ => ?_) (fun c => absurd (show (-1 : Int32) < 0 by decide) c)
  have hE : ∀ p ∈ ([(33, q33), (34, q34), (35, q35), (36, q36), (37, q37), (38, q38)] : List (Nat × Nat)), (k_up (k_up (k_up (k_up (k_up (k_up ad 33 q33) 34 q34) 35 q35) 36 q36) 37 q37) 38 q38) p.1 = p.2 := fun p hp => hA6 p (k_pick [5, 4, 3, 2, 1, 0] rfl p hp)
  exact i_vret X rfl dX2_init_130 ⟨rfl, ho6, q33, q34, q35, q36, q37, q38, hE, rfl⟩
