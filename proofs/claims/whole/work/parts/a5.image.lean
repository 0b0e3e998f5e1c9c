/-! a new image; image, back -/
def k_nI (k : Nat) (S : St) : St := (fun j => if 55 + 8 * k ≤ j ∧ j < 63 + 8 * k then (if j = 59 + 8 * k then -1 else 0) else S.1 j, S.2.1, fun j => if 81 + 15 * k ≤ j ∧ j < 96 + 15 * k then (fun _ => 0) else S.2.2.1 j, S.2.2.2.1, fun v => if v = k + 1 then (fun _ => 0) else if v = 3 then k_up (S.2.2.2.2.1 3) k (k + 1) else S.2.2.2.2.1 v, S.2.2.2.2.2)
theorem i_aastV {y : MethodName} {cc : ByteArray} {nL : Nat} {ret : Option FieldType} {rm : Room} {D : k_D} {p : Program} {l : Launch} {e : Env} {s : State} {m : MethodId} {a : Array Value} {b : List Frame} {me : Method} {c : Code} {A : Nat → Prop} {Q : State → Prop} {mc ms : Nat} {F F' : Nat → Option va_E} {ad : Nat → Nat} {pc : Nat} {ls : List (Nat × Value)} {st : List Value} {n N v a1 : Nat} {f : Nat → Option Nat} {vs : List Value} {i : Int32} (X : k_X y cc nL ret D p s m me c A) (k0 k1 : Nat) (h0 : F k0 = some (.inr (10, vs))) (h1 : F k1 = some (.inl (D.2.1 5, n, .inr (.inr (.inr (.inr f)))))) (hn : ∀ k, N ≤ k → F k = none) (ha0 : ad k0 = v) (ha1 : ad k1 = a1) (g1 : F' k1 = some (.inl (D.2.1 5, n, .inr (.inr (.inr (.inr (va_up f i.toNatClampNeg (some v)))))))) (g2 : ∀ j, j ≠ k1 → F' j = F j) (hin : vp_in i n) (d : decode cc pc = .ok (.aastore, 1)) (k : In y cc nL ret rm D p l e s m a b me c A Q mc ms F' ad (pc + 1) ls st) : In y cc nL ret rm D p l e s m a b me c A Q mc ms F ad pc ls (.ref v :: .int i :: .ref a1 :: st) := by
  subst ha0
  subst ha1
  intro H lo cl sl Y la hl
  obtain ⟨ws, i0, i1, b1, b2, b3, b4, b5⟩ := k_Wd.via Y.1 h0 h1 hn g1 g2
  exact va_astq X.1 X.2.1 X.kn b1 b2 Y.2.1 i1 5 i0 10 b4 rfl b3 kc10.1 hin d (fun H1 locs1 c1 c2 c3 => k H1 locs1 cl sl ⟨b5 H1 c1, c3, Y.2.2.1, Y.2.2.2⟩ la hl)
theorem k_ov_n {k : Nat} {F : Nat → Option va_E} : ∀ {L : List (Nat × va_E)}, L.all (fun q => decide (81 ≤ q.1 ∧ q.1 < 111)) = true → (k < 81 ∨ 111 ≤ k) → k_ov L F k = F k := by
  intro L
  induction L with
  | nil => intro _ _; rfl
  | cons q L ih =>
    intro h hk
    rw [List.all_cons, Bool.and_eq_true, decide_eq_true_eq] at h
    show (if k = q.1 then some q.2 else k_ov L F k) = F k
    rw [if_neg (by omega)]
    exact ih h.2 hk
theorem k_law_a {dy dy' : Nat → Nat} (h : ∀ j, 30 ≤ j → dy' j = dy j) (r : Nat) : k_law dy r = k_law dy' r := by
  unfold k_law
  by_cases c : r = 0
  · rw [if_pos c, if_pos c]
  · rw [if_neg c, if_neg c, h _ (by omega)]
theorem k_cells_i0 {D : k_D} {dy dy' : Nat → Nat} {S : St} : k_cells D dy' (k_nI 0 S) = ((k_cells D dy S).set 8 (.inl (D.2.1 4, 6, .inr (.inr (.inr (.inr (fun i => k_law dy' (gR S 0 i)))))))).set 49 (.inl (D.2.1 5, 2, .inr (.inr (.inr (.inr (fun i => k_img dy' (gR (k_nI 0 S) 3 i))))))) := rfl
set_option maxRecDepth 100000 in
set_option maxHeartbeats 4000000 in
theorem k_newimg_0 {D : k_D} {dy dy' : Nat → Nat} {S : St} {A : Nat → Prop} {H : Heap} (h1 : gR S 3 1 = 0 ∨ gR S 3 1 = 2) (hE : gR S 3 0 = 0) (hd : ∀ j, (j < 0 ∨ 15 ≤ j) → dy' j = dy j) (h : k_Wd D.1 (k_up (k_ov [(95, .inl (D.2.1 0, (12, .inl (fun _ => 0)))), (94, .inl (D.2.1 0, (12, .inl (fun _ => 0)))), (93, .inl (D.2.1 0, (10, .inl (fun _ => 0)))), (92, .inl (D.2.1 0, (10, .inl (fun _ => 0)))), (91, .inl (D.2.1 0, (8, .inl (fun _ => 0)))), (90, .inl (D.2.1 0, (8, .inl (fun _ => 0)))), (89, .inl (D.2.1 4, 6, .inr (.inr (.inr (.inr (fun _ => none)))))), (88, .inl (D.2.1 0, (16, .inl (fun _ => 0)))), (87, .inl (D.2.1 0, (16, .inl (fun _ => 0)))), (86, .inl (D.2.1 0, (16, .inl (fun _ => 0)))), (85, .inl (D.2.1 0, (16, .inl (fun _ => 0)))), (83, .inr (1, [.ref (dy' 3), .ref (dy' 4), .ref (dy' 5), .ref (dy' 6), .ref (dy' 7), .int 0])), (84, .inl (D.2.1 0, (16, .inl (fun _ => 0)))), (83, .inr (1, [.null, .null, .null, .null, .null, .int 0])), (81, .inr (10, [.ref (dy' 1), .int 0, .ref (dy' 2), .int 0, .ref (dy' 8), .int 0, .int (-1), .ref (dy' 9), .ref (dy' 10), .int 0, .ref (dy' 11), .ref (dy' 12), .int 0, .ref (dy' 13), .ref (dy' 14), .int 0])), (82, .inl (D.2.1 0, (6, .inl (fun _ => 0))))] (k_up (k_cell D dy S) 81 (some (.inr (10, [.null, .int 0, .null, .int 0, .null, .int 0, .int 0, .null, .null, .int 0, .null, .null, .int 0, .null, .null, .int 0]))))) 49 (some (.inl (D.2.1 5, 2, .inr (.inr (.inr (.inr (va_up (fun i => k_img dy (gR S 3 i)) 0 (some (dy' 0)))))))))) (k_ad D dy') A H) : World D dy' (k_nI 0 S) A H := by
  have hd30 : ∀ j, 30 ≤ j → dy' j = dy j := fun j hj => hd j (by omega)
  have hS : ¬ gR (k_nI 0 S) 3 0 = 0 := by
    show ¬ (0 + 1 = 0)
    omega
  have f15 := hd 15 (by decide)
  have f16 := hd 16 (by decide)
  have f17 := hd 17 (by decide)
  have f18 := hd 18 (by decide)
  have f19 := hd 19 (by decide)
  have f20 := hd 20 (by decide)
  have f21 := hd 21 (by decide)
  have f22 := hd 22 (by decide)
  have f23 := hd 23 (by decide)
  have f24 := hd 24 (by decide)
  have f25 := hd 25 (by decide)
  have f26 := hd 26 (by decide)
  have f27 := hd 27 (by decide)
  have f28 := hd 28 (by decide)
  have f29 := hd 29 (by decide)
  have kN : k_N = 81 := rfl
  refine h.cong (fun j e2 hk => ?_)
  by_cases c1 : j < 81
  · unfold k_cell at hk
    rw [if_pos (by omega), k_cells_i0 (dy := dy)] at hk
    have hlen : (k_cells D dy S).length = 81 := rfl
    by_cases c2 : j = 49
    · subst c2
      rw [List.getElem?_set_self (by rw [List.length_set, hlen]; decide)] at hk
      cases hk
      refine ⟨_, rfl, rfl, fun a => k_refs (fun i hi => ?_) a⟩
      have : i = 0 ∨ i = 1 := by omega
      rcases this with rfl | rfl
      · rfl
      · show k_img dy (gR S 3 1) = k_img dy' (gR S 3 1)
        rcases h1 with z | z
        · rw [z]; rfl
        · rw [z]
          show some (dy 15) = some (dy' 15)
          rw [f15]
    · rw [List.getElem?_set_ne (Ne.symm c2)] at hk
      have hF : ∀ x, k_up (k_ov [(95, .inl (D.2.1 0, (12, .inl (fun _ => 0)))), (94, .inl (D.2.1 0, (12, .inl (fun _ => 0)))), (93, .inl (D.2.1 0, (10, .inl (fun _ => 0)))), (92, .inl (D.2.1 0, (10, .inl (fun _ => 0)))), (91, .inl (D.2.1 0, (8, .inl (fun _ => 0)))), (90, .inl (D.2.1 0, (8, .inl (fun _ => 0)))), (89, .inl (D.2.1 4, 6, .inr (.inr (.inr (.inr (fun _ => none)))))), (88, .inl (D.2.1 0, (16, .inl (fun _ => 0)))), (87, .inl (D.2.1 0, (16, .inl (fun _ => 0)))), (86, .inl (D.2.1 0, (16, .inl (fun _ => 0)))), (85, .inl (D.2.1 0, (16, .inl (fun _ => 0)))), (83, .inr (1, [.ref (dy' 3), .ref (dy' 4), .ref (dy' 5), .ref (dy' 6), .ref (dy' 7), .int 0])), (84, .inl (D.2.1 0, (16, .inl (fun _ => 0)))), (83, .inr (1, [.null, .null, .null, .null, .null, .int 0])), (81, .inr (10, [.ref (dy' 1), .int 0, .ref (dy' 2), .int 0, .ref (dy' 8), .int 0, .int (-1), .ref (dy' 9), .ref (dy' 10), .int 0, .ref (dy' 11), .ref (dy' 12), .int 0, .ref (dy' 13), .ref (dy' 14), .int 0])), (82, .inl (D.2.1 0, (6, .inl (fun _ => 0))))] (k_up (k_cell D dy S) 81 (some (.inr (10, [.null, .int 0, .null, .int 0, .null, .int 0, .int 0, .null, .null, .int 0, .null, .null, .int 0, .null, .null, .int 0]))))) 49 x j = k_cell D dy S j := fun x => by
        unfold k_up
        rw [if_neg c2, k_ov_n rfl (Or.inl c1), if_neg (by omega)]
      by_cases c3 : j = 8
      · subst c3
        rw [List.getElem?_set_self (by rw [hlen]; decide)] at hk
        cases hk
        refine ⟨_, (hF _).trans (ce_8 D dy S), rfl, fun a => k_refs (fun i _ => k_law_a hd30 (gR S 0 i)) a⟩
      · rw [List.getElem?_set_ne (Ne.symm c3)] at hk
        refine ⟨e2, (hF _).trans ?_, rfl, fun a x => x⟩
        unfold k_cell
        rw [if_pos (by omega)]
        exact hk
  · by_cases c2 : 81 ≤ j ∧ j < 96
    · have : j = 81 ∨ j = 82 ∨ j = 83 ∨ j = 84 ∨ j = 85 ∨ j = 86 ∨ j = 87 ∨ j = 88 ∨ j = 89 ∨ j = 90 ∨ j = 91 ∨ j = 92 ∨ j = 93 ∨ j = 94 ∨ j = 95 := by omega
      rcases this with rfl | rfl | rfl | rfl | rfl | rfl | rfl | rfl | rfl | rfl | rfl | rfl | rfl | rfl | rfl
      · rw [ce_81 D dy' (k_nI 0 S) hS] at hk
        cases hk
        exact ⟨_, rfl, rfl, fun a x => x⟩
      · rw [ce_82 D dy' (k_nI 0 S) hS] at hk
        cases hk
        exact ⟨_, rfl, rfl, fun a x => x⟩
      · rw [ce_83 D dy' (k_nI 0 S) hS] at hk
        cases hk
        exact ⟨_, rfl, rfl, fun a x => x⟩
      · rw [ce_84 D dy' (k_nI 0 S) hS] at hk
        cases hk
        exact ⟨_, rfl, rfl, fun a x => x⟩
      · rw [ce_85 D dy' (k_nI 0 S) hS] at hk
        cases hk
        exact ⟨_, rfl, rfl, fun a x => x⟩
      · rw [ce_86 D dy' (k_nI 0 S) hS] at hk
        cases hk
        exact ⟨_, rfl, rfl, fun a x => x⟩
      · rw [ce_87 D dy' (k_nI 0 S) hS] at hk
        cases hk
        exact ⟨_, rfl, rfl, fun a x => x⟩
      · rw [ce_88 D dy' (k_nI 0 S) hS] at hk
        cases hk
        exact ⟨_, rfl, rfl, fun a x => x⟩
      · rw [ce_89 D dy' (k_nI 0 S) hS] at hk
        cases hk
        exact ⟨_, rfl, rfl, fun a x => x⟩
      · rw [ce_90 D dy' (k_nI 0 S) hS] at hk
        cases hk
        exact ⟨_, rfl, rfl, fun a x => x⟩
      · rw [ce_91 D dy' (k_nI 0 S) hS] at hk
        cases hk
        exact ⟨_, rfl, rfl, fun a x => x⟩
      · rw [ce_92 D dy' (k_nI 0 S) hS] at hk
        cases hk
        exact ⟨_, rfl, rfl, fun a x => x⟩
      · rw [ce_93 D dy' (k_nI 0 S) hS] at hk
        cases hk
        exact ⟨_, rfl, rfl, fun a x => x⟩
      · rw [ce_94 D dy' (k_nI 0 S) hS] at hk
        cases hk
        exact ⟨_, rfl, rfl, fun a x => x⟩
      · rw [ce_95 D dy' (k_nI 0 S) hS] at hk
        cases hk
        exact ⟨_, rfl, rfl, fun a x => x⟩
    · by_cases c3 : j < 111
      · by_cases hO : gR S 3 1 = 0
        · exfalso
          have hO' : gR (k_nI 0 S) 3 1 = 0 := hO
          unfold k_cell k_dyn at hk
          rw [if_neg (by omega), if_pos (by omega), show (j - k_N) / 15 = 1 by omega, if_pos hO'] at hk
          cases hk
        · have hO' : ¬ gR (k_nI 0 S) 3 1 = 0 := hO
          have : j = 96 ∨ j = 97 ∨ j = 98 ∨ j = 99 ∨ j = 100 ∨ j = 101 ∨ j = 102 ∨ j = 103 ∨ j = 104 ∨ j = 105 ∨ j = 106 ∨ j = 107 ∨ j = 108 ∨ j = 109 ∨ j = 110 := by omega
          rcases this with rfl | rfl | rfl | rfl | rfl | rfl | rfl | rfl | rfl | rfl | rfl | rfl | rfl | rfl | rfl
          · rw [ce_96 D dy' (k_nI 0 S) hO'] at hk
            simp only [f15, f16, f17, f18, f19, f20, f21, f22, f23, f24, f25, f26, f27, f28, f29] at hk
            cases hk
            exact ⟨_, show k_cell D dy S 96 = _ from ce_96 D dy S hO, rfl, fun a x => x⟩
          · rw [ce_97 D dy' (k_nI 0 S) hO'] at hk
            cases hk
            exact ⟨_, show k_cell D dy S 97 = _ from ce_97 D dy S hO, rfl, fun a x => x⟩
          · rw [ce_98 D dy' (k_nI 0 S) hO'] at hk
            simp only [f15, f16, f17, f18, f19, f20, f21, f22, f23, f24, f25, f26, f27, f28, f29] at hk
            cases hk
            exact ⟨_, show k_cell D dy S 98 = _ from ce_98 D dy S hO, rfl, fun a x => x⟩
          · rw [ce_99 D dy' (k_nI 0 S) hO'] at hk
            cases hk
            exact ⟨_, show k_cell D dy S 99 = _ from ce_99 D dy S hO, rfl, fun a x => x⟩
          · rw [ce_100 D dy' (k_nI 0 S) hO'] at hk
            cases hk
            exact ⟨_, show k_cell D dy S 100 = _ from ce_100 D dy S hO, rfl, fun a x => x⟩
          · rw [ce_101 D dy' (k_nI 0 S) hO'] at hk
            cases hk
            exact ⟨_, show k_cell D dy S 101 = _ from ce_101 D dy S hO, rfl, fun a x => x⟩
          · rw [ce_102 D dy' (k_nI 0 S) hO'] at hk
            cases hk
            exact ⟨_, show k_cell D dy S 102 = _ from ce_102 D dy S hO, rfl, fun a x => x⟩
          · rw [ce_103 D dy' (k_nI 0 S) hO'] at hk
            cases hk
            exact ⟨_, show k_cell D dy S 103 = _ from ce_103 D dy S hO, rfl, fun a x => x⟩
          · rw [ce_104 D dy' (k_nI 0 S) hO'] at hk
            cases hk
            exact ⟨_, show k_cell D dy S 104 = _ from ce_104 D dy S hO, rfl, fun a => k_refs (fun i _ => k_law_a hd30 (gR S 2 i)) a⟩
          · rw [ce_105 D dy' (k_nI 0 S) hO'] at hk
            cases hk
            exact ⟨_, show k_cell D dy S 105 = _ from ce_105 D dy S hO, rfl, fun a x => x⟩
          · rw [ce_106 D dy' (k_nI 0 S) hO'] at hk
            cases hk
            exact ⟨_, show k_cell D dy S 106 = _ from ce_106 D dy S hO, rfl, fun a x => x⟩
          · rw [ce_107 D dy' (k_nI 0 S) hO'] at hk
            cases hk
            exact ⟨_, show k_cell D dy S 107 = _ from ce_107 D dy S hO, rfl, fun a x => x⟩
          · rw [ce_108 D dy' (k_nI 0 S) hO'] at hk
            cases hk
            exact ⟨_, show k_cell D dy S 108 = _ from ce_108 D dy S hO, rfl, fun a x => x⟩
          · rw [ce_109 D dy' (k_nI 0 S) hO'] at hk
            cases hk
            exact ⟨_, show k_cell D dy S 109 = _ from ce_109 D dy S hO, rfl, fun a x => x⟩
          · rw [ce_110 D dy' (k_nI 0 S) hO'] at hk
            cases hk
            exact ⟨_, show k_cell D dy S 110 = _ from ce_110 D dy S hO, rfl, fun a x => x⟩
      · refine ⟨e2, ?_, rfl, fun a x => x⟩
        unfold k_up
        rw [if_neg (by omega), k_ov_n rfl (Or.inr (by omega)), if_neg (by omega)]
        unfold k_cell k_dyn at hk ⊢
        rw [if_neg (by omega), if_neg (by omega)] at hk ⊢
        exact hk
set_option maxRecDepth 100000 in
set_option maxHeartbeats 4000000 in
theorem r_newimg_0 {rm : Room} {mc ms : Nat} {D : k_D} {dy : Nat → Nat} {S : St} {Post : k_Po} (hE : gR S 3 0 = 0) (h1 : gR S 3 1 = 0 ∨ gR S 3 1 = 2) (hmc : 15 ≤ mc) (hms : 174 ≤ ms) (hR : 2 + 1 ≤ rm.frames ∧ 8 + (1 + 11) + 120 ≤ rm.locals)
    (k : ∀ dy' : Nat → Nat, (∀ j, (j < 0 ∨ 15 ≤ j) → dy' j = dy j) → Rn yX11_image cX11_image 3 (some .int) rm (mc - 15) (ms - 174) D dy' (k_nI 0 S) Post 41 [(2, .ref (dy' 0)), (0, .ref (D.2.2 48)), (1, .int 0)] []) : Rn yX11_image cX11_image 3 (some .int) rm mc ms D dy S Post 26 [(0, .ref (D.2.2 48)), (1, .int 0)] [] := by
  intro p l e s m a b me c A X
  have kN : k_N = 81 := rfl
  have hfree : ∀ j, 81 ≤ j → j < 96 → k_cell D dy S j = none := fun j h1 h2 => by
    unfold k_cell k_dyn
    rw [if_neg (by omega), if_pos (by omega), show (j - k_N) / 15 = 0 by omega, if_pos hE]
  have hi : In yX11_image cX11_image 3 (some .int) rm D p l e s m a b me c A (MQ b (k_Q D Post A) a s rm.cells rm.slots A) mc ms (k_cell D dy S) (k_ad D dy) 26 [(0, .ref (D.2.2 48)), (1, .int 0)] [] := by
    refine i_new X kc10 (fs := [.null, .int 0, .null, .int 0, .null, .int 0, .int 0, .null, .null, .int 0, .null, .null, .int 0, .null, .null, .int 0]) 81 (hfree 81 (by decide) (by decide)) (fun j hj => by revert j hj; decide) q_170 q_171 q_142 (by omega) (by omega) dX11_image_26 (fun q => ?_)
    refine i_dup X dX11_image_29 rfl ?_
    refine i_callIN X [] [.ref q] (c_X10_init_81 (a0 := q) (show (if 81 = 81 then q else _) = q from if_pos rfl) (show (if 81 = 81 then _ else _) = _ from if_pos rfl) (fun j g1 g2 g3 => (if_neg g3).trans (hfree j (by omega) (by omega)))) q_172 q_173 q_174 q_142 rfl hd_X10_init hR (by show 14 ≤ mc - 1; omega) (by show 158 ≤ ms - 16; omega) rfl rfl (Nat.le_of_ble_eq_true rfl) dX11_image_30 ?_
    rintro v F1 ad1 ⟨rfl, hx, q82, q83, q84, q85, q86, q87, q88, q89, q90, q91, q92, q93, q94, q95, hy, rfl⟩
    have e82 : ad1 82 = q82 := hy _ (List.mem_of_getElem? (i := 0) rfl)
    subst e82
    have e83 : ad1 83 = q83 := hy _ (List.mem_of_getElem? (i := 1) rfl)
    subst e83
    have e84 : ad1 84 = q84 := hy _ (List.mem_of_getElem? (i := 2) rfl)
    subst e84
    have e85 : ad1 85 = q85 := hy _ (List.mem_of_getElem? (i := 3) rfl)
    subst e85
    have e86 : ad1 86 = q86 := hy _ (List.mem_of_getElem? (i := 4) rfl)
    subst e86
    have e87 : ad1 87 = q87 := hy _ (List.mem_of_getElem? (i := 5) rfl)
    subst e87
    have e88 : ad1 88 = q88 := hy _ (List.mem_of_getElem? (i := 6) rfl)
    subst e88
    have e89 : ad1 89 = q89 := hy _ (List.mem_of_getElem? (i := 7) rfl)
    subst e89
    have e90 : ad1 90 = q90 := hy _ (List.mem_of_getElem? (i := 8) rfl)
    subst e90
    have e91 : ad1 91 = q91 := hy _ (List.mem_of_getElem? (i := 9) rfl)
    subst e91
    have e92 : ad1 92 = q92 := hy _ (List.mem_of_getElem? (i := 10) rfl)
    subst e92
    have e93 : ad1 93 = q93 := hy _ (List.mem_of_getElem? (i := 11) rfl)
    subst e93
    have e94 : ad1 94 = q94 := hy _ (List.mem_of_getElem? (i := 12) rfl)
    subst e94
    have e95 : ad1 95 = q95 := hy _ (List.mem_of_getElem? (i := 13) rfl)
    subst e95
    have hq : ad1 81 = q := (hx 81 (Or.inl (by decide))).trans (if_pos rfl)
    subst hq
    have had : ∀ j, j ≠ 81 → (j < 82 ∨ 95 < j) → ad1 j = k_ad D dy j := fun j g1 g2 => (hx j g2).trans (if_neg g1)
    refine i_astore_n X dX11_image_33 rfl (by decide) rfl ?_
    refine i_aload_n X 1 dX11_image_34 rfl rfl ?_
    refine i_get (f := 1) X kc11 48 (by exact ce_48 D dy S) (by decide) rfl (by exact had 48 (by decide) (by decide)) q_591 dX11_image_35 ?_
    refine i_iload_n X 2 dX11_image_38 rfl rfl ?_
    refine i_aload_n X 0 dX11_image_39 rfl rfl ?_
    refine i_aastV (N := k_N + (30 + (gC S).length)) (F' := (k_up (k_ov [(95, .inl (D.2.1 0, (12, .inl (fun _ => 0)))), (94, .inl (D.2.1 0, (12, .inl (fun _ => 0)))), (93, .inl (D.2.1 0, (10, .inl (fun _ => 0)))), (92, .inl (D.2.1 0, (10, .inl (fun _ => 0)))), (91, .inl (D.2.1 0, (8, .inl (fun _ => 0)))), (90, .inl (D.2.1 0, (8, .inl (fun _ => 0)))), (89, .inl (D.2.1 4, 6, .inr (.inr (.inr (.inr (fun _ => none)))))), (88, .inl (D.2.1 0, (16, .inl (fun _ => 0)))), (87, .inl (D.2.1 0, (16, .inl (fun _ => 0)))), (86, .inl (D.2.1 0, (16, .inl (fun _ => 0)))), (85, .inl (D.2.1 0, (16, .inl (fun _ => 0)))), (83, .inr (1, [.ref (ad1 84), .ref (ad1 85), .ref (ad1 86), .ref (ad1 87), .ref (ad1 88), .int 0])), (84, .inl (D.2.1 0, (16, .inl (fun _ => 0)))), (83, .inr (1, [.null, .null, .null, .null, .null, .int 0])), (81, .inr (10, [.ref (ad1 82), .int 0, .ref (ad1 83), .int 0, .ref (ad1 89), .int 0, .int (-1), .ref (ad1 90), .ref (ad1 91), .int 0, .ref (ad1 92), .ref (ad1 93), .int 0, .ref (ad1 94), .ref (ad1 95), .int 0])), (82, .inl (D.2.1 0, (6, .inl (fun _ => 0))))] (k_up (k_cell D dy S) 81 (some (.inr (10, [.null, .int 0, .null, .int 0, .null, .int 0, .int 0, .null, .null, .int 0, .null, .null, .int 0, .null, .null, .int 0]))))) 49 (some (.inl (D.2.1 5, 2, .inr (.inr (.inr (.inr (va_up (fun i => k_img dy (gR S 3 i)) 0 (some (ad1 81))))))))))) X 81 49 rfl (by exact ce_49 D dy S) (fun j hj => (k_ov_n rfl (Or.inr (by omega))).trans ((if_neg (by omega)).trans (k_cell_none D dy S j hj))) rfl (by exact had 49 (by decide) (by decide)) (if_pos rfl) (fun j hj => if_neg hj) (by unfold vp_in; decide) dX11_image_40 ?_
    intro H lo cl sl Y la hl
    have hk : k_ad D (fun j => ad1 (81 + j)) = ad1 := funext fun j => by
      unfold k_ad
      by_cases c1 : j < k_N
      · rw [if_pos c1, had j (by omega) (by omega)]
        unfold k_ad
        rw [if_pos c1]
      · rw [if_neg c1]
        show ad1 (81 + (j - k_N)) = ad1 j
        rw [show 81 + (j - k_N) = j by omega]
    have hdd : ∀ j, (j < 0 ∨ 15 ≤ j) → ad1 (81 + j) = dy j := fun j hj => by
      rw [had (81 + j) (by omega) (by omega)]
      unfold k_ad
      rw [if_neg (by omega), show 81 + j - k_N = j by omega]
    exact k (fun j => ad1 (81 + j)) hdd p l e s m a b me c A X H lo cl sl ⟨k_newimg_0 h1 hE hdd (by rw [hk]; exact Y.1), Y.2.1, by have := Y.2.2.1; omega, by have := Y.2.2.2; omega⟩ la hl
  exact fun H lo cl sl Y la hl => hi H lo cl sl Y la hl
theorem k_cells_i1 {D : k_D} {dy dy' : Nat → Nat} {S : St} : k_cells D dy' (k_nI 1 S) = ((k_cells D dy S).set 8 (.inl (D.2.1 4, 6, .inr (.inr (.inr (.inr (fun i => k_law dy' (gR S 0 i)))))))).set 49 (.inl (D.2.1 5, 2, .inr (.inr (.inr (.inr (fun i => k_img dy' (gR (k_nI 1 S) 3 i))))))) := rfl
set_option maxRecDepth 100000 in
set_option maxHeartbeats 4000000 in
theorem k_newimg_1 {D : k_D} {dy dy' : Nat → Nat} {S : St} {A : Nat → Prop} {H : Heap} (h1 : gR S 3 0 = 0 ∨ gR S 3 0 = 1) (hE : gR S 3 1 = 0) (hd : ∀ j, (j < 15 ∨ 30 ≤ j) → dy' j = dy j) (h : k_Wd D.1 (k_up (k_ov [(110, .inl (D.2.1 0, (12, .inl (fun _ => 0)))), (109, .inl (D.2.1 0, (12, .inl (fun _ => 0)))), (108, .inl (D.2.1 0, (10, .inl (fun _ => 0)))), (107, .inl (D.2.1 0, (10, .inl (fun _ => 0)))), (106, .inl (D.2.1 0, (8, .inl (fun _ => 0)))), (105, .inl (D.2.1 0, (8, .inl (fun _ => 0)))), (104, .inl (D.2.1 4, 6, .inr (.inr (.inr (.inr (fun _ => none)))))), (103, .inl (D.2.1 0, (16, .inl (fun _ => 0)))), (102, .inl (D.2.1 0, (16, .inl (fun _ => 0)))), (101, .inl (D.2.1 0, (16, .inl (fun _ => 0)))), (100, .inl (D.2.1 0, (16, .inl (fun _ => 0)))), (98, .inr (1, [.ref (dy' 18), .ref (dy' 19), .ref (dy' 20), .ref (dy' 21), .ref (dy' 22), .int 0])), (99, .inl (D.2.1 0, (16, .inl (fun _ => 0)))), (98, .inr (1, [.null, .null, .null, .null, .null, .int 0])), (96, .inr (10, [.ref (dy' 16), .int 0, .ref (dy' 17), .int 0, .ref (dy' 23), .int 0, .int (-1), .ref (dy' 24), .ref (dy' 25), .int 0, .ref (dy' 26), .ref (dy' 27), .int 0, .ref (dy' 28), .ref (dy' 29), .int 0])), (97, .inl (D.2.1 0, (6, .inl (fun _ => 0))))] (k_up (k_cell D dy S) 96 (some (.inr (10, [.null, .int 0, .null, .int 0, .null, .int 0, .int 0, .null, .null, .int 0, .null, .null, .int 0, .null, .null, .int 0]))))) 49 (some (.inl (D.2.1 5, 2, .inr (.inr (.inr (.inr (va_up (fun i => k_img dy (gR S 3 i)) 1 (some (dy' 15)))))))))) (k_ad D dy') A H) : World D dy' (k_nI 1 S) A H := by
  have hd30 : ∀ j, 30 ≤ j → dy' j = dy j := fun j hj => hd j (by omega)
  have hS : ¬ gR (k_nI 1 S) 3 1 = 0 := by
    show ¬ (1 + 1 = 0)
    omega
  have f0 := hd 0 (by decide)
  have f1 := hd 1 (by decide)
  have f2 := hd 2 (by decide)
  have f3 := hd 3 (by decide)
  have f4 := hd 4 (by decide)
  have f5 := hd 5 (by decide)
  have f6 := hd 6 (by decide)
  have f7 := hd 7 (by decide)
  have f8 := hd 8 (by decide)
  have f9 := hd 9 (by decide)
  have f10 := hd 10 (by decide)
  have f11 := hd 11 (by decide)
  have f12 := hd 12 (by decide)
  have f13 := hd 13 (by decide)
  have f14 := hd 14 (by decide)
  have kN : k_N = 81 := rfl
  refine h.cong (fun j e2 hk => ?_)
  by_cases c1 : j < 81
  · unfold k_cell at hk
    rw [if_pos (by omega), k_cells_i1 (dy := dy)] at hk
    have hlen : (k_cells D dy S).length = 81 := rfl
    by_cases c2 : j = 49
    · subst c2
      rw [List.getElem?_set_self (by rw [List.length_set, hlen]; decide)] at hk
      cases hk
      refine ⟨_, rfl, rfl, fun a => k_refs (fun i hi => ?_) a⟩
      have : i = 1 ∨ i = 0 := by omega
      rcases this with rfl | rfl
      · rfl
      · show k_img dy (gR S 3 0) = k_img dy' (gR S 3 0)
        rcases h1 with z | z
        · rw [z]; rfl
        · rw [z]
          show some (dy 0) = some (dy' 0)
          rw [f0]
    · rw [List.getElem?_set_ne (Ne.symm c2)] at hk
      have hF : ∀ x, k_up (k_ov [(110, .inl (D.2.1 0, (12, .inl (fun _ => 0)))), (109, .inl (D.2.1 0, (12, .inl (fun _ => 0)))), (108, .inl (D.2.1 0, (10, .inl (fun _ => 0)))), (107, .inl (D.2.1 0, (10, .inl (fun _ => 0)))), (106, .inl (D.2.1 0, (8, .inl (fun _ => 0)))), (105, .inl (D.2.1 0, (8, .inl (fun _ => 0)))), (104, .inl (D.2.1 4, 6, .inr (.inr (.inr (.inr (fun _ => none)))))), (103, .inl (D.2.1 0, (16, .inl (fun _ => 0)))), (102, .inl (D.2.1 0, (16, .inl (fun _ => 0)))), (101, .inl (D.2.1 0, (16, .inl (fun _ => 0)))), (100, .inl (D.2.1 0, (16, .inl (fun _ => 0)))), (98, .inr (1, [.ref (dy' 18), .ref (dy' 19), .ref (dy' 20), .ref (dy' 21), .ref (dy' 22), .int 0])), (99, .inl (D.2.1 0, (16, .inl (fun _ => 0)))), (98, .inr (1, [.null, .null, .null, .null, .null, .int 0])), (96, .inr (10, [.ref (dy' 16), .int 0, .ref (dy' 17), .int 0, .ref (dy' 23), .int 0, .int (-1), .ref (dy' 24), .ref (dy' 25), .int 0, .ref (dy' 26), .ref (dy' 27), .int 0, .ref (dy' 28), .ref (dy' 29), .int 0])), (97, .inl (D.2.1 0, (6, .inl (fun _ => 0))))] (k_up (k_cell D dy S) 96 (some (.inr (10, [.null, .int 0, .null, .int 0, .null, .int 0, .int 0, .null, .null, .int 0, .null, .null, .int 0, .null, .null, .int 0]))))) 49 x j = k_cell D dy S j := fun x => by
        unfold k_up
        rw [if_neg c2, k_ov_n rfl (Or.inl c1), if_neg (by omega)]
      by_cases c3 : j = 8
      · subst c3
        rw [List.getElem?_set_self (by rw [hlen]; decide)] at hk
        cases hk
        refine ⟨_, (hF _).trans (ce_8 D dy S), rfl, fun a => k_refs (fun i _ => k_law_a hd30 (gR S 0 i)) a⟩
      · rw [List.getElem?_set_ne (Ne.symm c3)] at hk
        refine ⟨e2, (hF _).trans ?_, rfl, fun a x => x⟩
        unfold k_cell
        rw [if_pos (by omega)]
        exact hk
  · by_cases c2 : 96 ≤ j ∧ j < 111
    · have : j = 96 ∨ j = 97 ∨ j = 98 ∨ j = 99 ∨ j = 100 ∨ j = 101 ∨ j = 102 ∨ j = 103 ∨ j = 104 ∨ j = 105 ∨ j = 106 ∨ j = 107 ∨ j = 108 ∨ j = 109 ∨ j = 110 := by omega
      rcases this with rfl | rfl | rfl | rfl | rfl | rfl | rfl | rfl | rfl | rfl | rfl | rfl | rfl | rfl | rfl
      · rw [ce_96 D dy' (k_nI 1 S) hS] at hk
        cases hk
        exact ⟨_, rfl, rfl, fun a x => x⟩
      · rw [ce_97 D dy' (k_nI 1 S) hS] at hk
        cases hk
        exact ⟨_, rfl, rfl, fun a x => x⟩
      · rw [ce_98 D dy' (k_nI 1 S) hS] at hk
        cases hk
        exact ⟨_, rfl, rfl, fun a x => x⟩
      · rw [ce_99 D dy' (k_nI 1 S) hS] at hk
        cases hk
        exact ⟨_, rfl, rfl, fun a x => x⟩
      · rw [ce_100 D dy' (k_nI 1 S) hS] at hk
        cases hk
        exact ⟨_, rfl, rfl, fun a x => x⟩
      · rw [ce_101 D dy' (k_nI 1 S) hS] at hk
        cases hk
        exact ⟨_, rfl, rfl, fun a x => x⟩
      · rw [ce_102 D dy' (k_nI 1 S) hS] at hk
        cases hk
        exact ⟨_, rfl, rfl, fun a x => x⟩
      · rw [ce_103 D dy' (k_nI 1 S) hS] at hk
        cases hk
        exact ⟨_, rfl, rfl, fun a x => x⟩
      · rw [ce_104 D dy' (k_nI 1 S) hS] at hk
        cases hk
        exact ⟨_, rfl, rfl, fun a x => x⟩
      · rw [ce_105 D dy' (k_nI 1 S) hS] at hk
        cases hk
        exact ⟨_, rfl, rfl, fun a x => x⟩
      · rw [ce_106 D dy' (k_nI 1 S) hS] at hk
        cases hk
        exact ⟨_, rfl, rfl, fun a x => x⟩
      · rw [ce_107 D dy' (k_nI 1 S) hS] at hk
        cases hk
        exact ⟨_, rfl, rfl, fun a x => x⟩
      · rw [ce_108 D dy' (k_nI 1 S) hS] at hk
        cases hk
        exact ⟨_, rfl, rfl, fun a x => x⟩
      · rw [ce_109 D dy' (k_nI 1 S) hS] at hk
        cases hk
        exact ⟨_, rfl, rfl, fun a x => x⟩
      · rw [ce_110 D dy' (k_nI 1 S) hS] at hk
        cases hk
        exact ⟨_, rfl, rfl, fun a x => x⟩
    · by_cases c3 : j < 111
      · by_cases hO : gR S 3 0 = 0
        · exfalso
          have hO' : gR (k_nI 1 S) 3 0 = 0 := hO
          unfold k_cell k_dyn at hk
          rw [if_neg (by omega), if_pos (by omega), show (j - k_N) / 15 = 0 by omega, if_pos hO'] at hk
          cases hk
        · have hO' : ¬ gR (k_nI 1 S) 3 0 = 0 := hO
          have : j = 81 ∨ j = 82 ∨ j = 83 ∨ j = 84 ∨ j = 85 ∨ j = 86 ∨ j = 87 ∨ j = 88 ∨ j = 89 ∨ j = 90 ∨ j = 91 ∨ j = 92 ∨ j = 93 ∨ j = 94 ∨ j = 95 := by omega
          rcases this with rfl | rfl | rfl | rfl | rfl | rfl | rfl | rfl | rfl | rfl | rfl | rfl | rfl | rfl | rfl
          · rw [ce_81 D dy' (k_nI 1 S) hO'] at hk
            simp only [f0, f1, f2, f3, f4, f5, f6, f7, f8, f9, f10, f11, f12, f13, f14] at hk
            cases hk
            exact ⟨_, show k_cell D dy S 81 = _ from ce_81 D dy S hO, rfl, fun a x => x⟩
          · rw [ce_82 D dy' (k_nI 1 S) hO'] at hk
            cases hk
            exact ⟨_, show k_cell D dy S 82 = _ from ce_82 D dy S hO, rfl, fun a x => x⟩
          · rw [ce_83 D dy' (k_nI 1 S) hO'] at hk
            simp only [f0, f1, f2, f3, f4, f5, f6, f7, f8, f9, f10, f11, f12, f13, f14] at hk
            cases hk
            exact ⟨_, show k_cell D dy S 83 = _ from ce_83 D dy S hO, rfl, fun a x => x⟩
          · rw [ce_84 D dy' (k_nI 1 S) hO'] at hk
            cases hk
            exact ⟨_, show k_cell D dy S 84 = _ from ce_84 D dy S hO, rfl, fun a x => x⟩
          · rw [ce_85 D dy' (k_nI 1 S) hO'] at hk
            cases hk
            exact ⟨_, show k_cell D dy S 85 = _ from ce_85 D dy S hO, rfl, fun a x => x⟩
          · rw [ce_86 D dy' (k_nI 1 S) hO'] at hk
            cases hk
            exact ⟨_, show k_cell D dy S 86 = _ from ce_86 D dy S hO, rfl, fun a x => x⟩
          · rw [ce_87 D dy' (k_nI 1 S) hO'] at hk
            cases hk
            exact ⟨_, show k_cell D dy S 87 = _ from ce_87 D dy S hO, rfl, fun a x => x⟩
          · rw [ce_88 D dy' (k_nI 1 S) hO'] at hk
            cases hk
            exact ⟨_, show k_cell D dy S 88 = _ from ce_88 D dy S hO, rfl, fun a x => x⟩
          · rw [ce_89 D dy' (k_nI 1 S) hO'] at hk
            cases hk
            exact ⟨_, show k_cell D dy S 89 = _ from ce_89 D dy S hO, rfl, fun a => k_refs (fun i _ => k_law_a hd30 (gR S 1 i)) a⟩
          · rw [ce_90 D dy' (k_nI 1 S) hO'] at hk
            cases hk
            exact ⟨_, show k_cell D dy S 90 = _ from ce_90 D dy S hO, rfl, fun a x => x⟩
          · rw [ce_91 D dy' (k_nI 1 S) hO'] at hk
            cases hk
            exact ⟨_, show k_cell D dy S 91 = _ from ce_91 D dy S hO, rfl, fun a x => x⟩
          · rw [ce_92 D dy' (k_nI 1 S) hO'] at hk
            cases hk
            exact ⟨_, show k_cell D dy S 92 = _ from ce_92 D dy S hO, rfl, fun a x => x⟩
          · rw [ce_93 D dy' (k_nI 1 S) hO'] at hk
            cases hk
            exact ⟨_, show k_cell D dy S 93 = _ from ce_93 D dy S hO, rfl, fun a x => x⟩
          · rw [ce_94 D dy' (k_nI 1 S) hO'] at hk
            cases hk
            exact ⟨_, show k_cell D dy S 94 = _ from ce_94 D dy S hO, rfl, fun a x => x⟩
          · rw [ce_95 D dy' (k_nI 1 S) hO'] at hk
            cases hk
            exact ⟨_, show k_cell D dy S 95 = _ from ce_95 D dy S hO, rfl, fun a x => x⟩
      · refine ⟨e2, ?_, rfl, fun a x => x⟩
        unfold k_up
        rw [if_neg (by omega), k_ov_n rfl (Or.inr (by omega)), if_neg (by omega)]
        unfold k_cell k_dyn at hk ⊢
        rw [if_neg (by omega), if_neg (by omega)] at hk ⊢
        exact hk
set_option maxRecDepth 100000 in
set_option maxHeartbeats 4000000 in
theorem r_newimg_1 {rm : Room} {mc ms : Nat} {D : k_D} {dy : Nat → Nat} {S : St} {Post : k_Po} (hE : gR S 3 1 = 0) (h1 : gR S 3 0 = 0 ∨ gR S 3 0 = 1) (hmc : 15 ≤ mc) (hms : 174 ≤ ms) (hR : 2 + 1 ≤ rm.frames ∧ 8 + (1 + 11) + 120 ≤ rm.locals)
    (k : ∀ dy' : Nat → Nat, (∀ j, (j < 15 ∨ 30 ≤ j) → dy' j = dy j) → Rn yX11_image cX11_image 3 (some .int) rm (mc - 15) (ms - 174) D dy' (k_nI 1 S) Post 41 [(2, .ref (dy' 15)), (0, .ref (D.2.2 48)), (1, .int 1)] []) : Rn yX11_image cX11_image 3 (some .int) rm mc ms D dy S Post 26 [(0, .ref (D.2.2 48)), (1, .int 1)] [] := by
  intro p l e s m a b me c A X
  have kN : k_N = 81 := rfl
  have hfree : ∀ j, 96 ≤ j → j < 111 → k_cell D dy S j = none := fun j h1 h2 => by
    unfold k_cell k_dyn
    rw [if_neg (by omega), if_pos (by omega), show (j - k_N) / 15 = 1 by omega, if_pos hE]
  have hi : In yX11_image cX11_image 3 (some .int) rm D p l e s m a b me c A (MQ b (k_Q D Post A) a s rm.cells rm.slots A) mc ms (k_cell D dy S) (k_ad D dy) 26 [(0, .ref (D.2.2 48)), (1, .int 1)] [] := by
    refine i_new X kc10 (fs := [.null, .int 0, .null, .int 0, .null, .int 0, .int 0, .null, .null, .int 0, .null, .null, .int 0, .null, .null, .int 0]) 96 (hfree 96 (by decide) (by decide)) (fun j hj => by revert j hj; decide) q_170 q_171 q_142 (by omega) (by omega) dX11_image_26 (fun q => ?_)
    refine i_dup X dX11_image_29 rfl ?_
    refine i_callIN X [] [.ref q] (c_X10_init_96 (a0 := q) (show (if 96 = 96 then q else _) = q from if_pos rfl) (show (if 96 = 96 then _ else _) = _ from if_pos rfl) (fun j g1 g2 g3 => (if_neg g3).trans (hfree j (by omega) (by omega)))) q_172 q_173 q_174 q_142 rfl hd_X10_init hR (by show 14 ≤ mc - 1; omega) (by show 158 ≤ ms - 16; omega) rfl rfl (Nat.le_of_ble_eq_true rfl) dX11_image_30 ?_
    rintro v F1 ad1 ⟨rfl, hx, q97, q98, q99, q100, q101, q102, q103, q104, q105, q106, q107, q108, q109, q110, hy, rfl⟩
    have e97 : ad1 97 = q97 := hy _ (List.mem_of_getElem? (i := 0) rfl)
    subst e97
    have e98 : ad1 98 = q98 := hy _ (List.mem_of_getElem? (i := 1) rfl)
    subst e98
    have e99 : ad1 99 = q99 := hy _ (List.mem_of_getElem? (i := 2) rfl)
    subst e99
    have e100 : ad1 100 = q100 := hy _ (List.mem_of_getElem? (i := 3) rfl)
    subst e100
    have e101 : ad1 101 = q101 := hy _ (List.mem_of_getElem? (i := 4) rfl)
    subst e101
    have e102 : ad1 102 = q102 := hy _ (List.mem_of_getElem? (i := 5) rfl)
    subst e102
    have e103 : ad1 103 = q103 := hy _ (List.mem_of_getElem? (i := 6) rfl)
    subst e103
    have e104 : ad1 104 = q104 := hy _ (List.mem_of_getElem? (i := 7) rfl)
    subst e104
    have e105 : ad1 105 = q105 := hy _ (List.mem_of_getElem? (i := 8) rfl)
    subst e105
    have e106 : ad1 106 = q106 := hy _ (List.mem_of_getElem? (i := 9) rfl)
    subst e106
    have e107 : ad1 107 = q107 := hy _ (List.mem_of_getElem? (i := 10) rfl)
    subst e107
    have e108 : ad1 108 = q108 := hy _ (List.mem_of_getElem? (i := 11) rfl)
    subst e108
    have e109 : ad1 109 = q109 := hy _ (List.mem_of_getElem? (i := 12) rfl)
    subst e109
    have e110 : ad1 110 = q110 := hy _ (List.mem_of_getElem? (i := 13) rfl)
    subst e110
    have hq : ad1 96 = q := (hx 96 (Or.inl (by decide))).trans (if_pos rfl)
    subst hq
    have had : ∀ j, j ≠ 96 → (j < 97 ∨ 110 < j) → ad1 j = k_ad D dy j := fun j g1 g2 => (hx j g2).trans (if_neg g1)
    refine i_astore_n X dX11_image_33 rfl (by decide) rfl ?_
    refine i_aload_n X 1 dX11_image_34 rfl rfl ?_
    refine i_get (f := 1) X kc11 48 (by exact ce_48 D dy S) (by decide) rfl (by exact had 48 (by decide) (by decide)) q_591 dX11_image_35 ?_
    refine i_iload_n X 2 dX11_image_38 rfl rfl ?_
    refine i_aload_n X 0 dX11_image_39 rfl rfl ?_
    refine i_aastV (N := k_N + (30 + (gC S).length)) (F' := (k_up (k_ov [(110, .inl (D.2.1 0, (12, .inl (fun _ => 0)))), (109, .inl (D.2.1 0, (12, .inl (fun _ => 0)))), (108, .inl (D.2.1 0, (10, .inl (fun _ => 0)))), (107, .inl (D.2.1 0, (10, .inl (fun _ => 0)))), (106, .inl (D.2.1 0, (8, .inl (fun _ => 0)))), (105, .inl (D.2.1 0, (8, .inl (fun _ => 0)))), (104, .inl (D.2.1 4, 6, .inr (.inr (.inr (.inr (fun _ => none)))))), (103, .inl (D.2.1 0, (16, .inl (fun _ => 0)))), (102, .inl (D.2.1 0, (16, .inl (fun _ => 0)))), (101, .inl (D.2.1 0, (16, .inl (fun _ => 0)))), (100, .inl (D.2.1 0, (16, .inl (fun _ => 0)))), (98, .inr (1, [.ref (ad1 99), .ref (ad1 100), .ref (ad1 101), .ref (ad1 102), .ref (ad1 103), .int 0])), (99, .inl (D.2.1 0, (16, .inl (fun _ => 0)))), (98, .inr (1, [.null, .null, .null, .null, .null, .int 0])), (96, .inr (10, [.ref (ad1 97), .int 0, .ref (ad1 98), .int 0, .ref (ad1 104), .int 0, .int (-1), .ref (ad1 105), .ref (ad1 106), .int 0, .ref (ad1 107), .ref (ad1 108), .int 0, .ref (ad1 109), .ref (ad1 110), .int 0])), (97, .inl (D.2.1 0, (6, .inl (fun _ => 0))))] (k_up (k_cell D dy S) 96 (some (.inr (10, [.null, .int 0, .null, .int 0, .null, .int 0, .int 0, .null, .null, .int 0, .null, .null, .int 0, .null, .null, .int 0]))))) 49 (some (.inl (D.2.1 5, 2, .inr (.inr (.inr (.inr (va_up (fun i => k_img dy (gR S 3 i)) 1 (some (ad1 96))))))))))) X 96 49 rfl (by exact ce_49 D dy S) (fun j hj => (k_ov_n rfl (Or.inr (by omega))).trans ((if_neg (by omega)).trans (k_cell_none D dy S j hj))) rfl (by exact had 49 (by decide) (by decide)) (if_pos rfl) (fun j hj => if_neg hj) (by unfold vp_in; decide) dX11_image_40 ?_
    intro H lo cl sl Y la hl
    have hk : k_ad D (fun j => ad1 (81 + j)) = ad1 := funext fun j => by
      unfold k_ad
      by_cases c1 : j < k_N
      · rw [if_pos c1, had j (by omega) (by omega)]
        unfold k_ad
        rw [if_pos c1]
      · rw [if_neg c1]
        show ad1 (81 + (j - k_N)) = ad1 j
        rw [show 81 + (j - k_N) = j by omega]
    have hdd : ∀ j, (j < 15 ∨ 30 ≤ j) → ad1 (81 + j) = dy j := fun j hj => by
      rw [had (81 + j) (by omega) (by omega)]
      unfold k_ad
      rw [if_neg (by omega), show 81 + j - k_N = j by omega]
    exact k (fun j => ad1 (81 + j)) hdd p l e s m a b me c A X H lo cl sl ⟨k_newimg_1 h1 hE hdd (by rw [hk]; exact Y.1), Y.2.1, by have := Y.2.2.1; omega, by have := Y.2.2.2; omega⟩ la hl
  exact fun H lo cl sl Y la hl => hi H lo cl sl Y la hl
theorem n01 {x : Int32} (h0 : ¬ x < 0) (h2 : x < 2) (h : ¬ x = 0) : x = 1 := by
  have a : ¬ x.toInt < 0 := fun z => h0 (Int32.lt_iff_toInt_lt.mpr z)
  have b : x.toInt < 2 := Int32.lt_iff_toInt_lt.mp h2
  have c : x.toInt ≠ 0 := fun z => h (Int32.toInt_inj.mp z)
  exact Int32.toInt_inj.mp (show x.toInt = (1 : Int32).toInt by show x.toInt = 1; omega)
theorem r_aaldI {y : MethodName} {cc : ByteArray} {nL : Nat} {ret : Option FieldType} {rm : Room} {mc ms : Nat} {D : k_D} {dy : Nat → Nat} {S : St} {Post : k_Po} {pc : Nat} {ls : List (Nat × Value)} {st : List Value} {i : Int32} {v : Value} (hin : vp_in i 2) (hv : va_rf (k_img dy (gR S 3 i.toNatClampNeg)) = v) (d : decode cc pc = .ok (.aaload, 1)) (k : Rn y cc nL ret rm mc ms D dy S Post (pc + 1) ls (v :: st)) : Rn y cc nL ret rm mc ms D dy S Post pc ls (.int i :: .ref (D.2.2 49) :: st) := by
  subst hv
  exact r_aald (t0 := 5) 49 (ce_49 D dy S) rfl rfl rfl hin d k
noncomputable def f_X11_image_9 (S : St) : Option (Int32 × St) := (f_X11_refuse (-1 : Int32) S).bind fun q => some (q.1, q.2)
noncomputable def f_X11_image_41 (b : St → Option St) (k : Nat) (S : St) : Option (Int32 × St) := if ¬ gR S 3 k = 0 then (b S).bind fun q => (f_X11_done (0 : Int32) q).bind fun r => some (r.1, r.2) else none
noncomputable def f_X11_image (x1 : Int32) (S : St) : Option (Int32 × St) := if x1 < 0 then f_X11_image_9 S else if x1 < 2 then (if x1 = 0 then (if gR S 3 0 = 0 then (if gR S 3 1 = 0 ∨ gR S 3 1 = 2 then f_X11_image_41 f_X10_become_o81_a0 0 (k_nI 0 S) else none) else if gR S 3 0 = 1 then f_X11_image_41 f_X10_become_o81_a0 0 S else none) else (if gR S 3 1 = 0 then (if gR S 3 0 = 0 ∨ gR S 3 0 = 1 then f_X11_image_41 f_X10_become_o96_a0 1 (k_nI 1 S) else none) else if gR S 3 1 = 2 then f_X11_image_41 f_X10_become_o96_a0 1 S else none)) else f_X11_image_9 S
def k_rm15 (d : Nat) : Room := { frames := d, cells := 15, slots := 174, locals := 60 * d }
set_option maxRecDepth 100000 in
set_option maxHeartbeats 4000000 in
theorem w_X11_image_9 {mc ms : Nat} {D : k_D} {dy : Nat → Nat} (S : St) (out : Int32 × St) (h : f_X11_image_9 S = some out) : Rn yX11_image cX11_image 3 (some .int) (k_rm15 4) mc ms D dy S (k_Px out) 9 [(0, .ref (D.2.2 48))] [] := by
    unfold f_X11_image_9 at h
    refine r_aload_n 0 dX11_image_9 rfl rfl ?_
    refine r_iconst (v := -1) dX11_image_10 rfl ?_
    obtain ⟨q, hq, h⟩ := g_bind h
    refine r_callVi [.int (-1 : Int32)] [] q (ok_X11_refuse hq) q_640 q_642 q_0 q_643 q_141 hd_X11_refuse (ce_48 D dy _) kc11.1 rfl ⟨Nat.le_of_ble_eq_true rfl, Nat.le_of_ble_eq_true rfl⟩ rfl rfl (Nat.le_of_ble_eq_true rfl) dX11_image_11 ?_
    cases h
    exact r_iret rfl dX11_image_14 ⟨rfl, rfl⟩
set_option maxRecDepth 100000 in
set_option maxHeartbeats 4000000 in
theorem w_X11_image_41_0 {mc ms : Nat} {D : k_D} {dy : Nat → Nat} (S : St) (out : Int32 × St) (h : f_X11_image_41 f_X10_become_o81_a0 0 S = some out) : Rn yX11_image cX11_image 3 (some .int) (k_rm15 4) mc ms D dy S (k_Px out) 41 [(2, .ref (dy 0)), (0, .ref (D.2.2 48)), (1, .int 0)] [] := by
    unfold f_X11_image_41 at h
    obtain ⟨hE, h⟩ := g_ite h
    refine r_aload_n 0 dX11_image_41 rfl rfl ?_
    refine r_aload_n 1 dX11_image_42 rfl rfl ?_
    refine gf_48_0 q_590 dX11_image_43 ?_
    obtain ⟨q, hq, h⟩ := g_bind h
    refine r_callVNv [.ref (D.2.2 0)] [] q (ok_X10_become_o81_a0 hq) q_1265 q_1267 q_85 q_1268 q_142 hd_X10_become (ce_81 D dy _ hE) kc10.1 rfl ⟨Nat.le_of_ble_eq_true rfl, Nat.le_of_ble_eq_true rfl⟩ rfl rfl (Nat.le_of_ble_eq_true rfl) dX11_image_46 ?_
    refine r_aload_n 1 dX11_image_49 rfl rfl ?_
    refine r_iconst (v := 0) dX11_image_50 rfl ?_
    obtain ⟨r, hr, h⟩ := g_bind h
    refine r_callVi [.int (0 : Int32)] [] r (ok_X11_done hr) q_648 q_650 q_2 q_651 q_141 hd_X11_done (ce_48 D dy _) kc11.1 rfl ⟨Nat.le_of_ble_eq_true rfl, Nat.le_of_ble_eq_true rfl⟩ rfl rfl (Nat.le_of_ble_eq_true rfl) dX11_image_51 ?_
    cases h
    exact r_iret rfl dX11_image_54 ⟨rfl, rfl⟩
set_option maxRecDepth 100000 in
set_option maxHeartbeats 4000000 in
theorem w_X11_image_15_0 {D : k_D} {dy : Nat → Nat} (S : St) (out : Int32 × St) (h : (if gR S 3 0 = 0 then (if gR S 3 1 = 0 ∨ gR S 3 1 = 2 then f_X11_image_41 f_X10_become_o81_a0 0 (k_nI 0 S) else none) else if gR S 3 0 = 1 then f_X11_image_41 f_X10_become_o81_a0 0 S else none) = some out) : Rn yX11_image cX11_image 3 (some .int) (k_rm15 4) 15 174 D dy S (k_Px out) 15 [(0, .ref (D.2.2 48)), (1, .int 0)] [] := by
    refine r_aload_n 0 dX11_image_15 rfl rfl ?_
    refine gf_48_1 q_591 dX11_image_16 ?_
    refine r_iload_n 1 dX11_image_19 rfl rfl ?_
    by_cases c : gR S 3 0 = 0
    · rw [if_pos c] at h
      obtain ⟨c1, h⟩ := g_ite h
      refine r_aaldI (v := .null) (by unfold vp_in; decide) (by rw [show gR S 3 (0 : Int32).toNatClampNeg = 0 from c]; rfl) dX11_image_20 ?_
      refine r_astore_nN dX11_image_21 rfl (by decide) rfl ?_
      refine r_aload_nN 0 dX11_image_22 rfl rfl ?_
      refine r_ifnonnullN dX11_image_23 ?_
      refine r_sub [1, 2] rfl ?_
      exact r_newimg_0 c c1 (Nat.le_refl _) (Nat.le_refl _) ⟨Nat.le_of_ble_eq_true rfl, Nat.le_of_ble_eq_true rfl⟩ (fun dy' _ => w_X11_image_41_0 _ out h)
    · rw [if_neg c] at h
      obtain ⟨c1, h⟩ := g_ite h
      refine r_aaldI (v := .ref (dy 0)) (by unfold vp_in; decide) (by rw [show gR S 3 (0 : Int32).toNatClampNeg = 1 from c1]; rfl) dX11_image_20 ?_
      refine r_astore_n dX11_image_21 rfl (by decide) rfl ?_
      refine r_aload_n 0 dX11_image_22 rfl rfl ?_
      refine r_ifnonnull (t := 41) dX11_image_23 (by decide) ?_
      exact w_X11_image_41_0 _ out h
set_option maxRecDepth 100000 in
set_option maxHeartbeats 4000000 in
theorem w_X11_image_41_1 {mc ms : Nat} {D : k_D} {dy : Nat → Nat} (S : St) (out : Int32 × St) (h : f_X11_image_41 f_X10_become_o96_a0 1 S = some out) : Rn yX11_image cX11_image 3 (some .int) (k_rm15 4) mc ms D dy S (k_Px out) 41 [(2, .ref (dy 15)), (0, .ref (D.2.2 48)), (1, .int 1)] [] := by
    unfold f_X11_image_41 at h
    obtain ⟨hE, h⟩ := g_ite h
    refine r_aload_n 0 dX11_image_41 rfl rfl ?_
    refine r_aload_n 1 dX11_image_42 rfl rfl ?_
    refine gf_48_0 q_590 dX11_image_43 ?_
    obtain ⟨q, hq, h⟩ := g_bind h
    refine r_callVNv [.ref (D.2.2 0)] [] q (ok_X10_become_o96_a0 hq) q_1265 q_1267 q_85 q_1268 q_142 hd_X10_become (ce_96 D dy _ hE) kc10.1 rfl ⟨Nat.le_of_ble_eq_true rfl, Nat.le_of_ble_eq_true rfl⟩ rfl rfl (Nat.le_of_ble_eq_true rfl) dX11_image_46 ?_
    refine r_aload_n 1 dX11_image_49 rfl rfl ?_
    refine r_iconst (v := 0) dX11_image_50 rfl ?_
    obtain ⟨r, hr, h⟩ := g_bind h
    refine r_callVi [.int (0 : Int32)] [] r (ok_X11_done hr) q_648 q_650 q_2 q_651 q_141 hd_X11_done (ce_48 D dy _) kc11.1 rfl ⟨Nat.le_of_ble_eq_true rfl, Nat.le_of_ble_eq_true rfl⟩ rfl rfl (Nat.le_of_ble_eq_true rfl) dX11_image_51 ?_
    cases h
    exact r_iret rfl dX11_image_54 ⟨rfl, rfl⟩
set_option maxRecDepth 100000 in
set_option maxHeartbeats 4000000 in
theorem w_X11_image_15_1 {D : k_D} {dy : Nat → Nat} (S : St) (out : Int32 × St) (h : (if gR S 3 1 = 0 then (if gR S 3 0 = 0 ∨ gR S 3 0 = 1 then f_X11_image_41 f_X10_become_o96_a0 1 (k_nI 1 S) else none) else if gR S 3 1 = 2 then f_X11_image_41 f_X10_become_o96_a0 1 S else none) = some out) : Rn yX11_image cX11_image 3 (some .int) (k_rm15 4) 15 174 D dy S (k_Px out) 15 [(0, .ref (D.2.2 48)), (1, .int 1)] [] := by
    refine r_aload_n 0 dX11_image_15 rfl rfl ?_
    refine gf_48_1 q_591 dX11_image_16 ?_
    refine r_iload_n 1 dX11_image_19 rfl rfl ?_
    by_cases c : gR S 3 1 = 0
    · rw [if_pos c] at h
      obtain ⟨c1, h⟩ := g_ite h
      refine r_aaldI (v := .null) (by unfold vp_in; decide) (by rw [show gR S 3 (1 : Int32).toNatClampNeg = 0 from c]; rfl) dX11_image_20 ?_
      refine r_astore_nN dX11_image_21 rfl (by decide) rfl ?_
      refine r_aload_nN 0 dX11_image_22 rfl rfl ?_
      refine r_ifnonnullN dX11_image_23 ?_
      refine r_sub [1, 2] rfl ?_
      exact r_newimg_1 c c1 (Nat.le_refl _) (Nat.le_refl _) ⟨Nat.le_of_ble_eq_true rfl, Nat.le_of_ble_eq_true rfl⟩ (fun dy' _ => w_X11_image_41_1 _ out h)
    · rw [if_neg c] at h
      obtain ⟨c1, h⟩ := g_ite h
      refine r_aaldI (v := .ref (dy 15)) (by unfold vp_in; decide) (by rw [show gR S 3 (1 : Int32).toNatClampNeg = 2 from c1]; rfl) dX11_image_20 ?_
      refine r_astore_n dX11_image_21 rfl (by decide) rfl ?_
      refine r_aload_n 0 dX11_image_22 rfl rfl ?_
      refine r_ifnonnull (t := 41) dX11_image_23 (by decide) ?_
      exact w_X11_image_41_1 _ out h
set_option maxRecDepth 100000 in
set_option maxHeartbeats 4000000 in
theorem w_X11_image_0 {D : k_D} {dy : Nat → Nat} (x1 : Int32) (S : St) (out : Int32 × St) (h : f_X11_image x1 S = some out) : Rn yX11_image cX11_image 3 (some .int) (k_rm15 4) 15 174 D dy S (k_Px out) 0 [(0, .ref (D.2.2 48)), (1, .int x1)] [] := by
    unfold f_X11_image at h
    refine r_iload_n 1 dX11_image_0 rfl rfl ?_
    refine r_if_lt (t := 9) dX11_image_1 (by decide) (fun c => ?_) (fun c => ?_)
    · rw [if_pos c] at h
      refine r_sub [0] rfl ?_
      exact w_X11_image_9 _ _ h
    · rw [if_neg c] at h
      refine r_iload_n 1 dX11_image_4 rfl rfl ?_
      refine r_iconst (v := 2) dX11_image_5 rfl ?_
      refine r_icmp_lt (t := 15) dX11_image_6 (by decide) (fun c2 => ?_) (fun c2 => ?_)
      · rw [if_pos c2] at h
        by_cases c3 : x1 = 0
        · rw [if_pos c3] at h
          subst c3
          exact w_X11_image_15_0 _ _ h
        · rw [if_neg c3] at h
          have := n01 c c2 c3
          subst this
          exact w_X11_image_15_1 _ _ h
      · rw [if_neg c2] at h
        refine r_sub [0] rfl ?_
        exact w_X11_image_9 _ _ h
theorem ok_X11_image {D : k_D} {dy : Nat → Nat} {x1 : Int32} {S : St} {out : Int32 × St} (h : f_X11_image x1 S = some out) : Sp yX11_image cX11_image 3 (some .int) (k_rm15 4) D dy S [.ref (D.2.2 48), .int x1] (k_Px out) := Sp.of (by decide +kernel) (Nat.le_of_ble_eq_true rfl) (w_X11_image_0 _ S out h)
noncomputable def f_X11_back_9 (S : St) : Option (Int32 × St) := (f_X11_refuse (-1 : Int32) S).bind fun q => some (q.1, q.2)
noncomputable def f_X11_back_26 (S : St) : Option (Int32 × St) := (f_X11_refuse (-2 : Int32) S).bind fun q => some (q.1, q.2)
noncomputable def f_X11_back_33 (b : St → Option St) (S : St) : Option (Int32 × St) := (b S).bind fun q => (f_X11_done (0 : Int32) q).bind fun r => some (r.1, r.2)
noncomputable def f_X11_back (x1 : Int32) (S : St) : Option (Int32 × St) := if x1 < 0 then f_X11_back_9 S else if x1 < 2 then (if x1 = 0 then (if gR S 3 0 = 0 then f_X11_back_26 S else if gR S 3 0 = 1 then f_X11_back_33 f_X10_become_a81 S else none) else (if gR S 3 1 = 0 then f_X11_back_26 S else if gR S 3 1 = 2 then f_X11_back_33 f_X10_become_a96 S else none)) else f_X11_back_9 S
set_option maxRecDepth 100000 in
set_option maxHeartbeats 4000000 in
theorem w_X11_back_9 {D : k_D} {dy : Nat → Nat} (S : St) (out : Int32 × St) (h : f_X11_back_9 S = some out) : Rn yX11_back cX11_back 3 (some .int) (k_rm 4) 0 0 D dy S (k_Pi dy out) 9 [(0, .ref (D.2.2 48))] [] := by
    unfold f_X11_back_9 at h
    refine r_aload_n 0 dX11_back_9 rfl rfl ?_
    refine r_iconst (v := -1) dX11_back_10 rfl ?_
    obtain ⟨q, hq, h⟩ := g_bind h
    refine r_callVi [.int (-1 : Int32)] [] q (ok_X11_refuse hq) q_640 q_642 q_0 q_643 q_141 hd_X11_refuse (ce_48 D dy _) kc11.1 rfl ⟨Nat.le_of_ble_eq_true rfl, Nat.le_of_ble_eq_true rfl⟩ rfl rfl (Nat.le_of_ble_eq_true rfl) dX11_back_11 ?_
    cases h
    exact r_iret rfl dX11_back_14 ⟨rfl, rfl, rfl⟩
set_option maxRecDepth 100000 in
set_option maxHeartbeats 4000000 in
theorem w_X11_back_26 {D : k_D} {dy : Nat → Nat} (S : St) (out : Int32 × St) (h : f_X11_back_26 S = some out) : Rn yX11_back cX11_back 3 (some .int) (k_rm 4) 0 0 D dy S (k_Pi dy out) 26 [(0, .ref (D.2.2 48))] [] := by
    unfold f_X11_back_26 at h
    refine r_aload_n 0 dX11_back_26 rfl rfl ?_
    refine r_bipush (v := -2) dX11_back_27 rfl ?_
    obtain ⟨q, hq, h⟩ := g_bind h
    refine r_callVi [.int (-2 : Int32)] [] q (ok_X11_refuse hq) q_640 q_642 q_0 q_643 q_141 hd_X11_refuse (ce_48 D dy _) kc11.1 rfl ⟨Nat.le_of_ble_eq_true rfl, Nat.le_of_ble_eq_true rfl⟩ rfl rfl (Nat.le_of_ble_eq_true rfl) dX11_back_29 ?_
    cases h
    exact r_iret rfl dX11_back_32 ⟨rfl, rfl, rfl⟩
set_option maxRecDepth 100000 in
set_option maxHeartbeats 4000000 in
theorem w_X11_back_15_0 {D : k_D} {dy : Nat → Nat} (S : St) (out : Int32 × St) (h : (if gR S 3 0 = 0 then f_X11_back_26 S else if gR S 3 0 = 1 then f_X11_back_33 f_X10_become_a81 S else none) = some out) : Rn yX11_back cX11_back 3 (some .int) (k_rm 4) 0 0 D dy S (k_Pi dy out) 15 [(0, .ref (D.2.2 48)), (1, .int 0)] [] := by
    refine r_aload_n 0 dX11_back_15 rfl rfl ?_
    refine gf_48_1 q_591 dX11_back_16 ?_
    refine r_iload_n 1 dX11_back_19 rfl rfl ?_
    by_cases c : gR S 3 0 = 0
    · rw [if_pos c] at h
      refine r_aaldI (v := .null) (by unfold vp_in; decide) (by rw [show gR S 3 (0 : Int32).toNatClampNeg = 0 from c]; rfl) dX11_back_20 ?_
      refine r_astore_nN dX11_back_21 rfl (by decide) rfl ?_
      refine r_aload_nN 0 dX11_back_22 rfl rfl ?_
      refine r_ifnonnullN dX11_back_23 ?_
      refine r_sub [1] rfl ?_
      exact w_X11_back_26 _ _ h
    · rw [if_neg c] at h
      obtain ⟨c1, h⟩ := g_ite h
      refine r_aaldI (v := .ref (dy 0)) (by unfold vp_in; decide) (by rw [show gR S 3 (0 : Int32).toNatClampNeg = 1 from c1]; rfl) dX11_back_20 ?_
      refine r_astore_n dX11_back_21 rfl (by decide) rfl ?_
      refine r_aload_n 0 dX11_back_22 rfl rfl ?_
      refine r_ifnonnull (t := 33) dX11_back_23 (by decide) ?_
      unfold f_X11_back_33 at h
      refine r_aload_n 1 dX11_back_33 rfl rfl ?_
      refine gf_48_0 q_590 dX11_back_34 ?_
      refine r_aload_n 0 dX11_back_37 rfl rfl ?_
      obtain ⟨q, hq, h⟩ := g_bind h
      refine r_callVNv [.ref (dy 0)] [] q (ok_X10_become_a81 hq) q_1265 q_1267 q_85 q_1268 q_142 hd_X10_become (ce_0 D dy _) kc10.1 rfl ⟨Nat.le_of_ble_eq_true rfl, Nat.le_of_ble_eq_true rfl⟩ rfl rfl (Nat.le_of_ble_eq_true rfl) dX11_back_38 ?_
      refine r_aload_n 1 dX11_back_41 rfl rfl ?_
      refine r_iconst (v := 0) dX11_back_42 rfl ?_
      obtain ⟨r, hr, h⟩ := g_bind h
      refine r_callVi [.int (0 : Int32)] [] r (ok_X11_done hr) q_648 q_650 q_2 q_651 q_141 hd_X11_done (ce_48 D dy _) kc11.1 rfl ⟨Nat.le_of_ble_eq_true rfl, Nat.le_of_ble_eq_true rfl⟩ rfl rfl (Nat.le_of_ble_eq_true rfl) dX11_back_43 ?_
      cases h
      exact r_iret rfl dX11_back_46 ⟨rfl, rfl, rfl⟩
set_option maxRecDepth 100000 in
set_option maxHeartbeats 4000000 in
theorem w_X11_back_15_1 {D : k_D} {dy : Nat → Nat} (S : St) (out : Int32 × St) (h : (if gR S 3 1 = 0 then f_X11_back_26 S else if gR S 3 1 = 2 then f_X11_back_33 f_X10_become_a96 S else none) = some out) : Rn yX11_back cX11_back 3 (some .int) (k_rm 4) 0 0 D dy S (k_Pi dy out) 15 [(0, .ref (D.2.2 48)), (1, .int 1)] [] := by
    refine r_aload_n 0 dX11_back_15 rfl rfl ?_
    refine gf_48_1 q_591 dX11_back_16 ?_
    refine r_iload_n 1 dX11_back_19 rfl rfl ?_
    by_cases c : gR S 3 1 = 0
    · rw [if_pos c] at h
      refine r_aaldI (v := .null) (by unfold vp_in; decide) (by rw [show gR S 3 (1 : Int32).toNatClampNeg = 0 from c]; rfl) dX11_back_20 ?_
      refine r_astore_nN dX11_back_21 rfl (by decide) rfl ?_
      refine r_aload_nN 0 dX11_back_22 rfl rfl ?_
      refine r_ifnonnullN dX11_back_23 ?_
      refine r_sub [1] rfl ?_
      exact w_X11_back_26 _ _ h
    · rw [if_neg c] at h
      obtain ⟨c1, h⟩ := g_ite h
      refine r_aaldI (v := .ref (dy 15)) (by unfold vp_in; decide) (by rw [show gR S 3 (1 : Int32).toNatClampNeg = 2 from c1]; rfl) dX11_back_20 ?_
      refine r_astore_n dX11_back_21 rfl (by decide) rfl ?_
      refine r_aload_n 0 dX11_back_22 rfl rfl ?_
      refine r_ifnonnull (t := 33) dX11_back_23 (by decide) ?_
      unfold f_X11_back_33 at h
      refine r_aload_n 1 dX11_back_33 rfl rfl ?_
      refine gf_48_0 q_590 dX11_back_34 ?_
      refine r_aload_n 0 dX11_back_37 rfl rfl ?_
      obtain ⟨q, hq, h⟩ := g_bind h
      refine r_callVNv [.ref (dy 15)] [] q (ok_X10_become_a96 hq) q_1265 q_1267 q_85 q_1268 q_142 hd_X10_become (ce_0 D dy _) kc10.1 rfl ⟨Nat.le_of_ble_eq_true rfl, Nat.le_of_ble_eq_true rfl⟩ rfl rfl (Nat.le_of_ble_eq_true rfl) dX11_back_38 ?_
      refine r_aload_n 1 dX11_back_41 rfl rfl ?_
      refine r_iconst (v := 0) dX11_back_42 rfl ?_
      obtain ⟨r, hr, h⟩ := g_bind h
      refine r_callVi [.int (0 : Int32)] [] r (ok_X11_done hr) q_648 q_650 q_2 q_651 q_141 hd_X11_done (ce_48 D dy _) kc11.1 rfl ⟨Nat.le_of_ble_eq_true rfl, Nat.le_of_ble_eq_true rfl⟩ rfl rfl (Nat.le_of_ble_eq_true rfl) dX11_back_43 ?_
      cases h
      exact r_iret rfl dX11_back_46 ⟨rfl, rfl, rfl⟩
set_option maxRecDepth 100000 in
set_option maxHeartbeats 4000000 in
theorem w_X11_back_0 {D : k_D} {dy : Nat → Nat} (x1 : Int32) (S : St) (out : Int32 × St) (h : f_X11_back x1 S = some out) : Rn yX11_back cX11_back 3 (some .int) (k_rm 4) 0 0 D dy S (k_Pi dy out) 0 [(0, .ref (D.2.2 48)), (1, .int x1)] [] := by
    unfold f_X11_back at h
    refine r_iload_n 1 dX11_back_0 rfl rfl ?_
    refine r_if_lt (t := 9) dX11_back_1 (by decide) (fun c => ?_) (fun c => ?_)
    · rw [if_pos c] at h
      refine r_sub [0] rfl ?_
      exact w_X11_back_9 _ _ h
    · rw [if_neg c] at h
      refine r_iload_n 1 dX11_back_4 rfl rfl ?_
      refine r_iconst (v := 2) dX11_back_5 rfl ?_
      refine r_icmp_lt (t := 15) dX11_back_6 (by decide) (fun c2 => ?_) (fun c2 => ?_)
      · rw [if_pos c2] at h
        by_cases c3 : x1 = 0
        · rw [if_pos c3] at h
          subst c3
          exact w_X11_back_15_0 _ _ h
        · rw [if_neg c3] at h
          have := n01 c c2 c3
          subst this
          exact w_X11_back_15_1 _ _ h
      · rw [if_neg c2] at h
        refine r_sub [0] rfl ?_
        exact w_X11_back_9 _ _ h
theorem ok_X11_back {D : k_D} {dy : Nat → Nat} {x1 : Int32} {S : St} {out : Int32 × St} (h : f_X11_back x1 S = some out) : Sp yX11_back cX11_back 3 (some .int) (k_rm 4) D dy S [.ref (D.2.2 48), .int x1] (k_Pi dy out) := Sp.of (by decide +kernel) (Nat.le_of_ble_eq_true rfl) (w_X11_back_0 _ S out h)
