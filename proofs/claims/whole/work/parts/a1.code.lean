theorem k_Wd.cong {D : va_G} {F F2 : Nat → Option va_E} {ad ad2 : Nat → Nat} {A : Nat → Prop} {H : Heap} (h : k_Wd D F ad A H) (hF : ∀ (k : Nat) (e2 : va_E), F2 k = some e2 → ∃ e : va_E, F k = some e ∧ ad2 k = ad k ∧ ∀ a : Nat, va_at D vwCl (a, e) H → va_at D vwCl (a, e2) H) : k_Wd D F2 ad2 A H := by
  refine ⟨fun k e2 hk => ?_, fun j k e2 f2 hj hk he => ?_, fun k e2 hk => ?_⟩
  · obtain ⟨e, a1, a2, a3⟩ := hF k e2 hk
    rw [a2]
    exact a3 _ (h.1 k e a1)
  · obtain ⟨e, a1, a2, -⟩ := hF j e2 hj
    obtain ⟨f, b1, b2, -⟩ := hF k f2 hk
    rw [a2, b2] at he
    exact h.2.1 j k e f a1 b1 he
  · obtain ⟨e, a1, a2, -⟩ := hF k e2 hk
    rw [a2]
    exact h.2.2 k e a1
theorem k_refs {D : va_G} {cA : ClassId} {n : Nat} {f g : Nat → Option Nat} {H : Heap} (h : ∀ i, i < n → f i = g i) (a : Nat) (hf : va_at D vwCl (a, .inl (cA, n, .inr (.inr (.inr (.inr f))))) H) : va_at D vwCl (a, .inl (cA, n, .inr (.inr (.inr (.inr g))))) H := by
  have e : vp_cell cA (n, .inr (.inr (.inr (.inr g)))) = vp_cell cA (n, .inr (.inr (.inr (.inr f)))) := by
    rw [vp_cell_q, vp_cell_q]
    unfold arrV
    congr 1
    congr 1
    funext j
    exact congrArg va_rf (h j.val j.isLt).symm
  show H[a]? = some (vp_cell cA (n, .inr (.inr (.inr (.inr g)))))
  rw [e]
  exact hf
/-- law refs and image refs that are there -/
def k_iv (S : St) : Bool := (List.range 6).all (fun i => decide (gR S 0 i ≤ (gC S).length) && decide (gR S 1 i ≤ (gC S).length) && decide (gR S 2 i ≤ (gC S).length)) && (List.range 2).all (fun i => decide (gR S 3 i ≤ 2))
theorem k_iv_e {S : St} : k_iv S = true ↔ ((∀ i, i < 6 → gR S 0 i ≤ (gC S).length ∧ gR S 1 i ≤ (gC S).length ∧ gR S 2 i ≤ (gC S).length) ∧ ∀ i, i < 2 → gR S 3 i ≤ 2) := by
  unfold k_iv
  rw [Bool.and_eq_true, List.all_eq_true, List.all_eq_true]
  constructor
  · rintro ⟨a, b⟩
    refine ⟨fun i hi => ?_, fun i hi => of_decide_eq_true (b i (List.mem_range.mpr hi))⟩
    have := a i (List.mem_range.mpr hi)
    rw [Bool.and_eq_true, Bool.and_eq_true, decide_eq_true_eq, decide_eq_true_eq, decide_eq_true_eq] at this
    exact ⟨this.1.1, this.1.2, this.2⟩
  · rintro ⟨a, b⟩
    refine ⟨fun i hi => ?_, fun i hi => decide_eq_true (b i (List.mem_range.mp hi))⟩
    have := a i (List.mem_range.mp hi)
    rw [Bool.and_eq_true, Bool.and_eq_true, decide_eq_true_eq, decide_eq_true_eq, decide_eq_true_eq]
    exact ⟨⟨this.1, this.2.1⟩, this.2.2⟩
theorem k_law_n {dy dy' : Nat → Nat} {r j0 : Nat} (hr : r ≤ j0) (hd : ∀ j, j ≠ 30 + j0 → dy' j = dy j) : k_law dy r = k_law dy' r := by
  unfold k_law
  by_cases c : r = 0
  · rw [if_pos c, if_pos c]
  · rw [if_neg c, if_neg c, hd _ (by omega)]
theorem k_img_n {dy dy' : Nat → Nat} {r j0 : Nat} (hr : r ≤ 2) (hd : ∀ j, j ≠ 30 + j0 → dy' j = dy j) : k_img dy r = k_img dy' r := by
  unfold k_img
  by_cases c : r = 0
  · rw [if_pos c, if_pos c]
  · rw [if_neg c, if_neg c, hd _ (by omega)]
theorem k_imgs_n {D : k_D} {dy dy' : Nat → Nat} {S : St} (c : List (Nat × (Nat → Int32))) (hd : ∀ j, j < 30 → dy' j = dy j) : k_imgs D dy' (sC S c) = ((k_imgs D dy S).set 8 (.inl (D.2.1 4, 6, .inr (.inr (.inr (.inr (fun i => k_law dy' (gR S 1 i)))))))).set 23 (.inl (D.2.1 4, 6, .inr (.inr (.inr (.inr (fun i => k_law dy' (gR S 2 i))))))) := by
  have h0 := hd 0 (by decide)
  have h1 := hd 1 (by decide)
  have h2 := hd 2 (by decide)
  have h3 := hd 3 (by decide)
  have h4 := hd 4 (by decide)
  have h5 := hd 5 (by decide)
  have h6 := hd 6 (by decide)
  have h7 := hd 7 (by decide)
  have h8 := hd 8 (by decide)
  have h9 := hd 9 (by decide)
  have h10 := hd 10 (by decide)
  have h11 := hd 11 (by decide)
  have h12 := hd 12 (by decide)
  have h13 := hd 13 (by decide)
  have h14 := hd 14 (by decide)
  have h15 := hd 15 (by decide)
  have h16 := hd 16 (by decide)
  have h17 := hd 17 (by decide)
  have h18 := hd 18 (by decide)
  have h19 := hd 19 (by decide)
  have h20 := hd 20 (by decide)
  have h21 := hd 21 (by decide)
  have h22 := hd 22 (by decide)
  have h23 := hd 23 (by decide)
  have h24 := hd 24 (by decide)
  have h25 := hd 25 (by decide)
  have h26 := hd 26 (by decide)
  have h27 := hd 27 (by decide)
  have h28 := hd 28 (by decide)
  have h29 := hd 29 (by decide)
  simp only [k_imgs, h0, h1, h2, h3, h4, h5, h6, h7, h8, h9, h10, h11, h12, h13, h14, h15, h16, h17, h18, h19, h20, h21, h22, h23, h24, h25, h26, h27, h28, h29]
  rfl
theorem k_cells_n {D : k_D} {dy dy' : Nat → Nat} {S : St} (c : List (Nat × (Nat → Int32))) : k_cells D dy' (sC S c) = ((k_cells D dy S).set 8 (.inl (D.2.1 4, 6, .inr (.inr (.inr (.inr (fun i => k_law dy' (gR S 0 i)))))))).set 49 (.inl (D.2.1 5, 2, .inr (.inr (.inr (.inr (fun i => k_img dy' (gR S 3 i))))))) := rfl
theorem k_newcode {D : k_D} {dy dy' : Nat → Nat} {S : St} {A : Nat → Prop} {H : Heap} {n q : Nat} {f : Nat → Int32} (hiv : k_iv S = true) (hd : ∀ j, j ≠ 30 + (gC S).length → dy' j = dy j) (hq : dy' (30 + (gC S).length) = q)
    (h : k_Wd D.1 (k_up (k_cell D dy S) (k_N + (30 + (gC S).length)) (some (.inl (D.2.1 0, n, .inl f)))) (k_up (k_ad D dy) (k_N + (30 + (gC S).length)) q) A H) : World D dy' (sC S (gC S ++ [(n, f)])) A H := by
  obtain ⟨v1, v2⟩ := k_iv_e.mp hiv
  have hlt : ∀ j, j < 30 → dy' j = dy j := fun j hj => hd j (by omega)
  refine h.cong (fun k e2 hk => ?_)
  have hup : ∀ {α : Type} (g : Nat → α) (x : α), k ≠ k_N + (30 + (gC S).length) → k_up g (k_N + (30 + (gC S).length)) x k = g k := fun g x hne => by unfold k_up; rw [if_neg hne]
  by_cases c1 : k < k_N
  · have hne : k ≠ k_N + (30 + (gC S).length) := by omega
    rw [hup _ _ hne, hup _ _ hne]
    unfold k_cell at hk ⊢
    rw [if_pos c1] at hk ⊢
    rw [k_cells_n (dy := dy)] at hk
    have ha : k_ad D dy' k = k_ad D dy k := by unfold k_ad; rw [if_pos c1, if_pos c1]
    have hlen : (k_cells D dy S).length = 81 := rfl
    by_cases c2 : k = 49
    · subst c2
      rw [List.getElem?_set_self (by rw [List.length_set, hlen]; decide)] at hk
      cases hk
      exact ⟨_, rfl, ha, fun a => k_refs (fun i hi => k_img_n (v2 i hi) hd) a⟩
    · rw [List.getElem?_set_ne (Ne.symm c2)] at hk
      by_cases c3 : k = 8
      · subst c3
        rw [List.getElem?_set_self (by rw [hlen]; decide)] at hk
        cases hk
        exact ⟨_, rfl, ha, fun a => k_refs (fun i hi => k_law_n (v1 i hi).1 hd) a⟩
      · rw [List.getElem?_set_ne (Ne.symm c3)] at hk
        exact ⟨e2, hk, ha, fun a x => x⟩
  · unfold k_cell k_dyn at hk
    rw [if_neg c1] at hk
    by_cases c2 : k - k_N < 30
    · have hne : k ≠ k_N + (30 + (gC S).length) := by omega
      rw [hup _ _ hne, hup _ _ hne]
      rw [if_pos c2] at hk
      have ha : k_ad D dy' k = k_ad D dy k := by unfold k_ad; rw [if_neg c1, if_neg c1, hlt _ c2]
      unfold k_cell k_dyn
      rw [if_neg c1, if_pos c2]
      by_cases c3 : gR S 3 ((k - k_N) / 15) = 0
      · have : gR (sC S (gC S ++ [(n, f)])) 3 ((k - k_N) / 15) = 0 := c3
        rw [if_pos this] at hk
        cases hk
      · have : ¬ gR (sC S (gC S ++ [(n, f)])) 3 ((k - k_N) / 15) = 0 := c3
        rw [if_neg this, k_imgs_n (dy := dy) _ hlt] at hk
        rw [if_neg c3]
        have hlen : (k_imgs D dy S).length = 30 := rfl
        by_cases c4 : k - k_N = 23
        · rw [c4] at hk ⊢
          rw [List.getElem?_set_self (by rw [List.length_set, hlen]; decide)] at hk
          cases hk
          exact ⟨_, rfl, ha, fun a => k_refs (fun i hi => k_law_n (v1 i hi).2.2 hd) a⟩
        · rw [List.getElem?_set_ne (Ne.symm c4)] at hk
          by_cases c5 : k - k_N = 8
          · rw [c5] at hk ⊢
            rw [List.getElem?_set_self (by rw [hlen]; decide)] at hk
            cases hk
            exact ⟨_, rfl, ha, fun a => k_refs (fun i hi => k_law_n (v1 i hi).2.1 hd) a⟩
          · rw [List.getElem?_set_ne (Ne.symm c5)] at hk
            exact ⟨e2, hk, ha, fun a x => x⟩
    · rw [if_neg c2] at hk
      have hk : ((gC S ++ [(n, f)])[k - k_N - 30]?).map (fun a => (Sum.inl (D.2.1 0, a.1, .inl a.2) : va_E)) = some e2 := hk
      by_cases c3 : k - k_N - 30 < (gC S).length
      · have hne : k ≠ k_N + (30 + (gC S).length) := by omega
        rw [hup _ _ hne, hup _ _ hne]
        rw [List.getElem?_append_left c3] at hk
        have ha : k_ad D dy' k = k_ad D dy k := by unfold k_ad; rw [if_neg c1, if_neg c1, hd _ (by omega)]
        refine ⟨e2, ?_, ha, fun a x => x⟩
        unfold k_cell k_dyn
        rw [if_neg c1, if_neg c2]
        exact hk
      · by_cases c4 : k = k_N + (30 + (gC S).length)
        · have e0 : k - k_N - 30 = (gC S).length := by omega
          rw [e0, List.getElem?_append_right (Nat.le_refl _), Nat.sub_self] at hk
          cases hk
          refine ⟨_, by unfold k_up; rw [if_pos c4], ?_, fun a x => x⟩
          unfold k_up
          rw [if_pos c4]
          unfold k_ad
          rw [if_neg c1, c4, Nat.add_sub_cancel_left, hq]
        · rw [List.getElem?_eq_none (by rw [List.length_append]; show (gC S).length + 1 ≤ _; omega)] at hk
          cases hk
/-- an answer that may be a new code -/
def k_Pa (dy : Nat → Nat) (q : Nat × St) : k_Po := fun v d1 S1 => v = some (va_rf (k_law d1 q.1)) ∧ S1 = q.2 ∧ ∀ j, (q.1 = 0 ∨ j ≠ 30 + (q.1 - 1)) → d1 j = dy j
def k_rm1 (d : Nat) : Room := { frames := d, cells := 1, slots := 800, locals := 60 * d }
section R5
variable {y : MethodName} {cc : ByteArray} {nL : Nat} {ret : Option FieldType} {rm : Room} {mc ms : Nat} {D : k_D} {dy : Nat → Nat} {S : St} {Post : k_Po} {pc : Nat} {ls : List (Nat × Value)} {st : List Value}
theorem r_newcode {n : Int32} {N : Nat} (hiv : k_iv S = true) (hn : ¬ n < 0) (hN : n.toNatClampNeg = N) (h8 : N ≤ 800) (w : k_in (.arrayClass .int)) (hmc : 1 ≤ mc) (hms : 800 ≤ ms) (d : decode cc pc = .ok (.newarray .int, 2))
    (k : ∀ d1 : Nat → Nat, (∀ j, j ≠ 30 + (gC S).length → d1 j = dy j) → Rn y cc nL ret rm (mc - 1) (ms - 800) D d1 (sC S (gC S ++ [(N, fun _ => 0)])) Post (pc + 2) ls (.ref (d1 (30 + (gC S).length)) :: st)) : Rn y cc nL ret rm mc ms D dy S Post pc ls (.int n :: st) := by
  intro p l e0 s m a b me c A X
  have h0 : k_cell D dy S (k_N + (30 + (gC S).length)) = none := k_cell_none D dy S _ (Nat.le_refl _)
  have hi : In y cc nL ret rm D p l e0 s m a b me c A (MQ b (k_Q D Post A) a s rm.cells rm.slots A) mc ms (k_cell D dy S) (k_ad D dy) pc ls (.int n :: st) := by
    refine i_newa X 0 (at_ := .int) (a0 := (N, .inl (fun _ => 0))) rfl rfl (fun h => h) (k_N + (30 + (gC S).length)) h0 (fun _ => rfl) w hn hN (by show N * 4 ≤ 536870912; omega) hmc (by omega) d (fun q => ?_)
    intro H lo cl sl Y la hl
    have e : k_up dy (30 + (gC S).length) q (30 + (gC S).length) = q := by unfold k_up; rw [if_pos rfl]
    have hd : ∀ j, j ≠ 30 + (gC S).length → k_up dy (30 + (gC S).length) q j = dy j := fun j hj => by unfold k_up; rw [if_neg hj]
    have hW := k_newcode (dy' := k_up dy (30 + (gC S).length) q) hiv hd e Y.1
    have z := k (k_up dy (30 + (gC S).length) q) hd p l e0 s m a b me c A X H lo cl sl ⟨hW, Y.2.1, Y.2.2.1, by have := Y.2.2.2; omega⟩ la hl
    rw [e] at z
    exact z
  exact fun H lo cl sl Y la hl => hi H lo cl sl Y la hl
end R5
