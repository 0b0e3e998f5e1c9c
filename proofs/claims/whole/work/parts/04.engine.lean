abbrev St : Type := (Nat → Int32) × (Nat → Int64) × (Nat → Nat → Int32) × (Nat → Nat → Int64) × (Nat → Nat → Nat) × List (Nat × (Nat → Int32))
def gI (S : St) (k : Nat) : Int32 := S.1 k
def gJ (S : St) (k : Nat) : Int64 := S.2.1 k
def gA (S : St) (k : Nat) : Nat → Int32 := S.2.2.1 k
def gL (S : St) (k : Nat) : Nat → Int64 := S.2.2.2.1 k
def gR (S : St) (k : Nat) : Nat → Nat := S.2.2.2.2.1 k
def gC (S : St) : List (Nat × (Nat → Int32)) := S.2.2.2.2.2
def k_up {α : Type} (f : Nat → α) (k : Nat) (v : α) : Nat → α := fun j => if j = k then v else f j
def sI (S : St) (k : Nat) (v : Int32) : St := (k_up S.1 k v, S.2)
def sJ (S : St) (k : Nat) (v : Int64) : St := (S.1, k_up S.2.1 k v, S.2.2)
def sA (S : St) (k i : Nat) (v : Int32) : St := (S.1, S.2.1, k_up S.2.2.1 k (upd (S.2.2.1 k) i v), S.2.2.2)
def sL (S : St) (k i : Nat) (v : Int64) : St := (S.1, S.2.1, S.2.2.1, k_up S.2.2.2.1 k (vp_updL (S.2.2.2.1 k) i v), S.2.2.2.2)
def sR (S : St) (k i v : Nat) : St := (S.1, S.2.1, S.2.2.1, S.2.2.2.1, k_up S.2.2.2.2.1 k (k_up (S.2.2.2.2.1 k) i v), S.2.2.2.2.2)
def sC (S : St) (c : List (Nat × (Nat → Int32))) : St := (S.1, S.2.1, S.2.2.1, S.2.2.2.1, S.2.2.2.2.1, c)
def k_N : Nat := 81
def k_law (dy : Nat → Nat) (r : Nat) : Option Nat := if r = 0 then none else some (dy (30 + (r - 1)))
def k_img (dy : Nat → Nat) (r : Nat) : Option Nat := if r = 0 then none else some (dy (15 * (r - 1)))
def k_cells (D : (va_G × (Nat → ClassId) × (Nat → Nat))) (dy : Nat → Nat) (S : St) : List va_E := [.inr (10, [.ref (D.2.2 1), .int (gI S 0), .ref (D.2.2 2), .int (gI S 2), .ref (D.2.2 8), .int (gI S 3), .int (gI S 4), .ref (D.2.2 9), .ref (D.2.2 10), .int (gI S 5), .ref (D.2.2 11), .ref (D.2.2 12), .int (gI S 6), .ref (D.2.2 13), .ref (D.2.2 14), .int (gI S 7)]),
  .inl (D.2.1 0, 6, .inl (gA S 1)),
  .inr (1, [.ref (D.2.2 3), .ref (D.2.2 4), .ref (D.2.2 5), .ref (D.2.2 6), .ref (D.2.2 7), .int (gI S 1)]),
  .inl (D.2.1 0, 16, .inl (gA S 3)),
  .inl (D.2.1 0, 16, .inl (gA S 4)),
  .inl (D.2.1 0, 16, .inl (gA S 5)),
  .inl (D.2.1 0, 16, .inl (gA S 6)),
  .inl (D.2.1 0, 16, .inl (gA S 7)),
  .inl (D.2.1 4, 6, .inr (.inr (.inr (.inr (fun i => k_law dy (gR S 0 i)))))),
  .inl (D.2.1 0, 8, .inl (gA S 9)),
  .inl (D.2.1 0, 8, .inl (gA S 10)),
  .inl (D.2.1 0, 10, .inl (gA S 11)),
  .inl (D.2.1 0, 10, .inl (gA S 12)),
  .inl (D.2.1 0, 12, .inl (gA S 13)),
  .inl (D.2.1 0, 12, .inl (gA S 14)),
  .inr (9, [.ref (D.2.2 16), .int (gI S 8)]),
  .inl (D.2.1 1, 400, .inl (gA S 16)),
  .inr (3, [.ref (D.2.2 0), .ref (D.2.2 2), .ref (D.2.2 18), .ref (D.2.2 19), .ref (D.2.2 20), .ref (D.2.2 21), .ref (D.2.2 22), .int (gI S 9)]),
  .inl (D.2.1 0, 16, .inl (gA S 18)),
  .inl (D.2.1 2, 16, .inl (gA S 19)),
  .inl (D.2.1 2, 16, .inl (gA S 20)),
  .inl (D.2.1 0, 8, .inl (gA S 21)),
  .inl (D.2.1 0, 64, .inl (gA S 22)),
  .inr (7, [.ref (D.2.2 15), .ref (D.2.2 24), .int (gI S 10), .int (gI S 11), .int (gI S 12), .int (gI S 13), .int (gI S 14), .int (gI S 15), .int (gI S 16)]),
  .inl (D.2.1 0, 800, .inl (gA S 24)),
  .inr (4, [.ref (D.2.2 2), .ref (D.2.2 17), .ref (D.2.2 26), .ref (D.2.2 27), .ref (D.2.2 28), .int (gI S 17)]),
  .inl (D.2.1 0, 8, .inl (gA S 26)),
  .inl (D.2.1 0, 256, .inl (gA S 27)),
  .inl (D.2.1 0, 256, .inl (gA S 28)),
  .inr (8, [.ref (D.2.2 2), .ref (D.2.2 17), .ref (D.2.2 30), .ref (D.2.2 31), .int (gI S 18), .int (gI S 19)]),
  .inl (D.2.1 0, 8, .inl (gA S 30)),
  .inl (D.2.1 0, 8, .inl (gA S 31)),
  .inr (2, [.ref (D.2.2 0), .ref (D.2.2 2), .ref (D.2.2 17), .ref (D.2.2 33), .ref (D.2.2 34), .ref (D.2.2 35), .ref (D.2.2 36), .ref (D.2.2 37), .ref (D.2.2 38), .int (gI S 20), .int (gI S 21), .int (gI S 22), .int (gI S 23), .int (gI S 24)]),
  .inl (D.2.1 3, 1928, .inr (.inl (gL S 33))),
  .inl (D.2.1 3, 1928, .inr (.inl (gL S 34))),
  .inl (D.2.1 3, 241, .inr (.inl (gL S 35))),
  .inl (D.2.1 3, 241, .inr (.inl (gL S 36))),
  .inl (D.2.1 3, 16, .inr (.inl (gL S 37))),
  .inl (D.2.1 0, 16, .inl (gA S 38)),
  .inr (0, [.ref (D.2.2 0), .ref (D.2.2 2), .ref (D.2.2 17), .ref (D.2.2 40), .int (gI S 25), .int (gI S 26)]),
  .inl (D.2.1 0, 4321, .inl (gA S 40)),
  .inr (5, [.ref (D.2.2 0), .ref (D.2.2 42), .ref (D.2.2 43), .int (gI S 27)]),
  .inl (D.2.1 0, 10, .inl (gA S 42)),
  .inl (D.2.1 0, 1024, .inl (gA S 43)),
  .inr (6, [.ref (D.2.2 0), .ref (D.2.2 2), .ref (D.2.2 45), .ref (D.2.2 46), .ref (D.2.2 47), .int (gI S 28), .int (gI S 29)]),
  .inl (D.2.1 0, 16, .inl (gA S 45)),
  .inl (D.2.1 0, 8, .inl (gA S 46)),
  .inl (D.2.1 0, 8, .inl (gA S 47)),
  .inr (11, [.ref (D.2.2 0), .ref (D.2.2 49), .ref (D.2.2 15), .ref (D.2.2 23), .ref (D.2.2 17), .ref (D.2.2 25), .ref (D.2.2 29), .ref (D.2.2 32), .ref (D.2.2 39), .ref (D.2.2 41), .ref (D.2.2 44), .ref (D.2.2 50), .int (gI S 30), .int (gI S 31), .int (gI S 32)]),
  .inl (D.2.1 5, 2, .inr (.inr (.inr (.inr (fun i => k_img dy (gR S 3 i)))))),
  .inl (D.2.1 0, 5, .inl (gA S 50)),
  .inr (12, [.int (gI S 33), .int (gI S 34), .ref (D.2.2 52), .ref (D.2.2 53), .ref (D.2.2 54), .ref (D.2.2 55), .int (gI S 35), .ref (D.2.2 56), .int (gI S 36), .int (gI S 37), .int (gI S 38), .int (gI S 39), .long (gJ S 0), .int (gI S 40), .int (gI S 41), .int (gI S 42), .ref (D.2.2 57), .int (gI S 43), .ref (D.2.2 58), .ref (D.2.2 59), .int (gI S 44), .ref (D.2.2 60), .ref (D.2.2 61), .int (gI S 45), .int (gI S 46), .ref (D.2.2 62), .ref (D.2.2 63), .int (gI S 47), .ref (D.2.2 64), .ref (D.2.2 65), .int (gI S 48), .long (gJ S 1), .long (gJ S 2), .ref (D.2.2 66), .ref (D.2.2 67), .ref (D.2.2 68), .ref (D.2.2 69), .ref (D.2.2 70), .ref (D.2.2 71), .ref (D.2.2 72), .ref (D.2.2 73), .int (gI S 49), .int (gI S 50), .ref (D.2.2 74), .ref (D.2.2 75), .int (gI S 51), .int (gI S 52), .int (gI S 53), .ref (D.2.2 76), .ref (D.2.2 77), .ref (D.2.2 78), .ref (D.2.2 79), .ref (D.2.2 80), .int (gI S 54), .long (gJ S 3)]),
  .inl (D.2.1 0, 7, .inl (gA S 52)),
  .inl (D.2.1 0, 5560, .inl (gA S 53)),
  .inl (D.2.1 0, 11120, .inl (gA S 54)),
  .inl (D.2.1 2, 2, .inl (gA S 55)),
  .inl (D.2.1 0, 400, .inl (gA S 56)),
  .inl (D.2.1 0, 96, .inl (gA S 57)),
  .inl (D.2.1 0, 400, .inl (gA S 58)),
  .inl (D.2.1 0, 400, .inl (gA S 59)),
  .inl (D.2.1 0, 400, .inl (gA S 60)),
  .inl (D.2.1 0, 400, .inl (gA S 61)),
  .inl (D.2.1 3, 7, .inr (.inl (gL S 62))),
  .inl (D.2.1 3, 3, .inr (.inl (gL S 63))),
  .inl (D.2.1 3, 13, .inr (.inl (gL S 64))),
  .inl (D.2.1 3, 400, .inr (.inl (gL S 65))),
  .inl (D.2.1 0, 16, .inl (gA S 66)),
  .inl (D.2.1 2, 16, .inl (gA S 67)),
  .inl (D.2.1 2, 16, .inl (gA S 68)),
  .inl (D.2.1 0, 256, .inl (gA S 69)),
  .inl (D.2.1 0, 256, .inl (gA S 70)),
  .inl (D.2.1 0, 8, .inl (gA S 71)),
  .inl (D.2.1 0, 9, .inl (gA S 72)),
  .inl (D.2.1 0, 8, .inl (gA S 73)),
  .inl (D.2.1 0, 4097, .inl (gA S 74)),
  .inl (D.2.1 0, 16, .inl (gA S 75)),
  .inl (D.2.1 0, 16, .inl (gA S 76)),
  .inl (D.2.1 0, 10, .inl (gA S 77)),
  .inl (D.2.1 0, 1024, .inl (gA S 78)),
  .inl (D.2.1 0, 16, .inl (gA S 79)),
  .inl (D.2.1 0, 16, .inl (gA S 80))]
def k_imgs (D : (va_G × (Nat → ClassId) × (Nat → Nat))) (dy : Nat → Nat) (S : St) : List va_E := [.inr (10, [.ref (dy 1), .int (gI S 55), .ref (dy 2), .int (gI S 57), .ref (dy 8), .int (gI S 58), .int (gI S 59), .ref (dy 9), .ref (dy 10), .int (gI S 60), .ref (dy 11), .ref (dy 12), .int (gI S 61), .ref (dy 13), .ref (dy 14), .int (gI S 62)]),
  .inl (D.2.1 0, 6, .inl (gA S 82)),
  .inr (1, [.ref (dy 3), .ref (dy 4), .ref (dy 5), .ref (dy 6), .ref (dy 7), .int (gI S 56)]),
  .inl (D.2.1 0, 16, .inl (gA S 84)),
  .inl (D.2.1 0, 16, .inl (gA S 85)),
  .inl (D.2.1 0, 16, .inl (gA S 86)),
  .inl (D.2.1 0, 16, .inl (gA S 87)),
  .inl (D.2.1 0, 16, .inl (gA S 88)),
  .inl (D.2.1 4, 6, .inr (.inr (.inr (.inr (fun i => k_law dy (gR S 1 i)))))),
  .inl (D.2.1 0, 8, .inl (gA S 90)),
  .inl (D.2.1 0, 8, .inl (gA S 91)),
  .inl (D.2.1 0, 10, .inl (gA S 92)),
  .inl (D.2.1 0, 10, .inl (gA S 93)),
  .inl (D.2.1 0, 12, .inl (gA S 94)),
  .inl (D.2.1 0, 12, .inl (gA S 95)),
  .inr (10, [.ref (dy 16), .int (gI S 63), .ref (dy 17), .int (gI S 65), .ref (dy 23), .int (gI S 66), .int (gI S 67), .ref (dy 24), .ref (dy 25), .int (gI S 68), .ref (dy 26), .ref (dy 27), .int (gI S 69), .ref (dy 28), .ref (dy 29), .int (gI S 70)]),
  .inl (D.2.1 0, 6, .inl (gA S 97)),
  .inr (1, [.ref (dy 18), .ref (dy 19), .ref (dy 20), .ref (dy 21), .ref (dy 22), .int (gI S 64)]),
  .inl (D.2.1 0, 16, .inl (gA S 99)),
  .inl (D.2.1 0, 16, .inl (gA S 100)),
  .inl (D.2.1 0, 16, .inl (gA S 101)),
  .inl (D.2.1 0, 16, .inl (gA S 102)),
  .inl (D.2.1 0, 16, .inl (gA S 103)),
  .inl (D.2.1 4, 6, .inr (.inr (.inr (.inr (fun i => k_law dy (gR S 2 i)))))),
  .inl (D.2.1 0, 8, .inl (gA S 105)),
  .inl (D.2.1 0, 8, .inl (gA S 106)),
  .inl (D.2.1 0, 10, .inl (gA S 107)),
  .inl (D.2.1 0, 10, .inl (gA S 108)),
  .inl (D.2.1 0, 12, .inl (gA S 109)),
  .inl (D.2.1 0, 12, .inl (gA S 110))]
def k_dyn (D : (va_G × (Nat → ClassId) × (Nat → Nat))) (dy : Nat → Nat) (S : St) (j : Nat) : Option va_E := if j < 30 then (if gR S 3 (j / 15) = 0 then none else (k_imgs D dy S)[j]?) else ((gC S)[j - 30]?).map (fun a => .inl (D.2.1 0, a.1, .inl a.2))
/-! THE ENGINE, part 1: the world of cells, the judgement Rn of a method under way, and Sp, a method's contract -/
/-- the fixed data of a world: classes and slots, array classes, the addresses of what was made first -/
abbrev k_D : Type := va_G × (Nat → ClassId) × (Nat → Nat)
def k_tys (D : k_D) : List (ClassId × FieldType) := [(D.2.1 0, .int), (D.2.1 1, .byte), (D.2.1 2, .boolean), (D.2.1 3, .long), (D.2.1 4, .array .int), (D.2.1 5, .object RX10)]
def k_Kn (D : k_D) (U : State) : Prop := va_K D.1 vwCl (k_tys D) U ∧ ∃ kA : Class, U.vm.classes[D.2.1 4]? = some kA ∧ kA.kind = .array (D.2.1 0) (.array .int) ∧ (Cond.arrayOver (.array .int)).before #[] U = true ∧ va_AO RX10 U ∧ U.vm.findClass (FieldType.array .int).toString = some (D.2.1 0)
theorem k_Kn.moved {D : k_D} {u U : State} (hvm : u.vm.Alike U.vm) (h : k_Kn D u) : k_Kn D U := by
  obtain ⟨h1, kA, h2, h3, h4, h5, h6⟩ := h
  obtain ⟨k', hk', he⟩ := hvm.2.2 _ _ h2
  exact ⟨va_K.moved hvm h1, k', hk', by rw [he]; exact h3, over_moved hvm h4, va_AO.moved hvm h5, by rw [hvm.findClass]; exact h6⟩
/-- the cells of a family, at addresses that are apart -/
def k_Wd (D : va_G) (F : Nat → Option va_E) (ad : Nat → Nat) (A : Nat → Prop) (H : Heap) : Prop :=
  (∀ (k : Nat) (e : va_E), F k = some e → va_at D vwCl (ad k, e) H) ∧ (∀ (j k : Nat) (e f : va_E), F j = some e → F k = some f → ad j = ad k → j = k) ∧ ∀ (k : Nat) (e : va_E), F k = some e → A (ad k)
theorem k_Wd.one {D : va_G} {F : Nat → Option va_E} {ad : Nat → Nat} {A : Nat → Prop} {H : Heap} (h : k_Wd D F ad A H) {k : Nat} {e : va_E} (hk : F k = some e) : va_P D vwCl [(ad k, e)] H := by
  intro i q hi
  have : i = 0 := by
    have := (List.getElem?_eq_some_iff.mp hi).1
    simp at this
    omega
  subst this
  cases hi
  exact h.1 k e hk
theorem k_Wd.weaken {D : va_G} {F : Nat → Option va_E} {ad : Nat → Nat} {A B : Nat → Prop} {H : Heap} (h : k_Wd D F ad A H) (hAB : ∀ (k : Nat) (e : va_E), F k = some e → A (ad k) → B (ad k)) : k_Wd D F ad B H := ⟨h.1, h.2.1, fun k e hk => hAB k e hk (h.2.2 k e hk)⟩
theorem k_Wd.set {D : va_G} {F F' : Nat → Option va_E} {ad : Nat → Nat} {A : Nat → Prop} {H H1 : Heap} (h : k_Wd D F ad A H) {k : Nat} {e0 e : va_E} (hk : F k = some e0) (he : va_at D vwCl (ad k, e) H1) (oq : ∀ q : Nat, q ≠ ad k → H1[q]? = H[q]?) (h1 : F' k = some e) (h2 : ∀ j, j ≠ k → F' j = F j) : k_Wd D F' ad A H1 := by
  have key : ∀ (j : Nat) (f : va_E), F' j = some f → ∃ f0, F j = some f0 := fun j f hj => by
    by_cases q : j = k
    · exact ⟨e0, by rw [q]; exact hk⟩
    · exact ⟨f, by rw [← h2 j q]; exact hj⟩
  refine ⟨fun j f hj => ?_, fun i j f g hi hj hij => ?_, fun j f hj => ?_⟩
  · by_cases q : j = k
    · subst q
      rw [h1] at hj
      cases hj
      exact he
    · rw [h2 j q] at hj
      exact (h.1 j f hj).kept (oq _ (fun z => q (h.2.1 j k f e0 hj hk z)))
  · obtain ⟨f0, a1⟩ := key i f hi
    obtain ⟨g0, a2⟩ := key j g hj
    exact h.2.1 i j f0 g0 a1 a2 hij
  · obtain ⟨f0, a1⟩ := key j f hj
    exact h.2.2 j f0 a1
/-- where the cells are: those made first, and the others -/
def k_ad (D : k_D) (dy : Nat → Nat) (k : Nat) : Nat := if k < k_N then D.2.2 k else dy (k - k_N)
def k_cell (D : k_D) (dy : Nat → Nat) (S : St) (k : Nat) : Option va_E := if k < k_N then (k_cells D dy S)[k]? else k_dyn D dy S (k - k_N)
def World (D : k_D) (dy : Nat → Nat) (S : St) (A : Nat → Prop) (H : Heap) : Prop := k_Wd D.1 (k_cell D dy S) (k_ad D dy) A H
def Ao (D : k_D) (dy : Nat → Nat) (S : St) (sz : Nat) : Nat → Prop := fun q => (∃ (k : Nat) (e : va_E), k_cell D dy S k = some e ∧ k_ad D dy k = q) ∨ sz ≤ q
abbrev k_Po : Type := Option Value → (Nat → Nat) → St → Prop
def k_Q (D : k_D) (Post : k_Po) (A : Nat → Prop) : Array Value → State → Outcome → State → Prop := fun _ st o t => (∃ (v : Option Value) (dy : Nat → Nat) (S : St), o = .returned v ∧ Post v dy S ∧ World D dy S A t.heap) ∧ va_F A st t
/-- what stands outside: the text constants and two statics of the JDK -/
def k_nS : Nat := 14
def k_sl : List Nat := [5, 4, 5, 3, 3, 2, 4, 8, 4, 6, 6, 3, 5, 2]
def k_sb : List (List Int32) := [[119, 111, 114, 116, 104], [98, 97, 114, 115], [118, 111, 105, 100, 115], [110, 111, 116], [97, 110, 100], [111, 114], [111, 119, 101, 114], [99, 114, 101, 100, 105, 116, 111, 114], [116, 117, 110, 101], [108, 101, 110, 103, 116, 104], [104, 97, 108, 118, 101, 115], [97, 103, 101], [100, 101, 98, 116, 115], [105, 102]]
def k_si : List Nat := [83, 85, 87, 99, 97, 92, 117, 119, 121, 123, 125, 127, 129, 70]
def k_st : List String := ["worth", "bars", "voids", "not", "and", "or", "ower", "creditor", "tune", "length", "halves", "age", "debts", "if"]
def k_Ot (D : k_D) (A : Nat → Prop) (U : State) (H : Heap) : Prop :=
  vk_S k_nS k_sl k_sb (fun i => D.2.2 (1000 + i)) (fun i => D.2.2 (2000 + i)) A U H ∧ (∀ i : Nat, i < k_nS → vk_R RX7 (k_si.getD i 0) (k_st.getD i "") (D.2.2 (1000 + i)) U) ∧ va_Z "java/lang/String" "COMPACT_STRINGS" "Z" (.int 1) A U H ∧ va_Zq "jdk/internal/util/Preconditions" "SIOOBE_FORMATTER" "Ljava/util/function/BiFunction;" A U H
theorem k_Ot.moved {D : k_D} {A : Nat → Prop} {s U : State} {H : Heap} (hW : s.WarmedH U.vm) (h : k_Ot D A s H) : k_Ot D A U H := ⟨vk_S.moved hW.alike h.1, fun i hi => vk_R.warm hW (h.2.1 i hi), va_Z.moved hW.alike h.2.2.1, va_Zq.moved hW.alike h.2.2.2⟩
theorem k_Ot.kept {D : k_D} {A : Nat → Prop} {U : State} {H H1 : Heap} (h : k_Ot D A U H) (hq : ∀ a : Nat, a < H.size → ¬ A a → H1[a]? = H[a]?) : k_Ot D A U H1 := ⟨h.1.kept hq, h.2.1, h.2.2.1.kept hq, h.2.2.2.kept hq⟩
theorem k_Ot.narrow {D : k_D} {A B : Nat → Prop} {U : State} {H : Heap} (h : k_Ot D A U H) (hAB : ∀ q, B q → A q) : k_Ot D B U H := ⟨h.1.narrow hAB, h.2.1, h.2.2.1.narrow hAB, h.2.2.2.narrow hAB⟩
def k_X (y : MethodName) (cc : ByteArray) (nL : Nat) (ret : Option FieldType) (D : k_D) (p : Program) (s : State) (m : MethodId) (meth : Method) (c : Code) (A : Nat → Prop) : Prop :=
  p.tables.exec = Jvm.exec ∧ c.code = cc ∧ c.maxLocals = nL ∧ meth.sig.returnType = ret ∧ meth.locks = false ∧ s.vm.findClass y.cls = some m.cls ∧ k_Tb s ∧ k_Kn D s ∧ (∀ q : Nat, s.heap.size ≤ q → A q) ∧ k_Ot D A s s.heap
def k_Y (rm : Room) (mc ms : Nat) (D : k_D) (dy : Nat → Nat) (S : St) (s : State) (A : Nat → Prop) (H : Heap) (locs : List Loc) (cells slots : Nat) : Prop :=
  World D dy S A H ∧ va_S A s.heap H locs ∧ cells + mc ≤ rm.cells ∧ slots + ms ≤ rm.slots
/-- a method under way: from this place, with these locals, this stack and this state it comes to an end with Post -/
def Rn (y : MethodName) (cc : ByteArray) (nL : Nat) (ret : Option FieldType) (rm : Room) (mc ms : Nat) (D : k_D) (dy : Nat → Nat) (S : St) (Post : k_Po) (pc : Nat) (ls : List (Nat × Value)) (st : List Value) : Prop :=
  ∀ (p : Program) (l : Launch) (e : Env) (s : State) (m : MethodId) (args : Array Value) (below : List Frame) (meth : Method) (c : Code) (A : Nat → Prop), k_X y cc nL ret D p s m meth c A → ∀ (H : Heap) (locs : List Loc) (cells slots : Nat), k_Y rm mc ms D dy S s A H locs cells slots →
    ∀ la : Array Slot, lv_has la nL ls → W p l e rm s m args below meth c H locs cells slots (MQ below (k_Q D Post A) args s rm.cells rm.slots A) (F0 m pc la st)
/-- a method's contract -/
def Sp (y : MethodName) (cc : ByteArray) (nL : Nat) (ret : Option FieldType) (rm : Room) (D : k_D) (dy : Nat → Nat) (S : St) (args : List Value) (Post : k_Po) : Prop :=
  ∀ (l : Launch) (sz : Nat), Met l y [.code y cc nL ret] rm (va_Pc args (fun U => U.heap.size = sz ∧ World D dy S (fun _ => True) U.heap ∧ k_Kn D U ∧ k_Tb U ∧ k_Ot D (Ao D dy S sz) U U.heap)) (k_Q D Post (Ao D dy S sz)) rm.cells rm.slots (Ao D dy S sz)
theorem Sp.of {y : MethodName} {cc : ByteArray} {nL : Nat} {ret : Option FieldType} {rm : Room} {D : k_D} {dy : Nat → Nat} {S : St} {args : List Value} {Post : k_Po} (hn : plainName y.cls = true) (hlen : (lg_sl args).length ≤ nL) (h : Rn y cc nL ret rm rm.cells rm.slots D dy S Post 0 (lv_args 0 args) []) : Sp y cc nL ret rm D dy S args Post := by
  intro l sz
  refine Met.ofW (cc := cc) (maxL := nL) (ret := ret) hn rfl ?_
  intro p e s m args' below meth c s₁ B hml hv
  obtain ⟨rfl, hsz, hW, hK, hT, hO⟩ := hv
  subst hsz
  have hl := lv_entry args (n := nL) hlen
  rw [lg_entry_eq]
  exact h p l e s m args.toArray below meth c (Ao D dy S s.heap.size) ⟨B.exec, B.bytes, hml, B.returns, B.notSynchronized, findClass_of_methodNamed B.named, hT, hK, fun q h => Or.inr h, hO⟩ s.heap [] 0 0 ⟨hW.weaken (fun k e hk _ => Or.inl ⟨k, e, hk, rfl⟩), va_S.rf, by omega, by omega⟩ _ hl
section RR
variable {y : MethodName} {cc : ByteArray} {nL : Nat} {ret : Option FieldType} {rm : Room} {mc ms : Nat} {D : k_D} {dy : Nat → Nat} {S : St} {Post : k_Po} {pc : Nat} {ls : List (Nat × Value)} {st : List Value}
theorem k_X.own {p : Program} {s : State} {m : MethodId} {meth : Method} {c : Code} {A : Nat → Prop} (X : k_X y cc nL ret D p s m meth c A) : s.vm.findClass y.cls = some m.cls := X.2.2.2.2.2.1
theorem k_X.tb {p : Program} {s : State} {m : MethodId} {meth : Method} {c : Code} {A : Nat → Prop} (X : k_X y cc nL ret D p s m meth c A) : k_Tb s := X.2.2.2.2.2.2.1
theorem k_X.kn {p : Program} {s : State} {m : MethodId} {meth : Method} {c : Code} {A : Nat → Prop} (X : k_X y cc nL ret D p s m meth c A) : va_K D.1 vwCl (k_tys D) s := X.2.2.2.2.2.2.2.1.1
theorem k_X.kk {p : Program} {s : State} {m : MethodId} {meth : Method} {c : Code} {A : Nat → Prop} (X : k_X y cc nL ret D p s m meth c A) : k_Kn D s := X.2.2.2.2.2.2.2.1
theorem k_X.new {p : Program} {s : State} {m : MethodId} {meth : Method} {c : Code} {A : Nat → Prop} (X : k_X y cc nL ret D p s m meth c A) : ∀ q : Nat, s.heap.size ≤ q → A q := X.2.2.2.2.2.2.2.2.1
theorem k_X.ot {p : Program} {s : State} {m : MethodId} {meth : Method} {c : Code} {A : Nat → Prop} (X : k_X y cc nL ret D p s m meth c A) : k_Ot D A s s.heap := X.2.2.2.2.2.2.2.2.2
theorem r_iconst {n : Int} {v : Int32} (d : decode cc pc = .ok (.iconst n, 1)) (hv : Int32.ofInt n = v) (k : Rn y cc nL ret rm mc ms D dy S Post (pc + 1) ls (.int v :: st)) : Rn y cc nL ret rm mc ms D dy S Post pc ls st := fun p l e s m a b me c A X H lo cl sl Y la hl => lv_iconst X.1 X.2.1 d hv (k p l e s m a b me c A X H lo cl sl Y la hl)
theorem r_bipush {n : Int} {v : Int32} (d : decode cc pc = .ok (.bipush n, 2)) (hv : (Int8.ofInt n).toInt32 = v) (k : Rn y cc nL ret rm mc ms D dy S Post (pc + 2) ls (.int v :: st)) : Rn y cc nL ret rm mc ms D dy S Post pc ls st := fun p l e s m a b me c A X H lo cl sl Y la hl => lv_bipush X.1 X.2.1 d hv (k p l e s m a b me c A X H lo cl sl Y la hl)
theorem r_sipush {n : Int} {v : Int32} (d : decode cc pc = .ok (.sipush n, 3)) (hv : (Int16.ofInt n).toInt32 = v) (k : Rn y cc nL ret rm mc ms D dy S Post (pc + 3) ls (.int v :: st)) : Rn y cc nL ret rm mc ms D dy S Post pc ls st := fun p l e s m a b me c A X H lo cl sl Y la hl => lv_sipush X.1 X.2.1 d hv (k p l e s m a b me c A X H lo cl sl Y la hl)
theorem r_lconst {n : Fin 2} {v : Int64} (d : decode cc pc = .ok (.lconst n, 1)) (hv : Int64.ofNat (n : Nat) = v) (k : Rn y cc nL ret rm mc ms D dy S Post (pc + 1) ls (.long v :: st)) : Rn y cc nL ret rm mc ms D dy S Post pc ls st := fun p l e s m a b me c A X H lo cl sl Y la hl => lv_lconst X.1 X.2.1 d hv (k p l e s m a b me c A X H lo cl sl Y la hl)
theorem r_null (d : decode cc pc = .ok (.aconst_null, 1)) (k : Rn y cc nL ret rm mc ms D dy S Post (pc + 1) ls (.null :: st)) : Rn y cc nL ret rm mc ms D dy S Post pc ls st := fun p l e s m a b me c A X H lo cl sl Y la hl => lv_null X.1 X.2.1 d (k p l e s m a b me c A X H lo cl sl Y la hl)
theorem r_ldc {i : Nat} {v : Int32} (w : k_in (.constant y.cls i v)) (d : decode cc pc = .ok (.ldc i, 2)) (k : Rn y cc nL ret rm mc ms D dy S Post (pc + 2) ls (.int v :: st)) : Rn y cc nL ret rm mc ms D dy S Post pc ls st := fun p l e s m a b me c A X H lo cl sl Y la hl => lv_ldc X.1 X.2.1 X.own (w.use X.tb) d (k p l e s m a b me c A X H lo cl sl Y la hl)
theorem r_ldcw {i : Nat} {v : Int32} (w : k_in (.constant y.cls i v)) (d : decode cc pc = .ok (.ldc_w i, 3)) (k : Rn y cc nL ret rm mc ms D dy S Post (pc + 3) ls (.int v :: st)) : Rn y cc nL ret rm mc ms D dy S Post pc ls st := fun p l e s m a b me c A X H lo cl sl Y la hl => lv_ldcw X.1 X.2.1 X.own (w.use X.tb) d (k p l e s m a b me c A X H lo cl sl Y la hl)
theorem r_ldc2 {i : Nat} {v : Int64} (w : k_in (.constantLong y.cls i v)) (d : decode cc pc = .ok (.ldc2_w i, 3)) (k : Rn y cc nL ret rm mc ms D dy S Post (pc + 3) ls (.long v :: st)) : Rn y cc nL ret rm mc ms D dy S Post pc ls st := fun p l e s m a b me c A X H lo cl sl Y la hl => lv_ldc2 X.1 X.2.1 X.own (w.use X.tb) d (k p l e s m a b me c A X H lo cl sl Y la hl)
theorem r_iload_n (q : Nat) {f : Fin 4} {i : Nat} {x : Int32} (d : decode cc pc = .ok (.iload_n f, 1)) (hi : (f : Nat) = i) (hq : ls[q]? = some (i, .int x)) (k : Rn y cc nL ret rm mc ms D dy S Post (pc + 1) ls (.int x :: st)) : Rn y cc nL ret rm mc ms D dy S Post pc ls st := fun p l e s m a b me c A X H lo cl sl Y la hl => lv_iload_n X.1 X.2.1 d hi (lv_at hl q hq) (k p l e s m a b me c A X H lo cl sl Y la hl)
theorem r_iload (q : Nat) {i : Nat} {x : Int32} (d : decode cc pc = .ok (.iload i, 2)) (hq : ls[q]? = some (i, .int x)) (k : Rn y cc nL ret rm mc ms D dy S Post (pc + 2) ls (.int x :: st)) : Rn y cc nL ret rm mc ms D dy S Post pc ls st := fun p l e s m a b me c A X H lo cl sl Y la hl => lv_iload X.1 X.2.1 d (lv_at hl q hq) (k p l e s m a b me c A X H lo cl sl Y la hl)
theorem r_lload_n (q : Nat) {f : Fin 4} {i : Nat} {x : Int64} (d : decode cc pc = .ok (.lload_n f, 1)) (hi : (f : Nat) = i) (hq : ls[q]? = some (i, .long x)) (k : Rn y cc nL ret rm mc ms D dy S Post (pc + 1) ls (.long x :: st)) : Rn y cc nL ret rm mc ms D dy S Post pc ls st := fun p l e s m a b me c A X H lo cl sl Y la hl => lv_lload_n X.1 X.2.1 d hi (lv_at hl q hq) (k p l e s m a b me c A X H lo cl sl Y la hl)
theorem r_lload (q : Nat) {i : Nat} {x : Int64} (d : decode cc pc = .ok (.lload i, 2)) (hq : ls[q]? = some (i, .long x)) (k : Rn y cc nL ret rm mc ms D dy S Post (pc + 2) ls (.long x :: st)) : Rn y cc nL ret rm mc ms D dy S Post pc ls st := fun p l e s m a b me c A X H lo cl sl Y la hl => lv_lload X.1 X.2.1 d (lv_at hl q hq) (k p l e s m a b me c A X H lo cl sl Y la hl)
theorem r_aload_n (q : Nat) {f : Fin 4} {i : Nat} {x : Nat} (d : decode cc pc = .ok (.aload_n f, 1)) (hi : (f : Nat) = i) (hq : ls[q]? = some (i, .ref x)) (k : Rn y cc nL ret rm mc ms D dy S Post (pc + 1) ls (.ref x :: st)) : Rn y cc nL ret rm mc ms D dy S Post pc ls st := fun p l e s m a b me c A X H lo cl sl Y la hl => lv_aload_n X.1 X.2.1 d hi (lv_at hl q hq) (k p l e s m a b me c A X H lo cl sl Y la hl)
theorem r_aload (q : Nat) {i : Nat} {x : Nat} (d : decode cc pc = .ok (.aload i, 2)) (hq : ls[q]? = some (i, .ref x)) (k : Rn y cc nL ret rm mc ms D dy S Post (pc + 2) ls (.ref x :: st)) : Rn y cc nL ret rm mc ms D dy S Post pc ls st := fun p l e s m a b me c A X H lo cl sl Y la hl => lv_aload X.1 X.2.1 d (lv_at hl q hq) (k p l e s m a b me c A X H lo cl sl Y la hl)
theorem r_aload_nN (q : Nat) {f : Fin 4} {i : Nat} (d : decode cc pc = .ok (.aload_n f, 1)) (hi : (f : Nat) = i) (hq : ls[q]? = some (i, .null)) (k : Rn y cc nL ret rm mc ms D dy S Post (pc + 1) ls (.null :: st)) : Rn y cc nL ret rm mc ms D dy S Post pc ls st := fun p l e s m a b me c A X H lo cl sl Y la hl => lv_aload_nN X.1 X.2.1 d hi (lv_at hl q hq) (k p l e s m a b me c A X H lo cl sl Y la hl)
theorem r_aloadN (q : Nat) {i : Nat} (d : decode cc pc = .ok (.aload i, 2)) (hq : ls[q]? = some (i, .null)) (k : Rn y cc nL ret rm mc ms D dy S Post (pc + 2) ls (.null :: st)) : Rn y cc nL ret rm mc ms D dy S Post pc ls st := fun p l e s m a b me c A X H lo cl sl Y la hl => lv_aloadN X.1 X.2.1 d (lv_at hl q hq) (k p l e s m a b me c A X H lo cl sl Y la hl)
theorem r_istore_n {f : Fin 4} {i : Nat} {x : Int32} {lv : List (Nat × Value)} (d : decode cc pc = .ok (.istore_n f, 1)) (hi : (f : Nat) = i) (hn : i < nL) (hf : (i, Value.int x) :: ls.filter (fun q => !(q.1 == i) && !(q.1 + 1 == i && q.2.category == 2)) = lv) (k : Rn y cc nL ret rm mc ms D dy S Post (pc + 1) lv st) : Rn y cc nL ret rm mc ms D dy S Post pc ls (.int x :: st) := fun p l e s m a b me c A X H lo cl sl Y la hl => lv_istore_n X.1 X.2.1 d hi hl hn hf (fun la hl => k p l e s m a b me c A X H lo cl sl Y la hl)
theorem r_istore {i : Nat} {x : Int32} {lv : List (Nat × Value)} (d : decode cc pc = .ok (.istore i, 2)) (hn : i < nL) (hf : (i, Value.int x) :: ls.filter (fun q => !(q.1 == i) && !(q.1 + 1 == i && q.2.category == 2)) = lv) (k : Rn y cc nL ret rm mc ms D dy S Post (pc + 2) lv st) : Rn y cc nL ret rm mc ms D dy S Post pc ls (.int x :: st) := fun p l e s m a b me c A X H lo cl sl Y la hl => lv_istore X.1 X.2.1 d hl hn hf (fun la hl => k p l e s m a b me c A X H lo cl sl Y la hl)
theorem r_lstore_n {f : Fin 4} {i : Nat} {x : Int64} {lv : List (Nat × Value)} (d : decode cc pc = .ok (.lstore_n f, 1)) (hi : (f : Nat) = i) (hn : i + 1 < nL) (hf : (i, Value.long x) :: ls.filter (fun q => !(q.1 == i) && (!(q.1 == i + 1) && !(q.1 + 1 == i && q.2.category == 2))) = lv) (k : Rn y cc nL ret rm mc ms D dy S Post (pc + 1) lv st) : Rn y cc nL ret rm mc ms D dy S Post pc ls (.long x :: st) := fun p l e s m a b me c A X H lo cl sl Y la hl => lv_lstore_n X.1 X.2.1 d hi hl hn hf (fun la hl => k p l e s m a b me c A X H lo cl sl Y la hl)
theorem r_lstore {i : Nat} {x : Int64} {lv : List (Nat × Value)} (d : decode cc pc = .ok (.lstore i, 2)) (hn : i + 1 < nL) (hf : (i, Value.long x) :: ls.filter (fun q => !(q.1 == i) && (!(q.1 == i + 1) && !(q.1 + 1 == i && q.2.category == 2))) = lv) (k : Rn y cc nL ret rm mc ms D dy S Post (pc + 2) lv st) : Rn y cc nL ret rm mc ms D dy S Post pc ls (.long x :: st) := fun p l e s m a b me c A X H lo cl sl Y la hl => lv_lstore X.1 X.2.1 d hl hn hf (fun la hl => k p l e s m a b me c A X H lo cl sl Y la hl)
theorem r_astore_n {f : Fin 4} {i : Nat} {x : Nat} {lv : List (Nat × Value)} (d : decode cc pc = .ok (.astore_n f, 1)) (hi : (f : Nat) = i) (hn : i < nL) (hf : (i, Value.ref x) :: ls.filter (fun q => !(q.1 == i) && !(q.1 + 1 == i && q.2.category == 2)) = lv) (k : Rn y cc nL ret rm mc ms D dy S Post (pc + 1) lv st) : Rn y cc nL ret rm mc ms D dy S Post pc ls (.ref x :: st) := fun p l e s m a b me c A X H lo cl sl Y la hl => lv_astore_n X.1 X.2.1 d hi hl hn hf (fun la hl => k p l e s m a b me c A X H lo cl sl Y la hl)
theorem r_astore {i : Nat} {x : Nat} {lv : List (Nat × Value)} (d : decode cc pc = .ok (.astore i, 2)) (hn : i < nL) (hf : (i, Value.ref x) :: ls.filter (fun q => !(q.1 == i) && !(q.1 + 1 == i && q.2.category == 2)) = lv) (k : Rn y cc nL ret rm mc ms D dy S Post (pc + 2) lv st) : Rn y cc nL ret rm mc ms D dy S Post pc ls (.ref x :: st) := fun p l e s m a b me c A X H lo cl sl Y la hl => lv_astore X.1 X.2.1 d hl hn hf (fun la hl => k p l e s m a b me c A X H lo cl sl Y la hl)
theorem r_astore_nN {f : Fin 4} {i : Nat} {lv : List (Nat × Value)} (d : decode cc pc = .ok (.astore_n f, 1)) (hi : (f : Nat) = i) (hn : i < nL) (hf : (i, Value.null) :: ls.filter (fun q => !(q.1 == i) && !(q.1 + 1 == i && q.2.category == 2)) = lv) (k : Rn y cc nL ret rm mc ms D dy S Post (pc + 1) lv st) : Rn y cc nL ret rm mc ms D dy S Post pc ls (.null :: st) := fun p l e s m a b me c A X H lo cl sl Y la hl => lv_astore_nN X.1 X.2.1 d hi hl hn hf (fun la hl => k p l e s m a b me c A X H lo cl sl Y la hl)
theorem r_astoreN {i : Nat} {lv : List (Nat × Value)} (d : decode cc pc = .ok (.astore i, 2)) (hn : i < nL) (hf : (i, Value.null) :: ls.filter (fun q => !(q.1 == i) && !(q.1 + 1 == i && q.2.category == 2)) = lv) (k : Rn y cc nL ret rm mc ms D dy S Post (pc + 2) lv st) : Rn y cc nL ret rm mc ms D dy S Post pc ls (.null :: st) := fun p l e s m a b me c A X H lo cl sl Y la hl => lv_astoreN X.1 X.2.1 d hl hn hf (fun la hl => k p l e s m a b me c A X H lo cl sl Y la hl)
theorem r_iinc {i q : Nat} {n : Int} {x v : Int32} {lv : List (Nat × Value)} (d : decode cc pc = .ok (.iinc i n, 3)) (hq : ls[q]? = some (i, .int x)) (hv : x + Int32.ofInt n = v) (hn : i < nL) (hf : (i, Value.int v) :: ls.filter (fun q => !(q.1 == i) && !(q.1 + 1 == i && q.2.category == 2)) = lv) (k : Rn y cc nL ret rm mc ms D dy S Post (pc + 3) lv st) : Rn y cc nL ret rm mc ms D dy S Post pc ls st := fun p l e s m a b me c A X H lo cl sl Y la hl => lv_iinc X.1 X.2.1 d hl hq hv hn hf (fun la hl => k p l e s m a b me c A X H lo cl sl Y la hl)
theorem r_iadd {x w : Int32} (d : decode cc pc = .ok (.iadd, 1)) (k : Rn y cc nL ret rm mc ms D dy S Post (pc + 1) ls (.int (x + w) :: st)) : Rn y cc nL ret rm mc ms D dy S Post pc ls (.int w :: .int x :: st) := fun p l e s m a b me c A X H lo cl sl Y la hl => lv_iadd X.1 X.2.1 d (k p l e s m a b me c A X H lo cl sl Y la hl)
theorem r_isub {x w : Int32} (d : decode cc pc = .ok (.isub, 1)) (k : Rn y cc nL ret rm mc ms D dy S Post (pc + 1) ls (.int (x - w) :: st)) : Rn y cc nL ret rm mc ms D dy S Post pc ls (.int w :: .int x :: st) := fun p l e s m a b me c A X H lo cl sl Y la hl => lv_isub X.1 X.2.1 d (k p l e s m a b me c A X H lo cl sl Y la hl)
theorem r_imul {x w : Int32} (d : decode cc pc = .ok (.imul, 1)) (k : Rn y cc nL ret rm mc ms D dy S Post (pc + 1) ls (.int (x * w) :: st)) : Rn y cc nL ret rm mc ms D dy S Post pc ls (.int w :: .int x :: st) := fun p l e s m a b me c A X H lo cl sl Y la hl => lv_imul X.1 X.2.1 d (k p l e s m a b me c A X H lo cl sl Y la hl)
theorem r_iand {x w : Int32} (d : decode cc pc = .ok (.iand, 1)) (k : Rn y cc nL ret rm mc ms D dy S Post (pc + 1) ls (.int (x &&& w) :: st)) : Rn y cc nL ret rm mc ms D dy S Post pc ls (.int w :: .int x :: st) := fun p l e s m a b me c A X H lo cl sl Y la hl => lv_iand X.1 X.2.1 d (k p l e s m a b me c A X H lo cl sl Y la hl)
theorem r_ior {x w : Int32} (d : decode cc pc = .ok (.ior, 1)) (k : Rn y cc nL ret rm mc ms D dy S Post (pc + 1) ls (.int (x ||| w) :: st)) : Rn y cc nL ret rm mc ms D dy S Post pc ls (.int w :: .int x :: st) := fun p l e s m a b me c A X H lo cl sl Y la hl => lv_ior X.1 X.2.1 d (k p l e s m a b me c A X H lo cl sl Y la hl)
theorem r_ixor {x w : Int32} (d : decode cc pc = .ok (.ixor, 1)) (k : Rn y cc nL ret rm mc ms D dy S Post (pc + 1) ls (.int (x ^^^ w) :: st)) : Rn y cc nL ret rm mc ms D dy S Post pc ls (.int w :: .int x :: st) := fun p l e s m a b me c A X H lo cl sl Y la hl => lv_ixor X.1 X.2.1 d (k p l e s m a b me c A X H lo cl sl Y la hl)
theorem r_ishl {x w : Int32} (d : decode cc pc = .ok (.ishl, 1)) (k : Rn y cc nL ret rm mc ms D dy S Post (pc + 1) ls (.int (x <<< (w &&& 31)) :: st)) : Rn y cc nL ret rm mc ms D dy S Post pc ls (.int w :: .int x :: st) := fun p l e s m a b me c A X H lo cl sl Y la hl => lv_ishl X.1 X.2.1 d (k p l e s m a b me c A X H lo cl sl Y la hl)
theorem r_ishr {x w : Int32} (d : decode cc pc = .ok (.ishr, 1)) (k : Rn y cc nL ret rm mc ms D dy S Post (pc + 1) ls (.int (x >>> (w &&& 31)) :: st)) : Rn y cc nL ret rm mc ms D dy S Post pc ls (.int w :: .int x :: st) := fun p l e s m a b me c A X H lo cl sl Y la hl => lv_ishr X.1 X.2.1 d (k p l e s m a b me c A X H lo cl sl Y la hl)
theorem r_ladd {x w : Int64} (d : decode cc pc = .ok (.ladd, 1)) (k : Rn y cc nL ret rm mc ms D dy S Post (pc + 1) ls (.long (x + w) :: st)) : Rn y cc nL ret rm mc ms D dy S Post pc ls (.long w :: .long x :: st) := fun p l e s m a b me c A X H lo cl sl Y la hl => lv_ladd X.1 X.2.1 d (k p l e s m a b me c A X H lo cl sl Y la hl)
theorem r_lsub {x w : Int64} (d : decode cc pc = .ok (.lsub, 1)) (k : Rn y cc nL ret rm mc ms D dy S Post (pc + 1) ls (.long (x - w) :: st)) : Rn y cc nL ret rm mc ms D dy S Post pc ls (.long w :: .long x :: st) := fun p l e s m a b me c A X H lo cl sl Y la hl => lv_lsub X.1 X.2.1 d (k p l e s m a b me c A X H lo cl sl Y la hl)
theorem r_lmul {x w : Int64} (d : decode cc pc = .ok (.lmul, 1)) (k : Rn y cc nL ret rm mc ms D dy S Post (pc + 1) ls (.long (x * w) :: st)) : Rn y cc nL ret rm mc ms D dy S Post pc ls (.long w :: .long x :: st) := fun p l e s m a b me c A X H lo cl sl Y la hl => lv_lmul X.1 X.2.1 d (k p l e s m a b me c A X H lo cl sl Y la hl)
theorem r_idiv {x w : Int32} (d : decode cc pc = .ok (.idiv, 1)) (hne : ¬ w = 0) (k : Rn y cc nL ret rm mc ms D dy S Post (pc + 1) ls (.int (x / w) :: st)) : Rn y cc nL ret rm mc ms D dy S Post pc ls (.int w :: .int x :: st) := fun p l e s m a b me c A X H lo cl sl Y la hl => lv_idiv X.1 X.2.1 d hne (k p l e s m a b me c A X H lo cl sl Y la hl)
theorem r_irem {x w : Int32} (d : decode cc pc = .ok (.irem, 1)) (hne : ¬ w = 0) (k : Rn y cc nL ret rm mc ms D dy S Post (pc + 1) ls (.int (x - x / w * w) :: st)) : Rn y cc nL ret rm mc ms D dy S Post pc ls (.int w :: .int x :: st) := fun p l e s m a b me c A X H lo cl sl Y la hl => lv_irem X.1 X.2.1 d hne (k p l e s m a b me c A X H lo cl sl Y la hl)
theorem r_ldiv {x w : Int64} (d : decode cc pc = .ok (.ldiv, 1)) (hne : ¬ w = 0) (k : Rn y cc nL ret rm mc ms D dy S Post (pc + 1) ls (.long (x / w) :: st)) : Rn y cc nL ret rm mc ms D dy S Post pc ls (.long w :: .long x :: st) := fun p l e s m a b me c A X H lo cl sl Y la hl => lv_ldiv X.1 X.2.1 d hne (k p l e s m a b me c A X H lo cl sl Y la hl)
theorem r_lrem {x w : Int64} (d : decode cc pc = .ok (.lrem, 1)) (hne : ¬ w = 0) (k : Rn y cc nL ret rm mc ms D dy S Post (pc + 1) ls (.long (x - x / w * w) :: st)) : Rn y cc nL ret rm mc ms D dy S Post pc ls (.long w :: .long x :: st) := fun p l e s m a b me c A X H lo cl sl Y la hl => lv_lrem X.1 X.2.1 d hne (k p l e s m a b me c A X H lo cl sl Y la hl)
theorem r_ineg {x : Int32} (d : decode cc pc = .ok (.ineg, 1)) (k : Rn y cc nL ret rm mc ms D dy S Post (pc + 1) ls (.int (-x) :: st)) : Rn y cc nL ret rm mc ms D dy S Post pc ls (.int x :: st) := fun p l e s m a b me c A X H lo cl sl Y la hl => lv_ineg X.1 X.2.1 d (k p l e s m a b me c A X H lo cl sl Y la hl)
theorem r_iushr {x w v : Int32} (d : decode cc pc = .ok (.iushr, 1)) (hv : (x.toUInt32 >>> (w.toUInt32 &&& Int32.toUInt32 31)).toInt32 = v) (k : Rn y cc nL ret rm mc ms D dy S Post (pc + 1) ls (.int v :: st)) : Rn y cc nL ret rm mc ms D dy S Post pc ls (.int w :: .int x :: st) := fun p l e s m a b me c A X H lo cl sl Y la hl => lv_iushr X.1 X.2.1 d hv (k p l e s m a b me c A X H lo cl sl Y la hl)
theorem r_lshl {x : Int64} {w : Int32} (d : decode cc pc = .ok (.lshl, 1)) (k : Rn y cc nL ret rm mc ms D dy S Post (pc + 1) ls (.long (x <<< (w.toInt64 &&& 63)) :: st)) : Rn y cc nL ret rm mc ms D dy S Post pc ls (.int w :: .long x :: st) := fun p l e s m a b me c A X H lo cl sl Y la hl => lv_lshl X.1 X.2.1 d rfl (k p l e s m a b me c A X H lo cl sl Y la hl)
theorem r_i2l {x : Int32} (d : decode cc pc = .ok (.i2l, 1)) (k : Rn y cc nL ret rm mc ms D dy S Post (pc + 1) ls (.long x.toInt64 :: st)) : Rn y cc nL ret rm mc ms D dy S Post pc ls (.int x :: st) := fun p l e s m a b me c A X H lo cl sl Y la hl => lv_i2l X.1 X.2.1 d rfl (k p l e s m a b me c A X H lo cl sl Y la hl)
theorem r_l2i {x : Int64} (d : decode cc pc = .ok (.l2i, 1)) (k : Rn y cc nL ret rm mc ms D dy S Post (pc + 1) ls (.int x.toInt32 :: st)) : Rn y cc nL ret rm mc ms D dy S Post pc ls (.long x :: st) := fun p l e s m a b me c A X H lo cl sl Y la hl => lv_l2i X.1 X.2.1 d rfl (k p l e s m a b me c A X H lo cl sl Y la hl)
theorem r_i2b {x : Int32} (d : decode cc pc = .ok (.i2b, 1)) (k : Rn y cc nL ret rm mc ms D dy S Post (pc + 1) ls (.int x.toInt8.toInt32 :: st)) : Rn y cc nL ret rm mc ms D dy S Post pc ls (.int x :: st) := fun p l e s m a b me c A X H lo cl sl Y la hl => lv_i2b X.1 X.2.1 d rfl (k p l e s m a b me c A X H lo cl sl Y la hl)
theorem r_lcmp {x w : Int64} (d : decode cc pc = .ok (.lcmp, 1)) (k : Rn y cc nL ret rm mc ms D dy S Post (pc + 1) ls (.int (lg_cmp x w) :: st)) : Rn y cc nL ret rm mc ms D dy S Post pc ls (.long w :: .long x :: st) := fun p l e s m a b me c A X H lo cl sl Y la hl => W.lcmp X.1 X.2.1 d (k p l e s m a b me c A X H lo cl sl Y la hl)
theorem r_dup {v : Value} (d : decode cc pc = .ok (.dup, 1)) (hv : v.category = 1) (k : Rn y cc nL ret rm mc ms D dy S Post (pc + 1) ls (v :: v :: st)) : Rn y cc nL ret rm mc ms D dy S Post pc ls (v :: st) := fun p l e s m a b me c A X H lo cl sl Y la hl => lv_dup X.1 X.2.1 d hv (k p l e s m a b me c A X H lo cl sl Y la hl)
theorem r_pop {v : Value} (d : decode cc pc = .ok (.pop, 1)) (hv : v.category = 1) (k : Rn y cc nL ret rm mc ms D dy S Post (pc + 1) ls st) : Rn y cc nL ret rm mc ms D dy S Post pc ls (v :: st) := fun p l e s m a b me c A X H lo cl sl Y la hl => lv_pop X.1 X.2.1 d hv (k p l e s m a b me c A X H lo cl sl Y la hl)
theorem r_dup2 {v w : Value} (d : decode cc pc = .ok (.dup2, 1)) (hv : v.category = 1) (hw : w.category = 1) (k : Rn y cc nL ret rm mc ms D dy S Post (pc + 1) ls (v :: w :: v :: w :: st)) : Rn y cc nL ret rm mc ms D dy S Post pc ls (v :: w :: st) := fun p l e s m a b me c A X H lo cl sl Y la hl => lv_dup2_11 X.1 X.2.1 d hv hw (k p l e s m a b me c A X H lo cl sl Y la hl)
theorem r_goto {o : Int} {t : Nat} (d : decode cc pc = .ok (.goto o, 3)) (ht : (pc : Int) + o = (t : Int)) (k : Rn y cc nL ret rm mc ms D dy S Post t ls st) : Rn y cc nL ret rm mc ms D dy S Post pc ls st := fun p l e s m a b me c A X H lo cl sl Y la hl => lv_goto X.1 X.2.1 d ht (k p l e s m a b me c A X H lo cl sl Y la hl)
theorem r_ifnull {x : Nat} {o : Int} (d : decode cc pc = .ok (.ifnull o, 3)) (k : Rn y cc nL ret rm mc ms D dy S Post (pc + 3) ls st) : Rn y cc nL ret rm mc ms D dy S Post pc ls (.ref x :: st) := fun p l e s m a b me c A X H lo cl sl Y la hl => lv_ifnull X.1 X.2.1 d (k p l e s m a b me c A X H lo cl sl Y la hl)
theorem r_ifnullN {o : Int} {t : Nat} (d : decode cc pc = .ok (.ifnull o, 3)) (ht : (pc : Int) + o = (t : Int)) (k : Rn y cc nL ret rm mc ms D dy S Post t ls st) : Rn y cc nL ret rm mc ms D dy S Post pc ls (.null :: st) := fun p l e s m a b me c A X H lo cl sl Y la hl => lv_ifnullN X.1 X.2.1 d ht (k p l e s m a b me c A X H lo cl sl Y la hl)
theorem r_ifnonnull {x : Nat} {o : Int} {t : Nat} (d : decode cc pc = .ok (.ifnonnull o, 3)) (ht : (pc : Int) + o = (t : Int)) (k : Rn y cc nL ret rm mc ms D dy S Post t ls st) : Rn y cc nL ret rm mc ms D dy S Post pc ls (.ref x :: st) := fun p l e s m a b me c A X H lo cl sl Y la hl => lv_ifnonnull X.1 X.2.1 d ht (k p l e s m a b me c A X H lo cl sl Y la hl)
theorem r_ifnonnullN {o : Int} (d : decode cc pc = .ok (.ifnonnull o, 3)) (k : Rn y cc nL ret rm mc ms D dy S Post (pc + 3) ls st) : Rn y cc nL ret rm mc ms D dy S Post pc ls (.null :: st) := fun p l e s m a b me c A X H lo cl sl Y la hl => lv_ifnonnullN X.1 X.2.1 d (k p l e s m a b me c A X H lo cl sl Y la hl)
theorem r_if_eq {x : Int32} {o : Int} {t : Nat} (d : decode cc pc = .ok (.ifCond .eq o, 3)) (ht : (pc : Int) + o = (t : Int)) (kt : x = 0 → Rn y cc nL ret rm mc ms D dy S Post t ls st) (kf : ¬ x = 0 → Rn y cc nL ret rm mc ms D dy S Post (pc + 3) ls st) : Rn y cc nL ret rm mc ms D dy S Post pc ls (.int x :: st) := fun p l e s m a b me c A X H lo cl sl Y la hl => lv_if_eq X.1 X.2.1 d ht (fun q => kt q p l e s m a b me c A X H lo cl sl Y la hl) (fun q => kf q p l e s m a b me c A X H lo cl sl Y la hl)
theorem r_icmp_eq {x w : Int32} {o : Int} {t : Nat} (d : decode cc pc = .ok (.if_icmp .eq o, 3)) (ht : (pc : Int) + o = (t : Int)) (kt : x = w → Rn y cc nL ret rm mc ms D dy S Post t ls st) (kf : ¬ x = w → Rn y cc nL ret rm mc ms D dy S Post (pc + 3) ls st) : Rn y cc nL ret rm mc ms D dy S Post pc ls (.int w :: .int x :: st) := fun p l e s m a b me c A X H lo cl sl Y la hl => lv_icmp_eq X.1 X.2.1 d ht (fun q => kt q p l e s m a b me c A X H lo cl sl Y la hl) (fun q => kf q p l e s m a b me c A X H lo cl sl Y la hl)
theorem r_if_ne {x : Int32} {o : Int} {t : Nat} (d : decode cc pc = .ok (.ifCond .ne o, 3)) (ht : (pc : Int) + o = (t : Int)) (kt : ¬ x = 0 → Rn y cc nL ret rm mc ms D dy S Post t ls st) (kf : x = 0 → Rn y cc nL ret rm mc ms D dy S Post (pc + 3) ls st) : Rn y cc nL ret rm mc ms D dy S Post pc ls (.int x :: st) := fun p l e s m a b me c A X H lo cl sl Y la hl => lv_if_ne X.1 X.2.1 d ht (fun q => kt q p l e s m a b me c A X H lo cl sl Y la hl) (fun q => kf q p l e s m a b me c A X H lo cl sl Y la hl)
theorem r_icmp_ne {x w : Int32} {o : Int} {t : Nat} (d : decode cc pc = .ok (.if_icmp .ne o, 3)) (ht : (pc : Int) + o = (t : Int)) (kt : ¬ x = w → Rn y cc nL ret rm mc ms D dy S Post t ls st) (kf : x = w → Rn y cc nL ret rm mc ms D dy S Post (pc + 3) ls st) : Rn y cc nL ret rm mc ms D dy S Post pc ls (.int w :: .int x :: st) := fun p l e s m a b me c A X H lo cl sl Y la hl => lv_icmp_ne X.1 X.2.1 d ht (fun q => kt q p l e s m a b me c A X H lo cl sl Y la hl) (fun q => kf q p l e s m a b me c A X H lo cl sl Y la hl)
theorem r_if_lt {x : Int32} {o : Int} {t : Nat} (d : decode cc pc = .ok (.ifCond .lt o, 3)) (ht : (pc : Int) + o = (t : Int)) (kt : x < 0 → Rn y cc nL ret rm mc ms D dy S Post t ls st) (kf : ¬ x < 0 → Rn y cc nL ret rm mc ms D dy S Post (pc + 3) ls st) : Rn y cc nL ret rm mc ms D dy S Post pc ls (.int x :: st) := fun p l e s m a b me c A X H lo cl sl Y la hl => lv_if_lt X.1 X.2.1 d ht (fun q => kt q p l e s m a b me c A X H lo cl sl Y la hl) (fun q => kf q p l e s m a b me c A X H lo cl sl Y la hl)
theorem r_icmp_lt {x w : Int32} {o : Int} {t : Nat} (d : decode cc pc = .ok (.if_icmp .lt o, 3)) (ht : (pc : Int) + o = (t : Int)) (kt : x < w → Rn y cc nL ret rm mc ms D dy S Post t ls st) (kf : ¬ x < w → Rn y cc nL ret rm mc ms D dy S Post (pc + 3) ls st) : Rn y cc nL ret rm mc ms D dy S Post pc ls (.int w :: .int x :: st) := fun p l e s m a b me c A X H lo cl sl Y la hl => lv_icmp_lt X.1 X.2.1 d ht (fun q => kt q p l e s m a b me c A X H lo cl sl Y la hl) (fun q => kf q p l e s m a b me c A X H lo cl sl Y la hl)
theorem r_if_ge {x : Int32} {o : Int} {t : Nat} (d : decode cc pc = .ok (.ifCond .ge o, 3)) (ht : (pc : Int) + o = (t : Int)) (kt : 0 ≤ x → Rn y cc nL ret rm mc ms D dy S Post t ls st) (kf : ¬ 0 ≤ x → Rn y cc nL ret rm mc ms D dy S Post (pc + 3) ls st) : Rn y cc nL ret rm mc ms D dy S Post pc ls (.int x :: st) := fun p l e s m a b me c A X H lo cl sl Y la hl => lv_if_ge X.1 X.2.1 d ht (fun q => kt q p l e s m a b me c A X H lo cl sl Y la hl) (fun q => kf q p l e s m a b me c A X H lo cl sl Y la hl)
theorem r_icmp_ge {x w : Int32} {o : Int} {t : Nat} (d : decode cc pc = .ok (.if_icmp .ge o, 3)) (ht : (pc : Int) + o = (t : Int)) (kt : w ≤ x → Rn y cc nL ret rm mc ms D dy S Post t ls st) (kf : ¬ w ≤ x → Rn y cc nL ret rm mc ms D dy S Post (pc + 3) ls st) : Rn y cc nL ret rm mc ms D dy S Post pc ls (.int w :: .int x :: st) := fun p l e s m a b me c A X H lo cl sl Y la hl => lv_icmp_ge X.1 X.2.1 d ht (fun q => kt q p l e s m a b me c A X H lo cl sl Y la hl) (fun q => kf q p l e s m a b me c A X H lo cl sl Y la hl)
theorem r_if_gt {x : Int32} {o : Int} {t : Nat} (d : decode cc pc = .ok (.ifCond .gt o, 3)) (ht : (pc : Int) + o = (t : Int)) (kt : 0 < x → Rn y cc nL ret rm mc ms D dy S Post t ls st) (kf : ¬ 0 < x → Rn y cc nL ret rm mc ms D dy S Post (pc + 3) ls st) : Rn y cc nL ret rm mc ms D dy S Post pc ls (.int x :: st) := fun p l e s m a b me c A X H lo cl sl Y la hl => lv_if_gt X.1 X.2.1 d ht (fun q => kt q p l e s m a b me c A X H lo cl sl Y la hl) (fun q => kf q p l e s m a b me c A X H lo cl sl Y la hl)
theorem r_icmp_gt {x w : Int32} {o : Int} {t : Nat} (d : decode cc pc = .ok (.if_icmp .gt o, 3)) (ht : (pc : Int) + o = (t : Int)) (kt : w < x → Rn y cc nL ret rm mc ms D dy S Post t ls st) (kf : ¬ w < x → Rn y cc nL ret rm mc ms D dy S Post (pc + 3) ls st) : Rn y cc nL ret rm mc ms D dy S Post pc ls (.int w :: .int x :: st) := fun p l e s m a b me c A X H lo cl sl Y la hl => lv_icmp_gt X.1 X.2.1 d ht (fun q => kt q p l e s m a b me c A X H lo cl sl Y la hl) (fun q => kf q p l e s m a b me c A X H lo cl sl Y la hl)
theorem r_if_le {x : Int32} {o : Int} {t : Nat} (d : decode cc pc = .ok (.ifCond .le o, 3)) (ht : (pc : Int) + o = (t : Int)) (kt : x ≤ 0 → Rn y cc nL ret rm mc ms D dy S Post t ls st) (kf : ¬ x ≤ 0 → Rn y cc nL ret rm mc ms D dy S Post (pc + 3) ls st) : Rn y cc nL ret rm mc ms D dy S Post pc ls (.int x :: st) := fun p l e s m a b me c A X H lo cl sl Y la hl => lv_if_le X.1 X.2.1 d ht (fun q => kt q p l e s m a b me c A X H lo cl sl Y la hl) (fun q => kf q p l e s m a b me c A X H lo cl sl Y la hl)
theorem r_icmp_le {x w : Int32} {o : Int} {t : Nat} (d : decode cc pc = .ok (.if_icmp .le o, 3)) (ht : (pc : Int) + o = (t : Int)) (kt : x ≤ w → Rn y cc nL ret rm mc ms D dy S Post t ls st) (kf : ¬ x ≤ w → Rn y cc nL ret rm mc ms D dy S Post (pc + 3) ls st) : Rn y cc nL ret rm mc ms D dy S Post pc ls (.int w :: .int x :: st) := fun p l e s m a b me c A X H lo cl sl Y la hl => lv_icmp_le X.1 X.2.1 d ht (fun q => kt q p l e s m a b me c A X H lo cl sl Y la hl) (fun q => kf q p l e s m a b me c A X H lo cl sl Y la hl)
theorem r_sub {ls' : List (Nat × Value)} (ks : List Nat) (h : lv_pick ls ks = ls') (k : Rn y cc nL ret rm mc ms D dy S Post pc ls' st) : Rn y cc nL ret rm mc ms D dy S Post pc ls st := fun p l e s m a b me c A X H lo cl sl Y la hl => k p l e s m a b me c A X H lo cl sl Y la (lv_sub hl ks h)
theorem r_iret {v : Int32} (hr : ret = some .int) (d : decode cc pc = .ok (.ireturn, 1)) (hP : Post (some (.int v)) dy S) : Rn y cc nL ret rm mc ms D dy S Post pc ls [.int v] := by
  intro p l e s m a b me c A X H lo cl sl Y la hl
  refine W.widen (k := rm.cells) (n := rm.slots) (by have := Y.2.2.1; omega) (by have := Y.2.2.2; omega) ?_
  exact W.iret X.1 X.2.1 (X.2.2.2.1.trans hr) (fun t ht hW => ⟨⟨_, dy, S, rfl, hP, by rw [ht]; exact Y.1⟩, Y.2.1.F ht⟩) Y.2.1.2.2 d X.2.2.2.2.1
theorem r_zret {v : Int32} {ty : FieldType} (hr : ret = some ty) (hn : narrow ty (.int v) = .int v) (d : decode cc pc = .ok (.ireturn, 1)) (hP : Post (some (.int v)) dy S) : Rn y cc nL ret rm mc ms D dy S Post pc ls [.int v] := by
  intro p l e s m a b me c A X H lo cl sl Y la hl
  refine W.widen (k := rm.cells) (n := rm.slots) (by have := Y.2.2.1; omega) (by have := Y.2.2.2; omega) ?_
  exact W.zret X.1 X.2.1 (X.2.2.2.1.trans hr) hn (fun t ht hW => ⟨⟨_, dy, S, rfl, hP, by rw [ht]; exact Y.1⟩, Y.2.1.F ht⟩) Y.2.1.2.2 d X.2.2.2.2.1
theorem r_lret {v : Int64} (hr : ret = some .long) (d : decode cc pc = .ok (.lreturn, 1)) (hP : Post (some (.long v)) dy S) : Rn y cc nL ret rm mc ms D dy S Post pc ls [.long v] := by
  intro p l e s m a b me c A X H lo cl sl Y la hl
  refine W.widen (k := rm.cells) (n := rm.slots) (by have := Y.2.2.1; omega) (by have := Y.2.2.2; omega) ?_
  exact W.lret X.1 X.2.1 (X.2.2.2.1.trans hr) (fun t ht hW => ⟨⟨_, dy, S, rfl, hP, by rw [ht]; exact Y.1⟩, Y.2.1.F ht⟩) Y.2.1.2.2 d X.2.2.2.2.1
theorem r_vret (hr : ret = none) (d : decode cc pc = .ok (.return_, 1)) (hP : Post none dy S) : Rn y cc nL ret rm mc ms D dy S Post pc ls [] := by
  intro p l e s m a b me c A X H lo cl sl Y la hl
  refine W.widen (k := rm.cells) (n := rm.slots) (by have := Y.2.2.1; omega) (by have := Y.2.2.2; omega) ?_
  exact W.vret X.1 X.2.1 (X.2.2.2.1.trans hr) (fun t ht hW => ⟨⟨_, dy, S, rfl, hP, by rw [ht]; exact Y.1⟩, Y.2.1.F ht⟩) Y.2.1.2.2 d X.2.2.2.2.1
theorem r_aret {v : Value} {rt : FieldType} (hr : ret = some rt) (hrt : (∃ n, rt = .object n) ∨ ∃ t, rt = .array t) (hv : v = .null ∨ ∃ a, v = .ref a) (d : decode cc pc = .ok (.areturn, 1)) (hP : Post (some v) dy S) : Rn y cc nL ret rm mc ms D dy S Post pc ls [v] := by
  intro p l e s m a b me c A X H lo cl sl Y la hl
  refine W.widen (k := rm.cells) (n := rm.slots) (by have := Y.2.2.1; omega) (by have := Y.2.2.2; omega) ?_
  exact W.aret X.1 X.2.1 (X.2.2.2.1.trans hr) hrt hv (fun t ht hW => ⟨⟨_, dy, S, rfl, hP, by rw [ht]; exact Y.1⟩, Y.2.1.F ht⟩) Y.2.1.2.2 d X.2.2.2.2.1
/-- what a class's rows of the tables are -/
def k_cls (ci : Nat) (C : String) (T : u_T) (N : Nat) (Ty : Nat → FieldType) : Prop :=
  vwCl[ci]? = some (C, T, N) ∧ (∀ w ∈ u_ws C T N, k_in w) ∧ (∀ k, k < N → parseFieldDescriptor (T k).2.2.1 = some (Ty k)) ∧ (∀ a, a < N → ∀ b, b < N → a ≠ b → (T a).2.1 ≠ (T b).2.1) ∧ ∀ k, k < N → (T k).1 = C
theorem k_cls.hts {ci N : Nat} {C : String} {T : u_T} {Ty : Nat → FieldType} (h : k_cls ci C T N Ty) {s : State} (hT : k_Tb s) {a : Array Value} : ∀ w ∈ u_ws C T N, w.before a s = true := fun w hw => (h.2.1 w hw).use hT
theorem r_get {ci N f i : Nat} {C : String} {T : u_T} {Ty : Nat → FieldType} (hc : k_cls ci C T N Ty) (k0 : Nat) {fs : List Value} (he : k_cell D dy S k0 = some (.inr (ci, fs))) (hf : f < N) {v : Value} (hv : fs[f]? = some v) {a0 : Nat} (ha : k_ad D dy k0 = a0)
    (w : k_in (.fieldLink y.cls i C (T f).2.1 (T f).2.2.1)) (d : decode cc pc = .ok (.getfield i, 3)) (k : Rn y cc nL ret rm mc ms D dy S Post (pc + 3) ls (v :: st)) : Rn y cc nL ret rm mc ms D dy S Post pc ls (.ref a0 :: st) := by
  subst ha
  intro p l e s m a b me c A X H lo cl sl Y la hl
  have hC := hc.2.2.2.2 f hf
  refine va_get (D := D.1) (cl := vwCl) (ws := [(k_ad D dy k0, .inr (ci, fs))]) X.1 X.2.1 (hc.hts X.tb) (fun w h => h) X.own X.kn (Y.1.one he) 0 rfl hc.1 f hf (w.use X.tb) (fun x h => by rw [hC] at h; exact h) hv d ?_
  exact k p l e s m a b me c A X H lo cl sl Y la hl
theorem r_getN {ci N f i : Nat} {C host : String} {T : u_T} {Ty : Nat → FieldType} (hc : k_cls ci C T N Ty) (k0 : Nat) {fs : List Value} (he : k_cell D dy S k0 = some (.inr (ci, fs))) (hf : f < N) {v : Value} (hv : fs[f]? = some v) {a0 : Nat} (ha : k_ad D dy k0 = a0)
    (w : k_in (.fieldLinkNest y.cls i C (T f).2.1 (T f).2.2.1 host)) (d : decode cc pc = .ok (.getfield i, 3)) (k : Rn y cc nL ret rm mc ms D dy S Post (pc + 3) ls (v :: st)) : Rn y cc nL ret rm mc ms D dy S Post pc ls (.ref a0 :: st) := by
  subst ha
  intro p l e s m a b me c A X H lo cl sl Y la hl
  have hC := hc.2.2.2.2 f hf
  refine va_getN (D := D.1) (cl := vwCl) (ws := [(k_ad D dy k0, .inr (ci, fs))]) X.1 X.2.1 (hc.hts X.tb) (fun w h => h) X.own X.kn (Y.1.one he) 0 rfl hc.1 f hf (w.use X.tb) (fun x h => by rw [hC] at h; exact h) hv d ?_
  exact k p l e s m a b me c A X H lo cl sl Y la hl
/-- behind a store: the state's new name -/
theorem k_Y.set {S' : St} {s : State} {A : Nat → Prop} {H H1 : Heap} {lo lo1 : List Loc} {cl sl : Nat} (Y : k_Y rm mc ms D dy S s A H lo cl sl) {k0 : Nat} {e0 e : va_E} (he : k_cell D dy S k0 = some e0) (h1 : k_cell D dy S' k0 = some e) (h2 : ∀ j, j ≠ k0 → k_cell D dy S' j = k_cell D dy S j)
    (ha : va_at D.1 vwCl (k_ad D dy k0, e) H1) (oq : ∀ q : Nat, q ≠ k_ad D dy k0 → H1[q]? = H[q]?) (hS : va_S A s.heap H1 lo1) : k_Y rm mc ms D dy S' s A H1 lo1 cl sl := ⟨k_Wd.set Y.1 he ha oq h1 h2, hS, Y.2.2.1, Y.2.2.2⟩
theorem r_put {ci N f i : Nat} {C : String} {T : u_T} {Ty : Nat → FieldType} {S' : St} (hc : k_cls ci C T N Ty) (k0 : Nat) {fs : List Value} (he : k_cell D dy S k0 = some (.inr (ci, fs))) (hf : f < N) {v : Value} {a0 : Nat} (ha : k_ad D dy k0 = a0)
    (h1 : k_cell D dy S' k0 = some (.inr (ci, fs.set f v))) (h2 : ∀ j, j ≠ k0 → k_cell D dy S' j = k_cell D dy S j) (hfin : (T f).2.2.2 = false) (hn : narrow (Ty f) v = v) (hfit : fits (Ty f) v = true) (hlen : f < fs.length)
    (w : k_in (.fieldLink y.cls i C (T f).2.1 (T f).2.2.1)) (d : decode cc pc = .ok (.putfield i, 3)) (k : Rn y cc nL ret rm mc ms D dy S' Post (pc + 3) ls st) : Rn y cc nL ret rm mc ms D dy S Post pc ls (v :: .ref a0 :: st) := by
  subst ha
  intro p l e s m a b me c A X H lo cl sl Y la hl
  have hC := hc.2.2.2.2 f hf
  have hap := va_apart (own := y.cls) (cl := vwCl) (D := D.1) (hc.hts X.tb (a := a)) (fun w h => h) Ty hc.2.2.1 hc.2.2.2.1 X.kn hc.1
  obtain ⟨r, g1, cell, q1, q2, q3, q4⟩ := Y.1.1 k0 _ he
  have hr : r = (C, T, N) := Option.some.inj (g1.symm.trans hc.1)
  subst hr
  obtain ⟨hS, hfc, kC, hkC, hkind⟩ := X.kn.1 ci _ hc.1
  obtain ⟨cf, kf, fi, fl, hi, hsl⟩ := hS f hf
  have hlay := hc.hts X.tb (a := a) _ (u_in_lay hf)
  unfold u_lay at hlay
  rw [if_neg (by rw [hfin]; decide)] at hlay
  have hst := (u_facts hfc hkC (u_lays (hc.hts X.tb (a := a)) (fun w h => h) hf) hi).1
  have h6 := u_store hfc hkC hkind hlay hi (hc.2.2.1 f hf) hn hfit
  refine W.putK X.1 X.2.1 (f := fl) ⟨X.own, w.use X.tb, ⟨_, _, _, by rw [hC] at hi; exact hi⟩, hst⟩ (by rw [q2]; exact h6) q1 q3 (by rw [hsl]; exact k2_hasslot (q4 f hf)) rfl rfl d fun H' e1 e2 e3 => ?_
  rw [hsl] at e1 ⊢
  refine k p l e s m a b me c A X H' _ cl sl (Y.set he h1 h2 ⟨_, hc.1, t_OB.to (V := updV (vp_V fs) f v) ⟨_, e1, q2, q3, t_set q4 hap hf v⟩ (fun j _ => vp_updV_set hlen v j)⟩ e3 (Y.2.1.put e2 e3 (Y.1.2.2 k0 _ he))) la hl
theorem r_putN {ci N f i : Nat} {C host : String} {T : u_T} {Ty : Nat → FieldType} {S' : St} (hc : k_cls ci C T N Ty) (k0 : Nat) {fs : List Value} (he : k_cell D dy S k0 = some (.inr (ci, fs))) (hf : f < N) {v : Value} {a0 : Nat} (ha : k_ad D dy k0 = a0)
    (h1 : k_cell D dy S' k0 = some (.inr (ci, fs.set f v))) (h2 : ∀ j, j ≠ k0 → k_cell D dy S' j = k_cell D dy S j) (hfin : (T f).2.2.2 = false) (hn : narrow (Ty f) v = v) (hfit : fits (Ty f) v = true) (hlen : f < fs.length)
    (w : k_in (.fieldLinkNest y.cls i C (T f).2.1 (T f).2.2.1 host)) (d : decode cc pc = .ok (.putfield i, 3)) (k : Rn y cc nL ret rm mc ms D dy S' Post (pc + 3) ls st) : Rn y cc nL ret rm mc ms D dy S Post pc ls (v :: .ref a0 :: st) := by
  subst ha
  intro p l e s m a b me c A X H lo cl sl Y la hl
  have hC := hc.2.2.2.2 f hf
  have hap := va_apart (own := y.cls) (cl := vwCl) (D := D.1) (hc.hts X.tb (a := a)) (fun w h => h) Ty hc.2.2.1 hc.2.2.2.1 X.kn hc.1
  obtain ⟨r, g1, cell, q1, q2, q3, q4⟩ := Y.1.1 k0 _ he
  have hr : r = (C, T, N) := Option.some.inj (g1.symm.trans hc.1)
  subst hr
  obtain ⟨hS, hfc, kC, hkC, hkind⟩ := X.kn.1 ci _ hc.1
  obtain ⟨cf, kf, fi, fl, hi, hsl⟩ := hS f hf
  have hlay := hc.hts X.tb (a := a) _ (u_in_lay hf)
  unfold u_lay at hlay
  rw [if_neg (by rw [hfin]; decide)] at hlay
  have hst := (u_facts hfc hkC (u_lays (hc.hts X.tb (a := a)) (fun w h => h) hf) hi).1
  have h6 := u_store hfc hkC hkind hlay hi (hc.2.2.1 f hf) hn hfit
  refine va_WputK X.1 X.2.1 (f := fl) X.own (w.use X.tb) (by rw [hC] at hi; exact hi) hst (by rw [q2]; exact h6) q1 q3 (by rw [hsl]; exact k2_hasslot (q4 f hf)) rfl rfl d fun H' e1 e2 e3 => ?_
  rw [hsl] at e1 ⊢
  refine k p l e s m a b me c A X H' _ cl sl (Y.set he h1 h2 ⟨_, hc.1, t_OB.to (V := updV (vp_V fs) f v) ⟨_, e1, q2, q3, t_set q4 hap hf v⟩ (fun j _ => vp_updV_set hlen v j)⟩ e3 (Y.2.1.put e2 e3 (Y.1.2.2 k0 _ he))) la hl
/-! arrays -/
theorem r_iald {n : Nat} {g : Nat → Int32} (k0 : Nat) (he : k_cell D dy S k0 = some (.inl (D.2.1 0, n, .inl g))) {a0 : Nat} (ha : k_ad D dy k0 = a0) {i : Int32} (hin : vp_in i n) (d : decode cc pc = .ok (.iaload, 1)) (k : Rn y cc nL ret rm mc ms D dy S Post (pc + 1) ls (.int (g i.toNatClampNeg) :: st)) : Rn y cc nL ret rm mc ms D dy S Post pc ls (.int i :: .ref a0 :: st) := by
  subst ha
  intro p l e s m a b me c A X H lo cl sl Y la hl
  exact va_iald (D := D.1) (cl := vwCl) X.1 X.2.1 X.kn (Y.1.one he) 0 0 rfl rfl hin d (k p l e s m a b me c A X H lo cl sl Y la hl)
theorem r_bald {n : Nat} {g : Nat → Int32} (k0 : Nat) (he : k_cell D dy S k0 = some (.inl (D.2.1 1, n, .inl g))) {a0 : Nat} (ha : k_ad D dy k0 = a0) {i : Int32} (hin : vp_in i n) (d : decode cc pc = .ok (.baload, 1)) (k : Rn y cc nL ret rm mc ms D dy S Post (pc + 1) ls (.int (g i.toNatClampNeg) :: st)) : Rn y cc nL ret rm mc ms D dy S Post pc ls (.int i :: .ref a0 :: st) := by
  subst ha
  intro p l e s m a b me c A X H lo cl sl Y la hl
  exact va_bald (D := D.1) (cl := vwCl) X.1 X.2.1 X.kn (Y.1.one he) 0 1 rfl rfl hin d (k p l e s m a b me c A X H lo cl sl Y la hl)
theorem r_zald {n : Nat} {g : Nat → Int32} (k0 : Nat) (he : k_cell D dy S k0 = some (.inl (D.2.1 2, n, .inl g))) {a0 : Nat} (ha : k_ad D dy k0 = a0) {i : Int32} (hin : vp_in i n) (d : decode cc pc = .ok (.baload, 1)) (k : Rn y cc nL ret rm mc ms D dy S Post (pc + 1) ls (.int (g i.toNatClampNeg) :: st)) : Rn y cc nL ret rm mc ms D dy S Post pc ls (.int i :: .ref a0 :: st) := by
  subst ha
  intro p l e s m a b me c A X H lo cl sl Y la hl
  exact va_zald (D := D.1) (cl := vwCl) X.1 X.2.1 X.kn (Y.1.one he) 0 2 rfl rfl hin d (k p l e s m a b me c A X H lo cl sl Y la hl)
theorem r_lald {n : Nat} {g : Nat → Int64} (k0 : Nat) (he : k_cell D dy S k0 = some (.inl (D.2.1 3, n, .inr (.inl g)))) {a0 : Nat} (ha : k_ad D dy k0 = a0) {i : Int32} (hin : vp_in i n) (d : decode cc pc = .ok (.laload, 1)) (k : Rn y cc nL ret rm mc ms D dy S Post (pc + 1) ls (.long (g i.toNatClampNeg) :: st)) : Rn y cc nL ret rm mc ms D dy S Post pc ls (.int i :: .ref a0 :: st) := by
  subst ha
  intro p l e s m a b me c A X H lo cl sl Y la hl
  exact va_lald (D := D.1) (cl := vwCl) X.1 X.2.1 X.kn (Y.1.one he) 0 3 rfl rfl hin d (k p l e s m a b me c A X H lo cl sl Y la hl)
theorem r_alen (t0 : Nat) {cA : ClassId} {x : vp_A} {ty : FieldType} (k0 : Nat) (he : k_cell D dy S k0 = some (.inl (cA, x))) (ht : (k_tys D)[t0]? = some (cA, ty)) {a0 : Nat} (ha : k_ad D dy k0 = a0) {v : Int32} (hv : Int32.ofNat x.1 = v) (d : decode cc pc = .ok (.arraylength, 1)) (k : Rn y cc nL ret rm mc ms D dy S Post (pc + 1) ls (.int v :: st)) : Rn y cc nL ret rm mc ms D dy S Post pc ls (.ref a0 :: st) := by
  subst ha
  intro p l e s m a b me c A X H lo cl sl Y la hl
  exact va_alen (D := D.1) (cl := vwCl) X.1 X.2.1 X.kn (Y.1.one he) 0 t0 rfl ht hv d (k p l e s m a b me c A X H lo cl sl Y la hl)
theorem r_iast {S' : St} {n : Nat} {g : Nat → Int32} (k0 : Nat) (he : k_cell D dy S k0 = some (.inl (D.2.1 0, n, .inl (g)))) {a0 : Nat} (ha : k_ad D dy k0 = a0) {i : Int32} {x : Int32} (h1 : k_cell D dy S' k0 = some (.inl (D.2.1 0, n, .inl (upd g i.toNatClampNeg x)))) (h2 : ∀ j, j ≠ k0 → k_cell D dy S' j = k_cell D dy S j) (hin : vp_in i n) (d : decode cc pc = .ok (.iastore, 1)) (k : Rn y cc nL ret rm mc ms D dy S' Post (pc + 1) ls st) : Rn y cc nL ret rm mc ms D dy S Post pc ls (.int x :: .int i :: .ref a0 :: st) := by
  subst ha
  intro p l e s m a b me c A X H lo cl sl Y la hl
  refine W.iast X.1 X.2.1 (Y.1.1 k0 _ he) ((X.kn.2 0 _ rfl).1 n (fun j => .int (g j))) (fun q => by cases q) (by show ¬ (i < 0 ∨ (arrV _ _ _).slots.size ≤ _); rw [arrV_size]; exact hin) rfl rfl d fun H1 e1 z1 oq => ?_
  refine k p l e s m a b me c A X H1 _ cl sl (Y.set he h1 h2 ?_ oq (Y.2.1.put z1 oq (Y.1.2.2 k0 _ he))) la hl
  show H1[k_ad D dy k0]? = some (vp_cell _ _)
  rw [e1, vp_cell_i, vp_cell_i, arrV_store]
  congr 2
  funext q
  by_cases hq : q = i.toNatClampNeg
  · subst hq
    simp [updV, upd]
    try rfl
  · simp [updV, upd, hq]
theorem r_bast {S' : St} {n : Nat} {g : Nat → Int32} (k0 : Nat) (he : k_cell D dy S k0 = some (.inl (D.2.1 1, n, .inl (g)))) {a0 : Nat} (ha : k_ad D dy k0 = a0) {i : Int32} {x : Int32} (h1 : k_cell D dy S' k0 = some (.inl (D.2.1 1, n, .inl (upd g i.toNatClampNeg (vp_nar .byte x))))) (h2 : ∀ j, j ≠ k0 → k_cell D dy S' j = k_cell D dy S j) (hin : vp_in i n) (d : decode cc pc = .ok (.bastore, 1)) (k : Rn y cc nL ret rm mc ms D dy S' Post (pc + 1) ls st) : Rn y cc nL ret rm mc ms D dy S Post pc ls (.int x :: .int i :: .ref a0 :: st) := by
  subst ha
  intro p l e s m a b me c A X H lo cl sl Y la hl
  refine W.bast X.1 X.2.1 (Y.1.1 k0 _ he) ((X.kn.2 1 _ rfl).1 n (fun j => .int (g j))) (fun q => by cases q) (by show ¬ (i < 0 ∨ (arrV _ _ _).slots.size ≤ _); rw [arrV_size]; exact hin) rfl rfl d fun H1 e1 z1 oq => ?_
  refine k p l e s m a b me c A X H1 _ cl sl (Y.set he h1 h2 ?_ oq (Y.2.1.put z1 oq (Y.1.2.2 k0 _ he))) la hl
  show H1[k_ad D dy k0]? = some (vp_cell _ _)
  rw [e1, vp_cell_i, vp_cell_i, arrV_store]
  congr 2
  funext q
  by_cases hq : q = i.toNatClampNeg
  · subst hq
    simp [updV, upd, vp_nar]
    try rfl
  · simp [updV, upd, vp_nar, hq]
theorem r_zast {S' : St} {n : Nat} {g : Nat → Int32} (k0 : Nat) (he : k_cell D dy S k0 = some (.inl (D.2.1 2, n, .inl (g)))) {a0 : Nat} (ha : k_ad D dy k0 = a0) {i : Int32} {x : Int32} (h1 : k_cell D dy S' k0 = some (.inl (D.2.1 2, n, .inl (upd g i.toNatClampNeg (vp_nar .boolean x))))) (h2 : ∀ j, j ≠ k0 → k_cell D dy S' j = k_cell D dy S j) (hin : vp_in i n) (d : decode cc pc = .ok (.bastore, 1)) (k : Rn y cc nL ret rm mc ms D dy S' Post (pc + 1) ls st) : Rn y cc nL ret rm mc ms D dy S Post pc ls (.int x :: .int i :: .ref a0 :: st) := by
  subst ha
  intro p l e s m a b me c A X H lo cl sl Y la hl
  refine W.zast X.1 X.2.1 (Y.1.1 k0 _ he) ((X.kn.2 2 _ rfl).1 n (fun j => .int (g j))) (fun q => by cases q) (by show ¬ (i < 0 ∨ (arrV _ _ _).slots.size ≤ _); rw [arrV_size]; exact hin) rfl rfl d fun H1 e1 z1 oq => ?_
  refine k p l e s m a b me c A X H1 _ cl sl (Y.set he h1 h2 ?_ oq (Y.2.1.put z1 oq (Y.1.2.2 k0 _ he))) la hl
  show H1[k_ad D dy k0]? = some (vp_cell _ _)
  rw [e1, vp_cell_i, vp_cell_i, arrV_store]
  congr 2
  funext q
  by_cases hq : q = i.toNatClampNeg
  · subst hq
    simp [updV, upd, vp_nar]
    try rfl
  · simp [updV, upd, vp_nar, hq]
theorem r_last {S' : St} {n : Nat} {g : Nat → Int64} (k0 : Nat) (he : k_cell D dy S k0 = some (.inl (D.2.1 3, n, .inr (.inl (g))))) {a0 : Nat} (ha : k_ad D dy k0 = a0) {i : Int32} {x : Int64} (h1 : k_cell D dy S' k0 = some (.inl (D.2.1 3, n, .inr (.inl (vp_updL g i.toNatClampNeg x))))) (h2 : ∀ j, j ≠ k0 → k_cell D dy S' j = k_cell D dy S j) (hin : vp_in i n) (d : decode cc pc = .ok (.lastore, 1)) (k : Rn y cc nL ret rm mc ms D dy S' Post (pc + 1) ls st) : Rn y cc nL ret rm mc ms D dy S Post pc ls (.long x :: .int i :: .ref a0 :: st) := by
  subst ha
  intro p l e s m a b me c A X H lo cl sl Y la hl
  refine W.last X.1 X.2.1 (Y.1.1 k0 _ he) ((X.kn.2 3 _ rfl).1 n (fun j => .long (g j))) (fun q => by cases q) (by show ¬ (i < 0 ∨ (arrV _ _ _).slots.size ≤ _); rw [arrV_size]; exact hin) rfl rfl d fun H1 e1 z1 oq => ?_
  refine k p l e s m a b me c A X H1 _ cl sl (Y.set he h1 h2 ?_ oq (Y.2.1.put z1 oq (Y.1.2.2 k0 _ he))) la hl
  show H1[k_ad D dy k0]? = some (vp_cell _ _)
  rw [e1, vp_cell_l, vp_cell_l, arrV_store]
  congr 2
  funext q
  by_cases hq : q = i.toNatClampNeg
  · subst hq
    simp [updV, vp_updL]
    try rfl
  · simp [updV, vp_updL, hq]
theorem k_mono {z : MethodName} {zc : ByteArray} {zL : Nat} {zr : Option FieldType} {s : State} (hT : k_Tb s) (w : k_in (.code z zc zL zr)) : ∀ x ∈ [Cond.code z zc zL zr], ∀ (a' : Array Value) (U : State), s.WarmedH U.vm → x.before a' U = true := by
  intro x hx a' U hW
  rw [List.mem_singleton.mp hx]
  exact w.use (hT.moved hW)
theorem k_blind {args : List Value} {sz : Nat} : FrameBlind (va_Pc args (fun U => U.heap.size = sz ∧ World D dy S (fun _ => True) U.heap ∧ k_Kn D U ∧ k_Tb U ∧ k_Ot D (Ao D dy S sz) U U.heap)) := by
  intro a U g mk h
  obtain ⟨h1, h2, h3, h4, h5, h6⟩ := h
  exact ⟨h1, h2, h3, k_Kn.moved (u := U) (U := U.calling g mk a) (Vm.Alike.refl U.vm) h4, h5.moved (U := U.calling g mk a) (k_rf U), h6.moved (U := U.calling g mk a) (k_rf U)⟩
theorem k_pars {z : MethodName} {n : Nat} (h : (parseMethodDescriptor z.desc).map (fun d => d.parameters.length) = some n) : ∀ sig, parseMethodDescriptor z.desc = some sig → n = sig.parameters.length := fun sig hs => by
  rw [hs] at h
  exact (Option.some.inj h).symm
theorem k_Ao {s : State} {A : Nat → Prop} {H : Heap} {locs : List Loc} {cells slots : Nat} (hA : ∀ q : Nat, s.heap.size ≤ q → A q) (Y : k_Y rm mc ms D dy S s A H locs cells slots) : ∀ q, Ao D dy S H.size q → A q := by
  intro q h
  rcases h with ⟨k, f, hk, rfl⟩ | h
  · exact Y.1.2.2 k f hk
  · exact hA q (Nat.le_trans Y.2.1.1 h)
/-- behind a call, whatever its kind -/
theorem k_after {p : Program} {l : Launch} {e : Env} {s : State} {m : MethodId} {args : Array Value} {below : List Frame} {meth : Method} {c : Code} {A : Nat → Prop} {H : Heap} {locs : List Loc} {cells slots : Nat} {la : Array Slot} {rm2 : Room} {Post2 : k_Po} {rest st0 : List Value} {a : Array Value}
    (X : k_X y cc nL ret D p s m meth c A) (Y : k_Y rm mc ms D dy S s A H locs cells slots) (hl : lv_has la nL ls) (hmc : rm2.cells ≤ mc) (hms : rm2.slots ≤ ms)
    (hr : va_Run p l e rm s m args below meth c H locs cells slots rm2.cells rm2.slots (F0 m pc la st0) rest (k_Q D Post2 (Ao D dy S H.size) a) (Ao D dy S H.size))
    (kk : ∀ v dy1 S1, Post2 v dy1 S1 → Rn y cc nL ret rm (mc - rm2.cells) (ms - rm2.slots) D dy1 S1 Post (pc + 3) ls (v.toList ++ rest)) : W p l e rm s m args below meth c H locs cells slots (MQ below (k_Q D Post A) args s rm.cells rm.slots A) (F0 m pc la st0) := by
  have hA := k_Ao X.new Y
  intro T hT Z
  obtain ⟨v, st₀, t, T', L, h0, X', hL, e1, e2, ⟨⟨v', dy1, S1, hv, hp, hw⟩, hz, hk⟩, st⟩ := hr T hT Z
  cases hv
  rw [h0] at hz hk
  have hY : k_Y rm (mc - rm2.cells) (ms - rm2.slots) D dy1 S1 s A T'.heap (locs ++ L) (cells + rm2.cells) (slots + rm2.slots) := by
    refine ⟨by rw [e1]; exact hw.weaken (fun k f _ h => hA _ h), ⟨Nat.le_trans Y.2.1.1 (by rw [e1]; exact hz), fun q h1 h2 => ?_, fun q hq => ?_⟩, by have := Y.2.2.1; omega, by have := Y.2.2.2; omega⟩
    · rw [e1, hk q (Nat.lt_of_lt_of_le h1 Y.2.1.1) (fun z => h2 (hA q z))]
      exact Y.2.1.2.1 q h1 h2
    · rcases List.mem_append.mp hq with h | h
      · exact Y.2.1.2.2 q h
      · exact hA _ (hL q h)
  obtain ⟨t2, a1, b1⟩ := kk v dy1 S1 hp p l e s m args below meth c A X T'.heap (locs ++ L) (cells + rm2.cells) (slots + rm2.slots) hY la hl T' rfl X'
  exact ⟨t2, st t2 a1, b1⟩
theorem k_pre {s : State} {A : Nat → Prop} {H : Heap} {locs : List Loc} {cells slots : Nat} {As : List Value} (hT : k_Tb s) (hK : k_Kn D s) (hO : k_Ot D A s s.heap) (hN : ∀ q : Nat, s.heap.size ≤ q → A q) (Y : k_Y rm mc ms D dy S s A H locs cells slots) : PreS s H (va_Pc As (fun U => U.heap.size = H.size ∧ World D dy S (fun _ => True) U.heap ∧ k_Kn D U ∧ k_Tb U ∧ k_Ot D (Ao D dy S H.size) U U.heap)) As :=
  ⟨k_blind, fun U hU hW => ⟨rfl, by rw [hU], by rw [hU]; exact Y.1.weaken (fun _ _ _ _ => trivial), k_Kn.moved hW.alike hK, hT.moved hW, by rw [hU]; exact ((hO.kept Y.2.1.2.1).moved hW).narrow (k_Ao hN Y)⟩⟩
theorem k_recv {s : State} {A : Nat → Prop} {H : Heap} {locs : List Loc} {cells slots : Nat} {k0 ci : Nat} {fs : List Value} {r : vw_C} (hK : va_K D.1 vwCl (k_tys D) s) (Y : k_Y rm mc ms D dy S s A H locs cells slots) (hc : vwCl[ci]? = some r) (he : k_cell D dy S k0 = some (.inr (ci, fs))) : ∃ cell : Cell, H[k_ad D dy k0]? = some cell ∧ cell.vm.isStatics = false ∧ s.vm.findClass r.1 = some cell.cls :=
  va_recv (ws := [(k_ad D dy k0, .inr (ci, fs))]) hK (Y.1.one he) hc (q0 := 0) rfl
theorem r_callV {z : MethodName} {zc : ByteArray} {zL n i k0 ci a0 : Nat} {zr : Option FieldType} {rm2 : Room} {fs : List Value} {r : vw_C} {Post2 : k_Po} (As rest : List Value) (hS : Sp z zc zL zr rm2 D dy S (.ref a0 :: As) Post2) (w1 : k_in (.methodLink y.cls i z)) (w2 : k_in (.instanceMethod z)) (w3 : k_in (.selects r.1 z z)) (w4 : k_in (.code z zc zL zr)) (w5 : k_in (.initialized z.cls))
    (hd : (z.cls ≠ "java/lang/invoke/MethodHandle" ∧ z.cls ≠ "java/lang/invoke/VarHandle") ∧ (parseMethodDescriptor z.desc).map (fun d => d.parameters.length) = some n) (he : k_cell D dy S k0 = some (.inr (ci, fs))) (hc : vwCl[ci]? = some r) (ha : k_ad D dy k0 = a0) (hR : rm2.frames + 1 ≤ rm.frames ∧ 8 + (zL + 11) + rm2.locals ≤ rm.locals) (hmc : rm2.cells ≤ mc) (hms : rm2.slots ≤ ms)
    (hn : As.length = n) (hst : st = As.reverse ++ .ref a0 :: rest) (hcat : (rest.map fun v => v.category).sum ≤ 8) (d : decode cc pc = .ok (.invokevirtual i, 3)) (kk : ∀ v dy1 S1, Post2 v dy1 S1 → Rn y cc nL ret rm (mc - rm2.cells) (ms - rm2.slots) D dy1 S1 Post (pc + 3) ls (v.toList ++ rest)) : Rn y cc nL ret rm mc ms D dy S Post pc ls st := by
  subst ha
  subst hst
  intro p l e s m a b me c A X H lo cl sl Y la hl
  have hp := k_pre (As := .ref (k_ad D dy k0) :: As) X.tb X.kk X.ot X.new Y
  refine k_after (a := (Value.ref (k_ad D dy k0) :: As).toArray) X Y hl hmc hms ?_ kk
  exact va_runV (S := ⟨X.1, X.2.1, X.2.2.1, X.own, fun w h => absurd h (List.not_mem_nil (a := w))⟩) (Ts := []) (hS l H.size) ⟨⟨rfl, rfl, hR.1, hR.2, k_mono X.tb w4, List.mem_singleton.mpr rfl, w4.use X.tb, w5.use X.tb, hd.1, k_pars hd.2, w1.use X.tb⟩, w2.use X.tb, w3.use X.tb⟩ ⟨hp.1, k_recv X.kn Y hc he, hp.2⟩ rfl hn hl.1 rfl (lv_room hcat) d ⟨by have := Y.2.2.1; omega, by have := Y.2.2.2; omega⟩
theorem r_callVN {z : MethodName} {host : String} {zc : ByteArray} {zL n i k0 ci a0 : Nat} {zr : Option FieldType} {rm2 : Room} {fs : List Value} {r : vw_C} {Post2 : k_Po} (As rest : List Value) (hS : Sp z zc zL zr rm2 D dy S (.ref a0 :: As) Post2) (w1 : k_in (.methodLinkNest y.cls i z host)) (w2 : k_in (.instanceMethod z)) (w3 : k_in (.selects r.1 z z)) (w4 : k_in (.code z zc zL zr)) (w5 : k_in (.initialized z.cls))
    (hd : (z.cls ≠ "java/lang/invoke/MethodHandle" ∧ z.cls ≠ "java/lang/invoke/VarHandle") ∧ (parseMethodDescriptor z.desc).map (fun d => d.parameters.length) = some n) (he : k_cell D dy S k0 = some (.inr (ci, fs))) (hc : vwCl[ci]? = some r) (ha : k_ad D dy k0 = a0) (hR : rm2.frames + 1 ≤ rm.frames ∧ 8 + (zL + 11) + rm2.locals ≤ rm.locals) (hmc : rm2.cells ≤ mc) (hms : rm2.slots ≤ ms)
    (hn : As.length = n) (hst : st = As.reverse ++ .ref a0 :: rest) (hcat : (rest.map fun v => v.category).sum ≤ 8) (d : decode cc pc = .ok (.invokevirtual i, 3)) (kk : ∀ v dy1 S1, Post2 v dy1 S1 → Rn y cc nL ret rm (mc - rm2.cells) (ms - rm2.slots) D dy1 S1 Post (pc + 3) ls (v.toList ++ rest)) : Rn y cc nL ret rm mc ms D dy S Post pc ls st := by
  subst ha
  subst hst
  intro p l e s m a b me c A X H lo cl sl Y la hl
  have hp := k_pre (As := .ref (k_ad D dy k0) :: As) X.tb X.kk X.ot X.new Y
  refine k_after (a := (Value.ref (k_ad D dy k0) :: As).toArray) X Y hl hmc hms ?_ kk
  exact va_runVN (S := ⟨X.1, X.2.1, X.2.2.1, X.own, fun w h => absurd h (List.not_mem_nil (a := w))⟩) (Ts := []) (hS l H.size) ⟨⟨⟨rfl, rfl, hR.1, hR.2, k_mono X.tb w4, List.mem_singleton.mpr rfl⟩, w4.use X.tb, w5.use X.tb, hd.1, k_pars hd.2, w1.use X.tb⟩, w2.use X.tb, w3.use X.tb⟩ ⟨hp.1, k_recv X.kn Y hc he, hp.2⟩ rfl hn hl.1 rfl (lv_room hcat) d ⟨by have := Y.2.2.1; omega, by have := Y.2.2.2; omega⟩
theorem r_callS {z : MethodName} {zc : ByteArray} {zL n i : Nat} {zr : Option FieldType} {rm2 : Room} {Post2 : k_Po} (As rest : List Value) (hS : Sp z zc zL zr rm2 D dy S As Post2) (w1 : k_in (.methodLink y.cls i z)) (w2 : k_in (.static z)) (w4 : k_in (.code z zc zL zr)) (w5 : k_in (.initialized z.cls))
    (hd : (z.cls ≠ "java/lang/invoke/MethodHandle" ∧ z.cls ≠ "java/lang/invoke/VarHandle") ∧ (parseMethodDescriptor z.desc).map (fun d => d.parameters.length) = some n) (hR : rm2.frames + 1 ≤ rm.frames ∧ 8 + (zL + 11) + rm2.locals ≤ rm.locals) (hmc : rm2.cells ≤ mc) (hms : rm2.slots ≤ ms)
    (hn : As.length = n) (hst : st = As.reverse ++ rest) (hcat : (rest.map fun v => v.category).sum ≤ 8) (d : decode cc pc = .ok (.invokestatic i, 3)) (kk : ∀ v dy1 S1, Post2 v dy1 S1 → Rn y cc nL ret rm (mc - rm2.cells) (ms - rm2.slots) D dy1 S1 Post (pc + 3) ls (v.toList ++ rest)) : Rn y cc nL ret rm mc ms D dy S Post pc ls st := by
  subst hst
  intro p l e s m a b me c A X H lo cl sl Y la hl
  have hp := k_pre (As := As) X.tb X.kk X.ot X.new Y
  refine k_after (a := As.toArray) X Y hl hmc hms ?_ kk
  exact va_runS (S := ⟨X.1, X.2.1, X.2.2.1, X.own, fun w h => absurd h (List.not_mem_nil (a := w))⟩) (Ts := []) (hS l H.size) ⟨⟨rfl, rfl, hR.1, hR.2, k_mono X.tb w4, List.mem_singleton.mpr rfl, w4.use X.tb, w5.use X.tb, hd.1, k_pars hd.2, w1.use X.tb⟩, w2.use X.tb⟩ hp rfl hn hl.1 rfl (lv_room hcat) d ⟨by have := Y.2.2.1; omega, by have := Y.2.2.2; omega⟩
theorem r_callSN {z : MethodName} {host : String} {zc : ByteArray} {zL n i : Nat} {zr : Option FieldType} {rm2 : Room} {Post2 : k_Po} (As rest : List Value) (hS : Sp z zc zL zr rm2 D dy S As Post2) (w1 : k_in (.methodLinkNest y.cls i z host)) (w2 : k_in (.static z)) (w4 : k_in (.code z zc zL zr)) (w5 : k_in (.initialized z.cls))
    (hd : (z.cls ≠ "java/lang/invoke/MethodHandle" ∧ z.cls ≠ "java/lang/invoke/VarHandle") ∧ (parseMethodDescriptor z.desc).map (fun d => d.parameters.length) = some n) (hR : rm2.frames + 1 ≤ rm.frames ∧ 8 + (zL + 11) + rm2.locals ≤ rm.locals) (hmc : rm2.cells ≤ mc) (hms : rm2.slots ≤ ms)
    (hn : As.length = n) (hst : st = As.reverse ++ rest) (hcat : (rest.map fun v => v.category).sum ≤ 8) (d : decode cc pc = .ok (.invokestatic i, 3)) (kk : ∀ v dy1 S1, Post2 v dy1 S1 → Rn y cc nL ret rm (mc - rm2.cells) (ms - rm2.slots) D dy1 S1 Post (pc + 3) ls (v.toList ++ rest)) : Rn y cc nL ret rm mc ms D dy S Post pc ls st := by
  subst hst
  intro p l e s m a b me c A X H lo cl sl Y la hl
  have hp := k_pre (As := As) X.tb X.kk X.ot X.new Y
  refine k_after (a := As.toArray) X Y hl hmc hms ?_ kk
  exact va_runSN (S := ⟨X.1, X.2.1, X.2.2.1, X.own, fun w h => absurd h (List.not_mem_nil (a := w))⟩) (Ts := []) (hS l H.size) ⟨⟨⟨rfl, rfl, hR.1, hR.2, k_mono X.tb w4, List.mem_singleton.mpr rfl⟩, w4.use X.tb, w5.use X.tb, hd.1, k_pars hd.2, w1.use X.tb⟩, w2.use X.tb, trivial⟩ hp rfl hn hl.1 rfl (lv_room hcat) d ⟨by have := Y.2.2.1; omega, by have := Y.2.2.2; omega⟩
theorem r_max {i : Nat} {x w : Int32} (w1 : k_in (.methodLink y.cls i Lib.Math.max.name)) (w2 : k_in (.static Lib.Math.max.name)) (w3 : k_in (.initialized "java/lang/Math")) (w4 : k_in (.code Lib.Math.max.name Lib.Math.max.code 2 (some .int))) (hR : 1 ≤ rm.frames ∧ (st.map fun v => v.category).sum + 13 ≤ rm.locals) (d : decode cc pc = .ok (.invokestatic i, 3)) (k : Rn y cc nL ret rm mc ms D dy S Post (pc + 3) ls (.int (if x < w then w else x) :: st)) : Rn y cc nL ret rm mc ms D dy S Post pc ls (.int w :: .int x :: st) := by
  intro p l e s m a b me c A X H lo cl sl Y la hl
  exact va_mmax X.1 X.2.1 (X.2.2.1.trans hl.1.symm) X.own (w1.use X.tb) (w2.use X.tb) (w3.use X.tb) (w4.use X.tb) hR.1 hR.2 (by have := Y.2.2.1; omega) (by have := Y.2.2.2; omega) d (k p l e s m a b me c A X H lo cl sl Y la hl)
theorem r_min {i : Nat} {x w : Int32} (w1 : k_in (.methodLink y.cls i Lib.Math.min.name)) (w2 : k_in (.static Lib.Math.min.name)) (w3 : k_in (.initialized "java/lang/Math")) (w4 : k_in (.code Lib.Math.min.name Lib.Math.min.code 2 (some .int))) (hR : 1 ≤ rm.frames ∧ (st.map fun v => v.category).sum + 13 ≤ rm.locals) (d : decode cc pc = .ok (.invokestatic i, 3)) (k : Rn y cc nL ret rm mc ms D dy S Post (pc + 3) ls (.int (if w < x then w else x) :: st)) : Rn y cc nL ret rm mc ms D dy S Post pc ls (.int w :: .int x :: st) := by
  intro p l e s m a b me c A X H lo cl sl Y la hl
  exact va_mmin X.1 X.2.1 (X.2.2.1.trans hl.1.symm) X.own (w1.use X.tb) (w2.use X.tb) (w3.use X.tb) (w4.use X.tb) hR.1 hR.2 (by have := Y.2.2.1; omega) (by have := Y.2.2.2; omega) d (k p l e s m a b me c A X H lo cl sl Y la hl)
theorem r_tableOut {i : Nat} {dflt lo hi : Int} {offs : Array Int} {x : Int32} {t : Nat} (d : decode cc pc = .ok (.tableswitch dflt lo hi offs, i)) (h : x.toInt < lo ∨ hi < x.toInt) (ht : (pc : Int) + dflt = (t : Int)) (k : Rn y cc nL ret rm mc ms D dy S Post t ls st) : Rn y cc nL ret rm mc ms D dy S Post pc ls (.int x :: st) := fun p l e s m a b me c A X H lo cl sl Y la hl => lv_tableOut X.1 X.2.1 d h ht (k p l e s m a b me c A X H lo cl sl Y la hl)
theorem r_tableIn {i : Nat} {dflt lo hi : Int} {offs : Array Int} {x : Int32} {o : Int} {t : Nat} (d : decode cc pc = .ok (.tableswitch dflt lo hi offs, i)) (h1 : ¬ x.toInt < lo) (h2 : ¬ hi < x.toInt) (ho : offs[(x.toInt - lo).toNat]? = some o) (ht : (pc : Int) + o = (t : Int)) (k : Rn y cc nL ret rm mc ms D dy S Post t ls st) : Rn y cc nL ret rm mc ms D dy S Post pc ls (.int x :: st) := fun p l e s m a b me c A X H lo cl sl Y la hl => lv_tableIn X.1 X.2.1 d h1 h2 ho ht (k p l e s m a b me c A X H lo cl sl Y la hl)
end RR
/-! pure helps -/
theorem g_ite {α : Type} {c : Prop} [Decidable c] {a : Option α} {b : α} (h : (if c then a else none) = some b) : c ∧ a = some b := by
  by_cases q : c
  · rw [if_pos q] at h; exact ⟨q, h⟩
  · rw [if_neg q] at h; cases h
theorem g_bind {α β : Type} {x : Option α} {f : α → Option β} {b : β} (h : x.bind f = some b) : ∃ a, x = some a ∧ f a = some b := by
  cases x with
  | none => cases h
  | some a => exact ⟨a, rfl, h⟩
