theorem q_956 : k_in (.static arraycopyName) := ⟨List.mem_of_getElem? (i := 956) (by decide +kernel), by decide +kernel⟩
theorem q_957 : k_in (.native arraycopyName) := ⟨List.mem_of_getElem? (i := 957) (by decide +kernel), by decide +kernel⟩
theorem q_1240 : k_in (.methodLink RX6 43 arraycopyName) := ⟨List.mem_of_getElem? (i := 1240) (by decide +kernel), by decide +kernel⟩
/-! copies of whole rows of ints -/
theorem k_Wd.lst {D : va_G} {F : Nat → Option va_E} {ad : Nat → Nat} {A : Nat → Prop} {H : Heap} (h : k_Wd D F ad A H) (n : Nat) : ∃ ws : va_W, (∀ (i : Nat) (q : Nat × va_E), ws[i]? = some q → ∃ (k : Nat) (e : va_E), k < n ∧ F k = some e ∧ q = (ad k, e)) ∧ (∀ (k : Nat) (e : va_E), k < n → F k = some e → ∃ i : Nat, ws[i]? = some (ad k, e)) ∧ ∀ (i j : Nat) (p q : Nat × va_E), ws[i]? = some p → ws[j]? = some q → p.1 = q.1 → i = j := by
  induction n with
  | zero => exact ⟨[], fun i q hi => by simp at hi, fun k e hk => absurd hk (Nat.not_lt_zero k), fun i j p q hi => by simp at hi⟩
  | succ n ih =>
    obtain ⟨ws, h1, h2, h3⟩ := ih
    cases hF : F n with
    | none =>
      refine ⟨ws, fun i q hi => ?_, fun k e hk he => ?_, h3⟩
      · obtain ⟨k, e, a1, a2, a3⟩ := h1 i q hi
        exact ⟨k, e, by omega, a2, a3⟩
      · rcases Nat.lt_succ_iff_lt_or_eq.mp hk with c | c
        · exact h2 k e c he
        · subst c
          rw [hF] at he
          cases he
    | some f =>
      have key : ∀ (i : Nat) (q : Nat × va_E), (ws ++ [(ad n, f)])[i]? = some q → (ws[i]? = some q) ∨ (i = ws.length ∧ q = (ad n, f)) := by
        intro i q hi
        by_cases c : i < ws.length
        · rw [List.getElem?_append_left c] at hi
          exact Or.inl hi
        · rw [List.getElem?_append_right (by omega)] at hi
          have : i - ws.length < 1 := (List.getElem?_eq_some_iff.mp hi).1
          have e0 : i - ws.length = 0 := by omega
          rw [e0] at hi
          cases hi
          exact Or.inr ⟨by omega, rfl⟩
      have apart : ∀ (i : Nat) (q : Nat × va_E), ws[i]? = some q → q.1 ≠ ad n := by
        intro i q hi e
        obtain ⟨k, g, a1, a2, a3⟩ := h1 i q hi
        rw [a3] at e
        have := h.2.1 k n g f a2 hF e
        omega
      refine ⟨ws ++ [(ad n, f)], fun i q hi => ?_, fun k e hk he => ?_, fun i j p q hi hj e => ?_⟩
      · rcases key i q hi with c | ⟨-, c⟩
        · obtain ⟨k, e, a1, a2, a3⟩ := h1 i q c
          exact ⟨k, e, by omega, a2, a3⟩
        · exact ⟨n, f, by omega, hF, c⟩
      · rcases Nat.lt_succ_iff_lt_or_eq.mp hk with c | c
        · obtain ⟨i, hi⟩ := h2 k e c he
          exact ⟨i, by rw [List.getElem?_append_left (List.getElem?_eq_some_iff.mp hi).1]; exact hi⟩
        · subst c
          rw [hF] at he
          cases he
          exact ⟨ws.length, by simp⟩
      · rcases key i p hi with c1 | ⟨c1, c2⟩ <;> rcases key j q hj with d1 | ⟨d1, d2⟩
        · exact h3 i j p q c1 d1 e
        · exact absurd (by rw [e, d2]) (apart i p c1)
        · exact absurd (by rw [← e, c2]) (apart j q d1)
        · omega
/-- two cells of a world, one of them written anew, the others kept: out of a row that speaks of lists -/
theorem k_Wd.via {D : va_G} {F F' : Nat → Option va_E} {ad : Nat → Nat} {A : Nat → Prop} {H : Heap} (h : k_Wd D F ad A H) {k0 k1 n : Nat} {e0 e1 e : va_E} (h0 : F k0 = some e0) (h1 : F k1 = some e1) (hn : ∀ k, n ≤ k → F k = none) (g1 : F' k1 = some e) (g2 : ∀ j, j ≠ k1 → F' j = F j) :
    ∃ (ws : va_W) (i0 i1 : Nat), va_P D vwCl ws H ∧ va_D A ws ∧ ws[i0]? = some (ad k0, e0) ∧ ws[i1]? = some (ad k1, e1) ∧ ∀ H1 : Heap, va_P D vwCl (ws.set i1 (ad k1, e)) H1 → k_Wd D F' ad A H1 := by
  obtain ⟨ws, a1, a2, a3⟩ := h.lst n
  have hlt : ∀ (k : Nat) (f : va_E), F k = some f → k < n := fun k f hk => by
    rcases Nat.lt_or_ge k n with c | c
    · exact c
    · rw [hn k c] at hk
      cases hk
  obtain ⟨i0, hi0⟩ := a2 k0 e0 (hlt k0 e0 h0) h0
  obtain ⟨i1, hi1⟩ := a2 k1 e1 (hlt k1 e1 h1) h1
  refine ⟨ws, i0, i1, fun i q hi => ?_, ⟨a3, fun i q hi => ?_⟩, hi0, hi1, fun H1 hP => ⟨fun k f hk => ?_, fun j k f g hj hk hjk => ?_, fun k f hk => ?_⟩⟩
  · obtain ⟨k, f, -, b2, b3⟩ := a1 i q hi
    rw [b3]
    exact h.1 k f b2
  · obtain ⟨k, f, -, b2, b3⟩ := a1 i q hi
    rw [b3]
    exact h.2.2 k f b2
  · by_cases c : k = k1
    · subst c
      rw [g1] at hk
      cases hk
      exact hP i1 _ (List.getElem?_set_self (List.getElem?_eq_some_iff.mp hi1).1)
    · rw [g2 k c] at hk
      obtain ⟨i, hi⟩ := a2 k f (hlt k f hk) hk
      have hne : i1 ≠ i := fun z => by
        subst z
        rw [hi1] at hi
        have := congrArg Prod.fst (Option.some.inj hi)
        exact c (h.2.1 k k1 f e1 hk h1 this.symm)
      exact hP i _ (by rw [List.getElem?_set_ne hne]; exact hi)
  · have key : ∀ (j : Nat) (f : va_E), F' j = some f → ∃ f0, F j = some f0 := fun j f hj => by
      by_cases q : j = k1
      · exact ⟨e1, by rw [q]; exact h1⟩
      · exact ⟨f, by rw [← g2 j q]; exact hj⟩
    obtain ⟨f0, b1⟩ := key j f hj
    obtain ⟨g0, b2⟩ := key k g hk
    exact h.2.1 j k f0 g0 b1 b2 hjk
  · by_cases q : k = k1
    · rw [q]; exact h.2.2 k1 e1 h1
    · exact h.2.2 k f (by rw [← g2 k q]; exact hk)
theorem k_cell_none (D : k_D) (dy : Nat → Nat) (S : St) : ∀ k, k_N + (30 + (gC S).length) ≤ k → k_cell D dy S k = none := by
  intro k hk
  unfold k_cell k_dyn
  rw [if_neg (by omega), if_neg (by omega)]
  rw [List.getElem?_eq_none (by omega)]
  rfl
def sF (S : St) (k : Nat) (f : Nat → Int32) : St := (S.1, S.2.1, k_up S.2.2.1 k f, S.2.2.2)
section R4
variable {y : MethodName} {cc : ByteArray} {nL : Nat} {ret : Option FieldType} {rm : Room} {mc ms : Nat} {D : k_D} {dy : Nat → Nat} {S : St} {Post : k_Po} {pc : Nat} {ls : List (Nat × Value)} {st : List Value}
theorem r_copy {S' : St} {n0 n1 i : Nat} {f g : Nat → Int32} {sp dp n : Int32} (k0 k1 : Nat) (h0 : k_cell D dy S k0 = some (.inl (D.2.1 0, n0, .inl f))) (h1 : k_cell D dy S k1 = some (.inl (D.2.1 0, n1, .inl g))) {a0 a1 : Nat} (ha0 : k_ad D dy k0 = a0) (ha1 : k_ad D dy k1 = a1)
    (g1 : k_cell D dy S' k1 = some (.inl (D.2.1 0, n1, .inl (va_cpy f g sp.toNatClampNeg dp.toNatClampNeg n.toNatClampNeg)))) (g2 : ∀ j, j ≠ k1 → k_cell D dy S' j = k_cell D dy S j) (hsp : ¬ sp < 0) (hdp : ¬ dp < 0) (hn : ¬ n < 0) (hs : sp.toNatClampNeg + n.toNatClampNeg ≤ n0) (hd : dp.toNatClampNeg + n.toNatClampNeg ≤ n1)
    (w1 : k_in (.methodLink y.cls i arraycopyName)) (w2 : k_in (.native arraycopyName)) (w3 : k_in (.static arraycopyName)) (w4 : k_in (.initialized "java/lang/System")) (hR : 1 ≤ rm.frames ∧ (st.map fun v => v.category).sum + (nativeFrameWords "java/lang/System" "arraycopy" 5 + 11) ≤ rm.locals) (d : decode cc pc = .ok (.invokestatic i, 3))
    (k : Rn y cc nL ret rm mc ms D dy S' Post (pc + 3) ls st) : Rn y cc nL ret rm mc ms D dy S Post pc ls (.int n :: .int dp :: .ref a1 :: .int sp :: .ref a0 :: st) := by
  subst ha0
  subst ha1
  intro p l e s m a b me c A X H lo cl sl Y la hl
  obtain ⟨ws, i0, i1, b1, b2, b3, b4, b5⟩ := k_Wd.via Y.1 h0 h1 (k_cell_none D dy S) g1 g2
  exact va_copyi X.1 X.2.1 (X.2.2.1.trans hl.1.symm) X.own (w1.use X.tb) (w2.use X.tb) (w3.use X.tb) (w4.use X.tb) X.kn b1 b2 Y.2.1 i0 i1 0 0 b3 b4 (ty := .int) rfl rfl rfl hsp hdp hn hs hd (fun _ _ => rfl) hR.1 hR.2 d (fun H1 locs1 c1 c2 c3 => k p l e s m a b me c A X H1 locs1 cl sl ⟨b5 H1 c1, c3, Y.2.2.1, Y.2.2.2⟩ la hl)
end R4
theorem k_rs {a b zL : Nat} (h1 : a + 1 ≤ b) (h2 : 8 + (zL + 11) + 60 * a ≤ 60 * b) : (k_rm a).frames + 1 ≤ (k_rm b).frames ∧ 8 + (zL + 11) + (k_rm a).locals ≤ (k_rm b).locals := ⟨h1, h2⟩
theorem k_sF_45 (D : k_D) (dy : Nat → Nat) (S : St) (f : Nat → Int32) : k_cell D dy (sF S 45 f) 45 = some (.inl (D.2.1 0, 16, .inl f)) ∧ ∀ j, j ≠ 45 → k_cell D dy (sF S 45 f) j = k_cell D dy S j := k_cset (by decide) rfl rfl
