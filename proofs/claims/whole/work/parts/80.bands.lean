/-! part 80: two bands, pure and the class's -/
def hoB (r : Nat → Int32) (V : Nat → Vd) (k d : Nat) : Bool := decide (dCr r d = k) && !(V d).2.1
def tkF (r : Nat → Int32) (d : Nat) : Nat := dHa r d * dLn r d
def hoM (r : Nat → Int32) (V : Nat → Vd) (k n : Nat) : Nat := bs (hoB r V k) n
def hoA (r : Nat → Int32) (V : Nat → Vd) (k n : Nat) : Nat := sm (fun d => if hoB r V k d = true then tkF r d else 0) n
/-- how long the set s takes, of the debts below n -/
def wtF (r : Nat → Int32) (s n : Nat) : Nat := sm (fun d => if s.testBit d = true then tkF r d else 0) n
theorem tk_bd {r : Nat → Int32} (w : Wf r) {d : Nat} (hd : d < nD r) : 1 ≤ tkF r d ∧ tkF r d ≤ 270 := by
  have h1 := w.ha hd
  have h2 := w.ln hd
  unfold tkF
  refine ⟨Nat.mul_pos h1.2.2 h2.2.2, ?_⟩
  exact Nat.le_trans (Nat.mul_le_mul (show dHa r d ≤ 9 by omega) (show dLn r d ≤ 30 by omega)) (by decide)
theorem sm_le2 {f g : Nat → Nat} : ∀ {m : Nat}, (∀ d, d < m → f d ≤ g d) → sm f m ≤ sm g m := by
  intro m
  induction m with
  | zero => intro _; exact Nat.le_refl _
  | succ m ih =>
    intro h
    have h1 := ih (fun d hd => h d (by omega))
    have h2 := h m (by omega)
    show sm f m + f m ≤ sm g m + g m
    omega
theorem hoA_bd {r : Nat → Int32} {V : Nat → Vd} (w : Wf r) (k : Nat) {m : Nat} (hm : m ≤ nD r) : hoA r V k m ≤ 270 * m := sm_le (fun d hd => by
  have := tk_bd w (show d < nD r by omega)
  show (if hoB r V k d = true then tkF r d else 0) ≤ 270
  by_cases c : hoB r V k d = true
  · rw [if_pos c]; omega
  · rw [if_neg c]; omega)
theorem wt_le {r : Nat → Int32} {V : Nat → Vd} {k s n : Nat} (h : s &&& hoM r V k n = s) : wtF r s n ≤ hoA r V k n := sm_le2 (fun d hd => by
  show (if s.testBit d = true then tkF r d else 0) ≤ (if hoB r V k d = true then tkF r d else 0)
  by_cases c : s.testBit d = true
  · have := sub_iff.mp h d c
    unfold hoM at this
    rw [bs_tb, Bool.and_eq_true] at this
    rw [if_pos c, if_pos this.2]
    exact Nat.le_refl _
  · rw [if_neg c]; exact Nat.zero_le _)
theorem wt_congr {r : Nat → Int32} {s t n : Nat} (h : ∀ d, d < n → s.testBit d = t.testBit d) : wtF r s n = wtF r t n := sm_congr (fun d hd => by
  show (if s.testBit d = true then tkF r d else 0) = (if t.testBit d = true then tkF r d else 0)
  rw [h d hd])
theorem wt_0 (r : Nat → Int32) (n : Nat) : wtF r 0 n = 0 := sm_0 (fun d _ => by
  show (if (0 : Nat).testBit d = true then tkF r d else 0) = 0
  rw [if_neg (by rw [Nat.zero_testBit]; decide)])
def lgF (A x : Nat) : Nat := max x (A - x)
/-- the sooner, of alike ones the lower set -/
def BestB (r : Nat → Int32) (V : Nat → Vd) (k L f : Nat) : Prop :=
  (f &&& hoM r V k (nD r) = f ∧ L = lgF (hoA r V k (nD r)) (wtF r f (nD r))) ∧ ∀ s, s &&& hoM r V k (nD r) = s → L < lgF (hoA r V k (nD r)) (wtF r s (nD r)) ∨ (L = lgF (hoA r V k (nD r)) (wtF r s (nD r)) ∧ f ≤ s)
theorem BestB.one {r : Nat → Int32} {V : Nat → Vd} {k L f L' f' : Nat} (h : BestB r V k L f) (g : BestB r V k L' f') : L = L' ∧ f = f' := by
  obtain ⟨⟨h1, h2⟩, h3⟩ := h
  obtain ⟨⟨g1, g2⟩, g3⟩ := g
  have a := h3 f' g1
  have b := g3 f h1
  omega
def oI : Option Nat → Int32
  | none => iZ (-((1 : Nat) : Int))
  | some s => nI s
/-- low holds the lowest set of each length, of the host's debts below n -/
def LowO (r : Nat → Int32) (V : Nat → Vd) (k n : Nat) (low : Nat → Option Nat) : Prop := ∀ x, x ≤ hoA r V k n →
  (∀ s, low x = some s → s &&& hoM r V k n = s ∧ wtF r s n = x) ∧ (∀ s, s &&& hoM r V k n = s → wtF r s n = x → ∃ s0, low x = some s0 ∧ s0 ≤ s)
def shl (low : Nat → Option Nat) (A tk d : Nat) (x : Nat) : Option Nat :=
  match (if x ≤ A then low x else none) with
  | some s => some s
  | none => if tk ≤ x ∧ x - tk ≤ A then (low (x - tk)).map (fun s => s ||| 2 ^ d) else none
theorem hoM_lt (r : Nat → Int32) (V : Nat → Vd) (k n : Nat) : hoM r V k n < 2 ^ n := bs_lt _ n
theorem sub_lt {s c m : Nat} (h : s &&& c = s) (hc : c < 2 ^ m) : s < 2 ^ m := by
  have : s &&& c ≤ c := Nat.and_le_right
  omega
theorem LowO.step {r : Nat → Int32} {V : Nat → Vd} {k n : Nat} {low : Nat → Option Nat} (h : LowO r V k n low) (hb : hoB r V k n = true) (ht : 1 ≤ tkF r n) : LowO r V k (n + 1) (shl low (hoA r V k n) (tkF r n) n) := by
  have eM : hoM r V k (n + 1) = hoM r V k n ||| 2 ^ n := if_pos hb
  have eA : hoA r V k (n + 1) = hoA r V k n + tkF r n := by
    show hoA r V k n + (if hoB r V k n = true then tkF r n else 0) = _
    rw [if_pos hb]
  have hMl := hoM_lt r V k n
  have nb : ∀ s, s &&& hoM r V k n = s → s.testBit n = false := fun s hs => tb_hi (sub_lt hs hMl) (Nat.le_refl n)
  have eW : ∀ s, wtF r s (n + 1) = wtF r s n + (if s.testBit n = true then tkF r n else 0) := fun _ => rfl
  have up : ∀ s, s &&& hoM r V k n = s → s &&& hoM r V k (n + 1) = s := fun s hs => by
    rw [sub_iff] at hs ⊢
    intro i hi
    rw [eM, Nat.testBit_or, hs i hi]; rfl
  have up2 : ∀ s, s &&& hoM r V k n = s → (s ||| 2 ^ n) &&& hoM r V k (n + 1) = s ||| 2 ^ n := fun s hs => by
    rw [sub_iff] at hs ⊢
    intro i hi
    rw [or_tb, Bool.or_eq_true] at hi
    rw [eM, or_tb, Bool.or_eq_true]
    rcases hi with hi | hi
    · exact Or.inl (hs i hi)
    · exact Or.inr hi
  have w2 : ∀ s, s &&& hoM r V k n = s → wtF r (s ||| 2 ^ n) n = wtF r s n := fun s hs => wt_congr (fun d hd => by
    rw [or_tb, decide_eq_false (show ¬ n = d by omega), Bool.or_false])
  intro x hx
  rw [eA] at hx
  refine ⟨fun s hs => ?_, fun s hs hw => ?_⟩
  · unfold shl at hs
    cases e1 : (if x ≤ hoA r V k n then low x else none) with
    | some s1 =>
      rw [e1] at hs
      cases hs
      by_cases c : x ≤ hoA r V k n
      · rw [if_pos c] at e1
        obtain ⟨a, b⟩ := (h x c).1 _ e1
        refine ⟨up _ a, ?_⟩
        rw [eW, nb _ a, b]; rfl
      · rw [if_neg c] at e1; cases e1
    | none =>
      rw [e1] at hs
      replace hs : (if tkF r n ≤ x ∧ x - tkF r n ≤ hoA r V k n then (low (x - tkF r n)).map (fun s => s ||| 2 ^ n) else none) = some s := hs
      by_cases c : tkF r n ≤ x ∧ x - tkF r n ≤ hoA r V k n
      · rw [if_pos c] at hs
        cases e2 : low (x - tkF r n) with
        | none => rw [e2] at hs; cases hs
        | some s2 =>
          rw [e2] at hs
          cases hs
          obtain ⟨a, b⟩ := (h _ c.2).1 _ e2
          refine ⟨up2 _ a, ?_⟩
          rw [eW, w2 _ a, b, if_pos (by rw [or_tb, decide_eq_true rfl, Bool.or_true])]
          omega
      · rw [if_neg c] at hs; cases hs
  · rw [eW] at hw
    unfold shl
    by_cases cb : s.testBit n = true
    · rw [if_pos cb] at hw
      have s' : an s (2 ^ n) &&& hoM r V k n = an s (2 ^ n) := by
        rw [sub_iff] at hs ⊢
        intro i hi
        rw [an_tb, Bool.and_eq_true, tb_2] at hi
        have := hs i hi.1
        rw [eM, or_tb, Bool.or_eq_true] at this
        rcases this with q | q
        · exact q
        · rw [q] at hi; cases hi.2
      have sw : wtF r (an s (2 ^ n)) n = wtF r s n := wt_congr (fun d hd => by
        rw [an_tb, tb_2, decide_eq_false (show ¬ n = d by omega)]; simp)
      have hle := wt_le s'
      rw [sw] at hle
      have se : an s (2 ^ n) ||| 2 ^ n = s := by
        apply Nat.eq_of_testBit_eq
        intro i
        rw [or_tb, an_tb, tb_2]
        by_cases q : n = i
        · subst q; rw [cb]; simp
        · simp [q]
      obtain ⟨s0, a, b⟩ := (h (x - tkF r n) (by omega)).2 _ s' (by omega)
      cases e1 : (if x ≤ hoA r V k n then low x else none) with
      | some s1 =>
        refine ⟨s1, rfl, ?_⟩
        by_cases c : x ≤ hoA r V k n
        · rw [if_pos c] at e1
          have := sub_lt ((h x c).1 _ e1).1 hMl
          have : 2 ^ n ≤ s := Nat.ge_two_pow_of_testBit cb
          omega
        · rw [if_neg c] at e1; cases e1
      | none =>
        refine ⟨s0 ||| 2 ^ n, ?_, ?_⟩
        · show (if tkF r n ≤ x ∧ x - tkF r n ≤ hoA r V k n then (low (x - tkF r n)).map (fun s => s ||| 2 ^ n) else none) = _
          rw [if_pos ⟨by omega, by omega⟩, a]
          rfl
        · have q0 := sub_lt ((h (x - tkF r n) (by omega)).1 _ a).1 hMl
          have q1 := sub_lt s' hMl
          have z1 : s0 ||| 2 ^ n = s0 + 2 ^ n := by
            rw [Nat.or_comm]
            have := Nat.two_pow_add_eq_or_of_lt q0 1
            rw [Nat.mul_one] at this
            omega
          have z2 : an s (2 ^ n) ||| 2 ^ n = an s (2 ^ n) + 2 ^ n := by
            rw [Nat.or_comm]
            have := Nat.two_pow_add_eq_or_of_lt q1 1
            rw [Nat.mul_one] at this
            omega
          rw [se] at z2
          omega
    · rw [if_neg cb, Nat.add_zero] at hw
      have s' : s &&& hoM r V k n = s := by
        rw [sub_iff] at hs ⊢
        intro i hi
        have := hs i hi
        rw [eM, or_tb, Bool.or_eq_true] at this
        rcases this with q | q
        · exact q
        · rw [decide_eq_true_eq] at q
          rw [← q] at hi
          exact absurd hi cb
      have hle := wt_le s'
      obtain ⟨s0, a, b⟩ := (h x (by omega)).2 s s' hw
      exact ⟨s0, by rw [if_pos (show x ≤ hoA r V k n by omega), a], b⟩
theorem LowO.skip {r : Nat → Int32} {V : Nat → Vd} {k n : Nat} {low : Nat → Option Nat} (h : LowO r V k n low) (hb : ¬ hoB r V k n = true) : LowO r V k (n + 1) low := by
  have eM : hoM r V k (n + 1) = hoM r V k n := if_neg hb
  have eA : hoA r V k (n + 1) = hoA r V k n := by
    show hoA r V k n + (if hoB r V k n = true then tkF r n else 0) = _
    rw [if_neg hb]; rfl
  have hMl := hoM_lt r V k n
  have eW : ∀ s, s &&& hoM r V k n = s → wtF r s (n + 1) = wtF r s n := fun s hs => by
    show wtF r s n + (if s.testBit n = true then tkF r n else 0) = _
    rw [tb_hi (sub_lt hs hMl) (Nat.le_refl n)]; rfl
  intro x hx
  rw [eA] at hx
  refine ⟨fun s hs => ?_, fun s hs hw => ?_⟩
  · obtain ⟨a, b⟩ := (h x hx).1 s hs
    rw [eM, eW s a]
    exact ⟨a, b⟩
  · rw [eM] at hs
    rw [eW s hs] at hw
    exact (h x hx).2 s hs hw
