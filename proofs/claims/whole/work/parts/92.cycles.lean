/-! part 92: rings in a graph -/
def ps (p : Nat → Nat) : Nat → Nat
  | 0 => 0
  | n + 1 => ps p n ||| 2 ^ p n
theorem ps_tb (p : Nat → Nat) (k : Nat) : ∀ n, (ps p n).testBit k = true ↔ ∃ i, i < n ∧ p i = k := by
  intro n
  induction n with
  | zero =>
    show (0 : Nat).testBit k = true ↔ _
    rw [Nat.zero_testBit]
    exact ⟨fun h => Bool.noConfusion h, fun ⟨i, h, _⟩ => absurd h (Nat.not_lt_zero i)⟩
  | succ n ih =>
    show (ps p n ||| 2 ^ p n).testBit k = true ↔ _
    rw [or_tb, Bool.or_eq_true, ih, decide_eq_true_eq]
    constructor
    · rintro (⟨i, h1, h2⟩ | h)
      · exact ⟨i, by omega, h2⟩
      · exact ⟨n, by omega, h⟩
    · rintro ⟨i, h1, h2⟩
      by_cases q : i = n
      · exact Or.inr (q ▸ h2)
      · exact Or.inl ⟨i, by omega, h2⟩
theorem ps_lt {p : Nat → Nat} : ∀ {n : Nat}, (∀ i, i < n → p i < 8) → ps p n < 256 := by
  intro n
  induction n with
  | zero => intro _; exact (show (0 : Nat) < 256 by decide)
  | succ n ih => intro h; exact or_lt (m := 8) (ih (fun i hi => h i (by omega))) (h n (by omega))
/-- a ring of n dancers -/
def Cy (E : Nat → Nat → Bool) (n : Nat) (p : Nat → Nat) : Prop := 2 ≤ n ∧ (∀ i, i < n → p i < 8) ∧ (∀ i j, i < n → j < n → p i = p j → i = j) ∧ (∀ i, i + 1 < n → E (p i) (p (i + 1)) = true) ∧ E (p (n - 1)) (p 0) = true
/-- that begins with its lowest -/
def CyM (E : Nat → Nat → Bool) (n : Nat) (p : Nat → Nat) : Prop := Cy E n p ∧ ∀ i, 0 < i → i < n → p 0 < p i
def Be (E : Nat → Nat → Bool) (n : Nat) (p : Nat → Nat) : Prop := CyM E n p ∧ ∀ n' p', CyM E n' p' → n < n' ∨ (n = n' ∧ ps p n ≤ ps p' n')
theorem ex_low (p : Nat → Nat) : ∀ n, 0 < n → ∃ k, k < n ∧ ∀ i, i < n → p k ≤ p i := by
  intro n
  induction n with
  | zero => intro h; exact absurd h (Nat.lt_irrefl _)
  | succ n ih =>
    intro _
    by_cases z : n = 0
    · exact ⟨0, by omega, fun i hi => by rw [show i = 0 by omega]; exact Nat.le_refl _⟩
    · obtain ⟨k, h1, h2⟩ := ih (by omega)
      by_cases q : p n < p k
      · refine ⟨n, by omega, fun i hi => ?_⟩
        by_cases e : i = n
        · rw [e]; exact Nat.le_refl _
        · exact Nat.le_trans (Nat.le_of_lt q) (h2 i (by omega))
      · refine ⟨k, by omega, fun i hi => ?_⟩
        by_cases e : i = n
        · rw [e]; omega
        · exact h2 i (by omega)
def rI (n k i : Nat) : Nat := if i + k < n then i + k else i + k - n
theorem rI_a {n k i : Nat} (h : i + k < n) : rI n k i = i + k := if_pos h
theorem rI_b {n k i : Nat} (h : n ≤ i + k) : rI n k i = i + k - n := if_neg (by omega)
theorem rI_lt {n k i : Nat} (hk : k < n) (hi : i < n) : rI n k i < n := by
  by_cases c : i + k < n
  · rw [rI_a c]; exact c
  · rw [rI_b (by omega)]; omega
theorem rI_inj {n k i j : Nat} (hk : k < n) (hi : i < n) (hj : j < n) (h : rI n k i = rI n k j) : i = j := by
  by_cases c : i + k < n
  · by_cases d : j + k < n
    · rw [rI_a c, rI_a d] at h; omega
    · rw [rI_a c, rI_b (by omega)] at h; omega
  · by_cases d : j + k < n
    · rw [rI_b (by omega), rI_a d] at h; omega
    · rw [rI_b (by omega), rI_b (by omega)] at h; omega
theorem rot {E : Nat → Nat → Bool} {n : Nat} {p : Nat → Nat} (h : Cy E n p) : ∃ q, CyM E n q := by
  obtain ⟨h2, h8, hi, he, hc⟩ := h
  obtain ⟨k, hk, hl⟩ := ex_low p n (by omega)
  refine ⟨fun i => p (rI n k i), ⟨h2, fun i hx => h8 _ (rI_lt hk hx), fun i j x y e => rI_inj hk x y (hi _ _ (rI_lt hk x) (rI_lt hk y) e), fun i hx => ?_, ?_⟩, fun i h0 hx => ?_⟩
  · show E (p (rI n k i)) (p (rI n k (i + 1))) = true
    by_cases c : i + 1 + k < n
    · rw [rI_a (show i + k < n by omega), rI_a c, show i + 1 + k = i + k + 1 by omega]
      exact he _ (by omega)
    · by_cases d : i + k < n
      · rw [rI_a d, rI_b (by omega), show i + k = n - 1 by omega, show i + 1 + k - n = 0 by omega]
        exact hc
      · rw [rI_b (by omega), rI_b (by omega), show i + 1 + k - n = i + k - n + 1 by omega]
        exact he _ (by omega)
  · show E (p (rI n k (n - 1))) (p (rI n k 0)) = true
    rw [rI_a (show 0 + k < n by omega)]
    by_cases z : k = 0
    · rw [rI_a (show n - 1 + k < n by omega), z]
      exact hc
    · rw [rI_b (by omega), show 0 + k = n - 1 + k - n + 1 by omega]
      exact he _ (by omega)
  · show p (rI n k 0) < p (rI n k i)
    have e0 : rI n k 0 = k := by rw [rI_a (show 0 + k < n by omega)]; omega
    rw [e0]
    refine Nat.lt_of_le_of_ne (hl _ (rI_lt hk hx)) (fun e => ?_)
    have e1 := hi _ _ hk (rI_lt hk hx) e
    have := rI_inj (i := 0) (j := i) hk (by omega) hx (by rw [e0]; exact e1)
    omega
/-- a shortest ring has no chord -/
theorem chord {E : Nat → Nat → Bool} {n : Nat} {p : Nat → Nat} (hE : ∀ a, E a a = false) (hm : ∀ n' p', CyM E n' p' → n ≤ n') (h : Cy E n p) {i j : Nat} (hi : i < n) (hj : j < n) (e : E (p i) (p j) = true) : j = if i + 1 = n then 0 else i + 1 := by
  obtain ⟨h2, h8, hinj, he, hc⟩ := h
  have nij : i ≠ j := fun q => by rw [q, hE] at e; exact Bool.noConfusion e
  by_cases c : j < i
  · have cy : Cy E (i - j + 1) (fun x => p (j + x)) := by
      refine ⟨by omega, fun x hx => h8 _ (by omega), fun x y hx hy q => ?_, fun x hx => ?_, ?_⟩
      · have := hinj _ _ (show j + x < n by omega) (show j + y < n by omega) q
        omega
      · exact he (j + x) (by omega)
      · show E (p (j + (i - j + 1 - 1))) (p (j + 0)) = true
        rw [show j + (i - j + 1 - 1) = i by omega]
        exact e
    obtain ⟨q, hq⟩ := rot cy
    have := hm _ _ hq
    rw [if_pos (by omega)]
    omega
  · by_cases d : j = i + 1
    · rw [if_neg (by omega)]; exact d
    · exfalso
      have cy : Cy E (i + 1 + (n - j)) (fun x => p (if x ≤ i then x else x - (i + 1) + j)) := by
        have lt : ∀ x, x < i + 1 + (n - j) → (if x ≤ i then x else x - (i + 1) + j) < n := fun x hx => by
          by_cases q : x ≤ i
          · rw [if_pos q]; omega
          · rw [if_neg q]; omega
        refine ⟨by omega, fun x hx => h8 _ (lt x hx), fun x y hx hy q => ?_, fun x hx => ?_, ?_⟩
        · have := hinj _ _ (lt x hx) (lt y hy) q
          by_cases q1 : x ≤ i
          · by_cases q2 : y ≤ i
            · rw [if_pos q1, if_pos q2] at this; exact this
            · rw [if_pos q1, if_neg q2] at this; omega
          · by_cases q2 : y ≤ i
            · rw [if_neg q1, if_pos q2] at this; omega
            · rw [if_neg q1, if_neg q2] at this; omega
        · show E (p (if x ≤ i then x else x - (i + 1) + j)) (p (if x + 1 ≤ i then x + 1 else x + 1 - (i + 1) + j)) = true
          by_cases q1 : x + 1 ≤ i
          · rw [if_pos q1, if_pos (by omega)]; exact he x (by omega)
          · by_cases q2 : x ≤ i
            · rw [if_neg q1, if_pos q2, show x = i by omega, show i + 1 - (i + 1) + j = j by omega]
              exact e
            · rw [if_neg q1, if_neg q2, show x + 1 - (i + 1) + j = x - (i + 1) + j + 1 by omega]
              exact he _ (by omega)
        · show E (p (if i + 1 + (n - j) - 1 ≤ i then i + 1 + (n - j) - 1 else i + 1 + (n - j) - 1 - (i + 1) + j)) (p (if 0 ≤ i then 0 else 0 - (i + 1) + j)) = true
          rw [if_neg (by omega), if_pos (by omega), show i + 1 + (n - j) - 1 - (i + 1) + j = n - 1 by omega]
          exact hc
      obtain ⟨q, hq⟩ := rot cy
      have := hm _ _ hq
      omega
theorem Be.uniq {E : Nat → Nat → Bool} (hE : ∀ a, E a a = false) {n n' : Nat} {p p' : Nat → Nat} (h : Be E n p) (h' : Be E n' p') : n = n' ∧ ps p n = ps p' n' ∧ ∀ i, i < n → p i = p' i := by
  have a1 := h.2 n' p' h'.1
  have a2 := h'.2 n p h.1
  have hn : n = n' := by omega
  subst hn
  have hs : ps p n = ps p' n := by omega
  refine ⟨rfl, hs, ?_⟩
  obtain ⟨⟨⟨b2, b8, binj, be, bc⟩, bm⟩, bb⟩ := h
  obtain ⟨⟨⟨d2, d8, dinj, de, dc⟩, dm⟩, db⟩ := h'
  have sub : ∀ i, i < n → ∃ j, j < n ∧ p j = p' i := fun i hi => by
    refine (ps_tb p (p' i) n).mp ?_
    rw [hs]
    exact (ps_tb p' (p' i) n).mpr ⟨i, hi, rfl⟩
  have sub' : ∀ i, i < n → ∃ j, j < n ∧ p' j = p i := fun i hi => by
    refine (ps_tb p' (p i) n).mp ?_
    rw [← hs]
    exact (ps_tb p (p i) n).mpr ⟨i, hi, rfl⟩
  intro i
  induction i with
  | zero =>
    intro _
    obtain ⟨j, j1, j2⟩ := sub 0 (by omega)
    obtain ⟨k, k1, k2⟩ := sub' 0 (by omega)
    have x1 : p 0 ≤ p j := by
      by_cases z : j = 0
      · rw [z]; exact Nat.le_refl _
      · exact Nat.le_of_lt (bm j (by omega) j1)
    have x2 : p' 0 ≤ p' k := by
      by_cases z : k = 0
      · rw [z]; exact Nat.le_refl _
      · exact Nat.le_of_lt (dm k (by omega) k1)
    omega
  | succ i ih =>
    intro hi
    have e0 := ih (by omega)
    obtain ⟨j, j1, j2⟩ := sub (i + 1) hi
    have ee := de i hi
    rw [← e0, ← j2] at ee
    have := chord hE (fun n' p' hq => by have := bb n' p' hq; omega) ⟨b2, b8, binj, be, bc⟩ (show i < n by omega) j1 ee
    rw [if_neg (by omega)] at this
    rw [← j2, this]
