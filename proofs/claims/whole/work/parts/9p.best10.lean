/-! part 9p: best: the reference's table, its numbers -/
def mxF (ok : Nat → Bool) (q : Nat → Nat) : Nat → Nat
  | 0 => 0
  | h + 1 => if ok h = true ∧ mxF ok q h < q h then q h else mxF ok q h
theorem mxF_s (ok : Nat → Bool) (q : Nat → Nat) (h : Nat) : mxF ok q (h + 1) = if ok h = true ∧ mxF ok q h < q h then q h else mxF ok q h := rfl
theorem mxF_ge {ok : Nat → Bool} {q : Nat → Nat} {h : Nat} (hk : ok h = true) : ∀ b, h < b → q h ≤ mxF ok q b := by
  intro b
  induction b with
  | zero => intro h; omega
  | succ b ih =>
    intro hb
    rw [mxF_s]
    by_cases e : h = b
    · subst e
      by_cases c : ok h = true ∧ mxF ok q h < q h
      · rw [if_pos c]; exact Nat.le_refl _
      · rw [if_neg c]
        by_cases z : mxF ok q h < q h
        · exact absurd ⟨hk, z⟩ c
        · omega
    · have := ih (by omega)
      by_cases c : ok b = true ∧ mxF ok q b < q b
      · rw [if_pos c]; omega
      · rw [if_neg c]; exact this
theorem mxF_at (ok : Nat → Bool) (q : Nat → Nat) : ∀ b, mxF ok q b = 0 ∨ ∃ h, h < b ∧ ok h = true ∧ q h = mxF ok q b := by
  intro b
  induction b with
  | zero => exact Or.inl rfl
  | succ b ih =>
    rw [mxF_s]
    by_cases c : ok b = true ∧ mxF ok q b < q b
    · rw [if_pos c]; exact Or.inr ⟨b, Nat.lt_succ_self b, c.1, rfl⟩
    · rw [if_neg c]
      rcases ih with z | ⟨h, a, z⟩
      · exact Or.inl z
      · exact Or.inr ⟨h, by omega, z⟩
theorem mxF_stop {ok : Nat → Bool} {q : Nat → Nat} {a : Nat} (h : ∀ y, a ≤ y → ok y = false) : ∀ b, a ≤ b → mxF ok q b = mxF ok q a := by
  intro b
  induction b with
  | zero => intro hb; rw [show a = 0 by omega]
  | succ b ih =>
    intro hb
    by_cases e : a = b + 1
    · rw [e]
    · rw [mxF_s, if_neg (fun z => by rw [h b (by omega)] at z; exact absurd z.1 Bool.false_ne_true)]
      exact ih (by omega)
def hsF (r : Nat → Int32) (V : Nat → Vd) (h s d : Nat) : Nat := if s.testBit (dOw r d) = true then cap r V h d else 0
def mwF (r : Nat → Int32) (V : Nat → Vd) (h s : Nat) : Nat → Nat → Nat
  | 0, _ => 0
  | k + 1, m => mxF (fun x => decide (x * dLn r (nD r - (k + 1)) ≤ m)) (fun x => x * (V (nD r - (k + 1))).1 + mwF r V h s k (m - x * dLn r (nD r - (k + 1)))) (hsF r V h s (nD r - (k + 1)) + 1)
theorem hsF_le {r : Nat → Int32} {V : Nat → Vd} {h s d : Nat} : hsF r V h s d ≤ cap r V h d := by
  unfold hsF
  by_cases c : s.testBit (dOw r d) = true
  · rw [if_pos c]; exact Nat.le_refl _
  · rw [if_neg c]; exact Nat.zero_le _
theorem mwF_ge {r : Nat → Int32} {V : Nat → Vd} {h s k m x : Nat} (h1 : x ≤ hsF r V h s (nD r - (k + 1))) (h2 : x * dLn r (nD r - (k + 1)) ≤ m) : x * (V (nD r - (k + 1))).1 + mwF r V h s k (m - x * dLn r (nD r - (k + 1))) ≤ mwF r V h s (k + 1) m :=
  mxF_ge (ok := fun x => decide (x * dLn r (nD r - (k + 1)) ≤ m)) (q := fun x => x * (V (nD r - (k + 1))).1 + mwF r V h s k (m - x * dLn r (nD r - (k + 1)))) (decide_eq_true h2) _ (Nat.lt_succ_of_le h1)
theorem mwF_at (r : Nat → Int32) (V : Nat → Vd) (h s k m : Nat) : ∃ x, x ≤ hsF r V h s (nD r - (k + 1)) ∧ x * dLn r (nD r - (k + 1)) ≤ m ∧ x * (V (nD r - (k + 1))).1 + mwF r V h s k (m - x * dLn r (nD r - (k + 1))) = mwF r V h s (k + 1) m := by
  rcases mxF_at (fun x => decide (x * dLn r (nD r - (k + 1)) ≤ m)) (fun x => x * (V (nD r - (k + 1))).1 + mwF r V h s k (m - x * dLn r (nD r - (k + 1)))) (hsF r V h s (nD r - (k + 1)) + 1) with z | ⟨x, a, b, e⟩
  · have := mwF_ge (r := r) (V := V) (h := h) (s := s) (k := k) (m := m) (x := 0) (Nat.zero_le _) (by rw [Nat.zero_mul]; exact Nat.zero_le _)
    refine ⟨0, Nat.zero_le _, by rw [Nat.zero_mul]; exact Nat.zero_le _, ?_⟩
    have z' : mwF r V h s (k + 1) m = 0 := z
    omega
  · exact ⟨x, by omega, of_decide_eq_true b, e⟩
theorem mwF_bd {r : Nat → Int32} {V : Nat → Vd} (w : Wf r) (hV : ∀ d, d < nD r → (V d).1 ≤ 999) (h s : Nat) : ∀ k m, k ≤ nD r → mwF r V h s k m ≤ 8991 * k := by
  intro k
  induction k with
  | zero => intro m _; exact Nat.zero_le _
  | succ k ih =>
    intro m hk
    obtain ⟨x, a, b, e⟩ := mwF_at r V h s k m
    have h9 := Nat.le_trans (Nat.le_trans a hsF_le) (cap_9 w V h _)
    have := ih (m - x * dLn r (nD r - (k + 1))) (by omega)
    have := Nat.mul_le_mul h9 (hV (nD r - (k + 1)) (by omega))
    rw [← e]
    omega
def tl (n : Nat) (f : Nat → Nat) : Nat → Nat
  | 0 => 0
  | k + 1 => f (n - (k + 1)) + tl n f k
theorem tl_s (n : Nat) (f : Nat → Nat) (k : Nat) : tl n f (k + 1) = f (n - (k + 1)) + tl n f k := rfl
theorem tl_sm {n : Nat} (f : Nat → Nat) : ∀ k, k ≤ n → sm f (n - k) + tl n f k = sm f n := by
  intro k
  induction k with
  | zero => intro _; rfl
  | succ k ih =>
    intro hk
    have := ih (by omega)
    have e : n - k = (n - (k + 1)) + 1 := by omega
    rw [e] at this
    have e2 : sm f (n - (k + 1) + 1) = sm f (n - (k + 1)) + f (n - (k + 1)) := rfl
    rw [tl_s]
    omega
theorem tl_n {n : Nat} (f : Nat → Nat) : tl n f n = sm f n := by
  have := tl_sm (n := n) f n (Nat.le_refl n)
  rw [Nat.sub_self] at this
  rw [← this]
  exact (Nat.zero_add _).symm
/-- no choice is worth more than the table says -/
theorem mw_ub {r : Nat → Int32} {V : Nat → Vd} {h s : Nat} {c : Nat → Nat} (hc : ∀ e, c e ≤ hsF r V h s e) : ∀ k m, k ≤ nD r → tl (nD r) (fun d => c d * dLn r d) k ≤ m → tl (nD r) (fun d => c d * (V d).1) k ≤ mwF r V h s k m := by
  intro k
  induction k with
  | zero => intro m _ _; exact Nat.zero_le _
  | succ k ih =>
    intro m hk hm
    rw [tl_s] at hm ⊢
    have hm' : c (nD r - (k + 1)) * dLn r (nD r - (k + 1)) + tl (nD r) (fun d => c d * dLn r d) k ≤ m := hm
    have a := ih (m - c (nD r - (k + 1)) * dLn r (nD r - (k + 1))) (by omega) (by omega)
    have b := mwF_ge (V := V) (k := k) (m := m) (hc (nD r - (k + 1))) (by omega)
    show c (nD r - (k + 1)) * (V (nD r - (k + 1))).1 + _ ≤ _
    omega
def fstF (p : Nat → Bool) : Nat → Nat → Nat
  | 0, h => h
  | f + 1, h => if p h = true then h else fstF p f (h + 1)
theorem fstF_p {p : Nat → Bool} : ∀ f h x, h ≤ x → x < h + f → p x = true → p (fstF p f h) = true ∧ h ≤ fstF p f h ∧ fstF p f h ≤ x ∧ ∀ y, h ≤ y → y < fstF p f h → p y = false := by
  intro f
  induction f with
  | zero => intro h x a b; omega
  | succ f ih =>
    intro h x a b px
    have e : fstF p (f + 1) h = if p h = true then h else fstF p f (h + 1) := rfl
    rw [e]
    by_cases c : p h = true
    · rw [if_pos c]
      exact ⟨c, Nat.le_refl _, a, fun y h1 h2 => by omega⟩
    · rw [if_neg c]
      have hx : h ≠ x := fun z => c (z ▸ px)
      obtain ⟨a1, a2, a3, a4⟩ := ih (h + 1) x (by omega) (by omega) px
      refine ⟨a1, by omega, a3, fun y h1 h2 => ?_⟩
      by_cases z : y = h
      · rw [z]; simpa using c
      · exact a4 y (by omega) h2
/-- the row that the reference reads off: by debts, the fewest halves that still give the most -/
def pB (r : Nat → Int32) (V : Nat → Vd) (h s d m x : Nat) : Bool := decide (x * dLn r d ≤ m ∧ x * (V d).1 + mwF r V h s (nD r - (d + 1)) (m - x * dLn r d) = mwF r V h s (nD r - d) m)
def lfG (r : Nat → Int32) (V : Nat → Vd) (h s m0 : Nat) : Nat → Nat
  | 0 => m0
  | d + 1 => lfG r V h s m0 d - fstF (pB r V h s d (lfG r V h s m0 d)) 10 0 * dLn r d
def cG (r : Nat → Int32) (V : Nat → Vd) (h s m0 d : Nat) : Nat := if d < nD r then fstF (pB r V h s d (lfG r V h s m0 d)) 10 0 else 0
theorem cG_p {r : Nat → Int32} {V : Nat → Vd} (w : Wf r) (h s m0 : Nat) {d : Nat} (hd : d < nD r) : pB r V h s d (lfG r V h s m0 d) (cG r V h s m0 d) = true ∧ cG r V h s m0 d ≤ hsF r V h s d ∧ (∀ y, y < cG r V h s m0 d → pB r V h s d (lfG r V h s m0 d) y = false) ∧ lfG r V h s m0 (d + 1) = lfG r V h s m0 d - cG r V h s m0 d * dLn r d := by
  have e : cG r V h s m0 d = fstF (pB r V h s d (lfG r V h s m0 d)) 10 0 := if_pos hd
  have e2 : lfG r V h s m0 (d + 1) = lfG r V h s m0 d - fstF (pB r V h s d (lfG r V h s m0 d)) 10 0 * dLn r d := rfl
  obtain ⟨x, a, b, c⟩ := mwF_at r V h s (nD r - (d + 1)) (lfG r V h s m0 d)
  have ed : nD r - (nD r - (d + 1) + 1) = d := by omega
  have ek : nD r - (d + 1) + 1 = nD r - d := by omega
  rw [ed] at a b c
  rw [ek] at c
  have x9 := Nat.le_trans (Nat.le_trans a hsF_le) (cap_9 w V h _)
  obtain ⟨p1, p2, p3, p4⟩ := fstF_p (p := pB r V h s d (lfG r V h s m0 d)) 10 0 x (Nat.zero_le _) (by omega) (decide_eq_true ⟨b, c⟩)
  rw [e, e2]
  exact ⟨p1, by omega, fun y hy => p4 y (Nat.zero_le _) hy, rfl⟩
theorem cG_hs {r : Nat → Int32} {V : Nat → Vd} (w : Wf r) (h s m0 d : Nat) : cG r V h s m0 d ≤ hsF r V h s d := by
  by_cases c : d < nD r
  · exact (cG_p w h s m0 c).2.1
  · have : cG r V h s m0 d = 0 := if_neg c
    omega
theorem cG_t {r : Nat → Int32} {V : Nat → Vd} (w : Wf r) (h s m0 : Nat) : ∀ k, k ≤ nD r → tl (nD r) (fun d => cG r V h s m0 d * (V d).1) k = mwF r V h s k (lfG r V h s m0 (nD r - k)) ∧ tl (nD r) (fun d => cG r V h s m0 d * dLn r d) k ≤ lfG r V h s m0 (nD r - k) := by
  intro k
  induction k with
  | zero => intro _; exact ⟨rfl, Nat.zero_le _⟩
  | succ k ih =>
    intro hk
    obtain ⟨a, b⟩ := ih (by omega)
    obtain ⟨p1, p2, p3, p4⟩ := cG_p (V := V) w h s m0 (show nD r - (k + 1) < nD r by omega)
    have ed : nD r - (k + 1) + 1 = nD r - k := by omega
    have e2 : nD r - (nD r - (k + 1)) = k + 1 := by omega
    have e3 : nD r - (nD r - (k + 1) + 1) = k := by omega
    unfold pB at p1
    rw [decide_eq_true_eq, e2, e3] at p1
    rw [ed] at p4
    rw [p4] at a b
    rw [tl_s, tl_s]
    constructor
    · show cG r V h s m0 (nD r - (k + 1)) * (V (nD r - (k + 1))).1 + _ = _
      rw [a, p1.2]
    · show cG r V h s m0 (nD r - (k + 1)) * dLn r (nD r - (k + 1)) + _ ≤ _
      have := p1.1
      omega
theorem tl_dg {r : Nat → Int32} (w : Wf r) {c : Nat → Nat} (hc : ∀ e, c e ≤ 9) : ∀ k, k ≤ nD r → tl (nD r) (fun d => c d * 10 ^ (15 - d)) k < 10 ^ (16 - nD r + k) := by
  have h16 := w.n16
  intro k
  induction k with
  | zero => intro _; exact Nat.pow_pos (by decide)
  | succ k ih =>
    intro hk
    have a := ih (by omega)
    have e : 15 - (nD r - (k + 1)) = 16 - nD r + k := by omega
    rw [tl_s, ← Nat.add_assoc, Nat.pow_succ]
    show c (nD r - (k + 1)) * 10 ^ (15 - (nD r - (k + 1))) + _ < _
    rw [e]
    have := Nat.mul_le_mul_right (10 ^ (16 - nD r + k)) (hc (nD r - (k + 1)))
    omega
/-- of all that give the most it is the first -/
theorem cG_lex {r : Nat → Int32} {V : Nat → Vd} (w : Wf r) (h s m0 : Nat) {c : Nat → Nat} (hc : ∀ e, c e ≤ hsF r V h s e) : ∀ k, k ≤ nD r → tl (nD r) (fun d => c d * dLn r d) k ≤ lfG r V h s m0 (nD r - k) → tl (nD r) (fun d => c d * (V d).1) k = mwF r V h s k (lfG r V h s m0 (nD r - k)) → tl (nD r) (fun d => cG r V h s m0 d * 10 ^ (15 - d)) k ≤ tl (nD r) (fun d => c d * 10 ^ (15 - d)) k := by
  have h16 := w.n16
  have c9 : ∀ e, cG r V h s m0 e ≤ 9 := fun e => Nat.le_trans (Nat.le_trans (cG_hs w h s m0 e) hsF_le) (cap_9 w V h e)
  intro k
  induction k with
  | zero => intro _ _ _; exact Nat.le_refl _
  | succ k ih =>
    intro hk h1 h2
    obtain ⟨p1, p2, p3, p4⟩ := cG_p (V := V) w h s m0 (show nD r - (k + 1) < nD r by omega)
    have ed : nD r - (k + 1) + 1 = nD r - k := by omega
    have e2 : nD r - (nD r - (k + 1)) = k + 1 := by omega
    have e3 : nD r - (nD r - (k + 1) + 1) = k := by omega
    rw [tl_s] at h1 h2
    have h1' : c (nD r - (k + 1)) * dLn r (nD r - (k + 1)) + tl (nD r) (fun d => c d * dLn r d) k ≤ lfG r V h s m0 (nD r - (k + 1)) := h1
    have h2' : c (nD r - (k + 1)) * (V (nD r - (k + 1))).1 + tl (nD r) (fun d => c d * (V d).1) k = mwF r V h s (k + 1) (lfG r V h s m0 (nD r - (k + 1))) := h2
    have g1 := mwF_ge (V := V) (k := k) (m := lfG r V h s m0 (nD r - (k + 1))) (hc (nD r - (k + 1))) (by omega)
    have g2 := mw_ub (V := V) hc k (lfG r V h s m0 (nD r - (k + 1)) - c (nD r - (k + 1)) * dLn r (nD r - (k + 1))) (by omega) (by omega)
    have pc : pB r V h s (nD r - (k + 1)) (lfG r V h s m0 (nD r - (k + 1))) (c (nD r - (k + 1))) = true := by
      unfold pB
      rw [decide_eq_true_eq, e2, e3]
      exact ⟨by omega, by omega⟩
    have le : cG r V h s m0 (nD r - (k + 1)) ≤ c (nD r - (k + 1)) := by
      by_cases z : c (nD r - (k + 1)) < cG r V h s m0 (nD r - (k + 1))
      · have := p3 _ z
        rw [pc] at this
        exact absurd this (by decide)
      · omega
    rw [tl_s, tl_s]
    show cG r V h s m0 (nD r - (k + 1)) * 10 ^ (15 - (nD r - (k + 1))) + _ ≤ c (nD r - (k + 1)) * 10 ^ (15 - (nD r - (k + 1))) + _
    by_cases e : cG r V h s m0 (nD r - (k + 1)) = c (nD r - (k + 1))
    · rw [ed] at p4
      rw [e] at p4 ⊢
      have := ih (by omega) (by rw [p4]; omega) (by rw [p4]; omega)
      omega
    · have t := tl_dg w c9 k (by omega)
      have ex : 15 - (nD r - (k + 1)) = 16 - nD r + k := by omega
      rw [ex]
      have := Nat.mul_le_mul_right (10 ^ (16 - nD r + k)) (show cG r V h s m0 (nD r - (k + 1)) + 1 ≤ c (nD r - (k + 1)) by omega)
      rw [Nat.add_mul, Nat.one_mul] at this
      omega
