/-! part 77: orders, pure -/
/-- of dance d: its dancer, its tune; of an ahead a: the first, the later -/
def eD (r : Nat → Int32) (d : Nat) : Nat := rN r (110 + 2 * d)
def eT (r : Nat → Int32) (d : Nat) : Nat := rN r (110 + 2 * d + 1)
def aF (r : Nat → Int32) (a : Nat) : Nat := rN r (130 + 2 * a)
def aL (r : Nat → Int32) (a : Nat) : Nat := rN r (130 + 2 * a + 1)
def abK (r : Nat → Int32) : Nat → Nat → Nat
  | 0 => fun _ => 0
  | a + 1 => fun d => if d = aL r a then abK r a d ||| 2 ^ aF r a else abK r a d
def wst (b : Nat → Nat) (t : Nat) : Nat → Nat := fun d => if (b d).testBit t = true then b d ||| b t else b d
def wgo (b : Nat → Nat) : Nat → Nat → Nat
  | 0 => b
  | t + 1 => wst (wgo b t) t
/-- who is ahead of d, also through others -/
def bfo (r : Nat → Int32) : Nat → Nat := wgo (abK r (rN r 6)) 10
def mine (r : Nat → Int32) (t m : Nat) : Nat := bs (fun e => decide (eT r e = t)) m
theorem Wf.ea {r : Nat → Int32} (w : Wf r) {a : Nat} (ha : a < rN r 6) : r (130 + 2 * a) = nI (aF r a) ∧ r (130 + 2 * a + 1) = nI (aL r a) ∧ aF r a < 10 ∧ aL r a < 10 ∧ aL r a < rN r 5 := by
  obtain ⟨h1, h2, -⟩ := w.2.2.2.2.2.2.2.2.2.2.2.2 a ha
  have h5 := w.2.2.2.2.2.1.2
  exact ⟨h1.1, h2.1, by have : aF r a < rN r 5 := h1.2; omega, by have : aL r a < rN r 5 := h2.2; omega, h2.2⟩
theorem Wf.ee {r : Nat → Int32} (w : Wf r) {d : Nat} (hd : d < rN r 5) : r (110 + 2 * d) = nI (eD r d) ∧ r (110 + 2 * d + 1) = nI (eT r d) ∧ eD r d < 8 ∧ eT r d < rN r 0 := by
  obtain ⟨h1, h2⟩ := w.2.2.2.2.2.2.2.2.2.2.2.1 d hd
  exact ⟨h1.1, h2.1, h1.2, h2.2⟩
theorem abK_lt {r : Nat → Int32} (w : Wf r) : ∀ (a d : Nat), a ≤ rN r 6 → abK r a d < 1024 := by
  intro a
  induction a with
  | zero => intro d _; show 0 < 1024; decide
  | succ a ih =>
    intro d ha
    have h := ih d (by omega)
    show (if d = aL r a then abK r a d ||| 2 ^ aF r a else abK r a d) < 1024
    by_cases c : d = aL r a
    · rw [if_pos c]; exact or_lt (m := 10) h (w.ea (show a < rN r 6 by omega)).2.2.1
    · rw [if_neg c]; exact h
theorem wst_lt {b : Nat → Nat} (h : ∀ d, b d < 1024) (t d : Nat) : wst b t d < 1024 := by
  unfold wst
  by_cases c : (b d).testBit t = true
  · rw [if_pos c]; exact Nat.or_lt_two_pow (n := 10) (h d) (h t)
  · rw [if_neg c]; exact h d
theorem wgo_lt {b : Nat → Nat} (h : ∀ d, b d < 1024) : ∀ t d, wgo b t d < 1024 := by
  intro t
  induction t with
  | zero => exact h
  | succ t ih => exact fun d => wst_lt ih t d
theorem bfo_lt {r : Nat → Int32} (w : Wf r) (d : Nat) : bfo r d < 1024 := wgo_lt (fun d => abK_lt w _ d (Nat.le_refl _)) 10 d
theorem mine_lt (r : Nat → Int32) (t : Nat) {m : Nat} (hm : m ≤ 10) : mine r t m < 1024 := Nat.lt_of_lt_of_le (bs_lt _ m) (Nat.pow_le_pow_right (n := 2) (by decide) hm)
theorem mine_tb (r : Nat → Int32) (t m i : Nat) : (mine r t m).testBit i = (decide (i < m) && decide (eT r i = t)) := bs_tb _ i m
/-- so many orders of s end with d -/
def eWf (B : Nat → Nat) (M : Nat) (w : Nat → Nat) (d s : Nat) : Nat := if s.testBit d = true ∧ an (B d &&& M) (an s (2 ^ d)) = 0 then w (an s (2 ^ d)) else 0
def wyF (B : Nat → Nat) (M : Nat) : Nat → Nat → Nat
  | 0, _ => 0
  | n + 1, s => if s = 0 then 1 else sm (fun d => eWf B M (wyF B M n) d s) 10
theorem sm_congr {f g : Nat → Nat} : ∀ {m : Nat}, (∀ d, d < m → f d = g d) → sm f m = sm g m := by
  intro m
  induction m with
  | zero => intro _; rfl
  | succ m ih =>
    intro h
    show sm f m + f m = sm g m + g m
    rw [ih (fun d hd => h d (by omega)), h m (by omega)]
theorem eWf_congr {B : Nat → Nat} {M : Nat} {w w' : Nat → Nat} {d s : Nat} (h : s.testBit d = true → w (an s (2 ^ d)) = w' (an s (2 ^ d))) : eWf B M w d s = eWf B M w' d s := by
  unfold eWf
  by_cases c : s.testBit d = true ∧ an (B d &&& M) (an s (2 ^ d)) = 0
  · rw [if_pos c, if_pos c, h c.1]
  · rw [if_neg c, if_neg c]
theorem wyF_st (B : Nat → Nat) (M : Nat) : ∀ (s n m : Nat), s < n → s < m → wyF B M n s = wyF B M m s := by
  intro s
  induction s using Nat.strongRecOn with
  | ind s ih =>
    intro n m hn hm
    obtain ⟨n, rfl⟩ : ∃ j, n = j + 1 := ⟨n - 1, by omega⟩
    obtain ⟨m, rfl⟩ : ∃ j, m = j + 1 := ⟨m - 1, by omega⟩
    show (if s = 0 then 1 else sm (fun d => eWf B M (wyF B M n) d s) 10) = (if s = 0 then 1 else sm (fun d => eWf B M (wyF B M m) d s) 10)
    rw [sm_congr (fun d _ => eWf_congr (fun hk => ih _ (an_lt hk) n m (by have := an_lt hk; omega) (by have := an_lt hk; omega)))]
def wy (B : Nat → Nat) (M s : Nat) : Nat := wyF B M (s + 1) s
theorem wy_eq (B : Nat → Nat) (M s : Nat) : wy B M s = if s = 0 then 1 else sm (fun d => eWf B M (wy B M) d s) 10 := by
  show (if s = 0 then 1 else sm (fun d => eWf B M (wyF B M s) d s) 10) = _
  rw [sm_congr (g := fun d => eWf B M (wy B M) d s) (fun d _ => eWf_congr (fun hk => wyF_st B M _ s (an s (2 ^ d) + 1) (an_lt hk) (by omega)))]
theorem sm_0 {f : Nat → Nat} : ∀ {m : Nat}, (∀ d, d < m → f d = 0) → sm f m = 0 := by
  intro m
  induction m with
  | zero => intro _; rfl
  | succ m ih =>
    intro h
    show sm f m + f m = 0
    rw [ih (fun d hd => h d (by omega)), h m (by omega)]
/-- who waits for one that isn't there never comes -/
theorem wy_0 {B : Nat → Nat} {M o d : Nat} (hd : (B o &&& M).testBit d = true) : ∀ s : Nat, s.testBit o = true → s.testBit d = false → wy B M s = 0 := by
  intro s
  induction s using Nat.strongRecOn with
  | ind s ih =>
    intro ho hn
    have hs : s ≠ 0 := by intro e; rw [e, Nat.zero_testBit] at ho; cases ho
    rw [wy_eq, if_neg hs]
    refine sm_0 (fun e _ => ?_)
    unfold eWf
    by_cases c : s.testBit e = true ∧ an (B e &&& M) (an s (2 ^ e)) = 0
    · rw [if_pos c]
      by_cases q : e = o
      · subst q
        have h0 : (an (B e &&& M) (an s (2 ^ e))).testBit d = true := by
          rw [an_tb, hd, an_tb, hn]
          rfl
        rw [c.2, Nat.zero_testBit] at h0
        cases h0
      · refine ih _ (an_lt c.1) ?_ ?_
        · rw [an_tb, ho, tb_2, decide_eq_false q]; rfl
        · rw [an_tb, hn]; rfl
    · rw [if_neg c]
/-- in how many orders dancer k is the last -/
def lst (r : Nat → Int32) (M k : Nat) : Nat := sm (fun d => if M.testBit d = true ∧ eD r d = k then eWf (bfo r) M (wy (bfo r) M) d M else 0) 10
/-- who can be the last -/
def cnF (r : Nat → Int32) (M : Nat) : Nat → Nat := bs (fun k => decide (¬ nI (lst r M k) ≤ nI 0))
