/-! part 73: sets as bits -/
/-- the bits of s that c has not -/
def an (s c : Nat) : Nat := s ^^^ (s &&& c)
theorem an_tb (s c i : Nat) : (an s c).testBit i = (s.testBit i && !c.testBit i) := by
  unfold an
  rw [Nat.testBit_xor, Nat.testBit_and]
  cases s.testBit i <;> cases c.testBit i <;> rfl
theorem tb_2 (k i : Nat) : (2 ^ k).testBit i = decide (k = i) := Nat.testBit_two_pow
theorem m1_n : iZ (-((1 : Nat) : Int)) = nI 4294967295 := by decide
theorem tb_hi {s i m : Nat} (h : s < 2 ^ m) (hi : m ≤ i) : s.testBit i = false := Nat.testBit_lt_two_pow (Nat.lt_of_lt_of_le h (Nat.pow_le_pow_right (by decide) hi))
theorem n_an {s c : Nat} (hs : s < 4294967296) : nI s &&& (nI c ^^^ iZ (-((1 : Nat) : Int))) = nI (an s c) := by
  rw [m1_n, n_xor, n_and]
  congr 1
  apply Nat.eq_of_testBit_eq
  intro i
  rw [an_tb, Nat.testBit_and, Nat.testBit_xor, show (4294967295 : Nat) = 2 ^ 32 - 1 from rfl, Nat.testBit_two_pow_sub_one]
  by_cases h : i < 32
  · rw [decide_eq_true h]
    cases s.testBit i <;> cases c.testBit i <;> rfl
  · rw [tb_hi (m := 32) hs (by omega)]
    rfl
theorem an_le (s c : Nat) : an s c ≤ s := by
  have : an s c = s &&& (an s c) := by
    apply Nat.eq_of_testBit_eq
    intro i
    rw [Nat.testBit_and, an_tb]
    cases s.testBit i <;> cases c.testBit i <;> rfl
  rw [this]
  exact Nat.and_le_left
theorem an_lt {s k : Nat} (h : s.testBit k = true) : an s (2 ^ k) < s := by
  refine Nat.lt_of_le_of_ne (an_le _ _) (fun e => ?_)
  have := an_tb s (2 ^ k) k
  rw [e, h, tb_2, decide_eq_true rfl] at this
  cases this
theorem an_eq {s k : Nat} (h : s.testBit k = false) : an s (2 ^ k) = s := by
  apply Nat.eq_of_testBit_eq
  intro i
  rw [an_tb, tb_2]
  by_cases q : k = i
  · rw [← q, h]; rfl
  · rw [decide_eq_false q]; simp
theorem an_eqI {s k : Nat} : an s (2 ^ k) = s ↔ s.testBit k = false := by
  constructor
  · intro e
    cases h : s.testBit k with
    | false => rfl
    | true => exact absurd e (Nat.ne_of_lt (an_lt h))
  · exact an_eq
/-- s lies within c -/
theorem sub_iff {s c : Nat} : (s &&& c = s) ↔ ∀ i, s.testBit i = true → c.testBit i = true := by
  constructor
  · intro e i hi
    rw [← e, Nat.testBit_and, Bool.and_eq_true] at hi
    exact hi.2
  · intro h
    apply Nat.eq_of_testBit_eq
    intro i
    rw [Nat.testBit_and]
    cases hs : s.testBit i with
    | false => rfl
    | true => rw [h i hs]; rfl
theorem an_0 {s c : Nat} : an s c = 0 ↔ s &&& c = s := by
  rw [sub_iff]
  constructor
  · intro e i hi
    have := an_tb s c i
    rw [e, hi, Nat.zero_testBit] at this
    cases q : c.testBit i with
    | true => rfl
    | false => rw [q] at this; cases this
  · intro h
    apply Nat.eq_of_testBit_eq
    intro i
    rw [an_tb, Nat.zero_testBit]
    cases hs : s.testBit i with
    | false => rfl
    | true => rw [h i hs]; rfl
theorem an_sub {s c k : Nat} (h : s &&& c = s) : an s (2 ^ k) &&& c = an s (2 ^ k) := by
  rw [sub_iff] at h ⊢
  intro i hi
  rw [an_tb, Bool.and_eq_true] at hi
  exact h i hi.1
theorem or_lt {s m : Nat} (hs : s < 2 ^ m) {k : Nat} (hk : k < m) : s ||| 2 ^ k < 2 ^ m := Nat.or_lt_two_pow hs (Nat.pow_lt_pow_right (by decide) hk)
theorem or_tb (s k i : Nat) : (s ||| 2 ^ k).testBit i = (s.testBit i || decide (k = i)) := by
  rw [Nat.testBit_or, tb_2]
/-- the set of those below m that p holds of -/
def bs (p : Nat → Bool) : Nat → Nat
  | 0 => 0
  | k + 1 => if p k = true then bs p k ||| 2 ^ k else bs p k
theorem bs_lt (p : Nat → Bool) : ∀ m, bs p m < 2 ^ m := by
  intro m
  induction m with
  | zero => exact (by decide : 0 < 1)
  | succ m ih =>
    have h2 : bs p m < 2 ^ (m + 1) := Nat.lt_of_lt_of_le ih (Nat.pow_le_pow_right (by decide) (by omega))
    show (if p m = true then bs p m ||| 2 ^ m else bs p m) < 2 ^ (m + 1)
    by_cases c : p m = true
    · rw [if_pos c]; exact or_lt h2 (by omega)
    · rw [if_neg c]; exact h2
theorem bs_tb (p : Nat → Bool) (i : Nat) : ∀ m, (bs p m).testBit i = (decide (i < m) && p i) := by
  intro m
  induction m with
  | zero => show (0 : Nat).testBit i = _; rw [Nat.zero_testBit]; rfl
  | succ m ih =>
    show (if p m = true then bs p m ||| 2 ^ m else bs p m).testBit i = _
    by_cases c : p m = true
    · rw [if_pos c, or_tb, ih]
      by_cases q : m = i
      · subst q; simp [c]
      · by_cases z : i < m
        · simp [z, q, show i < m + 1 by omega]
        · simp [z, q, show ¬ i < m + 1 by omega]
    · rw [if_neg c, ih]
      by_cases q : m = i
      · subst q; simp [c]
      · by_cases z : i < m
        · simp [z, show i < m + 1 by omega]
        · simp [z, show ¬ i < m + 1 by omega]
theorem tb_ext {s t m : Nat} (hs : s < 2 ^ m) (ht : t < 2 ^ m) (h : ∀ i, i < m → s.testBit i = t.testBit i) : s = t := by
  apply Nat.eq_of_testBit_eq
  intro i
  by_cases c : i < m
  · exact h i c
  · rw [tb_hi hs (by omega), tb_hi ht (by omega)]
theorem bitc : ∀ s, s < 256 → ∀ S : St, f_J6_bitCount_0f7a4 (nI s) S = some (nI (pc16 s), S) := by
  have key : ∀ s, s < 256 → (f_J6_bitCount_0f7a4 (nI s) (fun _ => 0, fun _ => 0, fun _ _ => 0, fun _ _ => 0, fun _ _ => 0, [])).map (fun q => q.1) = some (nI (pc16 s)) := by decide +kernel
  intro s hs S
  have := key s hs
  unfold f_J6_bitCount_0f7a4 at this ⊢
  have e := Option.some.inj this
  exact congrArg (fun v => some (v, S)) e
theorem n_sum (N : Nat → Int) (s : Nat) {k : Nat} (hk : s.testBit k = true) : ∀ m, smZ (fun i => if (an s (2 ^ k)).testBit i = true then N i else 0) m + (if k < m then N k else 0) = smZ (fun i => if s.testBit i = true then N i else 0) m := by
  intro m
  induction m with
  | zero => rfl
  | succ m ih =>
    show smZ _ m + (if (an s (2 ^ k)).testBit m = true then N m else 0) + (if k < m + 1 then N k else 0) = smZ _ m + (if s.testBit m = true then N m else 0)
    rw [← ih, an_tb, tb_2]
    by_cases q : k = m
    · subst q
      rw [hk, decide_eq_true rfl, if_pos (show k < k + 1 by omega), if_neg (show ¬ k < k by omega)]
      simp
    · rw [decide_eq_false q]
      by_cases z : k < m
      · rw [if_pos z, if_pos (show k < m + 1 by omega)]
        simp
        omega
      · rw [if_neg z, if_neg (show ¬ k < m + 1 by omega)]
        simp
