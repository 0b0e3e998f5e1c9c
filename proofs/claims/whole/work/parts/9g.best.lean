/-! part 9g: best: choices of halves -/
theorem sm_up {f f' : Nat → Nat} {d v : Nat} (h1 : f' d = f d + v) (h2 : ∀ e, e ≠ d → f' e = f e) : ∀ n, sm f' n = sm f n + if d < n then v else 0 := by
  intro n
  induction n with
  | zero => rfl
  | succ n ih =>
    show sm f' n + f' n = sm f n + f n + _
    rw [ih]
    by_cases q : n = d
    · subst q
      rw [h1, if_neg (Nat.lt_irrefl n), if_pos (Nat.lt_succ_self n)]; omega
    · rw [h2 n q]
      by_cases z : d < n
      · rw [if_pos z, if_pos (by omega)]; omega
      · rw [if_neg z, if_neg (by omega)]; omega
theorem sm_add {f g : Nat → Nat} : ∀ n, sm (fun e => f e + g e) n = sm f n + sm g n := by
  intro n
  induction n with
  | zero => rfl
  | succ n ih => show sm _ n + (f n + g n) = sm f n + f n + (sm g n + g n); rw [ih]; omega
def mi (r : Nat → Int32) (c : Nat → Nat) : Nat := sm (fun d => c d * dLn r d) (nD r)
def wo (r : Nat → Int32) (V : Nat → Vd) (c : Nat → Nat) : Nat := sm (fun d => c d * (V d).1) (nD r)
def dg (r : Nat → Int32) (c : Nat → Nat) : Nat := sm (fun d => c d * 10 ^ (15 - d)) (nD r)
def cs (F : Nat → Bool) : Nat := 65536 * pc16 (bs F 8) + 256 * bs F 8
def gv (r : Nat → Int32) (V : Nat → Vd) (c : Nat → Nat) (F : Nat → Bool) : Int := (wo r V c : Int) * 1048576 - mi r c - cs F
def us (r : Nat → Int32) (c : Nat → Nat) (k : Nat) : Bool := decide (0 < sm (fun d => if dOw r d = k then c d else 0) (nD r))
def plB (r : Nat → Int32) (V : Nat → Vd) (h d : Nat) : Bool := decide (dCr r d = h) && !(V d).2.1 && !(V d).2.2
def cap (r : Nat → Int32) (V : Nat → Vd) (h d : Nat) : Nat := if d < nD r ∧ plB r V h d = true then dHa r d else 0
theorem cap_9 {r : Nat → Int32} (w : Wf r) (V : Nat → Vd) (h d : Nat) : cap r V h d ≤ 9 := by
  unfold cap
  by_cases c : d < nD r ∧ plB r V h d = true
  · rw [if_pos c]; have := (w.ha c.1).2.1; omega
  · rw [if_neg c]; omega
theorem us_iff {r : Nat → Int32} {c : Nat → Nat} {k : Nat} : us r c k = true ↔ ∃ d, d < nD r ∧ dOw r d = k ∧ 0 < c d := by
  unfold us
  rw [decide_eq_true_eq]
  constructor
  · intro h
    obtain ⟨d, h1, h2⟩ := sm_ex h
    by_cases q : dOw r d = k
    · rw [if_pos q] at h2; exact ⟨d, h1, q, h2⟩
    · rw [if_neg q] at h2; omega
  · rintro ⟨d, h1, h2, h3⟩
    have := sm_ge (f := fun d => if dOw r d = k then c d else 0) h1
    rw [if_pos h2] at this
    omega
theorem bs_mask (p q : Nat → Bool) (h : ∀ k, k < 8 → p k = true → q k = true) : bs p 8 &&& bs q 8 = bs p 8 := by
  refine tb_ext (m := 8) (Nat.lt_of_le_of_lt Nat.and_le_left (bs_lt p 8)) (bs_lt p 8) (fun i hi => ?_)
  rw [Nat.testBit_and, bs_tb, bs_tb, decide_eq_true hi, Bool.true_and, Bool.true_and]
  cases z : p i
  · rfl
  · rw [h i hi z]; rfl
theorem pc_mono : ∀ s, s < 256 → ∀ t, t < 256 → s &&& t = s → pc16 s ≤ pc16 t ∧ s ≤ t := by decide +kernel
theorem pc_add : ∀ s, s < 256 → ∀ k, k < 8 → s.testBit k = false → s ||| 2 ^ k = s + 2 ^ k ∧ pc16 (s ||| 2 ^ k) = pc16 s + 1 := by decide +kernel
theorem bs_256 (F : Nat → Bool) : bs F 8 < 256 := bs_lt F 8
theorem cs_le {F G : Nat → Bool} (h : ∀ k, k < 8 → F k = true → G k = true) : cs F ≤ cs G := by
  obtain ⟨a, b⟩ := pc_mono _ (bs_256 F) _ (bs_256 G) (bs_mask F G h)
  unfold cs
  omega
theorem cs_or {F G : Nat → Bool} {o : Nat} (ho : o < 8) (hF : F o = false) (h : ∀ k, k < 8 → G k = (F k || decide (k = o))) : cs G = cs F + (65536 + 256 * 2 ^ o) ∧ pc16 (bs G 8) = pc16 (bs F 8) + 1 := by
  have e : bs G 8 = bs F 8 ||| 2 ^ o := bs_or ho (fun i hi => by
    rw [h i hi]
    congr 1
    exact decide_eq_decide.mpr ⟨Eq.symm, Eq.symm⟩)
  obtain ⟨a, b⟩ := pc_add _ (bs_256 F) o ho (by rw [bs_tb, hF, Bool.and_false])
  unfold cs
  rw [e, b, a]
  omega
theorem cs_bd (F : Nat → Bool) : cs F ≤ 589568 := by
  have := pc_8 _ (bs_256 F)
  have := bs_256 F
  unfold cs
  omega
/-- halves of 9 at most are digits -/
theorem dg_lt {c : Nat → Nat} (hc : ∀ e, c e ≤ 9) : ∀ m, m ≤ 16 → sm (fun d => c d * 10 ^ (15 - d)) m + 10 ^ (16 - m) ≤ 10 ^ 16 := by
  intro m
  induction m with
  | zero => intro _; exact Nat.le_of_eq (Nat.zero_add _)
  | succ m ih =>
    intro hm
    have := ih (by omega)
    have e1 : 16 - m = (15 - m) + 1 := by omega
    have e2 : 16 - (m + 1) = 15 - m := by omega
    have h9 : c m * 10 ^ (15 - m) ≤ 9 * 10 ^ (15 - m) := Nat.mul_le_mul_right _ (hc m)
    rw [e1, Nat.pow_succ] at this
    rw [e2]
    show sm _ m + c m * 10 ^ (15 - m) + 10 ^ (15 - m) ≤ _
    omega
theorem dg_bd {r : Nat → Int32} (w : Wf r) {c : Nat → Nat} (hc : ∀ e, c e ≤ 9) : dg r c < 10000000000000000 := by
  have := dg_lt hc (nD r) w.n16
  have h2 : 0 < 10 ^ (16 - nD r) := Nat.pow_pos (by decide)
  unfold dg
  omega
theorem wo_bd {r : Nat → Int32} {V : Nat → Vd} (w : Wf r) (hV : ∀ d, d < nD r → (V d).1 ≤ 999) {c : Nat → Nat} (hc : ∀ e, c e ≤ 9) : wo r V c ≤ 143856 := by
  have h16 := w.n16
  have := sm_le (f := fun d => c d * (V d).1) (b := 8991) (n := nD r) (fun d hd => Nat.mul_le_mul (hc d) (hV d hd))
  unfold wo
  omega
theorem mi_bd {r : Nat → Int32} (w : Wf r) {c : Nat → Nat} (hc : ∀ e, c e ≤ 9) : mi r c ≤ 4320 := by
  have h16 := w.n16
  have := sm_le (f := fun d => c d * dLn r d) (b := 270) (n := nD r) (fun d hd => Nat.mul_le_mul (hc d) (show dLn r d ≤ 30 by have := (w.ln hd).2.1; omega))
  unfold mi
  omega
theorem gv_bd {r : Nat → Int32} {V : Nat → Vd} (w : Wf r) (hV : ∀ d, d < nD r → (V d).1 ≤ 999) {c : Nat → Nat} (hc : ∀ e, c e ≤ 9) (F : Nat → Bool) : -1099511627776 < gv r V c F ∧ gv r V c F < 1099511627776 := by
  have := wo_bd w hV hc
  have := mi_bd w hc
  have := cs_bd F
  unfold gv
  omega
def up1 (c : Nat → Nat) (d b : Nat) : Nat → Nat := fun e => if e = d then c e + b else c e
theorem up_mi {r : Nat → Int32} {c : Nat → Nat} {d b : Nat} (hd : d < nD r) : mi r (up1 c d b) = mi r c + b * dLn r d := by
  have := sm_up (f := fun e => c e * dLn r e) (f' := fun e => up1 c d b e * dLn r e) (d := d) (v := b * dLn r d) (by
    show (if d = d then c d + b else c d) * _ = _
    rw [if_pos rfl, Nat.add_mul]) (fun e he => by
    show (if e = d then c e + b else c e) * _ = _
    rw [if_neg he]) (nD r)
  rw [if_pos hd] at this
  exact this
theorem up_wo {r : Nat → Int32} {V : Nat → Vd} {c : Nat → Nat} {d b : Nat} (hd : d < nD r) : wo r V (up1 c d b) = wo r V c + b * (V d).1 := by
  have := sm_up (f := fun e => c e * (V e).1) (f' := fun e => up1 c d b e * (V e).1) (d := d) (v := b * (V d).1) (by
    show (if d = d then c d + b else c d) * _ = _
    rw [if_pos rfl, Nat.add_mul]) (fun e he => by
    show (if e = d then c e + b else c e) * _ = _
    rw [if_neg he]) (nD r)
  rw [if_pos hd] at this
  exact this
theorem up_dg {r : Nat → Int32} {c : Nat → Nat} {d b : Nat} (hd : d < nD r) : dg r (up1 c d b) = dg r c + b * 10 ^ (15 - d) := by
  have := sm_up (f := fun e => c e * 10 ^ (15 - e)) (f' := fun e => up1 c d b e * 10 ^ (15 - e)) (d := d) (v := b * 10 ^ (15 - d)) (by
    show (if d = d then c d + b else c d) * _ = _
    rw [if_pos rfl, Nat.add_mul]) (fun e he => by
    show (if e = d then c e + b else c e) * _ = _
    rw [if_neg he]) (nD r)
  rw [if_pos hd] at this
  exact this
/-- the best of a family -/
abbrev Fam := (Nat → Nat) → (Nat → Bool) → Prop
def Mx (r : Nat → Int32) (V : Nat → Vd) (A : Fam) (G : Int) (D : Nat) : Prop := (∃ c F, A c F ∧ gv r V c F = G ∧ dg r c = D) ∧ ∀ c F, A c F → gv r V c F < G ∨ (gv r V c F = G ∧ D ≤ dg r c)
theorem Mx.iff {r : Nat → Int32} {V : Nat → Vd} {A B : Fam} {G : Int} {D : Nat} (h : Mx r V A G D) (e : ∀ c F, A c F ↔ B c F) : Mx r V B G D := by
  obtain ⟨⟨c, F, a1, a2⟩, b⟩ := h
  exact ⟨⟨c, F, (e c F).mp a1, a2⟩, fun c F q => b c F ((e c F).mpr q)⟩
theorem Mx.l {r : Nat → Int32} {V : Nat → Vd} {A B : Fam} {G G' : Int} {D D' : Nat} (h : Mx r V A G D) (h' : Mx r V B G' D') (b : G' < G ∨ (G = G' ∧ D < D')) : Mx r V (fun c F => B c F ∨ A c F) G D := by
  obtain ⟨⟨c, F, a1, a2⟩, a3⟩ := h
  refine ⟨⟨c, F, Or.inr a1, a2⟩, fun c F q => ?_⟩
  rcases q with q | q
  · have := h'.2 c F q; omega
  · exact a3 c F q
theorem Mx.r {r : Nat → Int32} {V : Nat → Vd} {A B : Fam} {G G' : Int} {D D' : Nat} (h : Mx r V A G D) (h' : Mx r V B G' D') (b : ¬ (G' < G ∨ (G = G' ∧ D < D'))) : Mx r V (fun c F => B c F ∨ A c F) G' D' := by
  obtain ⟨⟨c, F, a1, a2⟩, a3⟩ := h'
  refine ⟨⟨c, F, Or.inl a1, a2⟩, fun c F q => ?_⟩
  rcases q with q | q
  · exact a3 c F q
  · have := h.2 c F q; omega
theorem Mx.up {r : Nat → Int32} {V : Nat → Vd} {A : Fam} {G : Int} {D d b : Nat} (hd : d < nD r) (h : Mx r V A G D) : Mx r V (fun c F => ∃ c0, A c0 F ∧ c = up1 c0 d b) (G + (1048576 * (b : Int) * (V d).1 - (b * dLn r d : Nat))) (D + b * 10 ^ (15 - d)) := by
  have key : ∀ c F, gv r V (up1 c d b) F = gv r V c F + (1048576 * (b : Int) * (V d).1 - (b * dLn r d : Nat)) := fun c F => by
    unfold gv
    rw [up_wo hd, up_mi hd]
    have e : 1048576 * (b : Int) * (V d).1 = ((b * (V d).1 : Nat) : Int) * 1048576 := by
      push_cast
      rw [Int.mul_assoc, Int.mul_comm]
    rw [e]
    omega
  obtain ⟨⟨c, F, a1, a2, a3⟩, a4⟩ := h
  refine ⟨⟨up1 c d b, F, ⟨c, a1, rfl⟩, by rw [key, a2], by rw [up_dg hd, a3]⟩, ?_⟩
  rintro c F ⟨c0, q1, rfl⟩
  rw [key, up_dg hd]
  have := a4 c0 F q1
  omega
theorem Mx.fl {r : Nat → Int32} {V : Nat → Vd} {A : Fam} {G : Int} {D o : Nat} (ho : o < 8) (hA : ∀ c F, A c F → F o = false) (h : Mx r V A G D) : Mx r V (fun c F => ∃ F0, A c F0 ∧ F = fun k => F0 k || decide (k = o)) (G - ((65536 + 256 * 2 ^ o : Nat) : Int)) D := by
  have key : ∀ c F, A c F → gv r V c (fun k => F k || decide (k = o)) = gv r V c F - ((65536 + 256 * 2 ^ o : Nat) : Int) := fun c F q => by
    unfold gv
    rw [(cs_or ho (hA c F q) (fun _ _ => rfl)).1]
    omega
  obtain ⟨⟨c, F, a1, a2, a3⟩, a4⟩ := h
  refine ⟨⟨c, _, ⟨F, a1, rfl⟩, by rw [key c F a1, a2], a3⟩, ?_⟩
  rintro c F ⟨F0, q1, rfl⟩
  rw [key c F0 q1]
  have := a4 c F0 q1
  omega
