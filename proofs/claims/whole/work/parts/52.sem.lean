/-! part 52: what the code of a law means, for both sides -/
def opr (op : Nat) (a b : Int) : Int := if op = 2 then a + b else if op = 3 then a - b else if op = 4 then a * b else if op = 5 then a.tdiv b else if op = 6 then (if a < b then 1 else 0) else if op = 7 then (if b < a then 1 else 0) else (if a = b then 1 else 0)
def opv (op : Nat) (a b : Int) : Option Int := if op = 5 ∧ b = 0 then none else if 1000000000 < opr op a b ∨ opr op a b < -1000000000 then none else some (opr op a b)
abbrev Ro : Type := Option (Option (List Int))
/-- what behind a value goes on; a broken one ends all -/
def bd (v : Option Int) (f : Int → Ro) : Ro := match v with
  | none => some none
  | some x => f x
def rn1 (E : Nat → Int) (L p : Nat) (op : Nat) (arg : Int) (st : List Int) (k : Nat → List Int → Ro) : Ro :=
  if op = 0 then (if st.length < L ∧ -1000000000 ≤ arg ∧ arg ≤ 1000000000 then k (p + 1) (arg :: st) else none)
  else if op = 1 then (if st.length < L ∧ 0 ≤ arg ∧ arg < 7 then k (p + 1) (E arg.toNat :: st) else none)
  else if op = 9 then (match st with
    | [] => none
    | a :: r => if a = 0 ∨ a = 1 then k (p + 1) ((1 - a) :: r) else none)
  else if op = 10 then (match st with
    | [] => none
    | a :: r => if (p : Int) + 1 ≤ arg then (if a = 1 then k arg.toNat (a :: r) else k (p + 1) r) else none)
  else if op = 11 then (match st with
    | [] => none
    | a :: r => if (p : Int) + 1 ≤ arg then (if a = 0 then k arg.toNat (a :: r) else k (p + 1) r) else none)
  else if op ≤ 8 then (match st with
    | b :: a :: r => bd (opv op a b) (fun v => k (p + 1) (v :: r))
    | _ => none)
  else none
def rn (F : Nat → Nat × Int) (E : Nat → Int) (L : Nat) : Nat → Nat → Nat → List Int → Ro
  | 0, p, to, st => if to ≤ p then some (some st) else none
  | n + 1, p, to, st => if to ≤ p then some (some st) else rn1 E L p (F p).1 (F p).2 st (fun q s => rn F E L n q to s)
def EnvOk (E : Nat → Int) : Prop := ∀ w, w < 7 → -1000 ≤ E w ∧ E w ≤ 1000
abbrev Den : Type := (Nat → Int) → Option Int
def Cm (F : Nat → Nat × Int) (i j : Nat) (δ : Den) (h : Nat) : Prop :=
  (i ≤ j ∧ ∀ E, EnvOk E → ∀ v, δ E = some v → -1000000000 ≤ v ∧ v ≤ 1000000000) ∧
  ∀ F' : Nat → Nat × Int, (∀ p, i ≤ p → p < j → F' p = F p) → ∀ E, EnvOk E → ∀ L st to n, st.length + h ≤ L → j ≤ to → to ≤ i + n →
    ∃ m, to ≤ j + m ∧ rn F' E L n i to st = bd (δ E) (fun v => rn F' E L m j to (v :: st))
theorem Cm.congr {F G : Nat → Nat × Int} {i j h : Nat} {δ : Den} (c : Cm F i j δ h) (e : ∀ p, i ≤ p → p < j → G p = F p) : Cm G i j δ h :=
  ⟨c.1, fun F' hF => c.2 F' (fun p h1 h2 => (hF p h1 h2).trans (e p h1 h2))⟩
theorem Cm.mono {F : Nat → Nat × Int} {i j h h' : Nat} {δ : Den} (c : Cm F i j δ h) (e : h ≤ h') : Cm F i j δ h' :=
  ⟨c.1, fun F' hF E hE L st to n h1 => c.2 F' hF E hE L st to n (by omega)⟩
theorem rn_go {F : Nat → Nat × Int} {E : Nat → Int} {L n p to : Nat} {st : List Int} (h : p < to) : rn F E L (n + 1) p to st = rn1 E L p (F p).1 (F p).2 st (fun q s => rn F E L n q to s) := by
  show (if to ≤ p then _ else _) = _
  rw [if_neg (by omega)]
theorem rn_end {F : Nat → Nat × Int} {E : Nat → Int} {L n to p : Nat} {st : List Int} (h : to ≤ p) : rn F E L n p to st = some (some st) := by
  cases n <;> exact if_pos h
theorem Cm.run {F : Nat → Nat × Int} {i j h : Nat} {δ : Den} (c : Cm F i j δ h) {E : Nat → Int} (hE : EnvOk E) {L n : Nat} {st : List Int} (h1 : st.length + h ≤ L) (h2 : j ≤ i + n) : rn F E L n i j st = bd (δ E) (fun v => some (some (v :: st))) := by
  obtain ⟨m, -, e⟩ := c.2 F (fun _ _ _ => rfl) E hE L st j n h1 (Nat.le_refl j) h2
  rw [e]
  congr 1
  funext v
  exact rn_end (Nat.le_refl j)
theorem Cm.num {F : Nat → Nat × Int} {i : Nat} {v : Int} (e : F i = (0, v)) (h1 : -1000000000 ≤ v) (h2 : v ≤ 1000000000) : Cm F i (i + 1) (fun _ => some v) 1 := by
  refine ⟨⟨by omega, fun E _ x hx => ?_⟩, fun F' hF E hE L st to n hL hj hn => ?_⟩
  · cases hx; exact ⟨h1, h2⟩
  · obtain ⟨n, rfl⟩ : ∃ k, n = k + 1 := ⟨n - 1, by omega⟩
    refine ⟨n, by omega, ?_⟩
    rw [rn_go (by omega), hF i (by omega) (by omega), e]
    show (if st.length < L ∧ _ then _ else _) = _
    rw [if_pos ⟨by omega, h1, h2⟩]
    rfl
theorem Cm.word {F : Nat → Nat × Int} {i w : Nat} (e : F i = (1, (w : Int))) (hw : w < 7) : Cm F i (i + 1) (fun E => some (E w)) 1 := by
  refine ⟨⟨by omega, fun E hE x hx => ?_⟩, fun F' hF E hE L st to n hL hj hn => ?_⟩
  · cases hx; have := hE w hw; omega
  · obtain ⟨n, rfl⟩ : ∃ k, n = k + 1 := ⟨n - 1, by omega⟩
    refine ⟨n, by omega, ?_⟩
    rw [rn_go (by omega), hF i (by omega) (by omega), e]
    show (if st.length < L ∧ 0 ≤ (w : Int) ∧ (w : Int) < 7 then _ else _) = _
    rw [if_pos (by omega)]
    rfl
def dBin (op : Nat) (d1 d2 : Den) : Den := fun E => (d1 E).bind fun a => (d2 E).bind fun b => opv op a b
theorem opv_bd {op : Nat} {a b v : Int} (h : opv op a b = some v) : -1000000000 ≤ v ∧ v ≤ 1000000000 := by
  unfold opv at h
  by_cases c1 : op = 5 ∧ b = 0
  · rw [if_pos c1] at h; cases h
  · rw [if_neg c1] at h
    by_cases c2 : 1000000000 < opr op a b ∨ opr op a b < -1000000000
    · rw [if_pos c2] at h; cases h
    · rw [if_neg c2] at h; cases h; omega
theorem bd_bd (x : Option Int) (f : Int → Option Int) (g : Int → Ro) : bd (x.bind f) g = bd x (fun v => bd (f v) g) := by
  cases x <;> rfl
theorem bd_x {x : Option Int} {f g : Int → Ro} (h : ∀ v, x = some v → f v = g v) : bd x f = bd x g := by
  cases x
  · rfl
  · exact h _ rfl
theorem Cm.bin {F : Nat → Nat × Int} {i j k h1 h2 op : Nat} {x : Int} {d1 d2 : Den} (c1 : Cm F i j d1 h1) (c2 : Cm F j k d2 h2) (e : F k = (op, x)) (ho : 2 ≤ op) (ho2 : op ≤ 8) : Cm F i (k + 1) (dBin op d1 d2) (max h1 (h2 + 1)) := by
  have l1 := c1.1.1
  have l2 := c2.1.1
  refine ⟨⟨by omega, fun E hE v hv => ?_⟩, fun F' hF E hE L st to n hL hj hn => ?_⟩
  · unfold dBin at hv
    cases q1 : d1 E with
    | none => rw [q1] at hv; cases hv
    | some a =>
      cases q2 : d2 E with
      | none => rw [q1, q2] at hv; cases hv
      | some b => rw [q1, q2] at hv; exact opv_bd hv
  · obtain ⟨m1, a1, b1⟩ := c1.2 F' (fun p p1 p2 => hF p p1 (by omega)) E hE L st to n (by omega) (by omega) (by omega)
    rw [b1]
    unfold dBin
    simp only [bd_bd]
    cases q1 : d1 E with
    | none => exact ⟨to, by omega, rfl⟩
    | some a =>
      obtain ⟨m2, a2, b2⟩ := c2.2 F' (fun p p1 p2 => hF p (by omega) (by omega)) E hE L (a :: st) to m1 (by show st.length + 1 + h2 ≤ L; omega) (by omega) (by omega)
      show ∃ m, to ≤ k + 1 + m ∧ rn F' E L m1 j to (a :: st) = bd (d2 E) (fun b => bd (opv op a b) fun v => rn F' E L m (k + 1) to (v :: st))
      rw [b2]
      cases q2 : d2 E with
      | none => exact ⟨to, by omega, rfl⟩
      | some b =>
        obtain ⟨m, rfl⟩ : ∃ q, m2 = q + 1 := ⟨m2 - 1, by omega⟩
        refine ⟨m, by omega, ?_⟩
        show rn F' E L (m + 1) k to (b :: a :: st) = bd (opv op a b) _
        rw [rn_go (by omega), hF k (by omega) (by omega), e]
        unfold rn1
        rw [if_neg (by omega), if_neg (by omega), if_neg (by omega), if_neg (by omega), if_neg (by omega), if_pos (by omega)]
def T01 (d : Den) : Prop := ∀ E, EnvOk E → ∀ v, d E = some v → v = 0 ∨ v = 1
def dNot (d : Den) : Den := fun E => (d E).bind fun a => some (1 - a)
theorem dNot2 (d : Den) : dNot (dNot d) = d := by
  funext E
  unfold dNot
  cases d E with
  | none => rfl
  | some a => show some (1 - (1 - a)) = some a; congr 1; omega
theorem T01.not {d : Den} (h : T01 d) : T01 (dNot d) := by
  intro E hE v hv
  unfold dNot at hv
  cases q : d E with
  | none => rw [q] at hv; cases hv
  | some a => rw [q] at hv; cases hv; have := h E hE a q; omega
theorem Cm.not {F : Nat → Nat × Int} {i j h : Nat} {x : Int} {d : Den} (c : Cm F i j d h) (t : T01 d) (e : F j = (9, x)) : Cm F i (j + 1) (dNot d) h := by
  have l := c.1.1
  refine ⟨⟨by omega, fun E hE v hv => by have := t.not E hE v hv; omega⟩, fun F' hF E hE L st to n hL hj hn => ?_⟩
  obtain ⟨m1, a1, b1⟩ := c.2 F' (fun p p1 p2 => hF p p1 (by omega)) E hE L st to n (by omega) (by omega) (by omega)
  rw [b1]
  unfold dNot
  simp only [bd_bd]
  cases q : d E with
  | none => exact ⟨to, by omega, rfl⟩
  | some a =>
    obtain ⟨m, rfl⟩ : ∃ q, m1 = q + 1 := ⟨m1 - 1, by omega⟩
    refine ⟨m, by omega, ?_⟩
    show rn F' E L (m + 1) j to (a :: st) = _
    rw [rn_go (by omega), hF j (by omega) (by omega), e]
    show (if a = 0 ∨ a = 1 then _ else _) = _
    rw [if_pos (t E hE a q)]
    rfl
def dOr (d1 d2 : Den) : Den := fun E => (d1 E).bind fun a => if a = 1 then some a else d2 E
def dAnd (d1 d2 : Den) : Den := fun E => (d1 E).bind fun a => if a = 0 then some a else d2 E
theorem T01.or {d1 d2 : Den} (h1 : T01 d1) (h2 : T01 d2) : T01 (dOr d1 d2) := by
  intro E hE v hv
  unfold dOr at hv
  cases q : d1 E with
  | none => rw [q] at hv; cases hv
  | some a =>
    rw [q] at hv
    replace hv : (if a = 1 then some a else d2 E) = some v := hv
    by_cases c : a = 1
    · rw [if_pos c] at hv; cases hv; exact h1 E hE _ q
    · rw [if_neg c] at hv; exact h2 E hE _ hv
theorem T01.and {d1 d2 : Den} (h1 : T01 d1) (h2 : T01 d2) : T01 (dAnd d1 d2) := by
  intro E hE v hv
  unfold dAnd at hv
  cases q : d1 E with
  | none => rw [q] at hv; cases hv
  | some a =>
    rw [q] at hv
    replace hv : (if a = 0 then some a else d2 E) = some v := hv
    by_cases c : a = 0
    · rw [if_pos c] at hv; cases hv; exact h1 E hE _ q
    · rw [if_neg c] at hv; exact h2 E hE _ hv
theorem T01.cmp {op : Nat} {d1 d2 : Den} (h : 6 ≤ op) : T01 (dBin op d1 d2) := by
  intro E hE v hv
  unfold dBin at hv
  cases q1 : d1 E with
  | none => rw [q1] at hv; cases hv
  | some a =>
    cases q2 : d2 E with
    | none => rw [q1, q2] at hv; cases hv
    | some b =>
      rw [q1, q2] at hv
      replace hv : opv op a b = some v := hv
      unfold opv at hv
      rw [if_neg (by omega)] at hv
      by_cases c2 : 1000000000 < opr op a b ∨ opr op a b < -1000000000
      · rw [if_pos c2] at hv; cases hv
      · rw [if_neg c2] at hv
        cases hv
        unfold opr
        rw [if_neg (by omega), if_neg (by omega), if_neg (by omega), if_neg (by omega)]
        by_cases c3 : op = 6
        · rw [if_pos c3]; by_cases c4 : a < b
          · rw [if_pos c4]; exact Or.inr rfl
          · rw [if_neg c4]; exact Or.inl rfl
        · rw [if_neg c3]; by_cases c5 : op = 7
          · rw [if_pos c5]; by_cases c4 : b < a
            · rw [if_pos c4]; exact Or.inr rfl
            · rw [if_neg c4]; exact Or.inl rfl
          · rw [if_neg c5]; by_cases c4 : a = b
            · rw [if_pos c4]; exact Or.inr rfl
            · rw [if_neg c4]; exact Or.inl rfl
theorem Cm.or {F : Nat → Nat × Int} {i j k h1 h2 : Nat} {d1 d2 : Den} (c1 : Cm F i j d1 h1) (e : F j = (10, (k : Int))) (c2 : Cm F (j + 1) k d2 h2) : Cm F i k (dOr d1 d2) (max h1 h2) := by
  have l1 := c1.1.1
  have l2 := c2.1.1
  refine ⟨⟨by omega, fun E hE v hv => ?_⟩, fun F' hF E hE L st to n hL hj hn => ?_⟩
  · unfold dOr at hv
    cases q1 : d1 E with
    | none => rw [q1] at hv; cases hv
    | some a =>
      rw [q1] at hv
      replace hv : (if a = 1 then some a else d2 E) = some v := hv
      by_cases c : a = 1
      · rw [if_pos c] at hv; cases hv; exact c1.1.2 E hE _ q1
      · rw [if_neg c] at hv; exact c2.1.2 E hE _ hv
  · obtain ⟨m1, a1, b1⟩ := c1.2 F' (fun p p1 p2 => hF p p1 (by omega)) E hE L st to n (by omega) (by omega) (by omega)
    rw [b1]
    unfold dOr
    simp only [bd_bd]
    cases q : d1 E with
    | none => exact ⟨to, by omega, rfl⟩
    | some a =>
      obtain ⟨m, rfl⟩ : ∃ q, m1 = q + 1 := ⟨m1 - 1, by omega⟩
      show ∃ m', to ≤ k + m' ∧ rn F' E L (m + 1) j to (a :: st) = bd (if a = 1 then some a else d2 E) _
      rw [rn_go (by omega), hF j (by omega) (by omega), e]
      by_cases c : a = 1
      · refine ⟨m, by omega, ?_⟩
        rw [if_pos c]
        show (if (j : Int) + 1 ≤ (k : Int) then (if a = 1 then _ else _) else _) = _
        rw [if_pos (by omega), if_pos c]
        rfl
      · obtain ⟨m2, a2, b2⟩ := c2.2 F' (fun p p1 p2 => hF p (by omega) (by omega)) E hE L st to m (by omega) (by omega) (by omega)
        refine ⟨m2, a2, ?_⟩
        rw [if_neg c]
        show (if (j : Int) + 1 ≤ (k : Int) then (if a = 1 then _ else _) else _) = _
        rw [if_pos (by omega), if_neg c]
        exact b2
theorem Cm.and {F : Nat → Nat × Int} {i j k h1 h2 : Nat} {d1 d2 : Den} (c1 : Cm F i j d1 h1) (e : F j = (11, (k : Int))) (c2 : Cm F (j + 1) k d2 h2) : Cm F i k (dAnd d1 d2) (max h1 h2) := by
  have l1 := c1.1.1
  have l2 := c2.1.1
  refine ⟨⟨by omega, fun E hE v hv => ?_⟩, fun F' hF E hE L st to n hL hj hn => ?_⟩
  · unfold dAnd at hv
    cases q1 : d1 E with
    | none => rw [q1] at hv; cases hv
    | some a =>
      rw [q1] at hv
      replace hv : (if a = 0 then some a else d2 E) = some v := hv
      by_cases c : a = 0
      · rw [if_pos c] at hv; cases hv; exact c1.1.2 E hE _ q1
      · rw [if_neg c] at hv; exact c2.1.2 E hE _ hv
  · obtain ⟨m1, a1, b1⟩ := c1.2 F' (fun p p1 p2 => hF p p1 (by omega)) E hE L st to n (by omega) (by omega) (by omega)
    rw [b1]
    unfold dAnd
    simp only [bd_bd]
    cases q : d1 E with
    | none => exact ⟨to, by omega, rfl⟩
    | some a =>
      obtain ⟨m, rfl⟩ : ∃ q, m1 = q + 1 := ⟨m1 - 1, by omega⟩
      show ∃ m', to ≤ k + m' ∧ rn F' E L (m + 1) j to (a :: st) = bd (if a = 0 then some a else d2 E) _
      rw [rn_go (by omega), hF j (by omega) (by omega), e]
      by_cases c : a = 0
      · refine ⟨m, by omega, ?_⟩
        rw [if_pos c]
        show (if (j : Int) + 1 ≤ (k : Int) then (if a = 0 then _ else _) else _) = _
        rw [if_pos (by omega), if_pos c]
        rfl
      · obtain ⟨m2, a2, b2⟩ := c2.2 F' (fun p p1 p2 => hF p (by omega) (by omega)) E hE L st to m (by omega) (by omega) (by omega)
        refine ⟨m2, a2, ?_⟩
        rw [if_neg c]
        show (if (j : Int) + 1 ≤ (k : Int) then (if a = 0 then _ else _) else _) = _
        rw [if_pos (by omega), if_neg c]
        exact b2
/-! the codes of both sides, read as one -/
def dC (x y : Int32) : Nat × Int :=
  if x = nI 14 ∨ x = nI 15 then (if y = nI (2 * (y.toNatClampNeg / 2)) then (if x = nI 14 then 10 else 11, ((y.toNatClampNeg / 2 : Nat) : Int)) else (99, 0))
  else if 4 ≤ x.toInt ∧ x.toInt ≤ 13 then ((x.toInt - 4).toNat, y.toInt) else (99, 0)
def Fc (a : Nat → Int32) (p : Nat) : Nat × Int := dC (a (2 * p)) (a (2 * p + 1))
def dR (x y : Int32) : Nat × Int :=
  if x = nI 0 then (0, y.toInt) else if 1 ≤ x.toInt ∧ x.toInt ≤ 7 then (1, x.toInt - 1)
  else if x = nI 28 then (11, y.toInt) else if x = nI 29 then (10, y.toInt)
  else if 20 ≤ x.toInt ∧ x.toInt ≤ 27 then ((x.toInt - 18).toNat, 0) else (99, 0)
def Fm (g : Nat → Int32) (p : Nat) : Nat × Int := dR (g (98 + 2 * p)) (g (98 + 2 * p + 1))
/-- a clause: its kind (0 worth, 1 bars, 2 voids), its sum, its test -/
def ClC (a : Nat → Int32) (i j kd : Nat) (ds dt : Den) : Prop :=
  i + 1 ≤ j ∧ a (2 * i) = nI (kd + 1) ∧ a (2 * i + 1) = nI (2 * j) ∧ ∃ m, (if kd = 0 then Cm (Fc a) (i + 1) m ds 50 else m = i + 1) ∧ Cm (Fc a) m j dt 50
def ClM (g : Nat → Int32) (c kd : Nat) (ds dt : Den) : Prop :=
  g (2 + 8 * c) = nI kd ∧ ∃ i j k l, l ≤ 400 ∧ g (2 + 8 * c + 3) = nI i ∧ g (2 + 8 * c + 4) = nI j ∧ g (2 + 8 * c + 5) = nI k ∧ g (2 + 8 * c + 6) = nI l ∧ i ≤ j ∧ j ≤ k ∧ k ≤ l ∧
    (kd = 0 → Cm (Fm g) i j ds 50) ∧ ((k < l ∧ Cm (Fm g) k l dt 50) ∨ (k = l ∧ dt = fun _ => some 1))
def LawP (len : Nat) (a g : Nat → Int32) : Prop :=
  ∃ (nc : Nat) (kd pc : Nat → Nat) (ds dt : Nat → Den), nc ≤ 12 ∧ pc 0 = 0 ∧ len = 2 * pc nc ∧ len ≤ 800 ∧ g 1 = nI nc ∧
    ∀ c, c < nc → kd c < 3 ∧ T01 (dt c) ∧ ClC a (pc c) (pc (c + 1)) (kd c) (ds c) (dt c) ∧ ClM g c (kd c) (ds c) (dt c)
/-- law number q of the class's codes is what the reference's row g holds -/
def LawR (C : List (Nat × (Nat → Int32))) (q : Nat) (g : Nat → Int32) : Prop := 0 < q ∧ ∃ x, C[q - 1]? = some x ∧ LawP x.1 x.2 g
theorem LawR.app {C : List (Nat × (Nat → Int32))} {q : Nat} {g : Nat → Int32} (h : LawR C q g) (c : Nat × (Nat → Int32)) : LawR (C ++ [c]) q g := by
  obtain ⟨h0, x, hx, hp⟩ := h
  refine ⟨h0, x, ?_, hp⟩
  rw [List.getElem?_append_left (List.getElem?_eq_some_iff.mp hx).1]
  exact hx
