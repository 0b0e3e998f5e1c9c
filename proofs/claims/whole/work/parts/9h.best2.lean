/-! part 9h: best: what the class's table holds -/
def cx (r : Nat → Int32) (V : Nat → Vd) (h o d k e : Nat) : Nat := if dOw r e = o then (if e < d then cap r V h e else if e = d then k else 0) else 0
def Wx (r : Nat → Int32) (V : Nat → Vd) (h : Nat) (A : Nat → Fam) (o d k m : Nat) : Fam := fun c F => ∃ c0 F0 x, A (m - mi r x) c0 F0 ∧ mi r x ≤ m ∧ (∀ e, x e ≤ cx r V h o d k e) ∧ c = (fun e => c0 e + x e) ∧ F = fun j => F0 j || decide (j = o)
theorem mi_0 {r : Nat → Int32} {x : Nat → Nat} (h : ∀ e, x e = 0) : mi r x = 0 := sm_0 (fun d _ => by rw [h d, Nat.zero_mul])
theorem mi_add (r : Nat → Int32) (c x : Nat → Nat) : mi r (fun e => c e + x e) = mi r c + mi r x := by
  have := sm_add (f := fun e => c e * dLn r e) (g := fun e => x e * dLn r e) (nD r)
  unfold mi
  rw [← this]
  exact sm_congr (fun d _ => Nat.add_mul _ _ _)
theorem Wx.zero {r : Nat → Int32} {V : Nat → Vd} {h : Nat} {A : Nat → Fam} {o m : Nat} (c : Nat → Nat) (F : Nat → Bool) : (∃ F0, A m c F0 ∧ F = fun j => F0 j || decide (j = o)) ↔ Wx r V h A o 0 0 m c F := by
  constructor
  · rintro ⟨F0, a, e⟩
    refine ⟨c, F0, fun _ => 0, ?_, ?_, fun _ => Nat.zero_le _, rfl, e⟩
    · rw [mi_0 (fun _ => rfl)]; exact a
    · rw [mi_0 (fun _ => rfl)]; exact Nat.zero_le _
  · rintro ⟨c0, F0, x, a1, a2, a3, a4, a5⟩
    have x0 : ∀ e, x e = 0 := fun e => by
      have := a3 e
      unfold cx at this
      by_cases q : dOw r e = o
      · rw [if_pos q, if_neg (Nat.not_lt_zero e)] at this
        by_cases z : e = 0
        · rw [if_pos z] at this; omega
        · rw [if_neg z] at this; omega
      · rw [if_neg q] at this; omega
    rw [mi_0 x0, Nat.sub_zero] at a1
    refine ⟨F0, ?_, a5⟩
    have : c = c0 := by rw [a4]; funext e; rw [x0 e]; rfl
    rw [this]; exact a1
theorem Wx.cg {r : Nat → Int32} {V : Nat → Vd} {h : Nat} {A : Nat → Fam} {o d k d' k' m : Nat} (e : ∀ i, cx r V h o d k i = cx r V h o d' k' i) (c : Nat → Nat) (F : Nat → Bool) : Wx r V h A o d k m c F ↔ Wx r V h A o d' k' m c F := by
  have : cx r V h o d k = cx r V h o d' k' := funext e
  unfold Wx
  rw [this]
/-- a debt that is none of the ower's, or is not played -/
theorem cx_n {r : Nat → Int32} {V : Nat → Vd} {h o d : Nat} (q : dOw r d ≠ o ∨ cap r V h d = 0) (i : Nat) : cx r V h o d 0 i = cx r V h o (d + 1) 0 i := by
  unfold cx
  by_cases c : dOw r i = o
  · rw [if_pos c, if_pos c]
    by_cases z : i < d
    · rw [if_pos z, if_pos (by omega)]
    · rw [if_neg z]
      by_cases y : i = d
      · subst y
        rw [if_pos rfl, if_pos (by omega)]
        rcases q with q | q
        · exact absurd c q
        · exact q.symm
      · rw [if_neg y, if_neg (by omega)]
        by_cases w : i = d + 1
        · rw [if_pos w]
        · rw [if_neg w]
  · rw [if_neg c, if_neg c]
theorem cx_s {r : Nat → Int32} {V : Nat → Vd} {h o d : Nat} (i : Nat) : cx r V h o d (cap r V h d) i = cx r V h o (d + 1) 0 i := by
  unfold cx
  by_cases c : dOw r i = o
  · rw [if_pos c, if_pos c]
    by_cases z : i < d
    · rw [if_pos z, if_pos (by omega)]
    · rw [if_neg z]
      by_cases y : i = d
      · subst y
        rw [if_pos rfl, if_pos (by omega)]
      · rw [if_neg y, if_neg (by omega)]
        by_cases w : i = d + 1
        · rw [if_pos w]
        · rw [if_neg w]
  · rw [if_neg c, if_neg c]
/-- one bundle more -/
theorem Wx.bundle {r : Nat → Int32} {V : Nat → Vd} {h : Nat} {A : Nat → Fam} {o d k b m : Nat} (hd : d < nD r) (ho : dOw r d = o) (hb : b ≤ k + 1) (c : Nat → Nat) (F : Nat → Bool) :
    (Wx r V h A o d k m c F ∨ (b * dLn r d ≤ m ∧ ∃ c1, Wx r V h A o d k (m - b * dLn r d) c1 F ∧ c = up1 c1 d b)) ↔ Wx r V h A o d (k + b) m c F := by
  have cd : ∀ k, cx r V h o d k d = k := fun k => by unfold cx; rw [if_pos ho, if_neg (Nat.lt_irrefl d), if_pos rfl]
  have ce : ∀ k k' e, e ≠ d → cx r V h o d k e = cx r V h o d k' e := fun k k' e q => by unfold cx; rw [if_neg q, if_neg q]
  constructor
  · rintro (⟨c0, F0, x, a1, a2, a3, a4, a5⟩ | ⟨hm, c1, ⟨c0, F0, x, a1, a2, a3, a4, a5⟩, rfl⟩)
    · refine ⟨c0, F0, x, a1, a2, fun e => ?_, a4, a5⟩
      have := a3 e
      by_cases q : e = d
      · subst q; rw [cd] at this ⊢; omega
      · rw [ce (k + b) k e q]; exact this
    · refine ⟨c0, F0, up1 x d b, ?_, ?_, fun e => ?_, ?_, a5⟩
      · rw [up_mi hd, show m - (mi r x + b * dLn r d) = m - b * dLn r d - mi r x by omega]; exact a1
      · rw [up_mi hd]; omega
      · have := a3 e
        show (if e = d then x e + b else x e) ≤ _
        by_cases q : e = d
        · subst q; rw [if_pos rfl]; rw [cd] at this ⊢; omega
        · rw [if_neg q, ce (k + b) k e q]; exact this
      · funext e
        rw [a4]
        show (if e = d then c0 e + x e + b else c0 e + x e) = c0 e + (if e = d then x e + b else x e)
        by_cases q : e = d
        · rw [if_pos q, if_pos q]; omega
        · rw [if_neg q, if_neg q]
  · rintro ⟨c0, F0, x, a1, a2, a3, a4, a5⟩
    by_cases z : x d ≤ k
    · refine Or.inl ⟨c0, F0, x, a1, a2, fun e => ?_, a4, a5⟩
      have := a3 e
      by_cases q : e = d
      · rw [q, cd]; exact z
      · rw [ce k (k + b) e q]; exact this
    · let y : Nat → Nat := fun e => if e = d then x e - b else x e
      have hx : up1 y d b = x := by
        funext e
        show (if e = d then (if e = d then x e - b else x e) + b else (if e = d then x e - b else x e)) = x e
        by_cases q : e = d
        · rw [if_pos q, if_pos q, q]; omega
        · rw [if_neg q, if_neg q]
      have em : mi r x = mi r y + b * dLn r d := by rw [← up_mi hd, hx]
      refine Or.inr ⟨by omega, fun e => c0 e + y e, ⟨c0, F0, y, ?_, by omega, fun e => ?_, rfl, a5⟩, ?_⟩
      · rw [show m - b * dLn r d - mi r y = m - mi r x by omega]; exact a1
      · have := a3 e
        show (if e = d then x e - b else x e) ≤ _
        by_cases q : e = d
        · subst q; rw [if_pos rfl]; rw [cd] at this ⊢; omega
        · rw [if_neg q, ce k (k + b) e q]; exact this
      · rw [a4]
        funext e
        show c0 e + x e = if e = d then c0 e + (if e = d then x e - b else x e) + b else c0 e + (if e = d then x e - b else x e)
        by_cases q : e = d
        · rw [if_pos q, if_pos q, q]; omega
        · rw [if_neg q, if_neg q]
/-- a layer, when the owers below o have been joined -/
def Ct (en : Bool) (L : Nat) (F : Nat → Bool) : Prop := en = true ∨ pc16 (bs F 8) ≤ L
def Bs (r : Nat → Int32) (V : Nat → Vd) (h : Nat) (pl : Nat → Bool) (en : Bool) (o L m : Nat) : Fam := fun c F => (∀ j, F j = true → j < o ∧ pl j = true) ∧ Ct en L F ∧ (∀ e, c e ≤ if F (dOw r e) = true then cap r V h e else 0) ∧ mi r c ≤ m
theorem Bs.c9 {r : Nat → Int32} {V : Nat → Vd} {h : Nat} {pl : Nat → Bool} {en : Bool} {o L m : Nat} (w : Wf r) {c : Nat → Nat} {F : Nat → Bool} (q : Bs r V h pl en o L m c F) (e : Nat) : c e ≤ 9 := by
  have := q.2.2.1 e
  have := cap_9 w V h e
  by_cases z : F (dOw r e) = true
  · rw [if_pos z] at *; omega
  · rw [if_neg z] at *; omega
theorem Bs.o0 {r : Nat → Int32} {V : Nat → Vd} {h : Nat} {pl : Nat → Bool} {en : Bool} {o L m : Nat} {c : Nat → Nat} {F : Nat → Bool} (q : Bs r V h pl en o L m c F) : F o = false ∧ ∀ e, dOw r e = o → c e = 0 := by
  have f0 : F o = false := by
    cases z : F o
    · rfl
    · have := (q.1 o z).1; omega
  refine ⟨f0, fun e he => ?_⟩
  have := q.2.2.1 e
  rw [he, f0] at this
  have z : (if false = true then cap r V h e else 0) = 0 := if_neg (by decide)
  omega
theorem Bs.skip {r : Nat → Int32} {V : Nat → Vd} {h : Nat} {pl : Nat → Bool} {en : Bool} {o L m : Nat} (hp : pl o = false) (c : Nat → Nat) (F : Nat → Bool) : Bs r V h pl en o L m c F ↔ Bs r V h pl en (o + 1) L m c F := by
  constructor
  · rintro ⟨a, b⟩
    exact ⟨fun j hj => ⟨by have := (a j hj).1; omega, (a j hj).2⟩, b⟩
  · rintro ⟨a, b⟩
    refine ⟨fun j hj => ⟨?_, (a j hj).2⟩, b⟩
    have := (a j hj).1
    by_cases q : j = o
    · rw [q] at hj
      have := (a o hj).2
      rw [hp] at this
      exact absurd this (by decide)
    · omega
theorem Bs.join {r : Nat → Int32} {V : Nat → Vd} {h : Nat} {pl : Nat → Bool} {en : Bool} {o L L' m : Nat} (ho : o < 8) (hp : pl o = true) (hL : en = true ∨ L = L' + 1) (c : Nat → Nat) (F : Nat → Bool) :
    (Bs r V h pl en o L m c F ∨ Wx r V h (Bs r V h pl en o L') o (nD r) 0 m c F) ↔ Bs r V h pl en (o + 1) L m c F := by
  constructor
  · rintro (⟨a, b⟩ | ⟨c0, F0, x, a1, a2, a3, a4, a5⟩)
    · exact ⟨fun j hj => ⟨by have := (a j hj).1; omega, (a j hj).2⟩, b⟩
    · obtain ⟨f0, z0⟩ := a1.o0
      obtain ⟨b1, b2, b3, b4⟩ := a1
      refine ⟨fun j hj => ?_, ?_, fun e => ?_, ?_⟩
      · rw [a5] at hj
        rcases (Bool.or_eq_true _ _).mp hj with q | q
        · exact ⟨by have := (b1 j q).1; omega, (b1 j q).2⟩
        · rw [decide_eq_true_eq] at q; rw [q]; exact ⟨Nat.lt_succ_self o, hp⟩
      · rcases hL with q | q
        · exact Or.inl q
        · rcases b2 with z | z
          · exact Or.inl z
          · refine Or.inr ?_
            rw [a5, (cs_or ho f0 (fun _ _ => rfl)).2]; omega
      · have p := a3 e
        have q := b3 e
        have ca : cx r V h o (nD r) 0 e ≤ if dOw r e = o then cap r V h e else 0 := by
          unfold cx
          by_cases y : dOw r e = o
          · rw [if_pos y, if_pos y]
            by_cases u : e < nD r
            · rw [if_pos u]; exact Nat.le_refl _
            · rw [if_neg u]
              by_cases v : e = nD r
              · rw [if_pos v]; exact Nat.zero_le _
              · rw [if_neg v]; exact Nat.zero_le _
          · rw [if_neg y]; exact Nat.zero_le _
        rw [a4, a5]
        show c0 e + x e ≤ if (F0 (dOw r e) || decide (dOw r e = o)) = true then _ else 0
        by_cases y : dOw r e = o
        · rw [if_pos y] at ca
          rw [z0 e y, if_pos (by rw [decide_eq_true y, Bool.or_true])]
          omega
        · rw [if_neg y] at ca
          rw [decide_eq_false y, Bool.or_false]
          omega
      · rw [a4, mi_add]; omega
  · rintro ⟨a1, a2, a3, a4⟩
    cases z : F o
    · refine Or.inl ⟨fun j hj => ⟨?_, (a1 j hj).2⟩, a2, a3, a4⟩
      have := (a1 j hj).1
      by_cases q : j = o
      · rw [q, z] at hj; exact absurd hj (by decide)
      · omega
    · let c0 : Nat → Nat := fun e => if dOw r e = o then 0 else c e
      let x : Nat → Nat := fun e => if dOw r e = o then c e else 0
      let F0 : Nat → Bool := fun j => F j && !decide (j = o)
      have ec : c = fun e => c0 e + x e := by
        funext e
        show c e = (if dOw r e = o then 0 else c e) + (if dOw r e = o then c e else 0)
        by_cases q : dOw r e = o
        · rw [if_pos q, if_pos q]; omega
        · rw [if_neg q, if_neg q]; omega
      have eF : F = fun j => F0 j || decide (j = o) := by
        funext j
        show F j = ((F j && !decide (j = o)) || decide (j = o))
        by_cases q : j = o
        · rw [decide_eq_true q, q, z]; rfl
        · rw [decide_eq_false q]; simp
      have f0 : F0 o = false := by show (F o && !decide (o = o)) = false; rw [decide_eq_true rfl]; simp
      have em : mi r c = mi r c0 + mi r x := by
        have := mi_add r c0 x
        rw [← ec] at this
        exact this
      refine Or.inr ⟨c0, F0, x, ⟨fun j hj => ?_, ?_, fun e => ?_, by omega⟩, by omega, fun e => ?_, ec, eF⟩
      · have hj' : (F j && !decide (j = o)) = true := hj
        rw [Bool.and_eq_true] at hj'
        have q : j ≠ o := fun q => by
          have := hj'.2
          rw [decide_eq_true q] at this
          exact absurd this (by decide)
        have := a1 j hj'.1
        exact ⟨by omega, this.2⟩
      · rcases hL with q | q
        · exact Or.inl q
        · rcases a2 with y | y
          · exact Or.inl y
          · refine Or.inr ?_
            have := (cs_or (F := F0) (G := F) ho f0 (fun k _ => congrFun eF k)).2
            omega
      · have := a3 e
        show (if dOw r e = o then 0 else c e) ≤ if (F (dOw r e) && !decide (dOw r e = o)) = true then _ else 0
        by_cases q : dOw r e = o
        · rw [if_pos q]; exact Nat.zero_le _
        · rw [if_neg q, decide_eq_false q, Bool.not_false, Bool.and_true]; exact this
      · have := a3 e
        show (if dOw r e = o then c e else 0) ≤ cx r V h o (nD r) 0 e
        by_cases q : dOw r e = o
        · rw [if_pos q]
          rw [q, if_pos z] at this
          unfold cx
          rw [if_pos q]
          by_cases u : e < nD r
          · rw [if_pos u]; exact this
          · have c0' : cap r V h e = 0 := if_neg (fun t => u t.1)
            rw [c0'] at this
            have : c e = 0 := by omega
            rw [this]; exact Nat.zero_le _
        · rw [if_neg q]; exact Nat.zero_le _
theorem Wx.c9 {r : Nat → Int32} {V : Nat → Vd} {h : Nat} {A : Nat → Fam} {o d k m : Nat} (w : Wf r) (hA : ∀ m c F, A m c F → (∀ e, c e ≤ 9) ∧ ∀ e, dOw r e = o → c e = 0) (hk : k ≤ 9) {c : Nat → Nat} {F : Nat → Bool} (q : Wx r V h A o d k m c F) (e : Nat) : c e ≤ 9 := by
  obtain ⟨c0, F0, x, a1, a2, a3, a4, a5⟩ := q
  obtain ⟨b1, b2⟩ := hA _ _ _ a1
  have := a3 e
  have := b1 e
  have cc := cap_9 w V h e
  rw [a4]
  show c0 e + x e ≤ 9
  unfold cx at *
  by_cases y : dOw r e = o
  · rw [if_pos y] at *
    rw [b2 e y]
    by_cases u : e < d
    · rw [if_pos u] at *; omega
    · rw [if_neg u] at *
      by_cases v : e = d
      · rw [if_pos v] at *; omega
      · rw [if_neg v] at *; omega
  · rw [if_neg y] at *; omega
