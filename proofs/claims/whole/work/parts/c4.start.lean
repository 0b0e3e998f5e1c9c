/-! part c4: the first state -/
def S0 : St := (fun k => if k = 4 then -1 else if k = 19 then -1 else if k = 20 then -1 else if k = 31 then -1 else if k = 40 then -1 else 0, fun _ => 0, fun k => if k = 53 then k_X12_init_51_10 else fun _ => 0, fun k => if k = 37 then k_X2_init_32_15 else if k = 62 then k_X12_init_51_6 else if k = 63 then k_X12_init_51_9 else fun _ => 0, fun _ _ => 0, [])
theorem inv_S0 : Inv S0 := by
  have r0 : ∀ i, i ≠ 3 → gA S0 53 i = nI 0 := fun i hi => by
    show upd (fun _ => (0 : Int32)) (3 : Int32).toNatClampNeg (-1) i = 0
    unfold upd
    exact if_neg hi
  have z : ∀ i m, i ≠ 3 → 0 < m → isN (gA S0 53) i m := fun i m hi hm => by
    unfold isN rN
    rw [r0 i hi]
    exact ⟨rfl, hm⟩
  have n0 : rN (gA S0 53) 0 = 0 := rfl
  have n1 : rN (gA S0 53) 1 = 0 := rfl
  have n2 : rN (gA S0 53) 2 = 0 := rfl
  have n4 : rN (gA S0 53) 4 = 0 := rfl
  have n5 : rN (gA S0 53) 5 = 0 := rfl
  have n6 : rN (gA S0 53) 6 = 0 := rfl
  refine ⟨⟨⟨z 0 _ (by decide) (by decide), z 1 _ (by decide) (by decide), z 2 _ (by decide) (by decide), Or.inl rfl, z 4 _ (by decide) (by decide), z 5 _ (by decide) (by decide), z 6 _ (by decide) (by decide), z 7 _ (by decide) (by decide), ?_, ?_, ?_, ?_, ?_⟩, ⟨rfl, rfl, rfl, rfl, rfl, rfl, rfl, rfl⟩, ?_, ?_, ?_, ?_, ?_, ?_⟩, ⟨rfl, ⟨rfl, by decide⟩, ?_⟩, ⟨rfl, rfl, rfl⟩, ⟨rfl, rfl, rfl, rfl, rfl⟩, ⟨rfl, Or.inl rfl⟩, ⟨Or.inl ⟨rfl, rfl⟩, Or.inl ⟨rfl, rfl⟩⟩, ?_, ?_, ?_, ⟨fun i _ => ⟨Nat.zero_le _, Nat.zero_le _, Nat.zero_le _⟩, fun i _ => Nat.zero_le _⟩⟩
  · rw [n0]; exact fun i h => absurd h (Nat.not_lt_zero _)
  · rw [n1]; exact fun i h => absurd h (Nat.not_lt_zero _)
  · rw [n4]; exact fun i h => absurd h (Nat.not_lt_zero _)
  · rw [n5]; exact fun i h => absurd h (Nat.not_lt_zero _)
  · rw [n6]; exact fun i h => absurd h (Nat.not_lt_zero _)
  · rw [n0]; exact fun i h => absurd h (Nat.not_lt_zero _)
  · rw [n1]; exact fun i h => absurd h (Nat.not_lt_zero _)
  · rw [n4]; exact fun i h => absurd h (Nat.not_lt_zero _)
  · rw [n5]; exact fun i h => absurd h (Nat.not_lt_zero _)
  · rw [n6]; exact fun i h => absurd h (Nat.not_lt_zero _)
  · rw [n2]; exact fun i h => absurd h (Nat.not_lt_zero _)
  · rw [show rN (gI S0) 8 = 0 from rfl]; exact fun i h => absurd h (Nat.not_lt_zero _)
  · decide +kernel
  · decide +kernel
  · decide +kernel
theorem k_Ot.congr {D D' : k_D} {A : Nat → Prop} {U : State} {H : Heap} (h : k_Ot D A U H) (e : ∀ k, 81 ≤ k → D'.2.2 k = D.2.2 k) : k_Ot D' A U H := by
  have e1 : (fun i => D'.2.2 (1000 + i)) = fun i => D.2.2 (1000 + i) := funext fun i => e _ (by omega)
  have e2 : (fun i => D'.2.2 (2000 + i)) = fun i => D.2.2 (2000 + i) := funext fun i => e _ (by omega)
  refine ⟨?_, fun i hi => ?_, h.2.2⟩
  · rw [e1, e2]; exact h.1
  · rw [e _ (by omega)]; exact h.2.1 i hi
/-- all cells lie where they should: by places below 81, and none above -/
theorem st_eq {D : k_D} {dy : Nat → Nat} {F : Nat → Option va_E} (h1 : ∀ k, 81 ≤ k → F k = none) (h2 : ∀ k, k < 81 → F k = (k_cells D dy S0)[k]?) : F = k_cell D dy S0 := by
  funext k
  unfold k_cell
  by_cases q : k < 81
  · rw [if_pos (show k < k_N from q)]
    exact h2 k q
  · rw [if_neg (show ¬ k < k_N from q), h1 k (by omega)]
    unfold k_dyn
    by_cases q2 : k - k_N < 30
    · rw [if_pos q2]
      exact (if_pos rfl).symm
    · rw [if_neg q2]
      rfl
