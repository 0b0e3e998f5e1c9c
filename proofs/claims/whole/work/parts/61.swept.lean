/-! part 61: a swept village is related again -/
theorem rN_e {r r' : Nat → Int32} {i : Nat} (h : r' i = r i) : rN r' i = rN r i := by unfold rN; rw [h]
theorem isN_e {r r' : Nat → Int32} {i m : Nat} (h : r' i = r i) : isN r' i m = isN r i m := by unfold isN; rw [rN_e h, h]
theorem isN_i {r r' : Nat → Int32} {i j m : Nat} (h : r' i = r j) (q : isN r j m) : isN r' i m := by
  unfold isN rN at *
  rw [h]
  exact q
theorem isN_v {r : Nat → Int32} {i v m : Nat} (h : r i = nI v) (hv : v < m) (hm : m < 2147483648) : isN r i m ∧ rN r i = v := by
  unfold isN rN
  rw [h, n_cl (by omega)]
  exact ⟨⟨rfl, hv⟩, rfl⟩
theorem rv_swept {I I' : Nat → Int32} {A A' : Nat → Nat → Int32} {L : Nat → Nat} {C : List (Nat × (Nat → Int32))} {r r' : Nat → Int32} {h : Nat → Nat} (w : Wf r) (hc : RvC I A L C r) (hh : ∀ d, d < nD r → h d < 10)
    (i1 : I' 1 = nI (kc h (nD r))) (iI : ∀ i, i < 8 → i ≠ 1 → I' i = I i) (aA : ∀ j, j < 15 → j ∉ [3, 4, 5, 6, 7] → A' j = A j)
    (a5 : ∀ d, d < nD r → 0 < h d → A' 3 (kc h d) = A 3 d ∧ A' 4 (kc h d) = A 4 d ∧ A' 5 (kc h d) = A 5 d ∧ A' 6 (kc h d) = nI (h d) ∧ A' 7 (kc h d) = A 7 d)
    (r1 : r' 1 = nI (kc h (nD r))) (rr : ∀ i, i ≠ 1 → i < 14 ∨ 94 ≤ i → r' i = r i)
    (r5 : ∀ d, d < nD r → 0 < h d → r' (14 + 5 * kc h d) = r (14 + 5 * d) ∧ r' (14 + 5 * kc h d + 1) = r (14 + 5 * d + 1) ∧ r' (14 + 5 * kc h d + 2) = r (14 + 5 * d + 2) ∧ r' (14 + 5 * kc h d + 3) = nI (h d) ∧ r' (14 + 5 * kc h d + 4) = r (14 + 5 * d + 4)) : Rv I' A' L C r' := by
  have hle := kc_le h (nD r)
  have hn := w.n16
  obtain ⟨n1, n2⟩ := isN_v (m := 17) r1 (by omega) (by decide)
  obtain ⟨w0, w1, w2, w3, w4, w5, w6, w7, wt, wd, ww, we, wa⟩ := w
  obtain ⟨⟨c0, c1, c2, c3, c4, c5, c6, c7⟩, ct, cd, cw, ce, ca, cl⟩ := hc
  have b0 := w0.2
  have b4 := w4.2
  have b5 := w5.2
  have b6 := w6.2
  have e0 : r' 0 = r 0 := rr 0 (by decide) (by decide)
  have e2 : r' 2 = r 2 := rr 2 (by decide) (by decide)
  have e3 : r' 3 = r 3 := rr 3 (by decide) (by decide)
  have e4 : r' 4 = r 4 := rr 4 (by decide) (by decide)
  have e5 : r' 5 = r 5 := rr 5 (by decide) (by decide)
  have e6 : r' 6 = r 6 := rr 6 (by decide) (by decide)
  have e7 : r' 7 = r 7 := rr 7 (by decide) (by decide)
  refine ⟨⟨?_, n1, ?_, ?_, ?_, ?_, ?_, ?_, fun i hi => ?_, fun j hj => ?_, fun v hv => ?_, fun e he => ?_, fun a hb => ?_⟩, ⟨?_, ?_, ?_, ?_, ?_, ?_, ?_, ?_⟩, fun i hi => ?_, fun j hj => ?_, fun v hv => ?_, fun e he => ?_, fun a hb => ?_, fun l hl => ?_⟩
  · rw [isN_e e0]; exact w0
  · rw [isN_e e2]; exact w2
  · rw [e3, isN_e e3, rN_e e2]; exact w3
  · rw [isN_e e4]; exact w4
  · rw [isN_e e5]; exact w5
  · rw [isN_e e6]; exact w6
  · rw [isN_e e7]; exact w7
  · rw [rN_e e0] at hi
    have e := rr (8 + i) (by omega) (by omega)
    rw [isN_e e, rN_e e]
    exact wt i hi
  · rw [n2] at hj
    obtain ⟨d, hd, hk, hp⟩ := kc_surj hj
    obtain ⟨q1, q2, q3, q4, q5⟩ := r5 d hd hp
    obtain ⟨p1, p2, p3, p4, p5, p6, p7⟩ := wd d hd
    obtain ⟨v1, v2⟩ := isN_v (m := 10) q4 (hh d hd) (by decide)
    rw [← hk]
    refine ⟨isN_i q1 p1, isN_i q2 p2, ?_, v1, isN_i q5 p5, ?_, ?_⟩
    · rw [rN_e e0]; exact isN_i q3 p3
    · show 0 < rN r' _; rw [v2]; exact hp
    · show rN r' (14 + 5 * kc h d) ≠ rN r' (14 + 5 * kc h d + 1)
      unfold rN
      rw [q1, q2]
      exact p7
  · rw [rN_e e4] at hv
    rw [isN_e (rr (94 + 2 * v) (by omega) (by omega)), isN_e (rr (94 + 2 * v + 1) (by omega) (by omega))]
    exact ww v hv
  · rw [rN_e e5] at he
    rw [isN_e (rr (110 + 2 * e) (by omega) (by omega)), isN_e (rr (110 + 2 * e + 1) (by omega) (by omega)), rN_e e0]
    exact we e he
  · rw [rN_e e6] at hb
    rw [isN_e (rr (130 + 2 * a) (by omega) (by omega)), isN_e (rr (130 + 2 * a + 1) (by omega) (by omega)), rN_e e5, rN_e (rr (130 + 2 * a) (by omega) (by omega)), rN_e (rr (130 + 2 * a + 1) (by omega) (by omega))]
    exact wa a hb
  · rw [iI 0 (by decide) (by decide), e0]; exact c0
  · rw [i1, r1]
  · rw [iI 2 (by decide) (by decide), e7]; exact c2
  · rw [iI 3 (by decide) (by decide), e2]; exact c3
  · rw [iI 4 (by decide) (by decide), e3]; exact c4
  · rw [iI 5 (by decide) (by decide), e4]; exact c5
  · rw [iI 6 (by decide) (by decide), e5]; exact c6
  · rw [iI 7 (by decide) (by decide), e6]; exact c7
  · rw [rN_e e0] at hi
    rw [aA 1 (by decide) (by decide), rr (8 + i) (by omega) (by omega)]
    exact ct i hi
  · rw [n2] at hj
    obtain ⟨d, hd, hk, hp⟩ := kc_surj hj
    obtain ⟨q1, q2, q3, q4, q5⟩ := r5 d hd hp
    obtain ⟨p1, p2, p3, p4, p5⟩ := a5 d hd hp
    obtain ⟨s1, s2, s3, s4, s5⟩ := cd d hd
    rw [← hk, q1, q2, q3, q4, q5, p1, p2, p3, p4, p5]
    exact ⟨s1, s2, s3, rfl, s5⟩
  · rw [rN_e e4] at hv
    rw [aA 9 (by decide) (by decide), aA 10 (by decide) (by decide), rr (94 + 2 * v) (by omega) (by omega), rr (94 + 2 * v + 1) (by omega) (by omega)]
    exact cw v hv
  · rw [rN_e e5] at he
    rw [aA 11 (by decide) (by decide), aA 12 (by decide) (by decide), rr (110 + 2 * e) (by omega) (by omega), rr (110 + 2 * e + 1) (by omega) (by omega)]
    exact ce e he
  · rw [rN_e e6] at hb
    rw [aA 13 (by decide) (by decide), aA 14 (by decide) (by decide), rr (130 + 2 * a) (by omega) (by omega), rr (130 + 2 * a + 1) (by omega) (by omega)]
    exact ca a hb
  · rw [rN_e e2] at hl
    have e : (fun i => r' (160 + 900 * l + i)) = fun i => r (160 + 900 * l + i) := funext fun i => rr _ (by omega) (by omega)
    rw [e]
    exact cl l hl
