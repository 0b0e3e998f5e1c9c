/-! part 56: putting down into a village keeps the relation -/
theorem rN_u {r : Nat → Int32} {k j : Nat} {v : Int32} (h : j ≠ k) : rN (upd r k v) j = rN r j := by unfold rN; rw [u_n h]
theorem isN_u {r : Nat → Int32} {k j m : Nat} {v : Int32} (h : j ≠ k) : isN (upd r k v) j m = isN r j m := by unfold isN; rw [rN_u h, u_n h]
theorem rN_s {r : Nat → Int32} {k v : Nat} (h : v < 2147483648) : rN (upd r k (nI v)) k = v := by unfold rN; rw [u_s, n_cl h]
theorem isN_s {r : Nat → Int32} {k v m : Nat} (h : v < 2147483648) : isN (upd r k (nI v)) k m = (v < m) := by
  unfold isN
  rw [rN_s h, u_s]
  exact propext ⟨fun q => q.2, fun q => ⟨rfl, q⟩⟩
theorem wf_tune {r : Nat → Int32} (h : Wf r) {x : Nat} (hx : x < 31) (hx0 : 0 < x) (hn : rN r 0 < 6) : Wf (upd (upd r (8 + rN r 0) (nI x)) (0) (nI (rN r 0 + 1))) := by
  obtain ⟨w0, w1, w2, w3, w4, w5, w6, w7, wt, wd, ww, we, wa⟩ := h
  have b0 := w0.2
  have b1 := w1.2
  have b2 := w2.2
  have b4 := w4.2
  have b5 := w5.2
  have b6 := w6.2
  have b7 := w7.2
  refine ⟨?_, ?_, ?_, ?_, ?_, ?_, ?_, ?_, fun i hi => ?_, fun d hd => ?_, fun w hw => ?_, fun e he => ?_, fun a hb => ?_⟩
  · simp (disch := omega) only [isN_u, rN_u, isN_s, rN_s, u_n]
    omega
  · simp (disch := omega) only [isN_u, rN_u, isN_s, rN_s]
    exact w1
  · simp (disch := omega) only [isN_u, rN_u, isN_s, rN_s]
    exact w2
  · simp (disch := omega) only [isN_u, rN_u, isN_s, rN_s, u_n]
    exact w3
  · simp (disch := omega) only [isN_u, rN_u, isN_s, rN_s]
    exact w4
  · simp (disch := omega) only [isN_u, rN_u, isN_s, rN_s]
    exact w5
  · simp (disch := omega) only [isN_u, rN_u, isN_s, rN_s]
    exact w6
  · simp (disch := omega) only [isN_u, rN_u, isN_s, rN_s]
    exact w7
  · simp (disch := omega) only [isN_u, rN_u, isN_s, rN_s] at hi
    by_cases c : i = rN r 0
    · subst c
      simp (disch := omega) only [isN_u, rN_u, isN_s, rN_s, u_n]
      exact ⟨hx, hx0⟩
    · have l : i < rN r 0 := by omega
      have q := wt i l
      simp (disch := omega) only [isN_u, rN_u, isN_s, rN_s, u_n]
      exact q
  · simp (disch := omega) only [isN_u, rN_u, isN_s, rN_s] at hd
    obtain ⟨q1, q2, q3, q4⟩ := wd d hd
    simp only [WfD, dHa, dOw, dCr] at q1 q2 q3 q4
    simp (disch := omega) only [isN_u, rN_u, isN_s, rN_s, WfD, dHa, dOw, dCr, u_n]
    exact ⟨q1, q2, ⟨q3.1, by have := q3.2; omega⟩, q4⟩
  · simp (disch := omega) only [isN_u, rN_u, isN_s, rN_s] at hw
    simp (disch := omega) only [isN_u, rN_u, isN_s, rN_s, u_n]
    exact ww w hw
  · simp (disch := omega) only [isN_u, rN_u, isN_s, rN_s] at he
    obtain ⟨q1, q2⟩ := we e he
    simp (disch := omega) only [isN_u, rN_u, isN_s, rN_s, u_n]
    exact ⟨q1, q2.1, by have := q2.2; omega⟩
  · simp (disch := omega) only [isN_u, rN_u, isN_s, rN_s] at hb
    simp (disch := omega) only [isN_u, rN_u, isN_s, rN_s, u_n]
    exact wa a hb
theorem wf_debt {r : Nat → Int32} (h : Wf r) {o c t x s : Nat} (ho : o < 8) (hc : c < 8) (hoc : o ≠ c) (ht : t < rN r 0) (hx : x < 10) (hx0 : 0 < x) (hs : s < 1000) (hn : rN r 1 < 16) : Wf (upd (upd (upd (upd (upd (upd r (14 + 5 * rN r 1) (nI o)) (14 + 5 * rN r 1 + 1) (nI c)) (14 + 5 * rN r 1 + 2) (nI t)) (14 + 5 * rN r 1 + 3) (nI x)) (14 + 5 * rN r 1 + 4) (nI s)) (1) (nI (rN r 1 + 1))) := by
  obtain ⟨w0, w1, w2, w3, w4, w5, w6, w7, wt, wd, ww, we, wa⟩ := h
  have b0 := w0.2
  have b1 := w1.2
  have b2 := w2.2
  have b4 := w4.2
  have b5 := w5.2
  have b6 := w6.2
  have b7 := w7.2
  refine ⟨?_, ?_, ?_, ?_, ?_, ?_, ?_, ?_, fun i hi => ?_, fun d hd => ?_, fun w hw => ?_, fun e he => ?_, fun a hb => ?_⟩
  · simp (disch := omega) only [isN_u, rN_u, isN_s, rN_s]
    exact w0
  · simp (disch := omega) only [isN_u, rN_u, isN_s, rN_s, u_n]
    omega
  · simp (disch := omega) only [isN_u, rN_u, isN_s, rN_s]
    exact w2
  · simp (disch := omega) only [isN_u, rN_u, isN_s, rN_s, u_n]
    exact w3
  · simp (disch := omega) only [isN_u, rN_u, isN_s, rN_s]
    exact w4
  · simp (disch := omega) only [isN_u, rN_u, isN_s, rN_s]
    exact w5
  · simp (disch := omega) only [isN_u, rN_u, isN_s, rN_s]
    exact w6
  · simp (disch := omega) only [isN_u, rN_u, isN_s, rN_s]
    exact w7
  · simp (disch := omega) only [isN_u, rN_u, isN_s, rN_s] at hi
    simp (disch := omega) only [isN_u, rN_u, isN_s, rN_s, u_n]
    exact wt i hi
  · simp (disch := omega) only [isN_u, rN_u, isN_s, rN_s] at hd
    by_cases c : d = rN r 1
    · subst c
      simp (disch := omega) only [WfD, dHa, dOw, dCr, isN_u, rN_u, isN_s, rN_s, u_n]
      exact ⟨ho, hc, ht, hx, hs, hx0, hoc⟩
    · have l : d < rN r 1 := by omega
      have q := wd d l
      simp only [WfD, dHa, dOw, dCr] at q
      simp (disch := omega) only [isN_u, rN_u, isN_s, rN_s, WfD, dHa, dOw, dCr, u_n]
      exact q
  · simp (disch := omega) only [isN_u, rN_u, isN_s, rN_s] at hw
    simp (disch := omega) only [isN_u, rN_u, isN_s, rN_s, u_n]
    exact ww w hw
  · simp (disch := omega) only [isN_u, rN_u, isN_s, rN_s] at he
    simp (disch := omega) only [isN_u, rN_u, isN_s, rN_s, u_n]
    exact we e he
  · simp (disch := omega) only [isN_u, rN_u, isN_s, rN_s] at hb
    simp (disch := omega) only [isN_u, rN_u, isN_s, rN_s, u_n]
    exact wa a hb
theorem wf_wedding {r : Nat → Int32} (h : Wf r) {x y : Nat} (hx : x < 8) (hy : y < 241) (hn : rN r 4 < 8) : Wf (upd (upd (upd r (94 + 2 * rN r 4) (nI x)) (94 + 2 * rN r 4 + 1) (nI y)) (4) (nI (rN r 4 + 1))) := by
  obtain ⟨w0, w1, w2, w3, w4, w5, w6, w7, wt, wd, ww, we, wa⟩ := h
  have b0 := w0.2
  have b1 := w1.2
  have b2 := w2.2
  have b4 := w4.2
  have b5 := w5.2
  have b6 := w6.2
  have b7 := w7.2
  refine ⟨?_, ?_, ?_, ?_, ?_, ?_, ?_, ?_, fun i hi => ?_, fun d hd => ?_, fun w hw => ?_, fun e he => ?_, fun a hb => ?_⟩
  · simp (disch := omega) only [isN_u, rN_u, isN_s, rN_s]
    exact w0
  · simp (disch := omega) only [isN_u, rN_u, isN_s, rN_s]
    exact w1
  · simp (disch := omega) only [isN_u, rN_u, isN_s, rN_s]
    exact w2
  · simp (disch := omega) only [isN_u, rN_u, isN_s, rN_s, u_n]
    exact w3
  · simp (disch := omega) only [isN_u, rN_u, isN_s, rN_s, u_n]
    omega
  · simp (disch := omega) only [isN_u, rN_u, isN_s, rN_s]
    exact w5
  · simp (disch := omega) only [isN_u, rN_u, isN_s, rN_s]
    exact w6
  · simp (disch := omega) only [isN_u, rN_u, isN_s, rN_s]
    exact w7
  · simp (disch := omega) only [isN_u, rN_u, isN_s, rN_s] at hi
    simp (disch := omega) only [isN_u, rN_u, isN_s, rN_s, u_n]
    exact wt i hi
  · simp (disch := omega) only [isN_u, rN_u, isN_s, rN_s] at hd
    have q := wd d hd
    simp only [WfD, dHa, dOw, dCr] at q
    simp (disch := omega) only [isN_u, rN_u, isN_s, rN_s, WfD, dHa, dOw, dCr, u_n]
    exact q
  · simp (disch := omega) only [isN_u, rN_u, isN_s, rN_s] at hw
    by_cases c : w = rN r 4
    · subst c
      simp (disch := omega) only [isN_u, rN_u, isN_s, rN_s, u_n]
      exact ⟨hx, hy⟩
    · have l : w < rN r 4 := by omega
      have q := ww w l
      simp (disch := omega) only [isN_u, rN_u, isN_s, rN_s, u_n]
      exact q
  · simp (disch := omega) only [isN_u, rN_u, isN_s, rN_s] at he
    simp (disch := omega) only [isN_u, rN_u, isN_s, rN_s, u_n]
    exact we e he
  · simp (disch := omega) only [isN_u, rN_u, isN_s, rN_s] at hb
    simp (disch := omega) only [isN_u, rN_u, isN_s, rN_s, u_n]
    exact wa a hb
theorem wf_dance {r : Nat → Int32} (h : Wf r) {x y : Nat} (hx : x < 8) (hy : y < rN r 0) (hn : rN r 5 < 10) : Wf (upd (upd (upd r (110 + 2 * rN r 5) (nI x)) (110 + 2 * rN r 5 + 1) (nI y)) (5) (nI (rN r 5 + 1))) := by
  obtain ⟨w0, w1, w2, w3, w4, w5, w6, w7, wt, wd, ww, we, wa⟩ := h
  have b0 := w0.2
  have b1 := w1.2
  have b2 := w2.2
  have b4 := w4.2
  have b5 := w5.2
  have b6 := w6.2
  have b7 := w7.2
  refine ⟨?_, ?_, ?_, ?_, ?_, ?_, ?_, ?_, fun i hi => ?_, fun d hd => ?_, fun w hw => ?_, fun e he => ?_, fun a hb => ?_⟩
  · simp (disch := omega) only [isN_u, rN_u, isN_s, rN_s]
    exact w0
  · simp (disch := omega) only [isN_u, rN_u, isN_s, rN_s]
    exact w1
  · simp (disch := omega) only [isN_u, rN_u, isN_s, rN_s]
    exact w2
  · simp (disch := omega) only [isN_u, rN_u, isN_s, rN_s, u_n]
    exact w3
  · simp (disch := omega) only [isN_u, rN_u, isN_s, rN_s]
    exact w4
  · simp (disch := omega) only [isN_u, rN_u, isN_s, rN_s, u_n]
    omega
  · simp (disch := omega) only [isN_u, rN_u, isN_s, rN_s]
    exact w6
  · simp (disch := omega) only [isN_u, rN_u, isN_s, rN_s]
    exact w7
  · simp (disch := omega) only [isN_u, rN_u, isN_s, rN_s] at hi
    simp (disch := omega) only [isN_u, rN_u, isN_s, rN_s, u_n]
    exact wt i hi
  · simp (disch := omega) only [isN_u, rN_u, isN_s, rN_s] at hd
    have q := wd d hd
    simp only [WfD, dHa, dOw, dCr] at q
    simp (disch := omega) only [isN_u, rN_u, isN_s, rN_s, WfD, dHa, dOw, dCr, u_n]
    exact q
  · simp (disch := omega) only [isN_u, rN_u, isN_s, rN_s] at hw
    simp (disch := omega) only [isN_u, rN_u, isN_s, rN_s, u_n]
    exact ww w hw
  · simp (disch := omega) only [isN_u, rN_u, isN_s, rN_s] at he
    by_cases c : e = rN r 5
    · subst c
      simp (disch := omega) only [isN_u, rN_u, isN_s, rN_s, u_n]
      exact ⟨hx, hy⟩
    · have l : e < rN r 5 := by omega
      have q := we e l
      simp (disch := omega) only [isN_u, rN_u, isN_s, rN_s, u_n]
      exact q
  · simp (disch := omega) only [isN_u, rN_u, isN_s, rN_s] at hb
    obtain ⟨q1, q2, q3⟩ := wa a hb
    simp (disch := omega) only [isN_u, rN_u, isN_s, rN_s, u_n]
    exact ⟨⟨q1.1, by have := q1.2; omega⟩, ⟨q2.1, by have := q2.2; omega⟩, q3⟩
theorem wf_ahead {r : Nat → Int32} (h : Wf r) {x y : Nat} (hx : x < rN r 5) (hy : y < rN r 5) (hxy : x ≠ y) (hn : rN r 6 < 12) : Wf (upd (upd (upd r (130 + 2 * rN r 6) (nI x)) (130 + 2 * rN r 6 + 1) (nI y)) (6) (nI (rN r 6 + 1))) := by
  obtain ⟨w0, w1, w2, w3, w4, w5, w6, w7, wt, wd, ww, we, wa⟩ := h
  have b0 := w0.2
  have b1 := w1.2
  have b2 := w2.2
  have b4 := w4.2
  have b5 := w5.2
  have b6 := w6.2
  have b7 := w7.2
  refine ⟨?_, ?_, ?_, ?_, ?_, ?_, ?_, ?_, fun i hi => ?_, fun d hd => ?_, fun w hw => ?_, fun e he => ?_, fun a hb => ?_⟩
  · simp (disch := omega) only [isN_u, rN_u, isN_s, rN_s]
    exact w0
  · simp (disch := omega) only [isN_u, rN_u, isN_s, rN_s]
    exact w1
  · simp (disch := omega) only [isN_u, rN_u, isN_s, rN_s]
    exact w2
  · simp (disch := omega) only [isN_u, rN_u, isN_s, rN_s, u_n]
    exact w3
  · simp (disch := omega) only [isN_u, rN_u, isN_s, rN_s]
    exact w4
  · simp (disch := omega) only [isN_u, rN_u, isN_s, rN_s]
    exact w5
  · simp (disch := omega) only [isN_u, rN_u, isN_s, rN_s, u_n]
    omega
  · simp (disch := omega) only [isN_u, rN_u, isN_s, rN_s]
    exact w7
  · simp (disch := omega) only [isN_u, rN_u, isN_s, rN_s] at hi
    simp (disch := omega) only [isN_u, rN_u, isN_s, rN_s, u_n]
    exact wt i hi
  · simp (disch := omega) only [isN_u, rN_u, isN_s, rN_s] at hd
    have q := wd d hd
    simp only [WfD, dHa, dOw, dCr] at q
    simp (disch := omega) only [isN_u, rN_u, isN_s, rN_s, WfD, dHa, dOw, dCr, u_n]
    exact q
  · simp (disch := omega) only [isN_u, rN_u, isN_s, rN_s] at hw
    simp (disch := omega) only [isN_u, rN_u, isN_s, rN_s, u_n]
    exact ww w hw
  · simp (disch := omega) only [isN_u, rN_u, isN_s, rN_s] at he
    simp (disch := omega) only [isN_u, rN_u, isN_s, rN_s, u_n]
    exact we e he
  · simp (disch := omega) only [isN_u, rN_u, isN_s, rN_s] at hb
    by_cases c : a = rN r 6
    · subst c
      simp (disch := omega) only [isN_u, rN_u, isN_s, rN_s, u_n]
      exact ⟨hx, hy, hxy⟩
    · have l : a < rN r 6 := by omega
      have q := wa a l
      simp (disch := omega) only [isN_u, rN_u, isN_s, rN_s, u_n]
      exact q
theorem wf_terms {r : Nat → Int32} (h : Wf r) {x : Nat} (hx : x < 1000) : Wf (upd r (7) (nI x)) := by
  obtain ⟨w0, w1, w2, w3, w4, w5, w6, w7, wt, wd, ww, we, wa⟩ := h
  have b0 := w0.2
  have b1 := w1.2
  have b2 := w2.2
  have b4 := w4.2
  have b5 := w5.2
  have b6 := w6.2
  have b7 := w7.2
  refine ⟨?_, ?_, ?_, ?_, ?_, ?_, ?_, ?_, fun i hi => ?_, fun d hd => ?_, fun w hw => ?_, fun e he => ?_, fun a hb => ?_⟩
  · simp (disch := omega) only [isN_u, rN_u, isN_s, rN_s]
    exact w0
  · simp (disch := omega) only [isN_u, rN_u, isN_s, rN_s]
    exact w1
  · simp (disch := omega) only [isN_u, rN_u, isN_s, rN_s]
    exact w2
  · simp (disch := omega) only [isN_u, rN_u, isN_s, rN_s, u_n]
    exact w3
  · simp (disch := omega) only [isN_u, rN_u, isN_s, rN_s]
    exact w4
  · simp (disch := omega) only [isN_u, rN_u, isN_s, rN_s]
    exact w5
  · simp (disch := omega) only [isN_u, rN_u, isN_s, rN_s]
    exact w6
  · simp (disch := omega) only [isN_u, rN_u, isN_s, rN_s, u_n]
    omega
  · simp (disch := omega) only [isN_u, rN_u, isN_s, rN_s] at hi
    simp (disch := omega) only [isN_u, rN_u, isN_s, rN_s, u_n]
    exact wt i hi
  · simp (disch := omega) only [isN_u, rN_u, isN_s, rN_s] at hd
    have q := wd d hd
    simp only [WfD, dHa, dOw, dCr] at q
    simp (disch := omega) only [isN_u, rN_u, isN_s, rN_s, WfD, dHa, dOw, dCr, u_n]
    exact q
  · simp (disch := omega) only [isN_u, rN_u, isN_s, rN_s] at hw
    simp (disch := omega) only [isN_u, rN_u, isN_s, rN_s, u_n]
    exact ww w hw
  · simp (disch := omega) only [isN_u, rN_u, isN_s, rN_s] at he
    simp (disch := omega) only [isN_u, rN_u, isN_s, rN_s, u_n]
    exact we e he
  · simp (disch := omega) only [isN_u, rN_u, isN_s, rN_s] at hb
    simp (disch := omega) only [isN_u, rN_u, isN_s, rN_s, u_n]
    exact wa a hb
theorem wf_forceN {r : Nat → Int32} (h : Wf r)  : Wf (upd r (3) (iZ (-1))) := by
  obtain ⟨w0, w1, w2, w3, w4, w5, w6, w7, wt, wd, ww, we, wa⟩ := h
  have b0 := w0.2
  have b1 := w1.2
  have b2 := w2.2
  have b4 := w4.2
  have b5 := w5.2
  have b6 := w6.2
  have b7 := w7.2
  refine ⟨?_, ?_, ?_, ?_, ?_, ?_, ?_, ?_, fun i hi => ?_, fun d hd => ?_, fun w hw => ?_, fun e he => ?_, fun a hb => ?_⟩
  · simp (disch := omega) only [isN_u, rN_u, isN_s, rN_s]
    exact w0
  · simp (disch := omega) only [isN_u, rN_u, isN_s, rN_s]
    exact w1
  · simp (disch := omega) only [isN_u, rN_u, isN_s, rN_s]
    exact w2
  · exact Or.inl u_s
  · simp (disch := omega) only [isN_u, rN_u, isN_s, rN_s]
    exact w4
  · simp (disch := omega) only [isN_u, rN_u, isN_s, rN_s]
    exact w5
  · simp (disch := omega) only [isN_u, rN_u, isN_s, rN_s]
    exact w6
  · simp (disch := omega) only [isN_u, rN_u, isN_s, rN_s]
    exact w7
  · simp (disch := omega) only [isN_u, rN_u, isN_s, rN_s] at hi
    simp (disch := omega) only [isN_u, rN_u, isN_s, rN_s, u_n]
    exact wt i hi
  · simp (disch := omega) only [isN_u, rN_u, isN_s, rN_s] at hd
    have q := wd d hd
    simp only [WfD, dHa, dOw, dCr] at q
    simp (disch := omega) only [isN_u, rN_u, isN_s, rN_s, WfD, dHa, dOw, dCr, u_n]
    exact q
  · simp (disch := omega) only [isN_u, rN_u, isN_s, rN_s] at hw
    simp (disch := omega) only [isN_u, rN_u, isN_s, rN_s, u_n]
    exact ww w hw
  · simp (disch := omega) only [isN_u, rN_u, isN_s, rN_s] at he
    simp (disch := omega) only [isN_u, rN_u, isN_s, rN_s, u_n]
    exact we e he
  · simp (disch := omega) only [isN_u, rN_u, isN_s, rN_s] at hb
    simp (disch := omega) only [isN_u, rN_u, isN_s, rN_s, u_n]
    exact wa a hb
theorem wf_force {r : Nat → Int32} (h : Wf r) {x : Nat} (hx : x < rN r 2) : Wf (upd r (3) (nI x)) := by
  obtain ⟨w0, w1, w2, w3, w4, w5, w6, w7, wt, wd, ww, we, wa⟩ := h
  have b0 := w0.2
  have b1 := w1.2
  have b2 := w2.2
  have b4 := w4.2
  have b5 := w5.2
  have b6 := w6.2
  have b7 := w7.2
  refine ⟨?_, ?_, ?_, ?_, ?_, ?_, ?_, ?_, fun i hi => ?_, fun d hd => ?_, fun w hw => ?_, fun e he => ?_, fun a hb => ?_⟩
  · simp (disch := omega) only [isN_u, rN_u, isN_s, rN_s]
    exact w0
  · simp (disch := omega) only [isN_u, rN_u, isN_s, rN_s]
    exact w1
  · simp (disch := omega) only [isN_u, rN_u, isN_s, rN_s]
    exact w2
  · right
    simp (disch := omega) only [isN_u, rN_u, isN_s, rN_s, u_n]
    exact hx
  · simp (disch := omega) only [isN_u, rN_u, isN_s, rN_s]
    exact w4
  · simp (disch := omega) only [isN_u, rN_u, isN_s, rN_s]
    exact w5
  · simp (disch := omega) only [isN_u, rN_u, isN_s, rN_s]
    exact w6
  · simp (disch := omega) only [isN_u, rN_u, isN_s, rN_s]
    exact w7
  · simp (disch := omega) only [isN_u, rN_u, isN_s, rN_s] at hi
    simp (disch := omega) only [isN_u, rN_u, isN_s, rN_s, u_n]
    exact wt i hi
  · simp (disch := omega) only [isN_u, rN_u, isN_s, rN_s] at hd
    have q := wd d hd
    simp only [WfD, dHa, dOw, dCr] at q
    simp (disch := omega) only [isN_u, rN_u, isN_s, rN_s, WfD, dHa, dOw, dCr, u_n]
    exact q
  · simp (disch := omega) only [isN_u, rN_u, isN_s, rN_s] at hw
    simp (disch := omega) only [isN_u, rN_u, isN_s, rN_s, u_n]
    exact ww w hw
  · simp (disch := omega) only [isN_u, rN_u, isN_s, rN_s] at he
    simp (disch := omega) only [isN_u, rN_u, isN_s, rN_s, u_n]
    exact we e he
  · simp (disch := omega) only [isN_u, rN_u, isN_s, rN_s] at hb
    simp (disch := omega) only [isN_u, rN_u, isN_s, rN_s, u_n]
    exact wa a hb
theorem wf_divorce {r : Nat → Int32} (h : Wf r)  : Wf (upd r (4) (nI 0)) := by
  obtain ⟨w0, w1, w2, w3, w4, w5, w6, w7, wt, wd, ww, we, wa⟩ := h
  have b0 := w0.2
  have b1 := w1.2
  have b2 := w2.2
  have b4 := w4.2
  have b5 := w5.2
  have b6 := w6.2
  have b7 := w7.2
  refine ⟨?_, ?_, ?_, ?_, ?_, ?_, ?_, ?_, fun i hi => ?_, fun d hd => ?_, fun w hw => ?_, fun e he => ?_, fun a hb => ?_⟩
  · simp (disch := omega) only [isN_u, rN_u, isN_s, rN_s]
    exact w0
  · simp (disch := omega) only [isN_u, rN_u, isN_s, rN_s]
    exact w1
  · simp (disch := omega) only [isN_u, rN_u, isN_s, rN_s]
    exact w2
  · simp (disch := omega) only [isN_u, rN_u, isN_s, rN_s, u_n]
    exact w3
  · simp (disch := omega) only [isN_u, rN_u, isN_s, rN_s, u_n]
    omega
  · simp (disch := omega) only [isN_u, rN_u, isN_s, rN_s]
    exact w5
  · simp (disch := omega) only [isN_u, rN_u, isN_s, rN_s]
    exact w6
  · simp (disch := omega) only [isN_u, rN_u, isN_s, rN_s]
    exact w7
  · simp (disch := omega) only [isN_u, rN_u, isN_s, rN_s] at hi
    simp (disch := omega) only [isN_u, rN_u, isN_s, rN_s, u_n]
    exact wt i hi
  · simp (disch := omega) only [isN_u, rN_u, isN_s, rN_s] at hd
    have q := wd d hd
    simp only [WfD, dHa, dOw, dCr] at q
    simp (disch := omega) only [isN_u, rN_u, isN_s, rN_s, WfD, dHa, dOw, dCr, u_n]
    exact q
  · simp (disch := omega) only [isN_u, rN_u, isN_s, rN_s] at hw
    omega
  · simp (disch := omega) only [isN_u, rN_u, isN_s, rN_s] at he
    simp (disch := omega) only [isN_u, rN_u, isN_s, rN_s, u_n]
    exact we e he
  · simp (disch := omega) only [isN_u, rN_u, isN_s, rN_s] at hb
    simp (disch := omega) only [isN_u, rN_u, isN_s, rN_s, u_n]
    exact wa a hb
theorem wf_forget {r : Nat → Int32} (h : Wf r)  : Wf (upd (upd r (5) (nI 0)) (6) (nI 0)) := by
  obtain ⟨w0, w1, w2, w3, w4, w5, w6, w7, wt, wd, ww, we, wa⟩ := h
  have b0 := w0.2
  have b1 := w1.2
  have b2 := w2.2
  have b4 := w4.2
  have b5 := w5.2
  have b6 := w6.2
  have b7 := w7.2
  refine ⟨?_, ?_, ?_, ?_, ?_, ?_, ?_, ?_, fun i hi => ?_, fun d hd => ?_, fun w hw => ?_, fun e he => ?_, fun a hb => ?_⟩
  · simp (disch := omega) only [isN_u, rN_u, isN_s, rN_s]
    exact w0
  · simp (disch := omega) only [isN_u, rN_u, isN_s, rN_s]
    exact w1
  · simp (disch := omega) only [isN_u, rN_u, isN_s, rN_s]
    exact w2
  · simp (disch := omega) only [isN_u, rN_u, isN_s, rN_s, u_n]
    exact w3
  · simp (disch := omega) only [isN_u, rN_u, isN_s, rN_s]
    exact w4
  · simp (disch := omega) only [isN_u, rN_u, isN_s, rN_s, u_n]
    omega
  · simp (disch := omega) only [isN_u, rN_u, isN_s, rN_s, u_n]
    omega
  · simp (disch := omega) only [isN_u, rN_u, isN_s, rN_s]
    exact w7
  · simp (disch := omega) only [isN_u, rN_u, isN_s, rN_s] at hi
    simp (disch := omega) only [isN_u, rN_u, isN_s, rN_s, u_n]
    exact wt i hi
  · simp (disch := omega) only [isN_u, rN_u, isN_s, rN_s] at hd
    have q := wd d hd
    simp only [WfD, dHa, dOw, dCr] at q
    simp (disch := omega) only [isN_u, rN_u, isN_s, rN_s, WfD, dHa, dOw, dCr, u_n]
    exact q
  · simp (disch := omega) only [isN_u, rN_u, isN_s, rN_s] at hw
    simp (disch := omega) only [isN_u, rN_u, isN_s, rN_s, u_n]
    exact ww w hw
  · simp (disch := omega) only [isN_u, rN_u, isN_s, rN_s] at he
    omega
  · simp (disch := omega) only [isN_u, rN_u, isN_s, rN_s] at hb
    omega
