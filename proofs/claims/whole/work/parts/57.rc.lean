/-! part 57: the same on the class's side -/
theorem k_us {α : Type} {f : Nat → α} {k : Nat} {v : α} : k_up f k v k = v := if_pos rfl
theorem k_un {α : Type} {f : Nat → α} {k j : Nat} {v : α} (h : j ≠ k) : k_up f k v j = f j := if_neg h
theorem rc_tune {I : Nat → Int32} {A : Nat → Nat → Int32} {L : Nat → Nat} {C : List (Nat × (Nat → Int32))} {r : Nat → Int32} (w : Wf r) (h : RvC I A L C r) {x : Nat} (hn : rN r 0 < 6) : RvC (k_up I 0 (nI (rN r 0 + 1))) (k_up A 1 (upd (A 1) (rN r 0) (nI x))) L C (upd (upd r (8 + rN r 0) (nI x)) (0) (nI (rN r 0 + 1))) := by
  obtain ⟨⟨c0, c1, c2, c3, c4, c5, c6, c7⟩, ct, cd, cw, ce, ca, cl⟩ := h
  obtain ⟨w0, w1, w2, w3, w4, w5, w6, w7, wt, wd, ww, we, wa⟩ := w
  have b0 := w0.2
  have b1 := w1.2
  have b2 := w2.2
  have b4 := w4.2
  have b5 := w5.2
  have b6 := w6.2
  have b7 := w7.2
  refine ⟨⟨?_, ?_, ?_, ?_, ?_, ?_, ?_, ?_⟩, fun i hi => ?_, fun d hd => ?_, fun w hw => ?_, fun e he => ?_, fun a hb => ?_, fun l hl => ?_⟩
  · simp (disch := omega) only [k_us, k_un, u_s, u_n, isN_u, rN_u, isN_s, rN_s]
  · simp (disch := omega) only [k_us, k_un, u_s, u_n, isN_u, rN_u, isN_s, rN_s, c1]
  · simp (disch := omega) only [k_us, k_un, u_s, u_n, isN_u, rN_u, isN_s, rN_s, c2]
  · simp (disch := omega) only [k_us, k_un, u_s, u_n, isN_u, rN_u, isN_s, rN_s, c3]
  · simp (disch := omega) only [k_us, k_un, u_s, u_n, isN_u, rN_u, isN_s, rN_s, c4]
  · simp (disch := omega) only [k_us, k_un, u_s, u_n, isN_u, rN_u, isN_s, rN_s, c5]
  · simp (disch := omega) only [k_us, k_un, u_s, u_n, isN_u, rN_u, isN_s, rN_s, c6]
  · simp (disch := omega) only [k_us, k_un, u_s, u_n, isN_u, rN_u, isN_s, rN_s, c7]
  · simp (disch := omega) only [isN_u, rN_u, isN_s, rN_s] at hi
    by_cases c : i = rN r 0
    · subst c
      simp (disch := omega) only [k_us, k_un, u_s, u_n, isN_u, rN_u, isN_s, rN_s, and_self]
    · have q := ct i (by omega)
      simp (disch := omega) only [k_us, k_un, u_s, u_n, isN_u, rN_u, isN_s, rN_s]
      exact q
  · simp (disch := omega) only [isN_u, rN_u, isN_s, rN_s] at hd
    have q := cd d hd
    simp (disch := omega) only [k_us, k_un, u_s, u_n, isN_u, rN_u, isN_s, rN_s]
    exact q
  · simp (disch := omega) only [isN_u, rN_u, isN_s, rN_s] at hw
    have q := cw w hw
    simp (disch := omega) only [k_us, k_un, u_s, u_n, isN_u, rN_u, isN_s, rN_s]
    exact q
  · simp (disch := omega) only [isN_u, rN_u, isN_s, rN_s] at he
    have q := ce e he
    simp (disch := omega) only [k_us, k_un, u_s, u_n, isN_u, rN_u, isN_s, rN_s]
    exact q
  · simp (disch := omega) only [isN_u, rN_u, isN_s, rN_s] at hb
    have q := ca a hb
    simp (disch := omega) only [k_us, k_un, u_s, u_n, isN_u, rN_u, isN_s, rN_s]
    exact q
  · simp (disch := omega) only [isN_u, rN_u, isN_s, rN_s] at hl
    have q := cl l hl
    have e : (fun i => (upd (upd r (8 + rN r 0) (nI x)) (0) (nI (rN r 0 + 1))) (160 + 900 * l + i)) = fun i => r (160 + 900 * l + i) := by
      funext i
      simp (disch := omega) only [u_n]
    rw [e]
    exact q
theorem rc_debt {I : Nat → Int32} {A : Nat → Nat → Int32} {L : Nat → Nat} {C : List (Nat × (Nat → Int32))} {r : Nat → Int32} (w : Wf r) (h : RvC I A L C r) {o c t x s : Nat} (hn : rN r 1 < 16) : RvC (k_up I 1 (nI (rN r 1 + 1))) (k_up (k_up (k_up (k_up (k_up A 3 (upd (A 3) (rN r 1) (nI o))) 4 (upd (A 4) (rN r 1) (nI c))) 5 (upd (A 5) (rN r 1) (nI t))) 6 (upd (A 6) (rN r 1) (nI x))) 7 (upd (A 7) (rN r 1) (nI s))) L C (upd (upd (upd (upd (upd (upd r (14 + 5 * rN r 1) (nI o)) (14 + 5 * rN r 1 + 1) (nI c)) (14 + 5 * rN r 1 + 2) (nI t)) (14 + 5 * rN r 1 + 3) (nI x)) (14 + 5 * rN r 1 + 4) (nI s)) (1) (nI (rN r 1 + 1))) := by
  obtain ⟨⟨c0, c1, c2, c3, c4, c5, c6, c7⟩, ct, cd, cw, ce, ca, cl⟩ := h
  obtain ⟨w0, w1, w2, w3, w4, w5, w6, w7, wt, wd, ww, we, wa⟩ := w
  have b0 := w0.2
  have b1 := w1.2
  have b2 := w2.2
  have b4 := w4.2
  have b5 := w5.2
  have b6 := w6.2
  have b7 := w7.2
  refine ⟨⟨?_, ?_, ?_, ?_, ?_, ?_, ?_, ?_⟩, fun i hi => ?_, fun d hd => ?_, fun w hw => ?_, fun e he => ?_, fun a hb => ?_, fun l hl => ?_⟩
  · simp (disch := omega) only [k_us, k_un, u_s, u_n, isN_u, rN_u, isN_s, rN_s, c0]
  · simp (disch := omega) only [k_us, k_un, u_s, u_n, isN_u, rN_u, isN_s, rN_s]
  · simp (disch := omega) only [k_us, k_un, u_s, u_n, isN_u, rN_u, isN_s, rN_s, c2]
  · simp (disch := omega) only [k_us, k_un, u_s, u_n, isN_u, rN_u, isN_s, rN_s, c3]
  · simp (disch := omega) only [k_us, k_un, u_s, u_n, isN_u, rN_u, isN_s, rN_s, c4]
  · simp (disch := omega) only [k_us, k_un, u_s, u_n, isN_u, rN_u, isN_s, rN_s, c5]
  · simp (disch := omega) only [k_us, k_un, u_s, u_n, isN_u, rN_u, isN_s, rN_s, c6]
  · simp (disch := omega) only [k_us, k_un, u_s, u_n, isN_u, rN_u, isN_s, rN_s, c7]
  · simp (disch := omega) only [isN_u, rN_u, isN_s, rN_s] at hi
    have q := ct i hi
    simp (disch := omega) only [k_us, k_un, u_s, u_n, isN_u, rN_u, isN_s, rN_s]
    exact q
  · simp (disch := omega) only [isN_u, rN_u, isN_s, rN_s] at hd
    by_cases c : d = rN r 1
    · subst c
      simp (disch := omega) only [k_us, k_un, u_s, u_n, isN_u, rN_u, isN_s, rN_s, and_self]
    · have q := cd d (by omega)
      simp (disch := omega) only [k_us, k_un, u_s, u_n, isN_u, rN_u, isN_s, rN_s]
      exact q
  · simp (disch := omega) only [isN_u, rN_u, isN_s, rN_s] at hw
    have q := cw w hw
    simp (disch := omega) only [k_us, k_un, u_s, u_n, isN_u, rN_u, isN_s, rN_s]
    exact q
  · simp (disch := omega) only [isN_u, rN_u, isN_s, rN_s] at he
    have q := ce e he
    simp (disch := omega) only [k_us, k_un, u_s, u_n, isN_u, rN_u, isN_s, rN_s]
    exact q
  · simp (disch := omega) only [isN_u, rN_u, isN_s, rN_s] at hb
    have q := ca a hb
    simp (disch := omega) only [k_us, k_un, u_s, u_n, isN_u, rN_u, isN_s, rN_s]
    exact q
  · simp (disch := omega) only [isN_u, rN_u, isN_s, rN_s] at hl
    have q := cl l hl
    have e : (fun i => (upd (upd (upd (upd (upd (upd r (14 + 5 * rN r 1) (nI o)) (14 + 5 * rN r 1 + 1) (nI c)) (14 + 5 * rN r 1 + 2) (nI t)) (14 + 5 * rN r 1 + 3) (nI x)) (14 + 5 * rN r 1 + 4) (nI s)) (1) (nI (rN r 1 + 1))) (160 + 900 * l + i)) = fun i => r (160 + 900 * l + i) := by
      funext i
      simp (disch := omega) only [u_n]
    rw [e]
    exact q
theorem rc_wedding {I : Nat → Int32} {A : Nat → Nat → Int32} {L : Nat → Nat} {C : List (Nat × (Nat → Int32))} {r : Nat → Int32} (w : Wf r) (h : RvC I A L C r) {x y : Nat} (hn : rN r 4 < 8) : RvC (k_up I 5 (nI (rN r 4 + 1))) (k_up (k_up A 9 (upd (A 9) (rN r 4) (nI x))) 10 (upd (A 10) (rN r 4) (nI y))) L C (upd (upd (upd r (94 + 2 * rN r 4) (nI x)) (94 + 2 * rN r 4 + 1) (nI y)) (4) (nI (rN r 4 + 1))) := by
  obtain ⟨⟨c0, c1, c2, c3, c4, c5, c6, c7⟩, ct, cd, cw, ce, ca, cl⟩ := h
  obtain ⟨w0, w1, w2, w3, w4, w5, w6, w7, wt, wd, ww, we, wa⟩ := w
  have b0 := w0.2
  have b1 := w1.2
  have b2 := w2.2
  have b4 := w4.2
  have b5 := w5.2
  have b6 := w6.2
  have b7 := w7.2
  refine ⟨⟨?_, ?_, ?_, ?_, ?_, ?_, ?_, ?_⟩, fun i hi => ?_, fun d hd => ?_, fun w hw => ?_, fun e he => ?_, fun a hb => ?_, fun l hl => ?_⟩
  · simp (disch := omega) only [k_us, k_un, u_s, u_n, isN_u, rN_u, isN_s, rN_s, c0]
  · simp (disch := omega) only [k_us, k_un, u_s, u_n, isN_u, rN_u, isN_s, rN_s, c1]
  · simp (disch := omega) only [k_us, k_un, u_s, u_n, isN_u, rN_u, isN_s, rN_s, c2]
  · simp (disch := omega) only [k_us, k_un, u_s, u_n, isN_u, rN_u, isN_s, rN_s, c3]
  · simp (disch := omega) only [k_us, k_un, u_s, u_n, isN_u, rN_u, isN_s, rN_s, c4]
  · simp (disch := omega) only [k_us, k_un, u_s, u_n, isN_u, rN_u, isN_s, rN_s]
  · simp (disch := omega) only [k_us, k_un, u_s, u_n, isN_u, rN_u, isN_s, rN_s, c6]
  · simp (disch := omega) only [k_us, k_un, u_s, u_n, isN_u, rN_u, isN_s, rN_s, c7]
  · simp (disch := omega) only [isN_u, rN_u, isN_s, rN_s] at hi
    have q := ct i hi
    simp (disch := omega) only [k_us, k_un, u_s, u_n, isN_u, rN_u, isN_s, rN_s]
    exact q
  · simp (disch := omega) only [isN_u, rN_u, isN_s, rN_s] at hd
    have q := cd d hd
    simp (disch := omega) only [k_us, k_un, u_s, u_n, isN_u, rN_u, isN_s, rN_s]
    exact q
  · simp (disch := omega) only [isN_u, rN_u, isN_s, rN_s] at hw
    by_cases c : w = rN r 4
    · subst c
      simp (disch := omega) only [k_us, k_un, u_s, u_n, isN_u, rN_u, isN_s, rN_s, and_self]
    · have q := cw w (by omega)
      simp (disch := omega) only [k_us, k_un, u_s, u_n, isN_u, rN_u, isN_s, rN_s]
      exact q
  · simp (disch := omega) only [isN_u, rN_u, isN_s, rN_s] at he
    have q := ce e he
    simp (disch := omega) only [k_us, k_un, u_s, u_n, isN_u, rN_u, isN_s, rN_s]
    exact q
  · simp (disch := omega) only [isN_u, rN_u, isN_s, rN_s] at hb
    have q := ca a hb
    simp (disch := omega) only [k_us, k_un, u_s, u_n, isN_u, rN_u, isN_s, rN_s]
    exact q
  · simp (disch := omega) only [isN_u, rN_u, isN_s, rN_s] at hl
    have q := cl l hl
    have e : (fun i => (upd (upd (upd r (94 + 2 * rN r 4) (nI x)) (94 + 2 * rN r 4 + 1) (nI y)) (4) (nI (rN r 4 + 1))) (160 + 900 * l + i)) = fun i => r (160 + 900 * l + i) := by
      funext i
      simp (disch := omega) only [u_n]
    rw [e]
    exact q
theorem rc_dance {I : Nat → Int32} {A : Nat → Nat → Int32} {L : Nat → Nat} {C : List (Nat × (Nat → Int32))} {r : Nat → Int32} (w : Wf r) (h : RvC I A L C r) {x y : Nat} (hn : rN r 5 < 10) : RvC (k_up I 6 (nI (rN r 5 + 1))) (k_up (k_up A 11 (upd (A 11) (rN r 5) (nI x))) 12 (upd (A 12) (rN r 5) (nI y))) L C (upd (upd (upd r (110 + 2 * rN r 5) (nI x)) (110 + 2 * rN r 5 + 1) (nI y)) (5) (nI (rN r 5 + 1))) := by
  obtain ⟨⟨c0, c1, c2, c3, c4, c5, c6, c7⟩, ct, cd, cw, ce, ca, cl⟩ := h
  obtain ⟨w0, w1, w2, w3, w4, w5, w6, w7, wt, wd, ww, we, wa⟩ := w
  have b0 := w0.2
  have b1 := w1.2
  have b2 := w2.2
  have b4 := w4.2
  have b5 := w5.2
  have b6 := w6.2
  have b7 := w7.2
  refine ⟨⟨?_, ?_, ?_, ?_, ?_, ?_, ?_, ?_⟩, fun i hi => ?_, fun d hd => ?_, fun w hw => ?_, fun e he => ?_, fun a hb => ?_, fun l hl => ?_⟩
  · simp (disch := omega) only [k_us, k_un, u_s, u_n, isN_u, rN_u, isN_s, rN_s, c0]
  · simp (disch := omega) only [k_us, k_un, u_s, u_n, isN_u, rN_u, isN_s, rN_s, c1]
  · simp (disch := omega) only [k_us, k_un, u_s, u_n, isN_u, rN_u, isN_s, rN_s, c2]
  · simp (disch := omega) only [k_us, k_un, u_s, u_n, isN_u, rN_u, isN_s, rN_s, c3]
  · simp (disch := omega) only [k_us, k_un, u_s, u_n, isN_u, rN_u, isN_s, rN_s, c4]
  · simp (disch := omega) only [k_us, k_un, u_s, u_n, isN_u, rN_u, isN_s, rN_s, c5]
  · simp (disch := omega) only [k_us, k_un, u_s, u_n, isN_u, rN_u, isN_s, rN_s]
  · simp (disch := omega) only [k_us, k_un, u_s, u_n, isN_u, rN_u, isN_s, rN_s, c7]
  · simp (disch := omega) only [isN_u, rN_u, isN_s, rN_s] at hi
    have q := ct i hi
    simp (disch := omega) only [k_us, k_un, u_s, u_n, isN_u, rN_u, isN_s, rN_s]
    exact q
  · simp (disch := omega) only [isN_u, rN_u, isN_s, rN_s] at hd
    have q := cd d hd
    simp (disch := omega) only [k_us, k_un, u_s, u_n, isN_u, rN_u, isN_s, rN_s]
    exact q
  · simp (disch := omega) only [isN_u, rN_u, isN_s, rN_s] at hw
    have q := cw w hw
    simp (disch := omega) only [k_us, k_un, u_s, u_n, isN_u, rN_u, isN_s, rN_s]
    exact q
  · simp (disch := omega) only [isN_u, rN_u, isN_s, rN_s] at he
    by_cases c : e = rN r 5
    · subst c
      simp (disch := omega) only [k_us, k_un, u_s, u_n, isN_u, rN_u, isN_s, rN_s, and_self]
    · have q := ce e (by omega)
      simp (disch := omega) only [k_us, k_un, u_s, u_n, isN_u, rN_u, isN_s, rN_s]
      exact q
  · simp (disch := omega) only [isN_u, rN_u, isN_s, rN_s] at hb
    have q := ca a hb
    simp (disch := omega) only [k_us, k_un, u_s, u_n, isN_u, rN_u, isN_s, rN_s]
    exact q
  · simp (disch := omega) only [isN_u, rN_u, isN_s, rN_s] at hl
    have q := cl l hl
    have e : (fun i => (upd (upd (upd r (110 + 2 * rN r 5) (nI x)) (110 + 2 * rN r 5 + 1) (nI y)) (5) (nI (rN r 5 + 1))) (160 + 900 * l + i)) = fun i => r (160 + 900 * l + i) := by
      funext i
      simp (disch := omega) only [u_n]
    rw [e]
    exact q
theorem rc_ahead {I : Nat → Int32} {A : Nat → Nat → Int32} {L : Nat → Nat} {C : List (Nat × (Nat → Int32))} {r : Nat → Int32} (w : Wf r) (h : RvC I A L C r) {x y : Nat} (hn : rN r 6 < 12) : RvC (k_up I 7 (nI (rN r 6 + 1))) (k_up (k_up A 13 (upd (A 13) (rN r 6) (nI x))) 14 (upd (A 14) (rN r 6) (nI y))) L C (upd (upd (upd r (130 + 2 * rN r 6) (nI x)) (130 + 2 * rN r 6 + 1) (nI y)) (6) (nI (rN r 6 + 1))) := by
  obtain ⟨⟨c0, c1, c2, c3, c4, c5, c6, c7⟩, ct, cd, cw, ce, ca, cl⟩ := h
  obtain ⟨w0, w1, w2, w3, w4, w5, w6, w7, wt, wd, ww, we, wa⟩ := w
  have b0 := w0.2
  have b1 := w1.2
  have b2 := w2.2
  have b4 := w4.2
  have b5 := w5.2
  have b6 := w6.2
  have b7 := w7.2
  refine ⟨⟨?_, ?_, ?_, ?_, ?_, ?_, ?_, ?_⟩, fun i hi => ?_, fun d hd => ?_, fun w hw => ?_, fun e he => ?_, fun a hb => ?_, fun l hl => ?_⟩
  · simp (disch := omega) only [k_us, k_un, u_s, u_n, isN_u, rN_u, isN_s, rN_s, c0]
  · simp (disch := omega) only [k_us, k_un, u_s, u_n, isN_u, rN_u, isN_s, rN_s, c1]
  · simp (disch := omega) only [k_us, k_un, u_s, u_n, isN_u, rN_u, isN_s, rN_s, c2]
  · simp (disch := omega) only [k_us, k_un, u_s, u_n, isN_u, rN_u, isN_s, rN_s, c3]
  · simp (disch := omega) only [k_us, k_un, u_s, u_n, isN_u, rN_u, isN_s, rN_s, c4]
  · simp (disch := omega) only [k_us, k_un, u_s, u_n, isN_u, rN_u, isN_s, rN_s, c5]
  · simp (disch := omega) only [k_us, k_un, u_s, u_n, isN_u, rN_u, isN_s, rN_s, c6]
  · simp (disch := omega) only [k_us, k_un, u_s, u_n, isN_u, rN_u, isN_s, rN_s]
  · simp (disch := omega) only [isN_u, rN_u, isN_s, rN_s] at hi
    have q := ct i hi
    simp (disch := omega) only [k_us, k_un, u_s, u_n, isN_u, rN_u, isN_s, rN_s]
    exact q
  · simp (disch := omega) only [isN_u, rN_u, isN_s, rN_s] at hd
    have q := cd d hd
    simp (disch := omega) only [k_us, k_un, u_s, u_n, isN_u, rN_u, isN_s, rN_s]
    exact q
  · simp (disch := omega) only [isN_u, rN_u, isN_s, rN_s] at hw
    have q := cw w hw
    simp (disch := omega) only [k_us, k_un, u_s, u_n, isN_u, rN_u, isN_s, rN_s]
    exact q
  · simp (disch := omega) only [isN_u, rN_u, isN_s, rN_s] at he
    have q := ce e he
    simp (disch := omega) only [k_us, k_un, u_s, u_n, isN_u, rN_u, isN_s, rN_s]
    exact q
  · simp (disch := omega) only [isN_u, rN_u, isN_s, rN_s] at hb
    by_cases c : a = rN r 6
    · subst c
      simp (disch := omega) only [k_us, k_un, u_s, u_n, isN_u, rN_u, isN_s, rN_s, and_self]
    · have q := ca a (by omega)
      simp (disch := omega) only [k_us, k_un, u_s, u_n, isN_u, rN_u, isN_s, rN_s]
      exact q
  · simp (disch := omega) only [isN_u, rN_u, isN_s, rN_s] at hl
    have q := cl l hl
    have e : (fun i => (upd (upd (upd r (130 + 2 * rN r 6) (nI x)) (130 + 2 * rN r 6 + 1) (nI y)) (6) (nI (rN r 6 + 1))) (160 + 900 * l + i)) = fun i => r (160 + 900 * l + i) := by
      funext i
      simp (disch := omega) only [u_n]
    rw [e]
    exact q
theorem rc_terms {I : Nat → Int32} {A : Nat → Nat → Int32} {L : Nat → Nat} {C : List (Nat × (Nat → Int32))} {r : Nat → Int32} (w : Wf r) (h : RvC I A L C r) {x : Nat} : RvC (k_up I 2 (nI x)) A L C (upd r (7) (nI x)) := by
  obtain ⟨⟨c0, c1, c2, c3, c4, c5, c6, c7⟩, ct, cd, cw, ce, ca, cl⟩ := h
  obtain ⟨w0, w1, w2, w3, w4, w5, w6, w7, wt, wd, ww, we, wa⟩ := w
  have b0 := w0.2
  have b1 := w1.2
  have b2 := w2.2
  have b4 := w4.2
  have b5 := w5.2
  have b6 := w6.2
  have b7 := w7.2
  refine ⟨⟨?_, ?_, ?_, ?_, ?_, ?_, ?_, ?_⟩, fun i hi => ?_, fun d hd => ?_, fun w hw => ?_, fun e he => ?_, fun a hb => ?_, fun l hl => ?_⟩
  · simp (disch := omega) only [k_us, k_un, u_s, u_n, isN_u, rN_u, isN_s, rN_s, c0]
  · simp (disch := omega) only [k_us, k_un, u_s, u_n, isN_u, rN_u, isN_s, rN_s, c1]
  · simp (disch := omega) only [k_us, k_un, u_s, u_n, isN_u, rN_u, isN_s, rN_s]
  · simp (disch := omega) only [k_us, k_un, u_s, u_n, isN_u, rN_u, isN_s, rN_s, c3]
  · simp (disch := omega) only [k_us, k_un, u_s, u_n, isN_u, rN_u, isN_s, rN_s, c4]
  · simp (disch := omega) only [k_us, k_un, u_s, u_n, isN_u, rN_u, isN_s, rN_s, c5]
  · simp (disch := omega) only [k_us, k_un, u_s, u_n, isN_u, rN_u, isN_s, rN_s, c6]
  · simp (disch := omega) only [k_us, k_un, u_s, u_n, isN_u, rN_u, isN_s, rN_s, c7]
  · simp (disch := omega) only [isN_u, rN_u, isN_s, rN_s] at hi
    have q := ct i hi
    simp (disch := omega) only [k_us, k_un, u_s, u_n, isN_u, rN_u, isN_s, rN_s]
    exact q
  · simp (disch := omega) only [isN_u, rN_u, isN_s, rN_s] at hd
    have q := cd d hd
    simp (disch := omega) only [k_us, k_un, u_s, u_n, isN_u, rN_u, isN_s, rN_s]
    exact q
  · simp (disch := omega) only [isN_u, rN_u, isN_s, rN_s] at hw
    have q := cw w hw
    simp (disch := omega) only [k_us, k_un, u_s, u_n, isN_u, rN_u, isN_s, rN_s]
    exact q
  · simp (disch := omega) only [isN_u, rN_u, isN_s, rN_s] at he
    have q := ce e he
    simp (disch := omega) only [k_us, k_un, u_s, u_n, isN_u, rN_u, isN_s, rN_s]
    exact q
  · simp (disch := omega) only [isN_u, rN_u, isN_s, rN_s] at hb
    have q := ca a hb
    simp (disch := omega) only [k_us, k_un, u_s, u_n, isN_u, rN_u, isN_s, rN_s]
    exact q
  · simp (disch := omega) only [isN_u, rN_u, isN_s, rN_s] at hl
    have q := cl l hl
    have e : (fun i => (upd r (7) (nI x)) (160 + 900 * l + i)) = fun i => r (160 + 900 * l + i) := by
      funext i
      simp (disch := omega) only [u_n]
    rw [e]
    exact q
theorem rc_force {I : Nat → Int32} {A : Nat → Nat → Int32} {L : Nat → Nat} {C : List (Nat × (Nat → Int32))} {r : Nat → Int32} (w : Wf r) (h : RvC I A L C r) {v : Int32} : RvC (k_up I 4 (v)) A L C (upd r (3) (v)) := by
  obtain ⟨⟨c0, c1, c2, c3, c4, c5, c6, c7⟩, ct, cd, cw, ce, ca, cl⟩ := h
  obtain ⟨w0, w1, w2, w3, w4, w5, w6, w7, wt, wd, ww, we, wa⟩ := w
  have b0 := w0.2
  have b1 := w1.2
  have b2 := w2.2
  have b4 := w4.2
  have b5 := w5.2
  have b6 := w6.2
  have b7 := w7.2
  refine ⟨⟨?_, ?_, ?_, ?_, ?_, ?_, ?_, ?_⟩, fun i hi => ?_, fun d hd => ?_, fun w hw => ?_, fun e he => ?_, fun a hb => ?_, fun l hl => ?_⟩
  · simp (disch := omega) only [k_us, k_un, u_s, u_n, isN_u, rN_u, isN_s, rN_s, c0]
  · simp (disch := omega) only [k_us, k_un, u_s, u_n, isN_u, rN_u, isN_s, rN_s, c1]
  · simp (disch := omega) only [k_us, k_un, u_s, u_n, isN_u, rN_u, isN_s, rN_s, c2]
  · simp (disch := omega) only [k_us, k_un, u_s, u_n, isN_u, rN_u, isN_s, rN_s, c3]
  · simp (disch := omega) only [k_us, k_un, u_s, u_n, isN_u, rN_u, isN_s, rN_s]
  · simp (disch := omega) only [k_us, k_un, u_s, u_n, isN_u, rN_u, isN_s, rN_s, c5]
  · simp (disch := omega) only [k_us, k_un, u_s, u_n, isN_u, rN_u, isN_s, rN_s, c6]
  · simp (disch := omega) only [k_us, k_un, u_s, u_n, isN_u, rN_u, isN_s, rN_s, c7]
  · simp (disch := omega) only [isN_u, rN_u, isN_s, rN_s] at hi
    have q := ct i hi
    simp (disch := omega) only [k_us, k_un, u_s, u_n, isN_u, rN_u, isN_s, rN_s]
    exact q
  · simp (disch := omega) only [isN_u, rN_u, isN_s, rN_s] at hd
    have q := cd d hd
    simp (disch := omega) only [k_us, k_un, u_s, u_n, isN_u, rN_u, isN_s, rN_s]
    exact q
  · simp (disch := omega) only [isN_u, rN_u, isN_s, rN_s] at hw
    have q := cw w hw
    simp (disch := omega) only [k_us, k_un, u_s, u_n, isN_u, rN_u, isN_s, rN_s]
    exact q
  · simp (disch := omega) only [isN_u, rN_u, isN_s, rN_s] at he
    have q := ce e he
    simp (disch := omega) only [k_us, k_un, u_s, u_n, isN_u, rN_u, isN_s, rN_s]
    exact q
  · simp (disch := omega) only [isN_u, rN_u, isN_s, rN_s] at hb
    have q := ca a hb
    simp (disch := omega) only [k_us, k_un, u_s, u_n, isN_u, rN_u, isN_s, rN_s]
    exact q
  · simp (disch := omega) only [isN_u, rN_u, isN_s, rN_s] at hl
    have q := cl l hl
    have e : (fun i => (upd r (3) (v)) (160 + 900 * l + i)) = fun i => r (160 + 900 * l + i) := by
      funext i
      simp (disch := omega) only [u_n]
    rw [e]
    exact q
theorem rc_divorce {I : Nat → Int32} {A : Nat → Nat → Int32} {L : Nat → Nat} {C : List (Nat × (Nat → Int32))} {r : Nat → Int32} (w : Wf r) (h : RvC I A L C r)  : RvC (k_up I 5 (nI 0)) A L C (upd r (4) (nI 0)) := by
  obtain ⟨⟨c0, c1, c2, c3, c4, c5, c6, c7⟩, ct, cd, cw, ce, ca, cl⟩ := h
  obtain ⟨w0, w1, w2, w3, w4, w5, w6, w7, wt, wd, ww, we, wa⟩ := w
  have b0 := w0.2
  have b1 := w1.2
  have b2 := w2.2
  have b4 := w4.2
  have b5 := w5.2
  have b6 := w6.2
  have b7 := w7.2
  refine ⟨⟨?_, ?_, ?_, ?_, ?_, ?_, ?_, ?_⟩, fun i hi => ?_, fun d hd => ?_, fun w hw => ?_, fun e he => ?_, fun a hb => ?_, fun l hl => ?_⟩
  · simp (disch := omega) only [k_us, k_un, u_s, u_n, isN_u, rN_u, isN_s, rN_s, c0]
  · simp (disch := omega) only [k_us, k_un, u_s, u_n, isN_u, rN_u, isN_s, rN_s, c1]
  · simp (disch := omega) only [k_us, k_un, u_s, u_n, isN_u, rN_u, isN_s, rN_s, c2]
  · simp (disch := omega) only [k_us, k_un, u_s, u_n, isN_u, rN_u, isN_s, rN_s, c3]
  · simp (disch := omega) only [k_us, k_un, u_s, u_n, isN_u, rN_u, isN_s, rN_s, c4]
  · simp (disch := omega) only [k_us, k_un, u_s, u_n, isN_u, rN_u, isN_s, rN_s]
  · simp (disch := omega) only [k_us, k_un, u_s, u_n, isN_u, rN_u, isN_s, rN_s, c6]
  · simp (disch := omega) only [k_us, k_un, u_s, u_n, isN_u, rN_u, isN_s, rN_s, c7]
  · simp (disch := omega) only [isN_u, rN_u, isN_s, rN_s] at hi
    have q := ct i hi
    simp (disch := omega) only [k_us, k_un, u_s, u_n, isN_u, rN_u, isN_s, rN_s]
    exact q
  · simp (disch := omega) only [isN_u, rN_u, isN_s, rN_s] at hd
    have q := cd d hd
    simp (disch := omega) only [k_us, k_un, u_s, u_n, isN_u, rN_u, isN_s, rN_s]
    exact q
  · simp (disch := omega) only [isN_u, rN_u, isN_s, rN_s] at hw
    omega
  · simp (disch := omega) only [isN_u, rN_u, isN_s, rN_s] at he
    have q := ce e he
    simp (disch := omega) only [k_us, k_un, u_s, u_n, isN_u, rN_u, isN_s, rN_s]
    exact q
  · simp (disch := omega) only [isN_u, rN_u, isN_s, rN_s] at hb
    have q := ca a hb
    simp (disch := omega) only [k_us, k_un, u_s, u_n, isN_u, rN_u, isN_s, rN_s]
    exact q
  · simp (disch := omega) only [isN_u, rN_u, isN_s, rN_s] at hl
    have q := cl l hl
    have e : (fun i => (upd r (4) (nI 0)) (160 + 900 * l + i)) = fun i => r (160 + 900 * l + i) := by
      funext i
      simp (disch := omega) only [u_n]
    rw [e]
    exact q
theorem rc_forget {I : Nat → Int32} {A : Nat → Nat → Int32} {L : Nat → Nat} {C : List (Nat × (Nat → Int32))} {r : Nat → Int32} (w : Wf r) (h : RvC I A L C r)  : RvC (k_up (k_up I 6 (nI 0)) 7 (nI 0)) A L C (upd (upd r (5) (nI 0)) (6) (nI 0)) := by
  obtain ⟨⟨c0, c1, c2, c3, c4, c5, c6, c7⟩, ct, cd, cw, ce, ca, cl⟩ := h
  obtain ⟨w0, w1, w2, w3, w4, w5, w6, w7, wt, wd, ww, we, wa⟩ := w
  have b0 := w0.2
  have b1 := w1.2
  have b2 := w2.2
  have b4 := w4.2
  have b5 := w5.2
  have b6 := w6.2
  have b7 := w7.2
  refine ⟨⟨?_, ?_, ?_, ?_, ?_, ?_, ?_, ?_⟩, fun i hi => ?_, fun d hd => ?_, fun w hw => ?_, fun e he => ?_, fun a hb => ?_, fun l hl => ?_⟩
  · simp (disch := omega) only [k_us, k_un, u_s, u_n, isN_u, rN_u, isN_s, rN_s, c0]
  · simp (disch := omega) only [k_us, k_un, u_s, u_n, isN_u, rN_u, isN_s, rN_s, c1]
  · simp (disch := omega) only [k_us, k_un, u_s, u_n, isN_u, rN_u, isN_s, rN_s, c2]
  · simp (disch := omega) only [k_us, k_un, u_s, u_n, isN_u, rN_u, isN_s, rN_s, c3]
  · simp (disch := omega) only [k_us, k_un, u_s, u_n, isN_u, rN_u, isN_s, rN_s, c4]
  · simp (disch := omega) only [k_us, k_un, u_s, u_n, isN_u, rN_u, isN_s, rN_s, c5]
  · simp (disch := omega) only [k_us, k_un, u_s, u_n, isN_u, rN_u, isN_s, rN_s]
  · simp (disch := omega) only [k_us, k_un, u_s, u_n, isN_u, rN_u, isN_s, rN_s]
  · simp (disch := omega) only [isN_u, rN_u, isN_s, rN_s] at hi
    have q := ct i hi
    simp (disch := omega) only [k_us, k_un, u_s, u_n, isN_u, rN_u, isN_s, rN_s]
    exact q
  · simp (disch := omega) only [isN_u, rN_u, isN_s, rN_s] at hd
    have q := cd d hd
    simp (disch := omega) only [k_us, k_un, u_s, u_n, isN_u, rN_u, isN_s, rN_s]
    exact q
  · simp (disch := omega) only [isN_u, rN_u, isN_s, rN_s] at hw
    have q := cw w hw
    simp (disch := omega) only [k_us, k_un, u_s, u_n, isN_u, rN_u, isN_s, rN_s]
    exact q
  · simp (disch := omega) only [isN_u, rN_u, isN_s, rN_s] at he
    omega
  · simp (disch := omega) only [isN_u, rN_u, isN_s, rN_s] at hb
    omega
  · simp (disch := omega) only [isN_u, rN_u, isN_s, rN_s] at hl
    have q := cl l hl
    have e : (fun i => (upd (upd r (5) (nI 0)) (6) (nI 0)) (160 + 900 * l + i)) = fun i => r (160 + 900 * l + i) := by
      funext i
      simp (disch := omega) only [u_n]
    rw [e]
    exact q
