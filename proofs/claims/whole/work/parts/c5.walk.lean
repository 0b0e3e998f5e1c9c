/-! part c5: from the entry to the loop, and the end -/
set_option maxRecDepth 100000 in
set_option maxHeartbeats 4000000 in
theorem st_F {G : va_G} {ca : Nat → ClassId} {ad ad0 : Nat → Nat} {dy : Nat → Nat} : k_ov [(80, .inl (ca 0, (16, .inl (fun _ => 0)))), (79, .inl (ca 0, (16, .inl (fun _ => 0)))), (78, .inl (ca 0, (1024, .inl (fun _ => 0)))), (77, .inl (ca 0, (10, .inl (fun _ => 0)))), (76, .inl (ca 0, (16, .inl (fun _ => 0)))), (75, .inl (ca 0, (16, .inl (fun _ => 0)))), (74, .inl (ca 0, (4097, .inl (fun _ => 0)))), (73, .inl (ca 0, (8, .inl (fun _ => 0)))), (72, .inl (ca 0, (9, .inl (fun _ => 0)))), (71, .inl (ca 0, (8, .inl (fun _ => 0)))), (70, .inl (ca 0, (256, .inl (fun _ => 0)))), (69, .inl (ca 0, (256, .inl (fun _ => 0)))), (68, .inl (ca 2, (16, .inl (fun _ => 0)))), (67, .inl (ca 2, (16, .inl (fun _ => 0)))), (66, .inl (ca 0, (16, .inl (fun _ => 0)))), (65, .inl (ca 3, (400, .inr (.inl (fun _ => 0))))), (64, .inl (ca 3, (13, .inr (.inl (fun _ => 0))))), (63, .inl (ca 3, (3, .inr (.inl (k_X12_init_51_9))))), (62, .inl (ca 3, (7, .inr (.inl (k_X12_init_51_6))))), (61, .inl (ca 0, (400, .inl (fun _ => 0)))), (60, .inl (ca 0, (400, .inl (fun _ => 0)))), (59, .inl (ca 0, (400, .inl (fun _ => 0)))), (58, .inl (ca 0, (400, .inl (fun _ => 0)))), (57, .inl (ca 0, (96, .inl (fun _ => 0)))), (56, .inl (ca 0, (400, .inl (fun _ => 0)))), (55, .inl (ca 2, (2, .inl (fun _ => 0)))), (54, .inl (ca 0, (11120, .inl (fun _ => 0)))), (53, .inl (ca 0, (5560, .inl (k_X12_init_51_10)))), (51, .inr (12, .int 0 :: .int 0 :: .ref (ad 52) :: .ref (ad 53) :: .ref (ad 54) :: .ref (ad 55) :: .int 0 :: .ref (ad 56) :: .int 0 :: .int 0 :: .int 0 :: .int 0 :: .long 0 :: .int (-1) :: .int 0 :: .int 0 :: .ref (ad 57) :: .int 0 :: .ref (ad 58) :: .ref (ad 59) :: .int 0 :: .ref (ad 60) :: .ref (ad 61) :: .int 0 :: .int 0 :: .ref (ad 62) :: .ref (ad 63) :: .int 0 :: .ref (ad 64) :: .ref (ad 65) :: .int 0 :: .long 0 :: .long 0 :: .ref (ad 66) :: .ref (ad 67) :: .ref (ad 68) :: .ref (ad 69) :: .ref (ad 70) :: .ref (ad 71) :: .ref (ad 72) :: .ref (ad 73) :: .int 0 :: .int 0 :: .ref (ad 74) :: .ref (ad 75) :: .int 0 :: .int 0 :: .int 0 :: .ref (ad 76) :: .ref (ad 77) :: .ref (ad 78) :: .ref (ad 79) :: .ref (ad 80) :: .int 0 :: .long 0 :: [])), (52, .inl (ca 0, (7, .inl (fun _ => 0))))] (k_up (k_ov [(50, .inl (ca 0, (5, .inl (fun _ => 0)))), (47, .inl (ca 0, (8, .inl (fun _ => 0)))), (46, .inl (ca 0, (8, .inl (fun _ => 0)))), (44, .inr (6, [.ref (ad 0), .ref (ad 2), .ref (ad 45), .ref (ad 46), .ref (ad 47), .int 0, .int 0])), (45, .inl (ca 0, (16, .inl (fun _ => 0)))), (44, .inr (6, [.null, .null, .null, .null, .null, .int 0, .int 0])), (43, .inl (ca 0, (1024, .inl (fun _ => 0)))), (41, .inr (5, [.ref (ad 0), .ref (ad 42), .ref (ad 43), .int 0])), (42, .inl (ca 0, (10, .inl (fun _ => 0)))), (41, .inr (5, [.null, .null, .null, .int 0])), (39, .inr (0, [.ref (ad 0), .ref (ad 2), .ref (ad 17), .ref (ad 40), .int 0, .int 0])), (40, .inl (ca 0, (4321, .inl (fun _ => 0)))), (39, .inr (0, [.null, .null, .null, .null, .int 0, .int 0])), (38, .inl (ca 0, (16, .inl (fun _ => 0)))), (37, .inl (ca 3, (16, .inr (.inl (k_X2_init_32_15))))), (36, .inl (ca 3, (241, .inr (.inl (fun _ => 0))))), (35, .inl (ca 3, (241, .inr (.inl (fun _ => 0))))), (34, .inl (ca 3, (1928, .inr (.inl (fun _ => 0))))), (32, .inr (2, [.ref (ad 0), .ref (ad 2), .ref (ad 17), .ref (ad 33), .ref (ad 34), .ref (ad 35), .ref (ad 36), .ref (ad 37), .ref (ad 38), .int (-1), .int 0, .int 0, .int 0, .int 0])), (33, .inl (ca 3, (1928, .inr (.inl (fun _ => 0))))), (32, .inr (2, [.null, .null, .null, .null, .null, .null, .null, .null, .null, .int 0, .int 0, .int 0, .int 0, .int 0])), (31, .inl (ca 0, (8, .inl (fun _ => 0)))), (29, .inr (8, [.ref (ad 2), .ref (ad 17), .ref (ad 30), .ref (ad 31), .int 0, .int (-1)])), (30, .inl (ca 0, (8, .inl (fun _ => 0)))), (29, .inr (8, [.null, .null, .null, .null, .int 0, .int 0])), (28, .inl (ca 0, (256, .inl (fun _ => 0)))), (27, .inl (ca 0, (256, .inl (fun _ => 0)))), (25, .inr (4, [.ref (ad 2), .ref (ad 17), .ref (ad 26), .ref (ad 27), .ref (ad 28), .int 0])), (26, .inl (ca 0, (8, .inl (fun _ => 0)))), (25, .inr (4, [.null, .null, .null, .null, .null, .int 0])), (22, .inl (ca 0, (64, .inl (fun _ => 0)))), (21, .inl (ca 0, (8, .inl (fun _ => 0)))), (20, .inl (ca 2, (16, .inl (fun _ => 0)))), (19, .inl (ca 2, (16, .inl (fun _ => 0)))), (17, .inr (3, [.ref (ad 0), .ref (ad 2), .ref (ad 18), .ref (ad 19), .ref (ad 20), .ref (ad 21), .ref (ad 22), .int 0])), (18, .inl (ca 0, (16, .inl (fun _ => 0)))), (17, .inr (3, [.null, .null, .null, .null, .null, .null, .null, .int 0])), (23, .inr (7, [.ref (ad 15), .ref (ad 24), .int 0, .int 0, .int 0, .int 0, .int 0, .int 0, .int 0])), (24, .inl (ca 0, (800, .inl (fun _ => 0)))), (23, .inr (7, [.null, .null, .int 0, .int 0, .int 0, .int 0, .int 0, .int 0, .int 0])), (15, .inr (9, [.ref (ad 16), .int 0])), (16, .inl (ca 1, (400, .inl (fun _ => 0)))), (15, .inr (9, [.null, .int 0])), (49, .inl (ca 5, 2, .inr (.inr (.inr (.inr (fun _ => none)))))), (48, .inr (11, [.ref (ad 0), .ref (ad 49), .ref (ad 15), .ref (ad 23), .ref (ad 17), .ref (ad 25), .ref (ad 29), .ref (ad 32), .ref (ad 39), .ref (ad 41), .ref (ad 44), .ref (ad 50), .int 0, .int (-1), .int 0])), (14, .inl (ca 0, (12, .inl (fun _ => 0)))), (13, .inl (ca 0, (12, .inl (fun _ => 0)))), (12, .inl (ca 0, (10, .inl (fun _ => 0)))), (11, .inl (ca 0, (10, .inl (fun _ => 0)))), (10, .inl (ca 0, (8, .inl (fun _ => 0)))), (9, .inl (ca 0, (8, .inl (fun _ => 0)))), (8, .inl (ca 4, 6, .inr (.inr (.inr (.inr (fun _ => none)))))), (7, .inl (ca 0, (16, .inl (fun _ => 0)))), (6, .inl (ca 0, (16, .inl (fun _ => 0)))), (5, .inl (ca 0, (16, .inl (fun _ => 0)))), (4, .inl (ca 0, (16, .inl (fun _ => 0)))), (2, .inr (1, [.ref (ad 3), .ref (ad 4), .ref (ad 5), .ref (ad 6), .ref (ad 7), .int 0])), (3, .inl (ca 0, (16, .inl (fun _ => 0)))), (2, .inr (1, [.null, .null, .null, .null, .null, .int 0])), (0, .inr (10, [.ref (ad 1), .int 0, .ref (ad 2), .int 0, .ref (ad 8), .int 0, .int (-1), .ref (ad 9), .ref (ad 10), .int 0, .ref (ad 11), .ref (ad 12), .int 0, .ref (ad 13), .ref (ad 14), .int 0])), (1, .inl (ca 0, (6, .inl (fun _ => 0)))), (0, .inr (10, [.null, .int 0, .null, .int 0, .null, .int 0, .int 0, .null, .null, .int 0, .null, .null, .int 0, .null, .null, .int 0]))] (k_up (fun _ => none) 48 (some (.inr (11, [.null, .null, .null, .null, .null, .null, .null, .null, .null, .null, .null, .null, .int 0, .int 0, .int 0]))))) 51 (some (.inr (12, .int 0 :: .int 0 :: .null :: .null :: .null :: .null :: .int 0 :: .null :: .int 0 :: .int 0 :: .int 0 :: .int 0 :: .long 0 :: .int 0 :: .int 0 :: .int 0 :: .null :: .int 0 :: .null :: .null :: .int 0 :: .null :: .null :: .int 0 :: .int 0 :: .null :: .null :: .int 0 :: .null :: .null :: .int 0 :: .long 0 :: .long 0 :: .null :: .null :: .null :: .null :: .null :: .null :: .null :: .null :: .int 0 :: .int 0 :: .null :: .null :: .int 0 :: .int 0 :: .int 0 :: .null :: .null :: .null :: .null :: .null :: .int 0 :: .long 0 :: [])))) = k_cell (G, ca, fun k => if k < 81 then ad k else ad0 k) dy S0 := by
  refine st_eq (fun k hk => ?_) (fun k hk => ?_)
  · have h : ∀ (L : List (Nat × va_E)) (F : Nat → Option va_E), L.all (fun q => decide (q.1 < 81)) = true → k_ov L F k = F k := by
      intro L F
      induction L with
      | nil => intro _; rfl
      | cons x L ih =>
        intro h
        rw [List.all_cons, Bool.and_eq_true, decide_eq_true_eq] at h
        show (if k = x.1 then some x.2 else k_ov L F k) = F k
        rw [if_neg (by omega), ih h.2]
    rw [h _ _ rfl]
    show (if k = 51 then _ else _) = _
    rw [if_neg (by omega), h _ _ rfl]
    exact if_neg (by omega)
  · match k, hk with
    | 0, _ => rfl
    | 1, _ => rfl
    | 2, _ => rfl
    | 3, _ => rfl
    | 4, _ => rfl
    | 5, _ => rfl
    | 6, _ => rfl
    | 7, _ => rfl
    | 8, _ => rfl
    | 9, _ => rfl
    | 10, _ => rfl
    | 11, _ => rfl
    | 12, _ => rfl
    | 13, _ => rfl
    | 14, _ => rfl
    | 15, _ => rfl
    | 16, _ => rfl
    | 17, _ => rfl
    | 18, _ => rfl
    | 19, _ => rfl
    | 20, _ => rfl
    | 21, _ => rfl
    | 22, _ => rfl
    | 23, _ => rfl
    | 24, _ => rfl
    | 25, _ => rfl
    | 26, _ => rfl
    | 27, _ => rfl
    | 28, _ => rfl
    | 29, _ => rfl
    | 30, _ => rfl
    | 31, _ => rfl
    | 32, _ => rfl
    | 33, _ => rfl
    | 34, _ => rfl
    | 35, _ => rfl
    | 36, _ => rfl
    | 37, _ => rfl
    | 38, _ => rfl
    | 39, _ => rfl
    | 40, _ => rfl
    | 41, _ => rfl
    | 42, _ => rfl
    | 43, _ => rfl
    | 44, _ => rfl
    | 45, _ => rfl
    | 46, _ => rfl
    | 47, _ => rfl
    | 48, _ => rfl
    | 49, _ => rfl
    | 50, _ => rfl
    | 51, _ => rfl
    | 52, _ => rfl
    | 53, _ => rfl
    | 54, _ => rfl
    | 55, _ => rfl
    | 56, _ => rfl
    | 57, _ => rfl
    | 58, _ => rfl
    | 59, _ => rfl
    | 60, _ => rfl
    | 61, _ => rfl
    | 62, _ => rfl
    | 63, _ => rfl
    | 64, _ => rfl
    | 65, _ => rfl
    | 66, _ => rfl
    | 67, _ => rfl
    | 68, _ => rfl
    | 69, _ => rfl
    | 70, _ => rfl
    | 71, _ => rfl
    | 72, _ => rfl
    | 73, _ => rfl
    | 74, _ => rfl
    | 75, _ => rfl
    | 76, _ => rfl
    | 77, _ => rfl
    | 78, _ => rfl
    | 79, _ => rfl
    | 80, _ => rfl
    | n + 81, h => exact absurd h (by omega)
def R_law : String := "FiddlerDebtsLaw"
def lw_P (b : Addr) (xs : List Int32) (args : Array Value) (s : State) : Prop := args = #[.ref b] ∧ s.IntsAt b xs ∧ xs.length ≤ 3072 ∧ (Jvm.Cond.and given_1 narrow_1).before args s = true
def lw_Q (_ : Array Value) (s : State) (o : Outcome) (t : State) : Prop := o = .returned (some (.int 1)) ∧ Framed s o t [] 600000 7302250
def lw_Z (below : List Frame) (a : Array Value) (s : State) : State → Prop := fun t => ∃ o, t.status = .running ∧ Ended t below o ∧ lw_Q a s o t
/-- the law's own end, with 1 on the stack, nothing written that was there before, its room as the claim has it -/
theorem lw_ret {p : Program} {l : Launch} {e : Env} {s : State} {m : MethodId} {below : List Frame} {meth : Method} {c : Code} {b : Nat} (hx : p.tables.exec = Jvm.exec) (hb : c.code = code) (hr : meth.sig.returnType = ret) (hlocks : meth.locks = false) {pc : Nat} {H : Heap} {ls : Array Slot} (hdg : decode code pc = .ok (.ireturn, 1)) : W p l e room_1 s m #[Value.ref b] below meth c H [] 600000 7302250 (lw_Z below #[Value.ref b] s) (F0 m pc ls [.int 1]) := by
  intro T hT X
  obtain ⟨fs, hret, hrun, hended, hW, hframe⟩ := X.leave (v := some (.int 1)) (hlocks := hlocks) (fun h => by rw [hr] at h; cases h)
  have hmeth' : T.vm.method? m = some meth := X.method'
  refine ⟨T.setFrames fs, ?_, .returned (some (.int 1)), hrun, hended, rfl, ⟨_, rfl⟩, hW, hframe⟩
  jvm_step X.here [X.here.top, hx, hb, hdg, hmeth', hr, ret, narrow_b1]
  (try refine ⟨rfl, ?_⟩); (try refine ⟨rfl, ?_⟩)
  first | (intro acts; rw [hret _ acts rfl rfl rfl]) | rw [hret _ _ rfl rfl rfl]
  exact Steps.refl _
/-- what holds at the law's entry: the machine, the code, the tables' words (any of lw_tbl by 'hts w (by decide +kernel)'), the script of L ints xs at the cell b, what the Statement gives of the start (any of its parts by flat_of_before) -/
def lw_At (p : Program) (s : State) (m : MethodId) (meth : Method) (c : Code) (b L : Nat) (xs : Nat → Int32) : Prop :=
  p.tables.exec = Jvm.exec ∧ c.code = code ∧ meth.sig.returnType = ret ∧ c.maxLocals = 4 ∧ s.vm.findClass R_law = some m.cls ∧ (∀ w ∈ lw_tbl, w.before #[Value.ref b] s = true) ∧ va_X b L xs s s.heap ∧ b < s.heap.size ∧ meth.locks = false ∧ (Jvm.Cond.and given_1 narrow_1).before #[Value.ref b] s = true
theorem st_ad {G : va_G} {ca : Nat → ClassId} {ad ad0 dy : Nat → Nat} {k : Nat} (h : k < 81) : k_ad (G, ca, fun k => if k < 81 then ad k else ad0 k) dy k = ad k := (if_pos (show k < k_N from h)).trans (if_pos h)
theorem k_ov_lt {N k : Nat} {F : Nat → Option va_E} {f : va_E} (hF : F k = some f → k < N) : ∀ {L : List (Nat × va_E)}, L.all (fun q => decide (q.1 < N)) = true → k_ov L F k = some f → k < N := by
  intro L
  induction L with
  | nil => intro _ h; exact hF h
  | cons x L ih =>
    intro h hk
    rw [List.all_cons, Bool.and_eq_true, decide_eq_true_eq] at h
    by_cases q : k = x.1
    · omega
    · exact ih h.2 ((if_neg q : k_ov (x :: L) F k = _).symm.trans hk)
theorem st_lt {ca : Nat → ClassId} {ad : Nat → Nat} {k : Nat} {f : va_E} (h : (k_ov [(80, .inl (ca 0, (16, .inl (fun _ => 0)))), (79, .inl (ca 0, (16, .inl (fun _ => 0)))), (78, .inl (ca 0, (1024, .inl (fun _ => 0)))), (77, .inl (ca 0, (10, .inl (fun _ => 0)))), (76, .inl (ca 0, (16, .inl (fun _ => 0)))), (75, .inl (ca 0, (16, .inl (fun _ => 0)))), (74, .inl (ca 0, (4097, .inl (fun _ => 0)))), (73, .inl (ca 0, (8, .inl (fun _ => 0)))), (72, .inl (ca 0, (9, .inl (fun _ => 0)))), (71, .inl (ca 0, (8, .inl (fun _ => 0)))), (70, .inl (ca 0, (256, .inl (fun _ => 0)))), (69, .inl (ca 0, (256, .inl (fun _ => 0)))), (68, .inl (ca 2, (16, .inl (fun _ => 0)))), (67, .inl (ca 2, (16, .inl (fun _ => 0)))), (66, .inl (ca 0, (16, .inl (fun _ => 0)))), (65, .inl (ca 3, (400, .inr (.inl (fun _ => 0))))), (64, .inl (ca 3, (13, .inr (.inl (fun _ => 0))))), (63, .inl (ca 3, (3, .inr (.inl (k_X12_init_51_9))))), (62, .inl (ca 3, (7, .inr (.inl (k_X12_init_51_6))))), (61, .inl (ca 0, (400, .inl (fun _ => 0)))), (60, .inl (ca 0, (400, .inl (fun _ => 0)))), (59, .inl (ca 0, (400, .inl (fun _ => 0)))), (58, .inl (ca 0, (400, .inl (fun _ => 0)))), (57, .inl (ca 0, (96, .inl (fun _ => 0)))), (56, .inl (ca 0, (400, .inl (fun _ => 0)))), (55, .inl (ca 2, (2, .inl (fun _ => 0)))), (54, .inl (ca 0, (11120, .inl (fun _ => 0)))), (53, .inl (ca 0, (5560, .inl (k_X12_init_51_10)))), (51, .inr (12, .int 0 :: .int 0 :: .ref (ad 52) :: .ref (ad 53) :: .ref (ad 54) :: .ref (ad 55) :: .int 0 :: .ref (ad 56) :: .int 0 :: .int 0 :: .int 0 :: .int 0 :: .long 0 :: .int (-1) :: .int 0 :: .int 0 :: .ref (ad 57) :: .int 0 :: .ref (ad 58) :: .ref (ad 59) :: .int 0 :: .ref (ad 60) :: .ref (ad 61) :: .int 0 :: .int 0 :: .ref (ad 62) :: .ref (ad 63) :: .int 0 :: .ref (ad 64) :: .ref (ad 65) :: .int 0 :: .long 0 :: .long 0 :: .ref (ad 66) :: .ref (ad 67) :: .ref (ad 68) :: .ref (ad 69) :: .ref (ad 70) :: .ref (ad 71) :: .ref (ad 72) :: .ref (ad 73) :: .int 0 :: .int 0 :: .ref (ad 74) :: .ref (ad 75) :: .int 0 :: .int 0 :: .int 0 :: .ref (ad 76) :: .ref (ad 77) :: .ref (ad 78) :: .ref (ad 79) :: .ref (ad 80) :: .int 0 :: .long 0 :: [])), (52, .inl (ca 0, (7, .inl (fun _ => 0))))] (k_up (k_ov [(50, .inl (ca 0, (5, .inl (fun _ => 0)))), (47, .inl (ca 0, (8, .inl (fun _ => 0)))), (46, .inl (ca 0, (8, .inl (fun _ => 0)))), (44, .inr (6, [.ref (ad 0), .ref (ad 2), .ref (ad 45), .ref (ad 46), .ref (ad 47), .int 0, .int 0])), (45, .inl (ca 0, (16, .inl (fun _ => 0)))), (44, .inr (6, [.null, .null, .null, .null, .null, .int 0, .int 0])), (43, .inl (ca 0, (1024, .inl (fun _ => 0)))), (41, .inr (5, [.ref (ad 0), .ref (ad 42), .ref (ad 43), .int 0])), (42, .inl (ca 0, (10, .inl (fun _ => 0)))), (41, .inr (5, [.null, .null, .null, .int 0])), (39, .inr (0, [.ref (ad 0), .ref (ad 2), .ref (ad 17), .ref (ad 40), .int 0, .int 0])), (40, .inl (ca 0, (4321, .inl (fun _ => 0)))), (39, .inr (0, [.null, .null, .null, .null, .int 0, .int 0])), (38, .inl (ca 0, (16, .inl (fun _ => 0)))), (37, .inl (ca 3, (16, .inr (.inl (k_X2_init_32_15))))), (36, .inl (ca 3, (241, .inr (.inl (fun _ => 0))))), (35, .inl (ca 3, (241, .inr (.inl (fun _ => 0))))), (34, .inl (ca 3, (1928, .inr (.inl (fun _ => 0))))), (32, .inr (2, [.ref (ad 0), .ref (ad 2), .ref (ad 17), .ref (ad 33), .ref (ad 34), .ref (ad 35), .ref (ad 36), .ref (ad 37), .ref (ad 38), .int (-1), .int 0, .int 0, .int 0, .int 0])), (33, .inl (ca 3, (1928, .inr (.inl (fun _ => 0))))), (32, .inr (2, [.null, .null, .null, .null, .null, .null, .null, .null, .null, .int 0, .int 0, .int 0, .int 0, .int 0])), (31, .inl (ca 0, (8, .inl (fun _ => 0)))), (29, .inr (8, [.ref (ad 2), .ref (ad 17), .ref (ad 30), .ref (ad 31), .int 0, .int (-1)])), (30, .inl (ca 0, (8, .inl (fun _ => 0)))), (29, .inr (8, [.null, .null, .null, .null, .int 0, .int 0])), (28, .inl (ca 0, (256, .inl (fun _ => 0)))), (27, .inl (ca 0, (256, .inl (fun _ => 0)))), (25, .inr (4, [.ref (ad 2), .ref (ad 17), .ref (ad 26), .ref (ad 27), .ref (ad 28), .int 0])), (26, .inl (ca 0, (8, .inl (fun _ => 0)))), (25, .inr (4, [.null, .null, .null, .null, .null, .int 0])), (22, .inl (ca 0, (64, .inl (fun _ => 0)))), (21, .inl (ca 0, (8, .inl (fun _ => 0)))), (20, .inl (ca 2, (16, .inl (fun _ => 0)))), (19, .inl (ca 2, (16, .inl (fun _ => 0)))), (17, .inr (3, [.ref (ad 0), .ref (ad 2), .ref (ad 18), .ref (ad 19), .ref (ad 20), .ref (ad 21), .ref (ad 22), .int 0])), (18, .inl (ca 0, (16, .inl (fun _ => 0)))), (17, .inr (3, [.null, .null, .null, .null, .null, .null, .null, .int 0])), (23, .inr (7, [.ref (ad 15), .ref (ad 24), .int 0, .int 0, .int 0, .int 0, .int 0, .int 0, .int 0])), (24, .inl (ca 0, (800, .inl (fun _ => 0)))), (23, .inr (7, [.null, .null, .int 0, .int 0, .int 0, .int 0, .int 0, .int 0, .int 0])), (15, .inr (9, [.ref (ad 16), .int 0])), (16, .inl (ca 1, (400, .inl (fun _ => 0)))), (15, .inr (9, [.null, .int 0])), (49, .inl (ca 5, 2, .inr (.inr (.inr (.inr (fun _ => none)))))), (48, .inr (11, [.ref (ad 0), .ref (ad 49), .ref (ad 15), .ref (ad 23), .ref (ad 17), .ref (ad 25), .ref (ad 29), .ref (ad 32), .ref (ad 39), .ref (ad 41), .ref (ad 44), .ref (ad 50), .int 0, .int (-1), .int 0])), (14, .inl (ca 0, (12, .inl (fun _ => 0)))), (13, .inl (ca 0, (12, .inl (fun _ => 0)))), (12, .inl (ca 0, (10, .inl (fun _ => 0)))), (11, .inl (ca 0, (10, .inl (fun _ => 0)))), (10, .inl (ca 0, (8, .inl (fun _ => 0)))), (9, .inl (ca 0, (8, .inl (fun _ => 0)))), (8, .inl (ca 4, 6, .inr (.inr (.inr (.inr (fun _ => none)))))), (7, .inl (ca 0, (16, .inl (fun _ => 0)))), (6, .inl (ca 0, (16, .inl (fun _ => 0)))), (5, .inl (ca 0, (16, .inl (fun _ => 0)))), (4, .inl (ca 0, (16, .inl (fun _ => 0)))), (2, .inr (1, [.ref (ad 3), .ref (ad 4), .ref (ad 5), .ref (ad 6), .ref (ad 7), .int 0])), (3, .inl (ca 0, (16, .inl (fun _ => 0)))), (2, .inr (1, [.null, .null, .null, .null, .null, .int 0])), (0, .inr (10, [.ref (ad 1), .int 0, .ref (ad 2), .int 0, .ref (ad 8), .int 0, .int (-1), .ref (ad 9), .ref (ad 10), .int 0, .ref (ad 11), .ref (ad 12), .int 0, .ref (ad 13), .ref (ad 14), .int 0])), (1, .inl (ca 0, (6, .inl (fun _ => 0)))), (0, .inr (10, [.null, .int 0, .null, .int 0, .null, .int 0, .int 0, .null, .null, .int 0, .null, .null, .int 0, .null, .null, .int 0]))] (k_up (fun _ => none) 48 (some (.inr (11, [.null, .null, .null, .null, .null, .null, .null, .null, .null, .null, .null, .null, .int 0, .int 0, .int 0]))))) 51 (some (.inr (12, .int 0 :: .int 0 :: .null :: .null :: .null :: .null :: .int 0 :: .null :: .int 0 :: .int 0 :: .int 0 :: .int 0 :: .long 0 :: .int 0 :: .int 0 :: .int 0 :: .null :: .int 0 :: .null :: .null :: .int 0 :: .null :: .null :: .int 0 :: .int 0 :: .null :: .null :: .int 0 :: .null :: .null :: .int 0 :: .long 0 :: .long 0 :: .null :: .null :: .null :: .null :: .null :: .null :: .null :: .null :: .int 0 :: .int 0 :: .null :: .null :: .int 0 :: .int 0 :: .int 0 :: .null :: .null :: .null :: .null :: .null :: .int 0 :: .long 0 :: []))))) k = some f) : k < 81 := by
  refine k_ov_lt (fun h => ?_) rfl h
  by_cases q : k = 51
  · omega
  · refine k_ov_lt (fun h => ?_) rfl ((if_neg q).symm.trans h)
    by_cases q : k = 48
    · omega
    · exact absurd ((if_neg q).symm.trans h) (by simp)
theorem st_free {ca : Nat → ClassId} {q0 q1 q2 q3 q4 q5 q6 q7 q8 q9 q10 q11 q12 q13 q14 q49 q15 q16 q23 q24 q17 q18 q19 q20 q21 q22 q25 q26 q27 q28 q29 q30 q31 q32 q33 q34 q35 q36 q37 q38 q39 q40 q41 q42 q43 q44 q45 q46 q47 q50 : Nat} {v : Option va_E} (j : Nat) (h1 : 52 ≤ j) (h2 : j ≤ 80) : (k_up (k_ov [(50, .inl (ca 0, (5, .inl (fun _ => 0)))), (47, .inl (ca 0, (8, .inl (fun _ => 0)))), (46, .inl (ca 0, (8, .inl (fun _ => 0)))), (44, .inr (6, [.ref q0, .ref q2, .ref q45, .ref q46, .ref q47, .int 0, .int 0])), (45, .inl (ca 0, (16, .inl (fun _ => 0)))), (44, .inr (6, [.null, .null, .null, .null, .null, .int 0, .int 0])), (43, .inl (ca 0, (1024, .inl (fun _ => 0)))), (41, .inr (5, [.ref q0, .ref q42, .ref q43, .int 0])), (42, .inl (ca 0, (10, .inl (fun _ => 0)))), (41, .inr (5, [.null, .null, .null, .int 0])), (39, .inr (0, [.ref q0, .ref q2, .ref q17, .ref q40, .int 0, .int 0])), (40, .inl (ca 0, (4321, .inl (fun _ => 0)))), (39, .inr (0, [.null, .null, .null, .null, .int 0, .int 0])), (38, .inl (ca 0, (16, .inl (fun _ => 0)))), (37, .inl (ca 3, (16, .inr (.inl (k_X2_init_32_15))))), (36, .inl (ca 3, (241, .inr (.inl (fun _ => 0))))), (35, .inl (ca 3, (241, .inr (.inl (fun _ => 0))))), (34, .inl (ca 3, (1928, .inr (.inl (fun _ => 0))))), (32, .inr (2, [.ref q0, .ref q2, .ref q17, .ref q33, .ref q34, .ref q35, .ref q36, .ref q37, .ref q38, .int (-1), .int 0, .int 0, .int 0, .int 0])), (33, .inl (ca 3, (1928, .inr (.inl (fun _ => 0))))), (32, .inr (2, [.null, .null, .null, .null, .null, .null, .null, .null, .null, .int 0, .int 0, .int 0, .int 0, .int 0])), (31, .inl (ca 0, (8, .inl (fun _ => 0)))), (29, .inr (8, [.ref q2, .ref q17, .ref q30, .ref q31, .int 0, .int (-1)])), (30, .inl (ca 0, (8, .inl (fun _ => 0)))), (29, .inr (8, [.null, .null, .null, .null, .int 0, .int 0])), (28, .inl (ca 0, (256, .inl (fun _ => 0)))), (27, .inl (ca 0, (256, .inl (fun _ => 0)))), (25, .inr (4, [.ref q2, .ref q17, .ref q26, .ref q27, .ref q28, .int 0])), (26, .inl (ca 0, (8, .inl (fun _ => 0)))), (25, .inr (4, [.null, .null, .null, .null, .null, .int 0])), (22, .inl (ca 0, (64, .inl (fun _ => 0)))), (21, .inl (ca 0, (8, .inl (fun _ => 0)))), (20, .inl (ca 2, (16, .inl (fun _ => 0)))), (19, .inl (ca 2, (16, .inl (fun _ => 0)))), (17, .inr (3, [.ref q0, .ref q2, .ref q18, .ref q19, .ref q20, .ref q21, .ref q22, .int 0])), (18, .inl (ca 0, (16, .inl (fun _ => 0)))), (17, .inr (3, [.null, .null, .null, .null, .null, .null, .null, .int 0])), (23, .inr (7, [.ref q15, .ref q24, .int 0, .int 0, .int 0, .int 0, .int 0, .int 0, .int 0])), (24, .inl (ca 0, (800, .inl (fun _ => 0)))), (23, .inr (7, [.null, .null, .int 0, .int 0, .int 0, .int 0, .int 0, .int 0, .int 0])), (15, .inr (9, [.ref q16, .int 0])), (16, .inl (ca 1, (400, .inl (fun _ => 0)))), (15, .inr (9, [.null, .int 0])), (49, .inl (ca 5, 2, .inr (.inr (.inr (.inr (fun _ => none)))))), (48, .inr (11, [.ref q0, .ref q49, .ref q15, .ref q23, .ref q17, .ref q25, .ref q29, .ref q32, .ref q39, .ref q41, .ref q44, .ref q50, .int 0, .int (-1), .int 0])), (14, .inl (ca 0, (12, .inl (fun _ => 0)))), (13, .inl (ca 0, (12, .inl (fun _ => 0)))), (12, .inl (ca 0, (10, .inl (fun _ => 0)))), (11, .inl (ca 0, (10, .inl (fun _ => 0)))), (10, .inl (ca 0, (8, .inl (fun _ => 0)))), (9, .inl (ca 0, (8, .inl (fun _ => 0)))), (8, .inl (ca 4, 6, .inr (.inr (.inr (.inr (fun _ => none)))))), (7, .inl (ca 0, (16, .inl (fun _ => 0)))), (6, .inl (ca 0, (16, .inl (fun _ => 0)))), (5, .inl (ca 0, (16, .inl (fun _ => 0)))), (4, .inl (ca 0, (16, .inl (fun _ => 0)))), (2, .inr (1, [.ref q3, .ref q4, .ref q5, .ref q6, .ref q7, .int 0])), (3, .inl (ca 0, (16, .inl (fun _ => 0)))), (2, .inr (1, [.null, .null, .null, .null, .null, .int 0])), (0, .inr (10, [.ref q1, .int 0, .ref q2, .int 0, .ref q8, .int 0, .int (-1), .ref q9, .ref q10, .int 0, .ref q11, .ref q12, .int 0, .ref q13, .ref q14, .int 0])), (1, .inl (ca 0, (6, .inl (fun _ => 0)))), (0, .inr (10, [.null, .int 0, .null, .int 0, .null, .int 0, .int 0, .null, .null, .int 0, .null, .null, .int 0, .null, .null, .int 0]))] (k_up (fun _ => none) 48 (some (.inr (11, [.null, .null, .null, .null, .null, .null, .null, .null, .null, .null, .null, .null, .int 0, .int 0, .int 0]))))) 51 v) j = none := by
  have h : ∀ (L : List (Nat × va_E)) (F : Nat → Option va_E), L.all (fun q => decide (q.1 < 52)) = true → k_ov L F j = F j := by
    intro L F
    induction L with
    | nil => intro _; rfl
    | cons x L ih =>
      intro h
      rw [List.all_cons, Bool.and_eq_true, decide_eq_true_eq] at h
      show (if j = x.1 then some x.2 else k_ov L F j) = F j
      rw [if_neg (by omega), ih h.2]
  show (if j = 51 then _ else _) = _
  rw [if_neg (by omega), h _ _ rfl]
  exact if_neg (by omega)
set_option maxRecDepth 100000 in
set_option maxHeartbeats 4000000 in
theorem whole_startH (hlaw : Pr f_X11_law f_X12_law) {p : Program} {e : Env} {s : State} {m : MethodId} {below : List Frame} {meth : Method} {c : Code} (l : Launch) {b L : Nat} {xs : Nat → Int32} (hL : L ≤ 3072) (C0 : lw_At p s m meth c b L xs) : W p l e room_1 s m #[Value.ref b] below meth c s.heap [] 0 0 (lw_Z below #[Value.ref b] s) (entryFrame m ([Value.ref b] : List Value).toArray 4) := by
  obtain ⟨hx, hb, hr, hml, hown, hts, hX, hbl, hlocks, hgv⟩ := id C0
  obtain ⟨G, ca, hKn⟩ := st_Kn hts
  obtain ⟨ad0, hOt⟩ := st_Ot hts hgv
  have hX0 : k_X yL_law cL_law 4 (some .boolean) (G, ca, ad0) p s m meth c (fun q => s.heap.size ≤ q) := ⟨hx, hb, hml, hr, hlocks, hown, st_Tb hts, hKn ad0, fun q h => h, hOt G ca⟩
  have hend : ∀ (D : k_D) (X : k_X yL_law cL_law 4 (some .boolean) D p s m meth c (fun q => s.heap.size ≤ q)) (i : Int32) (mc1 ms1 : Nat) (dy1 : Nat → Nat) (S1 : St), In yL_law cL_law 4 (some .boolean) room_1 D p l e s m #[Value.ref b] below meth c (fun q => s.heap.size ≤ q) (lw_Z below #[Value.ref b] s) mc1 ms1 (k_cell D dy1 S1) (k_ad D dy1) 1223 (lwLs b D i) [] := by
    intro D X i mc1 ms1 dy1 S1
    refine i_iconst X (v := 1) dL_law_1223 rfl ?_
    intro H lo cl sl Y la hl
    have y3 : cl + mc1 ≤ 600000 := Y.2.2.1
    have y4 : sl + ms1 ≤ 7302250 := Y.2.2.2
    refine W.widen (k := 600000) (n := 7302250) (by omega) (by omega) ?_
    refine va_forget (fun q hq => Y.2.1.2.2 q hq) ?_
    exact lw_ret hx hb hr hlocks dL_law_1224
  have key : In yL_law cL_law 4 (some .boolean) room_1 (G, ca, ad0) p l e s m #[Value.ref b] below meth c (fun q => s.heap.size ≤ q) (lw_Z below #[Value.ref b] s) 600000 7302250 (fun _ => none) (fun _ => 0) 0 [(0, .ref b)] [] := by
    refine i_new hX0 kc11 (fs := [.null, .null, .null, .null, .null, .null, .null, .null, .null, .null, .null, .null, .int 0, .int 0, .int 0]) 48 rfl (fun j hj => by revert j hj; decide) q_162 q_163 q_141 (Nat.le_of_ble_eq_true rfl) (Nat.le_of_ble_eq_true rfl) dL_law_0 (fun a1 => ?_)
    refine i_dup hX0 dL_law_3 rfl ?_
    refine i_callI hX0 [] [.ref a1] (c_X11_init_48 (a0 := a1) (if_pos rfl) (if_pos rfl) (fun j g1 g2 g3 => if_neg g3)) q_164 q_165 q_166 q_141 rfl hd_X11_init ⟨by decide, by decide⟩ (Nat.le_of_ble_eq_true rfl) (Nat.le_of_ble_eq_true rfl) rfl rfl (Nat.le_of_ble_eq_true rfl) dL_law_4 ?_
    rintro v F1 ad1 ⟨rfl, ho1, q0, q1, q2, q3, q4, q5, q6, q7, q8, q9, q10, q11, q12, q13, q14, q49, q15, q16, q23, q24, q17, q18, q19, q20, q21, q22, q25, q26, q27, q28, q29, q30, q31, q32, q33, q34, q35, q36, q37, q38, q39, q40, q41, q42, q43, q44, q45, q46, q47, q50, hE1, rfl⟩
    refine i_astore_n hX0 (x := a1) dL_law_7 rfl (by decide) rfl ?_
    refine i_new hX0 kc12 (fs := .int 0 :: .int 0 :: .null :: .null :: .null :: .null :: .int 0 :: .null :: .int 0 :: .int 0 :: .int 0 :: .int 0 :: .long 0 :: .int 0 :: .int 0 :: .int 0 :: .null :: .int 0 :: .null :: .null :: .int 0 :: .null :: .null :: .int 0 :: .int 0 :: .null :: .null :: .int 0 :: .null :: .null :: .int 0 :: .long 0 :: .long 0 :: .null :: .null :: .null :: .null :: .null :: .null :: .null :: .null :: .int 0 :: .int 0 :: .null :: .null :: .int 0 :: .int 0 :: .int 0 :: .null :: .null :: .null :: .null :: .null :: .int 0 :: .long 0 :: []) 51 rfl (fun j hj => by revert j hj; decide) q_1295 q_1296 q_153 (Nat.le_of_ble_eq_true rfl) (Nat.le_of_ble_eq_true rfl) dL_law_8 (fun a2 => ?_)
    refine i_dup hX0 dL_law_11 rfl ?_
    refine i_callI hX0 [] [.ref a2] (c_X12_init_51 (a0 := a2) (if_pos rfl) (if_pos rfl) (fun j g1 g2 g3 => st_free j g1 g2)) q_1297 q_1298 q_1299 q_153 rfl hd_X12_init ⟨by decide, by decide⟩ (Nat.le_of_ble_eq_true rfl) (Nat.le_of_ble_eq_true rfl) rfl rfl (Nat.le_of_ble_eq_true rfl) dL_law_12 ?_
    rintro v2 F2 ad2 ⟨rfl, ho2, q52, q53, q54, q55, q56, q57, q58, q59, q60, q61, q62, q63, q64, q65, q66, q67, q68, q69, q70, q71, q72, q73, q74, q75, q76, q77, q78, q79, q80, hE2, rfl⟩
    refine i_astore_n hX0 (x := a2) dL_law_15 rfl (by decide) rfl ?_
    refine i_iconst hX0 (v := 0) dL_law_16 rfl ?_
    refine i_istore_n hX0 dL_law_17 rfl (by decide) rfl ?_
    have ho3 : ∀ j, j < 51 → ad2 j = ad1 j := fun j hj => (ho2 j (Or.inl (by omega))).trans (if_neg (by omega))
    have t51 : ad2 51 = a2 := (ho2 51 (Or.inl (by decide))).trans (if_pos rfl)
    have t48 : ad2 48 = a1 := (ho3 48 (by decide)).trans (hE1 _ (List.mem_of_getElem? (i := 0) rfl))
    have t0 : ad2 0 = q0 := (ho3 0 (by decide)).trans (hE1 _ (List.mem_of_getElem? (i := 1) rfl))
    have t1 : ad2 1 = q1 := (ho3 1 (by decide)).trans (hE1 _ (List.mem_of_getElem? (i := 2) rfl))
    have t2 : ad2 2 = q2 := (ho3 2 (by decide)).trans (hE1 _ (List.mem_of_getElem? (i := 3) rfl))
    have t3 : ad2 3 = q3 := (ho3 3 (by decide)).trans (hE1 _ (List.mem_of_getElem? (i := 4) rfl))
    have t4 : ad2 4 = q4 := (ho3 4 (by decide)).trans (hE1 _ (List.mem_of_getElem? (i := 5) rfl))
    have t5 : ad2 5 = q5 := (ho3 5 (by decide)).trans (hE1 _ (List.mem_of_getElem? (i := 6) rfl))
    have t6 : ad2 6 = q6 := (ho3 6 (by decide)).trans (hE1 _ (List.mem_of_getElem? (i := 7) rfl))
    have t7 : ad2 7 = q7 := (ho3 7 (by decide)).trans (hE1 _ (List.mem_of_getElem? (i := 8) rfl))
    have t8 : ad2 8 = q8 := (ho3 8 (by decide)).trans (hE1 _ (List.mem_of_getElem? (i := 9) rfl))
    have t9 : ad2 9 = q9 := (ho3 9 (by decide)).trans (hE1 _ (List.mem_of_getElem? (i := 10) rfl))
    have t10 : ad2 10 = q10 := (ho3 10 (by decide)).trans (hE1 _ (List.mem_of_getElem? (i := 11) rfl))
    have t11 : ad2 11 = q11 := (ho3 11 (by decide)).trans (hE1 _ (List.mem_of_getElem? (i := 12) rfl))
    have t12 : ad2 12 = q12 := (ho3 12 (by decide)).trans (hE1 _ (List.mem_of_getElem? (i := 13) rfl))
    have t13 : ad2 13 = q13 := (ho3 13 (by decide)).trans (hE1 _ (List.mem_of_getElem? (i := 14) rfl))
    have t14 : ad2 14 = q14 := (ho3 14 (by decide)).trans (hE1 _ (List.mem_of_getElem? (i := 15) rfl))
    have t49 : ad2 49 = q49 := (ho3 49 (by decide)).trans (hE1 _ (List.mem_of_getElem? (i := 16) rfl))
    have t15 : ad2 15 = q15 := (ho3 15 (by decide)).trans (hE1 _ (List.mem_of_getElem? (i := 17) rfl))
    have t16 : ad2 16 = q16 := (ho3 16 (by decide)).trans (hE1 _ (List.mem_of_getElem? (i := 18) rfl))
    have t23 : ad2 23 = q23 := (ho3 23 (by decide)).trans (hE1 _ (List.mem_of_getElem? (i := 19) rfl))
    have t24 : ad2 24 = q24 := (ho3 24 (by decide)).trans (hE1 _ (List.mem_of_getElem? (i := 20) rfl))
    have t17 : ad2 17 = q17 := (ho3 17 (by decide)).trans (hE1 _ (List.mem_of_getElem? (i := 21) rfl))
    have t18 : ad2 18 = q18 := (ho3 18 (by decide)).trans (hE1 _ (List.mem_of_getElem? (i := 22) rfl))
    have t19 : ad2 19 = q19 := (ho3 19 (by decide)).trans (hE1 _ (List.mem_of_getElem? (i := 23) rfl))
    have t20 : ad2 20 = q20 := (ho3 20 (by decide)).trans (hE1 _ (List.mem_of_getElem? (i := 24) rfl))
    have t21 : ad2 21 = q21 := (ho3 21 (by decide)).trans (hE1 _ (List.mem_of_getElem? (i := 25) rfl))
    have t22 : ad2 22 = q22 := (ho3 22 (by decide)).trans (hE1 _ (List.mem_of_getElem? (i := 26) rfl))
    have t25 : ad2 25 = q25 := (ho3 25 (by decide)).trans (hE1 _ (List.mem_of_getElem? (i := 27) rfl))
    have t26 : ad2 26 = q26 := (ho3 26 (by decide)).trans (hE1 _ (List.mem_of_getElem? (i := 28) rfl))
    have t27 : ad2 27 = q27 := (ho3 27 (by decide)).trans (hE1 _ (List.mem_of_getElem? (i := 29) rfl))
    have t28 : ad2 28 = q28 := (ho3 28 (by decide)).trans (hE1 _ (List.mem_of_getElem? (i := 30) rfl))
    have t29 : ad2 29 = q29 := (ho3 29 (by decide)).trans (hE1 _ (List.mem_of_getElem? (i := 31) rfl))
    have t30 : ad2 30 = q30 := (ho3 30 (by decide)).trans (hE1 _ (List.mem_of_getElem? (i := 32) rfl))
    have t31 : ad2 31 = q31 := (ho3 31 (by decide)).trans (hE1 _ (List.mem_of_getElem? (i := 33) rfl))
    have t32 : ad2 32 = q32 := (ho3 32 (by decide)).trans (hE1 _ (List.mem_of_getElem? (i := 34) rfl))
    have t33 : ad2 33 = q33 := (ho3 33 (by decide)).trans (hE1 _ (List.mem_of_getElem? (i := 35) rfl))
    have t34 : ad2 34 = q34 := (ho3 34 (by decide)).trans (hE1 _ (List.mem_of_getElem? (i := 36) rfl))
    have t35 : ad2 35 = q35 := (ho3 35 (by decide)).trans (hE1 _ (List.mem_of_getElem? (i := 37) rfl))
    have t36 : ad2 36 = q36 := (ho3 36 (by decide)).trans (hE1 _ (List.mem_of_getElem? (i := 38) rfl))
    have t37 : ad2 37 = q37 := (ho3 37 (by decide)).trans (hE1 _ (List.mem_of_getElem? (i := 39) rfl))
    have t38 : ad2 38 = q38 := (ho3 38 (by decide)).trans (hE1 _ (List.mem_of_getElem? (i := 40) rfl))
    have t39 : ad2 39 = q39 := (ho3 39 (by decide)).trans (hE1 _ (List.mem_of_getElem? (i := 41) rfl))
    have t40 : ad2 40 = q40 := (ho3 40 (by decide)).trans (hE1 _ (List.mem_of_getElem? (i := 42) rfl))
    have t41 : ad2 41 = q41 := (ho3 41 (by decide)).trans (hE1 _ (List.mem_of_getElem? (i := 43) rfl))
    have t42 : ad2 42 = q42 := (ho3 42 (by decide)).trans (hE1 _ (List.mem_of_getElem? (i := 44) rfl))
    have t43 : ad2 43 = q43 := (ho3 43 (by decide)).trans (hE1 _ (List.mem_of_getElem? (i := 45) rfl))
    have t44 : ad2 44 = q44 := (ho3 44 (by decide)).trans (hE1 _ (List.mem_of_getElem? (i := 46) rfl))
    have t45 : ad2 45 = q45 := (ho3 45 (by decide)).trans (hE1 _ (List.mem_of_getElem? (i := 47) rfl))
    have t46 : ad2 46 = q46 := (ho3 46 (by decide)).trans (hE1 _ (List.mem_of_getElem? (i := 48) rfl))
    have t47 : ad2 47 = q47 := (ho3 47 (by decide)).trans (hE1 _ (List.mem_of_getElem? (i := 49) rfl))
    have t50 : ad2 50 = q50 := (ho3 50 (by decide)).trans (hE1 _ (List.mem_of_getElem? (i := 50) rfl))
    have t52 : ad2 52 = q52 := hE2 _ (List.mem_of_getElem? (i := 0) rfl)
    have t53 : ad2 53 = q53 := hE2 _ (List.mem_of_getElem? (i := 1) rfl)
    have t54 : ad2 54 = q54 := hE2 _ (List.mem_of_getElem? (i := 2) rfl)
    have t55 : ad2 55 = q55 := hE2 _ (List.mem_of_getElem? (i := 3) rfl)
    have t56 : ad2 56 = q56 := hE2 _ (List.mem_of_getElem? (i := 4) rfl)
    have t57 : ad2 57 = q57 := hE2 _ (List.mem_of_getElem? (i := 5) rfl)
    have t58 : ad2 58 = q58 := hE2 _ (List.mem_of_getElem? (i := 6) rfl)
    have t59 : ad2 59 = q59 := hE2 _ (List.mem_of_getElem? (i := 7) rfl)
    have t60 : ad2 60 = q60 := hE2 _ (List.mem_of_getElem? (i := 8) rfl)
    have t61 : ad2 61 = q61 := hE2 _ (List.mem_of_getElem? (i := 9) rfl)
    have t62 : ad2 62 = q62 := hE2 _ (List.mem_of_getElem? (i := 10) rfl)
    have t63 : ad2 63 = q63 := hE2 _ (List.mem_of_getElem? (i := 11) rfl)
    have t64 : ad2 64 = q64 := hE2 _ (List.mem_of_getElem? (i := 12) rfl)
    have t65 : ad2 65 = q65 := hE2 _ (List.mem_of_getElem? (i := 13) rfl)
    have t66 : ad2 66 = q66 := hE2 _ (List.mem_of_getElem? (i := 14) rfl)
    have t67 : ad2 67 = q67 := hE2 _ (List.mem_of_getElem? (i := 15) rfl)
    have t68 : ad2 68 = q68 := hE2 _ (List.mem_of_getElem? (i := 16) rfl)
    have t69 : ad2 69 = q69 := hE2 _ (List.mem_of_getElem? (i := 17) rfl)
    have t70 : ad2 70 = q70 := hE2 _ (List.mem_of_getElem? (i := 18) rfl)
    have t71 : ad2 71 = q71 := hE2 _ (List.mem_of_getElem? (i := 19) rfl)
    have t72 : ad2 72 = q72 := hE2 _ (List.mem_of_getElem? (i := 20) rfl)
    have t73 : ad2 73 = q73 := hE2 _ (List.mem_of_getElem? (i := 21) rfl)
    have t74 : ad2 74 = q74 := hE2 _ (List.mem_of_getElem? (i := 22) rfl)
    have t75 : ad2 75 = q75 := hE2 _ (List.mem_of_getElem? (i := 23) rfl)
    have t76 : ad2 76 = q76 := hE2 _ (List.mem_of_getElem? (i := 24) rfl)
    have t77 : ad2 77 = q77 := hE2 _ (List.mem_of_getElem? (i := 25) rfl)
    have t78 : ad2 78 = q78 := hE2 _ (List.mem_of_getElem? (i := 26) rfl)
    have t79 : ad2 79 = q79 := hE2 _ (List.mem_of_getElem? (i := 27) rfl)
    have t80 : ad2 80 = q80 := hE2 _ (List.mem_of_getElem? (i := 28) rfl)
    subst t48 t0 t1 t2 t3 t4 t5 t6 t7 t8 t9 t10 t11 t12 t13 t14 t49 t15 t16 t23 t24 t17 t18 t19 t20 t21 t22 t25 t26 t27 t28 t29 t30 t31 t32 t33 t34 t35 t36 t37 t38 t39 t40 t41 t42 t43 t44 t45 t46 t47 t50 t52 t53 t54 t55 t56 t57 t58 t59 t60 t61 t62 t63 t64 t65 t66 t67 t68 t69 t70 t71 t72 t73 t74 t75 t76 t77 t78 t79 t80 t51
    have hX1 : k_X yL_law cL_law 4 (some .boolean) (G, ca, fun k => if k < 81 then ad2 k else ad0 k) p s m meth c (fun q => s.heap.size ≤ q) := ⟨hx, hb, hml, hr, hlocks, hown, st_Tb hts, hKn _, fun q h => h, (hOt G ca).congr (fun k hk => if_neg (by omega))⟩
    have hl := lc_loop (Q := lw_Z below #[Value.ref b] s) (l := l) (e := e) (a := #[Value.ref b]) (b := below) (rm := room_1) hlaw hX1 hX hbl (Nat.not_le.mpr hbl) ⟨Nat.le_of_ble_eq_true rfl, Nat.le_of_ble_eq_true rfl⟩ hL (hend _ hX1) (L / 6 + 1) 0 (600000 - 1 - 50 - 1 - 29) (7302250 - 15 - 11856 - 55 - 24988) (fun _ => 0) S0 (by omega) (by omega) (by omega) (by omega) inv_S0
    intro H lo cl sl Y la hla
    refine hl H lo cl sl ⟨⟨?_, ?_, ?_⟩, Y.2.1, Y.2.2⟩ la (lv_sub hla [0, 3, 2, 1] rfl)
    · rw [← st_F]
      exact fun k f hk => (st_ad (st_lt hk) : k_ad _ _ k = ad2 k) ▸ Y.1.1 k f hk
    · rw [← st_F]
      exact fun j k f g hj hk q => Y.1.2.1 j k f g hj hk (by rw [st_ad (st_lt hj), st_ad (st_lt hk)] at q; exact q)
    · rw [← st_F]
      exact fun k f hk => (st_ad (st_lt hk) : k_ad _ _ k = ad2 k) ▸ Y.1.2.2 k f hk
  have hl := lv_entry ([.ref b]) (n := 4) (Nat.le_of_ble_eq_true rfl)
  rw [lg_entry_eq]
  have hw : k_Wd G (fun _ => none) (fun _ => 0) (fun q => s.heap.size ≤ q) s.heap := ⟨fun k e h => absurd h (by simp), fun j k e f h => absurd h (by simp), fun k e h => absurd h (by simp)⟩
  exact key s.heap [] 0 0 ⟨hw, va_S.rf, Nat.le_of_ble_eq_true rfl, Nat.le_of_ble_eq_true rfl⟩ _ hl
