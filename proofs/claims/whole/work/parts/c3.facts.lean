/-! part c3: what stands at the start -/
theorem st_Tb {s : State} {a0 : Array Value} (hts : ∀ w ∈ lw_tbl, w.before a0 s = true) : k_Tb s := by
  intro w hw hk a
  have h0 := hts w hw
  by_cases hg : goodWord w = true
  · exact word_at (k_rf s) (good_of_word hg) h0
  · have hn : k_nest w = true := by
      unfold k_ok at hk
      cases hq : goodWord w with
      | true => exact absurd hq hg
      | false => rw [hq] at hk; exact hk
    cases w <;> first | (simp [k_nest] at hn; done) | exact va_Nw.use rfl (va_Nw.of rfl h0)
theorem st_arr {s : State} {a0 : Array Value} {ty : FieldType} (h : (Cond.arrayClass ty).before a0 s = true) : ∃ cA : ClassId, ArrOfT s cA ty ∧ s.vm.findClass ("[" ++ ty.toString) = some cA := by
  obtain ⟨cA, kA, comp, h1, h2, h3⟩ := Cond.arrayClass_spec h
  exact ⟨cA, fun n z => ⟨(fun k h => by cases h), kA, h2, comp, h3⟩, h1⟩
theorem st_Kn {s : State} {a0 : Array Value} (hts : ∀ w ∈ lw_tbl, w.before a0 s = true) : ∃ (G : va_G) (ca : Nat → ClassId), ∀ ad2 : Nat → Nat, k_Kn (G, ca, ad2) s := by
  have hT := st_Tb hts
  obtain ⟨c0, i0, g0⟩ := u_known (args := a0) (kc0.hts hT) (fun w h => h) (q_514.use hT)
  obtain ⟨c1, i1, g1⟩ := u_known (args := a0) (kc1.hts hT) (fun w h => h) (q_177.use hT)
  obtain ⟨c2, i2, g2⟩ := u_known (args := a0) (kc2.hts hT) (fun w h => h) (q_459.use hT)
  obtain ⟨c3, i3, g3⟩ := u_known (args := a0) (kc3.hts hT) (fun w h => h) (q_364.use hT)
  obtain ⟨c4, i4, g4⟩ := u_known (args := a0) (kc4.hts hT) (fun w h => h) (q_405.use hT)
  obtain ⟨c5, i5, g5⟩ := u_known (args := a0) (kc5.hts hT) (fun w h => h) (q_541.use hT)
  obtain ⟨c6, i6, g6⟩ := u_known (args := a0) (kc6.hts hT) (fun w h => h) (q_560.use hT)
  obtain ⟨c7, i7, g7⟩ := u_known (args := a0) (kc7.hts hT) (fun w h => h) (q_329.use hT)
  obtain ⟨c8, i8, g8⟩ := u_known (args := a0) (kc8.hts hT) (fun w h => h) (q_432.use hT)
  obtain ⟨c9, i9, g9⟩ := u_known (args := a0) (kc9.hts hT) (fun w h => h) (q_313.use hT)
  obtain ⟨c10, i10, g10⟩ := u_known (args := a0) (kc10.hts hT) (fun w h => h) (q_171.use hT)
  obtain ⟨c11, i11, g11⟩ := u_known (args := a0) (kc11.hts hT) (fun w h => h) (q_163.use hT)
  obtain ⟨c12, i12, g12⟩ := u_known (args := a0) (kc12.hts hT) (fun w h => h) (q_1296.use hT)
  obtain ⟨b0, x0, y0⟩ := st_arr (a0 := a0) (q_233.use hT)
  obtain ⟨b1, x1, y1⟩ := st_arr (a0 := a0) (q_327.use hT)
  obtain ⟨b2, x2, y2⟩ := st_arr (a0 := a0) (q_403.use hT)
  obtain ⟨b3, x3, y3⟩ := st_arr (a0 := a0) (q_512.use hT)
  have o4 : (Cond.arrayOver (.array .int)).before a0 s = true := hts _ (by decide +kernel)
  have o5 : (Cond.arrayOver (.object RX10)).before a0 s = true := hts _ (by decide +kernel)
  obtain ⟨comp4, b4, k4, e41, e42, e43, e44, e45⟩ := arrayOverA_spec o4
  obtain ⟨comp5, b5, k5, e51, e52, e53, e54, e55⟩ := Cond.arrayOver_spec o5
  have z : comp4 = b0 := Option.some.inj (e41.symm.trans y0)
  subst z
  refine ⟨(fun k => match k with | 0 => c0 | 1 => c1 | 2 => c2 | 3 => c3 | 4 => c4 | 5 => c5 | 6 => c6 | 7 => c7 | 8 => c8 | 9 => c9 | 10 => c10 | 11 => c11 | _ => c12,
    fun k => match k with | 0 => i0 | 1 => i1 | 2 => i2 | 3 => i3 | 4 => i4 | 5 => i5 | 6 => i6 | 7 => i7 | 8 => i8 | 9 => i9 | 10 => i10 | 11 => i11 | _ => i12),
    fun k => match k with | 0 => comp4 | 1 => b1 | 2 => b2 | 3 => b3 | 4 => b4 | _ => b5, fun ad2 => ⟨⟨?_, ?_⟩, k4, e43, e44, o4, o5, e41⟩⟩
  · intro c q hq
    match c, hq with
    | 0, hq => cases hq; exact g0
    | 1, hq => cases hq; exact g1
    | 2, hq => cases hq; exact g2
    | 3, hq => cases hq; exact g3
    | 4, hq => cases hq; exact g4
    | 5, hq => cases hq; exact g5
    | 6, hq => cases hq; exact g6
    | 7, hq => cases hq; exact g7
    | 8, hq => cases hq; exact g8
    | 9, hq => cases hq; exact g9
    | 10, hq => cases hq; exact g10
    | 11, hq => cases hq; exact g11
    | 12, hq => cases hq; exact g12
    | n + 13, hq => cases hq
  · intro k q hq
    match k, hq with
    | 0, hq => cases hq; exact ⟨x0, y0⟩
    | 1, hq => cases hq; exact ⟨x1, y1⟩
    | 2, hq => cases hq; exact ⟨x2, y2⟩
    | 3, hq => cases hq; exact ⟨x3, y3⟩
    | 4, hq => cases hq; exact ⟨fun n z => ⟨(fun k h => by cases h), k4, e43, comp4, e44⟩, e45⟩
    | 5, hq => cases hq; exact ⟨fun n z => ⟨(fun k h => by cases h), k5, e53, comp5, e54⟩, k5, comp5, e53, e54, e51, e55⟩
    | n + 6, hq => cases hq
theorem st_Ot {s : State} {a0 : Array Value} (hts : ∀ w ∈ lw_tbl, w.before a0 s = true) (hg : (Jvm.Cond.and given_1 narrow_1).before a0 s = true) : ∃ ad2 : Nat → Nat, ∀ (G : va_G) (ca : Nat → ClassId), k_Ot (G, ca, ad2) (fun q => s.heap.size ≤ q) s s.heap := by
  have hs := flat_of_before _ hg
  have hA : ∀ a : Nat, a < s.heap.size → ¬ (fun q : Nat => s.heap.size ≤ q) a := fun a h => Nat.not_le.mpr h
  have d1 : ∀ i : Nat, i < k_nS → Cond.exactly (.string RX7 (k_si.getD i 0)) "java/lang/String" ∈ flatC (Jvm.Cond.and given_1 narrow_1) := by decide +kernel
  have d2 : ∀ i : Nat, i < k_nS → Cond.eq (.field (.string RX7 (k_si.getD i 0)) "java/lang/String" "coder" "B") (.int 0) ∈ flatC (Jvm.Cond.and given_1 narrow_1) := by decide +kernel
  have d3 : ∀ i : Nat, i < k_nS → Cond.arrayOf (.field (.string RX7 (k_si.getD i 0)) "java/lang/String" "value" "[B") .byte ∈ flatC (Jvm.Cond.and given_1 narrow_1) := by decide +kernel
  have d4 : ∀ i : Nat, i < k_nS → Cond.eq (.length (.field (.string RX7 (k_si.getD i 0)) "java/lang/String" "value" "[B")) (.int (Int32.ofNat (k_sl.getD i 0))) ∈ flatC (Jvm.Cond.and given_1 narrow_1) := by decide +kernel
  have d5 : ∀ i : Nat, i < k_nS → ∀ j : Nat, j < k_sl.getD i 0 → Cond.eq (.elem (.field (.string RX7 (k_si.getD i 0)) "java/lang/String" "value" "[B") (.int (Int32.ofNat j))) (.int ((k_sb.getD i []).getD j 0)) ∈ flatC (Jvm.Cond.and given_1 narrow_1) := by decide +kernel
  have d6 : ∀ i : Nat, i < k_nS → ∀ j : Nat, j < i → (flatC (Jvm.Cond.and given_1 narrow_1))[([0, 26, 36, 45, 55, 65, 78, 96, 111, 129, 148, 165, 185, 203] : List Nat).getD i 0 + j]? = some (Cond.not (Cond.eq (.string RX7 (k_si.getD j 0)) (.string RX7 (k_si.getD i 0)))) := by decide +kernel
  have d7 : ∀ i : Nat, i < k_nS → Cond.stringRef RX7 (k_si.getD i 0) (k_st.getD i "") ∈ lw_tbl := by decide +kernel
  obtain ⟨adK, adV, hS, hv⟩ := vk_Sof (args := a0) (s := s) (N := k_nS) (tm := fun i => .string RX7 (k_si.getD i 0)) (len := k_sl) (byt := k_sb) (A := fun q => s.heap.size ≤ q) (by decide) (fun i hi => hs _ (d1 i hi)) (fun i hi => hs _ (d2 i hi)) (fun i hi => hs _ (d3 i hi)) (fun i hi => hs _ (d4 i hi)) (fun i hi j hj => hs _ (d5 i hi j hj)) (fun i j hi hj q => (Nat.lt_or_gt_of_ne q).imp (fun h => hs _ (List.mem_of_getElem? (d6 j hj i h))) (fun h => hs _ (List.mem_of_getElem? (d6 i hi j h)))) hA
  refine ⟨fun k => if k < 2000 then adK (k - 1000) else adV (k - 2000), fun G ca => ⟨?_, fun i hi => ?_, ?_, ?_⟩⟩
  · refine ⟨fun i hi => ?_, fun i j hi hj q => ?_⟩
    · have hi' : i < 14 := hi
      have e1 : (if 1000 + i < 2000 then adK (1000 + i - 1000) else adV (1000 + i - 2000)) = adK i := by rw [if_pos (by omega), Nat.add_sub_cancel_left]
      have e2 : (if 2000 + i < 2000 then adK (2000 + i - 1000) else adV (2000 + i - 2000)) = adV i := by rw [if_neg (by omega), Nat.add_sub_cancel_left]
      show va_O _ (if 1000 + i < 2000 then adK (1000 + i - 1000) else adV (1000 + i - 2000)) _ _ _ ∧ va_OF _ _ _ _ (if 1000 + i < 2000 then adK (1000 + i - 1000) else adV (1000 + i - 2000)) _ _ _ ∧ va_OF _ _ _ (.ref (if 2000 + i < 2000 then adK (2000 + i - 1000) else adV (2000 + i - 2000))) (if 1000 + i < 2000 then adK (1000 + i - 1000) else adV (1000 + i - 2000)) _ _ _ ∧ va_T _ (if 2000 + i < 2000 then adK (2000 + i - 1000) else adV (2000 + i - 2000)) _ _ _ _ _
      rw [e1, e2]
      exact hS.1 i hi
    · have hi' : i < 14 := hi
      have hj' : j < 14 := hj
      have q : (if 1000 + i < 2000 then adK (1000 + i - 1000) else adV (1000 + i - 2000)) = (if 1000 + j < 2000 then adK (1000 + j - 1000) else adV (1000 + j - 2000)) := q
      rw [if_pos (by omega), if_pos (by omega), Nat.add_sub_cancel_left, Nat.add_sub_cancel_left] at q
      exact hS.2 i j hi hj q
  · have hi' : i < 14 := hi
    show vk_R _ _ _ (if 1000 + i < 2000 then adK (1000 + i - 1000) else adV (1000 + i - 2000)) _
    rw [if_pos (by omega), Nat.add_sub_cancel_left]
    exact vk_R.of (hts _ (d7 i hi)) (hv i hi)
  · exact va_Zof (args := a0) (hts _ (by decide +kernel)) (hts _ (by decide +kernel)) (va_eqi (hs _ (by decide +kernel))) hA
  · exact va_Zqof (args := a0) (hts _ (by decide +kernel)) (hts _ (by decide +kernel)) (hs _ (by decide +kernel)) hA
