/-! part c2: the law's loop, the whole of it -/
set_option maxRecDepth 100000 in
set_option maxHeartbeats 4000000 in
theorem lc_disp {rm : Room} {D : k_D} {p : Program} {l : Launch} {e : Env} {s : State} {m : MethodId} {a : Array Value} {b : List Frame} {me : Method} {c : Code} {A : Nat → Prop} {Q : State → Prop} {b0 L : Nat} {xs : Nat → Int32} (hlaw : Pr f_X11_law f_X12_law) (X : k_X yL_law cL_law 4 (some .boolean) D p s m me c A) (hX : va_X b0 L xs s s.heap) (hb0 : b0 < s.heap.size) (hbA : ¬ A b0) (hrm : 200 ≤ rm.frames ∧ 20000 ≤ rm.locals) {mc ms : Nat} (hmc : 15 ≤ mc) (hms : 800 ≤ ms) {dy : Nat → Nat} {S : St} {i : Int32} (hI : Inv S) (hin : ∀ j, j ≤ 5 → vp_in (i + nI j) L) (w : Int32)
    (kk : ∀ dy1 S1 mc1 ms1, mc ≤ mc1 + 15 → ms ≤ ms1 + 800 → Inv S1 → In yL_law cL_law 4 (some .boolean) rm D p l e s m a b me c A Q mc1 ms1 (k_cell D dy1 S1) (k_ad D dy1) 1217 (lwLs b0 D i) []) : In yL_law cL_law 4 (some .boolean) rm D p l e s m a b me c A Q mc ms (k_cell D dy S) (k_ad D dy) 33 (lwLs b0 D i) [.int w] := by
  by_cases c0 : w = 0
  · subst c0
    refine i_tableIn X (t := 196) (o := 163) dL_law_33 (by decide) (by decide) rfl (by decide) ?_
    exact lc_tune X hX hb0 hbA hrm hmc hms hI hin kk
  by_cases c1 : w = 1
  · subst c1
    refine i_tableIn X (t := 219) (o := 186) dL_law_33 (by decide) (by decide) rfl (by decide) ?_
    exact lc_length X hX hb0 hbA hrm hmc hms hI hin kk
  by_cases c2 : w = 2
  · subst c2
    refine i_tableIn X (t := 242) (o := 209) dL_law_33 (by decide) (by decide) rfl (by decide) ?_
    exact lc_owe X hX hb0 hbA hrm hmc hms hI hin kk
  by_cases c3 : w = 3
  · subst c3
    refine i_tableIn X (t := 295) (o := 262) dL_law_33 (by decide) (by decide) rfl (by decide) ?_
    exact lc_of X hX hb0 hbA hrm hmc hms hI hin kk
  by_cases c4 : w = 4
  · subst c4
    refine i_tableIn X (t := 328) (o := 295) dL_law_33 (by decide) (by decide) rfl (by decide) ?_
    exact lc_pay X hX hb0 hbA hrm hmc hms hI hin kk
  by_cases c5 : w = 5
  · subst c5
    refine i_tableIn X (t := 361) (o := 328) dL_law_33 (by decide) (by decide) rfl (by decide) ?_
    exact lc_funeral X hX hb0 hbA hrm hmc hms hI hin kk
  by_cases c6 : w = 6
  · subst c6
    refine i_tableIn X (t := 384) (o := 351) dL_law_33 (by decide) (by decide) rfl (by decide) ?_
    exact lc_terms X hX hb0 hbA hrm hmc hms hI hin kk
  by_cases c7 : w = 7
  · subst c7
    refine i_tableIn X (t := 417) (o := 384) dL_law_33 (by decide) (by decide) rfl (by decide) ?_
    exact lc_feed X hX hb0 hbA hrm hmc hms hI hin kk
  by_cases c8 : w = 8
  · subst c8
    refine i_tableIn X (t := 480) (o := 447) dL_law_33 (by decide) (by decide) rfl (by decide) ?_
    exact lc_end X hX hb0 hbA hrm hmc hms hI hin kk
  by_cases c9 : w = 9
  · subst c9
    refine i_tableIn X (t := 503) (o := 470) dL_law_33 (by decide) (by decide) rfl (by decide) ?_
    exact lc_row X hX hb0 hbA hrm hmc hms hI hin kk
  by_cases c10 : w = 10
  · subst c10
    refine i_tableIn X (t := 516) (o := 483) dL_law_33 (by decide) (by decide) rfl (by decide) ?_
    exact lc_sung X hX hb0 hbA hrm hmc hms hI hin kk
  by_cases c11 : w = 11
  · subst c11
    refine i_tableIn X (t := 529) (o := 496) dL_law_33 (by decide) (by decide) rfl (by decide) ?_
    exact lc_law hlaw X hX hb0 hbA hrm hmc hms hI hin kk
  by_cases c12 : w = 12
  · subst c12
    refine i_tableIn X (t := 542) (o := 509) dL_law_33 (by decide) (by decide) rfl (by decide) ?_
    exact lc_fault X hX hb0 hbA hrm hmc hms hI hin kk
  by_cases c13 : w = 13
  · subst c13
    refine i_tableIn X (t := 555) (o := 522) dL_law_33 (by decide) (by decide) rfl (by decide) ?_
    exact lc_force X hX hb0 hbA hrm hmc hms hI hin kk
  by_cases c14 : w = 14
  · subst c14
    refine i_tableIn X (t := 578) (o := 545) dL_law_33 (by decide) (by decide) rfl (by decide) ?_
    exact lc_balance X hX hb0 hbA hrm hmc hms hI hin kk
  by_cases c15 : w = 15
  · subst c15
    refine i_tableIn X (t := 601) (o := 568) dL_law_33 (by decide) (by decide) rfl (by decide) ?_
    exact lc_richest X hX hb0 hbA hrm hmc hms hI hin kk
  by_cases c16 : w = 16
  · subst c16
    refine i_tableIn X (t := 614) (o := 581) dL_law_33 (by decide) (by decide) rfl (by decide) ?_
    exact lc_net X hX hb0 hbA hrm hmc hms hI hin kk
  by_cases c17 : w = 17
  · subst c17
    refine i_tableIn X (t := 647) (o := 614) dL_law_33 (by decide) (by decide) rfl (by decide) ?_
    exact lc_left X hX hb0 hbA hrm hmc hms hI hin kk
  by_cases c18 : w = 18
  · subst c18
    refine i_tableIn X (t := 680) (o := 647) dL_law_33 (by decide) (by decide) rfl (by decide) ?_
    exact lc_ring X hX hb0 hbA hrm hmc hms hI hin kk
  by_cases c19 : w = 19
  · subst c19
    refine i_tableIn X (t := 713) (o := 680) dL_law_33 (by decide) (by decide) rfl (by decide) ?_
    exact lc_cancel X hX hb0 hbA hrm hmc hms hI hin kk
  by_cases c20 : w = 20
  · subst c20
    refine i_tableIn X (t := 736) (o := 703) dL_law_33 (by decide) (by decide) rfl (by decide) ?_
    exact lc_best X hX hb0 hbA hrm hmc hms hI hin kk
  by_cases c21 : w = 21
  · subst c21
    refine i_tableIn X (t := 789) (o := 756) dL_law_33 (by decide) (by decide) rfl (by decide) ?_
    exact lc_play X hX hb0 hbA hrm hmc hms hI hin kk
  by_cases c22 : w = 22
  · subst c22
    refine i_tableIn X (t := 832) (o := 799) dL_law_33 (by decide) (by decide) rfl (by decide) ?_
    exact lc_bands X hX hb0 hbA hrm hmc hms hI hin kk
  by_cases c23 : w = 23
  · subst c23
    refine i_tableIn X (t := 865) (o := 832) dL_law_33 (by decide) (by decide) rfl (by decide) ?_
    exact lc_wedding X hX hb0 hbA hrm hmc hms hI hin kk
  by_cases c24 : w = 24
  · subst c24
    refine i_tableIn X (t := 898) (o := 865) dL_law_33 (by decide) (by decide) rfl (by decide) ?_
    exact lc_divorce X hX hb0 hbA hrm hmc hms hI hin kk
  by_cases c25 : w = 25
  · subst c25
    refine i_tableIn X (t := 911) (o := 878) dL_law_33 (by decide) (by decide) rfl (by decide) ?_
    exact lc_free X hX hb0 hbA hrm hmc hms hI hin kk
  by_cases c26 : w = 26
  · subst c26
    refine i_tableIn X (t := 934) (o := 901) dL_law_33 (by decide) (by decide) rfl (by decide) ?_
    exact lc_dance X hX hb0 hbA hrm hmc hms hI hin kk
  by_cases c27 : w = 27
  · subst c27
    refine i_tableIn X (t := 967) (o := 934) dL_law_33 (by decide) (by decide) rfl (by decide) ?_
    exact lc_ahead X hX hb0 hbA hrm hmc hms hI hin kk
  by_cases c28 : w = 28
  · subst c28
    refine i_tableIn X (t := 1000) (o := 967) dL_law_33 (by decide) (by decide) rfl (by decide) ?_
    exact lc_forget X hX hb0 hbA hrm hmc hms hI hin kk
  by_cases c29 : w = 29
  · subst c29
    refine i_tableIn X (t := 1013) (o := 980) dL_law_33 (by decide) (by decide) rfl (by decide) ?_
    exact lc_orders X hX hb0 hbA hrm hmc hms hI hin kk
  by_cases c30 : w = 30
  · subst c30
    refine i_tableIn X (t := 1046) (o := 1013) dL_law_33 (by decide) (by decide) rfl (by decide) ?_
    exact lc_can X hX hb0 hbA hrm hmc hms hI hin kk
  by_cases c31 : w = 31
  · subst c31
    refine i_tableIn X (t := 1069) (o := 1036) dL_law_33 (by decide) (by decide) rfl (by decide) ?_
    exact lc_evenings X hX hb0 hbA hrm hmc hms hI hin kk
  by_cases c32 : w = 32
  · subst c32
    refine i_tableIn X (t := 1102) (o := 1069) dL_law_33 (by decide) (by decide) rfl (by decide) ?_
    exact lc_owed X hX hb0 hbA hrm hmc hms hI hin kk
  by_cases c33 : w = 33
  · subst c33
    refine i_tableIn X (t := 1135) (o := 1102) dL_law_33 (by decide) (by decide) rfl (by decide) ?_
    exact lc_image X hX hb0 hbA hrm hmc hms hI hin kk
  by_cases c34 : w = 34
  · subst c34
    refine i_tableIn X (t := 1158) (o := 1125) dL_law_33 (by decide) (by decide) rfl (by decide) ?_
    exact lc_back X hX hb0 hbA hrm hmc hms hI hin kk
  by_cases c35 : w = 35
  · subst c35
    refine i_tableIn X (t := 1181) (o := 1148) dL_law_33 (by decide) (by decide) rfl (by decide) ?_
    exact lc_count X hX hb0 hbA hrm hmc hms hI hin kk
  by_cases c36 : w = 36
  · subst c36
    refine i_tableIn X (t := 1204) (o := 1171) dL_law_33 (by decide) (by decide) rfl (by decide) ?_
    exact lc_status X hX hb0 hbA hrm hmc hms hI hin kk
  have e0 := g_ne c0 (k := 0) rfl
  have e1 := g_ne c1 (k := 1) rfl
  have e2 := g_ne c2 (k := 2) rfl
  have e3 := g_ne c3 (k := 3) rfl
  have e4 := g_ne c4 (k := 4) rfl
  have e5 := g_ne c5 (k := 5) rfl
  have e6 := g_ne c6 (k := 6) rfl
  have e7 := g_ne c7 (k := 7) rfl
  have e8 := g_ne c8 (k := 8) rfl
  have e9 := g_ne c9 (k := 9) rfl
  have e10 := g_ne c10 (k := 10) rfl
  have e11 := g_ne c11 (k := 11) rfl
  have e12 := g_ne c12 (k := 12) rfl
  have e13 := g_ne c13 (k := 13) rfl
  have e14 := g_ne c14 (k := 14) rfl
  have e15 := g_ne c15 (k := 15) rfl
  have e16 := g_ne c16 (k := 16) rfl
  have e17 := g_ne c17 (k := 17) rfl
  have e18 := g_ne c18 (k := 18) rfl
  have e19 := g_ne c19 (k := 19) rfl
  have e20 := g_ne c20 (k := 20) rfl
  have e21 := g_ne c21 (k := 21) rfl
  have e22 := g_ne c22 (k := 22) rfl
  have e23 := g_ne c23 (k := 23) rfl
  have e24 := g_ne c24 (k := 24) rfl
  have e25 := g_ne c25 (k := 25) rfl
  have e26 := g_ne c26 (k := 26) rfl
  have e27 := g_ne c27 (k := 27) rfl
  have e28 := g_ne c28 (k := 28) rfl
  have e29 := g_ne c29 (k := 29) rfl
  have e30 := g_ne c30 (k := 30) rfl
  have e31 := g_ne c31 (k := 31) rfl
  have e32 := g_ne c32 (k := 32) rfl
  have e33 := g_ne c33 (k := 33) rfl
  have e34 := g_ne c34 (k := 34) rfl
  have e35 := g_ne c35 (k := 35) rfl
  have e36 := g_ne c36 (k := 36) rfl
  refine i_tableOut X (t := 1217) dL_law_33 (by omega) (by decide) ?_
  exact kk dy S mc ms (by omega) (by omega) hI
theorem vpn {n L : Nat} (h : n < L) (hL : L < 2147483648) : vp_in (nI n) L := by
  unfold vp_in
  rw [n_cl (by omega)]
  intro q
  rcases q with q | q
  · have := Int32.lt_iff_toInt_lt.mp q
    rw [n_ti (by omega)] at this
    have z : (0 : Int32).toInt = 0 := rfl
    omega
  · omega
theorem lc_loop {rm : Room} {D : k_D} {p : Program} {l : Launch} {e : Env} {s : State} {m : MethodId} {a : Array Value} {b : List Frame} {me : Method} {c : Code} {A : Nat → Prop} {Q : State → Prop} {b0 L : Nat} {xs : Nat → Int32} (hlaw : Pr f_X11_law f_X12_law) (X : k_X yL_law cL_law 4 (some .boolean) D p s m me c A) (hX : va_X b0 L xs s s.heap) (hb0 : b0 < s.heap.size) (hbA : ¬ A b0) (hrm : 200 ≤ rm.frames ∧ 20000 ≤ rm.locals) (hL : L ≤ 3072) (hend : ∀ i mc1 ms1 dy1 S1, In yL_law cL_law 4 (some .boolean) rm D p l e s m a b me c A Q mc1 ms1 (k_cell D dy1 S1) (k_ad D dy1) 1223 (lwLs b0 D i) []) : ∀ (n k mc ms : Nat) (dy : Nat → Nat) (S : St), L < 6 * (k + n) → 6 * (k + n) ≤ 4000 → 15 * n ≤ mc → 800 * n ≤ ms → Inv S → In yL_law cL_law 4 (some .boolean) rm D p l e s m a b me c A Q mc ms (k_cell D dy S) (k_ad D dy) 18 (lwLs b0 D (nI (6 * k))) [] := by
  have cmp : ∀ k, 6 * k ≤ 4000 → (nI L - 6 < nI (6 * k)) = ((L : Int) - 6 < 6 * (k : Int)) := fun k hk => by
    have e1 : nI L - (6 : Int32) = iZ ((L : Int) - 6) := by
      rw [show (6 : Int32) = nI 6 from rfl, n_Z, n_Z, z_sub]; rfl
    rw [e1, n_Z, z_lt (by omega) (by omega) (by omega) (by omega)]
    apply propext
    omega
  intro n
  induction n with
  | zero =>
    intro k mc ms dy S h1 h2 h3 h4 hI
    refine i_iload_n X 0 dL_law_18 rfl rfl ?_
    refine i_aload_n X 1 dL_law_19 rfl rfl ?_
    refine i_slen X hX hb0 hbA dL_law_20 ?_
    refine i_bipush X (v := 6) dL_law_21 rfl ?_
    refine i_isub X dL_law_23 ?_
    refine i_icmp_gt X (t := 1223) dL_law_24 (by decide) (fun _ => hend _ _ _ _ _) (fun z => ?_)
    exact absurd ((cmp k (by omega)).mpr (by omega)) z
  | succ n ih =>
    intro k mc ms dy S h1 h2 h3 h4 hI
    refine i_iload_n X 0 dL_law_18 rfl rfl ?_
    refine i_aload_n X 1 dL_law_19 rfl rfl ?_
    refine i_slen X hX hb0 hbA dL_law_20 ?_
    refine i_bipush X (v := 6) dL_law_21 rfl ?_
    refine i_isub X dL_law_23 ?_
    refine i_icmp_gt X (t := 1223) dL_law_24 (by decide) (fun _ => hend _ _ _ _ _) (fun z => ?_)
    have hk : 6 * k + 6 ≤ L := by
      by_cases q : (L : Int) - 6 < 6 * (k : Int)
      · exact absurd ((cmp k (by omega)).mpr q) z
      · omega
    have hin : ∀ j, j ≤ 5 → vp_in (nI (6 * k) + nI j) L := fun j hj => by
      rw [nI_add]
      exact vpn (by omega) (by omega)
    refine i_aload_n X 1 dL_law_27 rfl rfl ?_
    refine i_iload_n X 0 dL_law_28 rfl rfl ?_
    refine i_sld X hX hb0 hbA (vpn (n := 6 * k) (by omega) (by omega)) dL_law_29 ?_
    refine i_bipush X (v := 63) dL_law_30 rfl ?_
    refine i_iand X dL_law_32 ?_
    refine lc_disp hlaw X hX hb0 hbA hrm (by omega) (by omega) hI hin _ (fun dy1 S1 mc1 ms1 g1 g2 hI1 => ?_)
    refine i_iinc X (q := 0) (v := nI (6 * (k + 1))) dL_law_1217 rfl ?_ (by decide) rfl ?_
    · show nI (6 * k) + nI 6 = _
      rw [nI_add]
      rfl
    · refine i_goto X (t := 18) dL_law_1220 (by decide) ?_
      exact ih (k + 1) mc1 ms1 dy1 S1 (by omega) (by omega) (by omega) (by omega) hI1
