noncomputable def f_X12_askOne_352 (s1 : Int32) (s2 : Int32) (S : St) : Option (St) := if k_b s1 16 = true then k_let (sA S 66 s1.toNatClampNeg s2) fun S2 => some S2 else none
noncomputable def f_X12_askOne_321 (x1 : Int32) (x2 : Int64) (S : St) : Option (St) := if (0 : Int64) ≤ x2 then if x2 ≤ (999 : Int64) then f_X12_askOne_352 x1 x2.toInt32 S else f_X12_askOne_352 x1 (999 : Int32) S else f_X12_askOne_352 x1 (0 : Int32) S
noncomputable def f_X12_askOne_315 (k195 : Int32 → Int64 → Int32 → St → Option (St)) (x1 : Int32) (x2 : Int64) (x4 : Int32) (S : St) : Option (St) := k195 x1 x2 (x4 + (1 : Int32)) S
noncomputable def f_X12_askOne_314 (k195 : Int32 → Int64 → Int32 → St → Option (St)) (x1 : Int32) (x2 : Int64) (x4 : Int32) (s1 : Int32) (s2 : Int32) (S : St) : Option (St) := if k_b s1 16 = true then k_let (sA S 67 s1.toNatClampNeg (vp_nar .boolean s2)) fun S2 => f_X12_askOne_315 k195 x1 x2 x4 S2 else none
noncomputable def f_X12_askOne_309 (k195 : Int32 → Int64 → Int32 → St → Option (St)) (x1 : Int32) (x2 : Int64) (x4 : Int32) (s1 : Int32) (S : St) : Option (St) := f_X12_askOne_314 k195 x1 x2 x4 s1 (1 : Int32) S
noncomputable def f_X12_askOne_283 (k195 : Int32 → Int64 → Int32 → St → Option (St)) (x1 : Int32) (x2 : Int64) (x4 : Int32) (x5 : Int32) (s1 : Int32) (s2 : Int32) (S : St) : Option (St) := if k_b s1 16 = true then k_let (sA S 68 s1.toNatClampNeg (vp_nar .boolean s2)) fun S2 => if k_b x1 16 = true then if (gA S2 67 x1.toNatClampNeg) = 0 then if k_b x5 5560 = true then if (gA S2 53 x5.toNatClampNeg) = (2 : Int32) then f_X12_askOne_309 k195 x1 x2 x4 x1 S2 else f_X12_askOne_314 k195 x1 x2 x4 x1 (0 : Int32) S2 else none else f_X12_askOne_309 k195 x1 x2 x4 x1 S2 else none else none
noncomputable def f_X12_askOne_278 (k195 : Int32 → Int64 → Int32 → St → Option (St)) (x1 : Int32) (x2 : Int64) (x4 : Int32) (x5 : Int32) (s1 : Int32) (S : St) : Option (St) := f_X12_askOne_283 k195 x1 x2 x4 x5 s1 (1 : Int32) S
noncomputable def f_X12_askOne_252 (k195 : Int32 → Int64 → Int32 → St → Option (St)) (x1 : Int32) (x4 : Int32) (x5 : Int32) (s0 : Int64) (S : St) : Option (St) := if k_b x1 16 = true then if (gA S 68 x1.toNatClampNeg) = 0 then if k_b x5 5560 = true then if (gA S 53 x5.toNatClampNeg) = (1 : Int32) then f_X12_askOne_278 k195 x1 s0 x4 x5 x1 S else f_X12_askOne_283 k195 x1 s0 x4 x5 x1 (0 : Int32) S else none else f_X12_askOne_278 k195 x1 s0 x4 x5 x1 S else none
noncomputable def f_X12_askOne_195 : Nat → Int32 → Int64 → Int32 → St → Option (St)
  | 0, _, _, _, _ => none
  | n + 1, x1, x2, x4, S => if k_b ((gI S 47) + (1 : Int32)) 5560 = true then if (gA S 53 ((gI S 47) + (1 : Int32)).toNatClampNeg) ≤ x4 then f_X12_askOne_321 x1 x2 S else (f_X12_isSo (((gI S 47) + (2 : Int32)) + ((8 : Int32) * x4)) S).bind fun q228 => if q228.1 = 0 then f_X12_askOne_315 (f_X12_askOne_195 n) x1 x2 x4 q228.2 else if k_b (((gI S 47) + (2 : Int32)) + ((8 : Int32) * x4)) 5560 = true then if (gA q228.2 53 (((gI S 47) + (2 : Int32)) + ((8 : Int32) * x4)).toNatClampNeg) = 0 then f_X12_askOne_252 (f_X12_askOne_195 n) x1 x4 (((gI S 47) + (2 : Int32)) + ((8 : Int32) * x4)) (gJ q228.2 2) q228.2 else f_X12_askOne_252 (f_X12_askOne_195 n) x1 x4 (((gI S 47) + (2 : Int32)) + ((8 : Int32) * x4)) x2 q228.2 else none else none
noncomputable def f_X12_askOne_184 (k146 : Int32 → Int64 → Int32 → St → Option (St)) (x1 : Int32) (x2 : Int64) (x4 : Int32) (s1 : Int32) (s2 : Int64) (s3 : Int64) (S : St) : Option (St) := if k_b s1 13 = true then k_let (sL S 64 s1.toNatClampNeg (s2 + s3)) fun S2 => k146 x1 x2 (x4 + (1 : Int32)) S2 else none
noncomputable def f_X12_askOne_146 : Nat → Int32 → Int64 → Int32 → St → Option (St)
  | 0, _, _, _, _ => none
  | n + 1, x1, x2, x4, S => (f_X12_debts S).bind fun q149 => if q149.1 ≤ x4 then f_X12_askOne_195 FU x1 x2 (0 : Int32) q149.2 else if k_b (7 : Int32) 13 = true then (f_X12_ofDebt x4 (0 : Int32) q149.2).bind fun q167 => (f_X12_ofDebt x1 (0 : Int32) q167.2).bind fun q173 => if q167.1 = q173.1 then f_X12_askOne_184 (f_X12_askOne_146 n) x1 x2 x4 (7 : Int32) (gL q149.2 64 (7 : Int32).toNatClampNeg) (1 : Int64) q173.2 else f_X12_askOne_184 (f_X12_askOne_146 n) x1 x2 x4 (7 : Int32) (gL q149.2 64 (7 : Int32).toNatClampNeg) (0 : Int64) q173.2 else none
noncomputable def f_X12_askOne (x1 : Int32) (S : St) : Option (St) := (f_X12_lengthOf x1 S).bind fun q2 => if k_b x1 16 = true then k_let (sA q2.2 67 x1.toNatClampNeg (vp_nar .boolean (0 : Int32))) fun S2 => if k_b x1 16 = true then k_let (sA S2 68 x1.toNatClampNeg (vp_nar .boolean (0 : Int32))) fun S4 => if k_b (3 : Int32) 5560 = true then if (gA S4 53 (3 : Int32).toNatClampNeg) = (-1 : Int32) then f_X12_askOne_321 x1 q2.1.toInt64 S4 else if k_b (3 : Int32) 5560 = true then k_let (sI S4 47 ((160 : Int32) + ((900 : Int32) * (gA S4 53 (3 : Int32).toNatClampNeg)))) fun S7 => (f_X12_ofDebt x1 (0 : Int32) S7).bind fun q57 => if k_b (1 : Int32) 13 = true then k_let (sL q57.2 64 (1 : Int32).toNatClampNeg q57.1.toInt64) fun S9 => (f_X12_ofDebt x1 (1 : Int32) S9).bind fun q70 => if k_b (2 : Int32) 13 = true then k_let (sL q70.2 64 (2 : Int32).toNatClampNeg q70.1.toInt64) fun S11 => (f_X12_ofDebt x1 (2 : Int32) S11).bind fun q83 => if k_b (3 : Int32) 13 = true then k_let (sL q83.2 64 (3 : Int32).toNatClampNeg q83.1.toInt64) fun S13 => (f_X12_lengthOf x1 S13).bind fun q95 => if k_b (4 : Int32) 13 = true then k_let (sL q95.2 64 (4 : Int32).toNatClampNeg q95.1.toInt64) fun S15 => (f_X12_ofDebt x1 (3 : Int32) S15).bind fun q108 => if k_b (5 : Int32) 13 = true then k_let (sL q108.2 64 (5 : Int32).toNatClampNeg q108.1.toInt64) fun S17 => if k_b (7 : Int32) 5560 = true then (f_X12_ofDebt x1 (4 : Int32) S17).bind fun q129 => if k_b (6 : Int32) 13 = true then k_let (sL q129.2 64 (6 : Int32).toNatClampNeg (((gA S17 53 (7 : Int32).toNatClampNeg) - q129.1).toInt64)) fun S20 => if k_b (7 : Int32) 13 = true then k_let (sL S20 64 (7 : Int32).toNatClampNeg (0 : Int64)) fun S22 => f_X12_askOne_146 FU x1 q2.1.toInt64 (0 : Int32) S22 else none else none else none else none else none else none else none else none else none else none else none else none
set_option maxRecDepth 100000 in
set_option maxHeartbeats 4000000 in
theorem w_X12_askOne_352 {D : k_D} {dy : Nat → Nat} (s1 : Int32) (s2 : Int32) (S : St) (out : St) (h : f_X12_askOne_352 s1 s2 S = some out) : Rn yX12_askOne cX12_askOne 6 none (k_rm 3) 0 0 D dy S (k_Pv dy out) 352 [] [.int s2, .int s1, .ref (D.2.2 66)] := by
    unfold f_X12_askOne_352 at h
    obtain ⟨c1, h⟩ := g_ite h
    refine as_66 (k_b_in c1) dX12_askOne_352 ?_
    generalize sA S 66 s1.toNatClampNeg s2 = S2 at h ⊢
    replace h := g_let h
    exact r_vret rfl dX12_askOne_353 ⟨rfl, rfl, Option.some.inj h⟩
set_option maxRecDepth 100000 in
set_option maxHeartbeats 4000000 in
theorem w_X12_askOne_321 {D : k_D} {dy : Nat → Nat} (x1 : Int32) (x2 : Int64) (S : St) (out : St) (h : f_X12_askOne_321 x1 x2 S = some out) : Rn yX12_askOne cX12_askOne 6 none (k_rm 3) 0 0 D dy S (k_Pv dy out) 321 [(0, .ref (D.2.2 51)), (1, .int x1), (2, .long x2)] [] := by
    unfold f_X12_askOne_321 at h
    refine r_aload_n 0 dX12_askOne_321 rfl rfl ?_
    refine gf_51_33 q_1344 dX12_askOne_322 ?_
    refine r_iload_n 1 dX12_askOne_325 rfl rfl ?_
    refine r_lload_n 2 dX12_askOne_326 rfl rfl ?_
    refine r_lconst (v := 0) dX12_askOne_327 rfl ?_
    refine r_lcmp dX12_askOne_328 ?_
    refine r_if_ge (t := 336) dX12_askOne_329 (by decide) (fun c => ?_) (fun c => ?_)
    · rw [if_pos (lc_ge.mp c)] at h
      refine r_lload_n 2 dX12_askOne_336 rfl rfl ?_
      refine r_ldc2 (v := 999) q_1563 dX12_askOne_337 ?_
      refine r_lcmp dX12_askOne_340 ?_
      refine r_if_le (t := 350) dX12_askOne_341 (by decide) (fun c => ?_) (fun c => ?_)
      · rw [if_pos (lc_le.mp c)] at h
        refine r_lload_n 2 dX12_askOne_350 rfl rfl ?_
        refine r_l2i dX12_askOne_351 ?_
        refine r_sub [] rfl ?_
        exact w_X12_askOne_352 _ _ _ _ h
      · rw [if_neg (fun z => c (lc_le.mpr z))] at h
        refine r_sipush (v := 999) dX12_askOne_344 rfl ?_
        refine r_goto (t := 352) dX12_askOne_347 (by decide) ?_
        refine r_sub [] rfl ?_
        exact w_X12_askOne_352 _ _ _ _ h
    · rw [if_neg (fun z => c (lc_ge.mpr z))] at h
      refine r_iconst (v := 0) dX12_askOne_332 rfl ?_
      refine r_goto (t := 352) dX12_askOne_333 (by decide) ?_
      refine r_sub [] rfl ?_
      exact w_X12_askOne_352 _ _ _ _ h
set_option maxRecDepth 100000 in
set_option maxHeartbeats 4000000 in
theorem w_X12_askOne_315 {D : k_D} {dy : Nat → Nat} {k195 : Int32 → Int64 → Int32 → St → Option (St)} (hk195 : ∀ (x1 : Int32) (x2 : Int64) (x4 : Int32) (S : St) (out : St), k195 x1 x2 x4 S = some out → Rn yX12_askOne cX12_askOne 6 none (k_rm 3) 0 0 D dy S (k_Pv dy out) 195 [(0, .ref (D.2.2 51)), (1, .int x1), (2, .long x2), (4, .int x4)] []) (x1 : Int32) (x2 : Int64) (x4 : Int32) (S : St) (out : St) (h : f_X12_askOne_315 k195 x1 x2 x4 S = some out) : Rn yX12_askOne cX12_askOne 6 none (k_rm 3) 0 0 D dy S (k_Pv dy out) 315 [(0, .ref (D.2.2 51)), (1, .int x1), (2, .long x2), (4, .int x4)] [] := by
    unfold f_X12_askOne_315 at h
    refine r_iinc (q := 3) (v := x4 + (1 : Int32)) dX12_askOne_315 rfl rfl (by decide) rfl ?_
    refine r_goto (t := 195) dX12_askOne_318 (by decide) ?_
    refine r_sub [1, 2, 3, 0] rfl ?_
    exact hk195 _ _ _ _ _ h
set_option maxRecDepth 100000 in
set_option maxHeartbeats 4000000 in
theorem w_X12_askOne_314 {D : k_D} {dy : Nat → Nat} {k195 : Int32 → Int64 → Int32 → St → Option (St)} (hk195 : ∀ (x1 : Int32) (x2 : Int64) (x4 : Int32) (S : St) (out : St), k195 x1 x2 x4 S = some out → Rn yX12_askOne cX12_askOne 6 none (k_rm 3) 0 0 D dy S (k_Pv dy out) 195 [(0, .ref (D.2.2 51)), (1, .int x1), (2, .long x2), (4, .int x4)] []) (x1 : Int32) (x2 : Int64) (x4 : Int32) (s1 : Int32) (s2 : Int32) (S : St) (out : St) (h : f_X12_askOne_314 k195 x1 x2 x4 s1 s2 S = some out) : Rn yX12_askOne cX12_askOne 6 none (k_rm 3) 0 0 D dy S (k_Pv dy out) 314 [(0, .ref (D.2.2 51)), (1, .int x1), (2, .long x2), (4, .int x4)] [.int s2, .int s1, .ref (D.2.2 67)] := by
    unfold f_X12_askOne_314 at h
    obtain ⟨c1, h⟩ := g_ite h
    refine as_67 (k_b_in c1) dX12_askOne_314 ?_
    generalize sA S 67 s1.toNatClampNeg (vp_nar .boolean s2) = S2 at h ⊢
    replace h := g_let h
    exact w_X12_askOne_315 hk195 _ _ _ _ _ h
set_option maxRecDepth 100000 in
set_option maxHeartbeats 4000000 in
theorem w_X12_askOne_309 {D : k_D} {dy : Nat → Nat} {k195 : Int32 → Int64 → Int32 → St → Option (St)} (hk195 : ∀ (x1 : Int32) (x2 : Int64) (x4 : Int32) (S : St) (out : St), k195 x1 x2 x4 S = some out → Rn yX12_askOne cX12_askOne 6 none (k_rm 3) 0 0 D dy S (k_Pv dy out) 195 [(0, .ref (D.2.2 51)), (1, .int x1), (2, .long x2), (4, .int x4)] []) (x1 : Int32) (x2 : Int64) (x4 : Int32) (s1 : Int32) (S : St) (out : St) (h : f_X12_askOne_309 k195 x1 x2 x4 s1 S = some out) : Rn yX12_askOne cX12_askOne 6 none (k_rm 3) 0 0 D dy S (k_Pv dy out) 309 [(0, .ref (D.2.2 51)), (1, .int x1), (2, .long x2), (4, .int x4)] [.int s1, .ref (D.2.2 67)] := by
    unfold f_X12_askOne_309 at h
    refine r_iconst (v := 1) dX12_askOne_309 rfl ?_
    refine r_goto (t := 314) dX12_askOne_310 (by decide) ?_
    exact w_X12_askOne_314 hk195 _ _ _ _ _ _ _ h
set_option maxRecDepth 100000 in
set_option maxHeartbeats 4000000 in
theorem w_X12_askOne_283 {D : k_D} {dy : Nat → Nat} {k195 : Int32 → Int64 → Int32 → St → Option (St)} (hk195 : ∀ (x1 : Int32) (x2 : Int64) (x4 : Int32) (S : St) (out : St), k195 x1 x2 x4 S = some out → Rn yX12_askOne cX12_askOne 6 none (k_rm 3) 0 0 D dy S (k_Pv dy out) 195 [(0, .ref (D.2.2 51)), (1, .int x1), (2, .long x2), (4, .int x4)] []) (x1 : Int32) (x2 : Int64) (x4 : Int32) (x5 : Int32) (s1 : Int32) (s2 : Int32) (S : St) (out : St) (h : f_X12_askOne_283 k195 x1 x2 x4 x5 s1 s2 S = some out) : Rn yX12_askOne cX12_askOne 6 none (k_rm 3) 0 0 D dy S (k_Pv dy out) 283 [(0, .ref (D.2.2 51)), (1, .int x1), (2, .long x2), (4, .int x4), (5, .int x5)] [.int s2, .int s1, .ref (D.2.2 68)] := by
    unfold f_X12_askOne_283 at h
    obtain ⟨c1, h⟩ := g_ite h
    refine as_68 (k_b_in c1) dX12_askOne_283 ?_
    generalize sA S 68 s1.toNatClampNeg (vp_nar .boolean s2) = S2 at h ⊢
    replace h := g_let h
    refine r_aload_n 0 dX12_askOne_284 rfl rfl ?_
    refine gf_51_34 q_1345 dX12_askOne_285 ?_
    refine r_iload_n 1 dX12_askOne_288 rfl rfl ?_
    refine r_aload_n 0 dX12_askOne_289 rfl rfl ?_
    refine gf_51_34 q_1345 dX12_askOne_290 ?_
    refine r_iload_n 1 dX12_askOne_293 rfl rfl ?_
    obtain ⟨c3, h⟩ := g_ite h
    refine al_67 (k_b_in c3) dX12_askOne_294 ?_
    refine r_if_ne (t := 309) dX12_askOne_295 (by decide) (fun c => ?_) (fun c => ?_)
    · rw [if_neg c] at h
      refine r_sub [0, 1, 2, 3] rfl ?_
      exact w_X12_askOne_309 hk195 _ _ _ _ _ _ h
    · rw [if_pos c] at h
      refine r_aload_n 0 dX12_askOne_298 rfl rfl ?_
      refine gf_51_3 q_1314 dX12_askOne_299 ?_
      refine r_iload 4 dX12_askOne_302 rfl ?_
      obtain ⟨c4, h⟩ := g_ite h
      refine al_53 (k_b_in c4) dX12_askOne_304 ?_
      refine r_iconst (v := 2) dX12_askOne_305 rfl ?_
      refine r_icmp_ne (t := 313) dX12_askOne_306 (by decide) (fun c => ?_) (fun c => ?_)
      · rw [if_neg c] at h
        refine r_iconst (v := 0) dX12_askOne_313 rfl ?_
        refine r_sub [0, 1, 2, 3] rfl ?_
        exact w_X12_askOne_314 hk195 _ _ _ _ _ _ _ h
      · rw [if_pos c] at h
        refine r_sub [0, 1, 2, 3] rfl ?_
        exact w_X12_askOne_309 hk195 _ _ _ _ _ _ h
set_option maxRecDepth 100000 in
set_option maxHeartbeats 4000000 in
theorem w_X12_askOne_278 {D : k_D} {dy : Nat → Nat} {k195 : Int32 → Int64 → Int32 → St → Option (St)} (hk195 : ∀ (x1 : Int32) (x2 : Int64) (x4 : Int32) (S : St) (out : St), k195 x1 x2 x4 S = some out → Rn yX12_askOne cX12_askOne 6 none (k_rm 3) 0 0 D dy S (k_Pv dy out) 195 [(0, .ref (D.2.2 51)), (1, .int x1), (2, .long x2), (4, .int x4)] []) (x1 : Int32) (x2 : Int64) (x4 : Int32) (x5 : Int32) (s1 : Int32) (S : St) (out : St) (h : f_X12_askOne_278 k195 x1 x2 x4 x5 s1 S = some out) : Rn yX12_askOne cX12_askOne 6 none (k_rm 3) 0 0 D dy S (k_Pv dy out) 278 [(0, .ref (D.2.2 51)), (1, .int x1), (2, .long x2), (4, .int x4), (5, .int x5)] [.int s1, .ref (D.2.2 68)] := by
    unfold f_X12_askOne_278 at h
    refine r_iconst (v := 1) dX12_askOne_278 rfl ?_
    refine r_goto (t := 283) dX12_askOne_279 (by decide) ?_
    exact w_X12_askOne_283 hk195 _ _ _ _ _ _ _ _ h
set_option maxRecDepth 100000 in
set_option maxHeartbeats 4000000 in
theorem w_X12_askOne_252 {D : k_D} {dy : Nat → Nat} {k195 : Int32 → Int64 → Int32 → St → Option (St)} (hk195 : ∀ (x1 : Int32) (x2 : Int64) (x4 : Int32) (S : St) (out : St), k195 x1 x2 x4 S = some out → Rn yX12_askOne cX12_askOne 6 none (k_rm 3) 0 0 D dy S (k_Pv dy out) 195 [(0, .ref (D.2.2 51)), (1, .int x1), (2, .long x2), (4, .int x4)] []) (x1 : Int32) (x4 : Int32) (x5 : Int32) (s0 : Int64) (S : St) (out : St) (h : f_X12_askOne_252 k195 x1 x4 x5 s0 S = some out) : Rn yX12_askOne cX12_askOne 6 none (k_rm 3) 0 0 D dy S (k_Pv dy out) 252 [(0, .ref (D.2.2 51)), (1, .int x1), (4, .int x4), (5, .int x5)] [.long s0] := by
    unfold f_X12_askOne_252 at h
    refine r_lstore_n dX12_askOne_252 rfl (by decide) rfl ?_
    refine r_aload_n 1 dX12_askOne_253 rfl rfl ?_
    refine gf_51_35 q_1346 dX12_askOne_254 ?_
    refine r_iload_n 2 dX12_askOne_257 rfl rfl ?_
    refine r_aload_n 1 dX12_askOne_258 rfl rfl ?_
    refine gf_51_35 q_1346 dX12_askOne_259 ?_
    refine r_iload_n 2 dX12_askOne_262 rfl rfl ?_
    obtain ⟨c1, h⟩ := g_ite h
    refine al_68 (k_b_in c1) dX12_askOne_263 ?_
    refine r_if_ne (t := 278) dX12_askOne_264 (by decide) (fun c => ?_) (fun c => ?_)
    · rw [if_neg c] at h
      refine r_sub [1, 2, 0, 3, 4] rfl ?_
      exact w_X12_askOne_278 hk195 _ _ _ _ _ _ _ h
    · rw [if_pos c] at h
      refine r_aload_n 1 dX12_askOne_267 rfl rfl ?_
      refine gf_51_3 q_1314 dX12_askOne_268 ?_
      refine r_iload 4 dX12_askOne_271 rfl ?_
      obtain ⟨c2, h⟩ := g_ite h
      refine al_53 (k_b_in c2) dX12_askOne_273 ?_
      refine r_iconst (v := 1) dX12_askOne_274 rfl ?_
      refine r_icmp_ne (t := 282) dX12_askOne_275 (by decide) (fun c => ?_) (fun c => ?_)
      · rw [if_neg c] at h
        refine r_iconst (v := 0) dX12_askOne_282 rfl ?_
        refine r_sub [1, 2, 0, 3, 4] rfl ?_
        exact w_X12_askOne_283 hk195 _ _ _ _ _ _ _ _ h
      · rw [if_pos c] at h
        refine r_sub [1, 2, 0, 3, 4] rfl ?_
        exact w_X12_askOne_278 hk195 _ _ _ _ _ _ _ h
set_option maxRecDepth 100000 in
set_option maxHeartbeats 4000000 in
theorem w_X12_askOne_195 {D : k_D} {dy : Nat → Nat} : ∀ (n : Nat) (x1 : Int32) (x2 : Int64) (x4 : Int32) (S : St) (out : St), f_X12_askOne_195 n x1 x2 x4 S = some out → Rn yX12_askOne cX12_askOne 6 none (k_rm 3) 0 0 D dy S (k_Pv dy out) 195 [(0, .ref (D.2.2 51)), (1, .int x1), (2, .long x2), (4, .int x4)] [] := by
  intro n
  induction n with
  | zero => intro x1 x2 x4 S out h; cases h
  | succ n ih =>
    intro x1 x2 x4 S out h
    rw [f_X12_askOne_195] at h
    refine r_iload 3 dX12_askOne_195 rfl ?_
    refine r_aload_n 0 dX12_askOne_197 rfl rfl ?_
    refine gf_51_3 q_1314 dX12_askOne_198 ?_
    refine r_aload_n 0 dX12_askOne_201 rfl rfl ?_
    refine gf_51_27 q_1338 dX12_askOne_202 ?_
    refine r_iconst (v := 1) dX12_askOne_205 rfl ?_
    refine r_iadd dX12_askOne_206 ?_
    obtain ⟨c1, h⟩ := g_ite h
    refine al_53 (k_b_in c1) dX12_askOne_207 ?_
    refine r_icmp_ge (t := 321) dX12_askOne_208 (by decide) (fun c => ?_) (fun c => ?_)
    · rw [if_pos c] at h
      refine r_sub [0, 1, 2] rfl ?_
      exact w_X12_askOne_321 _ _ _ _ h
    · rw [if_neg c] at h
      refine r_aload_n 0 dX12_askOne_211 rfl rfl ?_
      refine gf_51_27 q_1338 dX12_askOne_212 ?_
      refine r_iconst (v := 2) dX12_askOne_215 rfl ?_
      refine r_iadd dX12_askOne_216 ?_
      refine r_bipush (v := 8) dX12_askOne_217 rfl ?_
      refine r_iload 3 dX12_askOne_219 rfl ?_
      refine r_imul dX12_askOne_221 ?_
      refine r_iadd dX12_askOne_222 ?_
      refine r_istore dX12_askOne_223 (by decide) rfl ?_
      refine r_aload_n 1 dX12_askOne_225 rfl rfl ?_
      refine r_iload 0 dX12_askOne_226 rfl ?_
      obtain ⟨q228, hq228, h⟩ := g_bind h
      refine r_callVi [.int (((gI S 47) + (2 : Int32)) + ((8 : Int32) * x4))] [] q228 (ok_X12_isSo hq228) q_1549 q_1551 q_98 q_1552 q_153 hd_X12_isSo (ce_51 D dy _) kc12.1 rfl ⟨Nat.le_of_ble_eq_true rfl, Nat.le_of_ble_eq_true rfl⟩ rfl rfl (Nat.le_of_ble_eq_true rfl) dX12_askOne_228 ?_
      refine r_if_eq (t := 315) dX12_askOne_231 (by decide) (fun c => ?_) (fun c => ?_)
      · rw [if_pos c] at h
        refine r_sub [1, 2, 3, 4] rfl ?_
        exact w_X12_askOne_315 ih _ _ _ _ _ h
      · rw [if_neg c] at h
        refine r_aload_n 1 dX12_askOne_234 rfl rfl ?_
        refine gf_51_3 q_1314 dX12_askOne_235 ?_
        refine r_iload 0 dX12_askOne_238 rfl ?_
        obtain ⟨c2, h⟩ := g_ite h
        refine al_53 (k_b_in c2) dX12_askOne_240 ?_
        refine r_if_ne (t := 251) dX12_askOne_241 (by decide) (fun c => ?_) (fun c => ?_)
        · rw [if_neg c] at h
          refine r_lload_n 3 dX12_askOne_251 rfl rfl ?_
          refine r_sub [1, 2, 4, 0] rfl ?_
          exact w_X12_askOne_252 ih _ _ _ _ _ _ h
        · rw [if_pos c] at h
          refine r_aload_n 1 dX12_askOne_244 rfl rfl ?_
          refine gf_51_32 q_1343 dX12_askOne_245 ?_
          refine r_goto (t := 252) dX12_askOne_248 (by decide) ?_
          refine r_sub [1, 2, 4, 0] rfl ?_
          exact w_X12_askOne_252 ih _ _ _ _ _ _ h
set_option maxRecDepth 100000 in
set_option maxHeartbeats 4000000 in
theorem w_X12_askOne_184 {D : k_D} {dy : Nat → Nat} {k146 : Int32 → Int64 → Int32 → St → Option (St)} (hk146 : ∀ (x1 : Int32) (x2 : Int64) (x4 : Int32) (S : St) (out : St), k146 x1 x2 x4 S = some out → Rn yX12_askOne cX12_askOne 6 none (k_rm 3) 0 0 D dy S (k_Pv dy out) 146 [(0, .ref (D.2.2 51)), (1, .int x1), (2, .long x2), (4, .int x4)] []) (x1 : Int32) (x2 : Int64) (x4 : Int32) (s1 : Int32) (s2 : Int64) (s3 : Int64) (S : St) (out : St) (h : f_X12_askOne_184 k146 x1 x2 x4 s1 s2 s3 S = some out) : Rn yX12_askOne cX12_askOne 6 none (k_rm 3) 0 0 D dy S (k_Pv dy out) 184 [(0, .ref (D.2.2 51)), (1, .int x1), (2, .long x2), (4, .int x4)] [.long s3, .long s2, .int s1, .ref (D.2.2 64)] := by
    unfold f_X12_askOne_184 at h
    refine r_ladd dX12_askOne_184 ?_
    obtain ⟨c1, h⟩ := g_ite h
    refine as_64 (k_b_in c1) dX12_askOne_185 ?_
    generalize sL S 64 s1.toNatClampNeg (s2 + s3) = S2 at h ⊢
    replace h := g_let h
    refine r_iinc (q := 3) (v := x4 + (1 : Int32)) dX12_askOne_186 rfl rfl (by decide) rfl ?_
    refine r_goto (t := 146) dX12_askOne_189 (by decide) ?_
    refine r_sub [1, 2, 3, 0] rfl ?_
    exact hk146 _ _ _ _ _ h
set_option maxRecDepth 100000 in
set_option maxHeartbeats 4000000 in
theorem w_X12_askOne_146 {D : k_D} {dy : Nat → Nat} : ∀ (n : Nat) (x1 : Int32) (x2 : Int64) (x4 : Int32) (S : St) (out : St), f_X12_askOne_146 n x1 x2 x4 S = some out → Rn yX12_askOne cX12_askOne 6 none (k_rm 3) 0 0 D dy S (k_Pv dy out) 146 [(0, .ref (D.2.2 51)), (1, .int x1), (2, .long x2), (4, .int x4)] [] := by
  intro n
  induction n with
  | zero => intro x1 x2 x4 S out h; cases h
  | succ n ih =>
    intro x1 x2 x4 S out h
    rw [f_X12_askOne_146] at h
    refine r_iload 3 dX12_askOne_146 rfl ?_
    refine r_aload_n 0 dX12_askOne_148 rfl rfl ?_
    obtain ⟨q149, hq149, h⟩ := g_bind h
    refine r_callVi [] [.int x4] q149 (ok_X12_debts hq149) q_1517 q_1519 q_91 q_1520 q_153 hd_X12_debts (ce_51 D dy _) kc12.1 rfl ⟨Nat.le_of_ble_eq_true rfl, Nat.le_of_ble_eq_true rfl⟩ rfl rfl (Nat.le_of_ble_eq_true rfl) dX12_askOne_149 ?_
    refine r_icmp_ge (t := 192) dX12_askOne_152 (by decide) (fun c => ?_) (fun c => ?_)
    · rw [if_pos c] at h
      refine r_iconst (v := 0) dX12_askOne_192 rfl ?_
      refine r_istore dX12_askOne_193 (by decide) rfl ?_
      refine r_sub [1, 2, 3, 0] rfl ?_
      exact w_X12_askOne_195 _ _ _ _ _ _ h
    · rw [if_neg c] at h
      refine r_aload_n 0 dX12_askOne_155 rfl rfl ?_
      refine gf_51_28 q_1339 dX12_askOne_156 ?_
      refine r_bipush (v := 7) dX12_askOne_159 rfl ?_
      refine r_dup2 dX12_askOne_161 rfl rfl ?_
      obtain ⟨c1, h⟩ := g_ite h
      refine al_64 (k_b_in c1) dX12_askOne_162 ?_
      refine r_aload_n 0 dX12_askOne_163 rfl rfl ?_
      refine r_iload 3 dX12_askOne_164 rfl ?_
      refine r_iconst (v := 0) dX12_askOne_166 rfl ?_
      obtain ⟨q167, hq167, h⟩ := g_bind h
      refine r_callVi [.int x4, .int (0 : Int32)] [.long (gL q149.2 64 (7 : Int32).toNatClampNeg), .int (7 : Int32), .ref (D.2.2 64)] q167 (ok_X12_ofDebt hq167) q_1533 q_1535 q_94 q_1536 q_153 hd_X12_ofDebt (ce_51 D dy _) kc12.1 rfl ⟨Nat.le_of_ble_eq_true rfl, Nat.le_of_ble_eq_true rfl⟩ rfl rfl (Nat.le_of_ble_eq_true rfl) dX12_askOne_167 ?_
      refine r_aload_n 0 dX12_askOne_170 rfl rfl ?_
      refine r_iload_n 1 dX12_askOne_171 rfl rfl ?_
      refine r_iconst (v := 0) dX12_askOne_172 rfl ?_
      obtain ⟨q173, hq173, h⟩ := g_bind h
      refine r_callVi [.int x1, .int (0 : Int32)] [.int q167.1, .long (gL q149.2 64 (7 : Int32).toNatClampNeg), .int (7 : Int32), .ref (D.2.2 64)] q173 (ok_X12_ofDebt hq173) q_1533 q_1535 q_94 q_1536 q_153 hd_X12_ofDebt (ce_51 D dy _) kc12.1 rfl ⟨Nat.le_of_ble_eq_true rfl, Nat.le_of_ble_eq_true rfl⟩ rfl rfl (Nat.le_of_ble_eq_true rfl) dX12_askOne_173 ?_
      refine r_icmp_ne (t := 183) dX12_askOne_176 (by decide) (fun c => ?_) (fun c => ?_)
      · rw [if_neg c] at h
        refine r_lconst (v := 0) dX12_askOne_183 rfl ?_
        exact w_X12_askOne_184 ih _ _ _ _ _ _ _ _ h
      · rw [if_pos c] at h
        refine r_lconst (v := 1) dX12_askOne_179 rfl ?_
        refine r_goto (t := 184) dX12_askOne_180 (by decide) ?_
        exact w_X12_askOne_184 ih _ _ _ _ _ _ _ _ h
set_option maxRecDepth 100000 in
set_option maxHeartbeats 4000000 in
theorem w_X12_askOne_0 {D : k_D} {dy : Nat → Nat} (x1 : Int32) (S : St) (out : St) (h : f_X12_askOne x1 S = some out) : Rn yX12_askOne cX12_askOne 6 none (k_rm 3) 0 0 D dy S (k_Pv dy out) 0 [(0, .ref (D.2.2 51)), (1, .int x1)] [] := by
    unfold f_X12_askOne at h
    refine r_aload_n 0 dX12_askOne_0 rfl rfl ?_
    refine r_iload_n 1 dX12_askOne_1 rfl rfl ?_
    obtain ⟨q2, hq2, h⟩ := g_bind h
    refine r_callVi [.int x1] [] q2 (ok_X12_lengthOf hq2) q_1545 q_1547 q_97 q_1548 q_153 hd_X12_lengthOf (ce_51 D dy _) kc12.1 rfl ⟨Nat.le_of_ble_eq_true rfl, Nat.le_of_ble_eq_true rfl⟩ rfl rfl (Nat.le_of_ble_eq_true rfl) dX12_askOne_2 ?_
    refine r_i2l dX12_askOne_5 ?_
    refine r_lstore_n dX12_askOne_6 rfl (by decide) rfl ?_
    refine r_aload_n 1 dX12_askOne_7 rfl rfl ?_
    refine gf_51_34 q_1345 dX12_askOne_8 ?_
    refine r_iload_n 2 dX12_askOne_11 rfl rfl ?_
    refine r_iconst (v := 0) dX12_askOne_12 rfl ?_
    obtain ⟨c1, h⟩ := g_ite h
    refine as_67 (k_b_in c1) dX12_askOne_13 ?_
    generalize sA q2.2 67 x1.toNatClampNeg (vp_nar .boolean (0 : Int32)) = S2 at h ⊢
    replace h := g_let h
    refine r_aload_n 1 dX12_askOne_14 rfl rfl ?_
    refine gf_51_35 q_1346 dX12_askOne_15 ?_
    refine r_iload_n 2 dX12_askOne_18 rfl rfl ?_
    refine r_iconst (v := 0) dX12_askOne_19 rfl ?_
    obtain ⟨c3, h⟩ := g_ite h
    refine as_68 (k_b_in c3) dX12_askOne_20 ?_
    generalize sA S2 68 x1.toNatClampNeg (vp_nar .boolean (0 : Int32)) = S4 at h ⊢
    replace h := g_let h
    refine r_aload_n 1 dX12_askOne_21 rfl rfl ?_
    refine gf_51_3 q_1314 dX12_askOne_22 ?_
    refine r_iconst (v := 3) dX12_askOne_25 rfl ?_
    obtain ⟨c5, h⟩ := g_ite h
    refine al_53 (k_b_in c5) dX12_askOne_26 ?_
    refine r_iconst (v := -1) dX12_askOne_27 rfl ?_
    refine r_icmp_eq (t := 321) dX12_askOne_28 (by decide) (fun c => ?_) (fun c => ?_)
    · rw [if_pos c] at h
      refine r_sub [1, 2, 0] rfl ?_
      exact w_X12_askOne_321 _ _ _ _ h
    · rw [if_neg c] at h
      refine r_aload_n 1 dX12_askOne_31 rfl rfl ?_
      refine r_sipush (v := 160) dX12_askOne_32 rfl ?_
      refine r_sipush (v := 900) dX12_askOne_35 rfl ?_
      refine r_aload_n 1 dX12_askOne_38 rfl rfl ?_
      refine gf_51_3 q_1314 dX12_askOne_39 ?_
      refine r_iconst (v := 3) dX12_askOne_42 rfl ?_
      obtain ⟨c6, h⟩ := g_ite h
      refine al_53 (k_b_in c6) dX12_askOne_43 ?_
      refine r_imul dX12_askOne_44 ?_
      refine r_iadd dX12_askOne_45 ?_
      refine pf_51_27 q_1338 dX12_askOne_46 ?_
      generalize sI S4 47 ((160 : Int32) + ((900 : Int32) * (gA S4 53 (3 : Int32).toNatClampNeg))) = S7 at h ⊢
      replace h := g_let h
      refine r_aload_n 1 dX12_askOne_49 rfl rfl ?_
      refine gf_51_28 q_1339 dX12_askOne_50 ?_
      refine r_iconst (v := 1) dX12_askOne_53 rfl ?_
      refine r_aload_n 1 dX12_askOne_54 rfl rfl ?_
      refine r_iload_n 2 dX12_askOne_55 rfl rfl ?_
      refine r_iconst (v := 0) dX12_askOne_56 rfl ?_
      obtain ⟨q57, hq57, h⟩ := g_bind h
      refine r_callVi [.int x1, .int (0 : Int32)] [.int (1 : Int32), .ref (D.2.2 64)] q57 (ok_X12_ofDebt hq57) q_1533 q_1535 q_94 q_1536 q_153 hd_X12_ofDebt (ce_51 D dy _) kc12.1 rfl ⟨Nat.le_of_ble_eq_true rfl, Nat.le_of_ble_eq_true rfl⟩ rfl rfl (Nat.le_of_ble_eq_true rfl) dX12_askOne_57 ?_
      refine r_i2l dX12_askOne_60 ?_
      obtain ⟨c8, h⟩ := g_ite h
      refine as_64 (k_b_in c8) dX12_askOne_61 ?_
      generalize sL q57.2 64 (1 : Int32).toNatClampNeg q57.1.toInt64 = S9 at h ⊢
      replace h := g_let h
      refine r_aload_n 1 dX12_askOne_62 rfl rfl ?_
      refine gf_51_28 q_1339 dX12_askOne_63 ?_
      refine r_iconst (v := 2) dX12_askOne_66 rfl ?_
      refine r_aload_n 1 dX12_askOne_67 rfl rfl ?_
      refine r_iload_n 2 dX12_askOne_68 rfl rfl ?_
      refine r_iconst (v := 1) dX12_askOne_69 rfl ?_
      obtain ⟨q70, hq70, h⟩ := g_bind h
      refine r_callVi [.int x1, .int (1 : Int32)] [.int (2 : Int32), .ref (D.2.2 64)] q70 (ok_X12_ofDebt hq70) q_1533 q_1535 q_94 q_1536 q_153 hd_X12_ofDebt (ce_51 D dy _) kc12.1 rfl ⟨Nat.le_of_ble_eq_true rfl, Nat.le_of_ble_eq_true rfl⟩ rfl rfl (Nat.le_of_ble_eq_true rfl) dX12_askOne_70 ?_
      refine r_i2l dX12_askOne_73 ?_
      obtain ⟨c10, h⟩ := g_ite h
      refine as_64 (k_b_in c10) dX12_askOne_74 ?_
      generalize sL q70.2 64 (2 : Int32).toNatClampNeg q70.1.toInt64 = S11 at h ⊢
      replace h := g_let h
      refine r_aload_n 1 dX12_askOne_75 rfl rfl ?_
      refine gf_51_28 q_1339 dX12_askOne_76 ?_
      refine r_iconst (v := 3) dX12_askOne_79 rfl ?_
      refine r_aload_n 1 dX12_askOne_80 rfl rfl ?_
      refine r_iload_n 2 dX12_askOne_81 rfl rfl ?_
      refine r_iconst (v := 2) dX12_askOne_82 rfl ?_
      obtain ⟨q83, hq83, h⟩ := g_bind h
      refine r_callVi [.int x1, .int (2 : Int32)] [.int (3 : Int32), .ref (D.2.2 64)] q83 (ok_X12_ofDebt hq83) q_1533 q_1535 q_94 q_1536 q_153 hd_X12_ofDebt (ce_51 D dy _) kc12.1 rfl ⟨Nat.le_of_ble_eq_true rfl, Nat.le_of_ble_eq_true rfl⟩ rfl rfl (Nat.le_of_ble_eq_true rfl) dX12_askOne_83 ?_
      refine r_i2l dX12_askOne_86 ?_
      obtain ⟨c12, h⟩ := g_ite h
      refine as_64 (k_b_in c12) dX12_askOne_87 ?_
      generalize sL q83.2 64 (3 : Int32).toNatClampNeg q83.1.toInt64 = S13 at h ⊢
      replace h := g_let h
      refine r_aload_n 1 dX12_askOne_88 rfl rfl ?_
      refine gf_51_28 q_1339 dX12_askOne_89 ?_
      refine r_iconst (v := 4) dX12_askOne_92 rfl ?_
      refine r_aload_n 1 dX12_askOne_93 rfl rfl ?_
      refine r_iload_n 2 dX12_askOne_94 rfl rfl ?_
      obtain ⟨q95, hq95, h⟩ := g_bind h
      refine r_callVi [.int x1] [.int (4 : Int32), .ref (D.2.2 64)] q95 (ok_X12_lengthOf hq95) q_1545 q_1547 q_97 q_1548 q_153 hd_X12_lengthOf (ce_51 D dy _) kc12.1 rfl ⟨Nat.le_of_ble_eq_true rfl, Nat.le_of_ble_eq_true rfl⟩ rfl rfl (Nat.le_of_ble_eq_true rfl) dX12_askOne_95 ?_
      refine r_i2l dX12_askOne_98 ?_
      obtain ⟨c14, h⟩ := g_ite h
      refine as_64 (k_b_in c14) dX12_askOne_99 ?_
      generalize sL q95.2 64 (4 : Int32).toNatClampNeg q95.1.toInt64 = S15 at h ⊢
      replace h := g_let h
      refine r_aload_n 1 dX12_askOne_100 rfl rfl ?_
      refine gf_51_28 q_1339 dX12_askOne_101 ?_
      refine r_iconst (v := 5) dX12_askOne_104 rfl ?_
      refine r_aload_n 1 dX12_askOne_105 rfl rfl ?_
      refine r_iload_n 2 dX12_askOne_106 rfl rfl ?_
      refine r_iconst (v := 3) dX12_askOne_107 rfl ?_
      obtain ⟨q108, hq108, h⟩ := g_bind h
      refine r_callVi [.int x1, .int (3 : Int32)] [.int (5 : Int32), .ref (D.2.2 64)] q108 (ok_X12_ofDebt hq108) q_1533 q_1535 q_94 q_1536 q_153 hd_X12_ofDebt (ce_51 D dy _) kc12.1 rfl ⟨Nat.le_of_ble_eq_true rfl, Nat.le_of_ble_eq_true rfl⟩ rfl rfl (Nat.le_of_ble_eq_true rfl) dX12_askOne_108 ?_
      refine r_i2l dX12_askOne_111 ?_
      obtain ⟨c16, h⟩ := g_ite h
      refine as_64 (k_b_in c16) dX12_askOne_112 ?_
      generalize sL q108.2 64 (5 : Int32).toNatClampNeg q108.1.toInt64 = S17 at h ⊢
      replace h := g_let h
      refine r_aload_n 1 dX12_askOne_113 rfl rfl ?_
      refine gf_51_28 q_1339 dX12_askOne_114 ?_
      refine r_bipush (v := 6) dX12_askOne_117 rfl ?_
      refine r_aload_n 1 dX12_askOne_119 rfl rfl ?_
      refine gf_51_3 q_1314 dX12_askOne_120 ?_
      refine r_bipush (v := 7) dX12_askOne_123 rfl ?_
      obtain ⟨c18, h⟩ := g_ite h
      refine al_53 (k_b_in c18) dX12_askOne_125 ?_
      refine r_aload_n 1 dX12_askOne_126 rfl rfl ?_
      refine r_iload_n 2 dX12_askOne_127 rfl rfl ?_
      refine r_iconst (v := 4) dX12_askOne_128 rfl ?_
      obtain ⟨q129, hq129, h⟩ := g_bind h
      refine r_callVi [.int x1, .int (4 : Int32)] [.int (gA S17 53 (7 : Int32).toNatClampNeg), .int (6 : Int32), .ref (D.2.2 64)] q129 (ok_X12_ofDebt hq129) q_1533 q_1535 q_94 q_1536 q_153 hd_X12_ofDebt (ce_51 D dy _) kc12.1 rfl ⟨Nat.le_of_ble_eq_true rfl, Nat.le_of_ble_eq_true rfl⟩ rfl rfl (Nat.le_of_ble_eq_true rfl) dX12_askOne_129 ?_
      refine r_isub dX12_askOne_132 ?_
      refine r_i2l dX12_askOne_133 ?_
      obtain ⟨c19, h⟩ := g_ite h
      refine as_64 (k_b_in c19) dX12_askOne_134 ?_
      generalize sL q129.2 64 (6 : Int32).toNatClampNeg (((gA S17 53 (7 : Int32).toNatClampNeg) - q129.1).toInt64) = S20 at h ⊢
      replace h := g_let h
      refine r_aload_n 1 dX12_askOne_135 rfl rfl ?_
      refine gf_51_28 q_1339 dX12_askOne_136 ?_
      refine r_bipush (v := 7) dX12_askOne_139 rfl ?_
      refine r_lconst (v := 0) dX12_askOne_141 rfl ?_
      obtain ⟨c21, h⟩ := g_ite h
      refine as_64 (k_b_in c21) dX12_askOne_142 ?_
      generalize sL S20 64 (7 : Int32).toNatClampNeg (0 : Int64) = S22 at h ⊢
      replace h := g_let h
      refine r_iconst (v := 0) dX12_askOne_143 rfl ?_
      refine r_istore dX12_askOne_144 (by decide) rfl ?_
      refine r_sub [2, 3, 1, 0] rfl ?_
      exact w_X12_askOne_146 _ _ _ _ _ _ h
theorem ok_X12_askOne {D : k_D} {dy : Nat → Nat} {x1 : Int32} {S : St} {out : St} (h : f_X12_askOne x1 S = some out) : Sp yX12_askOne cX12_askOne 6 none (k_rm 3) D dy S [.ref (D.2.2 51), .int x1] (k_Pv dy out) := Sp.of (by decide +kernel) (Nat.le_of_ble_eq_true rfl) (w_X12_askOne_0 _ S out h)
noncomputable def f_X12_askAll_2 : Nat → Int32 → St → Option (St)
  | 0, _, _ => none
  | n + 1, x1, S => (f_X12_debts S).bind fun q4 => if q4.1 ≤ x1 then some q4.2 else (f_X12_askOne x1 q4.2).bind fun q12 => f_X12_askAll_2 n (x1 + (1 : Int32)) q12
noncomputable def f_X12_askAll (S : St) : Option (St) := f_X12_askAll_2 FU (0 : Int32) S
set_option maxRecDepth 100000 in
set_option maxHeartbeats 4000000 in
theorem w_X12_askAll_2 {D : k_D} {dy : Nat → Nat} : ∀ (n : Nat) (x1 : Int32) (S : St) (out : St), f_X12_askAll_2 n x1 S = some out → Rn yX12_askAll cX12_askAll 2 none (k_rm 4) 0 0 D dy S (k_Pv dy out) 2 [(0, .ref (D.2.2 51)), (1, .int x1)] [] := by
  intro n
  induction n with
  | zero => intro x1 S out h; cases h
  | succ n ih =>
    intro x1 S out h
    rw [f_X12_askAll_2] at h
    refine r_iload_n 1 dX12_askAll_2 rfl rfl ?_
    refine r_aload_n 0 dX12_askAll_3 rfl rfl ?_
    obtain ⟨q4, hq4, h⟩ := g_bind h
    refine r_callVi [] [.int x1] q4 (ok_X12_debts hq4) q_1517 q_1519 q_91 q_1520 q_153 hd_X12_debts (ce_51 D dy _) kc12.1 rfl ⟨Nat.le_of_ble_eq_true rfl, Nat.le_of_ble_eq_true rfl⟩ rfl rfl (Nat.le_of_ble_eq_true rfl) dX12_askAll_4 ?_
    refine r_icmp_ge (t := 21) dX12_askAll_7 (by decide) (fun c => ?_) (fun c => ?_)
    · rw [if_pos c] at h
      exact r_vret rfl dX12_askAll_21 ⟨rfl, rfl, Option.some.inj h⟩
    · rw [if_neg c] at h
      refine r_aload_n 0 dX12_askAll_10 rfl rfl ?_
      refine r_iload_n 1 dX12_askAll_11 rfl rfl ?_
      obtain ⟨q12, hq12, h⟩ := g_bind h
      refine r_callVv [.int x1] [] q12 (ok_X12_askOne hq12) q_1541 q_1543 q_96 q_1544 q_153 hd_X12_askOne (ce_51 D dy _) kc12.1 rfl ⟨Nat.le_of_ble_eq_true rfl, Nat.le_of_ble_eq_true rfl⟩ rfl rfl (Nat.le_of_ble_eq_true rfl) dX12_askAll_12 ?_
      refine r_iinc (q := 1) (v := x1 + (1 : Int32)) dX12_askAll_15 rfl rfl (by decide) rfl ?_
      refine r_goto (t := 2) dX12_askAll_18 (by decide) ?_
      refine r_sub [1, 0] rfl ?_
      exact ih _ _ _ h
set_option maxRecDepth 100000 in
set_option maxHeartbeats 4000000 in
theorem w_X12_askAll_0 {D : k_D} {dy : Nat → Nat} (S : St) (out : St) (h : f_X12_askAll S = some out) : Rn yX12_askAll cX12_askAll 2 none (k_rm 4) 0 0 D dy S (k_Pv dy out) 0 [(0, .ref (D.2.2 51))] [] := by
    unfold f_X12_askAll at h
    refine r_iconst (v := 0) dX12_askAll_0 rfl ?_
    refine r_istore_n dX12_askAll_1 rfl (by decide) rfl ?_
    refine r_sub [1, 0] rfl ?_
    exact w_X12_askAll_2 _ _ _ _ h
theorem ok_X12_askAll {D : k_D} {dy : Nat → Nat} {S : St} {out : St} (h : f_X12_askAll S = some out) : Sp yX12_askAll cX12_askAll 2 none (k_rm 4) D dy S [.ref (D.2.2 51)] (k_Pv dy out) := Sp.of (by decide +kernel) (Nat.le_of_ble_eq_true rfl) (w_X12_askAll_0 S out h)
noncomputable def f_X12_of_25 (S : St) : Option (Int32 × St) := some ((-1 : Int32), S)
noncomputable def f_X12_of_89 (s0 : Int32) (S : St) : Option (Int32 × St) := some (s0, S)
noncomputable def f_X12_of_88 (S : St) : Option (Int32 × St) := f_X12_of_89 (0 : Int32) S
noncomputable def f_X12_of_84 (S : St) : Option (Int32 × St) := f_X12_of_89 (1 : Int32) S
noncomputable def f_X12_of (x1 : Int32) (x2 : Int32) (S : St) : Option (Int32 × St) := k_let (sI S 33 (0 : Int32)) fun S1 => (f_X12_isDebt x1 S1).bind fun q7 => if q7.1 = 0 then f_X12_of_25 q7.2 else (f_X12_in x2.toInt64 (0 : Int64) (7 : Int64) q7.2).bind fun q19 => if q19.1 = 0 then f_X12_of_25 q19.2 else if (5 : Int32) ≤ x2 then (f_X12_askAll q19.2).bind fun q40 => if x2 = (5 : Int32) then if k_b x1 16 = true then f_X12_of_89 (gA q40 66 x1.toNatClampNeg) q40 else none else if x2 = (6 : Int32) then if k_b x1 16 = true then if (gA q40 67 x1.toNatClampNeg) = 0 then f_X12_of_88 q40 else f_X12_of_84 q40 else none else if k_b x1 16 = true then if (gA q40 68 x1.toNatClampNeg) = 0 then f_X12_of_88 q40 else f_X12_of_84 q40 else none else (f_X12_ofDebt x1 x2 q19.2).bind fun q35 => some (q35.1, q35.2)
set_option maxRecDepth 100000 in
set_option maxHeartbeats 4000000 in
theorem w_X12_of_25 {D : k_D} {dy : Nat → Nat} (S : St) (out : Int32 × St) (h : f_X12_of_25 S = some out) : Rn yX12_of cX12_of 3 (some .int) (k_rm 5) 0 0 D dy S (k_Pi dy out) 25 [] [] := by
    unfold f_X12_of_25 at h
    refine r_iconst (v := -1) dX12_of_25 rfl ?_
    cases h
    exact r_iret rfl dX12_of_26 ⟨rfl, rfl, rfl⟩
set_option maxRecDepth 100000 in
set_option maxHeartbeats 4000000 in
theorem w_X12_of_89 {D : k_D} {dy : Nat → Nat} (s0 : Int32) (S : St) (out : Int32 × St) (h : f_X12_of_89 s0 S = some out) : Rn yX12_of cX12_of 3 (some .int) (k_rm 5) 0 0 D dy S (k_Pi dy out) 89 [] [.int s0] := by
    unfold f_X12_of_89 at h
    cases h
    exact r_iret rfl dX12_of_89 ⟨rfl, rfl, rfl⟩
set_option maxRecDepth 100000 in
set_option maxHeartbeats 4000000 in
theorem w_X12_of_88 {D : k_D} {dy : Nat → Nat} (S : St) (out : Int32 × St) (h : f_X12_of_88 S = some out) : Rn yX12_of cX12_of 3 (some .int) (k_rm 5) 0 0 D dy S (k_Pi dy out) 88 [] [] := by
    unfold f_X12_of_88 at h
    refine r_iconst (v := 0) dX12_of_88 rfl ?_
    exact w_X12_of_89 _ _ _ h
set_option maxRecDepth 100000 in
set_option maxHeartbeats 4000000 in
theorem w_X12_of_84 {D : k_D} {dy : Nat → Nat} (S : St) (out : Int32 × St) (h : f_X12_of_84 S = some out) : Rn yX12_of cX12_of 3 (some .int) (k_rm 5) 0 0 D dy S (k_Pi dy out) 84 [] [] := by
    unfold f_X12_of_84 at h
    refine r_iconst (v := 1) dX12_of_84 rfl ?_
    refine r_goto (t := 89) dX12_of_85 (by decide) ?_
    exact w_X12_of_89 _ _ _ h
set_option maxRecDepth 100000 in
set_option maxHeartbeats 4000000 in
theorem w_X12_of_0 {D : k_D} {dy : Nat → Nat} (x1 : Int32) (x2 : Int32) (S : St) (out : Int32 × St) (h : f_X12_of x1 x2 S = some out) : Rn yX12_of cX12_of 3 (some .int) (k_rm 5) 0 0 D dy S (k_Pi dy out) 0 [(0, .ref (D.2.2 51)), (1, .int x1), (2, .int x2)] [] := by
    unfold f_X12_of at h
    refine r_aload_n 0 dX12_of_0 rfl rfl ?_
    refine r_iconst (v := 0) dX12_of_1 rfl ?_
    refine pf_51_0 q_1311 dX12_of_2 ?_
    generalize sI S 33 (0 : Int32) = S1 at h ⊢
    replace h := g_let h
    refine r_aload_n 0 dX12_of_5 rfl rfl ?_
    refine r_iload_n 1 dX12_of_6 rfl rfl ?_
    obtain ⟨q7, hq7, h⟩ := g_bind h
    refine r_callVi [.int x1] [] q7 (ok_X12_isDebt hq7) q_1529 q_1531 q_93 q_1532 q_153 hd_X12_isDebt (ce_51 D dy _) kc12.1 rfl ⟨Nat.le_of_ble_eq_true rfl, Nat.le_of_ble_eq_true rfl⟩ rfl rfl (Nat.le_of_ble_eq_true rfl) dX12_of_7 ?_
    refine r_if_eq (t := 25) dX12_of_10 (by decide) (fun c => ?_) (fun c => ?_)
    · rw [if_pos c] at h
      refine r_sub [] rfl ?_
      exact w_X12_of_25 _ _ h
    · rw [if_neg c] at h
      refine r_iload_n 2 dX12_of_13 rfl rfl ?_
      refine r_i2l dX12_of_14 ?_
      refine r_lconst (v := 0) dX12_of_15 rfl ?_
      refine r_ldc2 (v := 7) q_1515 dX12_of_16 ?_
      obtain ⟨q19, hq19, h⟩ := g_bind h
      refine r_callSi [.long x2.toInt64, .long (0 : Int64), .long (7 : Int64)] [] q19 (ok_X12_in hq19) q_1481 q_1482 q_1483 q_153 hd_X12_in ⟨Nat.le_of_ble_eq_true rfl, Nat.le_of_ble_eq_true rfl⟩ rfl rfl (Nat.le_of_ble_eq_true rfl) dX12_of_19 ?_
      refine r_if_ne (t := 27) dX12_of_22 (by decide) (fun c => ?_) (fun c => ?_)
      · rw [if_neg c] at h
        refine r_iload_n 2 dX12_of_27 rfl rfl ?_
        refine r_iconst (v := 5) dX12_of_28 rfl ?_
        refine r_icmp_ge (t := 39) dX12_of_29 (by decide) (fun c => ?_) (fun c => ?_)
        · rw [if_pos c] at h
          refine r_aload_n 0 dX12_of_39 rfl rfl ?_
          obtain ⟨q40, hq40, h⟩ := g_bind h
          refine r_callVv [] [] q40 (ok_X12_askAll hq40) q_1537 q_1539 q_95 q_1540 q_153 hd_X12_askAll (ce_51 D dy _) kc12.1 rfl ⟨Nat.le_of_ble_eq_true rfl, Nat.le_of_ble_eq_true rfl⟩ rfl rfl (Nat.le_of_ble_eq_true rfl) dX12_of_40 ?_
          refine r_iload_n 2 dX12_of_43 rfl rfl ?_
          refine r_iconst (v := 5) dX12_of_44 rfl ?_
          refine r_icmp_ne (t := 57) dX12_of_45 (by decide) (fun c => ?_) (fun c => ?_)
          · rw [if_neg c] at h
            refine r_iload_n 2 dX12_of_57 rfl rfl ?_
            refine r_bipush (v := 6) dX12_of_58 rfl ?_
            refine r_icmp_ne (t := 75) dX12_of_60 (by decide) (fun c => ?_) (fun c => ?_)
            · rw [if_neg c] at h
              refine r_aload_n 0 dX12_of_75 rfl rfl ?_
              refine gf_51_35 q_1346 dX12_of_76 ?_
              refine r_iload_n 1 dX12_of_79 rfl rfl ?_
              obtain ⟨c2, h⟩ := g_ite h
              refine al_68 (k_b_in c2) dX12_of_80 ?_
              refine r_if_eq (t := 88) dX12_of_81 (by decide) (fun c => ?_) (fun c => ?_)
              · rw [if_pos c] at h
                refine r_sub [] rfl ?_
                exact w_X12_of_88 _ _ h
              · rw [if_neg c] at h
                refine r_sub [] rfl ?_
                exact w_X12_of_84 _ _ h
            · rw [if_pos c] at h
              refine r_aload_n 0 dX12_of_63 rfl rfl ?_
              refine gf_51_34 q_1345 dX12_of_64 ?_
              refine r_iload_n 1 dX12_of_67 rfl rfl ?_
              obtain ⟨c3, h⟩ := g_ite h
              refine al_67 (k_b_in c3) dX12_of_68 ?_
              refine r_if_eq (t := 88) dX12_of_69 (by decide) (fun c => ?_) (fun c => ?_)
              · rw [if_pos c] at h
                refine r_sub [] rfl ?_
                exact w_X12_of_88 _ _ h
              · rw [if_neg c] at h
                refine r_goto (t := 84) dX12_of_72 (by decide) ?_
                refine r_sub [] rfl ?_
                exact w_X12_of_84 _ _ h
          · rw [if_pos c] at h
            refine r_aload_n 0 dX12_of_48 rfl rfl ?_
            refine gf_51_33 q_1344 dX12_of_49 ?_
            refine r_iload_n 1 dX12_of_52 rfl rfl ?_
            obtain ⟨c4, h⟩ := g_ite h
            refine al_66 (k_b_in c4) dX12_of_53 ?_
            refine r_goto (t := 89) dX12_of_54 (by decide) ?_
            refine r_sub [] rfl ?_
            exact w_X12_of_89 _ _ _ h
        · rw [if_neg c] at h
          refine r_aload_n 0 dX12_of_32 rfl rfl ?_
          refine r_iload_n 1 dX12_of_33 rfl rfl ?_
          refine r_iload_n 2 dX12_of_34 rfl rfl ?_
          obtain ⟨q35, hq35, h⟩ := g_bind h
          refine r_callVi [.int x1, .int x2] [] q35 (ok_X12_ofDebt hq35) q_1533 q_1535 q_94 q_1536 q_153 hd_X12_ofDebt (ce_51 D dy _) kc12.1 rfl ⟨Nat.le_of_ble_eq_true rfl, Nat.le_of_ble_eq_true rfl⟩ rfl rfl (Nat.le_of_ble_eq_true rfl) dX12_of_35 ?_
          cases h
          exact r_iret rfl dX12_of_38 ⟨rfl, rfl, rfl⟩
      · rw [if_pos c] at h
        refine r_sub [] rfl ?_
        exact w_X12_of_25 _ _ h
theorem ok_X12_of {D : k_D} {dy : Nat → Nat} {x1 : Int32} {x2 : Int32} {S : St} {out : Int32 × St} (h : f_X12_of x1 x2 S = some out) : Sp yX12_of cX12_of 3 (some .int) (k_rm 5) D dy S [.ref (D.2.2 51), .int x1, .int x2] (k_Pi dy out) := Sp.of (by decide +kernel) (Nat.le_of_ble_eq_true rfl) (w_X12_of_0 _ _ S out h)
noncomputable def f_X12_pay (x1 : Int32) (x2 : Int32) (S : St) : Option (Int32 × St) := k_let (sI S 33 (0 : Int32)) fun S1 => (f_X12_in x2.toInt64 (1 : Int64) (9 : Int64) S1).bind fun q11 => if q11.1 = 0 then (f_X12_tell (-1 : Int32) q11.2).bind fun q19 => some (q19.1, q19.2) else (f_X12_isDebt x1 q11.2).bind fun q25 => if q25.1 = 0 then (f_X12_tell (-2 : Int32) q25.2).bind fun q34 => some (q34.1, q34.2) else (f_X12_ofDebt x1 (3 : Int32) q25.2).bind fun q41 => if 0 ≤ (q41.1 - x2) then if k_b (((14 : Int32) + ((5 : Int32) * x1)) + (3 : Int32)) 5560 = true then k_let (sA q41.2 53 (((14 : Int32) + ((5 : Int32) * x1)) + (3 : Int32)).toNatClampNeg (q41.1 - x2)) fun S3 => (f_X12_sweep S3).bind fun q72 => (f_X12_tell (q41.1 - x2) q72).bind fun q77 => some (q77.1, q77.2) else none else (f_X12_tell (-1 : Int32) q41.2).bind fun q53 => some (q53.1, q53.2)
set_option maxRecDepth 100000 in
set_option maxHeartbeats 4000000 in
theorem w_X12_pay_0 {D : k_D} {dy : Nat → Nat} (x1 : Int32) (x2 : Int32) (S : St) (out : Int32 × St) (h : f_X12_pay x1 x2 S = some out) : Rn yX12_pay cX12_pay 4 (some .int) (k_rm 2) 0 0 D dy S (k_Pi dy out) 0 [(0, .ref (D.2.2 51)), (1, .int x1), (2, .int x2)] [] := by
    unfold f_X12_pay at h
    refine r_aload_n 0 dX12_pay_0 rfl rfl ?_
    refine r_iconst (v := 0) dX12_pay_1 rfl ?_
    refine pf_51_0 q_1311 dX12_pay_2 ?_
    generalize sI S 33 (0 : Int32) = S1 at h ⊢
    replace h := g_let h
    refine r_iload_n 2 dX12_pay_5 rfl rfl ?_
    refine r_i2l dX12_pay_6 ?_
    refine r_lconst (v := 1) dX12_pay_7 rfl ?_
    refine r_ldc2 (v := 9) q_1516 dX12_pay_8 ?_
    obtain ⟨q11, hq11, h⟩ := g_bind h
    refine r_callSi [.long x2.toInt64, .long (1 : Int64), .long (9 : Int64)] [] q11 (ok_X12_in hq11) q_1481 q_1482 q_1483 q_153 hd_X12_in ⟨Nat.le_of_ble_eq_true rfl, Nat.le_of_ble_eq_true rfl⟩ rfl rfl (Nat.le_of_ble_eq_true rfl) dX12_pay_11 ?_
    refine r_if_ne (t := 23) dX12_pay_14 (by decide) (fun c => ?_) (fun c => ?_)
    · rw [if_neg c] at h
      refine r_aload_n 0 dX12_pay_23 rfl rfl ?_
      refine r_iload_n 1 dX12_pay_24 rfl rfl ?_
      obtain ⟨q25, hq25, h⟩ := g_bind h
      refine r_callVi [.int x1] [] q25 (ok_X12_isDebt hq25) q_1529 q_1531 q_93 q_1532 q_153 hd_X12_isDebt (ce_51 D dy _) kc12.1 rfl ⟨Nat.le_of_ble_eq_true rfl, Nat.le_of_ble_eq_true rfl⟩ rfl rfl (Nat.le_of_ble_eq_true rfl) dX12_pay_25 ?_
      refine r_if_ne (t := 38) dX12_pay_28 (by decide) (fun c => ?_) (fun c => ?_)
      · rw [if_neg c] at h
        refine r_aload_n 0 dX12_pay_38 rfl rfl ?_
        refine r_iload_n 1 dX12_pay_39 rfl rfl ?_
        refine r_iconst (v := 3) dX12_pay_40 rfl ?_
        obtain ⟨q41, hq41, h⟩ := g_bind h
        refine r_callVi [.int x1, .int (3 : Int32)] [] q41 (ok_X12_ofDebt hq41) q_1533 q_1535 q_94 q_1536 q_153 hd_X12_ofDebt (ce_51 D dy _) kc12.1 rfl ⟨Nat.le_of_ble_eq_true rfl, Nat.le_of_ble_eq_true rfl⟩ rfl rfl (Nat.le_of_ble_eq_true rfl) dX12_pay_41 ?_
        refine r_iload_n 2 dX12_pay_44 rfl rfl ?_
        refine r_isub dX12_pay_45 ?_
        refine r_istore_n dX12_pay_46 rfl (by decide) rfl ?_
        refine r_iload_n 0 dX12_pay_47 rfl rfl ?_
        refine r_if_ge (t := 57) dX12_pay_48 (by decide) (fun c => ?_) (fun c => ?_)
        · rw [if_pos c] at h
          refine r_aload_n 1 dX12_pay_57 rfl rfl ?_
          refine gf_51_3 q_1314 dX12_pay_58 ?_
          refine r_bipush (v := 14) dX12_pay_61 rfl ?_
          refine r_iconst (v := 5) dX12_pay_63 rfl ?_
          refine r_iload_n 2 dX12_pay_64 rfl rfl ?_
          refine r_imul dX12_pay_65 ?_
          refine r_iadd dX12_pay_66 ?_
          refine r_iconst (v := 3) dX12_pay_67 rfl ?_
          refine r_iadd dX12_pay_68 ?_
          refine r_iload_n 0 dX12_pay_69 rfl rfl ?_
          obtain ⟨c2, h⟩ := g_ite h
          refine as_53 (k_b_in c2) dX12_pay_70 ?_
          generalize sA q41.2 53 (((14 : Int32) + ((5 : Int32) * x1)) + (3 : Int32)).toNatClampNeg (q41.1 - x2) = S3 at h ⊢
          replace h := g_let h
          refine r_aload_n 1 dX12_pay_71 rfl rfl ?_
          obtain ⟨q72, hq72, h⟩ := g_bind h
          refine r_callVv [] [] q72 (ok_X12_sweep hq72) q_1568 q_1570 q_101 q_1571 q_153 hd_X12_sweep (ce_51 D dy _) kc12.1 rfl ⟨Nat.le_of_ble_eq_true rfl, Nat.le_of_ble_eq_true rfl⟩ rfl rfl (Nat.le_of_ble_eq_true rfl) dX12_pay_72 ?_
          refine r_aload_n 1 dX12_pay_75 rfl rfl ?_
          refine r_iload_n 0 dX12_pay_76 rfl rfl ?_
          obtain ⟨q77, hq77, h⟩ := g_bind h
          refine r_callVi [.int (q41.1 - x2)] [] q77 (ok_X12_tell hq77) q_1484 q_1486 q_89 q_1487 q_153 hd_X12_tell (ce_51 D dy _) kc12.1 rfl ⟨Nat.le_of_ble_eq_true rfl, Nat.le_of_ble_eq_true rfl⟩ rfl rfl (Nat.le_of_ble_eq_true rfl) dX12_pay_77 ?_
          cases h
          exact r_iret rfl dX12_pay_80 ⟨rfl, rfl, rfl⟩
        · rw [if_neg c] at h
          refine r_aload_n 1 dX12_pay_51 rfl rfl ?_
          refine r_iconst (v := -1) dX12_pay_52 rfl ?_
          obtain ⟨q53, hq53, h⟩ := g_bind h
          refine r_callVi [.int (-1 : Int32)] [] q53 (ok_X12_tell hq53) q_1484 q_1486 q_89 q_1487 q_153 hd_X12_tell (ce_51 D dy _) kc12.1 rfl ⟨Nat.le_of_ble_eq_true rfl, Nat.le_of_ble_eq_true rfl⟩ rfl rfl (Nat.le_of_ble_eq_true rfl) dX12_pay_53 ?_
          cases h
          exact r_iret rfl dX12_pay_56 ⟨rfl, rfl, rfl⟩
      · rw [if_pos c] at h
        refine r_aload_n 0 dX12_pay_31 rfl rfl ?_
        refine r_bipush (v := -2) dX12_pay_32 rfl ?_
        obtain ⟨q34, hq34, h⟩ := g_bind h
        refine r_callVi [.int (-2 : Int32)] [] q34 (ok_X12_tell hq34) q_1484 q_1486 q_89 q_1487 q_153 hd_X12_tell (ce_51 D dy _) kc12.1 rfl ⟨Nat.le_of_ble_eq_true rfl, Nat.le_of_ble_eq_true rfl⟩ rfl rfl (Nat.le_of_ble_eq_true rfl) dX12_pay_34 ?_
        cases h
        exact r_iret rfl dX12_pay_37 ⟨rfl, rfl, rfl⟩
    · rw [if_pos c] at h
      refine r_aload_n 0 dX12_pay_17 rfl rfl ?_
      refine r_iconst (v := -1) dX12_pay_18 rfl ?_
      obtain ⟨q19, hq19, h⟩ := g_bind h
      refine r_callVi [.int (-1 : Int32)] [] q19 (ok_X12_tell hq19) q_1484 q_1486 q_89 q_1487 q_153 hd_X12_tell (ce_51 D dy _) kc12.1 rfl ⟨Nat.le_of_ble_eq_true rfl, Nat.le_of_ble_eq_true rfl⟩ rfl rfl (Nat.le_of_ble_eq_true rfl) dX12_pay_19 ?_
      cases h
      exact r_iret rfl dX12_pay_22 ⟨rfl, rfl, rfl⟩
theorem ok_X12_pay {D : k_D} {dy : Nat → Nat} {x1 : Int32} {x2 : Int32} {S : St} {out : Int32 × St} (h : f_X12_pay x1 x2 S = some out) : Sp yX12_pay cX12_pay 4 (some .int) (k_rm 2) D dy S [.ref (D.2.2 51), .int x1, .int x2] (k_Pi dy out) := Sp.of (by decide +kernel) (Nat.le_of_ble_eq_true rfl) (w_X12_pay_0 _ _ S out h)
noncomputable def f_X12_funeral_73 (k22 : Int32 → Int32 → Int32 → St → Option (Int32 × St)) (x1 : Int32) (x2 : Int32) (x3 : Int32) (S : St) : Option (Int32 × St) := k22 x1 x2 (x3 + (1 : Int32)) S
noncomputable def f_X12_funeral_50 (k22 : Int32 → Int32 → Int32 → St → Option (Int32 × St)) (x1 : Int32) (x2 : Int32) (x3 : Int32) (S : St) : Option (Int32 × St) := (f_X12_ofDebt x3 (3 : Int32) S).bind fun q54 => if k_b (((14 : Int32) + ((5 : Int32) * x3)) + (3 : Int32)) 5560 = true then k_let (sA q54.2 53 (((14 : Int32) + ((5 : Int32) * x3)) + (3 : Int32)).toNatClampNeg (0 : Int32)) fun S2 => f_X12_funeral_73 k22 x1 (x2 + q54.1) x3 S2 else none
noncomputable def f_X12_funeral_22 : Nat → Int32 → Int32 → Int32 → St → Option (Int32 × St)
  | 0, _, _, _, _ => none
  | n + 1, x1, x2, x3, S => (f_X12_debts S).bind fun q24 => if q24.1 ≤ x3 then (f_X12_sweep q24.2).bind fun q80 => (f_X12_tell x2 q80).bind fun q85 => some (q85.1, q85.2) else (f_X12_ofDebt x3 (0 : Int32) q24.2).bind fun q33 => if q33.1 = x1 then f_X12_funeral_50 (f_X12_funeral_22 n) x1 x2 x3 q33.2 else (f_X12_ofDebt x3 (1 : Int32) q33.2).bind fun q43 => if q43.1 = x1 then f_X12_funeral_50 (f_X12_funeral_22 n) x1 x2 x3 q43.2 else f_X12_funeral_73 (f_X12_funeral_22 n) x1 x2 x3 q43.2
noncomputable def f_X12_funeral (x1 : Int32) (S : St) : Option (Int32 × St) := k_let (sI S 33 (0 : Int32)) fun S1 => (f_X12_isDancer x1 S1).bind fun q6 => if q6.1 = 0 then (f_X12_tell (-1 : Int32) q6.2).bind fun q14 => some (q14.1, q14.2) else f_X12_funeral_22 FU x1 (0 : Int32) (0 : Int32) q6.2
set_option maxRecDepth 100000 in
set_option maxHeartbeats 4000000 in
theorem w_X12_funeral_73 {D : k_D} {dy : Nat → Nat} {k22 : Int32 → Int32 → Int32 → St → Option (Int32 × St)} (hk22 : ∀ (x1 : Int32) (x2 : Int32) (x3 : Int32) (S : St) (out : Int32 × St), k22 x1 x2 x3 S = some out → Rn yX12_funeral cX12_funeral 4 (some .int) (k_rm 2) 0 0 D dy S (k_Pi dy out) 22 [(0, .ref (D.2.2 51)), (1, .int x1), (2, .int x2), (3, .int x3)] []) (x1 : Int32) (x2 : Int32) (x3 : Int32) (S : St) (out : Int32 × St) (h : f_X12_funeral_73 k22 x1 x2 x3 S = some out) : Rn yX12_funeral cX12_funeral 4 (some .int) (k_rm 2) 0 0 D dy S (k_Pi dy out) 73 [(0, .ref (D.2.2 51)), (1, .int x1), (2, .int x2), (3, .int x3)] [] := by
    unfold f_X12_funeral_73 at h
    refine r_iinc (q := 3) (v := x3 + (1 : Int32)) dX12_funeral_73 rfl rfl (by decide) rfl ?_
    refine r_goto (t := 22) dX12_funeral_76 (by decide) ?_
    refine r_sub [1, 2, 3, 0] rfl ?_
    exact hk22 _ _ _ _ _ h
set_option maxRecDepth 100000 in
set_option maxHeartbeats 4000000 in
theorem w_X12_funeral_50 {D : k_D} {dy : Nat → Nat} {k22 : Int32 → Int32 → Int32 → St → Option (Int32 × St)} (hk22 : ∀ (x1 : Int32) (x2 : Int32) (x3 : Int32) (S : St) (out : Int32 × St), k22 x1 x2 x3 S = some out → Rn yX12_funeral cX12_funeral 4 (some .int) (k_rm 2) 0 0 D dy S (k_Pi dy out) 22 [(0, .ref (D.2.2 51)), (1, .int x1), (2, .int x2), (3, .int x3)] []) (x1 : Int32) (x2 : Int32) (x3 : Int32) (S : St) (out : Int32 × St) (h : f_X12_funeral_50 k22 x1 x2 x3 S = some out) : Rn yX12_funeral cX12_funeral 4 (some .int) (k_rm 2) 0 0 D dy S (k_Pi dy out) 50 [(0, .ref (D.2.2 51)), (1, .int x1), (2, .int x2), (3, .int x3)] [] := by
    unfold f_X12_funeral_50 at h
    refine r_iload_n 2 dX12_funeral_50 rfl rfl ?_
    refine r_aload_n 0 dX12_funeral_51 rfl rfl ?_
    refine r_iload_n 3 dX12_funeral_52 rfl rfl ?_
    refine r_iconst (v := 3) dX12_funeral_53 rfl ?_
    obtain ⟨q54, hq54, h⟩ := g_bind h
    refine r_callVi [.int x3, .int (3 : Int32)] [.int x2] q54 (ok_X12_ofDebt hq54) q_1533 q_1535 q_94 q_1536 q_153 hd_X12_ofDebt (ce_51 D dy _) kc12.1 rfl ⟨Nat.le_of_ble_eq_true rfl, Nat.le_of_ble_eq_true rfl⟩ rfl rfl (Nat.le_of_ble_eq_true rfl) dX12_funeral_54 ?_
    refine r_iadd dX12_funeral_57 ?_
    refine r_istore_n dX12_funeral_58 rfl (by decide) rfl ?_
    refine r_aload_n 1 dX12_funeral_59 rfl rfl ?_
    refine gf_51_3 q_1314 dX12_funeral_60 ?_
    refine r_bipush (v := 14) dX12_funeral_63 rfl ?_
    refine r_iconst (v := 5) dX12_funeral_65 rfl ?_
    refine r_iload_n 3 dX12_funeral_66 rfl rfl ?_
    refine r_imul dX12_funeral_67 ?_
    refine r_iadd dX12_funeral_68 ?_
    refine r_iconst (v := 3) dX12_funeral_69 rfl ?_
    refine r_iadd dX12_funeral_70 ?_
    refine r_iconst (v := 0) dX12_funeral_71 rfl ?_
    obtain ⟨c1, h⟩ := g_ite h
    refine as_53 (k_b_in c1) dX12_funeral_72 ?_
    generalize sA q54.2 53 (((14 : Int32) + ((5 : Int32) * x3)) + (3 : Int32)).toNatClampNeg (0 : Int32) = S2 at h ⊢
    replace h := g_let h
    refine r_sub [1, 2, 0, 3] rfl ?_
    exact w_X12_funeral_73 hk22 _ _ _ _ _ h
set_option maxRecDepth 100000 in
set_option maxHeartbeats 4000000 in
theorem w_X12_funeral_22 {D : k_D} {dy : Nat → Nat} : ∀ (n : Nat) (x1 : Int32) (x2 : Int32) (x3 : Int32) (S : St) (out : Int32 × St), f_X12_funeral_22 n x1 x2 x3 S = some out → Rn yX12_funeral cX12_funeral 4 (some .int) (k_rm 2) 0 0 D dy S (k_Pi dy out) 22 [(0, .ref (D.2.2 51)), (1, .int x1), (2, .int x2), (3, .int x3)] [] := by
  intro n
  induction n with
  | zero => intro x1 x2 x3 S out h; cases h
  | succ n ih =>
    intro x1 x2 x3 S out h
    rw [f_X12_funeral_22] at h
    refine r_iload_n 3 dX12_funeral_22 rfl rfl ?_
    refine r_aload_n 0 dX12_funeral_23 rfl rfl ?_
    obtain ⟨q24, hq24, h⟩ := g_bind h
    refine r_callVi [] [.int x3] q24 (ok_X12_debts hq24) q_1517 q_1519 q_91 q_1520 q_153 hd_X12_debts (ce_51 D dy _) kc12.1 rfl ⟨Nat.le_of_ble_eq_true rfl, Nat.le_of_ble_eq_true rfl⟩ rfl rfl (Nat.le_of_ble_eq_true rfl) dX12_funeral_24 ?_
    refine r_icmp_ge (t := 79) dX12_funeral_27 (by decide) (fun c => ?_) (fun c => ?_)
    · rw [if_pos c] at h
      refine r_aload_n 0 dX12_funeral_79 rfl rfl ?_
      obtain ⟨q80, hq80, h⟩ := g_bind h
      refine r_callVv [] [] q80 (ok_X12_sweep hq80) q_1568 q_1570 q_101 q_1571 q_153 hd_X12_sweep (ce_51 D dy _) kc12.1 rfl ⟨Nat.le_of_ble_eq_true rfl, Nat.le_of_ble_eq_true rfl⟩ rfl rfl (Nat.le_of_ble_eq_true rfl) dX12_funeral_80 ?_
      refine r_aload_n 0 dX12_funeral_83 rfl rfl ?_
      refine r_iload_n 2 dX12_funeral_84 rfl rfl ?_
      obtain ⟨q85, hq85, h⟩ := g_bind h
      refine r_callVi [.int x2] [] q85 (ok_X12_tell hq85) q_1484 q_1486 q_89 q_1487 q_153 hd_X12_tell (ce_51 D dy _) kc12.1 rfl ⟨Nat.le_of_ble_eq_true rfl, Nat.le_of_ble_eq_true rfl⟩ rfl rfl (Nat.le_of_ble_eq_true rfl) dX12_funeral_85 ?_
      cases h
      exact r_iret rfl dX12_funeral_88 ⟨rfl, rfl, rfl⟩
    · rw [if_neg c] at h
      refine r_aload_n 0 dX12_funeral_30 rfl rfl ?_
      refine r_iload_n 3 dX12_funeral_31 rfl rfl ?_
      refine r_iconst (v := 0) dX12_funeral_32 rfl ?_
      obtain ⟨q33, hq33, h⟩ := g_bind h
      refine r_callVi [.int x3, .int (0 : Int32)] [] q33 (ok_X12_ofDebt hq33) q_1533 q_1535 q_94 q_1536 q_153 hd_X12_ofDebt (ce_51 D dy _) kc12.1 rfl ⟨Nat.le_of_ble_eq_true rfl, Nat.le_of_ble_eq_true rfl⟩ rfl rfl (Nat.le_of_ble_eq_true rfl) dX12_funeral_33 ?_
      refine r_iload_n 1 dX12_funeral_36 rfl rfl ?_
      refine r_icmp_eq (t := 50) dX12_funeral_37 (by decide) (fun c => ?_) (fun c => ?_)
      · rw [if_pos c] at h
        exact w_X12_funeral_50 ih _ _ _ _ _ h
      · rw [if_neg c] at h
        refine r_aload_n 0 dX12_funeral_40 rfl rfl ?_
        refine r_iload_n 3 dX12_funeral_41 rfl rfl ?_
        refine r_iconst (v := 1) dX12_funeral_42 rfl ?_
        obtain ⟨q43, hq43, h⟩ := g_bind h
        refine r_callVi [.int x3, .int (1 : Int32)] [] q43 (ok_X12_ofDebt hq43) q_1533 q_1535 q_94 q_1536 q_153 hd_X12_ofDebt (ce_51 D dy _) kc12.1 rfl ⟨Nat.le_of_ble_eq_true rfl, Nat.le_of_ble_eq_true rfl⟩ rfl rfl (Nat.le_of_ble_eq_true rfl) dX12_funeral_43 ?_
        refine r_iload_n 1 dX12_funeral_46 rfl rfl ?_
        refine r_icmp_ne (t := 73) dX12_funeral_47 (by decide) (fun c => ?_) (fun c => ?_)
        · rw [if_neg c] at h
          exact w_X12_funeral_73 ih _ _ _ _ _ h
        · rw [if_pos c] at h
          exact w_X12_funeral_50 ih _ _ _ _ _ h
set_option maxRecDepth 100000 in
set_option maxHeartbeats 4000000 in
theorem w_X12_funeral_0 {D : k_D} {dy : Nat → Nat} (x1 : Int32) (S : St) (out : Int32 × St) (h : f_X12_funeral x1 S = some out) : Rn yX12_funeral cX12_funeral 4 (some .int) (k_rm 2) 0 0 D dy S (k_Pi dy out) 0 [(0, .ref (D.2.2 51)), (1, .int x1)] [] := by
    unfold f_X12_funeral at h
    refine r_aload_n 0 dX12_funeral_0 rfl rfl ?_
    refine r_iconst (v := 0) dX12_funeral_1 rfl ?_
    refine pf_51_0 q_1311 dX12_funeral_2 ?_
    generalize sI S 33 (0 : Int32) = S1 at h ⊢
    replace h := g_let h
    refine r_iload_n 1 dX12_funeral_5 rfl rfl ?_
    obtain ⟨q6, hq6, h⟩ := g_bind h
    refine r_callSi [.int x1] [] q6 (ok_X12_isDancer hq6) q_1512 q_1513 q_1514 q_153 hd_X12_isDancer ⟨Nat.le_of_ble_eq_true rfl, Nat.le_of_ble_eq_true rfl⟩ rfl rfl (Nat.le_of_ble_eq_true rfl) dX12_funeral_6 ?_
    refine r_if_ne (t := 18) dX12_funeral_9 (by decide) (fun c => ?_) (fun c => ?_)
    · rw [if_neg c] at h
      refine r_iconst (v := 0) dX12_funeral_18 rfl ?_
      refine r_istore_n dX12_funeral_19 rfl (by decide) rfl ?_
      refine r_iconst (v := 0) dX12_funeral_20 rfl ?_
      refine r_istore_n dX12_funeral_21 rfl (by decide) rfl ?_
      refine r_sub [2, 3, 1, 0] rfl ?_
      exact w_X12_funeral_22 _ _ _ _ _ _ h
    · rw [if_pos c] at h
      refine r_aload_n 0 dX12_funeral_12 rfl rfl ?_
      refine r_iconst (v := -1) dX12_funeral_13 rfl ?_
      obtain ⟨q14, hq14, h⟩ := g_bind h
      refine r_callVi [.int (-1 : Int32)] [] q14 (ok_X12_tell hq14) q_1484 q_1486 q_89 q_1487 q_153 hd_X12_tell (ce_51 D dy _) kc12.1 rfl ⟨Nat.le_of_ble_eq_true rfl, Nat.le_of_ble_eq_true rfl⟩ rfl rfl (Nat.le_of_ble_eq_true rfl) dX12_funeral_14 ?_
      cases h
      exact r_iret rfl dX12_funeral_17 ⟨rfl, rfl, rfl⟩
theorem ok_X12_funeral {D : k_D} {dy : Nat → Nat} {x1 : Int32} {S : St} {out : Int32 × St} (h : f_X12_funeral x1 S = some out) : Sp yX12_funeral cX12_funeral 4 (some .int) (k_rm 2) D dy S [.ref (D.2.2 51), .int x1] (k_Pi dy out) := Sp.of (by decide +kernel) (Nat.le_of_ble_eq_true rfl) (w_X12_funeral_0 _ S out h)
noncomputable def f_X12_terms_36 (s0 : Int32) (S : St) : Option (Int32 × St) := some (s0, S)
noncomputable def f_X12_terms_31 (S : St) : Option (Int32 × St) := (f_X12_tell (-1 : Int32) S).bind fun q33 => f_X12_terms_36 q33.1 q33.2
noncomputable def f_X12_terms (x1 : Int32) (x2 : Int32) (S : St) : Option (Int32 × St) := k_let (sI S 33 (0 : Int32)) fun S1 => if x1 = 0 then (f_X12_in x2.toInt64 (0 : Int64) (999 : Int64) S1).bind fun q15 => if q15.1 = 0 then f_X12_terms_31 q15.2 else (f_X12_change (7 : Int32) x2 q15.2).bind fun q25 => f_X12_terms_36 q25.1 q25.2 else f_X12_terms_31 S1
set_option maxRecDepth 100000 in
set_option maxHeartbeats 4000000 in
theorem w_X12_terms_36 {D : k_D} {dy : Nat → Nat} (s0 : Int32) (S : St) (out : Int32 × St) (h : f_X12_terms_36 s0 S = some out) : Rn yX12_terms cX12_terms 3 (some .int) (k_rm 1) 0 0 D dy S (k_Pi dy out) 36 [] [.int s0] := by
    unfold f_X12_terms_36 at h
    cases h
    exact r_iret rfl dX12_terms_36 ⟨rfl, rfl, rfl⟩
set_option maxRecDepth 100000 in
set_option maxHeartbeats 4000000 in
theorem w_X12_terms_31 {D : k_D} {dy : Nat → Nat} (S : St) (out : Int32 × St) (h : f_X12_terms_31 S = some out) : Rn yX12_terms cX12_terms 3 (some .int) (k_rm 1) 0 0 D dy S (k_Pi dy out) 31 [(0, .ref (D.2.2 51))] [] := by
    unfold f_X12_terms_31 at h
    refine r_aload_n 0 dX12_terms_31 rfl rfl ?_
    refine r_iconst (v := -1) dX12_terms_32 rfl ?_
    obtain ⟨q33, hq33, h⟩ := g_bind h
    refine r_callVi [.int (-1 : Int32)] [] q33 (ok_X12_tell hq33) q_1484 q_1486 q_89 q_1487 q_153 hd_X12_tell (ce_51 D dy _) kc12.1 rfl ⟨Nat.le_of_ble_eq_true rfl, Nat.le_of_ble_eq_true rfl⟩ rfl rfl (Nat.le_of_ble_eq_true rfl) dX12_terms_33 ?_
    refine r_sub [] rfl ?_
    exact w_X12_terms_36 _ _ _ h
set_option maxRecDepth 100000 in
set_option maxHeartbeats 4000000 in
theorem w_X12_terms_0 {D : k_D} {dy : Nat → Nat} (x1 : Int32) (x2 : Int32) (S : St) (out : Int32 × St) (h : f_X12_terms x1 x2 S = some out) : Rn yX12_terms cX12_terms 3 (some .int) (k_rm 1) 0 0 D dy S (k_Pi dy out) 0 [(0, .ref (D.2.2 51)), (1, .int x1), (2, .int x2)] [] := by
    unfold f_X12_terms at h
    refine r_aload_n 0 dX12_terms_0 rfl rfl ?_
    refine r_iconst (v := 0) dX12_terms_1 rfl ?_
    refine pf_51_0 q_1311 dX12_terms_2 ?_
    generalize sI S 33 (0 : Int32) = S1 at h ⊢
    replace h := g_let h
    refine r_iload_n 1 dX12_terms_5 rfl rfl ?_
    refine r_if_ne (t := 31) dX12_terms_6 (by decide) (fun c => ?_) (fun c => ?_)
    · rw [if_neg c] at h
      refine r_sub [0] rfl ?_
      exact w_X12_terms_31 _ _ h
    · rw [if_pos c] at h
      refine r_iload_n 2 dX12_terms_9 rfl rfl ?_
      refine r_i2l dX12_terms_10 ?_
      refine r_lconst (v := 0) dX12_terms_11 rfl ?_
      refine r_ldc2 (v := 999) q_1563 dX12_terms_12 ?_
      obtain ⟨q15, hq15, h⟩ := g_bind h
      refine r_callSi [.long x2.toInt64, .long (0 : Int64), .long (999 : Int64)] [] q15 (ok_X12_in hq15) q_1481 q_1482 q_1483 q_153 hd_X12_in ⟨Nat.le_of_ble_eq_true rfl, Nat.le_of_ble_eq_true rfl⟩ rfl rfl (Nat.le_of_ble_eq_true rfl) dX12_terms_15 ?_
      refine r_if_eq (t := 31) dX12_terms_18 (by decide) (fun c => ?_) (fun c => ?_)
      · rw [if_pos c] at h
        refine r_sub [0] rfl ?_
        exact w_X12_terms_31 _ _ h
      · rw [if_neg c] at h
        refine r_aload_n 0 dX12_terms_21 rfl rfl ?_
        refine r_bipush (v := 7) dX12_terms_22 rfl ?_
        refine r_iload_n 2 dX12_terms_24 rfl rfl ?_
        obtain ⟨q25, hq25, h⟩ := g_bind h
        refine r_callVi [.int (7 : Int32), .int x2] [] q25 (ok_X12_change hq25) q_1580 q_1582 q_102 q_1583 q_153 hd_X12_change (ce_51 D dy _) kc12.1 rfl ⟨Nat.le_of_ble_eq_true rfl, Nat.le_of_ble_eq_true rfl⟩ rfl rfl (Nat.le_of_ble_eq_true rfl) dX12_terms_25 ?_
        refine r_goto (t := 36) dX12_terms_28 (by decide) ?_
        refine r_sub [] rfl ?_
        exact w_X12_terms_36 _ _ _ h
theorem ok_X12_terms {D : k_D} {dy : Nat → Nat} {x1 : Int32} {x2 : Int32} {S : St} {out : Int32 × St} (h : f_X12_terms x1 x2 S = some out) : Sp yX12_terms cX12_terms 3 (some .int) (k_rm 1) D dy S [.ref (D.2.2 51), .int x1, .int x2] (k_Pi dy out) := Sp.of (by decide +kernel) (Nat.le_of_ble_eq_true rfl) (w_X12_terms_0 _ _ S out h)
noncomputable def f_X12_row_161 (k35 : Int32 → Int32 → Int32 → St → Option (Int32 × St)) (x1 : Int32) (x2 : Int32) (x3 : Int32) (S : St) : Option (Int32 × St) := k35 x1 x2 (x3 + (4 : Int32)) S
noncomputable def f_X12_row_151 (k35 : Int32 → Int32 → Int32 → St → Option (Int32 × St)) (x1 : Int32) (x2 : Int32) (x3 : Int32) (S : St) : Option (Int32 × St) := k_let (sI S 35 ((gI S 35) + (1 : Int32))) fun S1 => f_X12_row_161 k35 x1 x2 x3 S1
noncomputable def f_X12_row_61 (k35 : Int32 → Int32 → Int32 → St → Option (Int32 × St)) (x1 : Int32) (x2 : Int32) (x3 : Int32) (s0 : Int32) (S : St) : Option (Int32 × St) := if s0 = 0 then f_X12_row_151 k35 x1 x2 x3 S else if k_b x3 400 = true then if k_b (x3 + (1 : Int32)) 400 = true then if k_b (x3 + (3 : Int32)) 400 = true then (f_X12_canOwe (gA S 56 x3.toNatClampNeg) (gA S 56 (x3 + (1 : Int32)).toNatClampNeg) (gA S 56 (x3 + (3 : Int32)).toNatClampNeg) S).bind fun q90 => if q90.1 = 0 then f_X12_row_151 k35 x1 x2 x3 q90.2 else if k_b (x3 + (2 : Int32)) 400 = true then (f_X12_isTune (gA q90.2 56 (x3 + (2 : Int32)).toNatClampNeg) q90.2).bind fun q105 => if q105.1 = 0 then f_X12_row_151 k35 x1 x2 x3 q105.2 else if k_b x3 400 = true then if k_b (x3 + (1 : Int32)) 400 = true then if k_b (x3 + (2 : Int32)) 400 = true then if k_b (x3 + (3 : Int32)) 400 = true then (f_X12_addDebt (gA q105.2 56 x3.toNatClampNeg) (gA q105.2 56 (x3 + (1 : Int32)).toNatClampNeg) (gA q105.2 56 (x3 + (2 : Int32)).toNatClampNeg) (gA q105.2 56 (x3 + (3 : Int32)).toNatClampNeg) q105.2).bind fun q142 => f_X12_row_161 k35 x1 (x2 + (1 : Int32)) x3 q142 else none else none else none else none else none else none else none else none
noncomputable def f_X12_row_60 (k35 : Int32 → Int32 → Int32 → St → Option (Int32 × St)) (x1 : Int32) (x2 : Int32) (x3 : Int32) (S : St) : Option (Int32 × St) := f_X12_row_61 k35 x1 x2 x3 (0 : Int32) S
noncomputable def f_X12_row_35 : Nat → Int32 → Int32 → Int32 → St → Option (Int32 × St)
  | 0, _, _, _, _ => none
  | n + 1, x1, x2, x3, S => if x1 ≤ x3 then (f_X12_tell x2 S).bind fun q169 => some (q169.1, q169.2) else if x1 ≤ (x3 + (3 : Int32)) then f_X12_row_60 (f_X12_row_35 n) x1 x2 x3 S else (f_X12_debts S).bind fun q48 => if (16 : Int32) ≤ q48.1 then f_X12_row_60 (f_X12_row_35 n) x1 x2 x3 q48.2 else f_X12_row_61 (f_X12_row_35 n) x1 x2 x3 (1 : Int32) q48.2
noncomputable def f_X12_row (S : St) : Option (Int32 × St) := k_let (sI S 33 (0 : Int32)) fun S1 => k_let (sI S1 36 (0 : Int32)) fun S2 => if (gI S1 36) = 0 then (f_X12_tell (-6 : Int32) S2).bind fun q22 => some (q22.1, q22.2) else k_let (sI S2 35 (0 : Int32)) fun S3 => f_X12_row_35 FU (gI S1 36) (0 : Int32) (0 : Int32) S3
set_option maxRecDepth 100000 in
set_option maxHeartbeats 4000000 in
theorem w_X12_row_161 {D : k_D} {dy : Nat → Nat} {k35 : Int32 → Int32 → Int32 → St → Option (Int32 × St)} (hk35 : ∀ (x1 : Int32) (x2 : Int32) (x3 : Int32) (S : St) (out : Int32 × St), k35 x1 x2 x3 S = some out → Rn yX12_row cX12_row 5 (some .int) (k_rm 3) 0 0 D dy S (k_Pi dy out) 35 [(0, .ref (D.2.2 51)), (1, .int x1), (2, .int x2), (3, .int x3)] []) (x1 : Int32) (x2 : Int32) (x3 : Int32) (S : St) (out : Int32 × St) (h : f_X12_row_161 k35 x1 x2 x3 S = some out) : Rn yX12_row cX12_row 5 (some .int) (k_rm 3) 0 0 D dy S (k_Pi dy out) 161 [(0, .ref (D.2.2 51)), (1, .int x1), (2, .int x2), (3, .int x3)] [] := by
    unfold f_X12_row_161 at h
    refine r_iinc (q := 3) (v := x3 + (4 : Int32)) dX12_row_161 rfl rfl (by decide) rfl ?_
    refine r_goto (t := 35) dX12_row_164 (by decide) ?_
    refine r_sub [1, 2, 3, 0] rfl ?_
    exact hk35 _ _ _ _ _ h
set_option maxRecDepth 100000 in
set_option maxHeartbeats 4000000 in
theorem w_X12_row_151 {D : k_D} {dy : Nat → Nat} {k35 : Int32 → Int32 → Int32 → St → Option (Int32 × St)} (hk35 : ∀ (x1 : Int32) (x2 : Int32) (x3 : Int32) (S : St) (out : Int32 × St), k35 x1 x2 x3 S = some out → Rn yX12_row cX12_row 5 (some .int) (k_rm 3) 0 0 D dy S (k_Pi dy out) 35 [(0, .ref (D.2.2 51)), (1, .int x1), (2, .int x2), (3, .int x3)] []) (x1 : Int32) (x2 : Int32) (x3 : Int32) (S : St) (out : Int32 × St) (h : f_X12_row_151 k35 x1 x2 x3 S = some out) : Rn yX12_row cX12_row 5 (some .int) (k_rm 3) 0 0 D dy S (k_Pi dy out) 151 [(0, .ref (D.2.2 51)), (1, .int x1), (2, .int x2), (3, .int x3)] [] := by
    unfold f_X12_row_151 at h
    refine r_aload_n 0 dX12_row_151 rfl rfl ?_
    refine r_dup dX12_row_152 rfl ?_
    refine gf_51_6 q_1317 dX12_row_153 ?_
    refine r_iconst (v := 1) dX12_row_156 rfl ?_
    refine r_iadd dX12_row_157 ?_
    refine pf_51_6 q_1317 dX12_row_158 ?_
    generalize sI S 35 ((gI S 35) + (1 : Int32)) = S1 at h ⊢
    replace h := g_let h
    exact w_X12_row_161 hk35 _ _ _ _ _ h
set_option maxRecDepth 100000 in
set_option maxHeartbeats 4000000 in
theorem w_X12_row_61 {D : k_D} {dy : Nat → Nat} {k35 : Int32 → Int32 → Int32 → St → Option (Int32 × St)} (hk35 : ∀ (x1 : Int32) (x2 : Int32) (x3 : Int32) (S : St) (out : Int32 × St), k35 x1 x2 x3 S = some out → Rn yX12_row cX12_row 5 (some .int) (k_rm 3) 0 0 D dy S (k_Pi dy out) 35 [(0, .ref (D.2.2 51)), (1, .int x1), (2, .int x2), (3, .int x3)] []) (x1 : Int32) (x2 : Int32) (x3 : Int32) (s0 : Int32) (S : St) (out : Int32 × St) (h : f_X12_row_61 k35 x1 x2 x3 s0 S = some out) : Rn yX12_row cX12_row 5 (some .int) (k_rm 3) 0 0 D dy S (k_Pi dy out) 61 [(0, .ref (D.2.2 51)), (1, .int x1), (2, .int x2), (3, .int x3)] [.int s0] := by
    unfold f_X12_row_61 at h
    refine r_istore dX12_row_61 (by decide) rfl ?_
    refine r_iload 0 dX12_row_63 rfl ?_
    refine r_if_eq (t := 151) dX12_row_65 (by decide) (fun c => ?_) (fun c => ?_)
    · rw [if_pos c] at h
      refine r_sub [1, 2, 3, 4] rfl ?_
      exact w_X12_row_151 hk35 _ _ _ _ _ h
    · rw [if_neg c] at h
      refine r_aload_n 1 dX12_row_68 rfl rfl ?_
      refine gf_51_7 q_1318 dX12_row_69 ?_
      refine r_iload_n 4 dX12_row_72 rfl rfl ?_
      obtain ⟨c1, h⟩ := g_ite h
      refine al_56 (k_b_in c1) dX12_row_73 ?_
      refine r_aload_n 1 dX12_row_74 rfl rfl ?_
      refine gf_51_7 q_1318 dX12_row_75 ?_
      refine r_iload_n 4 dX12_row_78 rfl rfl ?_
      refine r_iconst (v := 1) dX12_row_79 rfl ?_
      refine r_iadd dX12_row_80 ?_
      obtain ⟨c2, h⟩ := g_ite h
      refine al_56 (k_b_in c2) dX12_row_81 ?_
      refine r_aload_n 1 dX12_row_82 rfl rfl ?_
      refine gf_51_7 q_1318 dX12_row_83 ?_
      refine r_iload_n 4 dX12_row_86 rfl rfl ?_
      refine r_iconst (v := 3) dX12_row_87 rfl ?_
      refine r_iadd dX12_row_88 ?_
      obtain ⟨c3, h⟩ := g_ite h
      refine al_56 (k_b_in c3) dX12_row_89 ?_
      obtain ⟨q90, hq90, h⟩ := g_bind h
      refine r_callSi [.int (gA S 56 x3.toNatClampNeg), .int (gA S 56 (x3 + (1 : Int32)).toNatClampNeg), .int (gA S 56 (x3 + (3 : Int32)).toNatClampNeg)] [] q90 (ok_X12_canOwe hq90) q_1509 q_1510 q_1511 q_153 hd_X12_canOwe ⟨Nat.le_of_ble_eq_true rfl, Nat.le_of_ble_eq_true rfl⟩ rfl rfl (Nat.le_of_ble_eq_true rfl) dX12_row_90 ?_
      refine r_if_eq (t := 151) dX12_row_93 (by decide) (fun c => ?_) (fun c => ?_)
      · rw [if_pos c] at h
        refine r_sub [1, 2, 3, 4] rfl ?_
        exact w_X12_row_151 hk35 _ _ _ _ _ h
      · rw [if_neg c] at h
        refine r_aload_n 1 dX12_row_96 rfl rfl ?_
        refine r_aload_n 1 dX12_row_97 rfl rfl ?_
        refine gf_51_7 q_1318 dX12_row_98 ?_
        refine r_iload_n 4 dX12_row_101 rfl rfl ?_
        refine r_iconst (v := 2) dX12_row_102 rfl ?_
        refine r_iadd dX12_row_103 ?_
        obtain ⟨c4, h⟩ := g_ite h
        refine al_56 (k_b_in c4) dX12_row_104 ?_
        obtain ⟨q105, hq105, h⟩ := g_bind h
        refine r_callVi [.int (gA q90.2 56 (x3 + (2 : Int32)).toNatClampNeg)] [] q105 (ok_X12_isTune hq105) q_1501 q_1503 q_90 q_1504 q_153 hd_X12_isTune (ce_51 D dy _) kc12.1 rfl ⟨Nat.le_of_ble_eq_true rfl, Nat.le_of_ble_eq_true rfl⟩ rfl rfl (Nat.le_of_ble_eq_true rfl) dX12_row_105 ?_
        refine r_if_eq (t := 151) dX12_row_108 (by decide) (fun c => ?_) (fun c => ?_)
        · rw [if_pos c] at h
          refine r_sub [1, 2, 3, 4] rfl ?_
          exact w_X12_row_151 hk35 _ _ _ _ _ h
        · rw [if_neg c] at h
          refine r_aload_n 1 dX12_row_111 rfl rfl ?_
          refine r_aload_n 1 dX12_row_112 rfl rfl ?_
          refine gf_51_7 q_1318 dX12_row_113 ?_
          refine r_iload_n 4 dX12_row_116 rfl rfl ?_
          obtain ⟨c5, h⟩ := g_ite h
          refine al_56 (k_b_in c5) dX12_row_117 ?_
          refine r_aload_n 1 dX12_row_118 rfl rfl ?_
          refine gf_51_7 q_1318 dX12_row_119 ?_
          refine r_iload_n 4 dX12_row_122 rfl rfl ?_
          refine r_iconst (v := 1) dX12_row_123 rfl ?_
          refine r_iadd dX12_row_124 ?_
          obtain ⟨c6, h⟩ := g_ite h
          refine al_56 (k_b_in c6) dX12_row_125 ?_
          refine r_aload_n 1 dX12_row_126 rfl rfl ?_
          refine gf_51_7 q_1318 dX12_row_127 ?_
          refine r_iload_n 4 dX12_row_130 rfl rfl ?_
          refine r_iconst (v := 2) dX12_row_131 rfl ?_
          refine r_iadd dX12_row_132 ?_
          obtain ⟨c7, h⟩ := g_ite h
          refine al_56 (k_b_in c7) dX12_row_133 ?_
          refine r_aload_n 1 dX12_row_134 rfl rfl ?_
          refine gf_51_7 q_1318 dX12_row_135 ?_
          refine r_iload_n 4 dX12_row_138 rfl rfl ?_
          refine r_iconst (v := 3) dX12_row_139 rfl ?_
          refine r_iadd dX12_row_140 ?_
          obtain ⟨c8, h⟩ := g_ite h
          refine al_56 (k_b_in c8) dX12_row_141 ?_
          obtain ⟨q142, hq142, h⟩ := g_bind h
          refine r_callVv [.int (gA q105.2 56 x3.toNatClampNeg), .int (gA q105.2 56 (x3 + (1 : Int32)).toNatClampNeg), .int (gA q105.2 56 (x3 + (2 : Int32)).toNatClampNeg), .int (gA q105.2 56 (x3 + (3 : Int32)).toNatClampNeg)] [] q142 (ok_X12_addDebt hq142) q_1521 q_1523 q_92 q_1524 q_153 hd_X12_addDebt (ce_51 D dy _) kc12.1 rfl ⟨Nat.le_of_ble_eq_true rfl, Nat.le_of_ble_eq_true rfl⟩ rfl rfl (Nat.le_of_ble_eq_true rfl) dX12_row_142 ?_
          refine r_iinc (q := 3) (v := x2 + (1 : Int32)) dX12_row_145 rfl rfl (by decide) rfl ?_
          refine r_goto (t := 161) dX12_row_148 (by decide) ?_
          refine r_sub [2, 3, 0, 4] rfl ?_
          exact w_X12_row_161 hk35 _ _ _ _ _ h
set_option maxRecDepth 100000 in
set_option maxHeartbeats 4000000 in
theorem w_X12_row_60 {D : k_D} {dy : Nat → Nat} {k35 : Int32 → Int32 → Int32 → St → Option (Int32 × St)} (hk35 : ∀ (x1 : Int32) (x2 : Int32) (x3 : Int32) (S : St) (out : Int32 × St), k35 x1 x2 x3 S = some out → Rn yX12_row cX12_row 5 (some .int) (k_rm 3) 0 0 D dy S (k_Pi dy out) 35 [(0, .ref (D.2.2 51)), (1, .int x1), (2, .int x2), (3, .int x3)] []) (x1 : Int32) (x2 : Int32) (x3 : Int32) (S : St) (out : Int32 × St) (h : f_X12_row_60 k35 x1 x2 x3 S = some out) : Rn yX12_row cX12_row 5 (some .int) (k_rm 3) 0 0 D dy S (k_Pi dy out) 60 [(0, .ref (D.2.2 51)), (1, .int x1), (2, .int x2), (3, .int x3)] [] := by
    unfold f_X12_row_60 at h
    refine r_iconst (v := 0) dX12_row_60 rfl ?_
    exact w_X12_row_61 hk35 _ _ _ _ _ _ h
set_option maxRecDepth 100000 in
set_option maxHeartbeats 4000000 in
theorem w_X12_row_35 {D : k_D} {dy : Nat → Nat} : ∀ (n : Nat) (x1 : Int32) (x2 : Int32) (x3 : Int32) (S : St) (out : Int32 × St), f_X12_row_35 n x1 x2 x3 S = some out → Rn yX12_row cX12_row 5 (some .int) (k_rm 3) 0 0 D dy S (k_Pi dy out) 35 [(0, .ref (D.2.2 51)), (1, .int x1), (2, .int x2), (3, .int x3)] [] := by
  intro n
  induction n with
  | zero => intro x1 x2 x3 S out h; cases h
  | succ n ih =>
    intro x1 x2 x3 S out h
    rw [f_X12_row_35] at h
    refine r_iload_n 3 dX12_row_35 rfl rfl ?_
    refine r_iload_n 1 dX12_row_36 rfl rfl ?_
    refine r_icmp_ge (t := 167) dX12_row_37 (by decide) (fun c => ?_) (fun c => ?_)
    · rw [if_pos c] at h
      refine r_aload_n 0 dX12_row_167 rfl rfl ?_
      refine r_iload_n 2 dX12_row_168 rfl rfl ?_
      obtain ⟨q169, hq169, h⟩ := g_bind h
      refine r_callVi [.int x2] [] q169 (ok_X12_tell hq169) q_1484 q_1486 q_89 q_1487 q_153 hd_X12_tell (ce_51 D dy _) kc12.1 rfl ⟨Nat.le_of_ble_eq_true rfl, Nat.le_of_ble_eq_true rfl⟩ rfl rfl (Nat.le_of_ble_eq_true rfl) dX12_row_169 ?_
      cases h
      exact r_iret rfl dX12_row_172 ⟨rfl, rfl, rfl⟩
    · rw [if_neg c] at h
      refine r_iload_n 3 dX12_row_40 rfl rfl ?_
      refine r_iconst (v := 3) dX12_row_41 rfl ?_
      refine r_iadd dX12_row_42 ?_
      refine r_iload_n 1 dX12_row_43 rfl rfl ?_
      refine r_icmp_ge (t := 60) dX12_row_44 (by decide) (fun c => ?_) (fun c => ?_)
      · rw [if_pos c] at h
        exact w_X12_row_60 ih _ _ _ _ _ h
      · rw [if_neg c] at h
        refine r_aload_n 0 dX12_row_47 rfl rfl ?_
        obtain ⟨q48, hq48, h⟩ := g_bind h
        refine r_callVi [] [] q48 (ok_X12_debts hq48) q_1517 q_1519 q_91 q_1520 q_153 hd_X12_debts (ce_51 D dy _) kc12.1 rfl ⟨Nat.le_of_ble_eq_true rfl, Nat.le_of_ble_eq_true rfl⟩ rfl rfl (Nat.le_of_ble_eq_true rfl) dX12_row_48 ?_
        refine r_bipush (v := 16) dX12_row_51 rfl ?_
        refine r_icmp_ge (t := 60) dX12_row_53 (by decide) (fun c => ?_) (fun c => ?_)
        · rw [if_pos c] at h
          exact w_X12_row_60 ih _ _ _ _ _ h
        · rw [if_neg c] at h
          refine r_iconst (v := 1) dX12_row_56 rfl ?_
          refine r_goto (t := 61) dX12_row_57 (by decide) ?_
          exact w_X12_row_61 ih _ _ _ _ _ _ h
set_option maxRecDepth 100000 in
set_option maxHeartbeats 4000000 in
theorem w_X12_row_0 {D : k_D} {dy : Nat → Nat} (S : St) (out : Int32 × St) (h : f_X12_row S = some out) : Rn yX12_row cX12_row 5 (some .int) (k_rm 3) 0 0 D dy S (k_Pi dy out) 0 [(0, .ref (D.2.2 51))] [] := by
    unfold f_X12_row at h
    refine r_aload_n 0 dX12_row_0 rfl rfl ?_
    refine r_iconst (v := 0) dX12_row_1 rfl ?_
    refine pf_51_0 q_1311 dX12_row_2 ?_
    generalize sI S 33 (0 : Int32) = S1 at h ⊢
    replace h := g_let h
    refine r_aload_n 0 dX12_row_5 rfl rfl ?_
    refine gf_51_8 q_1319 dX12_row_6 ?_
    refine r_istore_n dX12_row_9 rfl (by decide) rfl ?_
    refine r_aload_n 1 dX12_row_10 rfl rfl ?_
    refine r_iconst (v := 0) dX12_row_11 rfl ?_
    refine pf_51_8 q_1319 dX12_row_12 ?_
    generalize sI S1 36 (0 : Int32) = S2 at h ⊢
    replace h := g_let h
    refine r_iload_n 0 dX12_row_15 rfl rfl ?_
    refine r_if_ne (t := 26) dX12_row_16 (by decide) (fun c => ?_) (fun c => ?_)
    · rw [if_neg c] at h
      refine r_aload_n 1 dX12_row_26 rfl rfl ?_
      refine r_iconst (v := 0) dX12_row_27 rfl ?_
      refine pf_51_6 q_1317 dX12_row_28 ?_
      generalize sI S2 35 (0 : Int32) = S3 at h ⊢
      replace h := g_let h
      refine r_iconst (v := 0) dX12_row_31 rfl ?_
      refine r_istore_n dX12_row_32 rfl (by decide) rfl ?_
      refine r_iconst (v := 0) dX12_row_33 rfl ?_
      refine r_istore_n dX12_row_34 rfl (by decide) rfl ?_
      refine r_sub [3, 2, 1, 0] rfl ?_
      exact w_X12_row_35 _ _ _ _ _ _ h
    · rw [if_pos c] at h
      refine r_aload_n 1 dX12_row_19 rfl rfl ?_
      refine r_bipush (v := -6) dX12_row_20 rfl ?_
      obtain ⟨q22, hq22, h⟩ := g_bind h
      refine r_callVi [.int (-6 : Int32)] [] q22 (ok_X12_tell hq22) q_1484 q_1486 q_89 q_1487 q_153 hd_X12_tell (ce_51 D dy _) kc12.1 rfl ⟨Nat.le_of_ble_eq_true rfl, Nat.le_of_ble_eq_true rfl⟩ rfl rfl (Nat.le_of_ble_eq_true rfl) dX12_row_22 ?_
      cases h
      exact r_iret rfl dX12_row_25 ⟨rfl, rfl, rfl⟩
theorem ok_X12_row {D : k_D} {dy : Nat → Nat} {S : St} {out : Int32 × St} (h : f_X12_row S = some out) : Sp yX12_row cX12_row 5 (some .int) (k_rm 3) D dy S [.ref (D.2.2 51)] (k_Pi dy out) := Sp.of (by decide +kernel) (Nat.le_of_ble_eq_true rfl) (w_X12_row_0 S out h)
noncomputable def f_X12_sung (S : St) : Option (Int32 × St) := k_let (sI S 33 (0 : Int32)) fun S1 => some (gI S1 35, S1)
set_option maxRecDepth 100000 in
set_option maxHeartbeats 4000000 in
theorem w_X12_sung_0 {D : k_D} {dy : Nat → Nat} (S : St) (out : Int32 × St) (h : f_X12_sung S = some out) : Rn yX12_sung cX12_sung 1 (some .int) (k_rm 0) 0 0 D dy S (k_Pi dy out) 0 [(0, .ref (D.2.2 51))] [] := by
    unfold f_X12_sung at h
    refine r_aload_n 0 dX12_sung_0 rfl rfl ?_
    refine r_iconst (v := 0) dX12_sung_1 rfl ?_
    refine pf_51_0 q_1311 dX12_sung_2 ?_
    generalize sI S 33 (0 : Int32) = S1 at h ⊢
    replace h := g_let h
    refine r_aload_n 0 dX12_sung_5 rfl rfl ?_
    refine gf_51_6 q_1317 dX12_sung_6 ?_
    cases h
    exact r_iret rfl dX12_sung_9 ⟨rfl, rfl, rfl⟩
theorem ok_X12_sung {D : k_D} {dy : Nat → Nat} {S : St} {out : Int32 × St} (h : f_X12_sung S = some out) : Sp yX12_sung cX12_sung 1 (some .int) (k_rm 0) D dy S [.ref (D.2.2 51)] (k_Pi dy out) := Sp.of (by decide +kernel) (Nat.le_of_ble_eq_true rfl) (w_X12_sung_0 S out h)
noncomputable def f_X12_four_3 : Nat → Int32 → Int32 → St → Option (St)
  | 0, _, _, _ => none
  | n + 1, x1, x2, S => if x2 < 0 then some S else if k_b (gI S 36) 400 = true then k_let (sA S 56 (gI S 36).toNatClampNeg ((x1 >>> (x2 &&& 31)) &&& (255 : Int32))) fun S2 => k_let (sI S2 36 ((gI S2 36) + (1 : Int32))) fun S3 => f_X12_four_3 n x1 (x2 + (-8 : Int32)) S3 else none
noncomputable def f_X12_four (x1 : Int32) (S : St) : Option (St) := f_X12_four_3 FU x1 (24 : Int32) S
set_option maxRecDepth 100000 in
set_option maxHeartbeats 4000000 in
theorem w_X12_four_3 {D : k_D} {dy : Nat → Nat} : ∀ (n : Nat) (x1 : Int32) (x2 : Int32) (S : St) (out : St), f_X12_four_3 n x1 x2 S = some out → Rn yX12_four cX12_four 3 none (k_rm 0) 0 0 D dy S (k_Pv dy out) 3 [(0, .ref (D.2.2 51)), (1, .int x1), (2, .int x2)] [] := by
  intro n
  induction n with
  | zero => intro x1 x2 S out h; cases h
  | succ n ih =>
    intro x1 x2 S out h
    rw [f_X12_four_3] at h
    refine r_iload_n 2 dX12_four_3 rfl rfl ?_
    refine r_if_lt (t := 39) dX12_four_4 (by decide) (fun c => ?_) (fun c => ?_)
    · rw [if_pos c] at h
      exact r_vret rfl dX12_four_39 ⟨rfl, rfl, Option.some.inj h⟩
    · rw [if_neg c] at h
      refine r_aload_n 0 dX12_four_7 rfl rfl ?_
      refine gf_51_7 q_1318 dX12_four_8 ?_
      refine r_aload_n 0 dX12_four_11 rfl rfl ?_
      refine gf_51_8 q_1319 dX12_four_12 ?_
      refine r_iload_n 1 dX12_four_15 rfl rfl ?_
      refine r_iload_n 2 dX12_four_16 rfl rfl ?_
      refine r_ishr dX12_four_17 ?_
      refine r_sipush (v := 255) dX12_four_18 rfl ?_
      refine r_iand dX12_four_21 ?_
      obtain ⟨c1, h⟩ := g_ite h
      refine as_56 (k_b_in c1) dX12_four_22 ?_
      generalize sA S 56 (gI S 36).toNatClampNeg ((x1 >>> (x2 &&& 31)) &&& (255 : Int32)) = S2 at h ⊢
      replace h := g_let h
      refine r_aload_n 0 dX12_four_23 rfl rfl ?_
      refine r_dup dX12_four_24 rfl ?_
      refine gf_51_8 q_1319 dX12_four_25 ?_
      refine r_iconst (v := 1) dX12_four_28 rfl ?_
      refine r_iadd dX12_four_29 ?_
      refine pf_51_8 q_1319 dX12_four_30 ?_
      generalize sI S2 36 ((gI S2 36) + (1 : Int32)) = S3 at h ⊢
      replace h := g_let h
      refine r_iinc (q := 2) (v := x2 + (-8 : Int32)) dX12_four_33 rfl rfl (by decide) rfl ?_
      refine r_goto (t := 3) dX12_four_36 (by decide) ?_
      refine r_sub [1, 2, 0] rfl ?_
      exact ih _ _ _ _ h
set_option maxRecDepth 100000 in
set_option maxHeartbeats 4000000 in
theorem w_X12_four_0 {D : k_D} {dy : Nat → Nat} (x1 : Int32) (S : St) (out : St) (h : f_X12_four x1 S = some out) : Rn yX12_four cX12_four 3 none (k_rm 0) 0 0 D dy S (k_Pv dy out) 0 [(0, .ref (D.2.2 51)), (1, .int x1)] [] := by
    unfold f_X12_four at h
    refine r_bipush (v := 24) dX12_four_0 rfl ?_
    refine r_istore_n dX12_four_2 rfl (by decide) rfl ?_
    refine r_sub [1, 2, 0] rfl ?_
    exact w_X12_four_3 _ _ _ _ _ h
theorem ok_X12_four {D : k_D} {dy : Nat → Nat} {x1 : Int32} {S : St} {out : St} (h : f_X12_four x1 S = some out) : Sp yX12_four cX12_four 3 none (k_rm 0) D dy S [.ref (D.2.2 51), .int x1] (k_Pv dy out) := Sp.of (by decide +kernel) (Nat.le_of_ble_eq_true rfl) (w_X12_four_0 _ S out h)
noncomputable def f_X12_feed (x1 : Int32) (x2 : Int32) (x3 : Int32) (x4 : Int32) (x5 : Int32) (S : St) : Option (Int32 × St) := k_let (sI S 33 (0 : Int32)) fun S1 => if ((gI S1 36) + (20 : Int32)) ≤ (400 : Int32) then (f_X12_four x1 S1).bind fun q22 => (f_X12_four x2 q22).bind fun q27 => (f_X12_four x3 q27).bind fun q32 => (f_X12_four x4 q32).bind fun q38 => (f_X12_four x5 q38).bind fun q44 => some (gI q44 36, q44) else some ((-1 : Int32), S1)
set_option maxRecDepth 100000 in
set_option maxHeartbeats 4000000 in
theorem w_X12_feed_0 {D : k_D} {dy : Nat → Nat} (x1 : Int32) (x2 : Int32) (x3 : Int32) (x4 : Int32) (x5 : Int32) (S : St) (out : Int32 × St) (h : f_X12_feed x1 x2 x3 x4 x5 S = some out) : Rn yX12_feed cX12_feed 6 (some .int) (k_rm 1) 0 0 D dy S (k_Pi dy out) 0 [(0, .ref (D.2.2 51)), (1, .int x1), (2, .int x2), (3, .int x3), (4, .int x4), (5, .int x5)] [] := by
    unfold f_X12_feed at h
    refine r_aload_n 0 dX12_feed_0 rfl rfl ?_
    refine r_iconst (v := 0) dX12_feed_1 rfl ?_
    refine pf_51_0 q_1311 dX12_feed_2 ?_
    generalize sI S 33 (0 : Int32) = S1 at h ⊢
    replace h := g_let h
    refine r_aload_n 0 dX12_feed_5 rfl rfl ?_
    refine gf_51_8 q_1319 dX12_feed_6 ?_
    refine r_bipush (v := 20) dX12_feed_9 rfl ?_
    refine r_iadd dX12_feed_11 ?_
    refine r_sipush (v := 400) dX12_feed_12 rfl ?_
    refine r_icmp_le (t := 20) dX12_feed_15 (by decide) (fun c => ?_) (fun c => ?_)
    · rw [if_pos c] at h
      refine r_aload_n 0 dX12_feed_20 rfl rfl ?_
      refine r_iload_n 1 dX12_feed_21 rfl rfl ?_
      obtain ⟨q22, hq22, h⟩ := g_bind h
      refine r_callVv [.int x1] [] q22 (ok_X12_four hq22) q_1596 q_1598 q_103 q_1599 q_153 hd_X12_four (ce_51 D dy _) kc12.1 rfl ⟨Nat.le_of_ble_eq_true rfl, Nat.le_of_ble_eq_true rfl⟩ rfl rfl (Nat.le_of_ble_eq_true rfl) dX12_feed_22 ?_
      refine r_aload_n 0 dX12_feed_25 rfl rfl ?_
      refine r_iload_n 2 dX12_feed_26 rfl rfl ?_
      obtain ⟨q27, hq27, h⟩ := g_bind h
      refine r_callVv [.int x2] [] q27 (ok_X12_four hq27) q_1596 q_1598 q_103 q_1599 q_153 hd_X12_four (ce_51 D dy _) kc12.1 rfl ⟨Nat.le_of_ble_eq_true rfl, Nat.le_of_ble_eq_true rfl⟩ rfl rfl (Nat.le_of_ble_eq_true rfl) dX12_feed_27 ?_
      refine r_aload_n 0 dX12_feed_30 rfl rfl ?_
      refine r_iload_n 3 dX12_feed_31 rfl rfl ?_
      obtain ⟨q32, hq32, h⟩ := g_bind h
      refine r_callVv [.int x3] [] q32 (ok_X12_four hq32) q_1596 q_1598 q_103 q_1599 q_153 hd_X12_four (ce_51 D dy _) kc12.1 rfl ⟨Nat.le_of_ble_eq_true rfl, Nat.le_of_ble_eq_true rfl⟩ rfl rfl (Nat.le_of_ble_eq_true rfl) dX12_feed_32 ?_
      refine r_aload_n 0 dX12_feed_35 rfl rfl ?_
      refine r_iload 4 dX12_feed_36 rfl ?_
      obtain ⟨q38, hq38, h⟩ := g_bind h
      refine r_callVv [.int x4] [] q38 (ok_X12_four hq38) q_1596 q_1598 q_103 q_1599 q_153 hd_X12_four (ce_51 D dy _) kc12.1 rfl ⟨Nat.le_of_ble_eq_true rfl, Nat.le_of_ble_eq_true rfl⟩ rfl rfl (Nat.le_of_ble_eq_true rfl) dX12_feed_38 ?_
      refine r_aload_n 0 dX12_feed_41 rfl rfl ?_
      refine r_iload 5 dX12_feed_42 rfl ?_
      obtain ⟨q44, hq44, h⟩ := g_bind h
      refine r_callVv [.int x5] [] q44 (ok_X12_four hq44) q_1596 q_1598 q_103 q_1599 q_153 hd_X12_four (ce_51 D dy _) kc12.1 rfl ⟨Nat.le_of_ble_eq_true rfl, Nat.le_of_ble_eq_true rfl⟩ rfl rfl (Nat.le_of_ble_eq_true rfl) dX12_feed_44 ?_
      refine r_aload_n 0 dX12_feed_47 rfl rfl ?_
      refine gf_51_8 q_1319 dX12_feed_48 ?_
      cases h
      exact r_iret rfl dX12_feed_51 ⟨rfl, rfl, rfl⟩
    · rw [if_neg c] at h
      refine r_iconst (v := -1) dX12_feed_18 rfl ?_
      cases h
      exact r_iret rfl dX12_feed_19 ⟨rfl, rfl, rfl⟩
theorem ok_X12_feed {D : k_D} {dy : Nat → Nat} {x1 : Int32} {x2 : Int32} {x3 : Int32} {x4 : Int32} {x5 : Int32} {S : St} {out : Int32 × St} (h : f_X12_feed x1 x2 x3 x4 x5 S = some out) : Sp yX12_feed cX12_feed 6 (some .int) (k_rm 1) D dy S [.ref (D.2.2 51), .int x1, .int x2, .int x3, .int x4, .int x5] (k_Pi dy out) := Sp.of (by decide +kernel) (Nat.le_of_ble_eq_true rfl) (w_X12_feed_0 _ _ _ _ _ S out h)
noncomputable def f_X12_end_17 (S : St) : Option (Int32 × St) := some ((-1 : Int32), S)
noncomputable def f_X12_end (x1 : Int32) (S : St) : Option (Int32 × St) := k_let (sI S 33 (0 : Int32)) fun S1 => if x1 < 0 then f_X12_end_17 S1 else if x1 ≤ (gI S1 36) then k_let (sI S1 36 x1) fun S2 => some (x1, S2) else f_X12_end_17 S1
set_option maxRecDepth 100000 in
set_option maxHeartbeats 4000000 in
theorem w_X12_end_17 {D : k_D} {dy : Nat → Nat} (S : St) (out : Int32 × St) (h : f_X12_end_17 S = some out) : Rn yX12_end cX12_end 2 (some .int) (k_rm 0) 0 0 D dy S (k_Pi dy out) 17 [] [] := by
    unfold f_X12_end_17 at h
    refine r_iconst (v := -1) dX12_end_17 rfl ?_
    cases h
    exact r_iret rfl dX12_end_18 ⟨rfl, rfl, rfl⟩
set_option maxRecDepth 100000 in
set_option maxHeartbeats 4000000 in
theorem w_X12_end_0 {D : k_D} {dy : Nat → Nat} (x1 : Int32) (S : St) (out : Int32 × St) (h : f_X12_end x1 S = some out) : Rn yX12_end cX12_end 2 (some .int) (k_rm 0) 0 0 D dy S (k_Pi dy out) 0 [(0, .ref (D.2.2 51)), (1, .int x1)] [] := by
    unfold f_X12_end at h
    refine r_aload_n 0 dX12_end_0 rfl rfl ?_
    refine r_iconst (v := 0) dX12_end_1 rfl ?_
    refine pf_51_0 q_1311 dX12_end_2 ?_
    generalize sI S 33 (0 : Int32) = S1 at h ⊢
    replace h := g_let h
    refine r_iload_n 1 dX12_end_5 rfl rfl ?_
    refine r_if_lt (t := 17) dX12_end_6 (by decide) (fun c => ?_) (fun c => ?_)
    · rw [if_pos c] at h
      refine r_sub [] rfl ?_
      exact w_X12_end_17 _ _ h
    · rw [if_neg c] at h
      refine r_iload_n 1 dX12_end_9 rfl rfl ?_
      refine r_aload_n 0 dX12_end_10 rfl rfl ?_
      refine gf_51_8 q_1319 dX12_end_11 ?_
      refine r_icmp_le (t := 19) dX12_end_14 (by decide) (fun c => ?_) (fun c => ?_)
      · rw [if_pos c] at h
        refine r_aload_n 0 dX12_end_19 rfl rfl ?_
        refine r_iload_n 1 dX12_end_20 rfl rfl ?_
        refine pf_51_8 q_1319 dX12_end_21 ?_
        generalize sI S1 36 x1 = S2 at h ⊢
        replace h := g_let h
        refine r_iload_n 1 dX12_end_24 rfl rfl ?_
        cases h
        exact r_iret rfl dX12_end_25 ⟨rfl, rfl, rfl⟩
      · rw [if_neg c] at h
        refine r_sub [] rfl ?_
        exact w_X12_end_17 _ _ h
theorem ok_X12_end {D : k_D} {dy : Nat → Nat} {x1 : Int32} {S : St} {out : Int32 × St} (h : f_X12_end x1 S = some out) : Sp yX12_end cX12_end 2 (some .int) (k_rm 0) D dy S [.ref (D.2.2 51), .int x1] (k_Pi dy out) := Sp.of (by decide +kernel) (Nat.le_of_ble_eq_true rfl) (w_X12_end_0 _ S out h)
noncomputable def f_X12_isSmall_17 (s0 : Int32) (S : St) : Option (Int32 × St) := if s0 = 0 ∨ s0 = 1 then some (s0, S) else none
noncomputable def f_X12_isSmall_16 (S : St) : Option (Int32 × St) := f_X12_isSmall_17 (0 : Int32) S
noncomputable def f_X12_isSmall (x0 : Int32) (S : St) : Option (Int32 × St) := if x0 < (97 : Int32) then f_X12_isSmall_16 S else if (122 : Int32) < x0 then f_X12_isSmall_16 S else f_X12_isSmall_17 (1 : Int32) S
set_option maxRecDepth 100000 in
set_option maxHeartbeats 4000000 in
theorem w_X12_isSmall_17 {D : k_D} {dy : Nat → Nat} (s0 : Int32) (S : St) (out : Int32 × St) (h : f_X12_isSmall_17 s0 S = some out) : Rn yX12_isSmall cX12_isSmall 1 (some .boolean) (k_rm 0) 0 0 D dy S (k_Pi dy out) 17 [] [.int s0] := by
    unfold f_X12_isSmall_17 at h
    obtain ⟨c, h⟩ := g_ite h
    cases h
    exact r_zret rfl (k_zn c) dX12_isSmall_17 ⟨rfl, rfl, rfl⟩
set_option maxRecDepth 100000 in
set_option maxHeartbeats 4000000 in
theorem w_X12_isSmall_16 {D : k_D} {dy : Nat → Nat} (S : St) (out : Int32 × St) (h : f_X12_isSmall_16 S = some out) : Rn yX12_isSmall cX12_isSmall 1 (some .boolean) (k_rm 0) 0 0 D dy S (k_Pi dy out) 16 [] [] := by
    unfold f_X12_isSmall_16 at h
    refine r_iconst (v := 0) dX12_isSmall_16 rfl ?_
    exact w_X12_isSmall_17 _ _ _ h
set_option maxRecDepth 100000 in
set_option maxHeartbeats 4000000 in
theorem w_X12_isSmall_0 {D : k_D} {dy : Nat → Nat} (x0 : Int32) (S : St) (out : Int32 × St) (h : f_X12_isSmall x0 S = some out) : Rn yX12_isSmall cX12_isSmall 1 (some .boolean) (k_rm 0) 0 0 D dy S (k_Pi dy out) 0 [(0, .int x0)] [] := by
    unfold f_X12_isSmall at h
    refine r_iload_n 0 dX12_isSmall_0 rfl rfl ?_
    refine r_bipush (v := 97) dX12_isSmall_1 rfl ?_
    refine r_icmp_lt (t := 16) dX12_isSmall_3 (by decide) (fun c => ?_) (fun c => ?_)
    · rw [if_pos c] at h
      refine r_sub [] rfl ?_
      exact w_X12_isSmall_16 _ _ h
    · rw [if_neg c] at h
      refine r_iload_n 0 dX12_isSmall_6 rfl rfl ?_
      refine r_bipush (v := 122) dX12_isSmall_7 rfl ?_
      refine r_icmp_gt (t := 16) dX12_isSmall_9 (by decide) (fun c => ?_) (fun c => ?_)
      · rw [if_pos c] at h
        refine r_sub [] rfl ?_
        exact w_X12_isSmall_16 _ _ h
      · rw [if_neg c] at h
        refine r_iconst (v := 1) dX12_isSmall_12 rfl ?_
        refine r_goto (t := 17) dX12_isSmall_13 (by decide) ?_
        refine r_sub [] rfl ?_
        exact w_X12_isSmall_17 _ _ _ h
theorem ok_X12_isSmall {D : k_D} {dy : Nat → Nat} {x0 : Int32} {S : St} {out : Int32 × St} (h : f_X12_isSmall x0 S = some out) : Sp yX12_isSmall cX12_isSmall 1 (some .boolean) (k_rm 0) D dy S [.int x0] (k_Pi dy out) := Sp.of (by decide +kernel) (Nat.le_of_ble_eq_true rfl) (w_X12_isSmall_0 _ S out h)
noncomputable def f_X12_isDigit_17 (s0 : Int32) (S : St) : Option (Int32 × St) := if s0 = 0 ∨ s0 = 1 then some (s0, S) else none
noncomputable def f_X12_isDigit_16 (S : St) : Option (Int32 × St) := f_X12_isDigit_17 (0 : Int32) S
noncomputable def f_X12_isDigit (x0 : Int32) (S : St) : Option (Int32 × St) := if x0 < (48 : Int32) then f_X12_isDigit_16 S else if (57 : Int32) < x0 then f_X12_isDigit_16 S else f_X12_isDigit_17 (1 : Int32) S
set_option maxRecDepth 100000 in
set_option maxHeartbeats 4000000 in
theorem w_X12_isDigit_17 {D : k_D} {dy : Nat → Nat} (s0 : Int32) (S : St) (out : Int32 × St) (h : f_X12_isDigit_17 s0 S = some out) : Rn yX12_isDigit cX12_isDigit 1 (some .boolean) (k_rm 0) 0 0 D dy S (k_Pi dy out) 17 [] [.int s0] := by
    unfold f_X12_isDigit_17 at h
    obtain ⟨c, h⟩ := g_ite h
    cases h
    exact r_zret rfl (k_zn c) dX12_isDigit_17 ⟨rfl, rfl, rfl⟩
set_option maxRecDepth 100000 in
set_option maxHeartbeats 4000000 in
theorem w_X12_isDigit_16 {D : k_D} {dy : Nat → Nat} (S : St) (out : Int32 × St) (h : f_X12_isDigit_16 S = some out) : Rn yX12_isDigit cX12_isDigit 1 (some .boolean) (k_rm 0) 0 0 D dy S (k_Pi dy out) 16 [] [] := by
    unfold f_X12_isDigit_16 at h
    refine r_iconst (v := 0) dX12_isDigit_16 rfl ?_
    exact w_X12_isDigit_17 _ _ _ h
set_option maxRecDepth 100000 in
set_option maxHeartbeats 4000000 in
theorem w_X12_isDigit_0 {D : k_D} {dy : Nat → Nat} (x0 : Int32) (S : St) (out : Int32 × St) (h : f_X12_isDigit x0 S = some out) : Rn yX12_isDigit cX12_isDigit 1 (some .boolean) (k_rm 0) 0 0 D dy S (k_Pi dy out) 0 [(0, .int x0)] [] := by
    unfold f_X12_isDigit at h
    refine r_iload_n 0 dX12_isDigit_0 rfl rfl ?_
    refine r_bipush (v := 48) dX12_isDigit_1 rfl ?_
    refine r_icmp_lt (t := 16) dX12_isDigit_3 (by decide) (fun c => ?_) (fun c => ?_)
    · rw [if_pos c] at h
      refine r_sub [] rfl ?_
      exact w_X12_isDigit_16 _ _ h
    · rw [if_neg c] at h
      refine r_iload_n 0 dX12_isDigit_6 rfl rfl ?_
      refine r_bipush (v := 57) dX12_isDigit_7 rfl ?_
      refine r_icmp_gt (t := 16) dX12_isDigit_9 (by decide) (fun c => ?_) (fun c => ?_)
      · rw [if_pos c] at h
        refine r_sub [] rfl ?_
        exact w_X12_isDigit_16 _ _ h
      · rw [if_neg c] at h
        refine r_iconst (v := 1) dX12_isDigit_12 rfl ?_
        refine r_goto (t := 17) dX12_isDigit_13 (by decide) ?_
        refine r_sub [] rfl ?_
        exact w_X12_isDigit_17 _ _ _ h
theorem ok_X12_isDigit {D : k_D} {dy : Nat → Nat} {x0 : Int32} {S : St} {out : Int32 × St} (h : f_X12_isDigit x0 S = some out) : Sp yX12_isDigit cX12_isDigit 1 (some .boolean) (k_rm 0) D dy S [.int x0] (k_Pi dy out) := Sp.of (by decide +kernel) (Nat.le_of_ble_eq_true rfl) (w_X12_isDigit_0 _ S out h)
noncomputable def f_X12_next_335 (S : St) : Option (St) := some S
noncomputable def f_X12_next_319 (k243 : St → Option (St)) (s1 : Int64) (S : St) : Option (St) := k_let (sJ S 0 s1) fun S1 => k_let (sI S1 38 ((gI S1 38) + (1 : Int32))) fun S2 => k243 S2
noncomputable def f_X12_next_243 : Nat → St → Option (St)
  | 0, _ => none
  | n + 1, S => if (gI S 39) = (2 : Int32) then if (gI S 36) ≤ (gI S 38) then f_X12_next_335 S else if k_b (gI S 38) 400 = true then (f_X12_isDigit (gA S 56 (gI S 38).toNatClampNeg) S).bind fun q271 => if q271.1 = 0 then f_X12_next_335 q271.2 else if (gJ q271.2 0) ≤ (1000000 : Int64) then if k_b (gI q271.2 38) 400 = true then f_X12_next_319 (f_X12_next_243 n) ((((gJ q271.2 0) * (10 : Int64)) + ((gA q271.2 56 (gI q271.2 38).toNatClampNeg).toInt64)) - (48 : Int64)) q271.2 else none else f_X12_next_319 (f_X12_next_243 n) (gJ q271.2 0) q271.2 else none else f_X12_next_335 S
noncomputable def f_X12_next_227 (k149 : St → Option (St)) (s1 : Int64) (S : St) : Option (St) := k_let (sJ S 0 s1) fun S1 => k_let (sI S1 38 ((gI S1 38) + (1 : Int32))) fun S2 => k149 S2
noncomputable def f_X12_next_149 : Nat → St → Option (St)
  | 0, _ => none
  | n + 1, S => if (gI S 39) = (1 : Int32) then if (gI S 36) ≤ (gI S 38) then f_X12_next_243 FU S else if k_b (gI S 38) 400 = true then (f_X12_isSmall (gA S 56 (gI S 38).toNatClampNeg) S).bind fun q177 => if q177.1 = 0 then f_X12_next_243 FU q177.2 else if (10 : Int32) ≤ ((gI q177.2 38) - (gI q177.2 37)) then f_X12_next_227 (f_X12_next_149 n) (-1 : Int64) q177.2 else if k_b (gI q177.2 38) 400 = true then f_X12_next_227 (f_X12_next_149 n) ((((gJ q177.2 0) * (32 : Int64)) + ((gA q177.2 56 (gI q177.2 38).toNatClampNeg).toInt64)) - (96 : Int64)) q177.2 else none else none else f_X12_next_243 FU S
noncomputable def f_X12_next_114 (s1 : Int32) (S : St) : Option (St) := k_let (sI S 39 s1) fun S1 => if (gI S1 39) = (3 : Int32) then if k_b (gI S1 37) 400 = true then k_let (sJ S1 0 ((gA S1 56 (gI S1 37).toNatClampNeg).toInt64)) fun S3 => k_let (sI S3 38 ((gI S3 38) + (1 : Int32))) fun S4 => f_X12_next_149 FU S4 else none else f_X12_next_149 FU S1
noncomputable def f_X12_next_46 (S : St) : Option (St) := k_let (sI S 38 (gI S 37)) fun S1 => k_let (sJ S1 0 (0 : Int64)) fun S2 => if (gI S2 37) = (gI S2 36) then f_X12_next_114 (0 : Int32) S2 else if k_b (gI S2 37) 400 = true then (f_X12_isSmall (gA S2 56 (gI S2 37).toNatClampNeg) S2).bind fun q84 => if q84.1 = 0 then if k_b (gI q84.2 37) 400 = true then (f_X12_isDigit (gA q84.2 56 (gI q84.2 37).toNatClampNeg) q84.2).bind fun q103 => if q103.1 = 0 then f_X12_next_114 (3 : Int32) q103.2 else f_X12_next_114 (2 : Int32) q103.2 else none else f_X12_next_114 (1 : Int32) q84.2 else none
noncomputable def f_X12_next_8 : Nat → St → Option (St)
  | 0, _ => none
  | n + 1, S => if (gI S 36) ≤ (gI S 37) then f_X12_next_46 S else if k_b (gI S 37) 400 = true then if (gA S 56 (gI S 37).toNatClampNeg) = (32 : Int32) then k_let (sI S 37 ((gI S 37) + (1 : Int32))) fun S2 => f_X12_next_8 n S2 else f_X12_next_46 S else none
noncomputable def f_X12_next (S : St) : Option (St) := k_let (sI S 37 (gI S 38)) fun S1 => f_X12_next_8 FU S1
set_option maxRecDepth 100000 in
set_option maxHeartbeats 4000000 in
theorem w_X12_next_335 {D : k_D} {dy : Nat → Nat} (S : St) (out : St) (h : f_X12_next_335 S = some out) : Rn yX12_next cX12_next 1 none (k_rm 1) 0 0 D dy S (k_Pv dy out) 335 [] [] := by
    unfold f_X12_next_335 at h
    exact r_vret rfl dX12_next_335 ⟨rfl, rfl, Option.some.inj h⟩
set_option maxRecDepth 100000 in
set_option maxHeartbeats 4000000 in
theorem w_X12_next_319 {D : k_D} {dy : Nat → Nat} {k243 : St → Option (St)} (hk243 : ∀ (S : St) (out : St), k243 S = some out → Rn yX12_next cX12_next 1 none (k_rm 1) 0 0 D dy S (k_Pv dy out) 243 [(0, .ref (D.2.2 51))] []) (s1 : Int64) (S : St) (out : St) (h : f_X12_next_319 k243 s1 S = some out) : Rn yX12_next cX12_next 1 none (k_rm 1) 0 0 D dy S (k_Pv dy out) 319 [(0, .ref (D.2.2 51))] [.long s1, .ref (D.2.2 51)] := by
    unfold f_X12_next_319 at h
    refine pf_51_12 q_1323 dX12_next_319 ?_
    generalize sJ S 0 s1 = S1 at h ⊢
    replace h := g_let h
    refine r_aload_n 0 dX12_next_322 rfl rfl ?_
    refine r_dup dX12_next_323 rfl ?_
    refine gf_51_10 q_1321 dX12_next_324 ?_
    refine r_iconst (v := 1) dX12_next_327 rfl ?_
    refine r_iadd dX12_next_328 ?_
    refine pf_51_10 q_1321 dX12_next_329 ?_
    generalize sI S1 38 ((gI S1 38) + (1 : Int32)) = S2 at h ⊢
    replace h := g_let h
    refine r_goto (t := 243) dX12_next_332 (by decide) ?_
    exact hk243 _ _ h
set_option maxRecDepth 100000 in
set_option maxHeartbeats 4000000 in
theorem w_X12_next_243 {D : k_D} {dy : Nat → Nat} : ∀ (n : Nat) (S : St) (out : St), f_X12_next_243 n S = some out → Rn yX12_next cX12_next 1 none (k_rm 1) 0 0 D dy S (k_Pv dy out) 243 [(0, .ref (D.2.2 51))] [] := by
  intro n
  induction n with
  | zero => intro S out h; cases h
  | succ n ih =>
    intro S out h
    rw [f_X12_next_243] at h
    refine r_aload_n 0 dX12_next_243 rfl rfl ?_
    refine gf_51_11 q_1322 dX12_next_244 ?_
    refine r_iconst (v := 2) dX12_next_247 rfl ?_
    refine r_icmp_ne (t := 335) dX12_next_248 (by decide) (fun c => ?_) (fun c => ?_)
    · rw [if_neg c] at h
      refine r_sub [] rfl ?_
      exact w_X12_next_335 _ _ h
    · rw [if_pos c] at h
      refine r_aload_n 0 dX12_next_251 rfl rfl ?_
      refine gf_51_10 q_1321 dX12_next_252 ?_
      refine r_aload_n 0 dX12_next_255 rfl rfl ?_
      refine gf_51_8 q_1319 dX12_next_256 ?_
      refine r_icmp_ge (t := 335) dX12_next_259 (by decide) (fun c => ?_) (fun c => ?_)
      · rw [if_pos c] at h
        refine r_sub [] rfl ?_
        exact w_X12_next_335 _ _ h
      · rw [if_neg c] at h
        refine r_aload_n 0 dX12_next_262 rfl rfl ?_
        refine gf_51_7 q_1318 dX12_next_263 ?_
        refine r_aload_n 0 dX12_next_266 rfl rfl ?_
        refine gf_51_10 q_1321 dX12_next_267 ?_
        obtain ⟨c1, h⟩ := g_ite h
        refine al_56 (k_b_in c1) dX12_next_270 ?_
        obtain ⟨q271, hq271, h⟩ := g_bind h
        refine r_callSi [.int (gA S 56 (gI S 38).toNatClampNeg)] [] q271 (ok_X12_isDigit hq271) q_1623 q_1624 q_1625 q_153 hd_X12_isDigit ⟨Nat.le_of_ble_eq_true rfl, Nat.le_of_ble_eq_true rfl⟩ rfl rfl (Nat.le_of_ble_eq_true rfl) dX12_next_271 ?_
        refine r_if_eq (t := 335) dX12_next_274 (by decide) (fun c => ?_) (fun c => ?_)
        · rw [if_pos c] at h
          refine r_sub [] rfl ?_
          exact w_X12_next_335 _ _ h
        · rw [if_neg c] at h
          refine r_aload_n 0 dX12_next_277 rfl rfl ?_
          refine r_aload_n 0 dX12_next_278 rfl rfl ?_
          refine gf_51_12 q_1323 dX12_next_279 ?_
          refine r_ldc2 (v := 1000000) q_1629 dX12_next_282 ?_
          refine r_lcmp dX12_next_285 ?_
          refine r_if_le (t := 296) dX12_next_286 (by decide) (fun c => ?_) (fun c => ?_)
          · rw [if_pos (lc_le.mp c)] at h
            refine r_aload_n 0 dX12_next_296 rfl rfl ?_
            refine gf_51_12 q_1323 dX12_next_297 ?_
            refine r_ldc2 (v := 10) q_1630 dX12_next_300 ?_
            refine r_lmul dX12_next_303 ?_
            refine r_aload_n 0 dX12_next_304 rfl rfl ?_
            refine gf_51_7 q_1318 dX12_next_305 ?_
            refine r_aload_n 0 dX12_next_308 rfl rfl ?_
            refine gf_51_10 q_1321 dX12_next_309 ?_
            obtain ⟨c2, h⟩ := g_ite h
            refine al_56 (k_b_in c2) dX12_next_312 ?_
            refine r_i2l dX12_next_313 ?_
            refine r_ladd dX12_next_314 ?_
            refine r_ldc2 (v := 48) q_1631 dX12_next_315 ?_
            refine r_lsub dX12_next_318 ?_
            exact w_X12_next_319 ih _ _ _ h
          · rw [if_neg (fun z => c (lc_le.mpr z))] at h
            refine r_aload_n 0 dX12_next_289 rfl rfl ?_
            refine gf_51_12 q_1323 dX12_next_290 ?_
            refine r_goto (t := 319) dX12_next_293 (by decide) ?_
            exact w_X12_next_319 ih _ _ _ h
set_option maxRecDepth 100000 in
set_option maxHeartbeats 4000000 in
theorem w_X12_next_227 {D : k_D} {dy : Nat → Nat} {k149 : St → Option (St)} (hk149 : ∀ (S : St) (out : St), k149 S = some out → Rn yX12_next cX12_next 1 none (k_rm 1) 0 0 D dy S (k_Pv dy out) 149 [(0, .ref (D.2.2 51))] []) (s1 : Int64) (S : St) (out : St) (h : f_X12_next_227 k149 s1 S = some out) : Rn yX12_next cX12_next 1 none (k_rm 1) 0 0 D dy S (k_Pv dy out) 227 [(0, .ref (D.2.2 51))] [.long s1, .ref (D.2.2 51)] := by
    unfold f_X12_next_227 at h
    refine pf_51_12 q_1323 dX12_next_227 ?_
    generalize sJ S 0 s1 = S1 at h ⊢
    replace h := g_let h
    refine r_aload_n 0 dX12_next_230 rfl rfl ?_
    refine r_dup dX12_next_231 rfl ?_
    refine gf_51_10 q_1321 dX12_next_232 ?_
    refine r_iconst (v := 1) dX12_next_235 rfl ?_
    refine r_iadd dX12_next_236 ?_
    refine pf_51_10 q_1321 dX12_next_237 ?_
    generalize sI S1 38 ((gI S1 38) + (1 : Int32)) = S2 at h ⊢
    replace h := g_let h
    refine r_goto (t := 149) dX12_next_240 (by decide) ?_
    exact hk149 _ _ h
set_option maxRecDepth 100000 in
set_option maxHeartbeats 4000000 in
theorem w_X12_next_149 {D : k_D} {dy : Nat → Nat} : ∀ (n : Nat) (S : St) (out : St), f_X12_next_149 n S = some out → Rn yX12_next cX12_next 1 none (k_rm 1) 0 0 D dy S (k_Pv dy out) 149 [(0, .ref (D.2.2 51))] [] := by
  intro n
  induction n with
  | zero => intro S out h; cases h
  | succ n ih =>
    intro S out h
    rw [f_X12_next_149] at h
    refine r_aload_n 0 dX12_next_149 rfl rfl ?_
    refine gf_51_11 q_1322 dX12_next_150 ?_
    refine r_iconst (v := 1) dX12_next_153 rfl ?_
    refine r_icmp_ne (t := 243) dX12_next_154 (by decide) (fun c => ?_) (fun c => ?_)
    · rw [if_neg c] at h
      exact w_X12_next_243 _ _ _ h
    · rw [if_pos c] at h
      refine r_aload_n 0 dX12_next_157 rfl rfl ?_
      refine gf_51_10 q_1321 dX12_next_158 ?_
      refine r_aload_n 0 dX12_next_161 rfl rfl ?_
      refine gf_51_8 q_1319 dX12_next_162 ?_
      refine r_icmp_ge (t := 243) dX12_next_165 (by decide) (fun c => ?_) (fun c => ?_)
      · rw [if_pos c] at h
        exact w_X12_next_243 _ _ _ h
      · rw [if_neg c] at h
        refine r_aload_n 0 dX12_next_168 rfl rfl ?_
        refine gf_51_7 q_1318 dX12_next_169 ?_
        refine r_aload_n 0 dX12_next_172 rfl rfl ?_
        refine gf_51_10 q_1321 dX12_next_173 ?_
        obtain ⟨c1, h⟩ := g_ite h
        refine al_56 (k_b_in c1) dX12_next_176 ?_
        obtain ⟨q177, hq177, h⟩ := g_bind h
        refine r_callSi [.int (gA S 56 (gI S 38).toNatClampNeg)] [] q177 (ok_X12_isSmall hq177) q_1620 q_1621 q_1622 q_153 hd_X12_isSmall ⟨Nat.le_of_ble_eq_true rfl, Nat.le_of_ble_eq_true rfl⟩ rfl rfl (Nat.le_of_ble_eq_true rfl) dX12_next_177 ?_
        refine r_if_eq (t := 243) dX12_next_180 (by decide) (fun c => ?_) (fun c => ?_)
        · rw [if_pos c] at h
          exact w_X12_next_243 _ _ _ h
        · rw [if_neg c] at h
          refine r_aload_n 0 dX12_next_183 rfl rfl ?_
          refine r_aload_n 0 dX12_next_184 rfl rfl ?_
          refine gf_51_10 q_1321 dX12_next_185 ?_
          refine r_aload_n 0 dX12_next_188 rfl rfl ?_
          refine gf_51_9 q_1320 dX12_next_189 ?_
          refine r_isub dX12_next_192 ?_
          refine r_bipush (v := 10) dX12_next_193 rfl ?_
          refine r_icmp_ge (t := 224) dX12_next_195 (by decide) (fun c => ?_) (fun c => ?_)
          · rw [if_pos c] at h
            refine r_ldc2 (v := -1) q_1628 dX12_next_224 ?_
            exact w_X12_next_227 ih _ _ _ h
          · rw [if_neg c] at h
            refine r_aload_n 0 dX12_next_198 rfl rfl ?_
            refine gf_51_12 q_1323 dX12_next_199 ?_
            refine r_ldc2 (v := 32) q_1626 dX12_next_202 ?_
            refine r_lmul dX12_next_205 ?_
            refine r_aload_n 0 dX12_next_206 rfl rfl ?_
            refine gf_51_7 q_1318 dX12_next_207 ?_
            refine r_aload_n 0 dX12_next_210 rfl rfl ?_
            refine gf_51_10 q_1321 dX12_next_211 ?_
            obtain ⟨c2, h⟩ := g_ite h
            refine al_56 (k_b_in c2) dX12_next_214 ?_
            refine r_i2l dX12_next_215 ?_
            refine r_ladd dX12_next_216 ?_
            refine r_ldc2 (v := 96) q_1627 dX12_next_217 ?_
            refine r_lsub dX12_next_220 ?_
            refine r_goto (t := 227) dX12_next_221 (by decide) ?_
            exact w_X12_next_227 ih _ _ _ h
set_option maxRecDepth 100000 in
set_option maxHeartbeats 4000000 in
theorem w_X12_next_114 {D : k_D} {dy : Nat → Nat} (s1 : Int32) (S : St) (out : St) (h : f_X12_next_114 s1 S = some out) : Rn yX12_next cX12_next 1 none (k_rm 1) 0 0 D dy S (k_Pv dy out) 114 [(0, .ref (D.2.2 51))] [.int s1, .ref (D.2.2 51)] := by
    unfold f_X12_next_114 at h
    refine pf_51_11 q_1322 dX12_next_114 ?_
    generalize sI S 39 s1 = S1 at h ⊢
    replace h := g_let h
    refine r_aload_n 0 dX12_next_117 rfl rfl ?_
    refine gf_51_11 q_1322 dX12_next_118 ?_
    refine r_iconst (v := 3) dX12_next_121 rfl ?_
    refine r_icmp_ne (t := 149) dX12_next_122 (by decide) (fun c => ?_) (fun c => ?_)
    · rw [if_neg c] at h
      exact w_X12_next_149 _ _ _ h
    · rw [if_pos c] at h
      refine r_aload_n 0 dX12_next_125 rfl rfl ?_
      refine r_aload_n 0 dX12_next_126 rfl rfl ?_
      refine gf_51_7 q_1318 dX12_next_127 ?_
      refine r_aload_n 0 dX12_next_130 rfl rfl ?_
      refine gf_51_9 q_1320 dX12_next_131 ?_
      obtain ⟨c2, h⟩ := g_ite h
      refine al_56 (k_b_in c2) dX12_next_134 ?_
      refine r_i2l dX12_next_135 ?_
      refine pf_51_12 q_1323 dX12_next_136 ?_
      generalize sJ S1 0 ((gA S1 56 (gI S1 37).toNatClampNeg).toInt64) = S3 at h ⊢
      replace h := g_let h
      refine r_aload_n 0 dX12_next_139 rfl rfl ?_
      refine r_dup dX12_next_140 rfl ?_
      refine gf_51_10 q_1321 dX12_next_141 ?_
      refine r_iconst (v := 1) dX12_next_144 rfl ?_
      refine r_iadd dX12_next_145 ?_
      refine pf_51_10 q_1321 dX12_next_146 ?_
      generalize sI S3 38 ((gI S3 38) + (1 : Int32)) = S4 at h ⊢
      replace h := g_let h
      exact w_X12_next_149 _ _ _ h
set_option maxRecDepth 100000 in
set_option maxHeartbeats 4000000 in
theorem w_X12_next_46 {D : k_D} {dy : Nat → Nat} (S : St) (out : St) (h : f_X12_next_46 S = some out) : Rn yX12_next cX12_next 1 none (k_rm 1) 0 0 D dy S (k_Pv dy out) 46 [(0, .ref (D.2.2 51))] [] := by
    unfold f_X12_next_46 at h
    refine r_aload_n 0 dX12_next_46 rfl rfl ?_
    refine r_aload_n 0 dX12_next_47 rfl rfl ?_
    refine gf_51_9 q_1320 dX12_next_48 ?_
    refine pf_51_10 q_1321 dX12_next_51 ?_
    generalize sI S 38 (gI S 37) = S1 at h ⊢
    replace h := g_let h
    refine r_aload_n 0 dX12_next_54 rfl rfl ?_
    refine r_lconst (v := 0) dX12_next_55 rfl ?_
    refine pf_51_12 q_1323 dX12_next_56 ?_
    generalize sJ S1 0 (0 : Int64) = S2 at h ⊢
    replace h := g_let h
    refine r_aload_n 0 dX12_next_59 rfl rfl ?_
    refine r_aload_n 0 dX12_next_60 rfl rfl ?_
    refine gf_51_9 q_1320 dX12_next_61 ?_
    refine r_aload_n 0 dX12_next_64 rfl rfl ?_
    refine gf_51_8 q_1319 dX12_next_65 ?_
    refine r_icmp_ne (t := 75) dX12_next_68 (by decide) (fun c => ?_) (fun c => ?_)
    · rw [if_neg c] at h
      refine r_aload_n 0 dX12_next_75 rfl rfl ?_
      refine gf_51_7 q_1318 dX12_next_76 ?_
      refine r_aload_n 0 dX12_next_79 rfl rfl ?_
      refine gf_51_9 q_1320 dX12_next_80 ?_
      obtain ⟨c3, h⟩ := g_ite h
      refine al_56 (k_b_in c3) dX12_next_83 ?_
      obtain ⟨q84, hq84, h⟩ := g_bind h
      refine r_callSi [.int (gA S2 56 (gI S2 37).toNatClampNeg)] [.ref (D.2.2 51)] q84 (ok_X12_isSmall hq84) q_1620 q_1621 q_1622 q_153 hd_X12_isSmall ⟨Nat.le_of_ble_eq_true rfl, Nat.le_of_ble_eq_true rfl⟩ rfl rfl (Nat.le_of_ble_eq_true rfl) dX12_next_84 ?_
      refine r_if_eq (t := 94) dX12_next_87 (by decide) (fun c => ?_) (fun c => ?_)
      · rw [if_pos c] at h
        refine r_aload_n 0 dX12_next_94 rfl rfl ?_
        refine gf_51_7 q_1318 dX12_next_95 ?_
        refine r_aload_n 0 dX12_next_98 rfl rfl ?_
        refine gf_51_9 q_1320 dX12_next_99 ?_
        obtain ⟨c4, h⟩ := g_ite h
        refine al_56 (k_b_in c4) dX12_next_102 ?_
        obtain ⟨q103, hq103, h⟩ := g_bind h
        refine r_callSi [.int (gA q84.2 56 (gI q84.2 37).toNatClampNeg)] [.ref (D.2.2 51)] q103 (ok_X12_isDigit hq103) q_1623 q_1624 q_1625 q_153 hd_X12_isDigit ⟨Nat.le_of_ble_eq_true rfl, Nat.le_of_ble_eq_true rfl⟩ rfl rfl (Nat.le_of_ble_eq_true rfl) dX12_next_103 ?_
        refine r_if_eq (t := 113) dX12_next_106 (by decide) (fun c => ?_) (fun c => ?_)
        · rw [if_pos c] at h
          refine r_iconst (v := 3) dX12_next_113 rfl ?_
          exact w_X12_next_114 _ _ _ h
        · rw [if_neg c] at h
          refine r_iconst (v := 2) dX12_next_109 rfl ?_
          refine r_goto (t := 114) dX12_next_110 (by decide) ?_
          exact w_X12_next_114 _ _ _ h
      · rw [if_neg c] at h
        refine r_iconst (v := 1) dX12_next_90 rfl ?_
        refine r_goto (t := 114) dX12_next_91 (by decide) ?_
        exact w_X12_next_114 _ _ _ h
    · rw [if_pos c] at h
      refine r_iconst (v := 0) dX12_next_71 rfl ?_
      refine r_goto (t := 114) dX12_next_72 (by decide) ?_
      exact w_X12_next_114 _ _ _ h
set_option maxRecDepth 100000 in
set_option maxHeartbeats 4000000 in
theorem w_X12_next_8 {D : k_D} {dy : Nat → Nat} : ∀ (n : Nat) (S : St) (out : St), f_X12_next_8 n S = some out → Rn yX12_next cX12_next 1 none (k_rm 1) 0 0 D dy S (k_Pv dy out) 8 [(0, .ref (D.2.2 51))] [] := by
  intro n
  induction n with
  | zero => intro S out h; cases h
  | succ n ih =>
    intro S out h
    rw [f_X12_next_8] at h
    refine r_aload_n 0 dX12_next_8 rfl rfl ?_
    refine gf_51_9 q_1320 dX12_next_9 ?_
    refine r_aload_n 0 dX12_next_12 rfl rfl ?_
    refine gf_51_8 q_1319 dX12_next_13 ?_
    refine r_icmp_ge (t := 46) dX12_next_16 (by decide) (fun c => ?_) (fun c => ?_)
    · rw [if_pos c] at h
      exact w_X12_next_46 _ _ h
    · rw [if_neg c] at h
      refine r_aload_n 0 dX12_next_19 rfl rfl ?_
      refine gf_51_7 q_1318 dX12_next_20 ?_
      refine r_aload_n 0 dX12_next_23 rfl rfl ?_
      refine gf_51_9 q_1320 dX12_next_24 ?_
      obtain ⟨c1, h⟩ := g_ite h
      refine al_56 (k_b_in c1) dX12_next_27 ?_
      refine r_bipush (v := 32) dX12_next_28 rfl ?_
      refine r_icmp_ne (t := 46) dX12_next_30 (by decide) (fun c => ?_) (fun c => ?_)
      · rw [if_neg c] at h
        exact w_X12_next_46 _ _ h
      · rw [if_pos c] at h
        refine r_aload_n 0 dX12_next_33 rfl rfl ?_
        refine r_dup dX12_next_34 rfl ?_
        refine gf_51_9 q_1320 dX12_next_35 ?_
        refine r_iconst (v := 1) dX12_next_38 rfl ?_
        refine r_iadd dX12_next_39 ?_
        refine pf_51_9 q_1320 dX12_next_40 ?_
        generalize sI S 37 ((gI S 37) + (1 : Int32)) = S2 at h ⊢
        replace h := g_let h
        refine r_goto (t := 8) dX12_next_43 (by decide) ?_
        exact ih _ _ h
set_option maxRecDepth 100000 in
set_option maxHeartbeats 4000000 in
theorem w_X12_next_0 {D : k_D} {dy : Nat → Nat} (S : St) (out : St) (h : f_X12_next S = some out) : Rn yX12_next cX12_next 1 none (k_rm 1) 0 0 D dy S (k_Pv dy out) 0 [(0, .ref (D.2.2 51))] [] := by
    unfold f_X12_next at h
    refine r_aload_n 0 dX12_next_0 rfl rfl ?_
    refine r_aload_n 0 dX12_next_1 rfl rfl ?_
    refine gf_51_10 q_1321 dX12_next_2 ?_
    refine pf_51_9 q_1320 dX12_next_5 ?_
    generalize sI S 37 (gI S 38) = S1 at h ⊢
    replace h := g_let h
    exact w_X12_next_8 _ _ _ h
theorem ok_X12_next {D : k_D} {dy : Nat → Nat} {S : St} {out : St} (h : f_X12_next S = some out) : Sp yX12_next cX12_next 1 none (k_rm 1) D dy S [.ref (D.2.2 51)] (k_Pv dy out) := Sp.of (by decide +kernel) (Nat.le_of_ble_eq_true rfl) (w_X12_next_0 S out h)
noncomputable def f_X12_begin (S : St) : Option (St) := k_let (sI S 38 (0 : Int32)) fun S1 => k_let (sI S1 41 (0 : Int32)) fun S2 => k_let (sI S2 40 (-1 : Int32)) fun S3 => (f_X12_next S3).bind fun q16 => some q16
set_option maxRecDepth 100000 in
set_option maxHeartbeats 4000000 in
theorem w_X12_begin_0 {D : k_D} {dy : Nat → Nat} (S : St) (out : St) (h : f_X12_begin S = some out) : Rn yX12_begin cX12_begin 1 none (k_rm 2) 0 0 D dy S (k_Pv dy out) 0 [(0, .ref (D.2.2 51))] [] := by
    unfold f_X12_begin at h
    refine r_aload_n 0 dX12_begin_0 rfl rfl ?_
    refine r_iconst (v := 0) dX12_begin_1 rfl ?_
    refine pf_51_10 q_1321 dX12_begin_2 ?_
    generalize sI S 38 (0 : Int32) = S1 at h ⊢
    replace h := g_let h
    refine r_aload_n 0 dX12_begin_5 rfl rfl ?_
    refine r_iconst (v := 0) dX12_begin_6 rfl ?_
    refine pf_51_14 (Or.inl rfl) q_1325 dX12_begin_7 ?_
    generalize sI S1 41 (0 : Int32) = S2 at h ⊢
    replace h := g_let h
    refine r_aload_n 0 dX12_begin_10 rfl rfl ?_
    refine r_iconst (v := -1) dX12_begin_11 rfl ?_
    refine pf_51_13 q_1324 dX12_begin_12 ?_
    generalize sI S2 40 (-1 : Int32) = S3 at h ⊢
    replace h := g_let h
    refine r_aload_n 0 dX12_begin_15 rfl rfl ?_
    obtain ⟨q16, hq16, h⟩ := g_bind h
    refine r_callVv [] [] q16 (ok_X12_next hq16) q_1616 q_1618 q_105 q_1619 q_153 hd_X12_next (ce_51 D dy _) kc12.1 rfl ⟨Nat.le_of_ble_eq_true rfl, Nat.le_of_ble_eq_true rfl⟩ rfl rfl (Nat.le_of_ble_eq_true rfl) dX12_begin_16 ?_
    exact r_vret rfl dX12_begin_19 ⟨rfl, rfl, Option.some.inj h⟩
theorem ok_X12_begin {D : k_D} {dy : Nat → Nat} {S : St} {out : St} (h : f_X12_begin S = some out) : Sp yX12_begin cX12_begin 1 none (k_rm 2) D dy S [.ref (D.2.2 51)] (k_Pv dy out) := Sp.of (by decide +kernel) (Nat.le_of_ble_eq_true rfl) (w_X12_begin_0 S out h)
noncomputable def f_X12_isWord_22 (s0 : Int32) (S : St) : Option (Int32 × St) := if s0 = 0 ∨ s0 = 1 then some (s0, S) else none
noncomputable def f_X12_isWord_21 (S : St) : Option (Int32 × St) := f_X12_isWord_22 (0 : Int32) S
noncomputable def f_X12_isWord (x1 : Int64) (S : St) : Option (Int32 × St) := if (gI S 39) = (1 : Int32) then if (gJ S 0) = x1 then f_X12_isWord_22 (1 : Int32) S else f_X12_isWord_21 S else f_X12_isWord_21 S
set_option maxRecDepth 100000 in
set_option maxHeartbeats 4000000 in
theorem w_X12_isWord_22 {D : k_D} {dy : Nat → Nat} (s0 : Int32) (S : St) (out : Int32 × St) (h : f_X12_isWord_22 s0 S = some out) : Rn yX12_isWord cX12_isWord 3 (some .boolean) (k_rm 0) 0 0 D dy S (k_Pi dy out) 22 [] [.int s0] := by
    unfold f_X12_isWord_22 at h
    obtain ⟨c, h⟩ := g_ite h
    cases h
    exact r_zret rfl (k_zn c) dX12_isWord_22 ⟨rfl, rfl, rfl⟩
set_option maxRecDepth 100000 in
set_option maxHeartbeats 4000000 in
theorem w_X12_isWord_21 {D : k_D} {dy : Nat → Nat} (S : St) (out : Int32 × St) (h : f_X12_isWord_21 S = some out) : Rn yX12_isWord cX12_isWord 3 (some .boolean) (k_rm 0) 0 0 D dy S (k_Pi dy out) 21 [] [] := by
    unfold f_X12_isWord_21 at h
    refine r_iconst (v := 0) dX12_isWord_21 rfl ?_
    exact w_X12_isWord_22 _ _ _ h
set_option maxRecDepth 100000 in
set_option maxHeartbeats 4000000 in
theorem w_X12_isWord_0 {D : k_D} {dy : Nat → Nat} (x1 : Int64) (S : St) (out : Int32 × St) (h : f_X12_isWord x1 S = some out) : Rn yX12_isWord cX12_isWord 3 (some .boolean) (k_rm 0) 0 0 D dy S (k_Pi dy out) 0 [(0, .ref (D.2.2 51)), (1, .long x1)] [] := by
    unfold f_X12_isWord at h
    refine r_aload_n 0 dX12_isWord_0 rfl rfl ?_
    refine gf_51_11 q_1322 dX12_isWord_1 ?_
    refine r_iconst (v := 1) dX12_isWord_4 rfl ?_
    refine r_icmp_ne (t := 21) dX12_isWord_5 (by decide) (fun c => ?_) (fun c => ?_)
    · rw [if_neg c] at h
      refine r_sub [] rfl ?_
      exact w_X12_isWord_21 _ _ h
    · rw [if_pos c] at h
      refine r_aload_n 0 dX12_isWord_8 rfl rfl ?_
      refine gf_51_12 q_1323 dX12_isWord_9 ?_
      refine r_lload_n 1 dX12_isWord_12 rfl rfl ?_
      refine r_lcmp dX12_isWord_13 ?_
      refine r_if_ne (t := 21) dX12_isWord_14 (by decide) (fun c => ?_) (fun c => ?_)
      · rw [if_neg (fun z => c (lc_eq.mpr z))] at h
        refine r_sub [] rfl ?_
        exact w_X12_isWord_21 _ _ h
      · rw [if_pos (lc_eq.mp c)] at h
        refine r_iconst (v := 1) dX12_isWord_17 rfl ?_
        refine r_goto (t := 22) dX12_isWord_18 (by decide) ?_
        refine r_sub [] rfl ?_
        exact w_X12_isWord_22 _ _ _ h
theorem ok_X12_isWord {D : k_D} {dy : Nat → Nat} {x1 : Int64} {S : St} {out : Int32 × St} (h : f_X12_isWord x1 S = some out) : Sp yX12_isWord cX12_isWord 3 (some .boolean) (k_rm 0) D dy S [.ref (D.2.2 51), .long x1] (k_Pi dy out) := Sp.of (by decide +kernel) (Nat.le_of_ble_eq_true rfl) (w_X12_isWord_0 _ S out h)
