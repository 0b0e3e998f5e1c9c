noncomputable def f_X12_goRound_163 (k20 : Int32 → Int32 → Int32 → St → Option (St)) (x1 : Int32) (x2 : Int32) (x3 : Int32) (S : St) : Option (St) := k20 x1 x2 x3 S
noncomputable def f_X12_goRound_135 (k20 : Int32 → Int32 → Int32 → St → Option (St)) (x1 : Int32) (x2 : Int32) (x3 : Int32) (x4 : Int32) (S : St) : Option (St) := if (7 : Int32) ≤ x2 then f_X12_goRound_163 k20 x1 x2 (x3 &&& (((1 : Int32) <<< (x4 &&& 31)) ^^^ (-1 : Int32))) S else if k_b (x2 + (1 : Int32)) 9 = true then k_let (sA S 72 (x2 + (1 : Int32)).toNatClampNeg x1) fun S2 => f_X12_goRound_163 k20 x1 (x2 + (1 : Int32)) x3 S2 else none
noncomputable def f_X12_goRound_72 (k20 : Int32 → Int32 → Int32 → St → Option (St)) (x1 : Int32) (x2 : Int32) (s0 : Int32) (S : St) : Option (St) := f_X12_goRound_163 k20 x1 x2 s0 S
noncomputable def f_X12_goRound_20 : Nat → Int32 → Int32 → Int32 → St → Option (St)
  | 0, _, _, _, _ => none
  | n + 1, x1, x2, x3, S => if x2 ≤ 0 then some S else if k_b x2 9 = true then if k_b x2 9 = true then k_let (sA S 72 x2.toNatClampNeg ((gA S 72 x2.toNatClampNeg) + (1 : Int32))) fun S3 => if k_b x2 9 = true then if (gA S3 72 x2.toNatClampNeg) < (8 : Int32) then (f_X12_is x3 (gA S3 72 x2.toNatClampNeg) S3).bind fun q79 => if q79.1 = 0 then if k_b (x2 - (1 : Int32)) 9 = true then if k_b (gA q79.2 72 (x2 - (1 : Int32)).toNatClampNeg) 8 = true then (f_X12_is (gA q79.2 71 (gA q79.2 72 (x2 - (1 : Int32)).toNatClampNeg).toNatClampNeg) (gA S3 72 x2.toNatClampNeg) q79.2).bind fun q100 => if q100.1 = 0 then f_X12_goRound_163 (f_X12_goRound_20 n) x1 x2 x3 q100.2 else if k_b (gA S3 72 x2.toNatClampNeg) 8 = true then (f_X12_is (gA q100.2 71 (gA S3 72 x2.toNatClampNeg).toNatClampNeg) x1 q100.2).bind fun q121 => if q121.1 = 0 then f_X12_goRound_135 (f_X12_goRound_20 n) x1 x2 (x3 ||| ((1 : Int32) <<< ((gA S3 72 x2.toNatClampNeg) &&& 31))) (gA S3 72 x2.toNatClampNeg) q121.2 else (f_X12_keepRing (x2 + (1 : Int32)) (x3 ||| ((1 : Int32) <<< ((gA S3 72 x2.toNatClampNeg) &&& 31))) q121.2).bind fun q132 => f_X12_goRound_135 (f_X12_goRound_20 n) x1 x2 (x3 ||| ((1 : Int32) <<< ((gA S3 72 x2.toNatClampNeg) &&& 31))) (gA S3 72 x2.toNatClampNeg) q132 else none else none else none else f_X12_goRound_163 (f_X12_goRound_20 n) x1 x2 x3 q79.2 else if (x2 + (-1 : Int32)) ≤ 0 then f_X12_goRound_72 (f_X12_goRound_20 n) x1 (x2 + (-1 : Int32)) x3 S3 else if k_b (x2 + (-1 : Int32)) 9 = true then f_X12_goRound_72 (f_X12_goRound_20 n) x1 (x2 + (-1 : Int32)) (x3 &&& (((1 : Int32) <<< ((gA S3 72 (x2 + (-1 : Int32)).toNatClampNeg) &&& 31)) ^^^ (-1 : Int32))) S3 else none else none else none else none
noncomputable def f_X12_goRound (x1 : Int32) (S : St) : Option (St) := if k_b (0 : Int32) 9 = true then k_let (sA S 72 (0 : Int32).toNatClampNeg x1) fun S2 => if k_b (1 : Int32) 9 = true then k_let (sA S2 72 (1 : Int32).toNatClampNeg x1) fun S4 => f_X12_goRound_20 FU x1 (1 : Int32) ((1 : Int32) <<< (x1 &&& 31)) S4 else none else none
set_option maxRecDepth 100000 in
set_option maxHeartbeats 4000000 in
theorem w_X12_goRound_163 {D : k_D} {dy : Nat → Nat} {k20 : Int32 → Int32 → Int32 → St → Option (St)} (hk20 : ∀ (x1 : Int32) (x2 : Int32) (x3 : Int32) (S : St) (out : St), k20 x1 x2 x3 S = some out → Rn yX12_goRound cX12_goRound 5 none (k_rm 1) 0 0 D dy S (k_Pv dy out) 20 [(0, .ref (D.2.2 51)), (1, .int x1), (2, .int x2), (3, .int x3)] []) (x1 : Int32) (x2 : Int32) (x3 : Int32) (S : St) (out : St) (h : f_X12_goRound_163 k20 x1 x2 x3 S = some out) : Rn yX12_goRound cX12_goRound 5 none (k_rm 1) 0 0 D dy S (k_Pv dy out) 163 [(0, .ref (D.2.2 51)), (1, .int x1), (2, .int x2), (3, .int x3)] [] := by
    unfold f_X12_goRound_163 at h
    refine r_goto (t := 20) dX12_goRound_163 (by decide) ?_
    exact hk20 _ _ _ _ _ h
set_option maxRecDepth 100000 in
set_option maxHeartbeats 4000000 in
theorem w_X12_goRound_135 {D : k_D} {dy : Nat → Nat} {k20 : Int32 → Int32 → Int32 → St → Option (St)} (hk20 : ∀ (x1 : Int32) (x2 : Int32) (x3 : Int32) (S : St) (out : St), k20 x1 x2 x3 S = some out → Rn yX12_goRound cX12_goRound 5 none (k_rm 1) 0 0 D dy S (k_Pv dy out) 20 [(0, .ref (D.2.2 51)), (1, .int x1), (2, .int x2), (3, .int x3)] []) (x1 : Int32) (x2 : Int32) (x3 : Int32) (x4 : Int32) (S : St) (out : St) (h : f_X12_goRound_135 k20 x1 x2 x3 x4 S = some out) : Rn yX12_goRound cX12_goRound 5 none (k_rm 1) 0 0 D dy S (k_Pv dy out) 135 [(0, .ref (D.2.2 51)), (1, .int x1), (2, .int x2), (3, .int x3), (4, .int x4)] [] := by
    unfold f_X12_goRound_135 at h
    refine r_iload_n 2 dX12_goRound_135 rfl rfl ?_
    refine r_bipush (v := 7) dX12_goRound_136 rfl ?_
    refine r_icmp_ge (t := 154) dX12_goRound_138 (by decide) (fun c => ?_) (fun c => ?_)
    · rw [if_pos c] at h
      refine r_iload_n 3 dX12_goRound_154 rfl rfl ?_
      refine r_iconst (v := 1) dX12_goRound_155 rfl ?_
      refine r_iload 4 dX12_goRound_156 rfl ?_
      refine r_ishl dX12_goRound_158 ?_
      refine r_iconst (v := -1) dX12_goRound_159 rfl ?_
      refine r_ixor dX12_goRound_160 ?_
      refine r_iand dX12_goRound_161 ?_
      refine r_istore_n dX12_goRound_162 rfl (by decide) rfl ?_
      refine r_sub [1, 2, 3, 0] rfl ?_
      exact w_X12_goRound_163 hk20 _ _ _ _ _ h
    · rw [if_neg c] at h
      refine r_iinc (q := 2) (v := x2 + (1 : Int32)) dX12_goRound_141 rfl rfl (by decide) rfl ?_
      refine r_aload_n 1 dX12_goRound_144 rfl rfl ?_
      refine gf_51_39 q_1350 dX12_goRound_145 ?_
      refine r_iload_n 0 dX12_goRound_148 rfl rfl ?_
      refine r_iload_n 2 dX12_goRound_149 rfl rfl ?_
      obtain ⟨c1, h⟩ := g_ite h
      refine as_72 (k_b_in c1) dX12_goRound_150 ?_
      generalize sA S 72 (x2 + (1 : Int32)).toNatClampNeg x1 = S2 at h ⊢
      replace h := g_let h
      refine r_goto (t := 163) dX12_goRound_151 (by decide) ?_
      refine r_sub [1, 2, 0, 3] rfl ?_
      exact w_X12_goRound_163 hk20 _ _ _ _ _ h
set_option maxRecDepth 100000 in
set_option maxHeartbeats 4000000 in
theorem w_X12_goRound_72 {D : k_D} {dy : Nat → Nat} {k20 : Int32 → Int32 → Int32 → St → Option (St)} (hk20 : ∀ (x1 : Int32) (x2 : Int32) (x3 : Int32) (S : St) (out : St), k20 x1 x2 x3 S = some out → Rn yX12_goRound cX12_goRound 5 none (k_rm 1) 0 0 D dy S (k_Pv dy out) 20 [(0, .ref (D.2.2 51)), (1, .int x1), (2, .int x2), (3, .int x3)] []) (x1 : Int32) (x2 : Int32) (s0 : Int32) (S : St) (out : St) (h : f_X12_goRound_72 k20 x1 x2 s0 S = some out) : Rn yX12_goRound cX12_goRound 5 none (k_rm 1) 0 0 D dy S (k_Pv dy out) 72 [(0, .ref (D.2.2 51)), (1, .int x1), (2, .int x2)] [.int s0] := by
    unfold f_X12_goRound_72 at h
    refine r_istore_n dX12_goRound_72 rfl (by decide) rfl ?_
    refine r_goto (t := 163) dX12_goRound_73 (by decide) ?_
    refine r_sub [1, 2, 3, 0] rfl ?_
    exact w_X12_goRound_163 hk20 _ _ _ _ _ h
set_option maxRecDepth 100000 in
set_option maxHeartbeats 4000000 in
theorem w_X12_goRound_20 {D : k_D} {dy : Nat → Nat} : ∀ (n : Nat) (x1 : Int32) (x2 : Int32) (x3 : Int32) (S : St) (out : St), f_X12_goRound_20 n x1 x2 x3 S = some out → Rn yX12_goRound cX12_goRound 5 none (k_rm 1) 0 0 D dy S (k_Pv dy out) 20 [(0, .ref (D.2.2 51)), (1, .int x1), (2, .int x2), (3, .int x3)] [] := by
  intro n
  induction n with
  | zero => intro x1 x2 x3 S out h; cases h
  | succ n ih =>
    intro x1 x2 x3 S out h
    rw [f_X12_goRound_20] at h
    refine r_iload_n 2 dX12_goRound_20 rfl rfl ?_
    refine r_if_le (t := 166) dX12_goRound_21 (by decide) (fun c => ?_) (fun c => ?_)
    · rw [if_pos c] at h
      exact r_vret rfl dX12_goRound_166 ⟨rfl, rfl, Option.some.inj h⟩
    · rw [if_neg c] at h
      refine r_aload_n 0 dX12_goRound_24 rfl rfl ?_
      refine gf_51_39 q_1350 dX12_goRound_25 ?_
      refine r_iload_n 2 dX12_goRound_28 rfl rfl ?_
      refine r_dup2 dX12_goRound_29 rfl rfl ?_
      obtain ⟨c1, h⟩ := g_ite h
      refine al_72 (k_b_in c1) dX12_goRound_30 ?_
      refine r_iconst (v := 1) dX12_goRound_31 rfl ?_
      refine r_iadd dX12_goRound_32 ?_
      obtain ⟨c2, h⟩ := g_ite h
      refine as_72 (k_b_in c2) dX12_goRound_33 ?_
      generalize sA S 72 x2.toNatClampNeg ((gA S 72 x2.toNatClampNeg) + (1 : Int32)) = S3 at h ⊢
      replace h := g_let h
      refine r_aload_n 0 dX12_goRound_34 rfl rfl ?_
      refine gf_51_39 q_1350 dX12_goRound_35 ?_
      refine r_iload_n 2 dX12_goRound_38 rfl rfl ?_
      obtain ⟨c4, h⟩ := g_ite h
      refine al_72 (k_b_in c4) dX12_goRound_39 ?_
      refine r_istore dX12_goRound_40 (by decide) rfl ?_
      refine r_iload 0 dX12_goRound_42 rfl ?_
      refine r_bipush (v := 8) dX12_goRound_44 rfl ?_
      refine r_icmp_lt (t := 76) dX12_goRound_46 (by decide) (fun c => ?_) (fun c => ?_)
      · rw [if_pos c] at h
        refine r_iload_n 4 dX12_goRound_76 rfl rfl ?_
        refine r_iload 0 dX12_goRound_77 rfl ?_
        obtain ⟨q79, hq79, h⟩ := g_bind h
        refine r_callSi [.int x3, .int (gA S3 72 x2.toNatClampNeg)] [] q79 (ok_X12_is hq79) q_1750 q_1751 q_1752 q_153 hd_X12_is ⟨Nat.le_of_ble_eq_true rfl, Nat.le_of_ble_eq_true rfl⟩ rfl rfl (Nat.le_of_ble_eq_true rfl) dX12_goRound_79 ?_
        refine r_if_ne (t := 163) dX12_goRound_82 (by decide) (fun c => ?_) (fun c => ?_)
        · rw [if_neg c] at h
          refine r_sub [1, 2, 3, 4] rfl ?_
          exact w_X12_goRound_163 ih _ _ _ _ _ h
        · rw [if_pos c] at h
          refine r_aload_n 1 dX12_goRound_85 rfl rfl ?_
          refine gf_51_38 q_1349 dX12_goRound_86 ?_
          refine r_aload_n 1 dX12_goRound_89 rfl rfl ?_
          refine gf_51_39 q_1350 dX12_goRound_90 ?_
          refine r_iload_n 3 dX12_goRound_93 rfl rfl ?_
          refine r_iconst (v := 1) dX12_goRound_94 rfl ?_
          refine r_isub dX12_goRound_95 ?_
          obtain ⟨c5, h⟩ := g_ite h
          refine al_72 (k_b_in c5) dX12_goRound_96 ?_
          obtain ⟨c6, h⟩ := g_ite h
          refine al_71 (k_b_in c6) dX12_goRound_97 ?_
          refine r_iload 0 dX12_goRound_98 rfl ?_
          obtain ⟨q100, hq100, h⟩ := g_bind h
          refine r_callSi [.int (gA q79.2 71 (gA q79.2 72 (x2 - (1 : Int32)).toNatClampNeg).toNatClampNeg), .int (gA S3 72 x2.toNatClampNeg)] [] q100 (ok_X12_is hq100) q_1750 q_1751 q_1752 q_153 hd_X12_is ⟨Nat.le_of_ble_eq_true rfl, Nat.le_of_ble_eq_true rfl⟩ rfl rfl (Nat.le_of_ble_eq_true rfl) dX12_goRound_100 ?_
          refine r_if_eq (t := 163) dX12_goRound_103 (by decide) (fun c => ?_) (fun c => ?_)
          · rw [if_pos c] at h
            refine r_sub [1, 2, 3, 4] rfl ?_
            exact w_X12_goRound_163 ih _ _ _ _ _ h
          · rw [if_neg c] at h
            refine r_iload_n 4 dX12_goRound_106 rfl rfl ?_
            refine r_iconst (v := 1) dX12_goRound_107 rfl ?_
            refine r_iload 0 dX12_goRound_108 rfl ?_
            refine r_ishl dX12_goRound_110 ?_
            refine r_ior dX12_goRound_111 ?_
            refine r_istore_n dX12_goRound_112 rfl (by decide) rfl ?_
            refine r_aload_n 2 dX12_goRound_113 rfl rfl ?_
            refine gf_51_38 q_1349 dX12_goRound_114 ?_
            refine r_iload 1 dX12_goRound_117 rfl ?_
            obtain ⟨c7, h⟩ := g_ite h
            refine al_71 (k_b_in c7) dX12_goRound_119 ?_
            refine r_iload_n 3 dX12_goRound_120 rfl rfl ?_
            obtain ⟨q121, hq121, h⟩ := g_bind h
            refine r_callSi [.int (gA q100.2 71 (gA S3 72 x2.toNatClampNeg).toNatClampNeg), .int x1] [] q121 (ok_X12_is hq121) q_1750 q_1751 q_1752 q_153 hd_X12_is ⟨Nat.le_of_ble_eq_true rfl, Nat.le_of_ble_eq_true rfl⟩ rfl rfl (Nat.le_of_ble_eq_true rfl) dX12_goRound_121 ?_
            refine r_if_eq (t := 135) dX12_goRound_124 (by decide) (fun c => ?_) (fun c => ?_)
            · rw [if_pos c] at h
              refine r_sub [2, 3, 4, 0, 1] rfl ?_
              exact w_X12_goRound_135 ih _ _ _ _ _ _ h
            · rw [if_neg c] at h
              refine r_aload_n 2 dX12_goRound_127 rfl rfl ?_
              refine r_iload_n 4 dX12_goRound_128 rfl rfl ?_
              refine r_iconst (v := 1) dX12_goRound_129 rfl ?_
              refine r_iadd dX12_goRound_130 ?_
              refine r_iload_n 0 dX12_goRound_131 rfl rfl ?_
              obtain ⟨q132, hq132, h⟩ := g_bind h
              refine r_callVv [.int (x2 + (1 : Int32)), .int (x3 ||| ((1 : Int32) <<< ((gA S3 72 x2.toNatClampNeg) &&& 31)))] [] q132 (ok_X12_keepRing hq132) q_1772 q_1774 q_130 q_1775 q_153 hd_X12_keepRing (ce_51 D dy _) kc12.1 rfl ⟨Nat.le_of_ble_eq_true rfl, Nat.le_of_ble_eq_true rfl⟩ rfl rfl (Nat.le_of_ble_eq_true rfl) dX12_goRound_132 ?_
              refine r_sub [2, 3, 4, 0, 1] rfl ?_
              exact w_X12_goRound_135 ih _ _ _ _ _ _ h
      · rw [if_neg c] at h
        refine r_iinc (q := 3) (v := x2 + (-1 : Int32)) dX12_goRound_49 rfl rfl (by decide) rfl ?_
        refine r_iload_n 0 dX12_goRound_52 rfl rfl ?_
        refine r_if_le (t := 71) dX12_goRound_53 (by decide) (fun c => ?_) (fun c => ?_)
        · rw [if_pos c] at h
          refine r_iload_n 4 dX12_goRound_71 rfl rfl ?_
          refine r_sub [2, 3, 0] rfl ?_
          exact w_X12_goRound_72 ih _ _ _ _ _ h
        · rw [if_neg c] at h
          refine r_iload_n 4 dX12_goRound_56 rfl rfl ?_
          refine r_iconst (v := 1) dX12_goRound_57 rfl ?_
          refine r_aload_n 2 dX12_goRound_58 rfl rfl ?_
          refine gf_51_39 q_1350 dX12_goRound_59 ?_
          refine r_iload_n 0 dX12_goRound_62 rfl rfl ?_
          obtain ⟨c8, h⟩ := g_ite h
          refine al_72 (k_b_in c8) dX12_goRound_63 ?_
          refine r_ishl dX12_goRound_64 ?_
          refine r_iconst (v := -1) dX12_goRound_65 rfl ?_
          refine r_ixor dX12_goRound_66 ?_
          refine r_iand dX12_goRound_67 ?_
          refine r_goto (t := 72) dX12_goRound_68 (by decide) ?_
          refine r_sub [2, 3, 0] rfl ?_
          exact w_X12_goRound_72 ih _ _ _ _ _ h
set_option maxRecDepth 100000 in
set_option maxHeartbeats 4000000 in
theorem w_X12_goRound_0 {D : k_D} {dy : Nat → Nat} (x1 : Int32) (S : St) (out : St) (h : f_X12_goRound x1 S = some out) : Rn yX12_goRound cX12_goRound 5 none (k_rm 1) 0 0 D dy S (k_Pv dy out) 0 [(0, .ref (D.2.2 51)), (1, .int x1)] [] := by
    unfold f_X12_goRound at h
    refine r_iconst (v := 1) dX12_goRound_0 rfl ?_
    refine r_istore_n dX12_goRound_1 rfl (by decide) rfl ?_
    refine r_iconst (v := 1) dX12_goRound_2 rfl ?_
    refine r_iload_n 2 dX12_goRound_3 rfl rfl ?_
    refine r_ishl dX12_goRound_4 ?_
    refine r_istore_n dX12_goRound_5 rfl (by decide) rfl ?_
    refine r_aload_n 2 dX12_goRound_6 rfl rfl ?_
    refine gf_51_39 q_1350 dX12_goRound_7 ?_
    refine r_iconst (v := 0) dX12_goRound_10 rfl ?_
    refine r_iload_n 3 dX12_goRound_11 rfl rfl ?_
    obtain ⟨c1, h⟩ := g_ite h
    refine as_72 (k_b_in c1) dX12_goRound_12 ?_
    generalize sA S 72 (0 : Int32).toNatClampNeg x1 = S2 at h ⊢
    replace h := g_let h
    refine r_aload_n 2 dX12_goRound_13 rfl rfl ?_
    refine gf_51_39 q_1350 dX12_goRound_14 ?_
    refine r_iconst (v := 1) dX12_goRound_17 rfl ?_
    refine r_iload_n 3 dX12_goRound_18 rfl rfl ?_
    obtain ⟨c3, h⟩ := g_ite h
    refine as_72 (k_b_in c3) dX12_goRound_19 ?_
    generalize sA S2 72 (1 : Int32).toNatClampNeg x1 = S4 at h ⊢
    replace h := g_let h
    refine r_sub [2, 3, 1, 0] rfl ?_
    exact w_X12_goRound_20 _ _ _ _ _ _ h
theorem ok_X12_goRound {D : k_D} {dy : Nat → Nat} {x1 : Int32} {S : St} {out : St} (h : f_X12_goRound x1 S = some out) : Sp yX12_goRound cX12_goRound 5 none (k_rm 1) D dy S [.ref (D.2.2 51), .int x1] (k_Pv dy out) := Sp.of (by decide +kernel) (Nat.le_of_ble_eq_true rfl) (w_X12_goRound_0 _ S out h)
noncomputable def f_X12_findRing_73 : Nat → Int32 → St → Option (St)
  | 0, _, _ => none
  | n + 1, x2, S => if (8 : Int32) ≤ x2 then some S else (f_X12_goRound x2 S).bind fun q81 => f_X12_findRing_73 n (x2 + (1 : Int32)) q81
noncomputable def f_X12_findRing_57 (k27 : Int32 → Int32 → Int32 → St → Option (St)) (x1 : Int32) (x2 : Int32) (x3 : Int32) (s1 : Int32) (s2 : Int32) (s3 : Int32) (S : St) : Option (St) := if k_b s1 8 = true then k_let (sA S 71 s1.toNatClampNeg (s2 ||| s3)) fun S2 => k27 x1 x2 (x3 + (1 : Int32)) S2 else none
noncomputable def f_X12_findRing_27 (k12 : Int32 → Int32 → St → Option (St)) : Nat → Int32 → Int32 → Int32 → St → Option (St)
  | 0, _, _, _, _ => none
  | n + 1, x1, x2, x3, S => if (8 : Int32) ≤ x3 then k12 x1 (x2 + (1 : Int32)) S else if k_b x2 8 = true then (f_X12_between x2 x3 x1 S).bind fun q44 => if q44.1 ≤ 0 then f_X12_findRing_57 (f_X12_findRing_27 k12 n) x1 x2 x3 x2 (gA S 71 x2.toNatClampNeg) (0 : Int32) q44.2 else f_X12_findRing_57 (f_X12_findRing_27 k12 n) x1 x2 x3 x2 (gA S 71 x2.toNatClampNeg) ((1 : Int32) <<< (x3 &&& 31)) q44.2 else none
noncomputable def f_X12_findRing_12 : Nat → Int32 → Int32 → St → Option (St)
  | 0, _, _, _ => none
  | n + 1, x1, x2, S => if (8 : Int32) ≤ x2 then f_X12_findRing_73 FU (0 : Int32) S else if k_b x2 8 = true then k_let (sA S 71 x2.toNatClampNeg (0 : Int32)) fun S2 => f_X12_findRing_27 (f_X12_findRing_12 n) FU x1 x2 (0 : Int32) S2 else none
noncomputable def f_X12_findRing (x1 : Int32) (S : St) : Option (St) := k_let (sI S 49 (0 : Int32)) fun S1 => k_let (sI S1 50 (0 : Int32)) fun S2 => f_X12_findRing_12 FU x1 (0 : Int32) S2
set_option maxRecDepth 100000 in
set_option maxHeartbeats 4000000 in
theorem w_X12_findRing_73 {D : k_D} {dy : Nat → Nat} : ∀ (n : Nat) (x2 : Int32) (S : St) (out : St), f_X12_findRing_73 n x2 S = some out → Rn yX12_findRing cX12_findRing 4 none (k_rm 3) 0 0 D dy S (k_Pv dy out) 73 [(0, .ref (D.2.2 51)), (2, .int x2)] [] := by
  intro n
  induction n with
  | zero => intro x2 S out h; cases h
  | succ n ih =>
    intro x2 S out h
    rw [f_X12_findRing_73] at h
    refine r_iload_n 1 dX12_findRing_73 rfl rfl ?_
    refine r_bipush (v := 8) dX12_findRing_74 rfl ?_
    refine r_icmp_ge (t := 90) dX12_findRing_76 (by decide) (fun c => ?_) (fun c => ?_)
    · rw [if_pos c] at h
      exact r_vret rfl dX12_findRing_90 ⟨rfl, rfl, Option.some.inj h⟩
    · rw [if_neg c] at h
      refine r_aload_n 0 dX12_findRing_79 rfl rfl ?_
      refine r_iload_n 1 dX12_findRing_80 rfl rfl ?_
      obtain ⟨q81, hq81, h⟩ := g_bind h
      refine r_callVv [.int x2] [] q81 (ok_X12_goRound hq81) q_1768 q_1770 q_129 q_1771 q_153 hd_X12_goRound (ce_51 D dy _) kc12.1 rfl ⟨Nat.le_of_ble_eq_true rfl, Nat.le_of_ble_eq_true rfl⟩ rfl rfl (Nat.le_of_ble_eq_true rfl) dX12_findRing_81 ?_
      refine r_iinc (q := 1) (v := x2 + (1 : Int32)) dX12_findRing_84 rfl rfl (by decide) rfl ?_
      refine r_goto (t := 73) dX12_findRing_87 (by decide) ?_
      refine r_sub [1, 0] rfl ?_
      exact ih _ _ _ h
set_option maxRecDepth 100000 in
set_option maxHeartbeats 4000000 in
theorem w_X12_findRing_57 {D : k_D} {dy : Nat → Nat} {k27 : Int32 → Int32 → Int32 → St → Option (St)} (hk27 : ∀ (x1 : Int32) (x2 : Int32) (x3 : Int32) (S : St) (out : St), k27 x1 x2 x3 S = some out → Rn yX12_findRing cX12_findRing 4 none (k_rm 3) 0 0 D dy S (k_Pv dy out) 27 [(0, .ref (D.2.2 51)), (1, .int x1), (2, .int x2), (3, .int x3)] []) (x1 : Int32) (x2 : Int32) (x3 : Int32) (s1 : Int32) (s2 : Int32) (s3 : Int32) (S : St) (out : St) (h : f_X12_findRing_57 k27 x1 x2 x3 s1 s2 s3 S = some out) : Rn yX12_findRing cX12_findRing 4 none (k_rm 3) 0 0 D dy S (k_Pv dy out) 57 [(0, .ref (D.2.2 51)), (1, .int x1), (2, .int x2), (3, .int x3)] [.int s3, .int s2, .int s1, .ref (D.2.2 71)] := by
    unfold f_X12_findRing_57 at h
    refine r_ior dX12_findRing_57 ?_
    obtain ⟨c1, h⟩ := g_ite h
    refine as_71 (k_b_in c1) dX12_findRing_58 ?_
    generalize sA S 71 s1.toNatClampNeg (s2 ||| s3) = S2 at h ⊢
    replace h := g_let h
    refine r_iinc (q := 3) (v := x3 + (1 : Int32)) dX12_findRing_59 rfl rfl (by decide) rfl ?_
    refine r_goto (t := 27) dX12_findRing_62 (by decide) ?_
    refine r_sub [1, 2, 3, 0] rfl ?_
    exact hk27 _ _ _ _ _ h
set_option maxRecDepth 100000 in
set_option maxHeartbeats 4000000 in
theorem w_X12_findRing_27 {D : k_D} {dy : Nat → Nat} {k12 : Int32 → Int32 → St → Option (St)} (hk12 : ∀ (x1 : Int32) (x2 : Int32) (S : St) (out : St), k12 x1 x2 S = some out → Rn yX12_findRing cX12_findRing 4 none (k_rm 3) 0 0 D dy S (k_Pv dy out) 12 [(0, .ref (D.2.2 51)), (1, .int x1), (2, .int x2)] []) : ∀ (n : Nat) (x1 : Int32) (x2 : Int32) (x3 : Int32) (S : St) (out : St), f_X12_findRing_27 k12 n x1 x2 x3 S = some out → Rn yX12_findRing cX12_findRing 4 none (k_rm 3) 0 0 D dy S (k_Pv dy out) 27 [(0, .ref (D.2.2 51)), (1, .int x1), (2, .int x2), (3, .int x3)] [] := by
  intro n
  induction n with
  | zero => intro x1 x2 x3 S out h; cases h
  | succ n ih =>
    intro x1 x2 x3 S out h
    rw [f_X12_findRing_27] at h
    refine r_iload_n 3 dX12_findRing_27 rfl rfl ?_
    refine r_bipush (v := 8) dX12_findRing_28 rfl ?_
    refine r_icmp_ge (t := 65) dX12_findRing_30 (by decide) (fun c => ?_) (fun c => ?_)
    · rw [if_pos c] at h
      refine r_iinc (q := 2) (v := x2 + (1 : Int32)) dX12_findRing_65 rfl rfl (by decide) rfl ?_
      refine r_goto (t := 12) dX12_findRing_68 (by decide) ?_
      refine r_sub [1, 2, 0] rfl ?_
      exact hk12 _ _ _ _ h
    · rw [if_neg c] at h
      refine r_aload_n 0 dX12_findRing_33 rfl rfl ?_
      refine gf_51_38 q_1349 dX12_findRing_34 ?_
      refine r_iload_n 2 dX12_findRing_37 rfl rfl ?_
      refine r_dup2 dX12_findRing_38 rfl rfl ?_
      obtain ⟨c1, h⟩ := g_ite h
      refine al_71 (k_b_in c1) dX12_findRing_39 ?_
      refine r_aload_n 0 dX12_findRing_40 rfl rfl ?_
      refine r_iload_n 2 dX12_findRing_41 rfl rfl ?_
      refine r_iload_n 3 dX12_findRing_42 rfl rfl ?_
      refine r_iload_n 1 dX12_findRing_43 rfl rfl ?_
      obtain ⟨q44, hq44, h⟩ := g_bind h
      refine r_callVi [.int x2, .int x3, .int x1] [.int (gA S 71 x2.toNatClampNeg), .int x2, .ref (D.2.2 71)] q44 (ok_X12_between hq44) q_1764 q_1766 q_128 q_1767 q_153 hd_X12_between (ce_51 D dy _) kc12.1 rfl ⟨Nat.le_of_ble_eq_true rfl, Nat.le_of_ble_eq_true rfl⟩ rfl rfl (Nat.le_of_ble_eq_true rfl) dX12_findRing_44 ?_
      refine r_if_le (t := 56) dX12_findRing_47 (by decide) (fun c => ?_) (fun c => ?_)
      · rw [if_pos c] at h
        refine r_iconst (v := 0) dX12_findRing_56 rfl ?_
        exact w_X12_findRing_57 ih _ _ _ _ _ _ _ _ h
      · rw [if_neg c] at h
        refine r_iconst (v := 1) dX12_findRing_50 rfl ?_
        refine r_iload_n 3 dX12_findRing_51 rfl rfl ?_
        refine r_ishl dX12_findRing_52 ?_
        refine r_goto (t := 57) dX12_findRing_53 (by decide) ?_
        exact w_X12_findRing_57 ih _ _ _ _ _ _ _ _ h
set_option maxRecDepth 100000 in
set_option maxHeartbeats 4000000 in
theorem w_X12_findRing_12 {D : k_D} {dy : Nat → Nat} : ∀ (n : Nat) (x1 : Int32) (x2 : Int32) (S : St) (out : St), f_X12_findRing_12 n x1 x2 S = some out → Rn yX12_findRing cX12_findRing 4 none (k_rm 3) 0 0 D dy S (k_Pv dy out) 12 [(0, .ref (D.2.2 51)), (1, .int x1), (2, .int x2)] [] := by
  intro n
  induction n with
  | zero => intro x1 x2 S out h; cases h
  | succ n ih =>
    intro x1 x2 S out h
    rw [f_X12_findRing_12] at h
    refine r_iload_n 2 dX12_findRing_12 rfl rfl ?_
    refine r_bipush (v := 8) dX12_findRing_13 rfl ?_
    refine r_icmp_ge (t := 71) dX12_findRing_15 (by decide) (fun c => ?_) (fun c => ?_)
    · rw [if_pos c] at h
      refine r_iconst (v := 0) dX12_findRing_71 rfl ?_
      refine r_istore_n dX12_findRing_72 rfl (by decide) rfl ?_
      refine r_sub [1, 0] rfl ?_
      exact w_X12_findRing_73 _ _ _ _ h
    · rw [if_neg c] at h
      refine r_aload_n 0 dX12_findRing_18 rfl rfl ?_
      refine gf_51_38 q_1349 dX12_findRing_19 ?_
      refine r_iload_n 2 dX12_findRing_22 rfl rfl ?_
      refine r_iconst (v := 0) dX12_findRing_23 rfl ?_
      obtain ⟨c1, h⟩ := g_ite h
      refine as_71 (k_b_in c1) dX12_findRing_24 ?_
      generalize sA S 71 x2.toNatClampNeg (0 : Int32) = S2 at h ⊢
      replace h := g_let h
      refine r_iconst (v := 0) dX12_findRing_25 rfl ?_
      refine r_istore_n dX12_findRing_26 rfl (by decide) rfl ?_
      refine r_sub [1, 2, 3, 0] rfl ?_
      exact w_X12_findRing_27 ih _ _ _ _ _ _ h
set_option maxRecDepth 100000 in
set_option maxHeartbeats 4000000 in
theorem w_X12_findRing_0 {D : k_D} {dy : Nat → Nat} (x1 : Int32) (S : St) (out : St) (h : f_X12_findRing x1 S = some out) : Rn yX12_findRing cX12_findRing 4 none (k_rm 3) 0 0 D dy S (k_Pv dy out) 0 [(0, .ref (D.2.2 51)), (1, .int x1)] [] := by
    unfold f_X12_findRing at h
    refine r_aload_n 0 dX12_findRing_0 rfl rfl ?_
    refine r_iconst (v := 0) dX12_findRing_1 rfl ?_
    refine pf_51_41 q_1352 dX12_findRing_2 ?_
    generalize sI S 49 (0 : Int32) = S1 at h ⊢
    replace h := g_let h
    refine r_aload_n 0 dX12_findRing_5 rfl rfl ?_
    refine r_iconst (v := 0) dX12_findRing_6 rfl ?_
    refine pf_51_42 q_1353 dX12_findRing_7 ?_
    generalize sI S1 50 (0 : Int32) = S2 at h ⊢
    replace h := g_let h
    refine r_iconst (v := 0) dX12_findRing_10 rfl ?_
    refine r_istore_n dX12_findRing_11 rfl (by decide) rfl ?_
    refine r_sub [1, 2, 0] rfl ?_
    exact w_X12_findRing_12 _ _ _ _ _ h
theorem ok_X12_findRing {D : k_D} {dy : Nat → Nat} {x1 : Int32} {S : St} {out : St} (h : f_X12_findRing x1 S = some out) : Sp yX12_findRing cX12_findRing 4 none (k_rm 3) D dy S [.ref (D.2.2 51), .int x1] (k_Pv dy out) := Sp.of (by decide +kernel) (Nat.le_of_ble_eq_true rfl) (w_X12_findRing_0 _ S out h)
noncomputable def f_X12_ring_73 (s0 : Int32) (S : St) : Option (Int32 × St) := some (s0, S)
noncomputable def f_X12_ring (x1 : Int32) (x2 : Int32) (S : St) : Option (Int32 × St) := k_let (sI S 33 (0 : Int32)) fun S1 => (f_X12_isTune x1 S1).bind fun q7 => if q7.1 = 0 then some ((-1 : Int32), q7.2) else (f_X12_askAll q7.2).bind fun q16 => (f_X12_findRing x1 q16).bind fun q21 => if (gI q21 49) = 0 then f_X12_ring_73 (-1 : Int32) q21 else if x2 = (-1 : Int32) then f_X12_ring_73 (gI q21 49) q21 else (f_X12_in x2.toInt64 (0 : Int64) (((gI q21 49).toInt64) - (1 : Int64)) q21).bind fun q57 => if q57.1 = 0 then f_X12_ring_73 (-1 : Int32) q57.2 else if k_b x2 8 = true then f_X12_ring_73 (gA q57.2 73 x2.toNatClampNeg) q57.2 else none
set_option maxRecDepth 100000 in
set_option maxHeartbeats 4000000 in
theorem w_X12_ring_73 {D : k_D} {dy : Nat → Nat} (s0 : Int32) (S : St) (out : Int32 × St) (h : f_X12_ring_73 s0 S = some out) : Rn yX12_ring cX12_ring 3 (some .int) (k_rm 5) 0 0 D dy S (k_Pi dy out) 73 [] [.int s0] := by
    unfold f_X12_ring_73 at h
    cases h
    exact r_iret rfl dX12_ring_73 ⟨rfl, rfl, rfl⟩
set_option maxRecDepth 100000 in
set_option maxHeartbeats 4000000 in
theorem w_X12_ring_0 {D : k_D} {dy : Nat → Nat} (x1 : Int32) (x2 : Int32) (S : St) (out : Int32 × St) (h : f_X12_ring x1 x2 S = some out) : Rn yX12_ring cX12_ring 3 (some .int) (k_rm 5) 0 0 D dy S (k_Pi dy out) 0 [(0, .ref (D.2.2 51)), (1, .int x1), (2, .int x2)] [] := by
    unfold f_X12_ring at h
    refine r_aload_n 0 dX12_ring_0 rfl rfl ?_
    refine r_iconst (v := 0) dX12_ring_1 rfl ?_
    refine pf_51_0 q_1311 dX12_ring_2 ?_
    generalize sI S 33 (0 : Int32) = S1 at h ⊢
    replace h := g_let h
    refine r_aload_n 0 dX12_ring_5 rfl rfl ?_
    refine r_iload_n 1 dX12_ring_6 rfl rfl ?_
    obtain ⟨q7, hq7, h⟩ := g_bind h
    refine r_callVi [.int x1] [] q7 (ok_X12_isTune hq7) q_1501 q_1503 q_90 q_1504 q_153 hd_X12_isTune (ce_51 D dy _) kc12.1 rfl ⟨Nat.le_of_ble_eq_true rfl, Nat.le_of_ble_eq_true rfl⟩ rfl rfl (Nat.le_of_ble_eq_true rfl) dX12_ring_7 ?_
    refine r_if_ne (t := 15) dX12_ring_10 (by decide) (fun c => ?_) (fun c => ?_)
    · rw [if_neg c] at h
      refine r_aload_n 0 dX12_ring_15 rfl rfl ?_
      obtain ⟨q16, hq16, h⟩ := g_bind h
      refine r_callVv [] [] q16 (ok_X12_askAll hq16) q_1537 q_1539 q_95 q_1540 q_153 hd_X12_askAll (ce_51 D dy _) kc12.1 rfl ⟨Nat.le_of_ble_eq_true rfl, Nat.le_of_ble_eq_true rfl⟩ rfl rfl (Nat.le_of_ble_eq_true rfl) dX12_ring_16 ?_
      refine r_aload_n 0 dX12_ring_19 rfl rfl ?_
      refine r_iload_n 1 dX12_ring_20 rfl rfl ?_
      obtain ⟨q21, hq21, h⟩ := g_bind h
      refine r_callVv [.int x1] [] q21 (ok_X12_findRing hq21) q_1760 q_1762 q_127 q_1763 q_153 hd_X12_findRing (ce_51 D dy _) kc12.1 rfl ⟨Nat.le_of_ble_eq_true rfl, Nat.le_of_ble_eq_true rfl⟩ rfl rfl (Nat.le_of_ble_eq_true rfl) dX12_ring_21 ?_
      refine r_aload_n 0 dX12_ring_24 rfl rfl ?_
      refine gf_51_41 q_1352 dX12_ring_25 ?_
      refine r_if_ne (t := 35) dX12_ring_28 (by decide) (fun c => ?_) (fun c => ?_)
      · rw [if_neg c] at h
        refine r_iload_n 2 dX12_ring_35 rfl rfl ?_
        refine r_iconst (v := -1) dX12_ring_36 rfl ?_
        refine r_icmp_ne (t := 47) dX12_ring_37 (by decide) (fun c => ?_) (fun c => ?_)
        · rw [if_neg c] at h
          refine r_iload_n 2 dX12_ring_47 rfl rfl ?_
          refine r_i2l dX12_ring_48 ?_
          refine r_lconst (v := 0) dX12_ring_49 rfl ?_
          refine r_aload_n 0 dX12_ring_50 rfl rfl ?_
          refine gf_51_41 q_1352 dX12_ring_51 ?_
          refine r_i2l dX12_ring_54 ?_
          refine r_lconst (v := 1) dX12_ring_55 rfl ?_
          refine r_lsub dX12_ring_56 ?_
          obtain ⟨q57, hq57, h⟩ := g_bind h
          refine r_callSi [.long x2.toInt64, .long (0 : Int64), .long (((gI q21 49).toInt64) - (1 : Int64))] [] q57 (ok_X12_in hq57) q_1481 q_1482 q_1483 q_153 hd_X12_in ⟨Nat.le_of_ble_eq_true rfl, Nat.le_of_ble_eq_true rfl⟩ rfl rfl (Nat.le_of_ble_eq_true rfl) dX12_ring_57 ?_
          refine r_if_eq (t := 72) dX12_ring_60 (by decide) (fun c => ?_) (fun c => ?_)
          · rw [if_pos c] at h
            refine r_iconst (v := -1) dX12_ring_72 rfl ?_
            refine r_sub [] rfl ?_
            exact w_X12_ring_73 _ _ _ h
          · rw [if_neg c] at h
            refine r_aload_n 0 dX12_ring_63 rfl rfl ?_
            refine gf_51_40 q_1351 dX12_ring_64 ?_
            refine r_iload_n 2 dX12_ring_67 rfl rfl ?_
            obtain ⟨c2, h⟩ := g_ite h
            refine al_73 (k_b_in c2) dX12_ring_68 ?_
            refine r_goto (t := 73) dX12_ring_69 (by decide) ?_
            refine r_sub [] rfl ?_
            exact w_X12_ring_73 _ _ _ h
        · rw [if_pos c] at h
          refine r_aload_n 0 dX12_ring_40 rfl rfl ?_
          refine gf_51_41 q_1352 dX12_ring_41 ?_
          refine r_goto (t := 73) dX12_ring_44 (by decide) ?_
          refine r_sub [] rfl ?_
          exact w_X12_ring_73 _ _ _ h
      · rw [if_pos c] at h
        refine r_iconst (v := -1) dX12_ring_31 rfl ?_
        refine r_goto (t := 73) dX12_ring_32 (by decide) ?_
        refine r_sub [] rfl ?_
        exact w_X12_ring_73 _ _ _ h
    · rw [if_pos c] at h
      refine r_iconst (v := -1) dX12_ring_13 rfl ?_
      cases h
      exact r_iret rfl dX12_ring_14 ⟨rfl, rfl, rfl⟩
theorem ok_X12_ring {D : k_D} {dy : Nat → Nat} {x1 : Int32} {x2 : Int32} {S : St} {out : Int32 × St} (h : f_X12_ring x1 x2 S = some out) : Sp yX12_ring cX12_ring 3 (some .int) (k_rm 5) D dy S [.ref (D.2.2 51), .int x1, .int x2] (k_Pi dy out) := Sp.of (by decide +kernel) (Nat.le_of_ble_eq_true rfl) (w_X12_ring_0 _ _ S out h)
noncomputable def f_X12_cancel_216 (k118 : Int32 → Int32 → Int32 → Int32 → Int32 → St → Option (Int32 × St)) (x1 : Int32) (x2 : Int32) (x3 : Int32) (x4 : Int32) (x5 : Int32) (s0 : Int32) (S : St) : Option (Int32 × St) := if k_b (((14 : Int32) + ((5 : Int32) * x5)) + (3 : Int32)) 5560 = true then if k_b (((14 : Int32) + ((5 : Int32) * x5)) + (3 : Int32)) 5560 = true then k_let (sA S 53 (((14 : Int32) + ((5 : Int32) * x5)) + (3 : Int32)).toNatClampNeg ((gA S 53 (((14 : Int32) + ((5 : Int32) * x5)) + (3 : Int32)).toNatClampNeg) - s0)) fun S3 => k118 x1 x2 x3 (x4 - s0) (x5 + (1 : Int32)) S3 else none else none
noncomputable def f_X12_cancel_181 (k118 : Int32 → Int32 → Int32 → Int32 → Int32 → St → Option (Int32 × St)) (x1 : Int32) (x2 : Int32) (x3 : Int32) (x4 : Int32) (x5 : Int32) (s0 : Int32) (S : St) : Option (Int32 × St) := if s0 = 0 then f_X12_cancel_216 k118 x1 x2 x3 x4 x5 (0 : Int32) S else (f_X12_ofDebt x5 (3 : Int32) S).bind fun q196 => if x4 ≤ q196.1 then f_X12_cancel_216 k118 x1 x2 x3 x4 x5 x4 q196.2 else (f_X12_ofDebt x5 (3 : Int32) q196.2).bind fun q208 => f_X12_cancel_216 k118 x1 x2 x3 x4 x5 q208.1 q208.2
noncomputable def f_X12_cancel_180 (k118 : Int32 → Int32 → Int32 → Int32 → Int32 → St → Option (Int32 × St)) (x1 : Int32) (x2 : Int32) (x3 : Int32) (x4 : Int32) (x5 : Int32) (S : St) : Option (Int32 × St) := f_X12_cancel_181 k118 x1 x2 x3 x4 x5 (0 : Int32) S
noncomputable def f_X12_cancel_118 (k104 : Int32 → Int32 → Int32 → St → Option (Int32 × St)) : Nat → Int32 → Int32 → Int32 → Int32 → Int32 → St → Option (Int32 × St)
  | 0, _, _, _, _, _, _ => none
  | n + 1, x1, x2, x3, x4, x5, S => (f_X12_debts S).bind fun q121 => if q121.1 ≤ x5 then k104 x1 x2 (x3 + (1 : Int32)) q121.2 else (f_X12_counts x5 x1 q121.2).bind fun q131 => if q131.1 = 0 then f_X12_cancel_180 (f_X12_cancel_118 k104 n) x1 x2 x3 x4 x5 q131.2 else (f_X12_ofDebt x5 (0 : Int32) q131.2).bind fun q141 => if k_b x3 8 = true then if q141.1 = (gA q141.2 73 x3.toNatClampNeg) then (f_X12_ofDebt x5 (1 : Int32) q141.2).bind fun q157 => if ¬ (gI q157.2 49) = 0 then if k_b ((x3 + (1 : Int32)) - (x3 + (1 : Int32)) / (gI q157.2 49) * (gI q157.2 49)) 8 = true then if q157.1 = (gA q157.2 73 ((x3 + (1 : Int32)) - (x3 + (1 : Int32)) / (gI q157.2 49) * (gI q157.2 49)).toNatClampNeg) then f_X12_cancel_181 (f_X12_cancel_118 k104 n) x1 x2 x3 x4 x5 (1 : Int32) q157.2 else f_X12_cancel_180 (f_X12_cancel_118 k104 n) x1 x2 x3 x4 x5 q157.2 else none else none else f_X12_cancel_180 (f_X12_cancel_118 k104 n) x1 x2 x3 x4 x5 q141.2 else none
noncomputable def f_X12_cancel_104 : Nat → Int32 → Int32 → Int32 → St → Option (Int32 × St)
  | 0, _, _, _, _ => none
  | n + 1, x1, x2, x3, S => if (gI S 49) ≤ x3 then (f_X12_sweep S).bind fun q257 => (f_X12_tell x2 q257).bind fun q262 => some (q262.1, q262.2) else f_X12_cancel_118 (f_X12_cancel_104 n) FU x1 x2 x3 x2 (0 : Int32) S
noncomputable def f_X12_cancel_95 (k49 : Int32 → Int32 → Int32 → St → Option (Int32 × St)) (x1 : Int32) (x3 : Int32) (s0 : Int32) (S : St) : Option (Int32 × St) := k49 x1 s0 (x3 + (1 : Int32)) S
noncomputable def f_X12_cancel_49 : Nat → Int32 → Int32 → Int32 → St → Option (Int32 × St)
  | 0, _, _, _, _ => none
  | n + 1, x1, x2, x3, S => if (gI S 49) ≤ x3 then f_X12_cancel_104 FU x1 x2 (0 : Int32) S else if k_b x3 8 = true then if ¬ (gI S 49) = 0 then if k_b ((x3 + (1 : Int32)) - (x3 + (1 : Int32)) / (gI S 49) * (gI S 49)) 8 = true then (f_X12_between (gA S 73 x3.toNatClampNeg) (gA S 73 ((x3 + (1 : Int32)) - (x3 + (1 : Int32)) / (gI S 49) * (gI S 49)).toNatClampNeg) x1 S).bind fun q78 => if x2 ≤ q78.1 then f_X12_cancel_95 (f_X12_cancel_49 n) x1 x3 x2 q78.2 else f_X12_cancel_95 (f_X12_cancel_49 n) x1 x3 q78.1 q78.2 else none else none else none
noncomputable def f_X12_cancel (x1 : Int32) (S : St) : Option (Int32 × St) := k_let (sI S 33 (0 : Int32)) fun S1 => (f_X12_isTune x1 S1).bind fun q7 => if q7.1 = 0 then (f_X12_tell (-2 : Int32) q7.2).bind fun q16 => some (q16.1, q16.2) else (f_X12_askAll q7.2).bind fun q21 => (f_X12_findRing x1 q21).bind fun q26 => if (gI q26 49) = 0 then (f_X12_tell (-3 : Int32) q26).bind fun q39 => some (q39.1, q39.2) else f_X12_cancel_49 FU x1 (1000000 : Int32) (0 : Int32) q26
set_option maxRecDepth 100000 in
set_option maxHeartbeats 4000000 in
theorem w_X12_cancel_216 {D : k_D} {dy : Nat → Nat} {k118 : Int32 → Int32 → Int32 → Int32 → Int32 → St → Option (Int32 × St)} (hk118 : ∀ (x1 : Int32) (x2 : Int32) (x3 : Int32) (x4 : Int32) (x5 : Int32) (S : St) (out : Int32 × St), k118 x1 x2 x3 x4 x5 S = some out → Rn yX12_cancel cX12_cancel 8 (some .int) (k_rm 5) 0 0 D dy S (k_Pi dy out) 118 [(0, .ref (D.2.2 51)), (1, .int x1), (2, .int x2), (3, .int x3), (4, .int x4), (5, .int x5)] []) (x1 : Int32) (x2 : Int32) (x3 : Int32) (x4 : Int32) (x5 : Int32) (s0 : Int32) (S : St) (out : Int32 × St) (h : f_X12_cancel_216 k118 x1 x2 x3 x4 x5 s0 S = some out) : Rn yX12_cancel cX12_cancel 8 (some .int) (k_rm 5) 0 0 D dy S (k_Pi dy out) 216 [(0, .ref (D.2.2 51)), (1, .int x1), (2, .int x2), (3, .int x3), (4, .int x4), (5, .int x5)] [.int s0] := by
    unfold f_X12_cancel_216 at h
    refine r_istore dX12_cancel_216 (by decide) rfl ?_
    refine r_aload_n 1 dX12_cancel_218 rfl rfl ?_
    refine gf_51_3 q_1314 dX12_cancel_219 ?_
    refine r_bipush (v := 14) dX12_cancel_222 rfl ?_
    refine r_iconst (v := 5) dX12_cancel_224 rfl ?_
    refine r_iload 6 dX12_cancel_225 rfl ?_
    refine r_imul dX12_cancel_227 ?_
    refine r_iadd dX12_cancel_228 ?_
    refine r_iconst (v := 3) dX12_cancel_229 rfl ?_
    refine r_iadd dX12_cancel_230 ?_
    refine r_dup2 dX12_cancel_231 rfl rfl ?_
    obtain ⟨c1, h⟩ := g_ite h
    refine al_53 (k_b_in c1) dX12_cancel_232 ?_
    refine r_iload 0 dX12_cancel_233 rfl ?_
    refine r_isub dX12_cancel_235 ?_
    obtain ⟨c2, h⟩ := g_ite h
    refine as_53 (k_b_in c2) dX12_cancel_236 ?_
    generalize sA S 53 (((14 : Int32) + ((5 : Int32) * x5)) + (3 : Int32)).toNatClampNeg ((gA S 53 (((14 : Int32) + ((5 : Int32) * x5)) + (3 : Int32)).toNatClampNeg) - s0) = S3 at h ⊢
    replace h := g_let h
    refine r_iload 5 dX12_cancel_237 rfl ?_
    refine r_iload 0 dX12_cancel_239 rfl ?_
    refine r_isub dX12_cancel_241 ?_
    refine r_istore dX12_cancel_242 (by decide) rfl ?_
    refine r_iinc (q := 6) (v := x5 + (1 : Int32)) dX12_cancel_244 rfl rfl (by decide) rfl ?_
    refine r_goto (t := 118) dX12_cancel_247 (by decide) ?_
    refine r_sub [3, 4, 5, 6, 1, 0] rfl ?_
    exact hk118 _ _ _ _ _ _ _ h
set_option maxRecDepth 100000 in
set_option maxHeartbeats 4000000 in
theorem w_X12_cancel_181 {D : k_D} {dy : Nat → Nat} {k118 : Int32 → Int32 → Int32 → Int32 → Int32 → St → Option (Int32 × St)} (hk118 : ∀ (x1 : Int32) (x2 : Int32) (x3 : Int32) (x4 : Int32) (x5 : Int32) (S : St) (out : Int32 × St), k118 x1 x2 x3 x4 x5 S = some out → Rn yX12_cancel cX12_cancel 8 (some .int) (k_rm 5) 0 0 D dy S (k_Pi dy out) 118 [(0, .ref (D.2.2 51)), (1, .int x1), (2, .int x2), (3, .int x3), (4, .int x4), (5, .int x5)] []) (x1 : Int32) (x2 : Int32) (x3 : Int32) (x4 : Int32) (x5 : Int32) (s0 : Int32) (S : St) (out : Int32 × St) (h : f_X12_cancel_181 k118 x1 x2 x3 x4 x5 s0 S = some out) : Rn yX12_cancel cX12_cancel 8 (some .int) (k_rm 5) 0 0 D dy S (k_Pi dy out) 181 [(0, .ref (D.2.2 51)), (1, .int x1), (2, .int x2), (3, .int x3), (4, .int x4), (5, .int x5)] [.int s0] := by
    unfold f_X12_cancel_181 at h
    refine r_istore dX12_cancel_181 (by decide) rfl ?_
    refine r_iload 0 dX12_cancel_183 rfl ?_
    refine r_if_ne (t := 192) dX12_cancel_185 (by decide) (fun c => ?_) (fun c => ?_)
    · rw [if_neg c] at h
      refine r_aload_n 1 dX12_cancel_192 rfl rfl ?_
      refine r_iload 6 dX12_cancel_193 rfl ?_
      refine r_iconst (v := 3) dX12_cancel_195 rfl ?_
      obtain ⟨q196, hq196, h⟩ := g_bind h
      refine r_callVi [.int x5, .int (3 : Int32)] [] q196 (ok_X12_ofDebt hq196) q_1533 q_1535 q_94 q_1536 q_153 hd_X12_ofDebt (ce_51 D dy _) kc12.1 rfl ⟨Nat.le_of_ble_eq_true rfl, Nat.le_of_ble_eq_true rfl⟩ rfl rfl (Nat.le_of_ble_eq_true rfl) dX12_cancel_196 ?_
      refine r_iload 5 dX12_cancel_199 rfl ?_
      refine r_icmp_ge (t := 214) dX12_cancel_201 (by decide) (fun c => ?_) (fun c => ?_)
      · rw [if_pos c] at h
        refine r_iload 5 dX12_cancel_214 rfl ?_
        refine r_sub [1, 2, 3, 4, 5, 6] rfl ?_
        exact w_X12_cancel_216 hk118 _ _ _ _ _ _ _ _ h
      · rw [if_neg c] at h
        refine r_aload_n 1 dX12_cancel_204 rfl rfl ?_
        refine r_iload 6 dX12_cancel_205 rfl ?_
        refine r_iconst (v := 3) dX12_cancel_207 rfl ?_
        obtain ⟨q208, hq208, h⟩ := g_bind h
        refine r_callVi [.int x5, .int (3 : Int32)] [] q208 (ok_X12_ofDebt hq208) q_1533 q_1535 q_94 q_1536 q_153 hd_X12_ofDebt (ce_51 D dy _) kc12.1 rfl ⟨Nat.le_of_ble_eq_true rfl, Nat.le_of_ble_eq_true rfl⟩ rfl rfl (Nat.le_of_ble_eq_true rfl) dX12_cancel_208 ?_
        refine r_goto (t := 216) dX12_cancel_211 (by decide) ?_
        refine r_sub [1, 2, 3, 4, 5, 6] rfl ?_
        exact w_X12_cancel_216 hk118 _ _ _ _ _ _ _ _ h
    · rw [if_pos c] at h
      refine r_iconst (v := 0) dX12_cancel_188 rfl ?_
      refine r_goto (t := 216) dX12_cancel_189 (by decide) ?_
      refine r_sub [1, 2, 3, 4, 5, 6] rfl ?_
      exact w_X12_cancel_216 hk118 _ _ _ _ _ _ _ _ h
set_option maxRecDepth 100000 in
set_option maxHeartbeats 4000000 in
theorem w_X12_cancel_180 {D : k_D} {dy : Nat → Nat} {k118 : Int32 → Int32 → Int32 → Int32 → Int32 → St → Option (Int32 × St)} (hk118 : ∀ (x1 : Int32) (x2 : Int32) (x3 : Int32) (x4 : Int32) (x5 : Int32) (S : St) (out : Int32 × St), k118 x1 x2 x3 x4 x5 S = some out → Rn yX12_cancel cX12_cancel 8 (some .int) (k_rm 5) 0 0 D dy S (k_Pi dy out) 118 [(0, .ref (D.2.2 51)), (1, .int x1), (2, .int x2), (3, .int x3), (4, .int x4), (5, .int x5)] []) (x1 : Int32) (x2 : Int32) (x3 : Int32) (x4 : Int32) (x5 : Int32) (S : St) (out : Int32 × St) (h : f_X12_cancel_180 k118 x1 x2 x3 x4 x5 S = some out) : Rn yX12_cancel cX12_cancel 8 (some .int) (k_rm 5) 0 0 D dy S (k_Pi dy out) 180 [(0, .ref (D.2.2 51)), (1, .int x1), (2, .int x2), (3, .int x3), (4, .int x4), (5, .int x5)] [] := by
    unfold f_X12_cancel_180 at h
    refine r_iconst (v := 0) dX12_cancel_180 rfl ?_
    exact w_X12_cancel_181 hk118 _ _ _ _ _ _ _ _ h
set_option maxRecDepth 100000 in
set_option maxHeartbeats 4000000 in
theorem w_X12_cancel_118 {D : k_D} {dy : Nat → Nat} {k104 : Int32 → Int32 → Int32 → St → Option (Int32 × St)} (hk104 : ∀ (x1 : Int32) (x2 : Int32) (x3 : Int32) (S : St) (out : Int32 × St), k104 x1 x2 x3 S = some out → Rn yX12_cancel cX12_cancel 8 (some .int) (k_rm 5) 0 0 D dy S (k_Pi dy out) 104 [(0, .ref (D.2.2 51)), (1, .int x1), (2, .int x2), (3, .int x3)] []) : ∀ (n : Nat) (x1 : Int32) (x2 : Int32) (x3 : Int32) (x4 : Int32) (x5 : Int32) (S : St) (out : Int32 × St), f_X12_cancel_118 k104 n x1 x2 x3 x4 x5 S = some out → Rn yX12_cancel cX12_cancel 8 (some .int) (k_rm 5) 0 0 D dy S (k_Pi dy out) 118 [(0, .ref (D.2.2 51)), (1, .int x1), (2, .int x2), (3, .int x3), (4, .int x4), (5, .int x5)] [] := by
  intro n
  induction n with
  | zero => intro x1 x2 x3 x4 x5 S out h; cases h
  | succ n ih =>
    intro x1 x2 x3 x4 x5 S out h
    rw [f_X12_cancel_118] at h
    refine r_iload 5 dX12_cancel_118 rfl ?_
    refine r_aload_n 0 dX12_cancel_120 rfl rfl ?_
    obtain ⟨q121, hq121, h⟩ := g_bind h
    refine r_callVi [] [.int x5] q121 (ok_X12_debts hq121) q_1517 q_1519 q_91 q_1520 q_153 hd_X12_debts (ce_51 D dy _) kc12.1 rfl ⟨Nat.le_of_ble_eq_true rfl, Nat.le_of_ble_eq_true rfl⟩ rfl rfl (Nat.le_of_ble_eq_true rfl) dX12_cancel_121 ?_
    refine r_icmp_ge (t := 250) dX12_cancel_124 (by decide) (fun c => ?_) (fun c => ?_)
    · rw [if_pos c] at h
      refine r_iinc (q := 3) (v := x3 + (1 : Int32)) dX12_cancel_250 rfl rfl (by decide) rfl ?_
      refine r_goto (t := 104) dX12_cancel_253 (by decide) ?_
      refine r_sub [1, 2, 3, 0] rfl ?_
      exact hk104 _ _ _ _ _ h
    · rw [if_neg c] at h
      refine r_aload_n 0 dX12_cancel_127 rfl rfl ?_
      refine r_iload 5 dX12_cancel_128 rfl ?_
      refine r_iload_n 1 dX12_cancel_130 rfl rfl ?_
      obtain ⟨q131, hq131, h⟩ := g_bind h
      refine r_callVi [.int x5, .int x1] [] q131 (ok_X12_counts hq131) q_1737 q_1739 q_125 q_1740 q_153 hd_X12_counts (ce_51 D dy _) kc12.1 rfl ⟨Nat.le_of_ble_eq_true rfl, Nat.le_of_ble_eq_true rfl⟩ rfl rfl (Nat.le_of_ble_eq_true rfl) dX12_cancel_131 ?_
      refine r_if_eq (t := 180) dX12_cancel_134 (by decide) (fun c => ?_) (fun c => ?_)
      · rw [if_pos c] at h
        exact w_X12_cancel_180 ih _ _ _ _ _ _ _ h
      · rw [if_neg c] at h
        refine r_aload_n 0 dX12_cancel_137 rfl rfl ?_
        refine r_iload 5 dX12_cancel_138 rfl ?_
        refine r_iconst (v := 0) dX12_cancel_140 rfl ?_
        obtain ⟨q141, hq141, h⟩ := g_bind h
        refine r_callVi [.int x5, .int (0 : Int32)] [] q141 (ok_X12_ofDebt hq141) q_1533 q_1535 q_94 q_1536 q_153 hd_X12_ofDebt (ce_51 D dy _) kc12.1 rfl ⟨Nat.le_of_ble_eq_true rfl, Nat.le_of_ble_eq_true rfl⟩ rfl rfl (Nat.le_of_ble_eq_true rfl) dX12_cancel_141 ?_
        refine r_aload_n 0 dX12_cancel_144 rfl rfl ?_
        refine gf_51_40 q_1351 dX12_cancel_145 ?_
        refine r_iload_n 3 dX12_cancel_148 rfl rfl ?_
        obtain ⟨c1, h⟩ := g_ite h
        refine al_73 (k_b_in c1) dX12_cancel_149 ?_
        refine r_icmp_ne (t := 180) dX12_cancel_150 (by decide) (fun c => ?_) (fun c => ?_)
        · rw [if_neg c] at h
          exact w_X12_cancel_180 ih _ _ _ _ _ _ _ h
        · rw [if_pos c] at h
          refine r_aload_n 0 dX12_cancel_153 rfl rfl ?_
          refine r_iload 5 dX12_cancel_154 rfl ?_
          refine r_iconst (v := 1) dX12_cancel_156 rfl ?_
          obtain ⟨q157, hq157, h⟩ := g_bind h
          refine r_callVi [.int x5, .int (1 : Int32)] [] q157 (ok_X12_ofDebt hq157) q_1533 q_1535 q_94 q_1536 q_153 hd_X12_ofDebt (ce_51 D dy _) kc12.1 rfl ⟨Nat.le_of_ble_eq_true rfl, Nat.le_of_ble_eq_true rfl⟩ rfl rfl (Nat.le_of_ble_eq_true rfl) dX12_cancel_157 ?_
          refine r_aload_n 0 dX12_cancel_160 rfl rfl ?_
          refine gf_51_40 q_1351 dX12_cancel_161 ?_
          refine r_iload_n 3 dX12_cancel_164 rfl rfl ?_
          refine r_iconst (v := 1) dX12_cancel_165 rfl ?_
          refine r_iadd dX12_cancel_166 ?_
          refine r_aload_n 0 dX12_cancel_167 rfl rfl ?_
          refine gf_51_41 q_1352 dX12_cancel_168 ?_
          obtain ⟨c2, h⟩ := g_ite h
          refine r_irem dX12_cancel_171 c2 ?_
          obtain ⟨c3, h⟩ := g_ite h
          refine al_73 (k_b_in c3) dX12_cancel_172 ?_
          refine r_icmp_ne (t := 180) dX12_cancel_173 (by decide) (fun c => ?_) (fun c => ?_)
          · rw [if_neg c] at h
            exact w_X12_cancel_180 ih _ _ _ _ _ _ _ h
          · rw [if_pos c] at h
            refine r_iconst (v := 1) dX12_cancel_176 rfl ?_
            refine r_goto (t := 181) dX12_cancel_177 (by decide) ?_
            exact w_X12_cancel_181 ih _ _ _ _ _ _ _ _ h
set_option maxRecDepth 100000 in
set_option maxHeartbeats 4000000 in
theorem w_X12_cancel_104 {D : k_D} {dy : Nat → Nat} : ∀ (n : Nat) (x1 : Int32) (x2 : Int32) (x3 : Int32) (S : St) (out : Int32 × St), f_X12_cancel_104 n x1 x2 x3 S = some out → Rn yX12_cancel cX12_cancel 8 (some .int) (k_rm 5) 0 0 D dy S (k_Pi dy out) 104 [(0, .ref (D.2.2 51)), (1, .int x1), (2, .int x2), (3, .int x3)] [] := by
  intro n
  induction n with
  | zero => intro x1 x2 x3 S out h; cases h
  | succ n ih =>
    intro x1 x2 x3 S out h
    rw [f_X12_cancel_104] at h
    refine r_iload_n 3 dX12_cancel_104 rfl rfl ?_
    refine r_aload_n 0 dX12_cancel_105 rfl rfl ?_
    refine gf_51_41 q_1352 dX12_cancel_106 ?_
    refine r_icmp_ge (t := 256) dX12_cancel_109 (by decide) (fun c => ?_) (fun c => ?_)
    · rw [if_pos c] at h
      refine r_aload_n 0 dX12_cancel_256 rfl rfl ?_
      obtain ⟨q257, hq257, h⟩ := g_bind h
      refine r_callVv [] [] q257 (ok_X12_sweep hq257) q_1568 q_1570 q_101 q_1571 q_153 hd_X12_sweep (ce_51 D dy _) kc12.1 rfl ⟨Nat.le_of_ble_eq_true rfl, Nat.le_of_ble_eq_true rfl⟩ rfl rfl (Nat.le_of_ble_eq_true rfl) dX12_cancel_257 ?_
      refine r_aload_n 0 dX12_cancel_260 rfl rfl ?_
      refine r_iload_n 2 dX12_cancel_261 rfl rfl ?_
      obtain ⟨q262, hq262, h⟩ := g_bind h
      refine r_callVi [.int x2] [] q262 (ok_X12_tell hq262) q_1484 q_1486 q_89 q_1487 q_153 hd_X12_tell (ce_51 D dy _) kc12.1 rfl ⟨Nat.le_of_ble_eq_true rfl, Nat.le_of_ble_eq_true rfl⟩ rfl rfl (Nat.le_of_ble_eq_true rfl) dX12_cancel_262 ?_
      cases h
      exact r_iret rfl dX12_cancel_265 ⟨rfl, rfl, rfl⟩
    · rw [if_neg c] at h
      refine r_iload_n 2 dX12_cancel_112 rfl rfl ?_
      refine r_istore dX12_cancel_113 (by decide) rfl ?_
      refine r_iconst (v := 0) dX12_cancel_115 rfl ?_
      refine r_istore dX12_cancel_116 (by decide) rfl ?_
      refine r_sub [2, 3, 4, 5, 1, 0] rfl ?_
      exact w_X12_cancel_118 ih _ _ _ _ _ _ _ _ h
set_option maxRecDepth 100000 in
set_option maxHeartbeats 4000000 in
theorem w_X12_cancel_95 {D : k_D} {dy : Nat → Nat} {k49 : Int32 → Int32 → Int32 → St → Option (Int32 × St)} (hk49 : ∀ (x1 : Int32) (x2 : Int32) (x3 : Int32) (S : St) (out : Int32 × St), k49 x1 x2 x3 S = some out → Rn yX12_cancel cX12_cancel 8 (some .int) (k_rm 5) 0 0 D dy S (k_Pi dy out) 49 [(0, .ref (D.2.2 51)), (1, .int x1), (2, .int x2), (3, .int x3)] []) (x1 : Int32) (x3 : Int32) (s0 : Int32) (S : St) (out : Int32 × St) (h : f_X12_cancel_95 k49 x1 x3 s0 S = some out) : Rn yX12_cancel cX12_cancel 8 (some .int) (k_rm 5) 0 0 D dy S (k_Pi dy out) 95 [(0, .ref (D.2.2 51)), (1, .int x1), (3, .int x3)] [.int s0] := by
    unfold f_X12_cancel_95 at h
    refine r_istore_n dX12_cancel_95 rfl (by decide) rfl ?_
    refine r_iinc (q := 3) (v := x3 + (1 : Int32)) dX12_cancel_96 rfl rfl (by decide) rfl ?_
    refine r_goto (t := 49) dX12_cancel_99 (by decide) ?_
    refine r_sub [2, 3, 1, 0] rfl ?_
    exact hk49 _ _ _ _ _ h
set_option maxRecDepth 100000 in
set_option maxHeartbeats 4000000 in
theorem w_X12_cancel_49 {D : k_D} {dy : Nat → Nat} : ∀ (n : Nat) (x1 : Int32) (x2 : Int32) (x3 : Int32) (S : St) (out : Int32 × St), f_X12_cancel_49 n x1 x2 x3 S = some out → Rn yX12_cancel cX12_cancel 8 (some .int) (k_rm 5) 0 0 D dy S (k_Pi dy out) 49 [(0, .ref (D.2.2 51)), (1, .int x1), (2, .int x2), (3, .int x3)] [] := by
  intro n
  induction n with
  | zero => intro x1 x2 x3 S out h; cases h
  | succ n ih =>
    intro x1 x2 x3 S out h
    rw [f_X12_cancel_49] at h
    refine r_iload_n 3 dX12_cancel_49 rfl rfl ?_
    refine r_aload_n 0 dX12_cancel_50 rfl rfl ?_
    refine gf_51_41 q_1352 dX12_cancel_51 ?_
    refine r_icmp_ge (t := 102) dX12_cancel_54 (by decide) (fun c => ?_) (fun c => ?_)
    · rw [if_pos c] at h
      refine r_iconst (v := 0) dX12_cancel_102 rfl ?_
      refine r_istore_n dX12_cancel_103 rfl (by decide) rfl ?_
      refine r_sub [1, 2, 3, 0] rfl ?_
      exact w_X12_cancel_104 _ _ _ _ _ _ h
    · rw [if_neg c] at h
      refine r_aload_n 0 dX12_cancel_57 rfl rfl ?_
      refine r_aload_n 0 dX12_cancel_58 rfl rfl ?_
      refine gf_51_40 q_1351 dX12_cancel_59 ?_
      refine r_iload_n 3 dX12_cancel_62 rfl rfl ?_
      obtain ⟨c1, h⟩ := g_ite h
      refine al_73 (k_b_in c1) dX12_cancel_63 ?_
      refine r_aload_n 0 dX12_cancel_64 rfl rfl ?_
      refine gf_51_40 q_1351 dX12_cancel_65 ?_
      refine r_iload_n 3 dX12_cancel_68 rfl rfl ?_
      refine r_iconst (v := 1) dX12_cancel_69 rfl ?_
      refine r_iadd dX12_cancel_70 ?_
      refine r_aload_n 0 dX12_cancel_71 rfl rfl ?_
      refine gf_51_41 q_1352 dX12_cancel_72 ?_
      obtain ⟨c2, h⟩ := g_ite h
      refine r_irem dX12_cancel_75 c2 ?_
      obtain ⟨c3, h⟩ := g_ite h
      refine al_73 (k_b_in c3) dX12_cancel_76 ?_
      refine r_iload_n 1 dX12_cancel_77 rfl rfl ?_
      obtain ⟨q78, hq78, h⟩ := g_bind h
      refine r_callVi [.int (gA S 73 x3.toNatClampNeg), .int (gA S 73 ((x3 + (1 : Int32)) - (x3 + (1 : Int32)) / (gI S 49) * (gI S 49)).toNatClampNeg), .int x1] [] q78 (ok_X12_between hq78) q_1764 q_1766 q_128 q_1767 q_153 hd_X12_between (ce_51 D dy _) kc12.1 rfl ⟨Nat.le_of_ble_eq_true rfl, Nat.le_of_ble_eq_true rfl⟩ rfl rfl (Nat.le_of_ble_eq_true rfl) dX12_cancel_78 ?_
      refine r_istore dX12_cancel_81 (by decide) rfl ?_
      refine r_iload 0 dX12_cancel_83 rfl ?_
      refine r_iload_n 3 dX12_cancel_85 rfl rfl ?_
      refine r_icmp_ge (t := 94) dX12_cancel_86 (by decide) (fun c => ?_) (fun c => ?_)
      · rw [if_pos c] at h
        refine r_iload_n 3 dX12_cancel_94 rfl rfl ?_
        refine r_sub [1, 2, 4] rfl ?_
        exact w_X12_cancel_95 ih _ _ _ _ _ h
      · rw [if_neg c] at h
        refine r_iload 0 dX12_cancel_89 rfl ?_
        refine r_goto (t := 95) dX12_cancel_91 (by decide) ?_
        refine r_sub [1, 2, 4] rfl ?_
        exact w_X12_cancel_95 ih _ _ _ _ _ h
set_option maxRecDepth 100000 in
set_option maxHeartbeats 4000000 in
theorem w_X12_cancel_0 {D : k_D} {dy : Nat → Nat} (x1 : Int32) (S : St) (out : Int32 × St) (h : f_X12_cancel x1 S = some out) : Rn yX12_cancel cX12_cancel 8 (some .int) (k_rm 5) 0 0 D dy S (k_Pi dy out) 0 [(0, .ref (D.2.2 51)), (1, .int x1)] [] := by
    unfold f_X12_cancel at h
    refine r_aload_n 0 dX12_cancel_0 rfl rfl ?_
    refine r_iconst (v := 0) dX12_cancel_1 rfl ?_
    refine pf_51_0 q_1311 dX12_cancel_2 ?_
    generalize sI S 33 (0 : Int32) = S1 at h ⊢
    replace h := g_let h
    refine r_aload_n 0 dX12_cancel_5 rfl rfl ?_
    refine r_iload_n 1 dX12_cancel_6 rfl rfl ?_
    obtain ⟨q7, hq7, h⟩ := g_bind h
    refine r_callVi [.int x1] [] q7 (ok_X12_isTune hq7) q_1501 q_1503 q_90 q_1504 q_153 hd_X12_isTune (ce_51 D dy _) kc12.1 rfl ⟨Nat.le_of_ble_eq_true rfl, Nat.le_of_ble_eq_true rfl⟩ rfl rfl (Nat.le_of_ble_eq_true rfl) dX12_cancel_7 ?_
    refine r_if_ne (t := 20) dX12_cancel_10 (by decide) (fun c => ?_) (fun c => ?_)
    · rw [if_neg c] at h
      refine r_aload_n 0 dX12_cancel_20 rfl rfl ?_
      obtain ⟨q21, hq21, h⟩ := g_bind h
      refine r_callVv [] [] q21 (ok_X12_askAll hq21) q_1537 q_1539 q_95 q_1540 q_153 hd_X12_askAll (ce_51 D dy _) kc12.1 rfl ⟨Nat.le_of_ble_eq_true rfl, Nat.le_of_ble_eq_true rfl⟩ rfl rfl (Nat.le_of_ble_eq_true rfl) dX12_cancel_21 ?_
      refine r_aload_n 0 dX12_cancel_24 rfl rfl ?_
      refine r_iload_n 1 dX12_cancel_25 rfl rfl ?_
      obtain ⟨q26, hq26, h⟩ := g_bind h
      refine r_callVv [.int x1] [] q26 (ok_X12_findRing hq26) q_1760 q_1762 q_127 q_1763 q_153 hd_X12_findRing (ce_51 D dy _) kc12.1 rfl ⟨Nat.le_of_ble_eq_true rfl, Nat.le_of_ble_eq_true rfl⟩ rfl rfl (Nat.le_of_ble_eq_true rfl) dX12_cancel_26 ?_
      refine r_aload_n 0 dX12_cancel_29 rfl rfl ?_
      refine gf_51_41 q_1352 dX12_cancel_30 ?_
      refine r_if_ne (t := 43) dX12_cancel_33 (by decide) (fun c => ?_) (fun c => ?_)
      · rw [if_neg c] at h
        refine r_ldcw (v := 1000000) q_1780 dX12_cancel_43 ?_
        refine r_istore_n dX12_cancel_46 rfl (by decide) rfl ?_
        refine r_iconst (v := 0) dX12_cancel_47 rfl ?_
        refine r_istore_n dX12_cancel_48 rfl (by decide) rfl ?_
        refine r_sub [2, 3, 1, 0] rfl ?_
        exact w_X12_cancel_49 _ _ _ _ _ _ h
      · rw [if_pos c] at h
        refine r_aload_n 0 dX12_cancel_36 rfl rfl ?_
        refine r_bipush (v := -3) dX12_cancel_37 rfl ?_
        obtain ⟨q39, hq39, h⟩ := g_bind h
        refine r_callVi [.int (-3 : Int32)] [] q39 (ok_X12_tell hq39) q_1484 q_1486 q_89 q_1487 q_153 hd_X12_tell (ce_51 D dy _) kc12.1 rfl ⟨Nat.le_of_ble_eq_true rfl, Nat.le_of_ble_eq_true rfl⟩ rfl rfl (Nat.le_of_ble_eq_true rfl) dX12_cancel_39 ?_
        cases h
        exact r_iret rfl dX12_cancel_42 ⟨rfl, rfl, rfl⟩
    · rw [if_pos c] at h
      refine r_aload_n 0 dX12_cancel_13 rfl rfl ?_
      refine r_bipush (v := -2) dX12_cancel_14 rfl ?_
      obtain ⟨q16, hq16, h⟩ := g_bind h
      refine r_callVi [.int (-2 : Int32)] [] q16 (ok_X12_tell hq16) q_1484 q_1486 q_89 q_1487 q_153 hd_X12_tell (ce_51 D dy _) kc12.1 rfl ⟨Nat.le_of_ble_eq_true rfl, Nat.le_of_ble_eq_true rfl⟩ rfl rfl (Nat.le_of_ble_eq_true rfl) dX12_cancel_16 ?_
      cases h
      exact r_iret rfl dX12_cancel_19 ⟨rfl, rfl, rfl⟩
theorem ok_X12_cancel {D : k_D} {dy : Nat → Nat} {x1 : Int32} {S : St} {out : Int32 × St} (h : f_X12_cancel x1 S = some out) : Sp yX12_cancel cX12_cancel 8 (some .int) (k_rm 5) D dy S [.ref (D.2.2 51), .int x1] (k_Pi dy out) := Sp.of (by decide +kernel) (Nat.le_of_ble_eq_true rfl) (w_X12_cancel_0 _ S out h)
noncomputable def f_X12_isPlayed_46 (s0 : Int32) (S : St) : Option (Int32 × St) := if s0 = 0 ∨ s0 = 1 then some (s0, S) else none
noncomputable def f_X12_isPlayed_45 (S : St) : Option (Int32 × St) := f_X12_isPlayed_46 (0 : Int32) S
noncomputable def f_X12_isPlayed (x1 : Int32) (x2 : Int32) (x3 : Int32) (S : St) : Option (Int32 × St) := (f_X12_ofDebt x1 (1 : Int32) S).bind fun q3 => if q3.1 = x2 then if k_b x1 16 = true then if (gA q3.2 67 x1.toNatClampNeg) = 0 then if k_b x1 16 = true then if (gA q3.2 68 x1.toNatClampNeg) = 0 then (f_X12_ofDebt x1 (0 : Int32) q3.2).bind fun q32 => (f_X12_is x3 q32.1 q32.2).bind fun q35 => if q35.1 = 0 then f_X12_isPlayed_45 q35.2 else f_X12_isPlayed_46 (1 : Int32) q35.2 else f_X12_isPlayed_45 q3.2 else none else f_X12_isPlayed_45 q3.2 else none else f_X12_isPlayed_45 q3.2
set_option maxRecDepth 100000 in
set_option maxHeartbeats 4000000 in
theorem w_X12_isPlayed_46 {D : k_D} {dy : Nat → Nat} (s0 : Int32) (S : St) (out : Int32 × St) (h : f_X12_isPlayed_46 s0 S = some out) : Rn yX12_isPlayed cX12_isPlayed 4 (some .boolean) (k_rm 1) 0 0 D dy S (k_Pi dy out) 46 [] [.int s0] := by
    unfold f_X12_isPlayed_46 at h
    obtain ⟨c, h⟩ := g_ite h
    cases h
    exact r_zret rfl (k_zn c) dX12_isPlayed_46 ⟨rfl, rfl, rfl⟩
set_option maxRecDepth 100000 in
set_option maxHeartbeats 4000000 in
theorem w_X12_isPlayed_45 {D : k_D} {dy : Nat → Nat} (S : St) (out : Int32 × St) (h : f_X12_isPlayed_45 S = some out) : Rn yX12_isPlayed cX12_isPlayed 4 (some .boolean) (k_rm 1) 0 0 D dy S (k_Pi dy out) 45 [] [] := by
    unfold f_X12_isPlayed_45 at h
    refine r_iconst (v := 0) dX12_isPlayed_45 rfl ?_
    exact w_X12_isPlayed_46 _ _ _ h
set_option maxRecDepth 100000 in
set_option maxHeartbeats 4000000 in
theorem w_X12_isPlayed_0 {D : k_D} {dy : Nat → Nat} (x1 : Int32) (x2 : Int32) (x3 : Int32) (S : St) (out : Int32 × St) (h : f_X12_isPlayed x1 x2 x3 S = some out) : Rn yX12_isPlayed cX12_isPlayed 4 (some .boolean) (k_rm 1) 0 0 D dy S (k_Pi dy out) 0 [(0, .ref (D.2.2 51)), (1, .int x1), (2, .int x2), (3, .int x3)] [] := by
    unfold f_X12_isPlayed at h
    refine r_aload_n 0 dX12_isPlayed_0 rfl rfl ?_
    refine r_iload_n 1 dX12_isPlayed_1 rfl rfl ?_
    refine r_iconst (v := 1) dX12_isPlayed_2 rfl ?_
    obtain ⟨q3, hq3, h⟩ := g_bind h
    refine r_callVi [.int x1, .int (1 : Int32)] [] q3 (ok_X12_ofDebt hq3) q_1533 q_1535 q_94 q_1536 q_153 hd_X12_ofDebt (ce_51 D dy _) kc12.1 rfl ⟨Nat.le_of_ble_eq_true rfl, Nat.le_of_ble_eq_true rfl⟩ rfl rfl (Nat.le_of_ble_eq_true rfl) dX12_isPlayed_3 ?_
    refine r_iload_n 2 dX12_isPlayed_6 rfl rfl ?_
    refine r_icmp_ne (t := 45) dX12_isPlayed_7 (by decide) (fun c => ?_) (fun c => ?_)
    · rw [if_neg c] at h
      refine r_sub [] rfl ?_
      exact w_X12_isPlayed_45 _ _ h
    · rw [if_pos c] at h
      refine r_aload_n 0 dX12_isPlayed_10 rfl rfl ?_
      refine gf_51_34 q_1345 dX12_isPlayed_11 ?_
      refine r_iload_n 1 dX12_isPlayed_14 rfl rfl ?_
      obtain ⟨c1, h⟩ := g_ite h
      refine al_67 (k_b_in c1) dX12_isPlayed_15 ?_
      refine r_if_ne (t := 45) dX12_isPlayed_16 (by decide) (fun c => ?_) (fun c => ?_)
      · rw [if_neg c] at h
        refine r_sub [] rfl ?_
        exact w_X12_isPlayed_45 _ _ h
      · rw [if_pos c] at h
        refine r_aload_n 0 dX12_isPlayed_19 rfl rfl ?_
        refine gf_51_35 q_1346 dX12_isPlayed_20 ?_
        refine r_iload_n 1 dX12_isPlayed_23 rfl rfl ?_
        obtain ⟨c2, h⟩ := g_ite h
        refine al_68 (k_b_in c2) dX12_isPlayed_24 ?_
        refine r_if_ne (t := 45) dX12_isPlayed_25 (by decide) (fun c => ?_) (fun c => ?_)
        · rw [if_neg c] at h
          refine r_sub [] rfl ?_
          exact w_X12_isPlayed_45 _ _ h
        · rw [if_pos c] at h
          refine r_iload_n 3 dX12_isPlayed_28 rfl rfl ?_
          refine r_aload_n 0 dX12_isPlayed_29 rfl rfl ?_
          refine r_iload_n 1 dX12_isPlayed_30 rfl rfl ?_
          refine r_iconst (v := 0) dX12_isPlayed_31 rfl ?_
          obtain ⟨q32, hq32, h⟩ := g_bind h
          refine r_callVi [.int x1, .int (0 : Int32)] [.int x3] q32 (ok_X12_ofDebt hq32) q_1533 q_1535 q_94 q_1536 q_153 hd_X12_ofDebt (ce_51 D dy _) kc12.1 rfl ⟨Nat.le_of_ble_eq_true rfl, Nat.le_of_ble_eq_true rfl⟩ rfl rfl (Nat.le_of_ble_eq_true rfl) dX12_isPlayed_32 ?_
          obtain ⟨q35, hq35, h⟩ := g_bind h
          refine r_callSi [.int x3, .int q32.1] [] q35 (ok_X12_is hq35) q_1750 q_1751 q_1752 q_153 hd_X12_is ⟨Nat.le_of_ble_eq_true rfl, Nat.le_of_ble_eq_true rfl⟩ rfl rfl (Nat.le_of_ble_eq_true rfl) dX12_isPlayed_35 ?_
          refine r_if_eq (t := 45) dX12_isPlayed_38 (by decide) (fun c => ?_) (fun c => ?_)
          · rw [if_pos c] at h
            refine r_sub [] rfl ?_
            exact w_X12_isPlayed_45 _ _ h
          · rw [if_neg c] at h
            refine r_iconst (v := 1) dX12_isPlayed_41 rfl ?_
            refine r_goto (t := 46) dX12_isPlayed_42 (by decide) ?_
            refine r_sub [] rfl ?_
            exact w_X12_isPlayed_46 _ _ _ h
theorem ok_X12_isPlayed {D : k_D} {dy : Nat → Nat} {x1 : Int32} {x2 : Int32} {x3 : Int32} {S : St} {out : Int32 × St} (h : f_X12_isPlayed x1 x2 x3 S = some out) : Sp yX12_isPlayed cX12_isPlayed 4 (some .boolean) (k_rm 1) D dy S [.ref (D.2.2 51), .int x1, .int x2, .int x3] (k_Pi dy out) := Sp.of (by decide +kernel) (Nat.le_of_ble_eq_true rfl) (w_X12_isPlayed_0 _ _ _ S out h)
noncomputable def f_X12_findMosts_166 (k80 : Int32 → Int32 → Int32 → Int32 → Int32 → Int32 → Int32 → St → Option (St)) (x1 : Int32) (x2 : Int32) (x3 : Int32) (x4 : Int32) (x5 : Int32) (x6 : Int32) (x7 : Int32) (x8 : Int32) (S : St) : Option (St) := if k_b (((241 : Int32) * x4) + x7) 4097 = true then k_let (sA S 74 (((241 : Int32) * x4) + x7).toNatClampNeg x8) fun S2 => k80 x1 x2 x3 x4 x5 x6 (x7 + (1 : Int32)) S2 else none
noncomputable def f_X12_findMosts_158 (k92 : Int32 → Int32 → Int32 → Int32 → Int32 → Int32 → Int32 → Int32 → Int32 → St → Option (St)) (x1 : Int32) (x2 : Int32) (x3 : Int32) (x4 : Int32) (x5 : Int32) (x6 : Int32) (x7 : Int32) (x9 : Int32) (s0 : Int32) (S : St) : Option (St) := k92 x1 x2 x3 x4 x5 x6 x7 s0 (x9 + (1 : Int32)) S
noncomputable def f_X12_findMosts_92 (k80 : Int32 → Int32 → Int32 → Int32 → Int32 → Int32 → Int32 → St → Option (St)) : Nat → Int32 → Int32 → Int32 → Int32 → Int32 → Int32 → Int32 → Int32 → Int32 → St → Option (St)
  | 0, _, _, _, _, _, _, _, _, _, _ => none
  | n + 1, x1, x2, x3, x4, x5, x6, x7, x8, x9, S => if x6 < x9 then f_X12_findMosts_166 k80 x1 x2 x3 x4 x5 x6 x7 x8 S else if x7 < (x9 * x5) then f_X12_findMosts_166 k80 x1 x2 x3 x4 x5 x6 x7 x8 S else if k_b x4 16 = true then if k_b ((((241 : Int32) * (x4 + (1 : Int32))) + x7) - (x9 * x5)) 4097 = true then if ((x9 * (gA S 66 x4.toNatClampNeg)) + (gA S 74 ((((241 : Int32) * (x4 + (1 : Int32))) + x7) - (x9 * x5)).toNatClampNeg)) ≤ x8 then f_X12_findMosts_158 (f_X12_findMosts_92 k80 n) x1 x2 x3 x4 x5 x6 x7 x9 x8 S else f_X12_findMosts_158 (f_X12_findMosts_92 k80 n) x1 x2 x3 x4 x5 x6 x7 x9 ((x9 * (gA S 66 x4.toNatClampNeg)) + (gA S 74 ((((241 : Int32) * (x4 + (1 : Int32))) + x7) - (x9 * x5)).toNatClampNeg)) S else none else none
noncomputable def f_X12_findMosts_80 (k40 : Int32 → Int32 → Int32 → Int32 → St → Option (St)) : Nat → Int32 → Int32 → Int32 → Int32 → Int32 → Int32 → Int32 → St → Option (St)
  | 0, _, _, _, _, _, _, _, _ => none
  | n + 1, x1, x2, x3, x4, x5, x6, x7, S => if x3 < x7 then k40 x1 x2 x3 (x4 + (-1 : Int32)) S else f_X12_findMosts_92 (f_X12_findMosts_80 k40 n) FU x1 x2 x3 x4 x5 x6 x7 (0 : Int32) (0 : Int32) S
noncomputable def f_X12_findMosts_75 (k40 : Int32 → Int32 → Int32 → Int32 → St → Option (St)) (x1 : Int32) (x2 : Int32) (x3 : Int32) (x4 : Int32) (x5 : Int32) (s0 : Int32) (S : St) : Option (St) := f_X12_findMosts_80 k40 FU x1 x2 x3 x4 x5 s0 (0 : Int32) S
noncomputable def f_X12_findMosts_40 : Nat → Int32 → Int32 → Int32 → Int32 → St → Option (St)
  | 0, _, _, _, _, _ => none
  | n + 1, x1, x2, x3, x4, S => if x4 < 0 then some S else (f_X12_lengthOf x4 S).bind fun q48 => (f_X12_isPlayed x4 x1 x2 q48.2).bind fun q58 => if q58.1 = 0 then f_X12_findMosts_75 (f_X12_findMosts_40 n) x1 x2 x3 x4 q48.1 (0 : Int32) q58.2 else (f_X12_ofDebt x4 (3 : Int32) q58.2).bind fun q68 => f_X12_findMosts_75 (f_X12_findMosts_40 n) x1 x2 x3 x4 q48.1 q68.1 q68.2
noncomputable def f_X12_findMosts_3 : Nat → Int32 → Int32 → Int32 → Int32 → St → Option (St)
  | 0, _, _, _, _, _ => none
  | n + 1, x1, x2, x3, x4, S => if x3 < x4 then (f_X12_debts S).bind fun q33 => f_X12_findMosts_40 FU x1 x2 x3 (q33.1 - (1 : Int32)) q33.2 else (f_X12_debts S).bind fun q17 => if k_b (((241 : Int32) * q17.1) + x4) 4097 = true then k_let (sA q17.2 74 (((241 : Int32) * q17.1) + x4).toNatClampNeg (0 : Int32)) fun S2 => f_X12_findMosts_3 n x1 x2 x3 (x4 + (1 : Int32)) S2 else none
noncomputable def f_X12_findMosts (x1 : Int32) (x2 : Int32) (x3 : Int32) (S : St) : Option (St) := f_X12_findMosts_3 FU x1 x2 x3 (0 : Int32) S
set_option maxRecDepth 100000 in
set_option maxHeartbeats 4000000 in
theorem w_X12_findMosts_166 {D : k_D} {dy : Nat → Nat} {k80 : Int32 → Int32 → Int32 → Int32 → Int32 → Int32 → Int32 → St → Option (St)} (hk80 : ∀ (x1 : Int32) (x2 : Int32) (x3 : Int32) (x4 : Int32) (x5 : Int32) (x6 : Int32) (x7 : Int32) (S : St) (out : St), k80 x1 x2 x3 x4 x5 x6 x7 S = some out → Rn yX12_findMosts cX12_findMosts 11 none (k_rm 2) 0 0 D dy S (k_Pv dy out) 80 [(0, .ref (D.2.2 51)), (1, .int x1), (2, .int x2), (3, .int x3), (4, .int x4), (5, .int x5), (6, .int x6), (7, .int x7)] []) (x1 : Int32) (x2 : Int32) (x3 : Int32) (x4 : Int32) (x5 : Int32) (x6 : Int32) (x7 : Int32) (x8 : Int32) (S : St) (out : St) (h : f_X12_findMosts_166 k80 x1 x2 x3 x4 x5 x6 x7 x8 S = some out) : Rn yX12_findMosts cX12_findMosts 11 none (k_rm 2) 0 0 D dy S (k_Pv dy out) 166 [(0, .ref (D.2.2 51)), (1, .int x1), (2, .int x2), (3, .int x3), (4, .int x4), (5, .int x5), (6, .int x6), (7, .int x7), (8, .int x8)] [] := by
    unfold f_X12_findMosts_166 at h
    refine r_aload_n 0 dX12_findMosts_166 rfl rfl ?_
    refine gf_51_43 q_1354 dX12_findMosts_167 ?_
    refine r_sipush (v := 241) dX12_findMosts_170 rfl ?_
    refine r_iload 4 dX12_findMosts_173 rfl ?_
    refine r_imul dX12_findMosts_175 ?_
    refine r_iload 7 dX12_findMosts_176 rfl ?_
    refine r_iadd dX12_findMosts_178 ?_
    refine r_iload 8 dX12_findMosts_179 rfl ?_
    obtain ⟨c1, h⟩ := g_ite h
    refine as_74 (k_b_in c1) dX12_findMosts_181 ?_
    generalize sA S 74 (((241 : Int32) * x4) + x7).toNatClampNeg x8 = S2 at h ⊢
    replace h := g_let h
    refine r_iinc (q := 7) (v := x7 + (1 : Int32)) dX12_findMosts_182 rfl rfl (by decide) rfl ?_
    refine r_goto (t := 80) dX12_findMosts_185 (by decide) ?_
    refine r_sub [1, 2, 3, 4, 5, 6, 7, 0] rfl ?_
    exact hk80 _ _ _ _ _ _ _ _ _ h
set_option maxRecDepth 100000 in
set_option maxHeartbeats 4000000 in
theorem w_X12_findMosts_158 {D : k_D} {dy : Nat → Nat} {k92 : Int32 → Int32 → Int32 → Int32 → Int32 → Int32 → Int32 → Int32 → Int32 → St → Option (St)} (hk92 : ∀ (x1 : Int32) (x2 : Int32) (x3 : Int32) (x4 : Int32) (x5 : Int32) (x6 : Int32) (x7 : Int32) (x8 : Int32) (x9 : Int32) (S : St) (out : St), k92 x1 x2 x3 x4 x5 x6 x7 x8 x9 S = some out → Rn yX12_findMosts cX12_findMosts 11 none (k_rm 2) 0 0 D dy S (k_Pv dy out) 92 [(0, .ref (D.2.2 51)), (1, .int x1), (2, .int x2), (3, .int x3), (4, .int x4), (5, .int x5), (6, .int x6), (7, .int x7), (8, .int x8), (9, .int x9)] []) (x1 : Int32) (x2 : Int32) (x3 : Int32) (x4 : Int32) (x5 : Int32) (x6 : Int32) (x7 : Int32) (x9 : Int32) (s0 : Int32) (S : St) (out : St) (h : f_X12_findMosts_158 k92 x1 x2 x3 x4 x5 x6 x7 x9 s0 S = some out) : Rn yX12_findMosts cX12_findMosts 11 none (k_rm 2) 0 0 D dy S (k_Pv dy out) 158 [(0, .ref (D.2.2 51)), (1, .int x1), (2, .int x2), (3, .int x3), (4, .int x4), (5, .int x5), (6, .int x6), (7, .int x7), (9, .int x9)] [.int s0] := by
    unfold f_X12_findMosts_158 at h
    refine r_istore dX12_findMosts_158 (by decide) rfl ?_
    refine r_iinc (q := 9) (v := x9 + (1 : Int32)) dX12_findMosts_160 rfl rfl (by decide) rfl ?_
    refine r_goto (t := 92) dX12_findMosts_163 (by decide) ?_
    refine r_sub [2, 3, 4, 5, 6, 7, 8, 9, 1, 0] rfl ?_
    exact hk92 _ _ _ _ _ _ _ _ _ _ _ h
set_option maxRecDepth 100000 in
set_option maxHeartbeats 4000000 in
theorem w_X12_findMosts_92 {D : k_D} {dy : Nat → Nat} {k80 : Int32 → Int32 → Int32 → Int32 → Int32 → Int32 → Int32 → St → Option (St)} (hk80 : ∀ (x1 : Int32) (x2 : Int32) (x3 : Int32) (x4 : Int32) (x5 : Int32) (x6 : Int32) (x7 : Int32) (S : St) (out : St), k80 x1 x2 x3 x4 x5 x6 x7 S = some out → Rn yX12_findMosts cX12_findMosts 11 none (k_rm 2) 0 0 D dy S (k_Pv dy out) 80 [(0, .ref (D.2.2 51)), (1, .int x1), (2, .int x2), (3, .int x3), (4, .int x4), (5, .int x5), (6, .int x6), (7, .int x7)] []) : ∀ (n : Nat) (x1 : Int32) (x2 : Int32) (x3 : Int32) (x4 : Int32) (x5 : Int32) (x6 : Int32) (x7 : Int32) (x8 : Int32) (x9 : Int32) (S : St) (out : St), f_X12_findMosts_92 k80 n x1 x2 x3 x4 x5 x6 x7 x8 x9 S = some out → Rn yX12_findMosts cX12_findMosts 11 none (k_rm 2) 0 0 D dy S (k_Pv dy out) 92 [(0, .ref (D.2.2 51)), (1, .int x1), (2, .int x2), (3, .int x3), (4, .int x4), (5, .int x5), (6, .int x6), (7, .int x7), (8, .int x8), (9, .int x9)] [] := by
  intro n
  induction n with
  | zero => intro x1 x2 x3 x4 x5 x6 x7 x8 x9 S out h; cases h
  | succ n ih =>
    intro x1 x2 x3 x4 x5 x6 x7 x8 x9 S out h
    rw [f_X12_findMosts_92] at h
    refine r_iload 9 dX12_findMosts_92 rfl ?_
    refine r_iload 6 dX12_findMosts_94 rfl ?_
    refine r_icmp_gt (t := 166) dX12_findMosts_96 (by decide) (fun c => ?_) (fun c => ?_)
    · rw [if_pos c] at h
      refine r_sub [0, 1, 2, 3, 4, 5, 6, 7, 8] rfl ?_
      exact w_X12_findMosts_166 hk80 _ _ _ _ _ _ _ _ _ _ h
    · rw [if_neg c] at h
      refine r_iload 9 dX12_findMosts_99 rfl ?_
      refine r_iload 5 dX12_findMosts_101 rfl ?_
      refine r_imul dX12_findMosts_103 ?_
      refine r_iload 7 dX12_findMosts_104 rfl ?_
      refine r_icmp_gt (t := 166) dX12_findMosts_106 (by decide) (fun c => ?_) (fun c => ?_)
      · rw [if_pos c] at h
        refine r_sub [0, 1, 2, 3, 4, 5, 6, 7, 8] rfl ?_
        exact w_X12_findMosts_166 hk80 _ _ _ _ _ _ _ _ _ _ h
      · rw [if_neg c] at h
        refine r_iload 9 dX12_findMosts_109 rfl ?_
        refine r_aload_n 0 dX12_findMosts_111 rfl rfl ?_
        refine gf_51_33 q_1344 dX12_findMosts_112 ?_
        refine r_iload 4 dX12_findMosts_115 rfl ?_
        obtain ⟨c1, h⟩ := g_ite h
        refine al_66 (k_b_in c1) dX12_findMosts_117 ?_
        refine r_imul dX12_findMosts_118 ?_
        refine r_aload_n 0 dX12_findMosts_119 rfl rfl ?_
        refine gf_51_43 q_1354 dX12_findMosts_120 ?_
        refine r_sipush (v := 241) dX12_findMosts_123 rfl ?_
        refine r_iload 4 dX12_findMosts_126 rfl ?_
        refine r_iconst (v := 1) dX12_findMosts_128 rfl ?_
        refine r_iadd dX12_findMosts_129 ?_
        refine r_imul dX12_findMosts_130 ?_
        refine r_iload 7 dX12_findMosts_131 rfl ?_
        refine r_iadd dX12_findMosts_133 ?_
        refine r_iload 9 dX12_findMosts_134 rfl ?_
        refine r_iload 5 dX12_findMosts_136 rfl ?_
        refine r_imul dX12_findMosts_138 ?_
        refine r_isub dX12_findMosts_139 ?_
        obtain ⟨c2, h⟩ := g_ite h
        refine al_74 (k_b_in c2) dX12_findMosts_140 ?_
        refine r_iadd dX12_findMosts_141 ?_
        refine r_istore dX12_findMosts_142 (by decide) rfl ?_
        refine r_iload 0 dX12_findMosts_144 rfl ?_
        refine r_iload 9 dX12_findMosts_146 rfl ?_
        refine r_icmp_le (t := 156) dX12_findMosts_148 (by decide) (fun c => ?_) (fun c => ?_)
        · rw [if_pos c] at h
          refine r_iload 9 dX12_findMosts_156 rfl ?_
          refine r_sub [1, 2, 3, 4, 5, 6, 7, 8, 10] rfl ?_
          exact w_X12_findMosts_158 ih _ _ _ _ _ _ _ _ _ _ _ h
        · rw [if_neg c] at h
          refine r_iload 0 dX12_findMosts_151 rfl ?_
          refine r_goto (t := 158) dX12_findMosts_153 (by decide) ?_
          refine r_sub [1, 2, 3, 4, 5, 6, 7, 8, 10] rfl ?_
          exact w_X12_findMosts_158 ih _ _ _ _ _ _ _ _ _ _ _ h
set_option maxRecDepth 100000 in
set_option maxHeartbeats 4000000 in
theorem w_X12_findMosts_80 {D : k_D} {dy : Nat → Nat} {k40 : Int32 → Int32 → Int32 → Int32 → St → Option (St)} (hk40 : ∀ (x1 : Int32) (x2 : Int32) (x3 : Int32) (x4 : Int32) (S : St) (out : St), k40 x1 x2 x3 x4 S = some out → Rn yX12_findMosts cX12_findMosts 11 none (k_rm 2) 0 0 D dy S (k_Pv dy out) 40 [(0, .ref (D.2.2 51)), (1, .int x1), (2, .int x2), (3, .int x3), (4, .int x4)] []) : ∀ (n : Nat) (x1 : Int32) (x2 : Int32) (x3 : Int32) (x4 : Int32) (x5 : Int32) (x6 : Int32) (x7 : Int32) (S : St) (out : St), f_X12_findMosts_80 k40 n x1 x2 x3 x4 x5 x6 x7 S = some out → Rn yX12_findMosts cX12_findMosts 11 none (k_rm 2) 0 0 D dy S (k_Pv dy out) 80 [(0, .ref (D.2.2 51)), (1, .int x1), (2, .int x2), (3, .int x3), (4, .int x4), (5, .int x5), (6, .int x6), (7, .int x7)] [] := by
  intro n
  induction n with
  | zero => intro x1 x2 x3 x4 x5 x6 x7 S out h; cases h
  | succ n ih =>
    intro x1 x2 x3 x4 x5 x6 x7 S out h
    rw [f_X12_findMosts_80] at h
    refine r_iload 7 dX12_findMosts_80 rfl ?_
    refine r_iload_n 3 dX12_findMosts_82 rfl rfl ?_
    refine r_icmp_gt (t := 188) dX12_findMosts_83 (by decide) (fun c => ?_) (fun c => ?_)
    · rw [if_pos c] at h
      refine r_iinc (q := 4) (v := x4 + (-1 : Int32)) dX12_findMosts_188 rfl rfl (by decide) rfl ?_
      refine r_goto (t := 40) dX12_findMosts_191 (by decide) ?_
      refine r_sub [1, 2, 3, 4, 0] rfl ?_
      exact hk40 _ _ _ _ _ _ h
    · rw [if_neg c] at h
      refine r_iconst (v := 0) dX12_findMosts_86 rfl ?_
      refine r_istore dX12_findMosts_87 (by decide) rfl ?_
      refine r_iconst (v := 0) dX12_findMosts_89 rfl ?_
      refine r_istore dX12_findMosts_90 (by decide) rfl ?_
      refine r_sub [2, 3, 4, 5, 6, 7, 8, 9, 1, 0] rfl ?_
      exact w_X12_findMosts_92 ih _ _ _ _ _ _ _ _ _ _ _ _ h
set_option maxRecDepth 100000 in
set_option maxHeartbeats 4000000 in
theorem w_X12_findMosts_75 {D : k_D} {dy : Nat → Nat} {k40 : Int32 → Int32 → Int32 → Int32 → St → Option (St)} (hk40 : ∀ (x1 : Int32) (x2 : Int32) (x3 : Int32) (x4 : Int32) (S : St) (out : St), k40 x1 x2 x3 x4 S = some out → Rn yX12_findMosts cX12_findMosts 11 none (k_rm 2) 0 0 D dy S (k_Pv dy out) 40 [(0, .ref (D.2.2 51)), (1, .int x1), (2, .int x2), (3, .int x3), (4, .int x4)] []) (x1 : Int32) (x2 : Int32) (x3 : Int32) (x4 : Int32) (x5 : Int32) (s0 : Int32) (S : St) (out : St) (h : f_X12_findMosts_75 k40 x1 x2 x3 x4 x5 s0 S = some out) : Rn yX12_findMosts cX12_findMosts 11 none (k_rm 2) 0 0 D dy S (k_Pv dy out) 75 [(0, .ref (D.2.2 51)), (1, .int x1), (2, .int x2), (3, .int x3), (4, .int x4), (5, .int x5)] [.int s0] := by
    unfold f_X12_findMosts_75 at h
    refine r_istore dX12_findMosts_75 (by decide) rfl ?_
    refine r_iconst (v := 0) dX12_findMosts_77 rfl ?_
    refine r_istore dX12_findMosts_78 (by decide) rfl ?_
    refine r_sub [2, 3, 4, 5, 6, 7, 1, 0] rfl ?_
    exact w_X12_findMosts_80 hk40 _ _ _ _ _ _ _ _ _ _ h
set_option maxRecDepth 100000 in
set_option maxHeartbeats 4000000 in
theorem w_X12_findMosts_40 {D : k_D} {dy : Nat → Nat} : ∀ (n : Nat) (x1 : Int32) (x2 : Int32) (x3 : Int32) (x4 : Int32) (S : St) (out : St), f_X12_findMosts_40 n x1 x2 x3 x4 S = some out → Rn yX12_findMosts cX12_findMosts 11 none (k_rm 2) 0 0 D dy S (k_Pv dy out) 40 [(0, .ref (D.2.2 51)), (1, .int x1), (2, .int x2), (3, .int x3), (4, .int x4)] [] := by
  intro n
  induction n with
  | zero => intro x1 x2 x3 x4 S out h; cases h
  | succ n ih =>
    intro x1 x2 x3 x4 S out h
    rw [f_X12_findMosts_40] at h
    refine r_iload 4 dX12_findMosts_40 rfl ?_
    refine r_if_lt (t := 194) dX12_findMosts_42 (by decide) (fun c => ?_) (fun c => ?_)
    · rw [if_pos c] at h
      exact r_vret rfl dX12_findMosts_194 ⟨rfl, rfl, Option.some.inj h⟩
    · rw [if_neg c] at h
      refine r_aload_n 0 dX12_findMosts_45 rfl rfl ?_
      refine r_iload 4 dX12_findMosts_46 rfl ?_
      obtain ⟨q48, hq48, h⟩ := g_bind h
      refine r_callVi [.int x4] [] q48 (ok_X12_lengthOf hq48) q_1545 q_1547 q_97 q_1548 q_153 hd_X12_lengthOf (ce_51 D dy _) kc12.1 rfl ⟨Nat.le_of_ble_eq_true rfl, Nat.le_of_ble_eq_true rfl⟩ rfl rfl (Nat.le_of_ble_eq_true rfl) dX12_findMosts_48 ?_
      refine r_istore dX12_findMosts_51 (by decide) rfl ?_
      refine r_aload_n 1 dX12_findMosts_53 rfl rfl ?_
      refine r_iload 5 dX12_findMosts_54 rfl ?_
      refine r_iload_n 2 dX12_findMosts_56 rfl rfl ?_
      refine r_iload_n 3 dX12_findMosts_57 rfl rfl ?_
      obtain ⟨q58, hq58, h⟩ := g_bind h
      refine r_callVi [.int x4, .int x1, .int x2] [] q58 (ok_X12_isPlayed hq58) q_1798 q_1800 q_133 q_1801 q_153 hd_X12_isPlayed (ce_51 D dy _) kc12.1 rfl ⟨Nat.le_of_ble_eq_true rfl, Nat.le_of_ble_eq_true rfl⟩ rfl rfl (Nat.le_of_ble_eq_true rfl) dX12_findMosts_58 ?_
      refine r_if_eq (t := 74) dX12_findMosts_61 (by decide) (fun c => ?_) (fun c => ?_)
      · rw [if_pos c] at h
        refine r_iconst (v := 0) dX12_findMosts_74 rfl ?_
        refine r_sub [1, 2, 3, 4, 5, 0] rfl ?_
        exact w_X12_findMosts_75 ih _ _ _ _ _ _ _ _ h
      · rw [if_neg c] at h
        refine r_aload_n 1 dX12_findMosts_64 rfl rfl ?_
        refine r_iload 5 dX12_findMosts_65 rfl ?_
        refine r_iconst (v := 3) dX12_findMosts_67 rfl ?_
        obtain ⟨q68, hq68, h⟩ := g_bind h
        refine r_callVi [.int x4, .int (3 : Int32)] [] q68 (ok_X12_ofDebt hq68) q_1533 q_1535 q_94 q_1536 q_153 hd_X12_ofDebt (ce_51 D dy _) kc12.1 rfl ⟨Nat.le_of_ble_eq_true rfl, Nat.le_of_ble_eq_true rfl⟩ rfl rfl (Nat.le_of_ble_eq_true rfl) dX12_findMosts_68 ?_
        refine r_goto (t := 75) dX12_findMosts_71 (by decide) ?_
        refine r_sub [1, 2, 3, 4, 5, 0] rfl ?_
        exact w_X12_findMosts_75 ih _ _ _ _ _ _ _ _ h
set_option maxRecDepth 100000 in
set_option maxHeartbeats 4000000 in
theorem w_X12_findMosts_3 {D : k_D} {dy : Nat → Nat} : ∀ (n : Nat) (x1 : Int32) (x2 : Int32) (x3 : Int32) (x4 : Int32) (S : St) (out : St), f_X12_findMosts_3 n x1 x2 x3 x4 S = some out → Rn yX12_findMosts cX12_findMosts 11 none (k_rm 2) 0 0 D dy S (k_Pv dy out) 3 [(0, .ref (D.2.2 51)), (1, .int x1), (2, .int x2), (3, .int x3), (4, .int x4)] [] := by
  intro n
  induction n with
  | zero => intro x1 x2 x3 x4 S out h; cases h
  | succ n ih =>
    intro x1 x2 x3 x4 S out h
    rw [f_X12_findMosts_3] at h
    refine r_iload 4 dX12_findMosts_3 rfl ?_
    refine r_iload_n 3 dX12_findMosts_5 rfl rfl ?_
    refine r_icmp_gt (t := 32) dX12_findMosts_6 (by decide) (fun c => ?_) (fun c => ?_)
    · rw [if_pos c] at h
      refine r_aload_n 0 dX12_findMosts_32 rfl rfl ?_
      obtain ⟨q33, hq33, h⟩ := g_bind h
      refine r_callVi [] [] q33 (ok_X12_debts hq33) q_1517 q_1519 q_91 q_1520 q_153 hd_X12_debts (ce_51 D dy _) kc12.1 rfl ⟨Nat.le_of_ble_eq_true rfl, Nat.le_of_ble_eq_true rfl⟩ rfl rfl (Nat.le_of_ble_eq_true rfl) dX12_findMosts_33 ?_
      refine r_iconst (v := 1) dX12_findMosts_36 rfl ?_
      refine r_isub dX12_findMosts_37 ?_
      refine r_istore dX12_findMosts_38 (by decide) rfl ?_
      refine r_sub [1, 2, 3, 4, 0] rfl ?_
      exact w_X12_findMosts_40 _ _ _ _ _ _ _ h
    · rw [if_neg c] at h
      refine r_aload_n 0 dX12_findMosts_9 rfl rfl ?_
      refine gf_51_43 q_1354 dX12_findMosts_10 ?_
      refine r_sipush (v := 241) dX12_findMosts_13 rfl ?_
      refine r_aload_n 0 dX12_findMosts_16 rfl rfl ?_
      obtain ⟨q17, hq17, h⟩ := g_bind h
      refine r_callVi [] [.int (241 : Int32), .ref (D.2.2 74)] q17 (ok_X12_debts hq17) q_1517 q_1519 q_91 q_1520 q_153 hd_X12_debts (ce_51 D dy _) kc12.1 rfl ⟨Nat.le_of_ble_eq_true rfl, Nat.le_of_ble_eq_true rfl⟩ rfl rfl (Nat.le_of_ble_eq_true rfl) dX12_findMosts_17 ?_
      refine r_imul dX12_findMosts_20 ?_
      refine r_iload 4 dX12_findMosts_21 rfl ?_
      refine r_iadd dX12_findMosts_23 ?_
      refine r_iconst (v := 0) dX12_findMosts_24 rfl ?_
      obtain ⟨c1, h⟩ := g_ite h
      refine as_74 (k_b_in c1) dX12_findMosts_25 ?_
      generalize sA q17.2 74 (((241 : Int32) * q17.1) + x4).toNatClampNeg (0 : Int32) = S2 at h ⊢
      replace h := g_let h
      refine r_iinc (q := 4) (v := x4 + (1 : Int32)) dX12_findMosts_26 rfl rfl (by decide) rfl ?_
      refine r_goto (t := 3) dX12_findMosts_29 (by decide) ?_
      refine r_sub [1, 2, 3, 4, 0] rfl ?_
      exact ih _ _ _ _ _ _ h
set_option maxRecDepth 100000 in
set_option maxHeartbeats 4000000 in
theorem w_X12_findMosts_0 {D : k_D} {dy : Nat → Nat} (x1 : Int32) (x2 : Int32) (x3 : Int32) (S : St) (out : St) (h : f_X12_findMosts x1 x2 x3 S = some out) : Rn yX12_findMosts cX12_findMosts 11 none (k_rm 2) 0 0 D dy S (k_Pv dy out) 0 [(0, .ref (D.2.2 51)), (1, .int x1), (2, .int x2), (3, .int x3)] [] := by
    unfold f_X12_findMosts at h
    refine r_iconst (v := 0) dX12_findMosts_0 rfl ?_
    refine r_istore dX12_findMosts_1 (by decide) rfl ?_
    refine r_sub [1, 2, 3, 4, 0] rfl ?_
    exact w_X12_findMosts_3 _ _ _ _ _ _ _ h
theorem ok_X12_findMosts {D : k_D} {dy : Nat → Nat} {x1 : Int32} {x2 : Int32} {x3 : Int32} {S : St} {out : St} (h : f_X12_findMosts x1 x2 x3 S = some out) : Sp yX12_findMosts cX12_findMosts 11 none (k_rm 2) D dy S [.ref (D.2.2 51), .int x1, .int x2, .int x3] (k_Pv dy out) := Sp.of (by decide +kernel) (Nat.le_of_ble_eq_true rfl) (w_X12_findMosts_0 _ _ _ S out h)
noncomputable def f_X12_findBest_230 (k162 : Int32 → Int32 → Int32 → St → Option (St)) (x4 : Int32) (x5 : Int32) (x6 : Int32) (S : St) : Option (St) := k162 x4 x5 (x6 + (1 : Int32)) S
noncomputable def f_X12_findBest_162 (k150 : Int32 → Int32 → St → Option (St)) : Nat → Int32 → Int32 → Int32 → St → Option (St)
  | 0, _, _, _, _ => none
  | n + 1, x4, x5, x6, S => (f_X12_lengthOf x5 S).bind fun q167 => if x4 < (x6 * q167.1) then f_X12_findBest_230 (f_X12_findBest_162 k150 n) x4 x5 x6 q167.2 else if k_b x5 16 = true then (f_X12_lengthOf x5 q167.2).bind fun q206 => if k_b ((((241 : Int32) * (x5 + (1 : Int32))) + x4) - (x6 * q206.1)) 4097 = true then if k_b (((241 : Int32) * x5) + x4) 4097 = true then if ((x6 * (gA q167.2 66 x5.toNatClampNeg)) + (gA q206.2 74 ((((241 : Int32) * (x5 + (1 : Int32))) + x4) - (x6 * q206.1)).toNatClampNeg)) = (gA q206.2 74 (((241 : Int32) * x5) + x4).toNatClampNeg) then if k_b x5 16 = true then k_let (sA q206.2 75 x5.toNatClampNeg x6) fun S5 => (f_X12_lengthOf x5 S5).bind fun q252 => k150 (x4 - (x6 * q252.1)) (x5 + (1 : Int32)) q252.2 else none else f_X12_findBest_230 (f_X12_findBest_162 k150 n) x4 x5 x6 q206.2 else none else none else none
noncomputable def f_X12_findBest_150 : Nat → Int32 → Int32 → St → Option (St)
  | 0, _, _, _ => none
  | n + 1, x4, x5, S => (f_X12_debts S).bind fun q153 => if q153.1 ≤ x5 then some q153.2 else f_X12_findBest_162 (f_X12_findBest_150 n) FU x4 x5 (0 : Int32) q153.2
noncomputable def f_X12_findBest_112 : Nat → St → Option (St)
  | 0, _ => none
  | n + 1, S => if k_b (gI S 53) 4097 = true then if (gI S 51) ≤ (gA S 74 (gI S 53).toNatClampNeg) then f_X12_findBest_150 FU (gI S 53) (0 : Int32) S else k_let (sI S 53 ((gI S 53) + (1 : Int32))) fun S2 => f_X12_findBest_112 n S2 else none
noncomputable def f_X12_findBest_91 (k13 : Int32 → Int32 → Int32 → Int32 → St → Option (St)) (x1 : Int32) (x2 : Int32) (x3 : Int32) (x4 : Int32) (S : St) : Option (St) := k13 x1 x2 x3 (x4 + (1 : Int32)) S
noncomputable def f_X12_findBest_79 (k13 : Int32 → Int32 → Int32 → Int32 → St → Option (St)) (x1 : Int32) (x2 : Int32) (x3 : Int32) (x4 : Int32) (x5 : Int32) (S : St) : Option (St) := k_let (sI S 51 x5) fun S1 => k_let (sI S1 52 x4) fun S2 => f_X12_findBest_91 k13 x1 x2 x3 x4 S2
noncomputable def f_X12_findBest_13 : Nat → Int32 → Int32 → Int32 → Int32 → St → Option (St)
  | 0, _, _, _, _, _ => none
  | n + 1, x1, x2, x3, x4, S => if (256 : Int32) ≤ x4 then (f_X12_findMosts x1 (gI S 52) x2 S).bind fun q104 => k_let (sI q104 53 (0 : Int32)) fun S1 => f_X12_findBest_112 FU S1 else (f_X12_bits x4 S).bind fun q23 => if x3 < q23.1 then f_X12_findBest_91 (f_X12_findBest_13 n) x1 x2 x3 x4 q23.2 else (f_X12_findMosts x1 x4 x2 q23.2).bind fun q35 => if k_b x2 4097 = true then if (gI q35 51) < (gA q35 74 x2.toNatClampNeg) then f_X12_findBest_79 (f_X12_findBest_13 n) x1 x2 x3 x4 (gA q35 74 x2.toNatClampNeg) q35 else if (gA q35 74 x2.toNatClampNeg) = (gI q35 51) then (f_X12_bits x4 q35).bind fun q66 => (f_X12_bits (gI q66.2 52) q66.2).bind fun q73 => if q73.1 ≤ q66.1 then f_X12_findBest_91 (f_X12_findBest_13 n) x1 x2 x3 x4 q73.2 else f_X12_findBest_79 (f_X12_findBest_13 n) x1 x2 x3 x4 (gA q35 74 x2.toNatClampNeg) q73.2 else f_X12_findBest_91 (f_X12_findBest_13 n) x1 x2 x3 x4 q35 else none
noncomputable def f_X12_findBest (x1 : Int32) (x2 : Int32) (x3 : Int32) (S : St) : Option (St) := k_let (sI S 51 (-1 : Int32)) fun S1 => k_let (sI S1 52 (0 : Int32)) fun S2 => f_X12_findBest_13 FU x1 x2 x3 (0 : Int32) S2
set_option maxRecDepth 100000 in
set_option maxHeartbeats 4000000 in
theorem w_X12_findBest_230 {D : k_D} {dy : Nat → Nat} {k162 : Int32 → Int32 → Int32 → St → Option (St)} (hk162 : ∀ (x4 : Int32) (x5 : Int32) (x6 : Int32) (S : St) (out : St), k162 x4 x5 x6 S = some out → Rn yX12_findBest cX12_findBest 7 none (k_rm 3) 0 0 D dy S (k_Pv dy out) 162 [(0, .ref (D.2.2 51)), (4, .int x4), (5, .int x5), (6, .int x6)] []) (x4 : Int32) (x5 : Int32) (x6 : Int32) (S : St) (out : St) (h : f_X12_findBest_230 k162 x4 x5 x6 S = some out) : Rn yX12_findBest cX12_findBest 7 none (k_rm 3) 0 0 D dy S (k_Pv dy out) 230 [(0, .ref (D.2.2 51)), (4, .int x4), (5, .int x5), (6, .int x6)] [] := by
    unfold f_X12_findBest_230 at h
    refine r_iinc (q := 3) (v := x6 + (1 : Int32)) dX12_findBest_230 rfl rfl (by decide) rfl ?_
    refine r_goto (t := 162) dX12_findBest_233 (by decide) ?_
    refine r_sub [1, 2, 3, 0] rfl ?_
    exact hk162 _ _ _ _ _ h
set_option maxRecDepth 100000 in
set_option maxHeartbeats 4000000 in
theorem w_X12_findBest_162 {D : k_D} {dy : Nat → Nat} {k150 : Int32 → Int32 → St → Option (St)} (hk150 : ∀ (x4 : Int32) (x5 : Int32) (S : St) (out : St), k150 x4 x5 S = some out → Rn yX12_findBest cX12_findBest 7 none (k_rm 3) 0 0 D dy S (k_Pv dy out) 150 [(0, .ref (D.2.2 51)), (4, .int x4), (5, .int x5)] []) : ∀ (n : Nat) (x4 : Int32) (x5 : Int32) (x6 : Int32) (S : St) (out : St), f_X12_findBest_162 k150 n x4 x5 x6 S = some out → Rn yX12_findBest cX12_findBest 7 none (k_rm 3) 0 0 D dy S (k_Pv dy out) 162 [(0, .ref (D.2.2 51)), (4, .int x4), (5, .int x5), (6, .int x6)] [] := by
  intro n
  induction n with
  | zero => intro x4 x5 x6 S out h; cases h
  | succ n ih =>
    intro x4 x5 x6 S out h
    rw [f_X12_findBest_162] at h
    refine r_iload 3 dX12_findBest_162 rfl ?_
    refine r_aload_n 0 dX12_findBest_164 rfl rfl ?_
    refine r_iload 2 dX12_findBest_165 rfl ?_
    obtain ⟨q167, hq167, h⟩ := g_bind h
    refine r_callVi [.int x5] [.int x6] q167 (ok_X12_lengthOf hq167) q_1545 q_1547 q_97 q_1548 q_153 hd_X12_lengthOf (ce_51 D dy _) kc12.1 rfl ⟨Nat.le_of_ble_eq_true rfl, Nat.le_of_ble_eq_true rfl⟩ rfl rfl (Nat.le_of_ble_eq_true rfl) dX12_findBest_167 ?_
    refine r_imul dX12_findBest_170 ?_
    refine r_iload 1 dX12_findBest_171 rfl ?_
    refine r_icmp_gt (t := 230) dX12_findBest_173 (by decide) (fun c => ?_) (fun c => ?_)
    · rw [if_pos c] at h
      exact w_X12_findBest_230 ih _ _ _ _ _ h
    · rw [if_neg c] at h
      refine r_iload 3 dX12_findBest_176 rfl ?_
      refine r_aload_n 0 dX12_findBest_178 rfl rfl ?_
      refine gf_51_33 q_1344 dX12_findBest_179 ?_
      refine r_iload 2 dX12_findBest_182 rfl ?_
      obtain ⟨c1, h⟩ := g_ite h
      refine al_66 (k_b_in c1) dX12_findBest_184 ?_
      refine r_imul dX12_findBest_185 ?_
      refine r_aload_n 0 dX12_findBest_186 rfl rfl ?_
      refine gf_51_43 q_1354 dX12_findBest_187 ?_
      refine r_sipush (v := 241) dX12_findBest_190 rfl ?_
      refine r_iload 2 dX12_findBest_193 rfl ?_
      refine r_iconst (v := 1) dX12_findBest_195 rfl ?_
      refine r_iadd dX12_findBest_196 ?_
      refine r_imul dX12_findBest_197 ?_
      refine r_iload 1 dX12_findBest_198 rfl ?_
      refine r_iadd dX12_findBest_200 ?_
      refine r_iload 3 dX12_findBest_201 rfl ?_
      refine r_aload_n 0 dX12_findBest_203 rfl rfl ?_
      refine r_iload 2 dX12_findBest_204 rfl ?_
      obtain ⟨q206, hq206, h⟩ := g_bind h
      refine r_callVi [.int x5] [.int x6, .int (((241 : Int32) * (x5 + (1 : Int32))) + x4), .ref (D.2.2 74), .int (x6 * (gA q167.2 66 x5.toNatClampNeg))] q206 (ok_X12_lengthOf hq206) q_1545 q_1547 q_97 q_1548 q_153 hd_X12_lengthOf (ce_51 D dy _) kc12.1 rfl ⟨Nat.le_of_ble_eq_true rfl, Nat.le_of_ble_eq_true rfl⟩ rfl rfl (Nat.le_of_ble_eq_true rfl) dX12_findBest_206 ?_
      refine r_imul dX12_findBest_209 ?_
      refine r_isub dX12_findBest_210 ?_
      obtain ⟨c2, h⟩ := g_ite h
      refine al_74 (k_b_in c2) dX12_findBest_211 ?_
      refine r_iadd dX12_findBest_212 ?_
      refine r_aload_n 0 dX12_findBest_213 rfl rfl ?_
      refine gf_51_43 q_1354 dX12_findBest_214 ?_
      refine r_sipush (v := 241) dX12_findBest_217 rfl ?_
      refine r_iload 2 dX12_findBest_220 rfl ?_
      refine r_imul dX12_findBest_222 ?_
      refine r_iload 1 dX12_findBest_223 rfl ?_
      refine r_iadd dX12_findBest_225 ?_
      obtain ⟨c3, h⟩ := g_ite h
      refine al_74 (k_b_in c3) dX12_findBest_226 ?_
      refine r_icmp_eq (t := 236) dX12_findBest_227 (by decide) (fun c => ?_) (fun c => ?_)
      · rw [if_pos c] at h
        refine r_aload_n 0 dX12_findBest_236 rfl rfl ?_
        refine gf_51_44 q_1355 dX12_findBest_237 ?_
        refine r_iload 2 dX12_findBest_240 rfl ?_
        refine r_iload 3 dX12_findBest_242 rfl ?_
        obtain ⟨c4, h⟩ := g_ite h
        refine as_75 (k_b_in c4) dX12_findBest_244 ?_
        generalize sA q206.2 75 x5.toNatClampNeg x6 = S5 at h ⊢
        replace h := g_let h
        refine r_iload 1 dX12_findBest_245 rfl ?_
        refine r_iload 3 dX12_findBest_247 rfl ?_
        refine r_aload_n 0 dX12_findBest_249 rfl rfl ?_
        refine r_iload 2 dX12_findBest_250 rfl ?_
        obtain ⟨q252, hq252, h⟩ := g_bind h
        refine r_callVi [.int x5] [.int x6, .int x4] q252 (ok_X12_lengthOf hq252) q_1545 q_1547 q_97 q_1548 q_153 hd_X12_lengthOf (ce_51 D dy _) kc12.1 rfl ⟨Nat.le_of_ble_eq_true rfl, Nat.le_of_ble_eq_true rfl⟩ rfl rfl (Nat.le_of_ble_eq_true rfl) dX12_findBest_252 ?_
        refine r_imul dX12_findBest_255 ?_
        refine r_isub dX12_findBest_256 ?_
        refine r_istore dX12_findBest_257 (by decide) rfl ?_
        refine r_iinc (q := 2) (v := x5 + (1 : Int32)) dX12_findBest_259 rfl rfl (by decide) rfl ?_
        refine r_goto (t := 150) dX12_findBest_262 (by decide) ?_
        refine r_sub [2, 1, 0] rfl ?_
        exact hk150 _ _ _ _ h
      · rw [if_neg c] at h
        exact w_X12_findBest_230 ih _ _ _ _ _ h
set_option maxRecDepth 100000 in
set_option maxHeartbeats 4000000 in
theorem w_X12_findBest_150 {D : k_D} {dy : Nat → Nat} : ∀ (n : Nat) (x4 : Int32) (x5 : Int32) (S : St) (out : St), f_X12_findBest_150 n x4 x5 S = some out → Rn yX12_findBest cX12_findBest 7 none (k_rm 3) 0 0 D dy S (k_Pv dy out) 150 [(0, .ref (D.2.2 51)), (4, .int x4), (5, .int x5)] [] := by
  intro n
  induction n with
  | zero => intro x4 x5 S out h; cases h
  | succ n ih =>
    intro x4 x5 S out h
    rw [f_X12_findBest_150] at h
    refine r_iload 2 dX12_findBest_150 rfl ?_
    refine r_aload_n 0 dX12_findBest_152 rfl rfl ?_
    obtain ⟨q153, hq153, h⟩ := g_bind h
    refine r_callVi [] [.int x5] q153 (ok_X12_debts hq153) q_1517 q_1519 q_91 q_1520 q_153 hd_X12_debts (ce_51 D dy _) kc12.1 rfl ⟨Nat.le_of_ble_eq_true rfl, Nat.le_of_ble_eq_true rfl⟩ rfl rfl (Nat.le_of_ble_eq_true rfl) dX12_findBest_153 ?_
    refine r_icmp_ge (t := 265) dX12_findBest_156 (by decide) (fun c => ?_) (fun c => ?_)
    · rw [if_pos c] at h
      exact r_vret rfl dX12_findBest_265 ⟨rfl, rfl, Option.some.inj h⟩
    · rw [if_neg c] at h
      refine r_iconst (v := 0) dX12_findBest_159 rfl ?_
      refine r_istore dX12_findBest_160 (by decide) rfl ?_
      refine r_sub [1, 2, 3, 0] rfl ?_
      exact w_X12_findBest_162 ih _ _ _ _ _ _ h
set_option maxRecDepth 100000 in
set_option maxHeartbeats 4000000 in
theorem w_X12_findBest_112 {D : k_D} {dy : Nat → Nat} : ∀ (n : Nat) (S : St) (out : St), f_X12_findBest_112 n S = some out → Rn yX12_findBest cX12_findBest 7 none (k_rm 3) 0 0 D dy S (k_Pv dy out) 112 [(0, .ref (D.2.2 51))] [] := by
  intro n
  induction n with
  | zero => intro S out h; cases h
  | succ n ih =>
    intro S out h
    rw [f_X12_findBest_112] at h
    refine r_aload_n 0 dX12_findBest_112 rfl rfl ?_
    refine gf_51_43 q_1354 dX12_findBest_113 ?_
    refine r_aload_n 0 dX12_findBest_116 rfl rfl ?_
    refine gf_51_47 q_1358 dX12_findBest_117 ?_
    obtain ⟨c1, h⟩ := g_ite h
    refine al_74 (k_b_in c1) dX12_findBest_120 ?_
    refine r_aload_n 0 dX12_findBest_121 rfl rfl ?_
    refine gf_51_45 q_1356 dX12_findBest_122 ?_
    refine r_icmp_ge (t := 141) dX12_findBest_125 (by decide) (fun c => ?_) (fun c => ?_)
    · rw [if_pos c] at h
      refine r_aload_n 0 dX12_findBest_141 rfl rfl ?_
      refine gf_51_47 q_1358 dX12_findBest_142 ?_
      refine r_istore dX12_findBest_145 (by decide) rfl ?_
      refine r_iconst (v := 0) dX12_findBest_147 rfl ?_
      refine r_istore dX12_findBest_148 (by decide) rfl ?_
      refine r_sub [2, 1, 0] rfl ?_
      exact w_X12_findBest_150 _ _ _ _ _ h
    · rw [if_neg c] at h
      refine r_aload_n 0 dX12_findBest_128 rfl rfl ?_
      refine r_dup dX12_findBest_129 rfl ?_
      refine gf_51_47 q_1358 dX12_findBest_130 ?_
      refine r_iconst (v := 1) dX12_findBest_133 rfl ?_
      refine r_iadd dX12_findBest_134 ?_
      refine pf_51_47 q_1358 dX12_findBest_135 ?_
      generalize sI S 53 ((gI S 53) + (1 : Int32)) = S2 at h ⊢
      replace h := g_let h
      refine r_goto (t := 112) dX12_findBest_138 (by decide) ?_
      exact ih _ _ h
set_option maxRecDepth 100000 in
set_option maxHeartbeats 4000000 in
theorem w_X12_findBest_91 {D : k_D} {dy : Nat → Nat} {k13 : Int32 → Int32 → Int32 → Int32 → St → Option (St)} (hk13 : ∀ (x1 : Int32) (x2 : Int32) (x3 : Int32) (x4 : Int32) (S : St) (out : St), k13 x1 x2 x3 x4 S = some out → Rn yX12_findBest cX12_findBest 7 none (k_rm 3) 0 0 D dy S (k_Pv dy out) 13 [(0, .ref (D.2.2 51)), (1, .int x1), (2, .int x2), (3, .int x3), (4, .int x4)] []) (x1 : Int32) (x2 : Int32) (x3 : Int32) (x4 : Int32) (S : St) (out : St) (h : f_X12_findBest_91 k13 x1 x2 x3 x4 S = some out) : Rn yX12_findBest cX12_findBest 7 none (k_rm 3) 0 0 D dy S (k_Pv dy out) 91 [(0, .ref (D.2.2 51)), (1, .int x1), (2, .int x2), (3, .int x3), (4, .int x4)] [] := by
    unfold f_X12_findBest_91 at h
    refine r_iinc (q := 4) (v := x4 + (1 : Int32)) dX12_findBest_91 rfl rfl (by decide) rfl ?_
    refine r_goto (t := 13) dX12_findBest_94 (by decide) ?_
    refine r_sub [1, 2, 3, 4, 0] rfl ?_
    exact hk13 _ _ _ _ _ _ h
set_option maxRecDepth 100000 in
set_option maxHeartbeats 4000000 in
theorem w_X12_findBest_79 {D : k_D} {dy : Nat → Nat} {k13 : Int32 → Int32 → Int32 → Int32 → St → Option (St)} (hk13 : ∀ (x1 : Int32) (x2 : Int32) (x3 : Int32) (x4 : Int32) (S : St) (out : St), k13 x1 x2 x3 x4 S = some out → Rn yX12_findBest cX12_findBest 7 none (k_rm 3) 0 0 D dy S (k_Pv dy out) 13 [(0, .ref (D.2.2 51)), (1, .int x1), (2, .int x2), (3, .int x3), (4, .int x4)] []) (x1 : Int32) (x2 : Int32) (x3 : Int32) (x4 : Int32) (x5 : Int32) (S : St) (out : St) (h : f_X12_findBest_79 k13 x1 x2 x3 x4 x5 S = some out) : Rn yX12_findBest cX12_findBest 7 none (k_rm 3) 0 0 D dy S (k_Pv dy out) 79 [(0, .ref (D.2.2 51)), (1, .int x1), (2, .int x2), (3, .int x3), (4, .int x4), (5, .int x5)] [] := by
    unfold f_X12_findBest_79 at h
    refine r_aload_n 0 dX12_findBest_79 rfl rfl ?_
    refine r_iload 5 dX12_findBest_80 rfl ?_
    refine pf_51_45 q_1356 dX12_findBest_82 ?_
    generalize sI S 51 x5 = S1 at h ⊢
    replace h := g_let h
    refine r_aload_n 0 dX12_findBest_85 rfl rfl ?_
    refine r_iload 4 dX12_findBest_86 rfl ?_
    refine pf_51_46 q_1357 dX12_findBest_88 ?_
    generalize sI S1 52 x4 = S2 at h ⊢
    replace h := g_let h
    refine r_sub [0, 1, 2, 3, 4] rfl ?_
    exact w_X12_findBest_91 hk13 _ _ _ _ _ _ h
set_option maxRecDepth 100000 in
set_option maxHeartbeats 4000000 in
theorem w_X12_findBest_13 {D : k_D} {dy : Nat → Nat} : ∀ (n : Nat) (x1 : Int32) (x2 : Int32) (x3 : Int32) (x4 : Int32) (S : St) (out : St), f_X12_findBest_13 n x1 x2 x3 x4 S = some out → Rn yX12_findBest cX12_findBest 7 none (k_rm 3) 0 0 D dy S (k_Pv dy out) 13 [(0, .ref (D.2.2 51)), (1, .int x1), (2, .int x2), (3, .int x3), (4, .int x4)] [] := by
  intro n
  induction n with
  | zero => intro x1 x2 x3 x4 S out h; cases h
  | succ n ih =>
    intro x1 x2 x3 x4 S out h
    rw [f_X12_findBest_13] at h
    refine r_iload 4 dX12_findBest_13 rfl ?_
    refine r_sipush (v := 256) dX12_findBest_15 rfl ?_
    refine r_icmp_ge (t := 97) dX12_findBest_18 (by decide) (fun c => ?_) (fun c => ?_)
    · rw [if_pos c] at h
      refine r_aload_n 0 dX12_findBest_97 rfl rfl ?_
      refine r_iload_n 1 dX12_findBest_98 rfl rfl ?_
      refine r_aload_n 0 dX12_findBest_99 rfl rfl ?_
      refine gf_51_46 q_1357 dX12_findBest_100 ?_
      refine r_iload_n 2 dX12_findBest_103 rfl rfl ?_
      obtain ⟨q104, hq104, h⟩ := g_bind h
      refine r_callVv [.int x1, .int (gI S 52), .int x2] [] q104 (ok_X12_findMosts hq104) q_1794 q_1796 q_132 q_1797 q_153 hd_X12_findMosts (ce_51 D dy _) kc12.1 rfl ⟨Nat.le_of_ble_eq_true rfl, Nat.le_of_ble_eq_true rfl⟩ rfl rfl (Nat.le_of_ble_eq_true rfl) dX12_findBest_104 ?_
      refine r_aload_n 0 dX12_findBest_107 rfl rfl ?_
      refine r_iconst (v := 0) dX12_findBest_108 rfl ?_
      refine pf_51_47 q_1358 dX12_findBest_109 ?_
      generalize sI q104 53 (0 : Int32) = S1 at h ⊢
      replace h := g_let h
      refine r_sub [0] rfl ?_
      exact w_X12_findBest_112 _ _ _ h
    · rw [if_neg c] at h
      refine r_iload 4 dX12_findBest_21 rfl ?_
      obtain ⟨q23, hq23, h⟩ := g_bind h
      refine r_callSi [.int x4] [] q23 (ok_X12_bits hq23) q_1753 q_1754 q_1755 q_153 hd_X12_bits ⟨Nat.le_of_ble_eq_true rfl, Nat.le_of_ble_eq_true rfl⟩ rfl rfl (Nat.le_of_ble_eq_true rfl) dX12_findBest_23 ?_
      refine r_iload_n 3 dX12_findBest_26 rfl rfl ?_
      refine r_icmp_gt (t := 91) dX12_findBest_27 (by decide) (fun c => ?_) (fun c => ?_)
      · rw [if_pos c] at h
        exact w_X12_findBest_91 ih _ _ _ _ _ _ h
      · rw [if_neg c] at h
        refine r_aload_n 0 dX12_findBest_30 rfl rfl ?_
        refine r_iload_n 1 dX12_findBest_31 rfl rfl ?_
        refine r_iload 4 dX12_findBest_32 rfl ?_
        refine r_iload_n 2 dX12_findBest_34 rfl rfl ?_
        obtain ⟨q35, hq35, h⟩ := g_bind h
        refine r_callVv [.int x1, .int x4, .int x2] [] q35 (ok_X12_findMosts hq35) q_1794 q_1796 q_132 q_1797 q_153 hd_X12_findMosts (ce_51 D dy _) kc12.1 rfl ⟨Nat.le_of_ble_eq_true rfl, Nat.le_of_ble_eq_true rfl⟩ rfl rfl (Nat.le_of_ble_eq_true rfl) dX12_findBest_35 ?_
        refine r_aload_n 0 dX12_findBest_38 rfl rfl ?_
        refine gf_51_43 q_1354 dX12_findBest_39 ?_
        refine r_iload_n 2 dX12_findBest_42 rfl rfl ?_
        obtain ⟨c2, h⟩ := g_ite h
        refine al_74 (k_b_in c2) dX12_findBest_43 ?_
        refine r_istore dX12_findBest_44 (by decide) rfl ?_
        refine r_iload 0 dX12_findBest_46 rfl ?_
        refine r_aload_n 1 dX12_findBest_48 rfl rfl ?_
        refine gf_51_45 q_1356 dX12_findBest_49 ?_
        refine r_icmp_gt (t := 79) dX12_findBest_52 (by decide) (fun c => ?_) (fun c => ?_)
        · rw [if_pos c] at h
          refine r_sub [1, 2, 3, 4, 5, 0] rfl ?_
          exact w_X12_findBest_79 ih _ _ _ _ _ _ _ h
        · rw [if_neg c] at h
          refine r_iload 0 dX12_findBest_55 rfl ?_
          refine r_aload_n 1 dX12_findBest_57 rfl rfl ?_
          refine gf_51_45 q_1356 dX12_findBest_58 ?_
          refine r_icmp_ne (t := 91) dX12_findBest_61 (by decide) (fun c => ?_) (fun c => ?_)
          · rw [if_neg c] at h
            refine r_sub [1, 2, 3, 4, 5] rfl ?_
            exact w_X12_findBest_91 ih _ _ _ _ _ _ h
          · rw [if_pos c] at h
            refine r_iload 5 dX12_findBest_64 rfl ?_
            obtain ⟨q66, hq66, h⟩ := g_bind h
            refine r_callSi [.int x4] [] q66 (ok_X12_bits hq66) q_1753 q_1754 q_1755 q_153 hd_X12_bits ⟨Nat.le_of_ble_eq_true rfl, Nat.le_of_ble_eq_true rfl⟩ rfl rfl (Nat.le_of_ble_eq_true rfl) dX12_findBest_66 ?_
            refine r_aload_n 1 dX12_findBest_69 rfl rfl ?_
            refine gf_51_46 q_1357 dX12_findBest_70 ?_
            obtain ⟨q73, hq73, h⟩ := g_bind h
            refine r_callSi [.int (gI q66.2 52)] [.int q66.1] q73 (ok_X12_bits hq73) q_1753 q_1754 q_1755 q_153 hd_X12_bits ⟨Nat.le_of_ble_eq_true rfl, Nat.le_of_ble_eq_true rfl⟩ rfl rfl (Nat.le_of_ble_eq_true rfl) dX12_findBest_73 ?_
            refine r_icmp_ge (t := 91) dX12_findBest_76 (by decide) (fun c => ?_) (fun c => ?_)
            · rw [if_pos c] at h
              refine r_sub [1, 2, 3, 4, 5] rfl ?_
              exact w_X12_findBest_91 ih _ _ _ _ _ _ h
            · rw [if_neg c] at h
              refine r_sub [1, 2, 3, 4, 5, 0] rfl ?_
              exact w_X12_findBest_79 ih _ _ _ _ _ _ _ h
set_option maxRecDepth 100000 in
set_option maxHeartbeats 4000000 in
theorem w_X12_findBest_0 {D : k_D} {dy : Nat → Nat} (x1 : Int32) (x2 : Int32) (x3 : Int32) (S : St) (out : St) (h : f_X12_findBest x1 x2 x3 S = some out) : Rn yX12_findBest cX12_findBest 7 none (k_rm 3) 0 0 D dy S (k_Pv dy out) 0 [(0, .ref (D.2.2 51)), (1, .int x1), (2, .int x2), (3, .int x3)] [] := by
    unfold f_X12_findBest at h
    refine r_aload_n 0 dX12_findBest_0 rfl rfl ?_
    refine r_iconst (v := -1) dX12_findBest_1 rfl ?_
    refine pf_51_45 q_1356 dX12_findBest_2 ?_
    generalize sI S 51 (-1 : Int32) = S1 at h ⊢
    replace h := g_let h
    refine r_aload_n 0 dX12_findBest_5 rfl rfl ?_
    refine r_iconst (v := 0) dX12_findBest_6 rfl ?_
    refine pf_51_46 q_1357 dX12_findBest_7 ?_
    generalize sI S1 52 (0 : Int32) = S2 at h ⊢
    replace h := g_let h
    refine r_iconst (v := 0) dX12_findBest_10 rfl ?_
    refine r_istore dX12_findBest_11 (by decide) rfl ?_
    refine r_sub [1, 2, 3, 4, 0] rfl ?_
    exact w_X12_findBest_13 _ _ _ _ _ _ _ h
theorem ok_X12_findBest {D : k_D} {dy : Nat → Nat} {x1 : Int32} {x2 : Int32} {x3 : Int32} {S : St} {out : St} (h : f_X12_findBest x1 x2 x3 S = some out) : Sp yX12_findBest cX12_findBest 7 none (k_rm 3) D dy S [.ref (D.2.2 51), .int x1, .int x2, .int x3] (k_Pv dy out) := Sp.of (by decide +kernel) (Nat.le_of_ble_eq_true rfl) (w_X12_findBest_0 _ _ _ S out h)
noncomputable def f_X12_isWedding_36 (s0 : Int32) (S : St) : Option (Int32 × St) := if s0 = 0 ∨ s0 = 1 then some (s0, S) else none
noncomputable def f_X12_isWedding_35 (S : St) : Option (Int32 × St) := f_X12_isWedding_36 (0 : Int32) S
noncomputable def f_X12_isWedding (x0 : Int32) (x1 : Int32) (x2 : Int32) (S : St) : Option (Int32 × St) := (f_X12_isDancer x0 S).bind fun q1 => if q1.1 = 0 then f_X12_isWedding_35 q1.2 else (f_X12_in x1.toInt64 (0 : Int64) (240 : Int64) q1.2).bind fun q13 => if q13.1 = 0 then f_X12_isWedding_35 q13.2 else (f_X12_in x2.toInt64 (0 : Int64) (8 : Int64) q13.2).bind fun q25 => if q25.1 = 0 then f_X12_isWedding_35 q25.2 else f_X12_isWedding_36 (1 : Int32) q25.2
set_option maxRecDepth 100000 in
set_option maxHeartbeats 4000000 in
theorem w_X12_isWedding_36 {D : k_D} {dy : Nat → Nat} (s0 : Int32) (S : St) (out : Int32 × St) (h : f_X12_isWedding_36 s0 S = some out) : Rn yX12_isWedding cX12_isWedding 3 (some .boolean) (k_rm 2) 0 0 D dy S (k_Pi dy out) 36 [] [.int s0] := by
    unfold f_X12_isWedding_36 at h
    obtain ⟨c, h⟩ := g_ite h
    cases h
    exact r_zret rfl (k_zn c) dX12_isWedding_36 ⟨rfl, rfl, rfl⟩
set_option maxRecDepth 100000 in
set_option maxHeartbeats 4000000 in
theorem w_X12_isWedding_35 {D : k_D} {dy : Nat → Nat} (S : St) (out : Int32 × St) (h : f_X12_isWedding_35 S = some out) : Rn yX12_isWedding cX12_isWedding 3 (some .boolean) (k_rm 2) 0 0 D dy S (k_Pi dy out) 35 [] [] := by
    unfold f_X12_isWedding_35 at h
    refine r_iconst (v := 0) dX12_isWedding_35 rfl ?_
    exact w_X12_isWedding_36 _ _ _ h
set_option maxRecDepth 100000 in
set_option maxHeartbeats 4000000 in
theorem w_X12_isWedding_0 {D : k_D} {dy : Nat → Nat} (x0 : Int32) (x1 : Int32) (x2 : Int32) (S : St) (out : Int32 × St) (h : f_X12_isWedding x0 x1 x2 S = some out) : Rn yX12_isWedding cX12_isWedding 3 (some .boolean) (k_rm 2) 0 0 D dy S (k_Pi dy out) 0 [(0, .int x0), (1, .int x1), (2, .int x2)] [] := by
    unfold f_X12_isWedding at h
    refine r_iload_n 0 dX12_isWedding_0 rfl rfl ?_
    obtain ⟨q1, hq1, h⟩ := g_bind h
    refine r_callSi [.int x0] [] q1 (ok_X12_isDancer hq1) q_1512 q_1513 q_1514 q_153 hd_X12_isDancer ⟨Nat.le_of_ble_eq_true rfl, Nat.le_of_ble_eq_true rfl⟩ rfl rfl (Nat.le_of_ble_eq_true rfl) dX12_isWedding_1 ?_
    refine r_if_eq (t := 35) dX12_isWedding_4 (by decide) (fun c => ?_) (fun c => ?_)
    · rw [if_pos c] at h
      refine r_sub [] rfl ?_
      exact w_X12_isWedding_35 _ _ h
    · rw [if_neg c] at h
      refine r_iload_n 1 dX12_isWedding_7 rfl rfl ?_
      refine r_i2l dX12_isWedding_8 ?_
      refine r_lconst (v := 0) dX12_isWedding_9 rfl ?_
      refine r_ldc2 (v := 240) q_1788 dX12_isWedding_10 ?_
      obtain ⟨q13, hq13, h⟩ := g_bind h
      refine r_callSi [.long x1.toInt64, .long (0 : Int64), .long (240 : Int64)] [] q13 (ok_X12_in hq13) q_1481 q_1482 q_1483 q_153 hd_X12_in ⟨Nat.le_of_ble_eq_true rfl, Nat.le_of_ble_eq_true rfl⟩ rfl rfl (Nat.le_of_ble_eq_true rfl) dX12_isWedding_13 ?_
      refine r_if_eq (t := 35) dX12_isWedding_16 (by decide) (fun c => ?_) (fun c => ?_)
      · rw [if_pos c] at h
        refine r_sub [] rfl ?_
        exact w_X12_isWedding_35 _ _ h
      · rw [if_neg c] at h
        refine r_iload_n 2 dX12_isWedding_19 rfl rfl ?_
        refine r_i2l dX12_isWedding_20 ?_
        refine r_lconst (v := 0) dX12_isWedding_21 rfl ?_
        refine r_ldc2 (v := 8) q_1789 dX12_isWedding_22 ?_
        obtain ⟨q25, hq25, h⟩ := g_bind h
        refine r_callSi [.long x2.toInt64, .long (0 : Int64), .long (8 : Int64)] [] q25 (ok_X12_in hq25) q_1481 q_1482 q_1483 q_153 hd_X12_in ⟨Nat.le_of_ble_eq_true rfl, Nat.le_of_ble_eq_true rfl⟩ rfl rfl (Nat.le_of_ble_eq_true rfl) dX12_isWedding_25 ?_
        refine r_if_eq (t := 35) dX12_isWedding_28 (by decide) (fun c => ?_) (fun c => ?_)
        · rw [if_pos c] at h
          refine r_sub [] rfl ?_
          exact w_X12_isWedding_35 _ _ h
        · rw [if_neg c] at h
          refine r_iconst (v := 1) dX12_isWedding_31 rfl ?_
          refine r_goto (t := 36) dX12_isWedding_32 (by decide) ?_
          refine r_sub [] rfl ?_
          exact w_X12_isWedding_36 _ _ _ h
theorem ok_X12_isWedding {D : k_D} {dy : Nat → Nat} {x0 : Int32} {x1 : Int32} {x2 : Int32} {S : St} {out : Int32 × St} (h : f_X12_isWedding x0 x1 x2 S = some out) : Sp yX12_isWedding cX12_isWedding 3 (some .boolean) (k_rm 2) D dy S [.int x0, .int x1, .int x2] (k_Pi dy out) := Sp.of (by decide +kernel) (Nat.le_of_ble_eq_true rfl) (w_X12_isWedding_0 _ _ _ S out h)
noncomputable def f_X12_best_33 (S : St) : Option (Int32 × St) := some ((-1 : Int32), S)
noncomputable def f_X12_best_93 (s0 : Int32) (S : St) : Option (Int32 × St) := some (s0, S)
noncomputable def f_X12_best (x1 : Int32) (x2 : Int32) (x3 : Int32) (x4 : Int32) (S : St) : Option (Int32 × St) := k_let (sI S 33 (0 : Int32)) fun S1 => (f_X12_isWedding x1 x2 x3 S1).bind fun q8 => if q8.1 = 0 then f_X12_best_33 q8.2 else (f_X12_debts q8.2).bind fun q22 => (f_X12_in x4.toInt64 (0 : Int64) ((2 : Int64) + q22.1.toInt64) q22.2).bind fun q27 => if q27.1 = 0 then f_X12_best_33 q27.2 else (f_X12_askAll q27.2).bind fun q36 => (f_X12_findBest x1 x2 x3 q36).bind fun q43 => if x4 = 0 then f_X12_best_93 (gI q43 51) q43 else if x4 = (1 : Int32) then f_X12_best_93 (gI q43 52) q43 else if x4 = (2 : Int32) then f_X12_best_93 (gI q43 53) q43 else if k_b (x4 - (3 : Int32)) 16 = true then f_X12_best_93 (gA q43 75 (x4 - (3 : Int32)).toNatClampNeg) q43 else none
set_option maxRecDepth 100000 in
set_option maxHeartbeats 4000000 in
theorem w_X12_best_33 {D : k_D} {dy : Nat → Nat} (S : St) (out : Int32 × St) (h : f_X12_best_33 S = some out) : Rn yX12_best cX12_best 5 (some .int) (k_rm 5) 0 0 D dy S (k_Pi dy out) 33 [] [] := by
    unfold f_X12_best_33 at h
    refine r_iconst (v := -1) dX12_best_33 rfl ?_
    cases h
    exact r_iret rfl dX12_best_34 ⟨rfl, rfl, rfl⟩
set_option maxRecDepth 100000 in
set_option maxHeartbeats 4000000 in
theorem w_X12_best_93 {D : k_D} {dy : Nat → Nat} (s0 : Int32) (S : St) (out : Int32 × St) (h : f_X12_best_93 s0 S = some out) : Rn yX12_best cX12_best 5 (some .int) (k_rm 5) 0 0 D dy S (k_Pi dy out) 93 [] [.int s0] := by
    unfold f_X12_best_93 at h
    cases h
    exact r_iret rfl dX12_best_93 ⟨rfl, rfl, rfl⟩
set_option maxRecDepth 100000 in
set_option maxHeartbeats 4000000 in
theorem w_X12_best_0 {D : k_D} {dy : Nat → Nat} (x1 : Int32) (x2 : Int32) (x3 : Int32) (x4 : Int32) (S : St) (out : Int32 × St) (h : f_X12_best x1 x2 x3 x4 S = some out) : Rn yX12_best cX12_best 5 (some .int) (k_rm 5) 0 0 D dy S (k_Pi dy out) 0 [(0, .ref (D.2.2 51)), (1, .int x1), (2, .int x2), (3, .int x3), (4, .int x4)] [] := by
    unfold f_X12_best at h
    refine r_aload_n 0 dX12_best_0 rfl rfl ?_
    refine r_iconst (v := 0) dX12_best_1 rfl ?_
    refine pf_51_0 q_1311 dX12_best_2 ?_
    generalize sI S 33 (0 : Int32) = S1 at h ⊢
    replace h := g_let h
    refine r_iload_n 1 dX12_best_5 rfl rfl ?_
    refine r_iload_n 2 dX12_best_6 rfl rfl ?_
    refine r_iload_n 3 dX12_best_7 rfl rfl ?_
    obtain ⟨q8, hq8, h⟩ := g_bind h
    refine r_callSi [.int x1, .int x2, .int x3] [] q8 (ok_X12_isWedding hq8) q_1785 q_1786 q_1787 q_153 hd_X12_isWedding ⟨Nat.le_of_ble_eq_true rfl, Nat.le_of_ble_eq_true rfl⟩ rfl rfl (Nat.le_of_ble_eq_true rfl) dX12_best_8 ?_
    refine r_if_eq (t := 33) dX12_best_11 (by decide) (fun c => ?_) (fun c => ?_)
    · rw [if_pos c] at h
      refine r_sub [] rfl ?_
      exact w_X12_best_33 _ _ h
    · rw [if_neg c] at h
      refine r_iload 4 dX12_best_14 rfl ?_
      refine r_i2l dX12_best_16 ?_
      refine r_lconst (v := 0) dX12_best_17 rfl ?_
      refine r_ldc2 (v := 2) q_1745 dX12_best_18 ?_
      refine r_aload_n 0 dX12_best_21 rfl rfl ?_
      obtain ⟨q22, hq22, h⟩ := g_bind h
      refine r_callVi [] [.long (2 : Int64), .long (0 : Int64), .long x4.toInt64] q22 (ok_X12_debts hq22) q_1517 q_1519 q_91 q_1520 q_153 hd_X12_debts (ce_51 D dy _) kc12.1 rfl ⟨Nat.le_of_ble_eq_true rfl, Nat.le_of_ble_eq_true rfl⟩ rfl rfl (Nat.le_of_ble_eq_true rfl) dX12_best_22 ?_
      refine r_i2l dX12_best_25 ?_
      refine r_ladd dX12_best_26 ?_
      obtain ⟨q27, hq27, h⟩ := g_bind h
      refine r_callSi [.long x4.toInt64, .long (0 : Int64), .long ((2 : Int64) + q22.1.toInt64)] [] q27 (ok_X12_in hq27) q_1481 q_1482 q_1483 q_153 hd_X12_in ⟨Nat.le_of_ble_eq_true rfl, Nat.le_of_ble_eq_true rfl⟩ rfl rfl (Nat.le_of_ble_eq_true rfl) dX12_best_27 ?_
      refine r_if_ne (t := 35) dX12_best_30 (by decide) (fun c => ?_) (fun c => ?_)
      · rw [if_neg c] at h
        refine r_aload_n 0 dX12_best_35 rfl rfl ?_
        obtain ⟨q36, hq36, h⟩ := g_bind h
        refine r_callVv [] [] q36 (ok_X12_askAll hq36) q_1537 q_1539 q_95 q_1540 q_153 hd_X12_askAll (ce_51 D dy _) kc12.1 rfl ⟨Nat.le_of_ble_eq_true rfl, Nat.le_of_ble_eq_true rfl⟩ rfl rfl (Nat.le_of_ble_eq_true rfl) dX12_best_36 ?_
        refine r_aload_n 0 dX12_best_39 rfl rfl ?_
        refine r_iload_n 1 dX12_best_40 rfl rfl ?_
        refine r_iload_n 2 dX12_best_41 rfl rfl ?_
        refine r_iload_n 3 dX12_best_42 rfl rfl ?_
        obtain ⟨q43, hq43, h⟩ := g_bind h
        refine r_callVv [.int x1, .int x2, .int x3] [] q43 (ok_X12_findBest hq43) q_1790 q_1792 q_131 q_1793 q_153 hd_X12_findBest (ce_51 D dy _) kc12.1 rfl ⟨Nat.le_of_ble_eq_true rfl, Nat.le_of_ble_eq_true rfl⟩ rfl rfl (Nat.le_of_ble_eq_true rfl) dX12_best_43 ?_
        refine r_iload 4 dX12_best_46 rfl ?_
        refine r_if_ne (t := 58) dX12_best_48 (by decide) (fun c => ?_) (fun c => ?_)
        · rw [if_neg c] at h
          refine r_iload 4 dX12_best_58 rfl ?_
          refine r_iconst (v := 1) dX12_best_60 rfl ?_
          refine r_icmp_ne (t := 71) dX12_best_61 (by decide) (fun c => ?_) (fun c => ?_)
          · rw [if_neg c] at h
            refine r_iload 4 dX12_best_71 rfl ?_
            refine r_iconst (v := 2) dX12_best_73 rfl ?_
            refine r_icmp_ne (t := 84) dX12_best_74 (by decide) (fun c => ?_) (fun c => ?_)
            · rw [if_neg c] at h
              refine r_aload_n 0 dX12_best_84 rfl rfl ?_
              refine gf_51_44 q_1355 dX12_best_85 ?_
              refine r_iload 4 dX12_best_88 rfl ?_
              refine r_iconst (v := 3) dX12_best_90 rfl ?_
              refine r_isub dX12_best_91 ?_
              obtain ⟨c2, h⟩ := g_ite h
              refine al_75 (k_b_in c2) dX12_best_92 ?_
              refine r_sub [] rfl ?_
              exact w_X12_best_93 _ _ _ h
            · rw [if_pos c] at h
              refine r_aload_n 0 dX12_best_77 rfl rfl ?_
              refine gf_51_47 q_1358 dX12_best_78 ?_
              refine r_goto (t := 93) dX12_best_81 (by decide) ?_
              refine r_sub [] rfl ?_
              exact w_X12_best_93 _ _ _ h
          · rw [if_pos c] at h
            refine r_aload_n 0 dX12_best_64 rfl rfl ?_
            refine gf_51_46 q_1357 dX12_best_65 ?_
            refine r_goto (t := 93) dX12_best_68 (by decide) ?_
            refine r_sub [] rfl ?_
            exact w_X12_best_93 _ _ _ h
        · rw [if_pos c] at h
          refine r_aload_n 0 dX12_best_51 rfl rfl ?_
          refine gf_51_45 q_1356 dX12_best_52 ?_
          refine r_goto (t := 93) dX12_best_55 (by decide) ?_
          refine r_sub [] rfl ?_
          exact w_X12_best_93 _ _ _ h
      · rw [if_pos c] at h
        refine r_sub [] rfl ?_
        exact w_X12_best_33 _ _ h
theorem ok_X12_best {D : k_D} {dy : Nat → Nat} {x1 : Int32} {x2 : Int32} {x3 : Int32} {x4 : Int32} {S : St} {out : Int32 × St} (h : f_X12_best x1 x2 x3 x4 S = some out) : Sp yX12_best cX12_best 5 (some .int) (k_rm 5) D dy S [.ref (D.2.2 51), .int x1, .int x2, .int x3, .int x4] (k_Pi dy out) := Sp.of (by decide +kernel) (Nat.le_of_ble_eq_true rfl) (w_X12_best_0 _ _ _ _ S out h)
noncomputable def f_X12_play_34 : Nat → Int32 → St → Option (Int32 × St)
  | 0, _, _ => none
  | n + 1, x4, S => (f_X12_debts S).bind fun q37 => if q37.1 ≤ x4 then (f_X12_sweep q37.2).bind fun q74 => (f_X12_tell (gI q74 51) q74).bind fun q82 => some (q82.1, q82.2) else if k_b (((14 : Int32) + ((5 : Int32) * x4)) + (3 : Int32)) 5560 = true then if k_b x4 16 = true then if k_b (((14 : Int32) + ((5 : Int32) * x4)) + (3 : Int32)) 5560 = true then k_let (sA q37.2 53 (((14 : Int32) + ((5 : Int32) * x4)) + (3 : Int32)).toNatClampNeg ((gA q37.2 53 (((14 : Int32) + ((5 : Int32) * x4)) + (3 : Int32)).toNatClampNeg) - (gA q37.2 75 x4.toNatClampNeg))) fun S4 => f_X12_play_34 n (x4 + (1 : Int32)) S4 else none else none else none
noncomputable def f_X12_play (x1 : Int32) (x2 : Int32) (x3 : Int32) (S : St) : Option (Int32 × St) := k_let (sI S 33 (0 : Int32)) fun S1 => (f_X12_isWedding x1 x2 x3 S1).bind fun q8 => if q8.1 = 0 then (f_X12_tell (-1 : Int32) q8.2).bind fun q16 => some (q16.1, q16.2) else (f_X12_askAll q8.2).bind fun q21 => (f_X12_findBest x1 x2 x3 q21).bind fun q28 => f_X12_play_34 FU (0 : Int32) q28
set_option maxRecDepth 100000 in
set_option maxHeartbeats 4000000 in
theorem w_X12_play_34 {D : k_D} {dy : Nat → Nat} : ∀ (n : Nat) (x4 : Int32) (S : St) (out : Int32 × St), f_X12_play_34 n x4 S = some out → Rn yX12_play cX12_play 5 (some .int) (k_rm 5) 0 0 D dy S (k_Pi dy out) 34 [(0, .ref (D.2.2 51)), (4, .int x4)] [] := by
  intro n
  induction n with
  | zero => intro x4 S out h; cases h
  | succ n ih =>
    intro x4 S out h
    rw [f_X12_play_34] at h
    refine r_iload 1 dX12_play_34 rfl ?_
    refine r_aload_n 0 dX12_play_36 rfl rfl ?_
    obtain ⟨q37, hq37, h⟩ := g_bind h
    refine r_callVi [] [.int x4] q37 (ok_X12_debts hq37) q_1517 q_1519 q_91 q_1520 q_153 hd_X12_debts (ce_51 D dy _) kc12.1 rfl ⟨Nat.le_of_ble_eq_true rfl, Nat.le_of_ble_eq_true rfl⟩ rfl rfl (Nat.le_of_ble_eq_true rfl) dX12_play_37 ?_
    refine r_icmp_ge (t := 73) dX12_play_40 (by decide) (fun c => ?_) (fun c => ?_)
    · rw [if_pos c] at h
      refine r_aload_n 0 dX12_play_73 rfl rfl ?_
      obtain ⟨q74, hq74, h⟩ := g_bind h
      refine r_callVv [] [] q74 (ok_X12_sweep hq74) q_1568 q_1570 q_101 q_1571 q_153 hd_X12_sweep (ce_51 D dy _) kc12.1 rfl ⟨Nat.le_of_ble_eq_true rfl, Nat.le_of_ble_eq_true rfl⟩ rfl rfl (Nat.le_of_ble_eq_true rfl) dX12_play_74 ?_
      refine r_aload_n 0 dX12_play_77 rfl rfl ?_
      refine r_aload_n 0 dX12_play_78 rfl rfl ?_
      refine gf_51_45 q_1356 dX12_play_79 ?_
      obtain ⟨q82, hq82, h⟩ := g_bind h
      refine r_callVi [.int (gI q74 51)] [] q82 (ok_X12_tell hq82) q_1484 q_1486 q_89 q_1487 q_153 hd_X12_tell (ce_51 D dy _) kc12.1 rfl ⟨Nat.le_of_ble_eq_true rfl, Nat.le_of_ble_eq_true rfl⟩ rfl rfl (Nat.le_of_ble_eq_true rfl) dX12_play_82 ?_
      cases h
      exact r_iret rfl dX12_play_85 ⟨rfl, rfl, rfl⟩
    · rw [if_neg c] at h
      refine r_aload_n 0 dX12_play_43 rfl rfl ?_
      refine gf_51_3 q_1314 dX12_play_44 ?_
      refine r_bipush (v := 14) dX12_play_47 rfl ?_
      refine r_iconst (v := 5) dX12_play_49 rfl ?_
      refine r_iload 1 dX12_play_50 rfl ?_
      refine r_imul dX12_play_52 ?_
      refine r_iadd dX12_play_53 ?_
      refine r_iconst (v := 3) dX12_play_54 rfl ?_
      refine r_iadd dX12_play_55 ?_
      refine r_dup2 dX12_play_56 rfl rfl ?_
      obtain ⟨c1, h⟩ := g_ite h
      refine al_53 (k_b_in c1) dX12_play_57 ?_
      refine r_aload_n 0 dX12_play_58 rfl rfl ?_
      refine gf_51_44 q_1355 dX12_play_59 ?_
      refine r_iload 1 dX12_play_62 rfl ?_
      obtain ⟨c2, h⟩ := g_ite h
      refine al_75 (k_b_in c2) dX12_play_64 ?_
      refine r_isub dX12_play_65 ?_
      obtain ⟨c3, h⟩ := g_ite h
      refine as_53 (k_b_in c3) dX12_play_66 ?_
      generalize sA q37.2 53 (((14 : Int32) + ((5 : Int32) * x4)) + (3 : Int32)).toNatClampNeg ((gA q37.2 53 (((14 : Int32) + ((5 : Int32) * x4)) + (3 : Int32)).toNatClampNeg) - (gA q37.2 75 x4.toNatClampNeg)) = S4 at h ⊢
      replace h := g_let h
      refine r_iinc (q := 1) (v := x4 + (1 : Int32)) dX12_play_67 rfl rfl (by decide) rfl ?_
      refine r_goto (t := 34) dX12_play_70 (by decide) ?_
      refine r_sub [1, 0] rfl ?_
      exact ih _ _ _ h
set_option maxRecDepth 100000 in
set_option maxHeartbeats 4000000 in
theorem w_X12_play_0 {D : k_D} {dy : Nat → Nat} (x1 : Int32) (x2 : Int32) (x3 : Int32) (S : St) (out : Int32 × St) (h : f_X12_play x1 x2 x3 S = some out) : Rn yX12_play cX12_play 5 (some .int) (k_rm 5) 0 0 D dy S (k_Pi dy out) 0 [(0, .ref (D.2.2 51)), (1, .int x1), (2, .int x2), (3, .int x3)] [] := by
    unfold f_X12_play at h
    refine r_aload_n 0 dX12_play_0 rfl rfl ?_
    refine r_iconst (v := 0) dX12_play_1 rfl ?_
    refine pf_51_0 q_1311 dX12_play_2 ?_
    generalize sI S 33 (0 : Int32) = S1 at h ⊢
    replace h := g_let h
    refine r_iload_n 1 dX12_play_5 rfl rfl ?_
    refine r_iload_n 2 dX12_play_6 rfl rfl ?_
    refine r_iload_n 3 dX12_play_7 rfl rfl ?_
    obtain ⟨q8, hq8, h⟩ := g_bind h
    refine r_callSi [.int x1, .int x2, .int x3] [] q8 (ok_X12_isWedding hq8) q_1785 q_1786 q_1787 q_153 hd_X12_isWedding ⟨Nat.le_of_ble_eq_true rfl, Nat.le_of_ble_eq_true rfl⟩ rfl rfl (Nat.le_of_ble_eq_true rfl) dX12_play_8 ?_
    refine r_if_ne (t := 20) dX12_play_11 (by decide) (fun c => ?_) (fun c => ?_)
    · rw [if_neg c] at h
      refine r_aload_n 0 dX12_play_20 rfl rfl ?_
      obtain ⟨q21, hq21, h⟩ := g_bind h
      refine r_callVv [] [] q21 (ok_X12_askAll hq21) q_1537 q_1539 q_95 q_1540 q_153 hd_X12_askAll (ce_51 D dy _) kc12.1 rfl ⟨Nat.le_of_ble_eq_true rfl, Nat.le_of_ble_eq_true rfl⟩ rfl rfl (Nat.le_of_ble_eq_true rfl) dX12_play_21 ?_
      refine r_aload_n 0 dX12_play_24 rfl rfl ?_
      refine r_iload_n 1 dX12_play_25 rfl rfl ?_
      refine r_iload_n 2 dX12_play_26 rfl rfl ?_
      refine r_iload_n 3 dX12_play_27 rfl rfl ?_
      obtain ⟨q28, hq28, h⟩ := g_bind h
      refine r_callVv [.int x1, .int x2, .int x3] [] q28 (ok_X12_findBest hq28) q_1790 q_1792 q_131 q_1793 q_153 hd_X12_findBest (ce_51 D dy _) kc12.1 rfl ⟨Nat.le_of_ble_eq_true rfl, Nat.le_of_ble_eq_true rfl⟩ rfl rfl (Nat.le_of_ble_eq_true rfl) dX12_play_28 ?_
      refine r_iconst (v := 0) dX12_play_31 rfl ?_
      refine r_istore dX12_play_32 (by decide) rfl ?_
      refine r_sub [1, 0] rfl ?_
      exact w_X12_play_34 _ _ _ _ h
    · rw [if_pos c] at h
      refine r_aload_n 0 dX12_play_14 rfl rfl ?_
      refine r_iconst (v := -1) dX12_play_15 rfl ?_
      obtain ⟨q16, hq16, h⟩ := g_bind h
      refine r_callVi [.int (-1 : Int32)] [] q16 (ok_X12_tell hq16) q_1484 q_1486 q_89 q_1487 q_153 hd_X12_tell (ce_51 D dy _) kc12.1 rfl ⟨Nat.le_of_ble_eq_true rfl, Nat.le_of_ble_eq_true rfl⟩ rfl rfl (Nat.le_of_ble_eq_true rfl) dX12_play_16 ?_
      cases h
      exact r_iret rfl dX12_play_19 ⟨rfl, rfl, rfl⟩
theorem ok_X12_play {D : k_D} {dy : Nat → Nat} {x1 : Int32} {x2 : Int32} {x3 : Int32} {S : St} {out : Int32 × St} (h : f_X12_play x1 x2 x3 S = some out) : Sp yX12_play cX12_play 5 (some .int) (k_rm 5) D dy S [.ref (D.2.2 51), .int x1, .int x2, .int x3] (k_Pi dy out) := Sp.of (by decide +kernel) (Nat.le_of_ble_eq_true rfl) (w_X12_play_0 _ _ _ S out h)
