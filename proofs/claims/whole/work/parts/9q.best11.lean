/-! part 9q: best: what the reference reads off is the best; there is one best -/
theorem us_tb {r : Nat → Int32} {c : Nat → Nat} {e : Nat} (w : Wf r) (he : e < nD r) (hc : 0 < c e) : (bs (us r c) 8).testBit (dOw r e) = true := by
  rw [bs_tb, decide_eq_true (w.ow he).2, us_iff.mpr ⟨e, he, rfl, hc⟩]; rfl
theorem hs_us {r : Nat → Int32} {V : Nat → Vd} (w : Wf r) {h : Nat} {c : Nat → Nat} (hc : ∀ e, c e ≤ cap r V h e) (e : Nat) : c e ≤ hsF r V h (bs (us r c) 8) e := by
  by_cases z : c e = 0
  · rw [z]; exact Nat.zero_le _
  · have he : e < nD r := by
      by_cases q : e < nD r
      · exact q
      · have : cap r V h e = 0 := if_neg (fun t => q t.1)
        have := hc e
        omega
    unfold hsF
    rw [if_pos (us_tb w he (by omega))]
    exact hc e
theorem mw_c {r : Nat → Int32} {V : Nat → Vd} {h s : Nat} {c : Nat → Nat} (hc : ∀ e, c e ≤ hsF r V h s e) {m : Nat} (hm : mi r c ≤ m) : wo r V c ≤ mwF r V h s (nD r) m := by
  have := mw_ub (V := V) hc (nD r) m (Nat.le_refl _) (by rw [tl_n]; exact hm)
  rw [tl_n] at this
  exact this
theorem cG_w {r : Nat → Int32} {V : Nat → Vd} (w : Wf r) (h s m0 : Nat) : wo r V (cG r V h s m0) = mwF r V h s (nD r) m0 ∧ mi r (cG r V h s m0) ≤ m0 := by
  have := cG_t (V := V) w h s m0 (nD r) (Nat.le_refl _)
  rw [tl_n, tl_n, Nat.sub_self] at this
  exact this
theorem mw_mono {r : Nat → Int32} {V : Nat → Vd} (w : Wf r) {h s m m' : Nat} (hm : m ≤ m') : mwF r V h s (nD r) m ≤ mwF r V h s (nD r) m' := by
  have := cG_w (V := V) w h s m
  rw [← this.1]
  exact mw_c (cG_hs w h s m) (by omega)
/-- the set of owers and the least minutes that the reference takes -/
def Sel (r : Nat → Int32) (V : Nat → Vd) (h M B s bw m0 : Nat) : Prop := s < 256 ∧ pc16 s ≤ B ∧ mwF r V h s (nD r) M = bw ∧ (∀ t, t < 256 → pc16 t ≤ B → mwF r V h t (nD r) M < bw ∨ (mwF r V h t (nD r) M = bw ∧ (pc16 s < pc16 t ∨ (pc16 s = pc16 t ∧ s ≤ t)))) ∧ m0 ≤ M ∧ bw ≤ mwF r V h s (nD r) m0 ∧ ∀ m, m < m0 → mwF r V h s (nD r) m < bw
theorem sel_bst {r : Nat → Int32} {V : Nat → Vd} (w : Wf r) {h M B s bw m0 : Nat} (hM : M ≤ 240) (q : Sel r V h M B s bw m0) : Bst r V h M B (cG r V h s m0) ∧ wo r V (cG r V h s m0) = bw ∧ bs (us r (cG r V h s m0)) 8 = s ∧ mi r (cG r V h s m0) = m0 := by
  obtain ⟨s1, s2, s3, s4, s5, s6, s7⟩ := q
  obtain ⟨w1, w2⟩ := cG_w (V := V) w h s m0
  have hh := cG_hs (V := V) w h s m0
  have hw : wo r V (cG r V h s m0) = bw := by
    have := mw_mono (V := V) w (h := h) (s := s) s5
    omega
  have hc : ∀ e, cG r V h s m0 e ≤ cap r V h e := fun e => Nat.le_trans (hh e) hsF_le
  have mask : bs (us r (cG r V h s m0)) 8 &&& s = bs (us r (cG r V h s m0)) 8 := by
    refine tb_ext (m := 8) (Nat.lt_of_le_of_lt Nat.and_le_left (bs_lt _ 8)) (bs_lt _ 8) (fun i hi => ?_)
    rw [Nat.testBit_and, bs_tb, decide_eq_true hi, Bool.true_and]
    cases z : us r (cG r V h s m0) i
    · rfl
    · obtain ⟨d, b1, b2, b3⟩ := us_iff.mp z
      have := hh d
      cases y : s.testBit i
      · unfold hsF at this
        rw [b2, y, if_neg Bool.false_ne_true] at this
        omega
      · rfl
  obtain ⟨m1, m2⟩ := pc_mono _ (bs_256 _) _ s1 mask
  have uw := mw_c (V := V) (hs_us w hc) (show mi r (cG r V h s m0) ≤ M by omega)
  have us_s : bs (us r (cG r V h s m0)) 8 = s := by
    have := s4 _ (bs_256 (us r (cG r V h s m0))) (by omega)
    omega
  have mi_m : mi r (cG r V h s m0) = m0 := by
    by_cases z : mi r (cG r V h s m0) < m0
    · have a := s7 _ z
      have b := mw_c (V := V) hh (Nat.le_refl (mi r (cG r V h s m0)))
      omega
    · omega
  refine ⟨⟨⟨hc, by omega, by rw [us_s]; exact s2⟩, fun c' q => ?_⟩, hw, us_s, mi_m⟩
  obtain ⟨b1, b2, b3⟩ := q
  have hh' := hs_us w b1
  have up := mw_c (V := V) hh' b2
  have sel := s4 _ (bs_256 (us r c')) b3
  have l8 := bs_256 (us r c')
  have p8 := pc_8 _ l8
  have p8s := pc_8 _ s1
  unfold gv cs
  rw [hw, us_s, mi_m]
  rcases sel with z | ⟨z, y⟩
  · exact Or.inl (by omega)
  · by_cases x : wo r V c' < bw
    · exact Or.inl (by omega)
    · rcases y with y | ⟨y1, y2⟩
      · exact Or.inl (by omega)
      · by_cases y3 : s < bs (us r c') 8
        · exact Or.inl (by omega)
        · have e : bs (us r c') 8 = s := by omega
          rw [e] at hh'
          by_cases v : mi r c' < m0
          · have a := s7 _ v
            have b := mw_c (V := V) hh' (Nat.le_refl (mi r c'))
            omega
          · by_cases v2 : m0 < mi r c'
            · exact Or.inl (by omega)
            · have lex := cG_lex (V := V) w h s m0 hh' (nD r) (Nat.le_refl _) (by rw [tl_n, Nat.sub_self]; show mi r c' ≤ m0; omega) (by
                rw [tl_n, Nat.sub_self]
                show wo r V c' = mwF r V h s (nD r) m0
                omega)
              rw [tl_n, tl_n] at lex
              exact Or.inr ⟨by rw [e]; omega, lex⟩
theorem Bst.uniq {r : Nat → Int32} {V : Nat → Vd} (w : Wf r) {h M B : Nat} {c c' : Nat → Nat} (a : Bst r V h M B c) (b : Bst r V h M B c') : c = c' := by
  have e : dg r c = dg r c' := by
    have x := a.2 c' b.1
    have y := b.2 c a.1
    omega
  have c9 : ∀ e, c e ≤ 9 := fun e => Nat.le_trans (a.1.1 e) (cap_9 w V h e)
  have c9' : ∀ e, c' e ≤ 9 := fun e => Nat.le_trans (b.1.1 e) (cap_9 w V h e)
  funext d
  by_cases q : d < nD r
  · rw [← dig_d c9 w q, ← dig_d c9' w q, e]
  · have : cap r V h d = 0 := if_neg (fun t => q t.1)
    have := a.1.1 d
    have := b.1.1 d
    omega
