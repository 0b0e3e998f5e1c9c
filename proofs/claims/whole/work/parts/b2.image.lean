/-! part b2: image, back -/
/-- W is S with image k as the village is -/
def Nw (k : Nat) (S W : St) : Prop :=
  (∀ i, i < 8 → gI W (55 + 8 * k + i) = gI S i) ∧ (∀ i, ¬ (55 + 8 * k ≤ i ∧ i < 63 + 8 * k) → gI W i = gI S i) ∧ (∀ j, gJ W j = gJ S j) ∧ (∀ q, q ∈ rwL → ∀ i, i < q.2 → gA W (81 + 15 * k + q.1) i = gA S q.1 i) ∧ (∀ j, ¬ (81 + 15 * k ≤ j ∧ j < 96 + 15 * k) → gA W j = gA S j) ∧ (∀ j, gL W j = gL S j) ∧ (∀ i, i < 6 → gR W (k + 1) i = gR S 0 i) ∧ gR W 3 k = k + 1 ∧ (∀ j, j ≠ k → gR W 3 j = gR S 3 j) ∧ (∀ w, w ≠ k + 1 → w ≠ 3 → gR W w = gR S w) ∧ gC W = gC S
theorem rwL_j {q : Nat × Nat} (h : q ∈ rwL) : q.1 < 15 := by
  revert q
  decide
theorem inv_img {k o : Nat} (hk : k < 2) (ho : o < 2) (hne : o ≠ k) {S W T : St} (h : Inv S) (n : Nw k S W) (F : Fr [33, 34] [] [54, 55] [] (sI W 32 (nI 0)) T) (h34 : gI T 34 = nI 0) (h54 : ∀ j, gA T 54 j = if 5560 * k ≤ j ∧ j < 5560 * k + 5560 then gA W 53 (j - 5560 * k) else gA W 54 j) (h55 : ∀ j, gA T 55 j = if j = k then nI 1 else gA W 55 j) : Inv T := by
  obtain ⟨h1, ⟨t1, t2, t3⟩, ⟨a1, a2, a3⟩, h4, ⟨p1, p2⟩, hm, c1, c2, c3, kv⟩ := h
  obtain ⟨n1, n2, n3, n4, n5, n6, n7, n8, n9, n10, n11⟩ := n
  have gi : ∀ i, i ≠ 32 → i ≠ 33 → i ≠ 34 → ¬ (55 + 8 * k ≤ i ∧ i < 63 + 8 * k) → gI T i = gI S i := fun i e1 e2 e3 e4 => by
    rw [F.1 i (by simp; omega), s_In e1, n2 i e4]
  have gii : ∀ i, i < 8 → gI T (55 + 8 * k + i) = gI S i := fun i hi => by
    rw [F.1 _ (by simp; omega), s_In (by omega), n1 i hi]
  have ga : ∀ j, j ≠ 54 → j ≠ 55 → ¬ (81 + 15 * k ≤ j ∧ j < 96 + 15 * k) → gA T j = gA S j := fun j e1 e2 e3 => by
    rw [F.2.2.1 j (by simp; omega), s_IA, n5 j e3]
  have gaa : ∀ q, q ∈ rwL → ∀ i, i < q.2 → gA T (81 + 15 * k + q.1) i = gA S q.1 i := fun q hq i hi => by
    rw [F.2.2.1 _ (by simp; omega), s_IA, n4 q hq i hi]
  have gr : ∀ w, gR T w = gR W w := fun w => F.2.2.2.2.1 w
  have gc : gC T = gC S := F.2.2.2.2.2.trans n11
  have gl : ∀ j, gL T j = gL S j := fun j => (F.2.2.2.1 j (by simp)).trans (n6 j)
  have w54 : gA W 54 = gA S 54 := n5 54 (by omega)
  have w53 : gA W 53 = gA S 53 := n5 53 (by omega)
  have w55 : gA W 55 = gA S 55 := n5 55 (by omega)
  have mk : Im T k := by
    refine Or.inr ⟨by rw [gr]; exact n8, by rw [h55 k, if_pos rfl], ?_⟩
    rw [gc]
    refine (h1.cpy (I' := fun i => gI T (55 + 8 * k + i)) (A' := fun j => gA T (81 + 15 * k + j)) (L' := gR T (k + 1)) gii gaa (fun l hl => by rw [gr]; exact n7 l hl)).row (fun i hi => ?_)
    show gA T 54 (5560 * k + i) = gA S 53 i
    rw [h54, if_pos (by omega), w53, show 5560 * k + i - 5560 * k = i by omega]
  have mo : Im S o → Im T o := fun z => by
    rcases z with ⟨z1, z2⟩ | ⟨z1, z2, z3⟩
    · refine Or.inl ⟨by rw [gr, n9 o hne]; exact z1, by rw [h55 o, if_neg hne, w55]; exact z2⟩
    · refine Or.inr ⟨by rw [gr, n9 o hne]; exact z1, by rw [h55 o, if_neg hne, w55]; exact z2, ?_⟩
      rw [gc]
      refine (z3.congr (I' := fun i => gI T (55 + 8 * o + i)) (A' := fun j => gA T (81 + 15 * o + j)) (L' := gR T (o + 1)) (fun i hi => gi _ (by omega) (by omega) (by omega) (by omega)) (fun j hj => ga _ (by omega) (by omega) (by omega)) (fun l => by rw [gr, n10 (o + 1) (by omega) (by omega)])).row (fun i hi => ?_)
      show gA T 54 (5560 * o + i) = gA S 54 (5560 * o + i)
      have : o = 0 ∧ k = 1 ∨ o = 1 ∧ k = 0 := by omega
      rw [h54, if_neg (by omega), w54]
  refine ⟨?_, ⟨?_, ?_, ?_⟩, ⟨?_, ?_, ?_⟩, ?_, ⟨?_, ?_⟩, ?_, ?_, ?_, ?_, ?_⟩
  · rw [gc, ga 53 (by decide) (by decide) (by omega)]
    exact h1.congr (fun i hi => gi i (by omega) (by omega) (by omega) (by omega)) (fun j hj => ga j (by omega) (by omega) (by omega)) (fun l => by rw [gr, n10 0 (by omega) (by decide)])
  · rw [gi 8 (by decide) (by decide) (by decide) (by omega), gi 36 (by decide) (by decide) (by decide) (by omega)]; exact t1
  · unfold isN rN; rw [gi 8 (by decide) (by decide) (by decide) (by omega)]; exact t2
  · unfold rN; rw [gi 8 (by decide) (by decide) (by decide) (by omega), ga 16 (by decide) (by decide) (by omega), ga 56 (by decide) (by decide) (by omega)]; exact t3
  · rw [gi 30 (by decide) (by decide) (by decide) (by omega), gi 35 (by decide) (by decide) (by decide) (by omega)]; exact a1
  · rw [gi 31 (by decide) (by decide) (by decide) (by omega), gi 40 (by decide) (by decide) (by decide) (by omega)]; exact a2
  · rw [h34, F.1 32 (by simp), s_II]
  · rw [ga 50 (by decide) (by decide) (by omega), ga 52 (by decide) (by decide) (by omega)]; exact h4
  · rw [gi 28 (by decide) (by decide) (by decide) (by omega), gi 54 (by decide) (by decide) (by decide) (by omega)]; exact p1
  · rw [gi 28 (by decide) (by decide) (by decide) (by omega), ga 46 (by decide) (by decide) (by omega), ga 47 (by decide) (by decide) (by omega), ga 80 (by decide) (by decide) (by omega)]; exact p2
  · have : o = 0 ∧ k = 1 ∨ o = 1 ∧ k = 0 := by omega
    rcases this with ⟨rfl, rfl⟩ | ⟨rfl, rfl⟩
    · exact ⟨mo hm.1, mk⟩
    · exact ⟨mk, mo hm.2⟩
  · rw [gl]; exact c1
  · rw [gl]; exact c2
  · rw [gl]; exact c3
  · obtain ⟨k1, k2⟩ := kv
    unfold Kv
    rw [gc]
    refine ⟨fun i hi => ?_, fun i hi => ?_⟩
    · have q0 : gR T 0 i = gR S 0 i := by rw [gr, n10 0 (by omega) (by decide)]
      have qk : gR T (k + 1) i = gR S 0 i := by rw [gr]; exact n7 i hi
      have qo : gR T (o + 1) i = gR S (o + 1) i := by rw [gr, n10 (o + 1) (by omega) (by omega)]
      obtain ⟨b0, b1, b2⟩ := k1 i hi
      have : o = 0 ∧ k = 1 ∨ o = 1 ∧ k = 0 := by omega
      rcases this with ⟨rfl, rfl⟩ | ⟨rfl, rfl⟩
      · exact ⟨by rw [q0]; exact b0, by rw [qo]; exact b1, by rw [qk]; exact b0⟩
      · exact ⟨by rw [q0]; exact b0, by rw [qk]; exact b0, by rw [qo]; exact b2⟩
    · by_cases z : i = k
      · rw [gr, z, n8]; omega
      · rw [gr, n9 i z]; exact k2 i hi
theorem Bc.inv {k : Nat} (hk : k < 2) {S W T : St} (h : Inv S) (hi : Im S k) (hr : gR S 3 k = k + 1) (n : Bc 0 (55 + 8 * k) 0 (81 + 15 * k) 0 (k + 1) S W) (F : Fr [33, 34] [] [53] [] (sI W 32 (nI 0)) T) (h34 : gI T 34 = nI 0) (h53 : ∀ j, j < 5560 → gA T 53 j = gA W 54 (5560 * k + j)) : Inv T := by
  obtain ⟨h1, ⟨t1, t2, t3⟩, ⟨a1, a2, a3⟩, h4, ⟨p1, p2⟩, hm, c1, c2, c3, kv⟩ := h
  obtain ⟨n1, n2, n3, n4, n5, n6, n7, n8, n9⟩ := n
  have gi : ∀ i, i ≠ 32 → i ≠ 33 → i ≠ 34 → 8 ≤ i → gI T i = gI S i := fun i e1 e2 e3 e4 => by
    rw [F.1 i (by simp; omega), s_In e1, n2 i (by omega)]
  have ga : ∀ j, j ≠ 53 → 15 ≤ j → gA T j = gA S j := fun j e1 e2 => by
    rw [F.2.2.1 j (by simp; omega), s_IA, n5 j (by omega)]
  have gr : ∀ w, gR T w = gR W w := fun w => F.2.2.2.2.1 w
  have gc : gC T = gC S := F.2.2.2.2.2.trans n9
  have gl : ∀ j, gL T j = gL S j := fun j => (F.2.2.2.1 j (by simp)).trans (n6 j)
  have w54 : gA W 54 = gA S 54 := n5 54 (by omega)
  have mo : ∀ o, o < 2 → Im S o → Im T o := fun o ho z => by
    rcases z with ⟨z1, z2⟩ | ⟨z1, z2, z3⟩
    · exact Or.inl ⟨by rw [gr, n8 3 (by decide)]; exact z1, by rw [ga 55 (by decide) (by decide)]; exact z2⟩
    · refine Or.inr ⟨by rw [gr, n8 3 (by decide)]; exact z1, by rw [ga 55 (by decide) (by decide)]; exact z2, ?_⟩
      rw [gc, ga 54 (by decide) (by decide)]
      exact z3.congr (I' := fun i => gI T (55 + 8 * o + i)) (A' := fun j => gA T (81 + 15 * o + j)) (L' := gR T (o + 1)) (fun i hi => gi _ (by omega) (by omega) (by omega) (by omega)) (fun j hj => ga _ (by omega) (by omega)) (fun l => by rw [gr, n8 (o + 1) (by omega)])
  have hv : Rv (fun i => gI S (55 + 8 * k + i)) (fun j => gA S (81 + 15 * k + j)) (gR S (k + 1)) (gC S) (fun i => gA S 54 (5560 * k + i)) := by
    rcases hi with ⟨z1, -⟩ | ⟨-, -, z3⟩
    · omega
    · exact z3
  refine ⟨?_, ⟨?_, ?_, ?_⟩, ⟨?_, ?_, ?_⟩, ?_, ⟨?_, ?_⟩, ⟨mo 0 (by decide) hm.1, mo 1 (by decide) hm.2⟩, ?_, ?_, ?_, ?_⟩
  · rw [gc]
    refine (hv.cpy (I' := gI T) (A' := gA T) (L' := gR T 0) (fun i hi => ?_) (fun q hq i hi => ?_) (fun l hl => by rw [gr]; exact n7 l hl)).row (fun i hi => by rw [h53 i hi, w54])
    · have := n1 i hi
      rw [Nat.zero_add] at this
      rw [F.1 i (by simp; omega), s_In (by omega), this]
    · have := n4 q hq i hi
      have hj := rwL_j hq
      rw [Nat.zero_add] at this
      rw [F.2.2.1 q.1 (by simp; omega), s_IA, this]
  · rw [gi 8 (by decide) (by decide) (by decide) (by omega), gi 36 (by decide) (by decide) (by decide) (by omega)]; exact t1
  · unfold isN rN; rw [gi 8 (by decide) (by decide) (by decide) (by omega)]; exact t2
  · unfold rN; rw [gi 8 (by decide) (by decide) (by decide) (by omega), ga 16 (by decide) (by decide), ga 56 (by decide) (by decide)]; exact t3
  · rw [gi 30 (by decide) (by decide) (by decide) (by omega), gi 35 (by decide) (by decide) (by decide) (by omega)]; exact a1
  · rw [gi 31 (by decide) (by decide) (by decide) (by omega), gi 40 (by decide) (by decide) (by decide) (by omega)]; exact a2
  · rw [h34, F.1 32 (by simp), s_II]
  · rw [ga 50 (by decide) (by decide), ga 52 (by decide) (by decide)]; exact h4
  · rw [gi 28 (by decide) (by decide) (by decide) (by omega), gi 54 (by decide) (by decide) (by decide) (by omega)]; exact p1
  · rw [gi 28 (by decide) (by decide) (by decide) (by omega), ga 46 (by decide) (by decide), ga 47 (by decide) (by decide), ga 80 (by decide) (by decide)]; exact p2
  · rw [gl]; exact c1
  · rw [gl]; exact c2
  · rw [gl]; exact c3
  · obtain ⟨k1, k2⟩ := kv
    unfold Kv
    rw [gc]
    refine ⟨fun i hi => ?_, fun i hi => ?_⟩
    · have q0 : gR T 0 i = gR S (k + 1) i := by rw [gr]; exact n7 i hi
      have q1 : gR T 1 i = gR S 1 i := by rw [gr, n8 1 (by decide)]
      have q2 : gR T 2 i = gR S 2 i := by rw [gr, n8 2 (by decide)]
      obtain ⟨b0, b1, b2⟩ := k1 i hi
      refine ⟨?_, by rw [q1]; exact b1, by rw [q2]; exact b2⟩
      rw [q0]
      have : k = 0 ∨ k = 1 := by omega
      rcases this with rfl | rfl
      · exact b1
      · exact b2
    · rw [gr, n8 3 (by decide)]; exact k2 i hi
theorem nw_0 {S S' W : St} (b : Bc 55 0 81 0 1 0 S' W) (s1 : ∀ i, ¬ (55 ≤ i ∧ i < 63) → gI S' i = gI S i) (s2 : ∀ j, gJ S' j = gJ S j) (s3 : ∀ j, ¬ (81 ≤ j ∧ j < 96) → gA S' j = gA S j) (s4 : ∀ j, gL S' j = gL S j) (s5 : gR S' 3 0 = 1) (s6 : ∀ j, j ≠ 0 → gR S' 3 j = gR S 3 j) (s7 : ∀ w, w ≠ 1 → w ≠ 3 → gR S' w = gR S w) (s8 : gC S' = gC S) : Nw 0 S W := by
  obtain ⟨n1, n2, n3, n4, n5, n6, n7, n8, n9⟩ := b
  refine ⟨fun i hi => ?_, fun i hi => (n2 i (by omega)).trans (s1 i (by omega)), fun j => (n3 j).trans (s2 j), fun q hq i hi => ?_, fun j hj => (n5 j (by omega)).trans (s3 j (by omega)), fun j => (n6 j).trans (s4 j), fun i hi => ?_, ?_, fun j hj => ?_, fun w h1 h2 => (n8 w h1).trans (s7 w h1 h2), n9.trans s8⟩
  · have := n1 i hi
    rw [Nat.zero_add, s1 i (by omega)] at this
    exact this
  · have := n4 q hq i hi
    have hj := rwL_j hq
    rw [Nat.zero_add, s3 q.1 (by omega)] at this
    exact this
  · rw [← s7 0 (by decide) (by decide)]; exact n7 i hi
  · rw [n8 3 (by decide)]; exact s5
  · rw [n8 3 (by decide)]; exact s6 j hj
theorem cimg_0 {S : St} (h : Inv S) : ∃ W, f_X11_image (nI 0) S = some (nI 0, sI W 32 (nI 0)) ∧ Nw 0 S W := by
  have kv := h.2.2.2.2.2.2.2.2.2
  have hI : Im S 0 := h.2.2.2.2.2.1.1
  have hO : Im S 1 := h.2.2.2.2.2.1.2
  have ho : gR S 3 1 = 0 ∨ gR S 3 1 = 2 := by
    rcases hO with ⟨z, -⟩ | ⟨z, -⟩
    · exact Or.inl z
    · exact Or.inr z
  have fin : ∀ S', ¬ gR S' 3 0 = 0 → ∀ W, f_X10_become_o81_a0 S' = some W → f_X11_image_41 f_X10_become_o81_a0 0 S' = some (nI 0, sI W 32 (nI 0)) := fun S' hE W hW => by
    unfold f_X11_image_41
    rw [if_pos hE, hW, Option.bind_some, e_done]
    rfl
  rcases hI with ⟨z1, -⟩ | ⟨z1, -⟩
  · have hS : ¬ gR (k_nI 0 S) 3 0 = 0 := by
      show ¬ (0 + 1 = 0)
      omega
    obtain ⟨W, w1, w2⟩ := bc_s0 hS (fun i hi => (kv.1 i hi).1)
    refine ⟨W, ?_, nw_0 w2 (fun i hi => if_neg (by omega)) (fun _ => rfl) (fun j hj => if_neg (by omega)) (fun _ => rfl) rfl (fun j hj => if_neg hj) (fun w h1 h2 => (if_neg h1).trans (if_neg h2)) rfl⟩
    unfold f_X11_image
    rw [if_neg (show ¬ nI 0 < 0 by decide), if_pos (show nI 0 < 2 by decide), if_pos (show nI 0 = 0 by decide)]
    rw [if_pos z1, if_pos ho]
    exact fin _ hS W w1
  · have hS : ¬ gR S 3 0 = 0 := by omega
    obtain ⟨W, w1, w2⟩ := bc_s0 hS (fun i hi => (kv.1 i hi).1)
    refine ⟨W, ?_, nw_0 w2 (fun _ _ => rfl) (fun _ => rfl) (fun _ _ => rfl) (fun _ => rfl) z1 (fun _ _ => rfl) (fun _ _ _ => rfl) rfl⟩
    unfold f_X11_image
    rw [if_neg (show ¬ nI 0 < 0 by decide), if_pos (show nI 0 < 2 by decide), if_pos (show nI 0 = 0 by decide)]
    rw [if_neg hS, if_pos z1]
    exact fin _ hS W w1
theorem cback_0 {S : St} (h : Inv S) : (gR S 3 0 = 0 ∧ gA S 55 0 = nI 0 ∧ f_X11_back (nI 0) S = some (iZ (-((2 : Nat) : Int)), rfT (iZ (-((2 : Nat) : Int))) 1 S)) ∨ (gR S 3 0 = 0 + 1 ∧ gA S 55 0 = nI 1 ∧ ∃ W, f_X11_back (nI 0) S = some (nI 0, sI W 32 (nI 0)) ∧ Bc 0 (55 + 8 * 0) 0 (81 + 15 * 0) 0 (0 + 1) S W) := by
  have kv := h.2.2.2.2.2.2.2.2.2
  have hI : Im S 0 := h.2.2.2.2.2.1.1
  rcases hI with ⟨z1, z2⟩ | ⟨z1, z2, -⟩
  · refine Or.inl ⟨z1, z2, ?_⟩
    unfold f_X11_back
    rw [if_neg (show ¬ nI 0 < 0 by decide), if_pos (show nI 0 < 2 by decide), if_pos (show nI 0 = 0 by decide)]
    rw [if_pos z1]
    rfl
  · have hS : ¬ gR S 3 0 = 0 := by omega
    obtain ⟨W, w1, w2⟩ := bc_b0 hS (fun i hi => (kv.1 i hi).2.1)
    refine Or.inr ⟨z1, z2, W, ?_, w2⟩
    unfold f_X11_back
    rw [if_neg (show ¬ nI 0 < 0 by decide), if_pos (show nI 0 < 2 by decide), if_pos (show nI 0 = 0 by decide)]
    rw [if_neg hS, if_pos z1]
    unfold f_X11_back_33
    rw [w1, Option.bind_some, e_done]
    rfl
theorem nw_1 {S S' W : St} (b : Bc 63 0 96 0 2 0 S' W) (s1 : ∀ i, ¬ (63 ≤ i ∧ i < 71) → gI S' i = gI S i) (s2 : ∀ j, gJ S' j = gJ S j) (s3 : ∀ j, ¬ (96 ≤ j ∧ j < 111) → gA S' j = gA S j) (s4 : ∀ j, gL S' j = gL S j) (s5 : gR S' 3 1 = 2) (s6 : ∀ j, j ≠ 1 → gR S' 3 j = gR S 3 j) (s7 : ∀ w, w ≠ 2 → w ≠ 3 → gR S' w = gR S w) (s8 : gC S' = gC S) : Nw 1 S W := by
  obtain ⟨n1, n2, n3, n4, n5, n6, n7, n8, n9⟩ := b
  refine ⟨fun i hi => ?_, fun i hi => (n2 i (by omega)).trans (s1 i (by omega)), fun j => (n3 j).trans (s2 j), fun q hq i hi => ?_, fun j hj => (n5 j (by omega)).trans (s3 j (by omega)), fun j => (n6 j).trans (s4 j), fun i hi => ?_, ?_, fun j hj => ?_, fun w h1 h2 => (n8 w h1).trans (s7 w h1 h2), n9.trans s8⟩
  · have := n1 i hi
    rw [Nat.zero_add, s1 i (by omega)] at this
    exact this
  · have := n4 q hq i hi
    have hj := rwL_j hq
    rw [Nat.zero_add, s3 q.1 (by omega)] at this
    exact this
  · rw [← s7 0 (by decide) (by decide)]; exact n7 i hi
  · rw [n8 3 (by decide)]; exact s5
  · rw [n8 3 (by decide)]; exact s6 j hj
theorem cimg_1 {S : St} (h : Inv S) : ∃ W, f_X11_image (nI 1) S = some (nI 0, sI W 32 (nI 0)) ∧ Nw 1 S W := by
  have kv := h.2.2.2.2.2.2.2.2.2
  have hI : Im S 1 := h.2.2.2.2.2.1.2
  have hO : Im S 0 := h.2.2.2.2.2.1.1
  have ho : gR S 3 0 = 0 ∨ gR S 3 0 = 1 := by
    rcases hO with ⟨z, -⟩ | ⟨z, -⟩
    · exact Or.inl z
    · exact Or.inr z
  have fin : ∀ S', ¬ gR S' 3 1 = 0 → ∀ W, f_X10_become_o96_a0 S' = some W → f_X11_image_41 f_X10_become_o96_a0 1 S' = some (nI 0, sI W 32 (nI 0)) := fun S' hE W hW => by
    unfold f_X11_image_41
    rw [if_pos hE, hW, Option.bind_some, e_done]
    rfl
  rcases hI with ⟨z1, -⟩ | ⟨z1, -⟩
  · have hS : ¬ gR (k_nI 1 S) 3 1 = 0 := by
      show ¬ (1 + 1 = 0)
      omega
    obtain ⟨W, w1, w2⟩ := bc_s1 hS (fun i hi => (kv.1 i hi).1)
    refine ⟨W, ?_, nw_1 w2 (fun i hi => if_neg (by omega)) (fun _ => rfl) (fun j hj => if_neg (by omega)) (fun _ => rfl) rfl (fun j hj => if_neg hj) (fun w h1 h2 => (if_neg h1).trans (if_neg h2)) rfl⟩
    unfold f_X11_image
    rw [if_neg (show ¬ nI 1 < 0 by decide), if_pos (show nI 1 < 2 by decide), if_neg (show ¬ nI 1 = 0 by decide)]
    rw [if_pos z1, if_pos ho]
    exact fin _ hS W w1
  · have hS : ¬ gR S 3 1 = 0 := by omega
    obtain ⟨W, w1, w2⟩ := bc_s1 hS (fun i hi => (kv.1 i hi).1)
    refine ⟨W, ?_, nw_1 w2 (fun _ _ => rfl) (fun _ => rfl) (fun _ _ => rfl) (fun _ => rfl) z1 (fun _ _ => rfl) (fun _ _ _ => rfl) rfl⟩
    unfold f_X11_image
    rw [if_neg (show ¬ nI 1 < 0 by decide), if_pos (show nI 1 < 2 by decide), if_neg (show ¬ nI 1 = 0 by decide)]
    rw [if_neg hS, if_pos z1]
    exact fin _ hS W w1
theorem cback_1 {S : St} (h : Inv S) : (gR S 3 1 = 0 ∧ gA S 55 1 = nI 0 ∧ f_X11_back (nI 1) S = some (iZ (-((2 : Nat) : Int)), rfT (iZ (-((2 : Nat) : Int))) 1 S)) ∨ (gR S 3 1 = 1 + 1 ∧ gA S 55 1 = nI 1 ∧ ∃ W, f_X11_back (nI 1) S = some (nI 0, sI W 32 (nI 0)) ∧ Bc 0 (55 + 8 * 1) 0 (81 + 15 * 1) 0 (1 + 1) S W) := by
  have kv := h.2.2.2.2.2.2.2.2.2
  have hI : Im S 1 := h.2.2.2.2.2.1.2
  rcases hI with ⟨z1, z2⟩ | ⟨z1, z2, -⟩
  · refine Or.inl ⟨z1, z2, ?_⟩
    unfold f_X11_back
    rw [if_neg (show ¬ nI 1 < 0 by decide), if_pos (show nI 1 < 2 by decide), if_neg (show ¬ nI 1 = 0 by decide)]
    rw [if_pos z1]
    rfl
  · have hS : ¬ gR S 3 1 = 0 := by omega
    obtain ⟨W, w1, w2⟩ := bc_b1 hS (fun i hi => (kv.1 i hi).2.2)
    refine Or.inr ⟨z1, z2, W, ?_, w2⟩
    unfold f_X11_back
    rw [if_neg (show ¬ nI 1 < 0 by decide), if_pos (show nI 1 < 2 by decide), if_neg (show ¬ nI 1 = 0 by decide)]
    rw [if_neg hS, if_pos z1]
    unfold f_X11_back_33
    rw [w1, Option.bind_some, e_done]
    rfl
theorem p_image (x : Int32) : Pr (f_X11_image x) (f_X12_image x) := by
  intro S h
  have xin : ∀ (x : Int32) T, f_X12_in x.toInt64 (0 : Int64) (1 : Int64) T = some (kB (decide (0 ≤ x.toInt ∧ x.toInt ≤ 1)), T) := fun x T => e_in x 0 1 T (by decide) (by decide) (by decide) (by decide)
  by_cases c : 0 ≤ x.toInt ∧ x.toInt < (2 : Nat)
  · obtain ⟨k, rfl, hk, -⟩ := rng_n c
    have : k = 0 ∨ k = 1 := by omega
    rcases this with rfl | rfl
    · obtain ⟨W, w1, w2⟩ := cimg_0 h
      obtain ⟨X, m1, m2, m3⟩ := l_mimg (k := 0) (by decide) (S := sI (sI W 32 (nI 0)) 33 (nI 0)) 5560 FU 0 _ (by omega) (FU_ge (by omega)) (Fr.refl _) (fun j => (if_neg (by omega)).symm)
      refine ⟨nI 0, sI W 32 (nI 0), sI (sA X 55 0 (nI 1)) 34 (nI 0), w1, ?_, inv_img (k := 0) (o := 1) (by decide) (by decide) (by decide) h w2 (((((Fr.refl _).sI (k := 33) rfl _).trans (m2.mono rfl rfl rfl rfl)).sA rfl _ _).sI rfl _) (s_II _ _ _) (fun j => ?_) (fun j => ?_)⟩
      · have b1 := xin (nI 0) (sI (sI W 32 (nI 0)) 33 (nI 0))
        rw [n_ti (by decide), decide_eq_true (by decide), kB_t] at b1
        unfold f_X12_image k_let
        rw [show (0 : Int32) = nI 0 from rfl]
        simp only [b1, Option.bind_some]
        rw [if_neg (by decide)]
        exact m1
      · rw [s_IA, s_An (by decide), m3 j]
        rfl
      · rw [s_IA, s_AA, u_a, m2.A (k := 55) rfl]
        rfl
    · obtain ⟨W, w1, w2⟩ := cimg_1 h
      obtain ⟨X, m1, m2, m3⟩ := l_mimg (k := 1) (by decide) (S := sI (sI W 32 (nI 0)) 33 (nI 0)) 5560 FU 0 _ (by omega) (FU_ge (by omega)) (Fr.refl _) (fun j => (if_neg (by omega)).symm)
      refine ⟨nI 0, sI W 32 (nI 0), sI (sA X 55 1 (nI 1)) 34 (nI 0), w1, ?_, inv_img (k := 1) (o := 0) (by decide) (by decide) (by decide) h w2 (((((Fr.refl _).sI (k := 33) rfl _).trans (m2.mono rfl rfl rfl rfl)).sA rfl _ _).sI rfl _) (s_II _ _ _) (fun j => ?_) (fun j => ?_)⟩
      · have b1 := xin (nI 1) (sI (sI W 32 (nI 0)) 33 (nI 0))
        rw [n_ti (by decide), decide_eq_true (by decide), kB_t] at b1
        unfold f_X12_image k_let
        rw [show (0 : Int32) = nI 0 from rfl]
        simp only [b1, Option.bind_some]
        rw [if_neg (by decide)]
        exact m1
      · rw [s_IA, s_An (by decide), m3 j]
        rfl
      · rw [s_IA, s_AA, u_a, m2.A (k := 55) rfl]
        rfl
  · refine ⟨iZ (-((1 : Nat) : Int)), rfT (iZ (-((1 : Nat) : Int))) 0 S, tlT (iZ (-((1 : Nat) : Int))) 1 (sI (rfT (iZ (-((1 : Nat) : Int))) 0 S) 33 (nI 0)), ?_, ?_, h.refuse _ 0 1 (by decide)⟩
    · unfold f_X11_image
      by_cases c1 : x < 0
      · rw [if_pos c1]; rfl
      · rw [if_neg c1, if_neg (fun z => c ⟨by have : ¬ x.toInt < 0 := (fun y => c1 (Int32.lt_iff_toInt_lt.mpr y)); omega, Int32.lt_iff_toInt_lt.mp z⟩)]
        rfl
    · have b1 := xin x (sI (rfT (iZ (-((1 : Nat) : Int))) 0 S) 33 (nI 0))
      rw [decide_eq_false (by omega), kB_f] at b1
      unfold f_X12_image
      show (f_X12_in x.toInt64 (0 : Int64) (1 : Int64) (sI (rfT (iZ (-((1 : Nat) : Int))) 0 S) 33 (nI 0))).bind _ = _
      rw [b1, Option.bind_some]
      simp (disch := omega) only [k_let, Option.bind_some, ↓reduceIte, eq_self, true_or, or_true, n01_0, n01_1, kb_or, kb_0T, kb_0F, vn_0, vn_1, vn_k, nl_0, nl_1, nl_2, nl_3, nl_4, nl_5, nl_6, nl_7, nl_8, nl_9, nl_10, nl_11, nl_12, nl_13, nl_14, nl_15, nl_16, nl_20, nl_21, nl_22, nl_23, nl_24, nl_25, nl_26, nl_27, nl_28, nl_29, nl_30, nl_31, nl_32, nl_40, nl_41, nl_42, nl_43, nl_45, nl_47, nl_48, nl_50, nl_57, nl_59, nl_60, nl_61, nl_62, nl_63, nl_64, nl_91, nl_93, nl_94, nl_97, nl_98, nl_100, nl_110, nl_122, nl_130, nl_144, nl_160, nl_240, nl_241, nl_255, nl_256, nl_400, nl_800, nl_900, nl_999, nl_1000, nl_1001, nl_1024, nl_1103, nl_1928, nl_4321, nl_5560, nl_12345, nl_1000000, nl_1000003, nl_252645135, nl_858993459, nl_1431655765, nl_1000000000, nI_add, pk_mul, n_sub, n_neg, n_cl, leT, leF, ltT, ltF, eqT, eqF, kbT, s_II, s_In, s_IJ, s_IA, s_IL, s_IR, s_IC, s_JI, s_JJ, s_Jn, s_JA, s_JL, s_JR, s_JC, s_AI, s_AJ, s_AA, s_An, s_AL, s_AR, s_AC, s_LI, s_LJ, s_LA, s_LL, s_Ln, s_LR, s_LC, zleT, zleF, zltT, zltF, zeqT, zeqF, nzleT, nzleF, nzltT, nzltF, nzeqT, nzeqF, znleT, znleF, znltT, znltF, zneqT, zneqF, z_add, z_sub, z_mul, z_neg, z_an, z_na, z_sn, z_ns, z_mn, z_nm, Nat.add_sub_cancel, decide_true, decide_false, and_self, e_done, e_ref1, e_ref2, e_ref3, e_ref5, e_ref6, e_tel1, e_tel2, e_tel3, e_tel5, e_tel6, e_telN, rfT_m]
theorem p_back (x : Int32) : Pr (f_X11_back x) (f_X12_back x) := by
  intro S h
  have xin : ∀ (x : Int32) T, f_X12_in x.toInt64 (0 : Int64) (1 : Int64) T = some (kB (decide (0 ≤ x.toInt ∧ x.toInt ≤ 1)), T) := fun x T => e_in x 0 1 T (by decide) (by decide) (by decide) (by decide)
  by_cases c : 0 ≤ x.toInt ∧ x.toInt < (2 : Nat)
  · obtain ⟨k, rfl, hk, -⟩ := rng_n c
    have : k = 0 ∨ k = 1 := by omega
    rcases this with rfl | rfl
    · rcases cback_0 h with ⟨z1, z2, z3⟩ | ⟨z1, z2, W, w1, w2⟩
      · refine ⟨iZ (-((2 : Nat) : Int)), rfT (iZ (-((2 : Nat) : Int))) 1 S, tlT (iZ (-((2 : Nat) : Int))) 2 (sI (rfT (iZ (-((2 : Nat) : Int))) 1 S) 33 (nI 0)), z3, ?_, h.refuse _ 1 2 (by decide)⟩
        have b1 := xin (nI 0) (sI (rfT (iZ (-((2 : Nat) : Int))) 1 S) 33 (nI 0))
        rw [n_ti (by decide), decide_eq_true (by decide), kB_t] at b1
        have z2' : gA (sI (rfT (iZ (-((2 : Nat) : Int))) 1 S) 33 (nI 0)) 55 0 = nI 0 := z2
        unfold f_X12_back k_let
        rw [show (0 : Int32) = nI 0 from rfl]
        simp only [b1, Option.bind_some]
        simp (disch := omega) only [k_let, Option.bind_some, ↓reduceIte, eq_self, true_or, or_true, n01_0, n01_1, kb_or, kb_0T, kb_0F, vn_0, vn_1, vn_k, nl_0, nl_1, nl_2, nl_3, nl_4, nl_5, nl_6, nl_7, nl_8, nl_9, nl_10, nl_11, nl_12, nl_13, nl_14, nl_15, nl_16, nl_20, nl_21, nl_22, nl_23, nl_24, nl_25, nl_26, nl_27, nl_28, nl_29, nl_30, nl_31, nl_32, nl_40, nl_41, nl_42, nl_43, nl_45, nl_47, nl_48, nl_50, nl_57, nl_59, nl_60, nl_61, nl_62, nl_63, nl_64, nl_91, nl_93, nl_94, nl_97, nl_98, nl_100, nl_110, nl_122, nl_130, nl_144, nl_160, nl_240, nl_241, nl_255, nl_256, nl_400, nl_800, nl_900, nl_999, nl_1000, nl_1001, nl_1024, nl_1103, nl_1928, nl_4321, nl_5560, nl_12345, nl_1000000, nl_1000003, nl_252645135, nl_858993459, nl_1431655765, nl_1000000000, nI_add, pk_mul, n_sub, n_neg, n_cl, leT, leF, ltT, ltF, eqT, eqF, kbT, s_II, s_In, s_IJ, s_IA, s_IL, s_IR, s_IC, s_JI, s_JJ, s_Jn, s_JA, s_JL, s_JR, s_JC, s_AI, s_AJ, s_AA, s_An, s_AL, s_AR, s_AC, s_LI, s_LJ, s_LA, s_LL, s_Ln, s_LR, s_LC, zleT, zleF, zltT, zltF, zeqT, zeqF, nzleT, nzleF, nzltT, nzltF, nzeqT, nzeqF, znleT, znleF, znltT, znltF, zneqT, zneqF, z_add, z_sub, z_mul, z_neg, z_an, z_na, z_sn, z_ns, z_mn, z_nm, Nat.add_sub_cancel, decide_true, decide_false, and_self, e_done, e_ref1, e_ref2, e_ref3, e_ref5, e_ref6, e_tel1, e_tel2, e_tel3, e_tel5, e_tel6, e_telN, rfT_m, z2']
      · obtain ⟨X, m1, m2, m3⟩ := l_mback (k := 0) (by decide) (S := sI (sI W 32 (nI 0)) 33 (nI 0)) 5560 FU 0 _ (by omega) (FU_ge (by omega)) (Fr.refl _) (fun j => (if_neg (by omega)).symm)
        refine ⟨nI 0, sI W 32 (nI 0), sI X 34 (nI 0), w1, ?_, w2.inv (k := 0) (by decide) h h.2.2.2.2.2.1.1 z1 ((((Fr.refl _).sI (k := 33) rfl _).trans (m2.mono rfl rfl rfl rfl)).sI rfl _) (s_II _ _ _) (fun j hj => (m3 j hj).trans rfl)⟩
        have b1 := xin (nI 0) (sI (sI W 32 (nI 0)) 33 (nI 0))
        rw [n_ti (by decide), decide_eq_true (by decide), kB_t] at b1
        have z2' : gA (sI (sI W 32 (nI 0)) 33 (nI 0)) 55 0 = nI 1 := by
          show gA W 55 0 = _
          rw [w2.2.2.2.2.1 55 (by decide)]
          exact z2
        unfold f_X12_back k_let
        rw [show (0 : Int32) = nI 0 from rfl]
        simp only [b1, Option.bind_some]
        simp (disch := omega) only [k_let, Option.bind_some, ↓reduceIte, eq_self, true_or, or_true, n01_0, n01_1, kb_or, kb_0T, kb_0F, vn_0, vn_1, vn_k, leT, leF, ltT, ltF, eqT, eqF, kbT, n_cl, z2']
        exact m1
    · rcases cback_1 h with ⟨z1, z2, z3⟩ | ⟨z1, z2, W, w1, w2⟩
      · refine ⟨iZ (-((2 : Nat) : Int)), rfT (iZ (-((2 : Nat) : Int))) 1 S, tlT (iZ (-((2 : Nat) : Int))) 2 (sI (rfT (iZ (-((2 : Nat) : Int))) 1 S) 33 (nI 0)), z3, ?_, h.refuse _ 1 2 (by decide)⟩
        have b1 := xin (nI 1) (sI (rfT (iZ (-((2 : Nat) : Int))) 1 S) 33 (nI 0))
        rw [n_ti (by decide), decide_eq_true (by decide), kB_t] at b1
        have z2' : gA (sI (rfT (iZ (-((2 : Nat) : Int))) 1 S) 33 (nI 0)) 55 1 = nI 0 := z2
        unfold f_X12_back k_let
        rw [show (0 : Int32) = nI 0 from rfl]
        simp only [b1, Option.bind_some]
        simp (disch := omega) only [k_let, Option.bind_some, ↓reduceIte, eq_self, true_or, or_true, n01_0, n01_1, kb_or, kb_0T, kb_0F, vn_0, vn_1, vn_k, nl_0, nl_1, nl_2, nl_3, nl_4, nl_5, nl_6, nl_7, nl_8, nl_9, nl_10, nl_11, nl_12, nl_13, nl_14, nl_15, nl_16, nl_20, nl_21, nl_22, nl_23, nl_24, nl_25, nl_26, nl_27, nl_28, nl_29, nl_30, nl_31, nl_32, nl_40, nl_41, nl_42, nl_43, nl_45, nl_47, nl_48, nl_50, nl_57, nl_59, nl_60, nl_61, nl_62, nl_63, nl_64, nl_91, nl_93, nl_94, nl_97, nl_98, nl_100, nl_110, nl_122, nl_130, nl_144, nl_160, nl_240, nl_241, nl_255, nl_256, nl_400, nl_800, nl_900, nl_999, nl_1000, nl_1001, nl_1024, nl_1103, nl_1928, nl_4321, nl_5560, nl_12345, nl_1000000, nl_1000003, nl_252645135, nl_858993459, nl_1431655765, nl_1000000000, nI_add, pk_mul, n_sub, n_neg, n_cl, leT, leF, ltT, ltF, eqT, eqF, kbT, s_II, s_In, s_IJ, s_IA, s_IL, s_IR, s_IC, s_JI, s_JJ, s_Jn, s_JA, s_JL, s_JR, s_JC, s_AI, s_AJ, s_AA, s_An, s_AL, s_AR, s_AC, s_LI, s_LJ, s_LA, s_LL, s_Ln, s_LR, s_LC, zleT, zleF, zltT, zltF, zeqT, zeqF, nzleT, nzleF, nzltT, nzltF, nzeqT, nzeqF, znleT, znleF, znltT, znltF, zneqT, zneqF, z_add, z_sub, z_mul, z_neg, z_an, z_na, z_sn, z_ns, z_mn, z_nm, Nat.add_sub_cancel, decide_true, decide_false, and_self, e_done, e_ref1, e_ref2, e_ref3, e_ref5, e_ref6, e_tel1, e_tel2, e_tel3, e_tel5, e_tel6, e_telN, rfT_m, z2']
      · obtain ⟨X, m1, m2, m3⟩ := l_mback (k := 1) (by decide) (S := sI (sI W 32 (nI 0)) 33 (nI 0)) 5560 FU 0 _ (by omega) (FU_ge (by omega)) (Fr.refl _) (fun j => (if_neg (by omega)).symm)
        refine ⟨nI 0, sI W 32 (nI 0), sI X 34 (nI 0), w1, ?_, w2.inv (k := 1) (by decide) h h.2.2.2.2.2.1.2 z1 ((((Fr.refl _).sI (k := 33) rfl _).trans (m2.mono rfl rfl rfl rfl)).sI rfl _) (s_II _ _ _) (fun j hj => (m3 j hj).trans rfl)⟩
        have b1 := xin (nI 1) (sI (sI W 32 (nI 0)) 33 (nI 0))
        rw [n_ti (by decide), decide_eq_true (by decide), kB_t] at b1
        have z2' : gA (sI (sI W 32 (nI 0)) 33 (nI 0)) 55 1 = nI 1 := by
          show gA W 55 1 = _
          rw [w2.2.2.2.2.1 55 (by decide)]
          exact z2
        unfold f_X12_back k_let
        rw [show (0 : Int32) = nI 0 from rfl]
        simp only [b1, Option.bind_some]
        simp (disch := omega) only [k_let, Option.bind_some, ↓reduceIte, eq_self, true_or, or_true, n01_0, n01_1, kb_or, kb_0T, kb_0F, vn_0, vn_1, vn_k, leT, leF, ltT, ltF, eqT, eqF, kbT, n_cl, z2']
        exact m1
  · refine ⟨iZ (-((1 : Nat) : Int)), rfT (iZ (-((1 : Nat) : Int))) 0 S, tlT (iZ (-((1 : Nat) : Int))) 1 (sI (rfT (iZ (-((1 : Nat) : Int))) 0 S) 33 (nI 0)), ?_, ?_, h.refuse _ 0 1 (by decide)⟩
    · unfold f_X11_back
      by_cases c1 : x < 0
      · rw [if_pos c1]; rfl
      · rw [if_neg c1, if_neg (fun z => c ⟨by have : ¬ x.toInt < 0 := (fun y => c1 (Int32.lt_iff_toInt_lt.mpr y)); omega, Int32.lt_iff_toInt_lt.mp z⟩)]
        rfl
    · have b1 := xin x (sI (rfT (iZ (-((1 : Nat) : Int))) 0 S) 33 (nI 0))
      rw [decide_eq_false (by omega), kB_f] at b1
      unfold f_X12_back
      show (f_X12_in x.toInt64 (0 : Int64) (1 : Int64) (sI (rfT (iZ (-((1 : Nat) : Int))) 0 S) 33 (nI 0))).bind _ = _
      rw [b1, Option.bind_some]
      simp (disch := omega) only [k_let, Option.bind_some, ↓reduceIte, eq_self, true_or, or_true, n01_0, n01_1, kb_or, kb_0T, kb_0F, vn_0, vn_1, vn_k, nl_0, nl_1, nl_2, nl_3, nl_4, nl_5, nl_6, nl_7, nl_8, nl_9, nl_10, nl_11, nl_12, nl_13, nl_14, nl_15, nl_16, nl_20, nl_21, nl_22, nl_23, nl_24, nl_25, nl_26, nl_27, nl_28, nl_29, nl_30, nl_31, nl_32, nl_40, nl_41, nl_42, nl_43, nl_45, nl_47, nl_48, nl_50, nl_57, nl_59, nl_60, nl_61, nl_62, nl_63, nl_64, nl_91, nl_93, nl_94, nl_97, nl_98, nl_100, nl_110, nl_122, nl_130, nl_144, nl_160, nl_240, nl_241, nl_255, nl_256, nl_400, nl_800, nl_900, nl_999, nl_1000, nl_1001, nl_1024, nl_1103, nl_1928, nl_4321, nl_5560, nl_12345, nl_1000000, nl_1000003, nl_252645135, nl_858993459, nl_1431655765, nl_1000000000, nI_add, pk_mul, n_sub, n_neg, n_cl, leT, leF, ltT, ltF, eqT, eqF, kbT, s_II, s_In, s_IJ, s_IA, s_IL, s_IR, s_IC, s_JI, s_JJ, s_Jn, s_JA, s_JL, s_JR, s_JC, s_AI, s_AJ, s_AA, s_An, s_AL, s_AR, s_AC, s_LI, s_LJ, s_LA, s_LL, s_Ln, s_LR, s_LC, zleT, zleF, zltT, zltF, zeqT, zeqF, nzleT, nzleF, nzltT, nzltF, nzeqT, nzeqF, znleT, znleF, znltT, znltF, zneqT, zneqF, z_add, z_sub, z_mul, z_neg, z_an, z_na, z_sn, z_ns, z_mn, z_nm, Nat.add_sub_cancel, decide_true, decide_false, and_self, e_done, e_ref1, e_ref2, e_ref3, e_ref5, e_ref6, e_tel1, e_tel2, e_tel3, e_tel5, e_tel6, e_telN, rfT_m]
