/-! part 53: the relation of the two sides -/
def rN (r : Nat → Int32) (i : Nat) : Nat := (r i).toNatClampNeg
def isN (r : Nat → Int32) (i m : Nat) : Prop := r i = nI (rN r i) ∧ rN r i < m
def nD (r : Nat → Int32) : Nat := rN r 1
def dOw (r : Nat → Int32) (d : Nat) : Nat := rN r (14 + 5 * d)
def dCr (r : Nat → Int32) (d : Nat) : Nat := rN r (14 + 5 * d + 1)
def dTu (r : Nat → Int32) (d : Nat) : Nat := rN r (14 + 5 * d + 2)
def dHa (r : Nat → Int32) (d : Nat) : Nat := rN r (14 + 5 * d + 3)
def dSi (r : Nat → Int32) (d : Nat) : Nat := rN r (14 + 5 * d + 4)
def dLn (r : Nat → Int32) (d : Nat) : Nat := rN r (8 + dTu r d)
def WfD (r : Nat → Int32) (d : Nat) : Prop := isN r (14 + 5 * d) 8 ∧ isN r (14 + 5 * d + 1) 8 ∧ isN r (14 + 5 * d + 2) (rN r 0) ∧ isN r (14 + 5 * d + 3) 10 ∧ isN r (14 + 5 * d + 4) 1000 ∧ 0 < dHa r d ∧ dOw r d ≠ dCr r d
def Wf (r : Nat → Int32) : Prop :=
  isN r 0 7 ∧ isN r 1 17 ∧ isN r 2 7 ∧ (r 3 = iZ (-1) ∨ isN r 3 (rN r 2)) ∧ isN r 4 9 ∧ isN r 5 11 ∧ isN r 6 13 ∧ isN r 7 1000 ∧
  (∀ i, i < rN r 0 → isN r (8 + i) 31 ∧ 0 < rN r (8 + i)) ∧ (∀ d, d < rN r 1 → WfD r d) ∧
  (∀ w, w < rN r 4 → isN r (94 + 2 * w) 8 ∧ isN r (94 + 2 * w + 1) 241) ∧
  (∀ e, e < rN r 5 → isN r (110 + 2 * e) 8 ∧ isN r (110 + 2 * e + 1) (rN r 0)) ∧
  (∀ a, a < rN r 6 → isN r (130 + 2 * a) (rN r 5) ∧ isN r (130 + 2 * a + 1) (rN r 5) ∧ rN r (130 + 2 * a) ≠ rN r (130 + 2 * a + 1))
/-- a village of the class (ints I, rows A, laws L among the codes C) and a row of the reference -/
def RvC (I : Nat → Int32) (A : Nat → Nat → Int32) (L : Nat → Nat) (C : List (Nat × (Nat → Int32))) (r : Nat → Int32) : Prop :=
  (I 0 = r 0 ∧ I 1 = r 1 ∧ I 2 = r 7 ∧ I 3 = r 2 ∧ I 4 = r 3 ∧ I 5 = r 4 ∧ I 6 = r 5 ∧ I 7 = r 6) ∧
  (∀ i, i < rN r 0 → A 1 i = r (8 + i)) ∧
  (∀ d, d < rN r 1 → A 3 d = r (14 + 5 * d) ∧ A 4 d = r (14 + 5 * d + 1) ∧ A 5 d = r (14 + 5 * d + 2) ∧ A 6 d = r (14 + 5 * d + 3) ∧ A 7 d = r (14 + 5 * d + 4)) ∧
  (∀ w, w < rN r 4 → A 9 w = r (94 + 2 * w) ∧ A 10 w = r (94 + 2 * w + 1)) ∧
  (∀ e, e < rN r 5 → A 11 e = r (110 + 2 * e) ∧ A 12 e = r (110 + 2 * e + 1)) ∧
  (∀ a, a < rN r 6 → A 13 a = r (130 + 2 * a) ∧ A 14 a = r (130 + 2 * a + 1)) ∧
  (∀ l, l < rN r 2 → LawR C (L l) (fun i => r (160 + 900 * l + i)))
def Rv (I : Nat → Int32) (A : Nat → Nat → Int32) (L : Nat → Nat) (C : List (Nat × (Nat → Int32))) (r : Nat → Int32) : Prop := Wf r ∧ RvC I A L C r
theorem Rv.congr {I I' : Nat → Int32} {A A' : Nat → Nat → Int32} {L L' : Nat → Nat} {C : List (Nat × (Nat → Int32))} {r : Nat → Int32} (h : Rv I A L C r) (hI : ∀ i, i < 8 → I' i = I i) (hA : ∀ j, j < 15 → A' j = A j) (hL : ∀ l, L' l = L l) : Rv I' A' L' C r := by
  have eL : L' = L := funext hL
  rw [eL]
  obtain ⟨w, ⟨c0, c1, c2, c3, c4, c5, c6, c7⟩, c8, c9, c10, c11, c12, c13⟩ := h
  refine ⟨w, ⟨(hI 0 (by decide)).trans c0, (hI 1 (by decide)).trans c1, (hI 2 (by decide)).trans c2, (hI 3 (by decide)).trans c3, (hI 4 (by decide)).trans c4, (hI 5 (by decide)).trans c5, (hI 6 (by decide)).trans c6, (hI 7 (by decide)).trans c7⟩, ?_, ?_, ?_, ?_, ?_, c13⟩
  · rw [hA 1 (by decide)]; exact c8
  · rw [hA 3 (by decide), hA 4 (by decide), hA 5 (by decide), hA 6 (by decide), hA 7 (by decide)]; exact c9
  · rw [hA 9 (by decide), hA 10 (by decide)]; exact c10
  · rw [hA 11 (by decide), hA 12 (by decide)]; exact c11
  · rw [hA 13 (by decide), hA 14 (by decide)]; exact c12
theorem Rv.app {I : Nat → Int32} {A : Nat → Nat → Int32} {L : Nat → Nat} {C : List (Nat × (Nat → Int32))} {r : Nat → Int32} (h : Rv I A L C r) (c : Nat × (Nat → Int32)) : Rv I A L (C ++ [c]) r :=
  ⟨h.1, h.2.1, h.2.2.1, h.2.2.2.1, h.2.2.2.2.1, h.2.2.2.2.2.1, h.2.2.2.2.2.2.1, fun l hl => (h.2.2.2.2.2.2.2 l hl).app c⟩
/-- the bits of s from place 16 - m on: how many -/
def pcF (s : Nat) : Nat → Nat
  | 0 => 0
  | m + 1 => s / 2 ^ (15 - m) % 2 + pcF s m
def pc16 (s : Nat) : Nat := pcF s 16
def wdL : List Int := [515250, 122578850290, 677317, 408362632, 269899955, 1253, 4360851]
def hdL : List Int := [24627848, 67155, 23569555]
def Tp (S : St) : Prop := gI S 8 = gI S 36 ∧ isN (gI S) 8 401 ∧ ∀ i, i < rN (gI S) 8 → gA S 16 i &&& nI 255 = gA S 56 i ∧ isN (gA S 56) i 256
def Im (S : St) (k : Nat) : Prop := (gR S 3 k = 0 ∧ gA S 55 k = nI 0) ∨ (gR S 3 k = k + 1 ∧ gA S 55 k = nI 1 ∧ Rv (fun i => gI S (55 + 8 * k + i)) (fun j => gA S (81 + 15 * k + j)) (gR S (k + 1)) (gC S) (fun i => gA S 54 (5560 * k + i)))
def Pp (S : St) : Prop := gI S 28 = gI S 54 ∧ (gI S 28 = nI 0 ∨ (gI S 28 = nI 1 ∧ ∀ d, d < 8 → gA S 46 d = gA S 80 (2 * d) ∧ isN (gA S 47) d 256 ∧ gA S 80 (2 * d + 1) = nI (pc16 (rN (gA S 47) d))))
/-- law refs and image refs that are there -/
def Kv (S : St) : Prop := (∀ i, i < 6 → gR S 0 i ≤ (gC S).length ∧ gR S 1 i ≤ (gC S).length ∧ gR S 2 i ≤ (gC S).length) ∧ ∀ i, i < 2 → gR S 3 i ≤ 2
theorem Kv.fr {ci cj ca cl : List Nat} {S T : St} (h : Kv S) (f : Fr ci cj ca cl S T) : Kv T := by
  unfold Kv
  rw [f.2.2.2.2.2, f.2.2.2.2.1, f.2.2.2.2.1, f.2.2.2.2.1, f.2.2.2.2.1]
  exact h
def Inv (S : St) : Prop :=
  Rv (gI S) (gA S) (gR S 0) (gC S) (gA S 53) ∧ Tp S ∧ (gI S 30 = gI S 35 ∧ gI S 31 = gI S 40 ∧ gI S 32 = gI S 34) ∧
  (gA S 50 0 = gA S 52 1 ∧ gA S 50 1 = gA S 52 2 ∧ gA S 50 2 = gA S 52 3 ∧ gA S 50 3 = gA S 52 5 ∧ gA S 50 4 = gA S 52 6) ∧
  Pp S ∧ (Im S 0 ∧ Im S 1) ∧ ((∀ i, i < 7 → gL S 62 i = lZ (wdL.getD i 0)) ∧ (∀ i, i < 3 → gL S 63 i = lZ (hdL.getD i 0)) ∧ (∀ d, d < 16 → gL S 37 d = lZ (10 ^ (15 - d))) ∧ Kv S)
def scI : List Nat := [9, 10, 11, 12, 13, 14, 15, 16, 17, 18, 19, 20, 21, 22, 23, 24, 25, 26, 27, 29, 33, 37, 38, 39, 41, 42, 43, 44, 45, 46, 47, 48, 49, 50, 51, 52, 53]
def scJ : List Nat := [0, 1, 2, 3]
def scA : List Nat := [18, 19, 20, 21, 22, 24, 26, 27, 28, 30, 31, 38, 40, 42, 43, 45, 57, 58, 59, 60, 61, 66, 67, 68, 69, 70, 71, 72, 73, 74, 75, 76, 77, 78, 79]
def scL : List Nat := [33, 34, 35, 36, 64, 65]
/-- only what no later call sees has changed -/
abbrev Fs (S T : St) : Prop := Fr scI scJ scA scL S T
theorem scI_55 {k : Nat} (h : 55 ≤ k) : k ∉ scI := by
  intro q
  simp only [scI, List.mem_cons, List.not_mem_nil, or_false] at q
  omega
theorem scA_81 {k : Nat} (h : 81 ≤ k) : k ∉ scA := by
  intro q
  simp only [scA, List.mem_cons, List.not_mem_nil, or_false] at q
  omega
theorem scI_8 {k : Nat} (h : k < 9) : k ∉ scI := by
  intro q
  simp only [scI, List.mem_cons, List.not_mem_nil, or_false] at q
  omega
theorem scA_15 {k : Nat} (h : k < 18) : k ∉ scA := by
  intro q
  simp only [scA, List.mem_cons, List.not_mem_nil, or_false] at q
  omega
theorem Im.fs {S T : St} {k : Nat} (h : Im S k) (f : Fs S T) : Im T k := by
  rcases h with ⟨h1, h2⟩ | ⟨h1, h2, h3⟩
  · exact Or.inl ⟨by rw [f.2.2.2.2.1]; exact h1, by rw [f.A (k := 55) rfl]; exact h2⟩
  · refine Or.inr ⟨by rw [f.2.2.2.2.1]; exact h1, by rw [f.A (k := 55) rfl]; exact h2, ?_⟩
    rw [f.2.2.2.2.2, f.2.2.2.2.1, f.A (k := 54) rfl]
    exact h3.congr (fun i _ => f.1 _ (scI_55 (by omega))) (fun j _ => f.2.2.1 _ (scA_81 (by omega))) (fun _ => rfl)
theorem Inv.fs {S T : St} (h : Inv S) (f : Fs S T) : Inv T := by
  obtain ⟨h1, ⟨t1, t2, t3⟩, ⟨a1, a2, a3⟩, h4, ⟨p1, p2⟩, ⟨m0, m1⟩, c1, c2, c3, kv⟩ := h
  refine ⟨?_, ⟨?_, ?_, ?_⟩, ⟨?_, ?_, ?_⟩, ?_, ⟨?_, ?_⟩, ⟨m0.fs f, m1.fs f⟩, ?_, ?_, ?_, kv.fr f⟩
  · rw [f.2.2.2.2.2, f.2.2.2.2.1, f.A (k := 53) rfl]
    exact h1.congr (fun i hi => f.1 _ (scI_8 (by omega))) (fun j hj => f.2.2.1 _ (scA_15 (by omega))) (fun _ => rfl)
  · rw [f.I (k := 8) rfl, f.I (k := 36) rfl]; exact t1
  · unfold isN rN; rw [f.I (k := 8) rfl]; exact t2
  · unfold rN; rw [f.I (k := 8) rfl, f.A (k := 16) rfl, f.A (k := 56) rfl]; exact t3
  · rw [f.I (k := 30) rfl, f.I (k := 35) rfl]; exact a1
  · rw [f.I (k := 31) rfl, f.I (k := 40) rfl]; exact a2
  · rw [f.I (k := 32) rfl, f.I (k := 34) rfl]; exact a3
  · rw [f.A (k := 50) rfl, f.A (k := 52) rfl]; exact h4
  · rw [f.I (k := 28) rfl, f.I (k := 54) rfl]; exact p1
  · rw [f.I (k := 28) rfl, f.A (k := 46) rfl, f.A (k := 47) rfl, f.A (k := 80) rfl]; exact p2
  · rw [f.L (k := 62) rfl]; exact c1
  · rw [f.L (k := 63) rfl]; exact c2
  · rw [f.L (k := 37) rfl]; exact c3
/-- with the reference's row named -/
def Iv (r : Nat → Int32) (S : St) : Prop := Inv S ∧ gA S 53 = r
theorem Iv.fs {r : Nat → Int32} {S T : St} (h : Iv r S) (f : Fs S T) : Iv r T := ⟨h.1.fs f, by rw [f.A (k := 53) rfl]; exact h.2⟩
theorem Iv.wf {r : Nat → Int32} {S : St} (h : Iv r S) : Wf r := h.2 ▸ h.1.1.1
theorem Iv.rc {r : Nat → Int32} {S : St} (h : Iv r S) : RvC (gI S) (gA S) (gR S 0) (gC S) r := h.2 ▸ h.1.1.2
/-- the class's side alone, the reference's side alone -/
def Ic (r : Nat → Int32) (S : St) : Prop := Wf r ∧ RvC (gI S) (gA S) (gR S 0) (gC S) r
def Ir (r : Nat → Int32) (S : St) : Prop := Wf r ∧ gA S 53 = r
theorem Iv.c {r : Nat → Int32} {S : St} (h : Iv r S) : Ic r S := ⟨h.wf, h.rc⟩
theorem Iv.r {r : Nat → Int32} {S : St} (h : Iv r S) : Ir r S := ⟨h.wf, h.2⟩
theorem Iv.of {S : St} (h : Inv S) : Iv (gA S 53) S := ⟨h, rfl⟩
theorem Wf.n16 {r : Nat → Int32} (h : Wf r) : nD r ≤ 16 := by have := h.2.1.2; unfold nD; omega
theorem Wf.t6 {r : Nat → Int32} (h : Wf r) : rN r 0 ≤ 6 := by have := h.1.2; omega
theorem Ir.m {r : Nat → Int32} {S : St} (h : Ir r S) : gA S 53 = r := h.2
theorem Wf.r1 {r : Nat → Int32} (h : Wf r) : r 1 = nI (nD r) := h.2.1.1
theorem Wf.r0 {r : Nat → Int32} (h : Wf r) : r 0 = nI (rN r 0) := h.1.1
theorem Wf.r7 {r : Nat → Int32} (h : Wf r) : r 7 = nI (rN r 7) := h.2.2.2.2.2.2.2.1.1
theorem Wf.e7 {r : Nat → Int32} (h : Wf r) : rN r 7 < 1000 := h.2.2.2.2.2.2.2.1.2
theorem Ic.I0 {r : Nat → Int32} {S : St} (h : Ic r S) : gI S 0 = nI (rN r 0) := h.2.1.1.trans h.1.r0
theorem Ic.I1 {r : Nat → Int32} {S : St} (h : Ic r S) : gI S 1 = nI (nD r) := h.2.1.2.1.trans h.1.r1
theorem Ic.I2 {r : Nat → Int32} {S : St} (h : Ic r S) : gI S 2 = nI (rN r 7) := h.2.1.2.2.1.trans h.1.r7
theorem Wf.D {r : Nat → Int32} (h : Wf r) {d : Nat} (hd : d < nD r) : WfD r d := h.2.2.2.2.2.2.2.2.2.1 d hd
theorem Wf.ow {r : Nat → Int32} (h : Wf r) {d : Nat} (hd : d < nD r) : r (14 + 5 * d) = nI (dOw r d) ∧ dOw r d < 8 := (h.D hd).1
theorem Wf.cr {r : Nat → Int32} (h : Wf r) {d : Nat} (hd : d < nD r) : r (14 + 5 * d + 1) = nI (dCr r d) ∧ dCr r d < 8 := (h.D hd).2.1
theorem Wf.tu {r : Nat → Int32} (h : Wf r) {d : Nat} (hd : d < nD r) : r (14 + 5 * d + 2) = nI (dTu r d) ∧ dTu r d < rN r 0 := (h.D hd).2.2.1
theorem Wf.ha {r : Nat → Int32} (h : Wf r) {d : Nat} (hd : d < nD r) : r (14 + 5 * d + 3) = nI (dHa r d) ∧ dHa r d < 10 ∧ 0 < dHa r d := ⟨(h.D hd).2.2.2.1.1, (h.D hd).2.2.2.1.2, (h.D hd).2.2.2.2.2.1⟩
theorem Wf.si {r : Nat → Int32} (h : Wf r) {d : Nat} (hd : d < nD r) : r (14 + 5 * d + 4) = nI (dSi r d) ∧ dSi r d < 1000 := (h.D hd).2.2.2.2.1
theorem Wf.oc {r : Nat → Int32} (h : Wf r) {d : Nat} (hd : d < nD r) : dOw r d ≠ dCr r d := (h.D hd).2.2.2.2.2.2
theorem Wf.ln {r : Nat → Int32} (h : Wf r) {d : Nat} (hd : d < nD r) : r (8 + dTu r d) = nI (dLn r d) ∧ dLn r d < 31 ∧ 0 < dLn r d := by
  have := h.2.2.2.2.2.2.2.2.1 _ (h.tu hd).2
  exact ⟨this.1.1, this.1.2, this.2⟩
theorem Ic.C {r : Nat → Int32} {S : St} (h : Ic r S) {d : Nat} (hd : d < nD r) : gA S 3 d = nI (dOw r d) ∧ gA S 4 d = nI (dCr r d) ∧ gA S 5 d = nI (dTu r d) ∧ gA S 6 d = nI (dHa r d) ∧ gA S 7 d = nI (dSi r d) := by
  obtain ⟨a, b, c, e, f⟩ := h.2.2.2.1 d hd
  exact ⟨a.trans (h.1.ow hd).1, b.trans (h.1.cr hd).1, c.trans (h.1.tu hd).1, e.trans (h.1.ha hd).1, f.trans (h.1.si hd).1⟩
theorem Ic.C1 {r : Nat → Int32} {S : St} (h : Ic r S) {t : Nat} (ht : t < rN r 0) : gA S 1 t = nI (rN r (8 + t)) := (h.2.2.1 t ht).trans (h.1.2.2.2.2.2.2.2.2.1 t ht).1.1
theorem Ic.fr {ci cj ca cl : List Nat} {r : Nat → Int32} {S T : St} (h : Ic r S) (f : Fr ci cj ca cl S T) (h1 : ci.all (fun k => decide (7 < k)) = true) (h2 : ca.all (fun k => decide (14 < k)) = true) : Ic r T := by
  have key : ∀ {l : List Nat} {m : Nat}, l.all (fun k => decide (m < k)) = true → ∀ k, k ≤ m → k ∉ l := fun {l m} g k hk hl => by
    have := List.all_eq_true.mp g k hl
    rw [decide_eq_true_eq] at this
    omega
  have := Rv.congr (I := gI S) (I' := gI T) (A := gA S) (A' := gA T) (L := gR S 0) (L' := gR T 0) (C := gC S) (r := r) ⟨h.1, h.2⟩ (fun i hi => f.1 i (key h1 i (by omega))) (fun j hj => f.2.2.1 j (key h2 j (by omega))) (fun l => by rw [f.2.2.2.2.1])
  exact ⟨h.1, by rw [f.2.2.2.2.2]; exact this.2⟩
theorem Ir.fr {ci cj ca cl : List Nat} {r : Nat → Int32} {S T : St} (h : Ir r S) (f : Fr ci cj ca cl S T) (h2 : ca.contains 53 = false) : Ir r T := ⟨h.1, by rw [f.A h2]; exact h.2⟩
theorem Ic.fs {r : Nat → Int32} {S T : St} (h : Ic r S) (f : Fs S T) : Ic r T := h.fr f rfl rfl
theorem Ir.fs {r : Nat → Int32} {S T : St} (h : Ir r S) (f : Fs S T) : Ir r T := h.fr f rfl
