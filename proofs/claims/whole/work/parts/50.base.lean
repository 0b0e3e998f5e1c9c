/-! LAYER 2, part 50: numbers and the state's parts in a normal form -/
def iZ (z : Int) : Int32 := Int32.ofInt z
def lZ (z : Int) : Int64 := Int64.ofInt z
def kB (b : Bool) : Int32 := if b then nI 1 else nI 0
theorem n_l (n : Nat) : (no_index (OfNat.ofNat n) : Int32) = nI n := rfl
theorem n_l0 : (0 : Int32) = nI 0 := rfl
theorem n_l1 : (1 : Int32) = nI 1 := rfl
theorem n_cl {n : Nat} (h : n < 2147483648) : (nI n).toNatClampNeg = n := nI_clamp h
theorem n_ti {n : Nat} (h : n < 2147483648) : (nI n).toInt = (n : Int) := nI_toInt h
theorem n_le {a b : Nat} (ha : a < 2147483648) (hb : b < 2147483648) : (nI a ≤ nI b) = (a ≤ b) := propext (nI_leI ha hb)
theorem n_lt {a b : Nat} (ha : a < 2147483648) (hb : b < 2147483648) : (nI a < nI b) = (a < b) := propext (nI_ltI ha hb)
theorem n_eq {a b : Nat} (ha : a < 2147483648) (hb : b < 2147483648) : (nI a = nI b) = (a = b) := propext (nI_eq ha hb)
theorem n_sub {a b : Nat} (h : b ≤ a) : nI a - nI b = nI (a - b) := pk_sub h
theorem n_Z (n : Nat) : nI n = iZ n := (Int32.ofInt_eq_ofNat (n := n)).symm
theorem z_add (a b : Int) : iZ a + iZ b = iZ (a + b) := (Int32.ofInt_add a b).symm
theorem z_sub (a b : Int) : iZ a - iZ b = iZ (a - b) := (Int32.ofInt_sub a b).symm
theorem z_mul (a b : Int) : iZ a * iZ b = iZ (a * b) := (Int32.ofInt_mul a b).symm
theorem z_neg (a : Int) : -iZ a = iZ (-a) := (Int32.ofInt_neg a).symm
theorem z_ti {z : Int} (h1 : -2147483648 ≤ z) (h2 : z < 2147483648) : (iZ z).toInt = z := Int32.toInt_ofInt_of_le h1 h2
theorem z_cl {z : Int} (h1 : -2147483648 ≤ z) (h2 : z < 2147483648) : (iZ z).toNatClampNeg = z.toNat := by
  rw [← Int32.toNat_toInt, z_ti h1 h2]
theorem z_le {a b : Int} (a1 : -2147483648 ≤ a) (a2 : a < 2147483648) (b1 : -2147483648 ≤ b) (b2 : b < 2147483648) : (iZ a ≤ iZ b) = (a ≤ b) := by
  rw [Int32.le_iff_toInt_le, z_ti a1 a2, z_ti b1 b2]
theorem z_lt {a b : Int} (a1 : -2147483648 ≤ a) (a2 : a < 2147483648) (b1 : -2147483648 ≤ b) (b2 : b < 2147483648) : (iZ a < iZ b) = (a < b) := by
  rw [Int32.lt_iff_toInt_lt, z_ti a1 a2, z_ti b1 b2]
theorem z_eq {a b : Int} (a1 : -2147483648 ≤ a) (a2 : a < 2147483648) (b1 : -2147483648 ≤ b) (b2 : b < 2147483648) : (iZ a = iZ b) = (a = b) := by
  rw [← Int32.toInt_inj, z_ti a1 a2, z_ti b1 b2]
theorem z_of (x : Int32) : x = iZ x.toInt := (Int32.ofInt_toInt x).symm
theorem z_m1 : (-1 : Int32) = iZ (-1) := rfl
theorem n_kb {i n : Nat} (h : i < 2147483648) : k_b (nI i) n = decide (i < n) := by
  unfold k_b
  rw [n_cl h, decide_eq_true (nI_pos' h), Bool.true_and]
theorem z_kb {z : Int} {n : Nat} (h1 : -2147483648 ≤ z) (h2 : z < 2147483648) (hn : n < 2147483648) : k_b (iZ z) n = decide (0 ≤ z ∧ z < n) := by
  unfold k_b
  have e : ((0 : Int32) ≤ iZ z) = (0 ≤ z) := by
    rw [Int32.le_iff_toInt_le, z_ti h1 h2]; rfl
  rw [z_cl h1 h2, ← Bool.decide_and]
  apply decide_eq_decide.mpr
  rw [e]
  omega
theorem n_of {x : Int32} (h : 0 ≤ x.toInt) : x = nI x.toNatClampNeg ∧ x.toNatClampNeg < 2147483648 ∧ (x.toNatClampNeg : Int) = x.toInt := by
  have h0 : (0 : Int32) ≤ x := by rw [Int32.le_iff_toInt_le]; exact h
  exact ⟨(Int32.ofNat_toNatClampNeg x h0).symm, Int32.toNatClampNeg_lt x, Int32.cast_toNatClampNeg x h0⟩
theorem n_and (a b : Nat) : nI a &&& nI b = nI (a &&& b) := Int32.toBitVec_inj.mp (BitVec.ofNat_and (w := 32)).symm
theorem n_or (a b : Nat) : nI a ||| nI b = nI (a ||| b) := Int32.toBitVec_inj.mp (BitVec.ofNat_or (w := 32)).symm
theorem n_xor (a b : Nat) : nI a ^^^ nI b = nI (a ^^^ b) := Int32.toBitVec_inj.mp (BitVec.ofNat_xor (w := 32)).symm
theorem n_sl : ∀ k, k < 32 → ((nI k &&& 31).toBitVec.smod 32).toNat = k := by decide +kernel
theorem n_shl {k : Nat} (h : k < 31) (x : Nat) (hx : x * 2 ^ k < 4294967296) : nI x <<< (nI k &&& nI 31) = nI (x * 2 ^ k) := pk_shlN _ k (n_sl k (by omega)) hx
theorem n_shl1 {k : Nat} (h : k < 31) : nI 1 <<< (nI k &&& nI 31) = nI (2 ^ k) := by
  have h2 : 2 ^ k < 4294967296 := Nat.lt_of_lt_of_le (Nat.pow_lt_pow_right (by decide) h) (by decide)
  rw [n_shl h 1 (by rw [Nat.one_mul]; exact h2), Nat.one_mul]
theorem n_shr {k : Nat} (h : k < 31) {x : Nat} (hx : x < 2147483648) : nI x >>> (nI k &&& nI 31) = nI (x / 2 ^ k) := pk_shrN hx _ k (n_sl k (by omega))
theorem n_and1 (x : Nat) : nI x &&& nI 1 = nI (x % 2) := by
  rw [n_and, Nat.and_one_is_mod]
theorem kB_t : kB true = nI 1 := rfl
theorem kB_f : kB false = nI 0 := rfl
theorem kB_01 (b : Bool) : kB b = nI 0 ∨ kB b = nI 1 := by cases b <;> simp [kB]
theorem kB_0 (b : Bool) : (kB b = nI 0) = (b = false) := by
  cases b
  · simp [kB]
  · rw [kB_t, n_eq (by decide) (by decide)]; simp
theorem kB_1 (b : Bool) : (kB b = nI 1) = (b = true) := by
  cases b
  · rw [kB_f, n_eq (by decide) (by decide)]; simp
  · simp [kB]
theorem l_n {n : Nat} (h : n < 2147483648) : (nI n).toInt64 = lN n := nI_l h
/-! the state's parts -/
theorem s_II (S : St) (k : Nat) (v : Int32) : gI (sI S k v) k = v := if_pos rfl
theorem s_In {S : St} {k j : Nat} {v : Int32} (h : j ≠ k) : gI (sI S k v) j = gI S j := if_neg h
theorem s_IJ (S : St) (k j : Nat) (v : Int32) : gJ (sI S k v) j = gJ S j := rfl
theorem s_IA (S : St) (k j : Nat) (v : Int32) : gA (sI S k v) j = gA S j := rfl
theorem s_IL (S : St) (k j : Nat) (v : Int32) : gL (sI S k v) j = gL S j := rfl
theorem s_IR (S : St) (k j : Nat) (v : Int32) : gR (sI S k v) j = gR S j := rfl
theorem s_IC (S : St) (k : Nat) (v : Int32) : gC (sI S k v) = gC S := rfl
theorem s_JI (S : St) (k j : Nat) (v : Int64) : gI (sJ S k v) j = gI S j := rfl
theorem s_JJ (S : St) (k : Nat) (v : Int64) : gJ (sJ S k v) k = v := if_pos rfl
theorem s_Jn {S : St} {k j : Nat} {v : Int64} (h : j ≠ k) : gJ (sJ S k v) j = gJ S j := if_neg h
theorem s_JA (S : St) (k j : Nat) (v : Int64) : gA (sJ S k v) j = gA S j := rfl
theorem s_JL (S : St) (k j : Nat) (v : Int64) : gL (sJ S k v) j = gL S j := rfl
theorem s_JR (S : St) (k j : Nat) (v : Int64) : gR (sJ S k v) j = gR S j := rfl
theorem s_JC (S : St) (k : Nat) (v : Int64) : gC (sJ S k v) = gC S := rfl
theorem s_AI (S : St) (k i j : Nat) (v : Int32) : gI (sA S k i v) j = gI S j := rfl
theorem s_AJ (S : St) (k i j : Nat) (v : Int32) : gJ (sA S k i v) j = gJ S j := rfl
theorem s_AA (S : St) (k i : Nat) (v : Int32) : gA (sA S k i v) k = upd (gA S k) i v := if_pos rfl
theorem s_An {S : St} {k j i : Nat} {v : Int32} (h : j ≠ k) : gA (sA S k i v) j = gA S j := if_neg h
theorem s_AL (S : St) (k i j : Nat) (v : Int32) : gL (sA S k i v) j = gL S j := rfl
theorem s_AR (S : St) (k i j : Nat) (v : Int32) : gR (sA S k i v) j = gR S j := rfl
theorem s_AC (S : St) (k i : Nat) (v : Int32) : gC (sA S k i v) = gC S := rfl
theorem s_LI (S : St) (k i j : Nat) (v : Int64) : gI (sL S k i v) j = gI S j := rfl
theorem s_LJ (S : St) (k i j : Nat) (v : Int64) : gJ (sL S k i v) j = gJ S j := rfl
theorem s_LA (S : St) (k i j : Nat) (v : Int64) : gA (sL S k i v) j = gA S j := rfl
theorem s_LL (S : St) (k i : Nat) (v : Int64) : gL (sL S k i v) k = vp_updL (gL S k) i v := if_pos rfl
theorem s_Ln {S : St} {k j i : Nat} {v : Int64} (h : j ≠ k) : gL (sL S k i v) j = gL S j := if_neg h
theorem s_LR (S : St) (k i j : Nat) (v : Int64) : gR (sL S k i v) j = gR S j := rfl
theorem s_LC (S : St) (k i : Nat) (v : Int64) : gC (sL S k i v) = gC S := rfl
theorem u_s {f : Nat → Int32} {k : Nat} {x : Int32} : upd f k x k = x := pk_us
theorem u_n {f : Nat → Int32} {k j : Nat} {x : Int32} (h : j ≠ k) : upd f k x j = f j := pk_un h
theorem u_a (f : Nat → Int32) (k : Nat) (x : Int32) (j : Nat) : upd f k x j = if j = k then x else f j := rfl
theorem u_La (f : Nat → Int64) (k : Nat) (x : Int64) (j : Nat) : vp_updL f k x j = if j = k then x else f j := rfl
/-! what a step may have changed: ints ci, longs cj, rows ca, long rows cl -/
def Fr (ci cj ca cl : List Nat) (S T : St) : Prop :=
  (∀ k, k ∉ ci → gI T k = gI S k) ∧ (∀ k, k ∉ cj → gJ T k = gJ S k) ∧ (∀ k, k ∉ ca → gA T k = gA S k) ∧ (∀ k, k ∉ cl → gL T k = gL S k) ∧ (∀ k, gR T k = gR S k) ∧ gC T = gC S
theorem Fr.refl {ci cj ca cl : List Nat} (S : St) : Fr ci cj ca cl S S := ⟨fun _ _ => rfl, fun _ _ => rfl, fun _ _ => rfl, fun _ _ => rfl, fun _ => rfl, rfl⟩
theorem Fr.trans {ci cj ca cl : List Nat} {S T U : St} (h : Fr ci cj ca cl S T) (g : Fr ci cj ca cl T U) : Fr ci cj ca cl S U :=
  ⟨fun k hk => (g.1 k hk).trans (h.1 k hk), fun k hk => (g.2.1 k hk).trans (h.2.1 k hk), fun k hk => (g.2.2.1 k hk).trans (h.2.2.1 k hk), fun k hk => (g.2.2.2.1 k hk).trans (h.2.2.2.1 k hk), fun k => (g.2.2.2.2.1 k).trans (h.2.2.2.2.1 k), g.2.2.2.2.2.trans h.2.2.2.2.2⟩
theorem Fr.mono {ci cj ca cl ci' cj' ca' cl' : List Nat} {S T : St} (h : Fr ci cj ca cl S T) (h1 : ci.all (fun k => ci'.contains k) = true) (h2 : cj.all (fun k => cj'.contains k) = true) (h3 : ca.all (fun k => ca'.contains k) = true) (h4 : cl.all (fun k => cl'.contains k) = true) : Fr ci' cj' ca' cl' S T := by
  have key : ∀ {l l' : List Nat}, l.all (fun k => l'.contains k) = true → ∀ k, k ∉ l' → k ∉ l := fun {l l'} g k hk hl => hk (by
    have := List.all_eq_true.mp g k hl
    exact List.contains_iff_mem.mp this)
  exact ⟨fun k hk => h.1 k (key h1 k hk), fun k hk => h.2.1 k (key h2 k hk), fun k hk => h.2.2.1 k (key h3 k hk), fun k hk => h.2.2.2.1 k (key h4 k hk), h.2.2.2.2⟩
theorem Fr.sI {ci cj ca cl : List Nat} {S T : St} (h : Fr ci cj ca cl S T) {k : Nat} (hk : ci.contains k = true) (v : Int32) : Fr ci cj ca cl S (sI T k v) :=
  h.trans ⟨fun j hj => s_In (fun e => hj (by rw [e]; exact List.contains_iff_mem.mp hk)), fun _ _ => rfl, fun _ _ => rfl, fun _ _ => rfl, fun _ => rfl, rfl⟩
theorem Fr.sJ {ci cj ca cl : List Nat} {S T : St} (h : Fr ci cj ca cl S T) {k : Nat} (hk : cj.contains k = true) (v : Int64) : Fr ci cj ca cl S (sJ T k v) :=
  h.trans ⟨fun _ _ => rfl, fun j hj => s_Jn (fun e => hj (by rw [e]; exact List.contains_iff_mem.mp hk)), fun _ _ => rfl, fun _ _ => rfl, fun _ => rfl, rfl⟩
theorem Fr.sA {ci cj ca cl : List Nat} {S T : St} (h : Fr ci cj ca cl S T) {k : Nat} (hk : ca.contains k = true) (i : Nat) (v : Int32) : Fr ci cj ca cl S (sA T k i v) :=
  h.trans ⟨fun _ _ => rfl, fun _ _ => rfl, fun j hj => s_An (fun e => hj (by rw [e]; exact List.contains_iff_mem.mp hk)), fun _ _ => rfl, fun _ => rfl, rfl⟩
theorem Fr.sL {ci cj ca cl : List Nat} {S T : St} (h : Fr ci cj ca cl S T) {k : Nat} (hk : cl.contains k = true) (i : Nat) (v : Int64) : Fr ci cj ca cl S (sL T k i v) :=
  h.trans ⟨fun _ _ => rfl, fun _ _ => rfl, fun _ _ => rfl, fun j hj => s_Ln (fun e => hj (by rw [e]; exact List.contains_iff_mem.mp hk)), fun _ => rfl, rfl⟩
theorem Fr.I {ci cj ca cl : List Nat} {S T : St} (h : Fr ci cj ca cl S T) {k : Nat} (hk : ci.contains k = false) : gI T k = gI S k := h.1 k (fun e => by rw [List.contains_iff_mem.mpr e] at hk; cases hk)
theorem Fr.J {ci cj ca cl : List Nat} {S T : St} (h : Fr ci cj ca cl S T) {k : Nat} (hk : cj.contains k = false) : gJ T k = gJ S k := h.2.1 k (fun e => by rw [List.contains_iff_mem.mpr e] at hk; cases hk)
theorem Fr.A {ci cj ca cl : List Nat} {S T : St} (h : Fr ci cj ca cl S T) {k : Nat} (hk : ca.contains k = false) : gA T k = gA S k := h.2.2.1 k (fun e => by rw [List.contains_iff_mem.mpr e] at hk; cases hk)
theorem Fr.L {ci cj ca cl : List Nat} {S T : St} (h : Fr ci cj ca cl S T) {k : Nat} (hk : cl.contains k = false) : gL T k = gL S k := h.2.2.2.1 k (fun e => by rw [List.contains_iff_mem.mpr e] at hk; cases hk)
theorem nl_0 : (0 : Int32) = nI 0 := rfl
theorem nl_1 : (1 : Int32) = nI 1 := rfl
theorem nl_2 : (2 : Int32) = nI 2 := rfl
theorem nl_3 : (3 : Int32) = nI 3 := rfl
theorem nl_4 : (4 : Int32) = nI 4 := rfl
theorem nl_5 : (5 : Int32) = nI 5 := rfl
theorem nl_6 : (6 : Int32) = nI 6 := rfl
theorem nl_7 : (7 : Int32) = nI 7 := rfl
theorem nl_8 : (8 : Int32) = nI 8 := rfl
theorem nl_9 : (9 : Int32) = nI 9 := rfl
theorem nl_10 : (10 : Int32) = nI 10 := rfl
theorem nl_11 : (11 : Int32) = nI 11 := rfl
theorem nl_12 : (12 : Int32) = nI 12 := rfl
theorem nl_13 : (13 : Int32) = nI 13 := rfl
theorem nl_14 : (14 : Int32) = nI 14 := rfl
theorem nl_15 : (15 : Int32) = nI 15 := rfl
theorem nl_16 : (16 : Int32) = nI 16 := rfl
theorem nl_20 : (20 : Int32) = nI 20 := rfl
theorem nl_21 : (21 : Int32) = nI 21 := rfl
theorem nl_22 : (22 : Int32) = nI 22 := rfl
theorem nl_23 : (23 : Int32) = nI 23 := rfl
theorem nl_24 : (24 : Int32) = nI 24 := rfl
theorem nl_25 : (25 : Int32) = nI 25 := rfl
theorem nl_26 : (26 : Int32) = nI 26 := rfl
theorem nl_27 : (27 : Int32) = nI 27 := rfl
theorem nl_28 : (28 : Int32) = nI 28 := rfl
theorem nl_29 : (29 : Int32) = nI 29 := rfl
theorem nl_30 : (30 : Int32) = nI 30 := rfl
theorem nl_31 : (31 : Int32) = nI 31 := rfl
theorem nl_32 : (32 : Int32) = nI 32 := rfl
theorem nl_40 : (40 : Int32) = nI 40 := rfl
theorem nl_41 : (41 : Int32) = nI 41 := rfl
theorem nl_42 : (42 : Int32) = nI 42 := rfl
theorem nl_43 : (43 : Int32) = nI 43 := rfl
theorem nl_45 : (45 : Int32) = nI 45 := rfl
theorem nl_47 : (47 : Int32) = nI 47 := rfl
theorem nl_48 : (48 : Int32) = nI 48 := rfl
theorem nl_50 : (50 : Int32) = nI 50 := rfl
theorem nl_57 : (57 : Int32) = nI 57 := rfl
theorem nl_59 : (59 : Int32) = nI 59 := rfl
theorem nl_60 : (60 : Int32) = nI 60 := rfl
theorem nl_61 : (61 : Int32) = nI 61 := rfl
theorem nl_62 : (62 : Int32) = nI 62 := rfl
theorem nl_63 : (63 : Int32) = nI 63 := rfl
theorem nl_64 : (64 : Int32) = nI 64 := rfl
theorem nl_91 : (91 : Int32) = nI 91 := rfl
theorem nl_93 : (93 : Int32) = nI 93 := rfl
theorem nl_94 : (94 : Int32) = nI 94 := rfl
theorem nl_97 : (97 : Int32) = nI 97 := rfl
theorem nl_98 : (98 : Int32) = nI 98 := rfl
theorem nl_100 : (100 : Int32) = nI 100 := rfl
theorem nl_110 : (110 : Int32) = nI 110 := rfl
theorem nl_122 : (122 : Int32) = nI 122 := rfl
theorem nl_130 : (130 : Int32) = nI 130 := rfl
theorem nl_144 : (144 : Int32) = nI 144 := rfl
theorem nl_160 : (160 : Int32) = nI 160 := rfl
theorem nl_240 : (240 : Int32) = nI 240 := rfl
theorem nl_241 : (241 : Int32) = nI 241 := rfl
theorem nl_255 : (255 : Int32) = nI 255 := rfl
theorem nl_256 : (256 : Int32) = nI 256 := rfl
theorem nl_400 : (400 : Int32) = nI 400 := rfl
theorem nl_800 : (800 : Int32) = nI 800 := rfl
theorem nl_900 : (900 : Int32) = nI 900 := rfl
theorem nl_999 : (999 : Int32) = nI 999 := rfl
theorem nl_1000 : (1000 : Int32) = nI 1000 := rfl
theorem nl_1001 : (1001 : Int32) = nI 1001 := rfl
theorem nl_1024 : (1024 : Int32) = nI 1024 := rfl
theorem nl_1103 : (1103 : Int32) = nI 1103 := rfl
theorem nl_1928 : (1928 : Int32) = nI 1928 := rfl
theorem nl_4321 : (4321 : Int32) = nI 4321 := rfl
theorem nl_5560 : (5560 : Int32) = nI 5560 := rfl
theorem nl_12345 : (12345 : Int32) = nI 12345 := rfl
theorem nl_1000000 : (1000000 : Int32) = nI 1000000 := rfl
theorem nl_1000003 : (1000003 : Int32) = nI 1000003 := rfl
theorem nl_252645135 : (252645135 : Int32) = nI 252645135 := rfl
theorem nl_858993459 : (858993459 : Int32) = nI 858993459 := rfl
theorem nl_1431655765 : (1431655765 : Int32) = nI 1431655765 := rfl
theorem nl_1000000000 : (1000000000 : Int32) = nI 1000000000 := rfl
theorem ll_0 : (0 : Int64) = lZ 0 := rfl
theorem ll_1 : (1 : Int64) = lZ 1 := rfl
theorem ll_2 : (2 : Int64) = lZ 2 := rfl
theorem ll_7 : (7 : Int64) = lZ 7 := rfl
theorem ll_8 : (8 : Int64) = lZ 8 := rfl
theorem ll_9 : (9 : Int64) = lZ 9 := rfl
theorem ll_10 : (10 : Int64) = lZ 10 := rfl
theorem ll_20 : (20 : Int64) = lZ 20 := rfl
theorem ll_23 : (23 : Int64) = lZ 23 := rfl
theorem ll_24 : (24 : Int64) = lZ 24 := rfl
theorem ll_26 : (26 : Int64) = lZ 26 := rfl
theorem ll_30 : (30 : Int64) = lZ 30 := rfl
theorem ll_32 : (32 : Int64) = lZ 32 := rfl
theorem ll_48 : (48 : Int64) = lZ 48 := rfl
theorem ll_96 : (96 : Int64) = lZ 96 := rfl
theorem ll_240 : (240 : Int64) = lZ 240 := rfl
theorem ll_256 : (256 : Int64) = lZ 256 := rfl
theorem ll_294 : (294 : Int64) = lZ 294 := rfl
theorem ll_498 : (498 : Int64) = lZ 498 := rfl
theorem ll_999 : (999 : Int64) = lZ 999 := rfl
theorem ll_1000 : (1000 : Int64) = lZ 1000 := rfl
theorem ll_1103 : (1103 : Int64) = lZ 1103 := rfl
theorem ll_1476 : (1476 : Int64) = lZ 1476 := rfl
theorem ll_12345 : (12345 : Int64) = lZ 12345 := rfl
theorem ll_14836 : (14836 : Int64) = lZ 14836 := rfl
theorem ll_65536 : (65536 : Int64) = lZ 65536 := rfl
theorem ll_1000000 : (1000000 : Int64) = lZ 1000000 := rfl
theorem ll_1000003 : (1000003 : Int64) = lZ 1000003 := rfl
theorem ll_1048576 : (1048576 : Int64) = lZ 1048576 := rfl
theorem ll_1000000000 : (1000000000 : Int64) = lZ 1000000000 := rfl
theorem n_neg (n : Nat) : -nI n = iZ (-(n : Int)) := by rw [n_Z, z_neg]
theorem z_an (z : Int) (n : Nat) : iZ z + nI n = iZ (z + n) := by rw [n_Z, z_add]
theorem z_na (z : Int) (n : Nat) : nI n + iZ z = iZ (n + z) := by rw [n_Z, z_add]
theorem z_sn (z : Int) (n : Nat) : iZ z - nI n = iZ (z - n) := by rw [n_Z, z_sub]
theorem z_ns (z : Int) (n : Nat) : nI n - iZ z = iZ (n - z) := by rw [n_Z, z_sub]
theorem z_mn (z : Int) (n : Nat) : iZ z * nI n = iZ (z * n) := by rw [n_Z, z_mul]
theorem z_nm (z : Int) (n : Nat) : nI n * iZ z = iZ (n * z) := by rw [n_Z, z_mul]
theorem L_add (a b : Int) : lZ a + lZ b = lZ (a + b) := (Int64.ofInt_add a b).symm
theorem L_sub (a b : Int) : lZ a - lZ b = lZ (a - b) := (Int64.ofInt_sub a b).symm
theorem L_mul (a b : Int) : lZ a * lZ b = lZ (a * b) := (Int64.ofInt_mul a b).symm
theorem L_neg (a : Int) : -lZ a = lZ (-a) := (Int64.ofInt_neg a).symm
theorem L_ti {z : Int} (h1 : -9223372036854775808 ≤ z) (h2 : z < 9223372036854775808) : (lZ z).toInt = z := Int64.toInt_ofInt_of_le h1 h2
theorem L_le {a b : Int} (a1 : -9223372036854775808 ≤ a) (a2 : a < 9223372036854775808) (b1 : -9223372036854775808 ≤ b) (b2 : b < 9223372036854775808) : (lZ a ≤ lZ b) = (a ≤ b) := by
  rw [Int64.le_iff_toInt_le, L_ti a1 a2, L_ti b1 b2]
theorem L_lt {a b : Int} (a1 : -9223372036854775808 ≤ a) (a2 : a < 9223372036854775808) (b1 : -9223372036854775808 ≤ b) (b2 : b < 9223372036854775808) : (lZ a < lZ b) = (a < b) := by
  rw [Int64.lt_iff_toInt_lt, L_ti a1 a2, L_ti b1 b2]
theorem L_eq {a b : Int} (a1 : -9223372036854775808 ≤ a) (a2 : a < 9223372036854775808) (b1 : -9223372036854775808 ≤ b) (b2 : b < 9223372036854775808) : (lZ a = lZ b) = (a = b) := by
  rw [← Int64.toInt_inj, L_ti a1 a2, L_ti b1 b2]
theorem L_i {z : Int} (h1 : -2147483648 ≤ z) (h2 : z < 2147483648) : (iZ z).toInt64 = lZ z := Int32.toInt64_ofInt h1 (by show z ≤ 2147483647; omega)
theorem L_x (x : Int32) : x.toInt64 = lZ x.toInt := by
  conv => lhs; rw [z_of x]
  exact L_i (Int32.le_toInt x) (Int32.toInt_lt x)
theorem L_n {n : Nat} (h : n < 2147483648) : (nI n).toInt64 = lZ n := by rw [L_x, n_ti h]
theorem L_I (z : Int) : (lZ z).toInt32 = iZ z := Int64.toInt32_ofInt
theorem L_of (x : Int64) : x = lZ x.toInt := (Int64.ofInt_toInt x).symm
theorem i_lo (x : Int32) : -2147483648 ≤ x.toInt := Int32.le_toInt x
theorem i_hi (x : Int32) : x.toInt < 2147483648 := Int32.toInt_lt x
theorem z_div {a b : Int} (a1 : -2147483648 < a) (a2 : a < 2147483648) (b1 : 0 < b) (b2 : b < 2147483648) : iZ a / iZ b = iZ (a.tdiv b) := by
  have h : (iZ a / iZ b).toInt = a.tdiv b := by
    rw [Int32.toInt_div_of_ne_left, z_ti (by omega) a2, z_ti (by omega) b2]
    intro e
    have := congrArg Int32.toInt e
    rw [z_ti (by omega) a2] at this
    exact absurd (this.trans (show Int32.minValue.toInt = -2147483648 from rfl)) (by omega)
  exact (z_of _).trans (by rw [h])
theorem n_div {a b : Nat} (ha : a < 2147483648) (h0 : 0 < b) (hb : b < 2147483648) : nI a / nI b = nI (a / b) := pk_div ha h0 hb
theorem n_rem {a b : Nat} (ha : a < 2147483648) (h0 : 0 < b) (hb : b < 2147483648) : nI a - nI a / nI b * nI b = nI (a % b) := pk_rem ha h0 hb
theorem leT {a b : Nat} (h : a ≤ b) (hb : b < 2147483648) : (nI a ≤ nI b) = True := by rw [n_le (by omega) hb]; exact eq_true h
theorem leF {a b : Nat} (h : b < a) (ha : a < 2147483648) : (nI a ≤ nI b) = False := by rw [n_le ha (by omega)]; exact eq_false (by omega)
theorem ltT {a b : Nat} (h : a < b) (hb : b < 2147483648) : (nI a < nI b) = True := by rw [n_lt (by omega) hb]; exact eq_true h
theorem ltF {a b : Nat} (h : b ≤ a) (ha : a < 2147483648) : (nI a < nI b) = False := by rw [n_lt ha (by omega)]; exact eq_false (by omega)
theorem eqT {a b : Nat} (h : a = b) : (nI a = nI b) = True := by rw [h]; exact eq_self _
theorem eqF {a b : Nat} (h : a ≠ b) (ha : a < 2147483648) (hb : b < 2147483648) : (nI a = nI b) = False := by rw [n_eq ha hb]; exact eq_false h
theorem kbT {i n : Nat} (h : i < n) (hi : i < 2147483648) : k_b (nI i) n = true := by rw [n_kb hi]; exact decide_eq_true h
theorem zleT {a b : Int} (h : a ≤ b) (a1 : -2147483648 ≤ a) (b2 : b < 2147483648) : (iZ a ≤ iZ b) = True := by rw [z_le a1 (by omega) (by omega) b2]; exact eq_true h
theorem zleF {a b : Int} (h : b < a) (a2 : a < 2147483648) (b1 : -2147483648 ≤ b) : (iZ a ≤ iZ b) = False := by rw [z_le (by omega) a2 b1 (by omega)]; exact eq_false (by omega)
theorem zltT {a b : Int} (h : a < b) (a1 : -2147483648 ≤ a) (b2 : b < 2147483648) : (iZ a < iZ b) = True := by rw [z_lt a1 (by omega) (by omega) b2]; exact eq_true h
theorem zltF {a b : Int} (h : b ≤ a) (a2 : a < 2147483648) (b1 : -2147483648 ≤ b) : (iZ a < iZ b) = False := by rw [z_lt (by omega) a2 b1 (by omega)]; exact eq_false (by omega)
theorem zeqF {a b : Int} (h : a ≠ b) (a1 : -2147483648 ≤ a) (a2 : a < 2147483648) (b1 : -2147483648 ≤ b) (b2 : b < 2147483648) : (iZ a = iZ b) = False := by rw [z_eq a1 a2 b1 b2]; exact eq_false h
theorem nzleT {a : Nat} {b : Int} (h : (a : Int) ≤ b) (b2 : b < 2147483648) : (nI a ≤ iZ b) = True := by rw [n_Z]; exact zleT h (by omega) b2
theorem nzleF {a : Nat} {b : Int} (h : b < (a : Int)) (a2 : a < 2147483648) (b1 : -2147483648 ≤ b) : (nI a ≤ iZ b) = False := by rw [n_Z]; exact zleF h (by omega) b1
theorem nzltT {a : Nat} {b : Int} (h : (a : Int) < b) (b2 : b < 2147483648) : (nI a < iZ b) = True := by rw [n_Z]; exact zltT h (by omega) b2
theorem nzltF {a : Nat} {b : Int} (h : b ≤ (a : Int)) (a2 : a < 2147483648) (b1 : -2147483648 ≤ b) : (nI a < iZ b) = False := by rw [n_Z]; exact zltF h (by omega) b1
theorem znleT {a : Int} {b : Nat} (h : a ≤ (b : Int)) (a1 : -2147483648 ≤ a) (b2 : b < 2147483648) : (iZ a ≤ nI b) = True := by rw [n_Z]; exact zleT h a1 (by omega)
theorem znleF {a : Int} {b : Nat} (h : (b : Int) < a) (a2 : a < 2147483648) : (iZ a ≤ nI b) = False := by rw [n_Z]; exact zleF h a2 (by omega)
theorem znltT {a : Int} {b : Nat} (h : a < (b : Int)) (a1 : -2147483648 ≤ a) (b2 : b < 2147483648) : (iZ a < nI b) = True := by rw [n_Z]; exact zltT h a1 (by omega)
theorem znltF {a : Int} {b : Nat} (h : (b : Int) ≤ a) (a2 : a < 2147483648) : (iZ a < nI b) = False := by rw [n_Z]; exact zltF h a2 (by omega)
theorem zneqF {a : Int} {b : Nat} (h : a ≠ (b : Int)) (a1 : -2147483648 ≤ a) (a2 : a < 2147483648) (b2 : b < 2147483648) : (iZ a = nI b) = False := by rw [n_Z]; exact zeqF h a1 a2 (by omega) (by omega)
theorem nzeqF {a : Nat} {b : Int} (h : (a : Int) ≠ b) (a2 : a < 2147483648) (b1 : -2147483648 ≤ b) (b2 : b < 2147483648) : (nI a = iZ b) = False := by rw [n_Z]; exact zeqF h (by omega) (by omega) b1 b2
theorem zeqT {a b : Int} (h : a = b) : (iZ a = iZ b) = True := by rw [h]; exact eq_self _
theorem zneqT {a : Int} {b : Nat} (h : a = (b : Int)) : (iZ a = nI b) = True := by rw [n_Z, h]; exact eq_self _
theorem nzeqT {a : Nat} {b : Int} (h : (a : Int) = b) : (nI a = iZ b) = True := by rw [n_Z, h]; exact eq_self _
theorem kb_0T : (kB true = nI 0) = False := by rw [kB_t]; exact eqF (by decide) (by decide) (by decide)
theorem kb_0F : (kB false = nI 0) = True := eq_self _
theorem kb_or (b : Bool) : (kB b = nI 0 ∨ kB b = nI 1) = True := eq_true (kB_01 b)
theorem n01_0 : (nI 0 = nI 0 ∨ nI 0 = nI 1) = True := eq_true (Or.inl rfl)
theorem n01_1 : (nI 1 = nI 0 ∨ nI 1 = nI 1) = True := eq_true (Or.inr rfl)
theorem vn_0 : vp_nar .boolean (nI 0) = nI 0 := rfl
theorem vn_1 : vp_nar .boolean (nI 1) = nI 1 := rfl
theorem vn_k (b : Bool) : vp_nar .boolean (kB b) = kB b := by cases b <;> rfl
