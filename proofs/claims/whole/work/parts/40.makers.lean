
def k_Af (F : Nat → Option va_E) (ad : Nat → Nat) (sz : Nat) : Nat → Prop := fun q => (∃ (k : Nat) (e : va_E), F k = some e ∧ ad k = q) ∨ sz ≤ q
abbrev k_Pf : Type := Option Value → (Nat → Option va_E) → (Nat → Nat) → Prop
def k_Qf (D : k_D) (Post : k_Pf) (A : Nat → Prop) : Array Value → State → Outcome → State → Prop := fun _ st o t => (∃ (v : Option Value) (F : Nat → Option va_E) (ad : Nat → Nat), o = .returned v ∧ Post v F ad ∧ k_Wd D.1 F ad A t.heap) ∧ va_F A st t
def k_Yf (rm : Room) (mc ms : Nat) (D : k_D) (F : Nat → Option va_E) (ad : Nat → Nat) (s : State) (A : Nat → Prop) (H : Heap) (locs : List Loc) (cells slots : Nat) : Prop :=
  k_Wd D.1 F ad A H ∧ va_S A s.heap H locs ∧ cells + mc ≤ rm.cells ∧ slots + ms ≤ rm.slots
def In (y : MethodName) (cc : ByteArray) (nL : Nat) (ret : Option FieldType) (rm : Room) (D : k_D) (p : Program) (l : Launch) (e : Env) (s : State) (m : MethodId) (a : Array Value) (b : List Frame) (me : Method) (c : Code) (A : Nat → Prop) (Q : State → Prop) (mc ms : Nat) (F : Nat → Option va_E) (ad : Nat → Nat) (pc : Nat) (ls : List (Nat × Value)) (st : List Value) : Prop :=
  ∀ (H : Heap) (locs : List Loc) (cells slots : Nat), k_Yf rm mc ms D F ad s A H locs cells slots → ∀ la : Array Slot, lv_has la nL ls → W p l e rm s m a b me c H locs cells slots Q (F0 m pc la st)
def Sf (y : MethodName) (cc : ByteArray) (nL : Nat) (ret : Option FieldType) (rm : Room) (D : k_D) (F : Nat → Option va_E) (ad : Nat → Nat) (args : List Value) (Post : k_Pf) : Prop :=
  ∀ (l : Launch) (sz : Nat), Met l y [.code y cc nL ret] rm (va_Pc args (fun U => U.heap.size = sz ∧ k_Wd D.1 F ad (fun _ => True) U.heap ∧ k_Kn D U ∧ k_Tb U ∧ k_Ot D (k_Af F ad sz) U U.heap)) (k_Qf D Post (k_Af F ad sz)) rm.cells rm.slots (k_Af F ad sz)
theorem Sf.of {y : MethodName} {cc : ByteArray} {nL : Nat} {ret : Option FieldType} {rm : Room} {D : k_D} {F : Nat → Option va_E} {ad : Nat → Nat} {args : List Value} {Post : k_Pf} (hn : plainName y.cls = true) (hlen : (lg_sl args).length ≤ nL)
    (h : ∀ (p : Program) (l : Launch) (e : Env) (s : State) (m : MethodId) (a : Array Value) (b : List Frame) (me : Method) (c : Code) (A : Nat → Prop), k_X y cc nL ret D p s m me c A → me.name = y.name → In y cc nL ret rm D p l e s m a b me c A (MQ b (k_Qf D Post A) a s rm.cells rm.slots A) rm.cells rm.slots F ad 0 (lv_args 0 args) []) : Sf y cc nL ret rm D F ad args Post := by
  intro l sz
  refine Met.ofW (cc := cc) (maxL := nL) (ret := ret) hn rfl ?_
  intro p e s m args' below meth c s₁ B hml hv
  obtain ⟨rfl, hsz, hW, hK, hT, hO⟩ := hv
  subst hsz
  have hl := lv_entry args (n := nL) hlen
  rw [lg_entry_eq]
  exact h p l e s m args.toArray below meth c (k_Af F ad s.heap.size) ⟨B.exec, B.bytes, hml, B.returns, B.notSynchronized, findClass_of_methodNamed B.named, hT, hK, fun q h => Or.inr h, hO⟩ (name_of_methodNamed B.named B.method).1 s.heap [] 0 0 ⟨hW.weaken (fun k e hk _ => Or.inl ⟨k, e, hk, rfl⟩), va_S.rf, by omega, by omega⟩ _ hl
theorem k_Wd.push {D : va_G} {F : Nat → Option va_E} {ad : Nat → Nat} {A : Nat → Prop} {H H1 : Heap} (h : k_Wd D F ad A H) {k1 : Nat} {e1 : va_E} (h0 : F k1 = none) (he : va_at D vwCl (H.size, e1) H1) (o1 : ∀ q : Nat, q < H.size → H1[q]? = H[q]?) (hA : A H.size) : k_Wd D (k_up F k1 (some e1)) (k_up ad k1 H.size) A H1 := by
  have old : ∀ (k : Nat) (f : va_E), k ≠ k1 → k_up F k1 (some e1) k = some f → F k = some f ∧ k_up ad k1 H.size k = ad k ∧ ad k < H.size := by
    intro k f hk hf
    have hf' : F k = some f := by
      unfold k_up at hf
      rw [if_neg hk] at hf
      exact hf
    exact ⟨hf', by unfold k_up; rw [if_neg hk], (h.1 k f hf').lt⟩
  have new : ∀ f : va_E, k_up F k1 (some e1) k1 = some f → f = e1 := fun f hf => by
    unfold k_up at hf
    rw [if_pos rfl] at hf
    exact (Option.some.inj hf).symm
  have newa : k_up ad k1 H.size k1 = H.size := by unfold k_up; rw [if_pos rfl]
  refine ⟨fun k f hk => ?_, fun j k f g hj hk e => ?_, fun k f hk => ?_⟩
  · by_cases q : k = k1
    · subst q
      rw [newa, new f hk]
      exact he
    · obtain ⟨a1, a2, a3⟩ := old k f q hk
      rw [a2]
      exact (h.1 k f a1).kept (o1 _ a3)
  · by_cases q : j = k1 <;> by_cases r : k = k1
    · rw [q, r]
    · obtain ⟨a1, a2, a3⟩ := old k g r hk
      rw [q, newa, a2] at e
      omega
    · obtain ⟨a1, a2, a3⟩ := old j f q hj
      rw [r, newa, a2] at e
      omega
    · obtain ⟨a1, a2, a3⟩ := old j f q hj
      obtain ⟨b1, b2, b3⟩ := old k g r hk
      rw [a2, b2] at e
      exact h.2.1 j k f g a1 b1 e
  · by_cases q : k = k1
    · rw [q, newa]
      exact hA
    · obtain ⟨a1, a2, a3⟩ := old k f q hk
      rw [a2]
      exact h.2.2 k f a1
section RI
variable {y : MethodName} {cc : ByteArray} {nL : Nat} {ret : Option FieldType} {rm : Room} {D : k_D} {p : Program} {l : Launch} {e : Env} {s : State} {m : MethodId} {a : Array Value} {b : List Frame} {me : Method} {c : Code} {A : Nat → Prop} {Q : State → Prop} {mc ms : Nat} {F F' : Nat → Option va_E} {ad : Nat → Nat} {pc : Nat} {ls : List (Nat × Value)} {st : List Value}
theorem i_sub {ls' : List (Nat × Value)} (ks : List Nat) (h : lv_pick ls ks = ls') (k : In y cc nL ret rm D p l e s m a b me c A Q mc ms F ad pc ls' st) : In y cc nL ret rm D p l e s m a b me c A Q mc ms F ad pc ls st := fun H lo cl sl Y la hl => k H lo cl sl Y la (lv_sub hl ks h)
theorem i_vret {Post : k_Pf} (X : k_X y cc nL ret D p s m me c A) (hr : ret = none) (d : decode cc pc = .ok (.return_, 1)) (hP : Post none F ad) : In y cc nL ret rm D p l e s m a b me c A (MQ b (k_Qf D Post A) a s rm.cells rm.slots A) mc ms F ad pc ls [] := by
  intro H lo cl sl Y la hl
  refine W.widen (k := rm.cells) (n := rm.slots) (by have := Y.2.2.1; omega) (by have := Y.2.2.2; omega) ?_
  exact W.vret X.1 X.2.1 (X.2.2.2.1.trans hr) (fun t ht hW => ⟨⟨_, F, ad, rfl, hP, by rw [ht]; exact Y.1⟩, Y.2.1.F ht⟩) Y.2.1.2.2 d X.2.2.2.2.1
theorem i_objInit {i a0 : Nat} (X : k_X y cc nL ret D p s m me c A) (w1 : k_in (.methodLink y.cls i objectInit)) (w2 : k_in (.instanceMethod objectInit)) (w3 : k_in (.code objectInit ⟨#[0xb1]⟩ 1 none)) (hR : 1 ≤ rm.frames ∧ (st.map fun v => v.category).sum + 12 ≤ rm.locals) (d : decode cc pc = .ok (.invokespecial i, 3)) (k : In y cc nL ret rm D p l e s m a b me c A Q mc ms F ad (pc + 3) ls st) : In y cc nL ret rm D p l e s m a b me c A Q mc ms F ad pc ls (.ref a0 :: st) := by
  intro H lo cl sl Y la hl
  exact W.objInit X.1 X.2.1 X.own (w1.use X.tb) (w2.use X.tb) (w3.use X.tb) rfl (hl.1.trans X.2.2.1.symm) rfl d hR.1 (by simpa [F0, JFrame.monitorRoom] using hR.2) (k H lo cl sl Y la hl)
theorem i_new {ci N i : Nat} {C : String} {T : u_T} {Ty : Nat → FieldType} {fs : List Value} (X : k_X y cc nL ret D p s m me c A) (hc : k_cls ci C T N Ty) (k1 : Nat) (h0 : F k1 = none) (hfs : ∀ j, j < N → defaultValue (Ty j) = vp_V fs j) (w1 : k_in (.classLink y.cls i C)) (w2 : k_in (.instantiable C N)) (w3 : k_in (.initialized C)) (hmc : 1 ≤ mc) (hms : N ≤ ms) (d : decode cc pc = .ok (.new i, 3))
    (k : ∀ q, In y cc nL ret rm D p l e s m a b me c A Q (mc - 1) (ms - N) (k_up F k1 (some (.inr (ci, fs)))) (k_up ad k1 q) (pc + 3) ls (.ref q :: st)) : In y cc nL ret rm D p l e s m a b me c A Q mc ms F ad pc ls st := by
  intro H lo cl sl Y la hl
  have hKn := X.kn.1 ci _ hc.1
  refine W.newcK X.1 X.2.1 X.own (w1.use X.tb) (w2.use X.tb) (w3.use X.tb) rfl d (by have := Y.2.2.1; omega) (by have := Y.2.2.2; omega) hKn.2.1 rfl fun H1 kC hkC e1 z1 o1 => ?_
  refine k H.size H1 lo (cl + 1) (sl + N) ⟨k_Wd.push Y.1 h0 ?_ o1 (X.new _ Y.2.1.1), ⟨Nat.le_trans Y.2.1.1 (by omega), fun x g1 g2 => (o1 x (Nat.lt_of_lt_of_le g1 Y.2.1.1)).trans (Y.2.1.2.1 x g1 g2), Y.2.1.2.2⟩, by have := Y.2.2.1; omega, by have := Y.2.2.2; omega⟩ la hl
  exact ⟨_, hc.1, (u_born Ty (hc.hts X.tb (a := a)) (fun w h => h) hKn hkC e1 hc.2.2.1).to hfs⟩
theorem i_newa {at_ : ArrayType} {n : Int32} {N : Nat} {a0 : vp_A} (X : k_X y cc nL ret D p s m me c A) (t0 : Nat) {cA : ClassId} {ty : FieldType} (ht : (k_tys D)[t0]? = some (cA, ty)) (hty : newarray.typeOf at_ = ty) (hnm : va_RA s cA ty → s.vm.findClass ("[" ++ ty.toString) = some cA) (k1 : Nat) (h0 : F k1 = none) (hcell : ∀ cA : ClassId, vp_cell cA a0 = arrV cA N (fun _ => defaultValue ty)) (w1 : k_in (.arrayClass ty)) (hn : ¬ n < 0) (hN : n.toNatClampNeg = N) (hb2 : N * componentBytes ty ≤ 536870912) (hmc : 1 ≤ mc) (hms : N ≤ ms) (d : decode cc pc = .ok (.newarray at_, 2))
    (k : ∀ q, In y cc nL ret rm D p l e s m a b me c A Q (mc - 1) (ms - N) (k_up F k1 (some (.inl (cA, a0)))) (k_up ad k1 q) (pc + 2) ls (.ref q :: st)) : In y cc nL ret rm D p l e s m a b me c A Q mc ms F ad pc ls (.int n :: st) := by
  subst hty
  intro H lo cl sl Y la hl
  refine va_newaK X.1 X.2.1 (w1.use X.tb) rfl d rfl hn hN hb2 (by have := Y.2.2.1; omega) (by have := Y.2.2.2; omega) rfl fun H1 cB e1 z1 o1 hAr hNm => ?_
  have hcc : cB = cA := Option.some.inj (hNm.symm.trans (hnm (X.kn.2 t0 _ ht).2))
  subst hcc
  refine k H.size H1 lo (cl + 1) (sl + N) ⟨k_Wd.push Y.1 h0 ?_ o1 (X.new _ Y.2.1.1), ⟨Nat.le_trans Y.2.1.1 (by omega), fun x g1 g2 => (o1 x (Nat.lt_of_lt_of_le g1 Y.2.1.1)).trans (Y.2.1.2.1 x g1 g2), Y.2.1.2.2⟩, by have := Y.2.2.1; omega, by have := Y.2.2.2; omega⟩ la hl
  show H1[H.size]? = some (vp_cell _ _)
  rw [hcell]
  exact e1
theorem i_anewI {i : Nat} {n : Int32} {N : Nat} (X : k_X y cc nL ret D p s m me c A) (k1 : Nat) (h0 : F k1 = none) (w1 : k_in (.classLink y.cls i (FieldType.array .int).toString)) (hn : ¬ n < 0) (hN : n.toNatClampNeg = N) (hb2 : N * 4 ≤ 536870912) (hmc : 1 ≤ mc) (hms : N ≤ ms) (d : decode cc pc = .ok (.anewarray i, 3))
    (k : ∀ q, In y cc nL ret rm D p l e s m a b me c A Q (mc - 1) (ms - N) (k_up F k1 (some (.inl (D.2.1 4, N, .inr (.inr (.inr (.inr (fun _ => none)))))))) (k_up ad k1 q) (pc + 3) ls (.ref q :: st)) : In y cc nL ret rm D p l e s m a b me c A Q mc ms F ad pc ls (.int n :: st) := by
  subst hN
  intro H lo cl sl Y la hl
  obtain ⟨kA0, g1, g2, g3, g4, g5⟩ := X.kk.2
  refine W.anewA X.1 X.2.1 X.own (w1.use X.tb) (over_moved (Vm.Alike.refl s.vm) g3) rfl d rfl hn hb2 (by have := Y.2.2.1; omega) (by have := Y.2.2.2; omega) fun cB kB comp f1 f2 f3 f4 => ?_
  have hcc : cB = D.2.1 4 := Option.some.inj (f1.symm.trans (X.kn.2 4 _ rfl).2)
  subst hcc
  generalize hH1 : H.push ({ cls := D.2.1 4, slots := Array.replicate n.toNatClampNeg .null, vm := .none } : Cell) = H1
  have z1 : H1.size = H.size + 1 := by rw [← hH1, Array.size_push]
  have e1 : H1[H.size]? = some (arrV (D.2.1 4) n.toNatClampNeg (fun _ => .null)) := by rw [← hH1, Array.getElem?_push_size, ← arrV_new]
  have o1 : ∀ q : Nat, q < H.size → H1[q]? = H[q]? := fun q hq => by rw [← hH1, Array.getElem?_push, if_neg (Nat.ne_of_lt hq)]
  exact k H.size H1 lo (cl + 1) (sl + n.toNatClampNeg) ⟨k_Wd.push Y.1 h0 e1 o1 (X.new _ Y.2.1.1), ⟨Nat.le_trans Y.2.1.1 (by omega), fun x g1 g2 => (o1 x (Nat.lt_of_lt_of_le g1 Y.2.1.1)).trans (Y.2.1.2.1 x g1 g2), Y.2.1.2.2⟩, by have := Y.2.2.1; omega, by have := Y.2.2.2; omega⟩ la hl
theorem i_anewV {i : Nat} {n : Int32} {N : Nat} (X : k_X y cc nL ret D p s m me c A) (k1 : Nat) (h0 : F k1 = none) (w1 : k_in (.classLink y.cls i RX10)) (hn : ¬ n < 0) (hN : n.toNatClampNeg = N) (hb2 : N * 4 ≤ 536870912) (hmc : 1 ≤ mc) (hms : N ≤ ms) (d : decode cc pc = .ok (.anewarray i, 3))
    (k : ∀ q, In y cc nL ret rm D p l e s m a b me c A Q (mc - 1) (ms - N) (k_up F k1 (some (.inl (D.2.1 5, N, .inr (.inr (.inr (.inr (fun _ => none)))))))) (k_up ad k1 q) (pc + 3) ls (.ref q :: st)) : In y cc nL ret rm D p l e s m a b me c A Q mc ms F ad pc ls (.int n :: st) := by
  subst hN
  intro H lo cl sl Y la hl
  obtain ⟨kA0, g1, g2, g3, g4, g5⟩ := X.kk.2
  refine W.anew X.1 X.2.1 X.own (w1.use X.tb) (va_AO.use (A := a) g4) rfl d rfl hn hb2 (by have := Y.2.2.1; omega) (by have := Y.2.2.2; omega) fun cB kB comp f1 f2 f3 f4 => ?_
  obtain ⟨-, -, -, -, -, hname⟩ := (X.kn.2 5 _ rfl).2
  have hcc : cB = D.2.1 5 := Option.some.inj (f1.symm.trans hname)
  subst hcc
  generalize hH1 : H.push ({ cls := D.2.1 5, slots := Array.replicate n.toNatClampNeg .null, vm := .none } : Cell) = H1
  have z1 : H1.size = H.size + 1 := by rw [← hH1, Array.size_push]
  have e1 : H1[H.size]? = some (arrV (D.2.1 5) n.toNatClampNeg (fun _ => .null)) := by rw [← hH1, Array.getElem?_push_size, ← arrV_new]
  have o1 : ∀ q : Nat, q < H.size → H1[q]? = H[q]? := fun q hq => by rw [← hH1, Array.getElem?_push, if_neg (Nat.ne_of_lt hq)]
  exact k H.size H1 lo (cl + 1) (sl + n.toNatClampNeg) ⟨k_Wd.push Y.1 h0 e1 o1 (X.new _ Y.2.1.1), ⟨Nat.le_trans Y.2.1.1 (by omega), fun x g1 g2 => (o1 x (Nat.lt_of_lt_of_le g1 Y.2.1.1)).trans (Y.2.1.2.1 x g1 g2), Y.2.1.2.2⟩, by have := Y.2.2.1; omega, by have := Y.2.2.2; omega⟩ la hl
theorem i_iconst (X : k_X y cc nL ret D p s m me c A) {n : Int} {v : Int32} (d : decode cc pc = .ok (.iconst n, 1)) (hv : Int32.ofInt n = v) (k : In y cc nL ret rm D p l e s m a b me c A Q mc ms F ad (pc + 1) ls (.int v :: st)) : In y cc nL ret rm D p l e s m a b me c A Q mc ms F ad pc ls st := fun H lo cl sl Y la hl => lv_iconst X.1 X.2.1 d hv (k H lo cl sl Y la hl)
theorem i_bipush (X : k_X y cc nL ret D p s m me c A) {n : Int} {v : Int32} (d : decode cc pc = .ok (.bipush n, 2)) (hv : (Int8.ofInt n).toInt32 = v) (k : In y cc nL ret rm D p l e s m a b me c A Q mc ms F ad (pc + 2) ls (.int v :: st)) : In y cc nL ret rm D p l e s m a b me c A Q mc ms F ad pc ls st := fun H lo cl sl Y la hl => lv_bipush X.1 X.2.1 d hv (k H lo cl sl Y la hl)
theorem i_sipush (X : k_X y cc nL ret D p s m me c A) {n : Int} {v : Int32} (d : decode cc pc = .ok (.sipush n, 3)) (hv : (Int16.ofInt n).toInt32 = v) (k : In y cc nL ret rm D p l e s m a b me c A Q mc ms F ad (pc + 3) ls (.int v :: st)) : In y cc nL ret rm D p l e s m a b me c A Q mc ms F ad pc ls st := fun H lo cl sl Y la hl => lv_sipush X.1 X.2.1 d hv (k H lo cl sl Y la hl)
theorem i_lconst (X : k_X y cc nL ret D p s m me c A) {n : Fin 2} {v : Int64} (d : decode cc pc = .ok (.lconst n, 1)) (hv : Int64.ofNat (n : Nat) = v) (k : In y cc nL ret rm D p l e s m a b me c A Q mc ms F ad (pc + 1) ls (.long v :: st)) : In y cc nL ret rm D p l e s m a b me c A Q mc ms F ad pc ls st := fun H lo cl sl Y la hl => lv_lconst X.1 X.2.1 d hv (k H lo cl sl Y la hl)
theorem i_null (X : k_X y cc nL ret D p s m me c A) (d : decode cc pc = .ok (.aconst_null, 1)) (k : In y cc nL ret rm D p l e s m a b me c A Q mc ms F ad (pc + 1) ls (.null :: st)) : In y cc nL ret rm D p l e s m a b me c A Q mc ms F ad pc ls st := fun H lo cl sl Y la hl => lv_null X.1 X.2.1 d (k H lo cl sl Y la hl)
theorem i_ldc (X : k_X y cc nL ret D p s m me c A) {i : Nat} {v : Int32} (w : k_in (.constant y.cls i v)) (d : decode cc pc = .ok (.ldc i, 2)) (k : In y cc nL ret rm D p l e s m a b me c A Q mc ms F ad (pc + 2) ls (.int v :: st)) : In y cc nL ret rm D p l e s m a b me c A Q mc ms F ad pc ls st := fun H lo cl sl Y la hl => lv_ldc X.1 X.2.1 X.own (w.use X.tb) d (k H lo cl sl Y la hl)
theorem i_ldcw (X : k_X y cc nL ret D p s m me c A) {i : Nat} {v : Int32} (w : k_in (.constant y.cls i v)) (d : decode cc pc = .ok (.ldc_w i, 3)) (k : In y cc nL ret rm D p l e s m a b me c A Q mc ms F ad (pc + 3) ls (.int v :: st)) : In y cc nL ret rm D p l e s m a b me c A Q mc ms F ad pc ls st := fun H lo cl sl Y la hl => lv_ldcw X.1 X.2.1 X.own (w.use X.tb) d (k H lo cl sl Y la hl)
theorem i_ldc2 (X : k_X y cc nL ret D p s m me c A) {i : Nat} {v : Int64} (w : k_in (.constantLong y.cls i v)) (d : decode cc pc = .ok (.ldc2_w i, 3)) (k : In y cc nL ret rm D p l e s m a b me c A Q mc ms F ad (pc + 3) ls (.long v :: st)) : In y cc nL ret rm D p l e s m a b me c A Q mc ms F ad pc ls st := fun H lo cl sl Y la hl => lv_ldc2 X.1 X.2.1 X.own (w.use X.tb) d (k H lo cl sl Y la hl)
theorem i_iload_n (X : k_X y cc nL ret D p s m me c A) (q : Nat) {f : Fin 4} {i : Nat} {x : Int32} (d : decode cc pc = .ok (.iload_n f, 1)) (hi : (f : Nat) = i) (hq : ls[q]? = some (i, .int x)) (k : In y cc nL ret rm D p l e s m a b me c A Q mc ms F ad (pc + 1) ls (.int x :: st)) : In y cc nL ret rm D p l e s m a b me c A Q mc ms F ad pc ls st := fun H lo cl sl Y la hl => lv_iload_n X.1 X.2.1 d hi (lv_at hl q hq) (k H lo cl sl Y la hl)
theorem i_iload (X : k_X y cc nL ret D p s m me c A) (q : Nat) {i : Nat} {x : Int32} (d : decode cc pc = .ok (.iload i, 2)) (hq : ls[q]? = some (i, .int x)) (k : In y cc nL ret rm D p l e s m a b me c A Q mc ms F ad (pc + 2) ls (.int x :: st)) : In y cc nL ret rm D p l e s m a b me c A Q mc ms F ad pc ls st := fun H lo cl sl Y la hl => lv_iload X.1 X.2.1 d (lv_at hl q hq) (k H lo cl sl Y la hl)
theorem i_lload_n (X : k_X y cc nL ret D p s m me c A) (q : Nat) {f : Fin 4} {i : Nat} {x : Int64} (d : decode cc pc = .ok (.lload_n f, 1)) (hi : (f : Nat) = i) (hq : ls[q]? = some (i, .long x)) (k : In y cc nL ret rm D p l e s m a b me c A Q mc ms F ad (pc + 1) ls (.long x :: st)) : In y cc nL ret rm D p l e s m a b me c A Q mc ms F ad pc ls st := fun H lo cl sl Y la hl => lv_lload_n X.1 X.2.1 d hi (lv_at hl q hq) (k H lo cl sl Y la hl)
theorem i_lload (X : k_X y cc nL ret D p s m me c A) (q : Nat) {i : Nat} {x : Int64} (d : decode cc pc = .ok (.lload i, 2)) (hq : ls[q]? = some (i, .long x)) (k : In y cc nL ret rm D p l e s m a b me c A Q mc ms F ad (pc + 2) ls (.long x :: st)) : In y cc nL ret rm D p l e s m a b me c A Q mc ms F ad pc ls st := fun H lo cl sl Y la hl => lv_lload X.1 X.2.1 d (lv_at hl q hq) (k H lo cl sl Y la hl)
theorem i_aload_n (X : k_X y cc nL ret D p s m me c A) (q : Nat) {f : Fin 4} {i : Nat} {x : Nat} (d : decode cc pc = .ok (.aload_n f, 1)) (hi : (f : Nat) = i) (hq : ls[q]? = some (i, .ref x)) (k : In y cc nL ret rm D p l e s m a b me c A Q mc ms F ad (pc + 1) ls (.ref x :: st)) : In y cc nL ret rm D p l e s m a b me c A Q mc ms F ad pc ls st := fun H lo cl sl Y la hl => lv_aload_n X.1 X.2.1 d hi (lv_at hl q hq) (k H lo cl sl Y la hl)
theorem i_aload (X : k_X y cc nL ret D p s m me c A) (q : Nat) {i : Nat} {x : Nat} (d : decode cc pc = .ok (.aload i, 2)) (hq : ls[q]? = some (i, .ref x)) (k : In y cc nL ret rm D p l e s m a b me c A Q mc ms F ad (pc + 2) ls (.ref x :: st)) : In y cc nL ret rm D p l e s m a b me c A Q mc ms F ad pc ls st := fun H lo cl sl Y la hl => lv_aload X.1 X.2.1 d (lv_at hl q hq) (k H lo cl sl Y la hl)
theorem i_aload_nN (X : k_X y cc nL ret D p s m me c A) (q : Nat) {f : Fin 4} {i : Nat} (d : decode cc pc = .ok (.aload_n f, 1)) (hi : (f : Nat) = i) (hq : ls[q]? = some (i, .null)) (k : In y cc nL ret rm D p l e s m a b me c A Q mc ms F ad (pc + 1) ls (.null :: st)) : In y cc nL ret rm D p l e s m a b me c A Q mc ms F ad pc ls st := fun H lo cl sl Y la hl => lv_aload_nN X.1 X.2.1 d hi (lv_at hl q hq) (k H lo cl sl Y la hl)
theorem i_aloadN (X : k_X y cc nL ret D p s m me c A) (q : Nat) {i : Nat} (d : decode cc pc = .ok (.aload i, 2)) (hq : ls[q]? = some (i, .null)) (k : In y cc nL ret rm D p l e s m a b me c A Q mc ms F ad (pc + 2) ls (.null :: st)) : In y cc nL ret rm D p l e s m a b me c A Q mc ms F ad pc ls st := fun H lo cl sl Y la hl => lv_aloadN X.1 X.2.1 d (lv_at hl q hq) (k H lo cl sl Y la hl)
theorem i_istore_n (X : k_X y cc nL ret D p s m me c A) {f : Fin 4} {i : Nat} {x : Int32} {lv : List (Nat × Value)} (d : decode cc pc = .ok (.istore_n f, 1)) (hi : (f : Nat) = i) (hn : i < nL) (hf : (i, Value.int x) :: ls.filter (fun q => !(q.1 == i) && !(q.1 + 1 == i && q.2.category == 2)) = lv) (k : In y cc nL ret rm D p l e s m a b me c A Q mc ms F ad (pc + 1) lv st) : In y cc nL ret rm D p l e s m a b me c A Q mc ms F ad pc ls (.int x :: st) := fun H lo cl sl Y la hl => lv_istore_n X.1 X.2.1 d hi hl hn hf (fun la hl => k H lo cl sl Y la hl)
theorem i_istore (X : k_X y cc nL ret D p s m me c A) {i : Nat} {x : Int32} {lv : List (Nat × Value)} (d : decode cc pc = .ok (.istore i, 2)) (hn : i < nL) (hf : (i, Value.int x) :: ls.filter (fun q => !(q.1 == i) && !(q.1 + 1 == i && q.2.category == 2)) = lv) (k : In y cc nL ret rm D p l e s m a b me c A Q mc ms F ad (pc + 2) lv st) : In y cc nL ret rm D p l e s m a b me c A Q mc ms F ad pc ls (.int x :: st) := fun H lo cl sl Y la hl => lv_istore X.1 X.2.1 d hl hn hf (fun la hl => k H lo cl sl Y la hl)
theorem i_lstore_n (X : k_X y cc nL ret D p s m me c A) {f : Fin 4} {i : Nat} {x : Int64} {lv : List (Nat × Value)} (d : decode cc pc = .ok (.lstore_n f, 1)) (hi : (f : Nat) = i) (hn : i + 1 < nL) (hf : (i, Value.long x) :: ls.filter (fun q => !(q.1 == i) && (!(q.1 == i + 1) && !(q.1 + 1 == i && q.2.category == 2))) = lv) (k : In y cc nL ret rm D p l e s m a b me c A Q mc ms F ad (pc + 1) lv st) : In y cc nL ret rm D p l e s m a b me c A Q mc ms F ad pc ls (.long x :: st) := fun H lo cl sl Y la hl => lv_lstore_n X.1 X.2.1 d hi hl hn hf (fun la hl => k H lo cl sl Y la hl)
theorem i_lstore (X : k_X y cc nL ret D p s m me c A) {i : Nat} {x : Int64} {lv : List (Nat × Value)} (d : decode cc pc = .ok (.lstore i, 2)) (hn : i + 1 < nL) (hf : (i, Value.long x) :: ls.filter (fun q => !(q.1 == i) && (!(q.1 == i + 1) && !(q.1 + 1 == i && q.2.category == 2))) = lv) (k : In y cc nL ret rm D p l e s m a b me c A Q mc ms F ad (pc + 2) lv st) : In y cc nL ret rm D p l e s m a b me c A Q mc ms F ad pc ls (.long x :: st) := fun H lo cl sl Y la hl => lv_lstore X.1 X.2.1 d hl hn hf (fun la hl => k H lo cl sl Y la hl)
theorem i_astore_n (X : k_X y cc nL ret D p s m me c A) {f : Fin 4} {i : Nat} {x : Nat} {lv : List (Nat × Value)} (d : decode cc pc = .ok (.astore_n f, 1)) (hi : (f : Nat) = i) (hn : i < nL) (hf : (i, Value.ref x) :: ls.filter (fun q => !(q.1 == i) && !(q.1 + 1 == i && q.2.category == 2)) = lv) (k : In y cc nL ret rm D p l e s m a b me c A Q mc ms F ad (pc + 1) lv st) : In y cc nL ret rm D p l e s m a b me c A Q mc ms F ad pc ls (.ref x :: st) := fun H lo cl sl Y la hl => lv_astore_n X.1 X.2.1 d hi hl hn hf (fun la hl => k H lo cl sl Y la hl)
theorem i_astore (X : k_X y cc nL ret D p s m me c A) {i : Nat} {x : Nat} {lv : List (Nat × Value)} (d : decode cc pc = .ok (.astore i, 2)) (hn : i < nL) (hf : (i, Value.ref x) :: ls.filter (fun q => !(q.1 == i) && !(q.1 + 1 == i && q.2.category == 2)) = lv) (k : In y cc nL ret rm D p l e s m a b me c A Q mc ms F ad (pc + 2) lv st) : In y cc nL ret rm D p l e s m a b me c A Q mc ms F ad pc ls (.ref x :: st) := fun H lo cl sl Y la hl => lv_astore X.1 X.2.1 d hl hn hf (fun la hl => k H lo cl sl Y la hl)
theorem i_astore_nN (X : k_X y cc nL ret D p s m me c A) {f : Fin 4} {i : Nat} {lv : List (Nat × Value)} (d : decode cc pc = .ok (.astore_n f, 1)) (hi : (f : Nat) = i) (hn : i < nL) (hf : (i, Value.null) :: ls.filter (fun q => !(q.1 == i) && !(q.1 + 1 == i && q.2.category == 2)) = lv) (k : In y cc nL ret rm D p l e s m a b me c A Q mc ms F ad (pc + 1) lv st) : In y cc nL ret rm D p l e s m a b me c A Q mc ms F ad pc ls (.null :: st) := fun H lo cl sl Y la hl => lv_astore_nN X.1 X.2.1 d hi hl hn hf (fun la hl => k H lo cl sl Y la hl)
theorem i_astoreN (X : k_X y cc nL ret D p s m me c A) {i : Nat} {lv : List (Nat × Value)} (d : decode cc pc = .ok (.astore i, 2)) (hn : i < nL) (hf : (i, Value.null) :: ls.filter (fun q => !(q.1 == i) && !(q.1 + 1 == i && q.2.category == 2)) = lv) (k : In y cc nL ret rm D p l e s m a b me c A Q mc ms F ad (pc + 2) lv st) : In y cc nL ret rm D p l e s m a b me c A Q mc ms F ad pc ls (.null :: st) := fun H lo cl sl Y la hl => lv_astoreN X.1 X.2.1 d hl hn hf (fun la hl => k H lo cl sl Y la hl)
theorem i_iinc (X : k_X y cc nL ret D p s m me c A) {i q : Nat} {n : Int} {x v : Int32} {lv : List (Nat × Value)} (d : decode cc pc = .ok (.iinc i n, 3)) (hq : ls[q]? = some (i, .int x)) (hv : x + Int32.ofInt n = v) (hn : i < nL) (hf : (i, Value.int v) :: ls.filter (fun q => !(q.1 == i) && !(q.1 + 1 == i && q.2.category == 2)) = lv) (k : In y cc nL ret rm D p l e s m a b me c A Q mc ms F ad (pc + 3) lv st) : In y cc nL ret rm D p l e s m a b me c A Q mc ms F ad pc ls st := fun H lo cl sl Y la hl => lv_iinc X.1 X.2.1 d hl hq hv hn hf (fun la hl => k H lo cl sl Y la hl)
theorem i_iadd (X : k_X y cc nL ret D p s m me c A) {x w : Int32} (d : decode cc pc = .ok (.iadd, 1)) (k : In y cc nL ret rm D p l e s m a b me c A Q mc ms F ad (pc + 1) ls (.int (x + w) :: st)) : In y cc nL ret rm D p l e s m a b me c A Q mc ms F ad pc ls (.int w :: .int x :: st) := fun H lo cl sl Y la hl => lv_iadd X.1 X.2.1 d (k H lo cl sl Y la hl)
theorem i_isub (X : k_X y cc nL ret D p s m me c A) {x w : Int32} (d : decode cc pc = .ok (.isub, 1)) (k : In y cc nL ret rm D p l e s m a b me c A Q mc ms F ad (pc + 1) ls (.int (x - w) :: st)) : In y cc nL ret rm D p l e s m a b me c A Q mc ms F ad pc ls (.int w :: .int x :: st) := fun H lo cl sl Y la hl => lv_isub X.1 X.2.1 d (k H lo cl sl Y la hl)
theorem i_imul (X : k_X y cc nL ret D p s m me c A) {x w : Int32} (d : decode cc pc = .ok (.imul, 1)) (k : In y cc nL ret rm D p l e s m a b me c A Q mc ms F ad (pc + 1) ls (.int (x * w) :: st)) : In y cc nL ret rm D p l e s m a b me c A Q mc ms F ad pc ls (.int w :: .int x :: st) := fun H lo cl sl Y la hl => lv_imul X.1 X.2.1 d (k H lo cl sl Y la hl)
theorem i_iand (X : k_X y cc nL ret D p s m me c A) {x w : Int32} (d : decode cc pc = .ok (.iand, 1)) (k : In y cc nL ret rm D p l e s m a b me c A Q mc ms F ad (pc + 1) ls (.int (x &&& w) :: st)) : In y cc nL ret rm D p l e s m a b me c A Q mc ms F ad pc ls (.int w :: .int x :: st) := fun H lo cl sl Y la hl => lv_iand X.1 X.2.1 d (k H lo cl sl Y la hl)
theorem i_ior (X : k_X y cc nL ret D p s m me c A) {x w : Int32} (d : decode cc pc = .ok (.ior, 1)) (k : In y cc nL ret rm D p l e s m a b me c A Q mc ms F ad (pc + 1) ls (.int (x ||| w) :: st)) : In y cc nL ret rm D p l e s m a b me c A Q mc ms F ad pc ls (.int w :: .int x :: st) := fun H lo cl sl Y la hl => lv_ior X.1 X.2.1 d (k H lo cl sl Y la hl)
theorem i_ixor (X : k_X y cc nL ret D p s m me c A) {x w : Int32} (d : decode cc pc = .ok (.ixor, 1)) (k : In y cc nL ret rm D p l e s m a b me c A Q mc ms F ad (pc + 1) ls (.int (x ^^^ w) :: st)) : In y cc nL ret rm D p l e s m a b me c A Q mc ms F ad pc ls (.int w :: .int x :: st) := fun H lo cl sl Y la hl => lv_ixor X.1 X.2.1 d (k H lo cl sl Y la hl)
theorem i_ishl (X : k_X y cc nL ret D p s m me c A) {x w : Int32} (d : decode cc pc = .ok (.ishl, 1)) (k : In y cc nL ret rm D p l e s m a b me c A Q mc ms F ad (pc + 1) ls (.int (x <<< (w &&& 31)) :: st)) : In y cc nL ret rm D p l e s m a b me c A Q mc ms F ad pc ls (.int w :: .int x :: st) := fun H lo cl sl Y la hl => lv_ishl X.1 X.2.1 d (k H lo cl sl Y la hl)
theorem i_ishr (X : k_X y cc nL ret D p s m me c A) {x w : Int32} (d : decode cc pc = .ok (.ishr, 1)) (k : In y cc nL ret rm D p l e s m a b me c A Q mc ms F ad (pc + 1) ls (.int (x >>> (w &&& 31)) :: st)) : In y cc nL ret rm D p l e s m a b me c A Q mc ms F ad pc ls (.int w :: .int x :: st) := fun H lo cl sl Y la hl => lv_ishr X.1 X.2.1 d (k H lo cl sl Y la hl)
theorem i_ladd (X : k_X y cc nL ret D p s m me c A) {x w : Int64} (d : decode cc pc = .ok (.ladd, 1)) (k : In y cc nL ret rm D p l e s m a b me c A Q mc ms F ad (pc + 1) ls (.long (x + w) :: st)) : In y cc nL ret rm D p l e s m a b me c A Q mc ms F ad pc ls (.long w :: .long x :: st) := fun H lo cl sl Y la hl => lv_ladd X.1 X.2.1 d (k H lo cl sl Y la hl)
theorem i_lsub (X : k_X y cc nL ret D p s m me c A) {x w : Int64} (d : decode cc pc = .ok (.lsub, 1)) (k : In y cc nL ret rm D p l e s m a b me c A Q mc ms F ad (pc + 1) ls (.long (x - w) :: st)) : In y cc nL ret rm D p l e s m a b me c A Q mc ms F ad pc ls (.long w :: .long x :: st) := fun H lo cl sl Y la hl => lv_lsub X.1 X.2.1 d (k H lo cl sl Y la hl)
theorem i_lmul (X : k_X y cc nL ret D p s m me c A) {x w : Int64} (d : decode cc pc = .ok (.lmul, 1)) (k : In y cc nL ret rm D p l e s m a b me c A Q mc ms F ad (pc + 1) ls (.long (x * w) :: st)) : In y cc nL ret rm D p l e s m a b me c A Q mc ms F ad pc ls (.long w :: .long x :: st) := fun H lo cl sl Y la hl => lv_lmul X.1 X.2.1 d (k H lo cl sl Y la hl)
theorem i_idiv (X : k_X y cc nL ret D p s m me c A) {x w : Int32} (d : decode cc pc = .ok (.idiv, 1)) (hne : ¬ w = 0) (k : In y cc nL ret rm D p l e s m a b me c A Q mc ms F ad (pc + 1) ls (.int (x / w) :: st)) : In y cc nL ret rm D p l e s m a b me c A Q mc ms F ad pc ls (.int w :: .int x :: st) := fun H lo cl sl Y la hl => lv_idiv X.1 X.2.1 d hne (k H lo cl sl Y la hl)
theorem i_irem (X : k_X y cc nL ret D p s m me c A) {x w : Int32} (d : decode cc pc = .ok (.irem, 1)) (hne : ¬ w = 0) (k : In y cc nL ret rm D p l e s m a b me c A Q mc ms F ad (pc + 1) ls (.int (x - x / w * w) :: st)) : In y cc nL ret rm D p l e s m a b me c A Q mc ms F ad pc ls (.int w :: .int x :: st) := fun H lo cl sl Y la hl => lv_irem X.1 X.2.1 d hne (k H lo cl sl Y la hl)
theorem i_ldiv (X : k_X y cc nL ret D p s m me c A) {x w : Int64} (d : decode cc pc = .ok (.ldiv, 1)) (hne : ¬ w = 0) (k : In y cc nL ret rm D p l e s m a b me c A Q mc ms F ad (pc + 1) ls (.long (x / w) :: st)) : In y cc nL ret rm D p l e s m a b me c A Q mc ms F ad pc ls (.long w :: .long x :: st) := fun H lo cl sl Y la hl => lv_ldiv X.1 X.2.1 d hne (k H lo cl sl Y la hl)
theorem i_lrem (X : k_X y cc nL ret D p s m me c A) {x w : Int64} (d : decode cc pc = .ok (.lrem, 1)) (hne : ¬ w = 0) (k : In y cc nL ret rm D p l e s m a b me c A Q mc ms F ad (pc + 1) ls (.long (x - x / w * w) :: st)) : In y cc nL ret rm D p l e s m a b me c A Q mc ms F ad pc ls (.long w :: .long x :: st) := fun H lo cl sl Y la hl => lv_lrem X.1 X.2.1 d hne (k H lo cl sl Y la hl)
theorem i_ineg (X : k_X y cc nL ret D p s m me c A) {x : Int32} (d : decode cc pc = .ok (.ineg, 1)) (k : In y cc nL ret rm D p l e s m a b me c A Q mc ms F ad (pc + 1) ls (.int (-x) :: st)) : In y cc nL ret rm D p l e s m a b me c A Q mc ms F ad pc ls (.int x :: st) := fun H lo cl sl Y la hl => lv_ineg X.1 X.2.1 d (k H lo cl sl Y la hl)
theorem i_iushr (X : k_X y cc nL ret D p s m me c A) {x w v : Int32} (d : decode cc pc = .ok (.iushr, 1)) (hv : (x.toUInt32 >>> (w.toUInt32 &&& Int32.toUInt32 31)).toInt32 = v) (k : In y cc nL ret rm D p l e s m a b me c A Q mc ms F ad (pc + 1) ls (.int v :: st)) : In y cc nL ret rm D p l e s m a b me c A Q mc ms F ad pc ls (.int w :: .int x :: st) := fun H lo cl sl Y la hl => lv_iushr X.1 X.2.1 d hv (k H lo cl sl Y la hl)
theorem i_lshl (X : k_X y cc nL ret D p s m me c A) {x : Int64} {w : Int32} (d : decode cc pc = .ok (.lshl, 1)) (k : In y cc nL ret rm D p l e s m a b me c A Q mc ms F ad (pc + 1) ls (.long (x <<< (w.toInt64 &&& 63)) :: st)) : In y cc nL ret rm D p l e s m a b me c A Q mc ms F ad pc ls (.int w :: .long x :: st) := fun H lo cl sl Y la hl => lv_lshl X.1 X.2.1 d rfl (k H lo cl sl Y la hl)
theorem i_i2l (X : k_X y cc nL ret D p s m me c A) {x : Int32} (d : decode cc pc = .ok (.i2l, 1)) (k : In y cc nL ret rm D p l e s m a b me c A Q mc ms F ad (pc + 1) ls (.long x.toInt64 :: st)) : In y cc nL ret rm D p l e s m a b me c A Q mc ms F ad pc ls (.int x :: st) := fun H lo cl sl Y la hl => lv_i2l X.1 X.2.1 d rfl (k H lo cl sl Y la hl)
theorem i_l2i (X : k_X y cc nL ret D p s m me c A) {x : Int64} (d : decode cc pc = .ok (.l2i, 1)) (k : In y cc nL ret rm D p l e s m a b me c A Q mc ms F ad (pc + 1) ls (.int x.toInt32 :: st)) : In y cc nL ret rm D p l e s m a b me c A Q mc ms F ad pc ls (.long x :: st) := fun H lo cl sl Y la hl => lv_l2i X.1 X.2.1 d rfl (k H lo cl sl Y la hl)
theorem i_i2b (X : k_X y cc nL ret D p s m me c A) {x : Int32} (d : decode cc pc = .ok (.i2b, 1)) (k : In y cc nL ret rm D p l e s m a b me c A Q mc ms F ad (pc + 1) ls (.int x.toInt8.toInt32 :: st)) : In y cc nL ret rm D p l e s m a b me c A Q mc ms F ad pc ls (.int x :: st) := fun H lo cl sl Y la hl => lv_i2b X.1 X.2.1 d rfl (k H lo cl sl Y la hl)
theorem i_lcmp (X : k_X y cc nL ret D p s m me c A) {x w : Int64} (d : decode cc pc = .ok (.lcmp, 1)) (k : In y cc nL ret rm D p l e s m a b me c A Q mc ms F ad (pc + 1) ls (.int (lg_cmp x w) :: st)) : In y cc nL ret rm D p l e s m a b me c A Q mc ms F ad pc ls (.long w :: .long x :: st) := fun H lo cl sl Y la hl => W.lcmp X.1 X.2.1 d (k H lo cl sl Y la hl)
theorem i_dup (X : k_X y cc nL ret D p s m me c A) {v : Value} (d : decode cc pc = .ok (.dup, 1)) (hv : v.category = 1) (k : In y cc nL ret rm D p l e s m a b me c A Q mc ms F ad (pc + 1) ls (v :: v :: st)) : In y cc nL ret rm D p l e s m a b me c A Q mc ms F ad pc ls (v :: st) := fun H lo cl sl Y la hl => lv_dup X.1 X.2.1 d hv (k H lo cl sl Y la hl)
theorem i_pop (X : k_X y cc nL ret D p s m me c A) {v : Value} (d : decode cc pc = .ok (.pop, 1)) (hv : v.category = 1) (k : In y cc nL ret rm D p l e s m a b me c A Q mc ms F ad (pc + 1) ls st) : In y cc nL ret rm D p l e s m a b me c A Q mc ms F ad pc ls (v :: st) := fun H lo cl sl Y la hl => lv_pop X.1 X.2.1 d hv (k H lo cl sl Y la hl)
theorem i_dup2 (X : k_X y cc nL ret D p s m me c A) {v w : Value} (d : decode cc pc = .ok (.dup2, 1)) (hv : v.category = 1) (hw : w.category = 1) (k : In y cc nL ret rm D p l e s m a b me c A Q mc ms F ad (pc + 1) ls (v :: w :: v :: w :: st)) : In y cc nL ret rm D p l e s m a b me c A Q mc ms F ad pc ls (v :: w :: st) := fun H lo cl sl Y la hl => lv_dup2_11 X.1 X.2.1 d hv hw (k H lo cl sl Y la hl)
theorem i_goto (X : k_X y cc nL ret D p s m me c A) {o : Int} {t : Nat} (d : decode cc pc = .ok (.goto o, 3)) (ht : (pc : Int) + o = (t : Int)) (k : In y cc nL ret rm D p l e s m a b me c A Q mc ms F ad t ls st) : In y cc nL ret rm D p l e s m a b me c A Q mc ms F ad pc ls st := fun H lo cl sl Y la hl => lv_goto X.1 X.2.1 d ht (k H lo cl sl Y la hl)
theorem i_ifnull (X : k_X y cc nL ret D p s m me c A) {x : Nat} {o : Int} (d : decode cc pc = .ok (.ifnull o, 3)) (k : In y cc nL ret rm D p l e s m a b me c A Q mc ms F ad (pc + 3) ls st) : In y cc nL ret rm D p l e s m a b me c A Q mc ms F ad pc ls (.ref x :: st) := fun H lo cl sl Y la hl => lv_ifnull X.1 X.2.1 d (k H lo cl sl Y la hl)
theorem i_ifnullN (X : k_X y cc nL ret D p s m me c A) {o : Int} {t : Nat} (d : decode cc pc = .ok (.ifnull o, 3)) (ht : (pc : Int) + o = (t : Int)) (k : In y cc nL ret rm D p l e s m a b me c A Q mc ms F ad t ls st) : In y cc nL ret rm D p l e s m a b me c A Q mc ms F ad pc ls (.null :: st) := fun H lo cl sl Y la hl => lv_ifnullN X.1 X.2.1 d ht (k H lo cl sl Y la hl)
theorem i_ifnonnull (X : k_X y cc nL ret D p s m me c A) {x : Nat} {o : Int} {t : Nat} (d : decode cc pc = .ok (.ifnonnull o, 3)) (ht : (pc : Int) + o = (t : Int)) (k : In y cc nL ret rm D p l e s m a b me c A Q mc ms F ad t ls st) : In y cc nL ret rm D p l e s m a b me c A Q mc ms F ad pc ls (.ref x :: st) := fun H lo cl sl Y la hl => lv_ifnonnull X.1 X.2.1 d ht (k H lo cl sl Y la hl)
theorem i_ifnonnullN (X : k_X y cc nL ret D p s m me c A) {o : Int} (d : decode cc pc = .ok (.ifnonnull o, 3)) (k : In y cc nL ret rm D p l e s m a b me c A Q mc ms F ad (pc + 3) ls st) : In y cc nL ret rm D p l e s m a b me c A Q mc ms F ad pc ls (.null :: st) := fun H lo cl sl Y la hl => lv_ifnonnullN X.1 X.2.1 d (k H lo cl sl Y la hl)
theorem i_if_eq (X : k_X y cc nL ret D p s m me c A) {x : Int32} {o : Int} {t : Nat} (d : decode cc pc = .ok (.ifCond .eq o, 3)) (ht : (pc : Int) + o = (t : Int)) (kt : x = 0 → In y cc nL ret rm D p l e s m a b me c A Q mc ms F ad t ls st) (kf : ¬ x = 0 → In y cc nL ret rm D p l e s m a b me c A Q mc ms F ad (pc + 3) ls st) : In y cc nL ret rm D p l e s m a b me c A Q mc ms F ad pc ls (.int x :: st) := fun H lo cl sl Y la hl => lv_if_eq X.1 X.2.1 d ht (fun q => kt q H lo cl sl Y la hl) (fun q => kf q H lo cl sl Y la hl)
theorem i_icmp_eq (X : k_X y cc nL ret D p s m me c A) {x w : Int32} {o : Int} {t : Nat} (d : decode cc pc = .ok (.if_icmp .eq o, 3)) (ht : (pc : Int) + o = (t : Int)) (kt : x = w → In y cc nL ret rm D p l e s m a b me c A Q mc ms F ad t ls st) (kf : ¬ x = w → In y cc nL ret rm D p l e s m a b me c A Q mc ms F ad (pc + 3) ls st) : In y cc nL ret rm D p l e s m a b me c A Q mc ms F ad pc ls (.int w :: .int x :: st) := fun H lo cl sl Y la hl => lv_icmp_eq X.1 X.2.1 d ht (fun q => kt q H lo cl sl Y la hl) (fun q => kf q H lo cl sl Y la hl)
theorem i_if_ne (X : k_X y cc nL ret D p s m me c A) {x : Int32} {o : Int} {t : Nat} (d : decode cc pc = .ok (.ifCond .ne o, 3)) (ht : (pc : Int) + o = (t : Int)) (kt : ¬ x = 0 → In y cc nL ret rm D p l e s m a b me c A Q mc ms F ad t ls st) (kf : x = 0 → In y cc nL ret rm D p l e s m a b me c A Q mc ms F ad (pc + 3) ls st) : In y cc nL ret rm D p l e s m a b me c A Q mc ms F ad pc ls (.int x :: st) := fun H lo cl sl Y la hl => lv_if_ne X.1 X.2.1 d ht (fun q => kt q H lo cl sl Y la hl) (fun q => kf q H lo cl sl Y la hl)
theorem i_icmp_ne (X : k_X y cc nL ret D p s m me c A) {x w : Int32} {o : Int} {t : Nat} (d : decode cc pc = .ok (.if_icmp .ne o, 3)) (ht : (pc : Int) + o = (t : Int)) (kt : ¬ x = w → In y cc nL ret rm D p l e s m a b me c A Q mc ms F ad t ls st) (kf : x = w → In y cc nL ret rm D p l e s m a b me c A Q mc ms F ad (pc + 3) ls st) : In y cc nL ret rm D p l e s m a b me c A Q mc ms F ad pc ls (.int w :: .int x :: st) := fun H lo cl sl Y la hl => lv_icmp_ne X.1 X.2.1 d ht (fun q => kt q H lo cl sl Y la hl) (fun q => kf q H lo cl sl Y la hl)
theorem i_if_lt (X : k_X y cc nL ret D p s m me c A) {x : Int32} {o : Int} {t : Nat} (d : decode cc pc = .ok (.ifCond .lt o, 3)) (ht : (pc : Int) + o = (t : Int)) (kt : x < 0 → In y cc nL ret rm D p l e s m a b me c A Q mc ms F ad t ls st) (kf : ¬ x < 0 → In y cc nL ret rm D p l e s m a b me c A Q mc ms F ad (pc + 3) ls st) : In y cc nL ret rm D p l e s m a b me c A Q mc ms F ad pc ls (.int x :: st) := fun H lo cl sl Y la hl => lv_if_lt X.1 X.2.1 d ht (fun q => kt q H lo cl sl Y la hl) (fun q => kf q H lo cl sl Y la hl)
theorem i_icmp_lt (X : k_X y cc nL ret D p s m me c A) {x w : Int32} {o : Int} {t : Nat} (d : decode cc pc = .ok (.if_icmp .lt o, 3)) (ht : (pc : Int) + o = (t : Int)) (kt : x < w → In y cc nL ret rm D p l e s m a b me c A Q mc ms F ad t ls st) (kf : ¬ x < w → In y cc nL ret rm D p l e s m a b me c A Q mc ms F ad (pc + 3) ls st) : In y cc nL ret rm D p l e s m a b me c A Q mc ms F ad pc ls (.int w :: .int x :: st) := fun H lo cl sl Y la hl => lv_icmp_lt X.1 X.2.1 d ht (fun q => kt q H lo cl sl Y la hl) (fun q => kf q H lo cl sl Y la hl)
theorem i_if_ge (X : k_X y cc nL ret D p s m me c A) {x : Int32} {o : Int} {t : Nat} (d : decode cc pc = .ok (.ifCond .ge o, 3)) (ht : (pc : Int) + o = (t : Int)) (kt : 0 ≤ x → In y cc nL ret rm D p l e s m a b me c A Q mc ms F ad t ls st) (kf : ¬ 0 ≤ x → In y cc nL ret rm D p l e s m a b me c A Q mc ms F ad (pc + 3) ls st) : In y cc nL ret rm D p l e s m a b me c A Q mc ms F ad pc ls (.int x :: st) := fun H lo cl sl Y la hl => lv_if_ge X.1 X.2.1 d ht (fun q => kt q H lo cl sl Y la hl) (fun q => kf q H lo cl sl Y la hl)
theorem i_icmp_ge (X : k_X y cc nL ret D p s m me c A) {x w : Int32} {o : Int} {t : Nat} (d : decode cc pc = .ok (.if_icmp .ge o, 3)) (ht : (pc : Int) + o = (t : Int)) (kt : w ≤ x → In y cc nL ret rm D p l e s m a b me c A Q mc ms F ad t ls st) (kf : ¬ w ≤ x → In y cc nL ret rm D p l e s m a b me c A Q mc ms F ad (pc + 3) ls st) : In y cc nL ret rm D p l e s m a b me c A Q mc ms F ad pc ls (.int w :: .int x :: st) := fun H lo cl sl Y la hl => lv_icmp_ge X.1 X.2.1 d ht (fun q => kt q H lo cl sl Y la hl) (fun q => kf q H lo cl sl Y la hl)
theorem i_if_gt (X : k_X y cc nL ret D p s m me c A) {x : Int32} {o : Int} {t : Nat} (d : decode cc pc = .ok (.ifCond .gt o, 3)) (ht : (pc : Int) + o = (t : Int)) (kt : 0 < x → In y cc nL ret rm D p l e s m a b me c A Q mc ms F ad t ls st) (kf : ¬ 0 < x → In y cc nL ret rm D p l e s m a b me c A Q mc ms F ad (pc + 3) ls st) : In y cc nL ret rm D p l e s m a b me c A Q mc ms F ad pc ls (.int x :: st) := fun H lo cl sl Y la hl => lv_if_gt X.1 X.2.1 d ht (fun q => kt q H lo cl sl Y la hl) (fun q => kf q H lo cl sl Y la hl)
theorem i_icmp_gt (X : k_X y cc nL ret D p s m me c A) {x w : Int32} {o : Int} {t : Nat} (d : decode cc pc = .ok (.if_icmp .gt o, 3)) (ht : (pc : Int) + o = (t : Int)) (kt : w < x → In y cc nL ret rm D p l e s m a b me c A Q mc ms F ad t ls st) (kf : ¬ w < x → In y cc nL ret rm D p l e s m a b me c A Q mc ms F ad (pc + 3) ls st) : In y cc nL ret rm D p l e s m a b me c A Q mc ms F ad pc ls (.int w :: .int x :: st) := fun H lo cl sl Y la hl => lv_icmp_gt X.1 X.2.1 d ht (fun q => kt q H lo cl sl Y la hl) (fun q => kf q H lo cl sl Y la hl)
theorem i_if_le (X : k_X y cc nL ret D p s m me c A) {x : Int32} {o : Int} {t : Nat} (d : decode cc pc = .ok (.ifCond .le o, 3)) (ht : (pc : Int) + o = (t : Int)) (kt : x ≤ 0 → In y cc nL ret rm D p l e s m a b me c A Q mc ms F ad t ls st) (kf : ¬ x ≤ 0 → In y cc nL ret rm D p l e s m a b me c A Q mc ms F ad (pc + 3) ls st) : In y cc nL ret rm D p l e s m a b me c A Q mc ms F ad pc ls (.int x :: st) := fun H lo cl sl Y la hl => lv_if_le X.1 X.2.1 d ht (fun q => kt q H lo cl sl Y la hl) (fun q => kf q H lo cl sl Y la hl)
theorem i_icmp_le (X : k_X y cc nL ret D p s m me c A) {x w : Int32} {o : Int} {t : Nat} (d : decode cc pc = .ok (.if_icmp .le o, 3)) (ht : (pc : Int) + o = (t : Int)) (kt : x ≤ w → In y cc nL ret rm D p l e s m a b me c A Q mc ms F ad t ls st) (kf : ¬ x ≤ w → In y cc nL ret rm D p l e s m a b me c A Q mc ms F ad (pc + 3) ls st) : In y cc nL ret rm D p l e s m a b me c A Q mc ms F ad pc ls (.int w :: .int x :: st) := fun H lo cl sl Y la hl => lv_icmp_le X.1 X.2.1 d ht (fun q => kt q H lo cl sl Y la hl) (fun q => kf q H lo cl sl Y la hl)
theorem i_get {ci N f i : Nat} {C : String} {T : u_T} {Ty : Nat → FieldType} (X : k_X y cc nL ret D p s m me c A) (hc : k_cls ci C T N Ty) (k0 : Nat) {fs : List Value} (he : F k0 = some (.inr (ci, fs))) (hf : f < N) {v : Value} (hv : fs[f]? = some v) {a0 : Nat} (ha : ad k0 = a0)
    (w : k_in (.fieldLink y.cls i C (T f).2.1 (T f).2.2.1)) (d : decode cc pc = .ok (.getfield i, 3)) (k : In y cc nL ret rm D p l e s m a b me c A Q mc ms F ad (pc + 3) ls (v :: st)) : In y cc nL ret rm D p l e s m a b me c A Q mc ms F ad pc ls (.ref a0 :: st) := by
  subst ha
  intro H lo cl sl Y la hl
  have hC := hc.2.2.2.2 f hf
  exact va_get (D := D.1) (cl := vwCl) (ws := [(ad k0, .inr (ci, fs))]) X.1 X.2.1 (hc.hts X.tb) (fun w h => h) X.own X.kn (Y.1.one he) 0 rfl hc.1 f hf (w.use X.tb) (fun x h => by rw [hC] at h; exact h) hv d (k H lo cl sl Y la hl)
theorem i_getN {ci N f i : Nat} {C host : String} {T : u_T} {Ty : Nat → FieldType} (X : k_X y cc nL ret D p s m me c A) (hc : k_cls ci C T N Ty) (k0 : Nat) {fs : List Value} (he : F k0 = some (.inr (ci, fs))) (hf : f < N) {v : Value} (hv : fs[f]? = some v) {a0 : Nat} (ha : ad k0 = a0)
    (w : k_in (.fieldLinkNest y.cls i C (T f).2.1 (T f).2.2.1 host)) (d : decode cc pc = .ok (.getfield i, 3)) (k : In y cc nL ret rm D p l e s m a b me c A Q mc ms F ad (pc + 3) ls (v :: st)) : In y cc nL ret rm D p l e s m a b me c A Q mc ms F ad pc ls (.ref a0 :: st) := by
  subst ha
  intro H lo cl sl Y la hl
  have hC := hc.2.2.2.2 f hf
  exact va_getN (D := D.1) (cl := vwCl) (ws := [(ad k0, .inr (ci, fs))]) X.1 X.2.1 (hc.hts X.tb) (fun w h => h) X.own X.kn (Y.1.one he) 0 rfl hc.1 f hf (w.use X.tb) (fun x h => by rw [hC] at h; exact h) hv d (k H lo cl sl Y la hl)
theorem i_putF {ci N f i : Nat} {C : String} {T : u_T} {Ty : Nat → FieldType} (X : k_X y cc nL ret D p s m me c A) (hin2 : me.name = "<init>") (hy : C = y.cls) (hc : k_cls ci C T N Ty) (k0 : Nat) {fs : List Value} (he : F k0 = some (.inr (ci, fs))) (hf : f < N) {v : Value} {a0 : Nat} (ha : ad k0 = a0)
    (h1 : F' k0 = some (.inr (ci, fs.set f v))) (h2 : ∀ j, j ≠ k0 → F' j = F j) (hfin : (T f).2.2.2 = true) (hn : narrow (Ty f) v = v) (hfit : fits (Ty f) v = true) (hlen : f < fs.length)
    (w : k_in (.fieldLink y.cls i C (T f).2.1 (T f).2.2.1)) (d : decode cc pc = .ok (.putfield i, 3)) (k : In y cc nL ret rm D p l e s m a b me c A Q mc ms F' ad (pc + 3) ls st) : In y cc nL ret rm D p l e s m a b me c A Q mc ms F ad pc ls (v :: .ref a0 :: st) := by
  subst ha
  intro H lo cl sl Y la hl
  have hC := hc.2.2.2.2 f hf
  have hap := va_apart (own := y.cls) (cl := vwCl) (D := D.1) (hc.hts X.tb (a := a)) (fun w h => h) Ty hc.2.2.1 hc.2.2.2.1 X.kn hc.1
  obtain ⟨r, g1, cell, q1, q2, q3, q4⟩ := Y.1.1 k0 _ he
  have hr : r = (C, T, N) := Option.some.inj (g1.symm.trans hc.1)
  subst hr
  obtain ⟨hS, hfc, kC, hkC, hkind⟩ := X.kn.1 ci _ hc.1
  obtain ⟨cf, kf, fi, fl, hi, hsl⟩ := hS f hf
  have hlay := hc.hts X.tb (a := a) _ (u_in_lay hf)
  unfold u_lay at hlay
  rw [if_pos hfin] at hlay
  have hst := (u_facts hfc hkC (u_lays (hc.hts X.tb (a := a)) (fun w h => h) hf) hi).1
  have hcf : m.cls = cf := by
    obtain ⟨_, _, c', _, _, _, -, -, hf', -, -, -, hown2, -⟩ := Cond.laysFinal_spec hlay
    have e1 : c' = cf := by have := hi.symm.trans hf'; simp at this; exact this.1.symm
    rw [hC, hy] at hown2
    rw [← e1]
    exact Option.some.inj (X.own.symm.trans hown2)
  have h6 := u_fits hfc hkC hkind (Or.inr hlay) hi (hc.2.2.1 f hf) hn hfit
  refine W.putFinK X.1 X.2.1 X.own (w.use X.tb) (by rw [hC] at hi; exact hi) hst hcf hin2 (by rw [q2]; exact h6) q1 q3 (by rw [hsl]; exact k2_hasslot (q4 f hf)) rfl rfl d fun H' e1 e2 e3 => ?_
  rw [hsl] at e1 ⊢
  exact k H' _ cl sl ⟨k_Wd.set (e := .inr (ci, fs.set f v)) Y.1 he ⟨_, hc.1, t_OB.to (V := updV (vp_V fs) f v) ⟨_, e1, q2, q3, t_set q4 hap hf v⟩ (fun j _ => vp_updV_set hlen v j)⟩ e3 h1 h2, Y.2.1.put e2 e3 (Y.1.2.2 k0 _ he), Y.2.2.1, Y.2.2.2⟩ la hl
theorem i_put {ci N f i : Nat} {C : String} {T : u_T} {Ty : Nat → FieldType} (X : k_X y cc nL ret D p s m me c A) (hc : k_cls ci C T N Ty) (k0 : Nat) {fs : List Value} (he : F k0 = some (.inr (ci, fs))) (hf : f < N) {v : Value} {a0 : Nat} (ha : ad k0 = a0)
    (h1 : F' k0 = some (.inr (ci, fs.set f v))) (h2 : ∀ j, j ≠ k0 → F' j = F j) (hfin : (T f).2.2.2 = false) (hn : narrow (Ty f) v = v) (hfit : fits (Ty f) v = true) (hlen : f < fs.length)
    (w : k_in (.fieldLink y.cls i C (T f).2.1 (T f).2.2.1)) (d : decode cc pc = .ok (.putfield i, 3)) (k : In y cc nL ret rm D p l e s m a b me c A Q mc ms F' ad (pc + 3) ls st) : In y cc nL ret rm D p l e s m a b me c A Q mc ms F ad pc ls (v :: .ref a0 :: st) := by
  subst ha
  intro H lo cl sl Y la hl
  have hC := hc.2.2.2.2 f hf
  have hap := va_apart (own := y.cls) (cl := vwCl) (D := D.1) (hc.hts X.tb (a := a)) (fun w h => h) Ty hc.2.2.1 hc.2.2.2.1 X.kn hc.1
  obtain ⟨r, g1, cell, q1, q2, q3, q4⟩ := Y.1.1 k0 _ he
  have hr : r = (C, T, N) := Option.some.inj (g1.symm.trans hc.1)
  subst hr
  obtain ⟨hS, hfc, kC, hkC, hkind⟩ := X.kn.1 ci _ hc.1
  obtain ⟨cf, kf, fi, fl, hi, hsl⟩ := hS f hf
  have hlay := hc.hts X.tb (a := a) _ (u_in_lay hf)
  unfold u_lay at hlay
  rw [if_neg (by rw [hfin]; decide)] at hlay
  have hst := (u_facts hfc hkC (u_lays (hc.hts X.tb (a := a)) (fun w h => h) hf) hi).1
  have h6 := u_store hfc hkC hkind hlay hi (hc.2.2.1 f hf) hn hfit
  refine W.putK X.1 X.2.1 (f := fl) ⟨X.own, w.use X.tb, ⟨_, _, _, by rw [hC] at hi; exact hi⟩, hst⟩ (by rw [q2]; exact h6) q1 q3 (by rw [hsl]; exact k2_hasslot (q4 f hf)) rfl rfl d fun H' e1 e2 e3 => ?_
  rw [hsl] at e1 ⊢
  exact k H' _ cl sl ⟨k_Wd.set (e := .inr (ci, fs.set f v)) Y.1 he ⟨_, hc.1, t_OB.to (V := updV (vp_V fs) f v) ⟨_, e1, q2, q3, t_set q4 hap hf v⟩ (fun j _ => vp_updV_set hlen v j)⟩ e3 h1 h2, Y.2.1.put e2 e3 (Y.1.2.2 k0 _ he), Y.2.2.1, Y.2.2.2⟩ la hl
theorem i_last {n : Nat} {g : Nat → Int64} (X : k_X y cc nL ret D p s m me c A) (k0 : Nat) (he : F k0 = some (.inl (D.2.1 3, n, .inr (.inl g)))) {a0 : Nat} (ha : ad k0 = a0) {i : Int32} {x : Int64} (h1 : F' k0 = some (.inl (D.2.1 3, n, .inr (.inl (vp_updL g i.toNatClampNeg x))))) (h2 : ∀ j, j ≠ k0 → F' j = F j) (hin : vp_in i n) (d : decode cc pc = .ok (.lastore, 1)) (k : In y cc nL ret rm D p l e s m a b me c A Q mc ms F' ad (pc + 1) ls st) : In y cc nL ret rm D p l e s m a b me c A Q mc ms F ad pc ls (.long x :: .int i :: .ref a0 :: st) := by
  subst ha
  intro H lo cl sl Y la hl
  refine W.last X.1 X.2.1 (Y.1.1 k0 _ he) ((X.kn.2 3 _ rfl).1 n (fun j => .long (g j))) (fun q => by cases q) (by show ¬ (i < 0 ∨ (arrV _ _ _).slots.size ≤ _); rw [arrV_size]; exact hin) rfl rfl d fun H1 e1 z1 oq => ?_
  refine k H1 _ cl sl ⟨k_Wd.set Y.1 he ?_ oq h1 h2, Y.2.1.put z1 oq (Y.1.2.2 k0 _ he), Y.2.2.1, Y.2.2.2⟩ la hl
  show H1[ad k0]? = some (vp_cell _ _)
  rw [e1, vp_cell_l, vp_cell_l, arrV_store]
  congr 2
  funext q
  by_cases hq : q = i.toNatClampNeg
  · subst hq
    simp [updV, vp_updL]
  · simp [updV, vp_updL, hq]
theorem i_iast {n : Nat} {g : Nat → Int32} (X : k_X y cc nL ret D p s m me c A) (k0 : Nat) (he : F k0 = some (.inl (D.2.1 0, n, .inl g))) {a0 : Nat} (ha : ad k0 = a0) {i : Int32} {x : Int32} (h1 : F' k0 = some (.inl (D.2.1 0, n, .inl (upd g i.toNatClampNeg x)))) (h2 : ∀ j, j ≠ k0 → F' j = F j) (hin : vp_in i n) (d : decode cc pc = .ok (.iastore, 1)) (k : In y cc nL ret rm D p l e s m a b me c A Q mc ms F' ad (pc + 1) ls st) : In y cc nL ret rm D p l e s m a b me c A Q mc ms F ad pc ls (.int x :: .int i :: .ref a0 :: st) := by
  subst ha
  intro H lo cl sl Y la hl
  refine W.iast X.1 X.2.1 (Y.1.1 k0 _ he) ((X.kn.2 0 _ rfl).1 n (fun j => .int (g j))) (fun q => by cases q) (by show ¬ (i < 0 ∨ (arrV _ _ _).slots.size ≤ _); rw [arrV_size]; exact hin) rfl rfl d fun H1 e1 z1 oq => ?_
  refine k H1 _ cl sl ⟨k_Wd.set Y.1 he ?_ oq h1 h2, Y.2.1.put z1 oq (Y.1.2.2 k0 _ he), Y.2.2.1, Y.2.2.2⟩ la hl
  show H1[ad k0]? = some (vp_cell _ _)
  rw [e1, vp_cell_i, vp_cell_i, arrV_store]
  congr 2
  funext q
  by_cases hq : q = i.toNatClampNeg
  · subst hq
    simp [updV, upd]
  · simp [updV, upd, hq]
theorem k_blindf {args : List Value} {sz : Nat} : FrameBlind (va_Pc args (fun U => U.heap.size = sz ∧ k_Wd D.1 F ad (fun _ => True) U.heap ∧ k_Kn D U ∧ k_Tb U ∧ k_Ot D (k_Af F ad sz) U U.heap)) := by
  intro a U g mk h
  obtain ⟨h1, h2, h3, h4, h5, h6⟩ := h
  exact ⟨h1, h2, h3, k_Kn.moved (u := U) (U := U.calling g mk a) (Vm.Alike.refl U.vm) h4, h5.moved (U := U.calling g mk a) (k_rf U), h6.moved (U := U.calling g mk a) (k_rf U)⟩
theorem k_Aff {H : Heap} {locs : List Loc} {cells slots : Nat} (hA : ∀ q : Nat, s.heap.size ≤ q → A q) (Y : k_Yf rm mc ms D F ad s A H locs cells slots) : ∀ q, k_Af F ad H.size q → A q := by
  intro q h
  rcases h with ⟨k, f, hk, rfl⟩ | h
  · exact Y.1.2.2 k f hk
  · exact hA q (Nat.le_trans Y.2.1.1 h)
theorem k_pref {H : Heap} {locs : List Loc} {cells slots : Nat} {As : List Value} (X : k_X y cc nL ret D p s m me c A) (Y : k_Yf rm mc ms D F ad s A H locs cells slots) : PreS s H (va_Pc As (fun U => U.heap.size = H.size ∧ k_Wd D.1 F ad (fun _ => True) U.heap ∧ k_Kn D U ∧ k_Tb U ∧ k_Ot D (k_Af F ad H.size) U U.heap)) As :=
  ⟨k_blindf, fun U hU hW => ⟨rfl, by rw [hU], by rw [hU]; exact Y.1.weaken (fun _ _ _ _ => trivial), k_Kn.moved hW.alike X.kk, X.tb.moved hW, by rw [hU]; exact ((X.ot.kept Y.2.1.2.1).moved hW).narrow (k_Aff X.new Y)⟩⟩
theorem k_afterf {H : Heap} {locs : List Loc} {cells slots : Nat} {la : Array Slot} {rm2 : Room} {Post2 : k_Pf} {rest st0 : List Value} {a2 : Array Value}
    (X : k_X y cc nL ret D p s m me c A) (Y : k_Yf rm mc ms D F ad s A H locs cells slots) (hl : lv_has la nL ls) (hmc : rm2.cells ≤ mc) (hms : rm2.slots ≤ ms)
    (hr : va_Run p l e rm s m a b me c H locs cells slots rm2.cells rm2.slots (F0 m pc la st0) rest (k_Qf D Post2 (k_Af F ad H.size) a2) (k_Af F ad H.size))
    (kk : ∀ v F1 ad1, Post2 v F1 ad1 → In y cc nL ret rm D p l e s m a b me c A Q (mc - rm2.cells) (ms - rm2.slots) F1 ad1 (pc + 3) ls (v.toList ++ rest)) : W p l e rm s m a b me c H locs cells slots Q (F0 m pc la st0) := by
  have hA := k_Aff X.new Y
  intro T hT Z
  obtain ⟨v, st₀, t, T', L, h0, X', hL, e1, e2, ⟨⟨v', F1, ad1, hv, hp, hw⟩, hz, hk⟩, st⟩ := hr T hT Z
  cases hv
  rw [h0] at hz hk
  have hY : k_Yf rm (mc - rm2.cells) (ms - rm2.slots) D F1 ad1 s A T'.heap (locs ++ L) (cells + rm2.cells) (slots + rm2.slots) := by
    refine ⟨by rw [e1]; exact hw.weaken (fun k f _ h => hA _ h), ⟨Nat.le_trans Y.2.1.1 (by rw [e1]; exact hz), fun q h1 h2 => ?_, fun q hq => ?_⟩, by have := Y.2.2.1; omega, by have := Y.2.2.2; omega⟩
    · rw [e1, hk q (Nat.lt_of_lt_of_le h1 Y.2.1.1) (fun z => h2 (hA q z))]
      exact Y.2.1.2.1 q h1 h2
    · rcases List.mem_append.mp hq with h | h
      · exact Y.2.1.2.2 q h
      · exact hA _ (hL q h)
  obtain ⟨t2, a1, b1⟩ := kk v F1 ad1 hp T'.heap (locs ++ L) (cells + rm2.cells) (slots + rm2.slots) hY la hl T' rfl X'
  exact ⟨t2, st t2 a1, b1⟩
theorem i_callI {z : MethodName} {zc : ByteArray} {zL n i a0 : Nat} {rm2 : Room} {Post2 : k_Pf} (X : k_X y cc nL ret D p s m me c A) (As rest : List Value) (hS : Sf z zc zL none rm2 D F ad (.ref a0 :: As) Post2) (w1 : k_in (.methodLink y.cls i z)) (w2 : k_in (.instanceMethod z)) (w4 : k_in (.code z zc zL none)) (w5 : k_in (.initialized z.cls)) (hi : z.name = "<init>")
    (hd : (z.cls ≠ "java/lang/invoke/MethodHandle" ∧ z.cls ≠ "java/lang/invoke/VarHandle") ∧ (parseMethodDescriptor z.desc).map (fun d => d.parameters.length) = some n) (hR : rm2.frames + 1 ≤ rm.frames ∧ 8 + (zL + 11) + rm2.locals ≤ rm.locals) (hmc : rm2.cells ≤ mc) (hms : rm2.slots ≤ ms)
    (hn : As.length = n) (hst : st = As.reverse ++ .ref a0 :: rest) (hcat : (rest.map fun v => v.category).sum ≤ 8) (d : decode cc pc = .ok (.invokespecial i, 3)) (kk : ∀ v F1 ad1, Post2 v F1 ad1 → In y cc nL ret rm D p l e s m a b me c A Q (mc - rm2.cells) (ms - rm2.slots) F1 ad1 (pc + 3) ls (v.toList ++ rest)) : In y cc nL ret rm D p l e s m a b me c A Q mc ms F ad pc ls st := by
  subst hst
  intro H lo cl sl Y la hl
  have hp := k_pref (As := .ref a0 :: As) X Y
  refine k_afterf (a2 := (Value.ref a0 :: As).toArray) (rest := rest) X Y hl hmc hms ?_ kk
  exact va_runI (S := ⟨X.1, X.2.1, X.2.2.1, X.own, fun w h => absurd h (List.not_mem_nil (a := w))⟩) (Ts := []) (hS l H.size) ⟨⟨rfl, rfl, hR.1, hR.2, k_mono X.tb w4, List.mem_singleton.mpr rfl, w4.use X.tb, w5.use X.tb, hd.1, k_pars hd.2, w1.use X.tb⟩, hi, w2.use X.tb⟩ hp rfl hn hl.1 rfl (lv_room hcat) d ⟨by have := Y.2.2.1; omega, by have := Y.2.2.2; omega⟩
theorem i_callIN {z : MethodName} {host : String} {zc : ByteArray} {zL n i a0 : Nat} {rm2 : Room} {Post2 : k_Pf} (X : k_X y cc nL ret D p s m me c A) (As rest : List Value) (hS : Sf z zc zL none rm2 D F ad (.ref a0 :: As) Post2) (w1 : k_in (.methodLinkNest y.cls i z host)) (w2 : k_in (.instanceMethod z)) (w4 : k_in (.code z zc zL none)) (w5 : k_in (.initialized z.cls)) (hi : z.name = "<init>")
    (hd : (z.cls ≠ "java/lang/invoke/MethodHandle" ∧ z.cls ≠ "java/lang/invoke/VarHandle") ∧ (parseMethodDescriptor z.desc).map (fun d => d.parameters.length) = some n) (hR : rm2.frames + 1 ≤ rm.frames ∧ 8 + (zL + 11) + rm2.locals ≤ rm.locals) (hmc : rm2.cells ≤ mc) (hms : rm2.slots ≤ ms)
    (hn : As.length = n) (hst : st = As.reverse ++ .ref a0 :: rest) (hcat : (rest.map fun v => v.category).sum ≤ 8) (d : decode cc pc = .ok (.invokespecial i, 3)) (kk : ∀ v F1 ad1, Post2 v F1 ad1 → In y cc nL ret rm D p l e s m a b me c A Q (mc - rm2.cells) (ms - rm2.slots) F1 ad1 (pc + 3) ls (v.toList ++ rest)) : In y cc nL ret rm D p l e s m a b me c A Q mc ms F ad pc ls st := by
  subst hst
  intro H lo cl sl Y la hl
  have hp := k_pref (As := .ref a0 :: As) X Y
  refine k_afterf (a2 := (Value.ref a0 :: As).toArray) (rest := rest) X Y hl hmc hms ?_ kk
  exact va_runIN (S := ⟨X.1, X.2.1, X.2.2.1, X.own, fun w h => absurd h (List.not_mem_nil (a := w))⟩) (Ts := []) (hS l H.size) ⟨⟨⟨rfl, rfl, hR.1, hR.2, k_mono X.tb w4, List.mem_singleton.mpr rfl⟩, w4.use X.tb, w5.use X.tb, hd.1, k_pars hd.2, w1.use X.tb⟩, hi, w2.use X.tb⟩ hp rfl hn hl.1 rfl (lv_room hcat) d ⟨by have := Y.2.2.1; omega, by have := Y.2.2.2; omega⟩
end RI
