/-! part c1: the law's loop -/
section LAWR
variable {y : MethodName} {cc : ByteArray} {nL : Nat} {ret : Option FieldType} {rm : Room} {D : k_D} {p : Program} {l : Launch} {e : Env} {s : State} {m : MethodId} {a : Array Value} {b : List Frame} {me : Method} {c : Code} {A : Nat → Prop} {Q : State → Prop} {mc ms : Nat} {pc : Nat} {ls : List (Nat × Value)} {st : List Value} {dy : Nat → Nat} {S : St}
theorem k_afterq {H : Heap} {locs : List Loc} {cells slots : Nat} {la : Array Slot} {rm2 : Room} {Post2 : k_Po} {rest st0 : List Value} {a2 : Array Value}
    (X : k_X y cc nL ret D p s m me c A) (Y : k_Y rm mc ms D dy S s A H locs cells slots) (hl : lv_has la nL ls) (hmc : rm2.cells ≤ mc) (hms : rm2.slots ≤ ms)
    (hr : va_Run p l e rm s m a b me c H locs cells slots rm2.cells rm2.slots (F0 m pc la st0) rest (k_Q D Post2 (Ao D dy S H.size) a2) (Ao D dy S H.size))
    (kk : ∀ v dy1 S1, Post2 v dy1 S1 → In y cc nL ret rm D p l e s m a b me c A Q (mc - rm2.cells) (ms - rm2.slots) (k_cell D dy1 S1) (k_ad D dy1) (pc + 3) ls (v.toList ++ rest)) : W p l e rm s m a b me c H locs cells slots Q (F0 m pc la st0) := by
  have hA := k_Ao X.new Y
  intro T hT Z
  obtain ⟨v, st₀, t, T', L, h0, X', hL, e1, e2, ⟨⟨v', dy1, S1, hv, hp, hw⟩, hz, hk⟩, st⟩ := hr T hT Z
  cases hv
  rw [h0] at hz hk
  have hY : k_Yf rm (mc - rm2.cells) (ms - rm2.slots) D (k_cell D dy1 S1) (k_ad D dy1) s A T'.heap (locs ++ L) (cells + rm2.cells) (slots + rm2.slots) := by
    refine ⟨by rw [e1]; exact hw.weaken (fun k f _ h => hA _ h), ⟨Nat.le_trans Y.2.1.1 (by rw [e1]; exact hz), fun q h1 h2 => ?_, fun q hq => ?_⟩, by have := Y.2.2.1; omega, by have := Y.2.2.2; omega⟩
    · rw [e1, hk q (Nat.lt_of_lt_of_le h1 Y.2.1.1) (fun z => h2 (hA q z))]
      exact Y.2.1.2.1 q h1 h2
    · rcases List.mem_append.mp hq with h | h
      · exact Y.2.1.2.2 q h
      · exact hA _ (hL q h)
  obtain ⟨t2, a1, b1⟩ := kk v dy1 S1 hp T'.heap (locs ++ L) (cells + rm2.cells) (slots + rm2.slots) hY la hl T' rfl X'
  exact ⟨t2, st t2 a1, b1⟩
theorem i_callV {z : MethodName} {zc : ByteArray} {zL n i k0 ci a0 : Nat} {zr : Option FieldType} {rm2 : Room} {fs : List Value} {r : vw_C} {Post2 : k_Po} (X : k_X y cc nL ret D p s m me c A) (As rest : List Value) (hS : Sp z zc zL zr rm2 D dy S (.ref a0 :: As) Post2) (w1 : k_in (.methodLink y.cls i z)) (w2 : k_in (.instanceMethod z)) (w3 : k_in (.selects r.1 z z)) (w4 : k_in (.code z zc zL zr)) (w5 : k_in (.initialized z.cls))
    (hd : (z.cls ≠ "java/lang/invoke/MethodHandle" ∧ z.cls ≠ "java/lang/invoke/VarHandle") ∧ (parseMethodDescriptor z.desc).map (fun d => d.parameters.length) = some n) (he : k_cell D dy S k0 = some (.inr (ci, fs))) (hc : vwCl[ci]? = some r) (ha : k_ad D dy k0 = a0) (hR : rm2.frames + 1 ≤ rm.frames ∧ 8 + (zL + 11) + rm2.locals ≤ rm.locals) (hmc : rm2.cells ≤ mc) (hms : rm2.slots ≤ ms)
    (hn : As.length = n) (hst : st = As.reverse ++ .ref a0 :: rest) (hcat : (rest.map fun v => v.category).sum ≤ 8) (d : decode cc pc = .ok (.invokevirtual i, 3)) (kk : ∀ v dy1 S1, Post2 v dy1 S1 → In y cc nL ret rm D p l e s m a b me c A Q (mc - rm2.cells) (ms - rm2.slots) (k_cell D dy1 S1) (k_ad D dy1) (pc + 3) ls (v.toList ++ rest)) : In y cc nL ret rm D p l e s m a b me c A Q mc ms (k_cell D dy S) (k_ad D dy) pc ls st := by
  subst ha
  subst hst
  intro H lo cl sl Y la hl
  have hp := k_pre (As := .ref (k_ad D dy k0) :: As) X.tb X.kk X.ot X.new Y
  refine k_afterq (a2 := (Value.ref (k_ad D dy k0) :: As).toArray) X Y hl hmc hms ?_ kk
  exact va_runV (S := ⟨X.1, X.2.1, X.2.2.1, X.own, fun w h => absurd h (List.not_mem_nil (a := w))⟩) (Ts := []) (hS l H.size) ⟨⟨rfl, rfl, hR.1, hR.2, k_mono X.tb w4, List.mem_singleton.mpr rfl, w4.use X.tb, w5.use X.tb, hd.1, k_pars hd.2, w1.use X.tb⟩, w2.use X.tb, w3.use X.tb⟩ ⟨hp.1, k_recv X.kn Y hc he, hp.2⟩ rfl hn hl.1 rfl (lv_room hcat) d ⟨by have := Y.2.2.1; omega, by have := Y.2.2.2; omega⟩
theorem i_sld {F : Nat → Option va_E} {ad : Nat → Nat} {b0 L : Nat} {xs : Nat → Int32} (X : k_X y cc nL ret D p s m me c A) (hX : va_X b0 L xs s s.heap) (hb0 : b0 < s.heap.size) (hbA : ¬ A b0) {i : Int32} (hin : vp_in i L) (d : decode cc pc = .ok (.iaload, 1)) (k : In y cc nL ret rm D p l e s m a b me c A Q mc ms F ad (pc + 1) ls (.int (xs i.toNatClampNeg) :: st)) : In y cc nL ret rm D p l e s m a b me c A Q mc ms F ad pc ls (.int i :: .ref b0 :: st) := fun H lo cl sl Y la hl => va_sld X.1 X.2.1 hX hb0 hbA Y.2.1 hin d (k H lo cl sl Y la hl)
theorem i_slen {F : Nat → Option va_E} {ad : Nat → Nat} {b0 L : Nat} {xs : Nat → Int32} (X : k_X y cc nL ret D p s m me c A) (hX : va_X b0 L xs s s.heap) (hb0 : b0 < s.heap.size) (hbA : ¬ A b0) (d : decode cc pc = .ok (.arraylength, 1)) (k : In y cc nL ret rm D p l e s m a b me c A Q mc ms F ad (pc + 1) ls (.int (Int32.ofNat L) :: st)) : In y cc nL ret rm D p l e s m a b me c A Q mc ms F ad pc ls (.ref b0 :: st) := fun H lo cl sl Y la hl => va_slen X.1 X.2.1 hX hb0 hbA Y.2.1 d (k H lo cl sl Y la hl)
theorem i_tableIn {F : Nat → Option va_E} {ad : Nat → Nat} {i : Nat} {dflt lo hi : Int} {offs : Array Int} {x : Int32} {o : Int} {t : Nat} (X : k_X y cc nL ret D p s m me c A) (d : decode cc pc = .ok (.tableswitch dflt lo hi offs, i)) (h1 : ¬ x.toInt < lo) (h2 : ¬ hi < x.toInt) (ho : offs[(x.toInt - lo).toNat]? = some o) (ht : (pc : Int) + o = (t : Int)) (k : In y cc nL ret rm D p l e s m a b me c A Q mc ms F ad t ls st) : In y cc nL ret rm D p l e s m a b me c A Q mc ms F ad pc ls (.int x :: st) := fun H lo cl sl Y la hl => lv_tableIn X.1 X.2.1 d h1 h2 ho ht (k H lo cl sl Y la hl)
theorem i_tableOut {F : Nat → Option va_E} {ad : Nat → Nat} {i : Nat} {dflt lo hi : Int} {offs : Array Int} {x : Int32} {t : Nat} (X : k_X y cc nL ret D p s m me c A) (d : decode cc pc = .ok (.tableswitch dflt lo hi offs, i)) (h : x.toInt < lo ∨ hi < x.toInt) (ht : (pc : Int) + dflt = (t : Int)) (k : In y cc nL ret rm D p l e s m a b me c A Q mc ms F ad t ls st) : In y cc nL ret rm D p l e s m a b me c A Q mc ms F ad pc ls (.int x :: st) := fun H lo cl sl Y la hl => lv_tableOut X.1 X.2.1 d h ht (k H lo cl sl Y la hl)
end LAWR
/-- the law's locals -/
abbrev lwLs (b0 : Nat) (D : k_D) (i : Int32) : List (Nat × Value) := [(3, .int i), (0, .ref b0), (1, .ref (D.2.2 48)), (2, .ref (D.2.2 51))]
set_option maxRecDepth 100000 in
set_option maxHeartbeats 4000000 in
theorem lc_tune {rm : Room} {D : k_D} {p : Program} {l : Launch} {e : Env} {s : State} {m : MethodId} {a : Array Value} {b : List Frame} {me : Method} {c : Code} {A : Nat → Prop} {Q : State → Prop} {b0 L : Nat} {xs : Nat → Int32} (X : k_X yL_law cL_law 4 (some .boolean) D p s m me c A) (hX : va_X b0 L xs s s.heap) (hb0 : b0 < s.heap.size) (hbA : ¬ A b0) (hrm : 200 ≤ rm.frames ∧ 20000 ≤ rm.locals) {mc ms : Nat} (hmc : 15 ≤ mc) (hms : 800 ≤ ms) {dy : Nat → Nat} {S : St} {i : Int32} (hI : Inv S) (hin : ∀ j, j ≤ 5 → vp_in (i + nI j) L)
    (kk : ∀ dy1 S1 mc1 ms1, mc ≤ mc1 + 15 → ms ≤ ms1 + 800 → Inv S1 → In yL_law cL_law 4 (some .boolean) rm D p l e s m a b me c A Q mc1 ms1 (k_cell D dy1 S1) (k_ad D dy1) 1217 (lwLs b0 D i) []) : In yL_law cL_law 4 (some .boolean) rm D p l e s m a b me c A Q mc ms (k_cell D dy S) (k_ad D dy) 196 (lwLs b0 D i) [] := by
  obtain ⟨v, S1, S2, h1, h2, hI2⟩ := (p_tune (xs (i + nI 1).toNatClampNeg)) S hI
  refine i_aload_n X 2 dL_law_196 rfl rfl ?_
  refine i_aload_n X 1 dL_law_197 rfl rfl ?_
  refine i_iload_n X 0 dL_law_198 rfl rfl ?_
  refine i_iconst X (v := 1) dL_law_199 rfl ?_
  refine i_iadd X dL_law_200 ?_
  refine i_sld X hX hb0 hbA (hin 1 (by decide)) dL_law_201 ?_
  refine i_callV X [.int (xs (i + nI 1).toNatClampNeg)] [] (ok_X11_tune h1) q_636 q_637 q_638 q_639 q_141 hd_X11_tune (ce_48 D _ _) kc11.1 rfl ⟨Nat.le_trans (Nat.le_of_ble_eq_true rfl) hrm.1, Nat.le_trans (Nat.le_of_ble_eq_true rfl) hrm.2⟩ (Nat.zero_le _) (Nat.zero_le _) rfl rfl (Nat.le_of_ble_eq_true rfl) dL_law_202 ?_
  rintro _ _ _ ⟨rfl, rfl, rfl⟩
  refine i_aload_n X 3 dL_law_205 rfl rfl ?_
  refine i_aload_n X 1 dL_law_206 rfl rfl ?_
  refine i_iload_n X 0 dL_law_207 rfl rfl ?_
  refine i_iconst X (v := 1) dL_law_208 rfl ?_
  refine i_iadd X dL_law_209 ?_
  refine i_sld X hX hb0 hbA (hin 1 (by decide)) dL_law_210 ?_
  refine i_callV X [.int (xs (i + nI 1).toNatClampNeg)] [.int v] (ok_X12_tune h2) q_1492 q_1493 q_1494 q_1495 q_153 hd_X12_tune (ce_51 D _ _) kc12.1 rfl ⟨Nat.le_trans (Nat.le_of_ble_eq_true rfl) hrm.1, Nat.le_trans (Nat.le_of_ble_eq_true rfl) hrm.2⟩ (Nat.zero_le _) (Nat.zero_le _) rfl rfl (Nat.le_of_ble_eq_true rfl) dL_law_211 ?_
  rintro _ _ _ ⟨rfl, rfl, rfl⟩
  refine i_icmp_eq X (t := 1217) dL_law_214 (by decide) (fun _ => ?_) (fun z => absurd rfl z)
  exact kk _ _ _ _ (show mc ≤ mc + 15 by omega) (show ms ≤ ms + 800 by omega) hI2
set_option maxRecDepth 100000 in
set_option maxHeartbeats 4000000 in
theorem lc_length {rm : Room} {D : k_D} {p : Program} {l : Launch} {e : Env} {s : State} {m : MethodId} {a : Array Value} {b : List Frame} {me : Method} {c : Code} {A : Nat → Prop} {Q : State → Prop} {b0 L : Nat} {xs : Nat → Int32} (X : k_X yL_law cL_law 4 (some .boolean) D p s m me c A) (hX : va_X b0 L xs s s.heap) (hb0 : b0 < s.heap.size) (hbA : ¬ A b0) (hrm : 200 ≤ rm.frames ∧ 20000 ≤ rm.locals) {mc ms : Nat} (hmc : 15 ≤ mc) (hms : 800 ≤ ms) {dy : Nat → Nat} {S : St} {i : Int32} (hI : Inv S) (hin : ∀ j, j ≤ 5 → vp_in (i + nI j) L)
    (kk : ∀ dy1 S1 mc1 ms1, mc ≤ mc1 + 15 → ms ≤ ms1 + 800 → Inv S1 → In yL_law cL_law 4 (some .boolean) rm D p l e s m a b me c A Q mc1 ms1 (k_cell D dy1 S1) (k_ad D dy1) 1217 (lwLs b0 D i) []) : In yL_law cL_law 4 (some .boolean) rm D p l e s m a b me c A Q mc ms (k_cell D dy S) (k_ad D dy) 219 (lwLs b0 D i) [] := by
  obtain ⟨v, S1, S2, h1, h2, hI2⟩ := (p_length (xs (i + nI 1).toNatClampNeg)) S hI
  refine i_aload_n X 2 dL_law_219 rfl rfl ?_
  refine i_aload_n X 1 dL_law_220 rfl rfl ?_
  refine i_iload_n X 0 dL_law_221 rfl rfl ?_
  refine i_iconst X (v := 1) dL_law_222 rfl ?_
  refine i_iadd X dL_law_223 ?_
  refine i_sld X hX hb0 hbA (hin 1 (by decide)) dL_law_224 ?_
  refine i_callV X [.int (xs (i + nI 1).toNatClampNeg)] [] (ok_X11_length h1) q_652 q_653 q_654 q_655 q_141 hd_X11_length (ce_48 D _ _) kc11.1 rfl ⟨Nat.le_trans (Nat.le_of_ble_eq_true rfl) hrm.1, Nat.le_trans (Nat.le_of_ble_eq_true rfl) hrm.2⟩ (Nat.zero_le _) (Nat.zero_le _) rfl rfl (Nat.le_of_ble_eq_true rfl) dL_law_225 ?_
  rintro _ _ _ ⟨rfl, rfl, rfl⟩
  refine i_aload_n X 3 dL_law_228 rfl rfl ?_
  refine i_aload_n X 1 dL_law_229 rfl rfl ?_
  refine i_iload_n X 0 dL_law_230 rfl rfl ?_
  refine i_iconst X (v := 1) dL_law_231 rfl ?_
  refine i_iadd X dL_law_232 ?_
  refine i_sld X hX hb0 hbA (hin 1 (by decide)) dL_law_233 ?_
  refine i_callV X [.int (xs (i + nI 1).toNatClampNeg)] [.int v] (ok_X12_length h2) q_1497 q_1498 q_1499 q_1500 q_153 hd_X12_length (ce_51 D _ _) kc12.1 rfl ⟨Nat.le_trans (Nat.le_of_ble_eq_true rfl) hrm.1, Nat.le_trans (Nat.le_of_ble_eq_true rfl) hrm.2⟩ (Nat.zero_le _) (Nat.zero_le _) rfl rfl (Nat.le_of_ble_eq_true rfl) dL_law_234 ?_
  rintro _ _ _ ⟨rfl, rfl, rfl⟩
  refine i_icmp_eq X (t := 1217) dL_law_237 (by decide) (fun _ => ?_) (fun z => absurd rfl z)
  exact kk _ _ _ _ (show mc ≤ mc + 15 by omega) (show ms ≤ ms + 800 by omega) hI2
set_option maxRecDepth 100000 in
set_option maxHeartbeats 4000000 in
theorem lc_owe {rm : Room} {D : k_D} {p : Program} {l : Launch} {e : Env} {s : State} {m : MethodId} {a : Array Value} {b : List Frame} {me : Method} {c : Code} {A : Nat → Prop} {Q : State → Prop} {b0 L : Nat} {xs : Nat → Int32} (X : k_X yL_law cL_law 4 (some .boolean) D p s m me c A) (hX : va_X b0 L xs s s.heap) (hb0 : b0 < s.heap.size) (hbA : ¬ A b0) (hrm : 200 ≤ rm.frames ∧ 20000 ≤ rm.locals) {mc ms : Nat} (hmc : 15 ≤ mc) (hms : 800 ≤ ms) {dy : Nat → Nat} {S : St} {i : Int32} (hI : Inv S) (hin : ∀ j, j ≤ 5 → vp_in (i + nI j) L)
    (kk : ∀ dy1 S1 mc1 ms1, mc ≤ mc1 + 15 → ms ≤ ms1 + 800 → Inv S1 → In yL_law cL_law 4 (some .boolean) rm D p l e s m a b me c A Q mc1 ms1 (k_cell D dy1 S1) (k_ad D dy1) 1217 (lwLs b0 D i) []) : In yL_law cL_law 4 (some .boolean) rm D p l e s m a b me c A Q mc ms (k_cell D dy S) (k_ad D dy) 242 (lwLs b0 D i) [] := by
  obtain ⟨v, S1, S2, h1, h2, hI2⟩ := (p_owe (xs (i + nI 1).toNatClampNeg) (xs (i + nI 2).toNatClampNeg) (xs (i + nI 3).toNatClampNeg) (xs (i + nI 4).toNatClampNeg)) S hI
  refine i_aload_n X 2 dL_law_242 rfl rfl ?_
  refine i_aload_n X 1 dL_law_243 rfl rfl ?_
  refine i_iload_n X 0 dL_law_244 rfl rfl ?_
  refine i_iconst X (v := 1) dL_law_245 rfl ?_
  refine i_iadd X dL_law_246 ?_
  refine i_sld X hX hb0 hbA (hin 1 (by decide)) dL_law_247 ?_
  refine i_aload_n X 1 dL_law_248 rfl rfl ?_
  refine i_iload_n X 0 dL_law_249 rfl rfl ?_
  refine i_iconst X (v := 2) dL_law_250 rfl ?_
  refine i_iadd X dL_law_251 ?_
  refine i_sld X hX hb0 hbA (hin 2 (by decide)) dL_law_252 ?_
  refine i_aload_n X 1 dL_law_253 rfl rfl ?_
  refine i_iload_n X 0 dL_law_254 rfl rfl ?_
  refine i_iconst X (v := 3) dL_law_255 rfl ?_
  refine i_iadd X dL_law_256 ?_
  refine i_sld X hX hb0 hbA (hin 3 (by decide)) dL_law_257 ?_
  refine i_aload_n X 1 dL_law_258 rfl rfl ?_
  refine i_iload_n X 0 dL_law_259 rfl rfl ?_
  refine i_iconst X (v := 4) dL_law_260 rfl ?_
  refine i_iadd X dL_law_261 ?_
  refine i_sld X hX hb0 hbA (hin 4 (by decide)) dL_law_262 ?_
  refine i_callV X [.int (xs (i + nI 1).toNatClampNeg), .int (xs (i + nI 2).toNatClampNeg), .int (xs (i + nI 3).toNatClampNeg), .int (xs (i + nI 4).toNatClampNeg)] [] (ok_X11_owe h1) q_660 q_661 q_662 q_663 q_141 hd_X11_owe (ce_48 D _ _) kc11.1 rfl ⟨Nat.le_trans (Nat.le_of_ble_eq_true rfl) hrm.1, Nat.le_trans (Nat.le_of_ble_eq_true rfl) hrm.2⟩ (Nat.zero_le _) (Nat.zero_le _) rfl rfl (Nat.le_of_ble_eq_true rfl) dL_law_263 ?_
  rintro _ _ _ ⟨rfl, rfl, rfl⟩
  refine i_aload_n X 3 dL_law_266 rfl rfl ?_
  refine i_aload_n X 1 dL_law_267 rfl rfl ?_
  refine i_iload_n X 0 dL_law_268 rfl rfl ?_
  refine i_iconst X (v := 1) dL_law_269 rfl ?_
  refine i_iadd X dL_law_270 ?_
  refine i_sld X hX hb0 hbA (hin 1 (by decide)) dL_law_271 ?_
  refine i_aload_n X 1 dL_law_272 rfl rfl ?_
  refine i_iload_n X 0 dL_law_273 rfl rfl ?_
  refine i_iconst X (v := 2) dL_law_274 rfl ?_
  refine i_iadd X dL_law_275 ?_
  refine i_sld X hX hb0 hbA (hin 2 (by decide)) dL_law_276 ?_
  refine i_aload_n X 1 dL_law_277 rfl rfl ?_
  refine i_iload_n X 0 dL_law_278 rfl rfl ?_
  refine i_iconst X (v := 3) dL_law_279 rfl ?_
  refine i_iadd X dL_law_280 ?_
  refine i_sld X hX hb0 hbA (hin 3 (by decide)) dL_law_281 ?_
  refine i_aload_n X 1 dL_law_282 rfl rfl ?_
  refine i_iload_n X 0 dL_law_283 rfl rfl ?_
  refine i_iconst X (v := 4) dL_law_284 rfl ?_
  refine i_iadd X dL_law_285 ?_
  refine i_sld X hX hb0 hbA (hin 4 (by decide)) dL_law_286 ?_
  refine i_callV X [.int (xs (i + nI 1).toNatClampNeg), .int (xs (i + nI 2).toNatClampNeg), .int (xs (i + nI 3).toNatClampNeg), .int (xs (i + nI 4).toNatClampNeg)] [.int v] (ok_X12_owe h2) q_1505 q_1506 q_1507 q_1508 q_153 hd_X12_owe (ce_51 D _ _) kc12.1 rfl ⟨Nat.le_trans (Nat.le_of_ble_eq_true rfl) hrm.1, Nat.le_trans (Nat.le_of_ble_eq_true rfl) hrm.2⟩ (Nat.zero_le _) (Nat.zero_le _) rfl rfl (Nat.le_of_ble_eq_true rfl) dL_law_287 ?_
  rintro _ _ _ ⟨rfl, rfl, rfl⟩
  refine i_icmp_eq X (t := 1217) dL_law_290 (by decide) (fun _ => ?_) (fun z => absurd rfl z)
  exact kk _ _ _ _ (show mc ≤ mc + 15 by omega) (show ms ≤ ms + 800 by omega) hI2
set_option maxRecDepth 100000 in
set_option maxHeartbeats 4000000 in
theorem lc_of {rm : Room} {D : k_D} {p : Program} {l : Launch} {e : Env} {s : State} {m : MethodId} {a : Array Value} {b : List Frame} {me : Method} {c : Code} {A : Nat → Prop} {Q : State → Prop} {b0 L : Nat} {xs : Nat → Int32} (X : k_X yL_law cL_law 4 (some .boolean) D p s m me c A) (hX : va_X b0 L xs s s.heap) (hb0 : b0 < s.heap.size) (hbA : ¬ A b0) (hrm : 200 ≤ rm.frames ∧ 20000 ≤ rm.locals) {mc ms : Nat} (hmc : 15 ≤ mc) (hms : 800 ≤ ms) {dy : Nat → Nat} {S : St} {i : Int32} (hI : Inv S) (hin : ∀ j, j ≤ 5 → vp_in (i + nI j) L)
    (kk : ∀ dy1 S1 mc1 ms1, mc ≤ mc1 + 15 → ms ≤ ms1 + 800 → Inv S1 → In yL_law cL_law 4 (some .boolean) rm D p l e s m a b me c A Q mc1 ms1 (k_cell D dy1 S1) (k_ad D dy1) 1217 (lwLs b0 D i) []) : In yL_law cL_law 4 (some .boolean) rm D p l e s m a b me c A Q mc ms (k_cell D dy S) (k_ad D dy) 295 (lwLs b0 D i) [] := by
  obtain ⟨v, S1, S2, h1, h2, hI2⟩ := (p_of (xs (i + nI 1).toNatClampNeg) (xs (i + nI 2).toNatClampNeg)) S hI
  refine i_aload_n X 2 dL_law_295 rfl rfl ?_
  refine i_aload_n X 1 dL_law_296 rfl rfl ?_
  refine i_iload_n X 0 dL_law_297 rfl rfl ?_
  refine i_iconst X (v := 1) dL_law_298 rfl ?_
  refine i_iadd X dL_law_299 ?_
  refine i_sld X hX hb0 hbA (hin 1 (by decide)) dL_law_300 ?_
  refine i_aload_n X 1 dL_law_301 rfl rfl ?_
  refine i_iload_n X 0 dL_law_302 rfl rfl ?_
  refine i_iconst X (v := 2) dL_law_303 rfl ?_
  refine i_iadd X dL_law_304 ?_
  refine i_sld X hX hb0 hbA (hin 2 (by decide)) dL_law_305 ?_
  refine i_callV X [.int (xs (i + nI 1).toNatClampNeg), .int (xs (i + nI 2).toNatClampNeg)] [] (ok_X11_of h1) q_674 q_675 q_676 q_677 q_141 hd_X11_of (ce_48 D _ _) kc11.1 rfl ⟨Nat.le_trans (Nat.le_of_ble_eq_true rfl) hrm.1, Nat.le_trans (Nat.le_of_ble_eq_true rfl) hrm.2⟩ (Nat.zero_le _) (Nat.zero_le _) rfl rfl (Nat.le_of_ble_eq_true rfl) dL_law_306 ?_
  rintro _ _ _ ⟨rfl, rfl, rfl⟩
  refine i_aload_n X 3 dL_law_309 rfl rfl ?_
  refine i_aload_n X 1 dL_law_310 rfl rfl ?_
  refine i_iload_n X 0 dL_law_311 rfl rfl ?_
  refine i_iconst X (v := 1) dL_law_312 rfl ?_
  refine i_iadd X dL_law_313 ?_
  refine i_sld X hX hb0 hbA (hin 1 (by decide)) dL_law_314 ?_
  refine i_aload_n X 1 dL_law_315 rfl rfl ?_
  refine i_iload_n X 0 dL_law_316 rfl rfl ?_
  refine i_iconst X (v := 2) dL_law_317 rfl ?_
  refine i_iadd X dL_law_318 ?_
  refine i_sld X hX hb0 hbA (hin 2 (by decide)) dL_law_319 ?_
  refine i_callV X [.int (xs (i + nI 1).toNatClampNeg), .int (xs (i + nI 2).toNatClampNeg)] [.int v] (ok_X12_of h2) q_1525 q_1526 q_1527 q_1528 q_153 hd_X12_of (ce_51 D _ _) kc12.1 rfl ⟨Nat.le_trans (Nat.le_of_ble_eq_true rfl) hrm.1, Nat.le_trans (Nat.le_of_ble_eq_true rfl) hrm.2⟩ (Nat.zero_le _) (Nat.zero_le _) rfl rfl (Nat.le_of_ble_eq_true rfl) dL_law_320 ?_
  rintro _ _ _ ⟨rfl, rfl, rfl⟩
  refine i_icmp_eq X (t := 1217) dL_law_323 (by decide) (fun _ => ?_) (fun z => absurd rfl z)
  exact kk _ _ _ _ (show mc ≤ mc + 15 by omega) (show ms ≤ ms + 800 by omega) hI2
set_option maxRecDepth 100000 in
set_option maxHeartbeats 4000000 in
theorem lc_pay {rm : Room} {D : k_D} {p : Program} {l : Launch} {e : Env} {s : State} {m : MethodId} {a : Array Value} {b : List Frame} {me : Method} {c : Code} {A : Nat → Prop} {Q : State → Prop} {b0 L : Nat} {xs : Nat → Int32} (X : k_X yL_law cL_law 4 (some .boolean) D p s m me c A) (hX : va_X b0 L xs s s.heap) (hb0 : b0 < s.heap.size) (hbA : ¬ A b0) (hrm : 200 ≤ rm.frames ∧ 20000 ≤ rm.locals) {mc ms : Nat} (hmc : 15 ≤ mc) (hms : 800 ≤ ms) {dy : Nat → Nat} {S : St} {i : Int32} (hI : Inv S) (hin : ∀ j, j ≤ 5 → vp_in (i + nI j) L)
    (kk : ∀ dy1 S1 mc1 ms1, mc ≤ mc1 + 15 → ms ≤ ms1 + 800 → Inv S1 → In yL_law cL_law 4 (some .boolean) rm D p l e s m a b me c A Q mc1 ms1 (k_cell D dy1 S1) (k_ad D dy1) 1217 (lwLs b0 D i) []) : In yL_law cL_law 4 (some .boolean) rm D p l e s m a b me c A Q mc ms (k_cell D dy S) (k_ad D dy) 328 (lwLs b0 D i) [] := by
  obtain ⟨v, S1, S2, h1, h2, hI2⟩ := (p_pay (xs (i + nI 1).toNatClampNeg) (xs (i + nI 2).toNatClampNeg)) S hI
  refine i_aload_n X 2 dL_law_328 rfl rfl ?_
  refine i_aload_n X 1 dL_law_329 rfl rfl ?_
  refine i_iload_n X 0 dL_law_330 rfl rfl ?_
  refine i_iconst X (v := 1) dL_law_331 rfl ?_
  refine i_iadd X dL_law_332 ?_
  refine i_sld X hX hb0 hbA (hin 1 (by decide)) dL_law_333 ?_
  refine i_aload_n X 1 dL_law_334 rfl rfl ?_
  refine i_iload_n X 0 dL_law_335 rfl rfl ?_
  refine i_iconst X (v := 2) dL_law_336 rfl ?_
  refine i_iadd X dL_law_337 ?_
  refine i_sld X hX hb0 hbA (hin 2 (by decide)) dL_law_338 ?_
  refine i_callV X [.int (xs (i + nI 1).toNatClampNeg), .int (xs (i + nI 2).toNatClampNeg)] [] (ok_X11_pay h1) q_747 q_748 q_749 q_750 q_141 hd_X11_pay (ce_48 D _ _) kc11.1 rfl ⟨Nat.le_trans (Nat.le_of_ble_eq_true rfl) hrm.1, Nat.le_trans (Nat.le_of_ble_eq_true rfl) hrm.2⟩ (Nat.zero_le _) (Nat.zero_le _) rfl rfl (Nat.le_of_ble_eq_true rfl) dL_law_339 ?_
  rintro _ _ _ ⟨rfl, rfl, rfl⟩
  refine i_aload_n X 3 dL_law_342 rfl rfl ?_
  refine i_aload_n X 1 dL_law_343 rfl rfl ?_
  refine i_iload_n X 0 dL_law_344 rfl rfl ?_
  refine i_iconst X (v := 1) dL_law_345 rfl ?_
  refine i_iadd X dL_law_346 ?_
  refine i_sld X hX hb0 hbA (hin 1 (by decide)) dL_law_347 ?_
  refine i_aload_n X 1 dL_law_348 rfl rfl ?_
  refine i_iload_n X 0 dL_law_349 rfl rfl ?_
  refine i_iconst X (v := 2) dL_law_350 rfl ?_
  refine i_iadd X dL_law_351 ?_
  refine i_sld X hX hb0 hbA (hin 2 (by decide)) dL_law_352 ?_
  refine i_callV X [.int (xs (i + nI 1).toNatClampNeg), .int (xs (i + nI 2).toNatClampNeg)] [.int v] (ok_X12_pay h2) q_1564 q_1565 q_1566 q_1567 q_153 hd_X12_pay (ce_51 D _ _) kc12.1 rfl ⟨Nat.le_trans (Nat.le_of_ble_eq_true rfl) hrm.1, Nat.le_trans (Nat.le_of_ble_eq_true rfl) hrm.2⟩ (Nat.zero_le _) (Nat.zero_le _) rfl rfl (Nat.le_of_ble_eq_true rfl) dL_law_353 ?_
  rintro _ _ _ ⟨rfl, rfl, rfl⟩
  refine i_icmp_eq X (t := 1217) dL_law_356 (by decide) (fun _ => ?_) (fun z => absurd rfl z)
  exact kk _ _ _ _ (show mc ≤ mc + 15 by omega) (show ms ≤ ms + 800 by omega) hI2
set_option maxRecDepth 100000 in
set_option maxHeartbeats 4000000 in
theorem lc_funeral {rm : Room} {D : k_D} {p : Program} {l : Launch} {e : Env} {s : State} {m : MethodId} {a : Array Value} {b : List Frame} {me : Method} {c : Code} {A : Nat → Prop} {Q : State → Prop} {b0 L : Nat} {xs : Nat → Int32} (X : k_X yL_law cL_law 4 (some .boolean) D p s m me c A) (hX : va_X b0 L xs s s.heap) (hb0 : b0 < s.heap.size) (hbA : ¬ A b0) (hrm : 200 ≤ rm.frames ∧ 20000 ≤ rm.locals) {mc ms : Nat} (hmc : 15 ≤ mc) (hms : 800 ≤ ms) {dy : Nat → Nat} {S : St} {i : Int32} (hI : Inv S) (hin : ∀ j, j ≤ 5 → vp_in (i + nI j) L)
    (kk : ∀ dy1 S1 mc1 ms1, mc ≤ mc1 + 15 → ms ≤ ms1 + 800 → Inv S1 → In yL_law cL_law 4 (some .boolean) rm D p l e s m a b me c A Q mc1 ms1 (k_cell D dy1 S1) (k_ad D dy1) 1217 (lwLs b0 D i) []) : In yL_law cL_law 4 (some .boolean) rm D p l e s m a b me c A Q mc ms (k_cell D dy S) (k_ad D dy) 361 (lwLs b0 D i) [] := by
  obtain ⟨v, S1, S2, h1, h2, hI2⟩ := (p_funeral (xs (i + nI 1).toNatClampNeg)) S hI
  refine i_aload_n X 2 dL_law_361 rfl rfl ?_
  refine i_aload_n X 1 dL_law_362 rfl rfl ?_
  refine i_iload_n X 0 dL_law_363 rfl rfl ?_
  refine i_iconst X (v := 1) dL_law_364 rfl ?_
  refine i_iadd X dL_law_365 ?_
  refine i_sld X hX hb0 hbA (hin 1 (by decide)) dL_law_366 ?_
  refine i_callV X [.int (xs (i + nI 1).toNatClampNeg)] [] (ok_X11_funeral h1) q_755 q_756 q_757 q_758 q_141 hd_X11_funeral (ce_48 D _ _) kc11.1 rfl ⟨Nat.le_trans (Nat.le_of_ble_eq_true rfl) hrm.1, Nat.le_trans (Nat.le_of_ble_eq_true rfl) hrm.2⟩ (Nat.zero_le _) (Nat.zero_le _) rfl rfl (Nat.le_of_ble_eq_true rfl) dL_law_367 ?_
  rintro _ _ _ ⟨rfl, rfl, rfl⟩
  refine i_aload_n X 3 dL_law_370 rfl rfl ?_
  refine i_aload_n X 1 dL_law_371 rfl rfl ?_
  refine i_iload_n X 0 dL_law_372 rfl rfl ?_
  refine i_iconst X (v := 1) dL_law_373 rfl ?_
  refine i_iadd X dL_law_374 ?_
  refine i_sld X hX hb0 hbA (hin 1 (by decide)) dL_law_375 ?_
  refine i_callV X [.int (xs (i + nI 1).toNatClampNeg)] [.int v] (ok_X12_funeral h2) q_1572 q_1573 q_1574 q_1575 q_153 hd_X12_funeral (ce_51 D _ _) kc12.1 rfl ⟨Nat.le_trans (Nat.le_of_ble_eq_true rfl) hrm.1, Nat.le_trans (Nat.le_of_ble_eq_true rfl) hrm.2⟩ (Nat.zero_le _) (Nat.zero_le _) rfl rfl (Nat.le_of_ble_eq_true rfl) dL_law_376 ?_
  rintro _ _ _ ⟨rfl, rfl, rfl⟩
  refine i_icmp_eq X (t := 1217) dL_law_379 (by decide) (fun _ => ?_) (fun z => absurd rfl z)
  exact kk _ _ _ _ (show mc ≤ mc + 15 by omega) (show ms ≤ ms + 800 by omega) hI2
set_option maxRecDepth 100000 in
set_option maxHeartbeats 4000000 in
theorem lc_terms {rm : Room} {D : k_D} {p : Program} {l : Launch} {e : Env} {s : State} {m : MethodId} {a : Array Value} {b : List Frame} {me : Method} {c : Code} {A : Nat → Prop} {Q : State → Prop} {b0 L : Nat} {xs : Nat → Int32} (X : k_X yL_law cL_law 4 (some .boolean) D p s m me c A) (hX : va_X b0 L xs s s.heap) (hb0 : b0 < s.heap.size) (hbA : ¬ A b0) (hrm : 200 ≤ rm.frames ∧ 20000 ≤ rm.locals) {mc ms : Nat} (hmc : 15 ≤ mc) (hms : 800 ≤ ms) {dy : Nat → Nat} {S : St} {i : Int32} (hI : Inv S) (hin : ∀ j, j ≤ 5 → vp_in (i + nI j) L)
    (kk : ∀ dy1 S1 mc1 ms1, mc ≤ mc1 + 15 → ms ≤ ms1 + 800 → Inv S1 → In yL_law cL_law 4 (some .boolean) rm D p l e s m a b me c A Q mc1 ms1 (k_cell D dy1 S1) (k_ad D dy1) 1217 (lwLs b0 D i) []) : In yL_law cL_law 4 (some .boolean) rm D p l e s m a b me c A Q mc ms (k_cell D dy S) (k_ad D dy) 384 (lwLs b0 D i) [] := by
  obtain ⟨v, S1, S2, h1, h2, hI2⟩ := (p_terms (xs (i + nI 1).toNatClampNeg) (xs (i + nI 2).toNatClampNeg)) S hI
  refine i_aload_n X 2 dL_law_384 rfl rfl ?_
  refine i_aload_n X 1 dL_law_385 rfl rfl ?_
  refine i_iload_n X 0 dL_law_386 rfl rfl ?_
  refine i_iconst X (v := 1) dL_law_387 rfl ?_
  refine i_iadd X dL_law_388 ?_
  refine i_sld X hX hb0 hbA (hin 1 (by decide)) dL_law_389 ?_
  refine i_aload_n X 1 dL_law_390 rfl rfl ?_
  refine i_iload_n X 0 dL_law_391 rfl rfl ?_
  refine i_iconst X (v := 2) dL_law_392 rfl ?_
  refine i_iadd X dL_law_393 ?_
  refine i_sld X hX hb0 hbA (hin 2 (by decide)) dL_law_394 ?_
  refine i_callV X [.int (xs (i + nI 1).toNatClampNeg), .int (xs (i + nI 2).toNatClampNeg)] [] (ok_X11_terms h1) q_764 q_765 q_766 q_767 q_141 hd_X11_terms (ce_48 D _ _) kc11.1 rfl ⟨Nat.le_trans (Nat.le_of_ble_eq_true rfl) hrm.1, Nat.le_trans (Nat.le_of_ble_eq_true rfl) hrm.2⟩ (Nat.zero_le _) (Nat.zero_le _) rfl rfl (Nat.le_of_ble_eq_true rfl) dL_law_395 ?_
  rintro _ _ _ ⟨rfl, rfl, rfl⟩
  refine i_aload_n X 3 dL_law_398 rfl rfl ?_
  refine i_aload_n X 1 dL_law_399 rfl rfl ?_
  refine i_iload_n X 0 dL_law_400 rfl rfl ?_
  refine i_iconst X (v := 1) dL_law_401 rfl ?_
  refine i_iadd X dL_law_402 ?_
  refine i_sld X hX hb0 hbA (hin 1 (by decide)) dL_law_403 ?_
  refine i_aload_n X 1 dL_law_404 rfl rfl ?_
  refine i_iload_n X 0 dL_law_405 rfl rfl ?_
  refine i_iconst X (v := 2) dL_law_406 rfl ?_
  refine i_iadd X dL_law_407 ?_
  refine i_sld X hX hb0 hbA (hin 2 (by decide)) dL_law_408 ?_
  refine i_callV X [.int (xs (i + nI 1).toNatClampNeg), .int (xs (i + nI 2).toNatClampNeg)] [.int v] (ok_X12_terms h2) q_1576 q_1577 q_1578 q_1579 q_153 hd_X12_terms (ce_51 D _ _) kc12.1 rfl ⟨Nat.le_trans (Nat.le_of_ble_eq_true rfl) hrm.1, Nat.le_trans (Nat.le_of_ble_eq_true rfl) hrm.2⟩ (Nat.zero_le _) (Nat.zero_le _) rfl rfl (Nat.le_of_ble_eq_true rfl) dL_law_409 ?_
  rintro _ _ _ ⟨rfl, rfl, rfl⟩
  refine i_icmp_eq X (t := 1217) dL_law_412 (by decide) (fun _ => ?_) (fun z => absurd rfl z)
  exact kk _ _ _ _ (show mc ≤ mc + 15 by omega) (show ms ≤ ms + 800 by omega) hI2
set_option maxRecDepth 100000 in
set_option maxHeartbeats 4000000 in
theorem lc_feed {rm : Room} {D : k_D} {p : Program} {l : Launch} {e : Env} {s : State} {m : MethodId} {a : Array Value} {b : List Frame} {me : Method} {c : Code} {A : Nat → Prop} {Q : State → Prop} {b0 L : Nat} {xs : Nat → Int32} (X : k_X yL_law cL_law 4 (some .boolean) D p s m me c A) (hX : va_X b0 L xs s s.heap) (hb0 : b0 < s.heap.size) (hbA : ¬ A b0) (hrm : 200 ≤ rm.frames ∧ 20000 ≤ rm.locals) {mc ms : Nat} (hmc : 15 ≤ mc) (hms : 800 ≤ ms) {dy : Nat → Nat} {S : St} {i : Int32} (hI : Inv S) (hin : ∀ j, j ≤ 5 → vp_in (i + nI j) L)
    (kk : ∀ dy1 S1 mc1 ms1, mc ≤ mc1 + 15 → ms ≤ ms1 + 800 → Inv S1 → In yL_law cL_law 4 (some .boolean) rm D p l e s m a b me c A Q mc1 ms1 (k_cell D dy1 S1) (k_ad D dy1) 1217 (lwLs b0 D i) []) : In yL_law cL_law 4 (some .boolean) rm D p l e s m a b me c A Q mc ms (k_cell D dy S) (k_ad D dy) 417 (lwLs b0 D i) [] := by
  obtain ⟨v, S1, S2, h1, h2, hI2⟩ := (p_feed (xs (i + nI 1).toNatClampNeg) (xs (i + nI 2).toNatClampNeg) (xs (i + nI 3).toNatClampNeg) (xs (i + nI 4).toNatClampNeg) (xs (i + nI 5).toNatClampNeg)) S hI
  refine i_aload_n X 2 dL_law_417 rfl rfl ?_
  refine i_aload_n X 1 dL_law_418 rfl rfl ?_
  refine i_iload_n X 0 dL_law_419 rfl rfl ?_
  refine i_iconst X (v := 1) dL_law_420 rfl ?_
  refine i_iadd X dL_law_421 ?_
  refine i_sld X hX hb0 hbA (hin 1 (by decide)) dL_law_422 ?_
  refine i_aload_n X 1 dL_law_423 rfl rfl ?_
  refine i_iload_n X 0 dL_law_424 rfl rfl ?_
  refine i_iconst X (v := 2) dL_law_425 rfl ?_
  refine i_iadd X dL_law_426 ?_
  refine i_sld X hX hb0 hbA (hin 2 (by decide)) dL_law_427 ?_
  refine i_aload_n X 1 dL_law_428 rfl rfl ?_
  refine i_iload_n X 0 dL_law_429 rfl rfl ?_
  refine i_iconst X (v := 3) dL_law_430 rfl ?_
  refine i_iadd X dL_law_431 ?_
  refine i_sld X hX hb0 hbA (hin 3 (by decide)) dL_law_432 ?_
  refine i_aload_n X 1 dL_law_433 rfl rfl ?_
  refine i_iload_n X 0 dL_law_434 rfl rfl ?_
  refine i_iconst X (v := 4) dL_law_435 rfl ?_
  refine i_iadd X dL_law_436 ?_
  refine i_sld X hX hb0 hbA (hin 4 (by decide)) dL_law_437 ?_
  refine i_aload_n X 1 dL_law_438 rfl rfl ?_
  refine i_iload_n X 0 dL_law_439 rfl rfl ?_
  refine i_iconst X (v := 5) dL_law_440 rfl ?_
  refine i_iadd X dL_law_441 ?_
  refine i_sld X hX hb0 hbA (hin 5 (by decide)) dL_law_442 ?_
  refine i_callV X [.int (xs (i + nI 1).toNatClampNeg), .int (xs (i + nI 2).toNatClampNeg), .int (xs (i + nI 3).toNatClampNeg), .int (xs (i + nI 4).toNatClampNeg), .int (xs (i + nI 5).toNatClampNeg)] [] (ok_X11_feed h1) q_768 q_769 q_770 q_771 q_141 hd_X11_feed (ce_48 D _ _) kc11.1 rfl ⟨Nat.le_trans (Nat.le_of_ble_eq_true rfl) hrm.1, Nat.le_trans (Nat.le_of_ble_eq_true rfl) hrm.2⟩ (Nat.zero_le _) (Nat.zero_le _) rfl rfl (Nat.le_of_ble_eq_true rfl) dL_law_443 ?_
  rintro _ _ _ ⟨rfl, rfl, rfl⟩
  refine i_aload_n X 3 dL_law_446 rfl rfl ?_
  refine i_aload_n X 1 dL_law_447 rfl rfl ?_
  refine i_iload_n X 0 dL_law_448 rfl rfl ?_
  refine i_iconst X (v := 1) dL_law_449 rfl ?_
  refine i_iadd X dL_law_450 ?_
  refine i_sld X hX hb0 hbA (hin 1 (by decide)) dL_law_451 ?_
  refine i_aload_n X 1 dL_law_452 rfl rfl ?_
  refine i_iload_n X 0 dL_law_453 rfl rfl ?_
  refine i_iconst X (v := 2) dL_law_454 rfl ?_
  refine i_iadd X dL_law_455 ?_
  refine i_sld X hX hb0 hbA (hin 2 (by decide)) dL_law_456 ?_
  refine i_aload_n X 1 dL_law_457 rfl rfl ?_
  refine i_iload_n X 0 dL_law_458 rfl rfl ?_
  refine i_iconst X (v := 3) dL_law_459 rfl ?_
  refine i_iadd X dL_law_460 ?_
  refine i_sld X hX hb0 hbA (hin 3 (by decide)) dL_law_461 ?_
  refine i_aload_n X 1 dL_law_462 rfl rfl ?_
  refine i_iload_n X 0 dL_law_463 rfl rfl ?_
  refine i_iconst X (v := 4) dL_law_464 rfl ?_
  refine i_iadd X dL_law_465 ?_
  refine i_sld X hX hb0 hbA (hin 4 (by decide)) dL_law_466 ?_
  refine i_aload_n X 1 dL_law_467 rfl rfl ?_
  refine i_iload_n X 0 dL_law_468 rfl rfl ?_
  refine i_iconst X (v := 5) dL_law_469 rfl ?_
  refine i_iadd X dL_law_470 ?_
  refine i_sld X hX hb0 hbA (hin 5 (by decide)) dL_law_471 ?_
  refine i_callV X [.int (xs (i + nI 1).toNatClampNeg), .int (xs (i + nI 2).toNatClampNeg), .int (xs (i + nI 3).toNatClampNeg), .int (xs (i + nI 4).toNatClampNeg), .int (xs (i + nI 5).toNatClampNeg)] [.int v] (ok_X12_feed h2) q_1592 q_1593 q_1594 q_1595 q_153 hd_X12_feed (ce_51 D _ _) kc12.1 rfl ⟨Nat.le_trans (Nat.le_of_ble_eq_true rfl) hrm.1, Nat.le_trans (Nat.le_of_ble_eq_true rfl) hrm.2⟩ (Nat.zero_le _) (Nat.zero_le _) rfl rfl (Nat.le_of_ble_eq_true rfl) dL_law_472 ?_
  rintro _ _ _ ⟨rfl, rfl, rfl⟩
  refine i_icmp_eq X (t := 1217) dL_law_475 (by decide) (fun _ => ?_) (fun z => absurd rfl z)
  exact kk _ _ _ _ (show mc ≤ mc + 15 by omega) (show ms ≤ ms + 800 by omega) hI2
set_option maxRecDepth 100000 in
set_option maxHeartbeats 4000000 in
theorem lc_end {rm : Room} {D : k_D} {p : Program} {l : Launch} {e : Env} {s : State} {m : MethodId} {a : Array Value} {b : List Frame} {me : Method} {c : Code} {A : Nat → Prop} {Q : State → Prop} {b0 L : Nat} {xs : Nat → Int32} (X : k_X yL_law cL_law 4 (some .boolean) D p s m me c A) (hX : va_X b0 L xs s s.heap) (hb0 : b0 < s.heap.size) (hbA : ¬ A b0) (hrm : 200 ≤ rm.frames ∧ 20000 ≤ rm.locals) {mc ms : Nat} (hmc : 15 ≤ mc) (hms : 800 ≤ ms) {dy : Nat → Nat} {S : St} {i : Int32} (hI : Inv S) (hin : ∀ j, j ≤ 5 → vp_in (i + nI j) L)
    (kk : ∀ dy1 S1 mc1 ms1, mc ≤ mc1 + 15 → ms ≤ ms1 + 800 → Inv S1 → In yL_law cL_law 4 (some .boolean) rm D p l e s m a b me c A Q mc1 ms1 (k_cell D dy1 S1) (k_ad D dy1) 1217 (lwLs b0 D i) []) : In yL_law cL_law 4 (some .boolean) rm D p l e s m a b me c A Q mc ms (k_cell D dy S) (k_ad D dy) 480 (lwLs b0 D i) [] := by
  obtain ⟨v, S1, S2, h1, h2, hI2⟩ := (p_end (xs (i + nI 1).toNatClampNeg)) S hI
  refine i_aload_n X 2 dL_law_480 rfl rfl ?_
  refine i_aload_n X 1 dL_law_481 rfl rfl ?_
  refine i_iload_n X 0 dL_law_482 rfl rfl ?_
  refine i_iconst X (v := 1) dL_law_483 rfl ?_
  refine i_iadd X dL_law_484 ?_
  refine i_sld X hX hb0 hbA (hin 1 (by decide)) dL_law_485 ?_
  refine i_callV X [.int (xs (i + nI 1).toNatClampNeg)] [] (ok_X11_end h1) q_780 q_781 q_782 q_783 q_141 hd_X11_end (ce_48 D _ _) kc11.1 rfl ⟨Nat.le_trans (Nat.le_of_ble_eq_true rfl) hrm.1, Nat.le_trans (Nat.le_of_ble_eq_true rfl) hrm.2⟩ (Nat.zero_le _) (Nat.zero_le _) rfl rfl (Nat.le_of_ble_eq_true rfl) dL_law_486 ?_
  rintro _ _ _ ⟨rfl, rfl, rfl⟩
  refine i_aload_n X 3 dL_law_489 rfl rfl ?_
  refine i_aload_n X 1 dL_law_490 rfl rfl ?_
  refine i_iload_n X 0 dL_law_491 rfl rfl ?_
  refine i_iconst X (v := 1) dL_law_492 rfl ?_
  refine i_iadd X dL_law_493 ?_
  refine i_sld X hX hb0 hbA (hin 1 (by decide)) dL_law_494 ?_
  refine i_callV X [.int (xs (i + nI 1).toNatClampNeg)] [.int v] (ok_X12_end h2) q_1600 q_1601 q_1602 q_1603 q_153 hd_X12_end (ce_51 D _ _) kc12.1 rfl ⟨Nat.le_trans (Nat.le_of_ble_eq_true rfl) hrm.1, Nat.le_trans (Nat.le_of_ble_eq_true rfl) hrm.2⟩ (Nat.zero_le _) (Nat.zero_le _) rfl rfl (Nat.le_of_ble_eq_true rfl) dL_law_495 ?_
  rintro _ _ _ ⟨rfl, rfl, rfl⟩
  refine i_icmp_eq X (t := 1217) dL_law_498 (by decide) (fun _ => ?_) (fun z => absurd rfl z)
  exact kk _ _ _ _ (show mc ≤ mc + 15 by omega) (show ms ≤ ms + 800 by omega) hI2
set_option maxRecDepth 100000 in
set_option maxHeartbeats 4000000 in
theorem lc_row {rm : Room} {D : k_D} {p : Program} {l : Launch} {e : Env} {s : State} {m : MethodId} {a : Array Value} {b : List Frame} {me : Method} {c : Code} {A : Nat → Prop} {Q : State → Prop} {b0 L : Nat} {xs : Nat → Int32} (X : k_X yL_law cL_law 4 (some .boolean) D p s m me c A) (hX : va_X b0 L xs s s.heap) (hb0 : b0 < s.heap.size) (hbA : ¬ A b0) (hrm : 200 ≤ rm.frames ∧ 20000 ≤ rm.locals) {mc ms : Nat} (hmc : 15 ≤ mc) (hms : 800 ≤ ms) {dy : Nat → Nat} {S : St} {i : Int32} (hI : Inv S) (hin : ∀ j, j ≤ 5 → vp_in (i + nI j) L)
    (kk : ∀ dy1 S1 mc1 ms1, mc ≤ mc1 + 15 → ms ≤ ms1 + 800 → Inv S1 → In yL_law cL_law 4 (some .boolean) rm D p l e s m a b me c A Q mc1 ms1 (k_cell D dy1 S1) (k_ad D dy1) 1217 (lwLs b0 D i) []) : In yL_law cL_law 4 (some .boolean) rm D p l e s m a b me c A Q mc ms (k_cell D dy S) (k_ad D dy) 503 (lwLs b0 D i) [] := by
  obtain ⟨v, S1, S2, h1, h2, hI2⟩ := p_row S hI
  refine i_aload_n X 2 dL_law_503 rfl rfl ?_
  refine i_callV X [] [] (ok_X11_row h1) q_784 q_785 q_786 q_787 q_141 hd_X11_row (ce_48 D _ _) kc11.1 rfl ⟨Nat.le_trans (Nat.le_of_ble_eq_true rfl) hrm.1, Nat.le_trans (Nat.le_of_ble_eq_true rfl) hrm.2⟩ (Nat.zero_le _) (Nat.zero_le _) rfl rfl (Nat.le_of_ble_eq_true rfl) dL_law_504 ?_
  rintro _ _ _ ⟨rfl, rfl, rfl⟩
  refine i_aload_n X 3 dL_law_507 rfl rfl ?_
  refine i_callV X [] [.int v] (ok_X12_row h2) q_1584 q_1585 q_1586 q_1587 q_153 hd_X12_row (ce_51 D _ _) kc12.1 rfl ⟨Nat.le_trans (Nat.le_of_ble_eq_true rfl) hrm.1, Nat.le_trans (Nat.le_of_ble_eq_true rfl) hrm.2⟩ (Nat.zero_le _) (Nat.zero_le _) rfl rfl (Nat.le_of_ble_eq_true rfl) dL_law_508 ?_
  rintro _ _ _ ⟨rfl, rfl, rfl⟩
  refine i_icmp_eq X (t := 1217) dL_law_511 (by decide) (fun _ => ?_) (fun z => absurd rfl z)
  exact kk _ _ _ _ (show mc ≤ mc + 15 by omega) (show ms ≤ ms + 800 by omega) hI2
set_option maxRecDepth 100000 in
set_option maxHeartbeats 4000000 in
theorem lc_sung {rm : Room} {D : k_D} {p : Program} {l : Launch} {e : Env} {s : State} {m : MethodId} {a : Array Value} {b : List Frame} {me : Method} {c : Code} {A : Nat → Prop} {Q : State → Prop} {b0 L : Nat} {xs : Nat → Int32} (X : k_X yL_law cL_law 4 (some .boolean) D p s m me c A) (hX : va_X b0 L xs s s.heap) (hb0 : b0 < s.heap.size) (hbA : ¬ A b0) (hrm : 200 ≤ rm.frames ∧ 20000 ≤ rm.locals) {mc ms : Nat} (hmc : 15 ≤ mc) (hms : 800 ≤ ms) {dy : Nat → Nat} {S : St} {i : Int32} (hI : Inv S) (hin : ∀ j, j ≤ 5 → vp_in (i + nI j) L)
    (kk : ∀ dy1 S1 mc1 ms1, mc ≤ mc1 + 15 → ms ≤ ms1 + 800 → Inv S1 → In yL_law cL_law 4 (some .boolean) rm D p l e s m a b me c A Q mc1 ms1 (k_cell D dy1 S1) (k_ad D dy1) 1217 (lwLs b0 D i) []) : In yL_law cL_law 4 (some .boolean) rm D p l e s m a b me c A Q mc ms (k_cell D dy S) (k_ad D dy) 516 (lwLs b0 D i) [] := by
  obtain ⟨v, S1, S2, h1, h2, hI2⟩ := p_sung S hI
  refine i_aload_n X 2 dL_law_516 rfl rfl ?_
  refine i_callV X [] [] (ok_X11_sung h1) q_796 q_797 q_798 q_799 q_141 hd_X11_sung (ce_48 D _ _) kc11.1 rfl ⟨Nat.le_trans (Nat.le_of_ble_eq_true rfl) hrm.1, Nat.le_trans (Nat.le_of_ble_eq_true rfl) hrm.2⟩ (Nat.zero_le _) (Nat.zero_le _) rfl rfl (Nat.le_of_ble_eq_true rfl) dL_law_517 ?_
  rintro _ _ _ ⟨rfl, rfl, rfl⟩
  refine i_aload_n X 3 dL_law_520 rfl rfl ?_
  refine i_callV X [] [.int v] (ok_X12_sung h2) q_1588 q_1589 q_1590 q_1591 q_153 hd_X12_sung (ce_51 D _ _) kc12.1 rfl ⟨Nat.le_trans (Nat.le_of_ble_eq_true rfl) hrm.1, Nat.le_trans (Nat.le_of_ble_eq_true rfl) hrm.2⟩ (Nat.zero_le _) (Nat.zero_le _) rfl rfl (Nat.le_of_ble_eq_true rfl) dL_law_521 ?_
  rintro _ _ _ ⟨rfl, rfl, rfl⟩
  refine i_icmp_eq X (t := 1217) dL_law_524 (by decide) (fun _ => ?_) (fun z => absurd rfl z)
  exact kk _ _ _ _ (show mc ≤ mc + 15 by omega) (show ms ≤ ms + 800 by omega) hI2
set_option maxRecDepth 100000 in
set_option maxHeartbeats 4000000 in
theorem lc_law {rm : Room} {D : k_D} {p : Program} {l : Launch} {e : Env} {s : State} {m : MethodId} {a : Array Value} {b : List Frame} {me : Method} {c : Code} {A : Nat → Prop} {Q : State → Prop} {b0 L : Nat} {xs : Nat → Int32} (hlaw : Pr f_X11_law f_X12_law) (X : k_X yL_law cL_law 4 (some .boolean) D p s m me c A) (hX : va_X b0 L xs s s.heap) (hb0 : b0 < s.heap.size) (hbA : ¬ A b0) (hrm : 200 ≤ rm.frames ∧ 20000 ≤ rm.locals) {mc ms : Nat} (hmc : 15 ≤ mc) (hms : 800 ≤ ms) {dy : Nat → Nat} {S : St} {i : Int32} (hI : Inv S) (hin : ∀ j, j ≤ 5 → vp_in (i + nI j) L)
    (kk : ∀ dy1 S1 mc1 ms1, mc ≤ mc1 + 15 → ms ≤ ms1 + 800 → Inv S1 → In yL_law cL_law 4 (some .boolean) rm D p l e s m a b me c A Q mc1 ms1 (k_cell D dy1 S1) (k_ad D dy1) 1217 (lwLs b0 D i) []) : In yL_law cL_law 4 (some .boolean) rm D p l e s m a b me c A Q mc ms (k_cell D dy S) (k_ad D dy) 529 (lwLs b0 D i) [] := by
  obtain ⟨v, S1, S2, h1, h2, hI2⟩ := hlaw S hI
  refine i_aload_n X 2 dL_law_529 rfl rfl ?_
  refine i_callV X [] [] (ok_X11_law h1) q_800 q_801 q_802 q_803 q_141 hd_X11_law (ce_48 D _ _) kc11.1 rfl ⟨Nat.le_trans (Nat.le_of_ble_eq_true rfl) hrm.1, Nat.le_trans (Nat.le_of_ble_eq_true rfl) hrm.2⟩ (show 1 ≤ mc by omega) (show 800 ≤ ms by omega) rfl rfl (Nat.le_of_ble_eq_true rfl) dL_law_530 ?_
  rintro _ dy _ ⟨rfl, rfl⟩
  refine i_aload_n X 3 dL_law_533 rfl rfl ?_
  refine i_callV X [] [.int v] (ok_X12_law h2) q_1608 q_1609 q_1610 q_1611 q_153 hd_X12_law (ce_51 D _ _) kc12.1 rfl ⟨Nat.le_trans (Nat.le_of_ble_eq_true rfl) hrm.1, Nat.le_trans (Nat.le_of_ble_eq_true rfl) hrm.2⟩ (Nat.zero_le _) (Nat.zero_le _) rfl rfl (Nat.le_of_ble_eq_true rfl) dL_law_534 ?_
  rintro _ _ _ ⟨rfl, rfl, rfl⟩
  refine i_icmp_eq X (t := 1217) dL_law_537 (by decide) (fun _ => ?_) (fun z => absurd rfl z)
  exact kk _ _ _ _ (show mc ≤ mc - 1 + 15 by omega) (show ms ≤ ms - 800 + 800 by omega) hI2
set_option maxRecDepth 100000 in
set_option maxHeartbeats 4000000 in
theorem lc_fault {rm : Room} {D : k_D} {p : Program} {l : Launch} {e : Env} {s : State} {m : MethodId} {a : Array Value} {b : List Frame} {me : Method} {c : Code} {A : Nat → Prop} {Q : State → Prop} {b0 L : Nat} {xs : Nat → Int32} (X : k_X yL_law cL_law 4 (some .boolean) D p s m me c A) (hX : va_X b0 L xs s s.heap) (hb0 : b0 < s.heap.size) (hbA : ¬ A b0) (hrm : 200 ≤ rm.frames ∧ 20000 ≤ rm.locals) {mc ms : Nat} (hmc : 15 ≤ mc) (hms : 800 ≤ ms) {dy : Nat → Nat} {S : St} {i : Int32} (hI : Inv S) (hin : ∀ j, j ≤ 5 → vp_in (i + nI j) L)
    (kk : ∀ dy1 S1 mc1 ms1, mc ≤ mc1 + 15 → ms ≤ ms1 + 800 → Inv S1 → In yL_law cL_law 4 (some .boolean) rm D p l e s m a b me c A Q mc1 ms1 (k_cell D dy1 S1) (k_ad D dy1) 1217 (lwLs b0 D i) []) : In yL_law cL_law 4 (some .boolean) rm D p l e s m a b me c A Q mc ms (k_cell D dy S) (k_ad D dy) 542 (lwLs b0 D i) [] := by
  obtain ⟨v, S1, S2, h1, h2, hI2⟩ := p_fault S hI
  refine i_aload_n X 2 dL_law_542 rfl rfl ?_
  refine i_callV X [] [] (ok_X11_fault h1) q_962 q_963 q_964 q_965 q_141 hd_X11_fault (ce_48 D _ _) kc11.1 rfl ⟨Nat.le_trans (Nat.le_of_ble_eq_true rfl) hrm.1, Nat.le_trans (Nat.le_of_ble_eq_true rfl) hrm.2⟩ (Nat.zero_le _) (Nat.zero_le _) rfl rfl (Nat.le_of_ble_eq_true rfl) dL_law_543 ?_
  rintro _ _ _ ⟨rfl, rfl, rfl⟩
  refine i_aload_n X 3 dL_law_546 rfl rfl ?_
  refine i_callV X [] [.int v] (ok_X12_fault h2) q_1604 q_1605 q_1606 q_1607 q_153 hd_X12_fault (ce_51 D _ _) kc12.1 rfl ⟨Nat.le_trans (Nat.le_of_ble_eq_true rfl) hrm.1, Nat.le_trans (Nat.le_of_ble_eq_true rfl) hrm.2⟩ (Nat.zero_le _) (Nat.zero_le _) rfl rfl (Nat.le_of_ble_eq_true rfl) dL_law_547 ?_
  rintro _ _ _ ⟨rfl, rfl, rfl⟩
  refine i_icmp_eq X (t := 1217) dL_law_550 (by decide) (fun _ => ?_) (fun z => absurd rfl z)
  exact kk _ _ _ _ (show mc ≤ mc + 15 by omega) (show ms ≤ ms + 800 by omega) hI2
set_option maxRecDepth 100000 in
set_option maxHeartbeats 4000000 in
theorem lc_force {rm : Room} {D : k_D} {p : Program} {l : Launch} {e : Env} {s : State} {m : MethodId} {a : Array Value} {b : List Frame} {me : Method} {c : Code} {A : Nat → Prop} {Q : State → Prop} {b0 L : Nat} {xs : Nat → Int32} (X : k_X yL_law cL_law 4 (some .boolean) D p s m me c A) (hX : va_X b0 L xs s s.heap) (hb0 : b0 < s.heap.size) (hbA : ¬ A b0) (hrm : 200 ≤ rm.frames ∧ 20000 ≤ rm.locals) {mc ms : Nat} (hmc : 15 ≤ mc) (hms : 800 ≤ ms) {dy : Nat → Nat} {S : St} {i : Int32} (hI : Inv S) (hin : ∀ j, j ≤ 5 → vp_in (i + nI j) L)
    (kk : ∀ dy1 S1 mc1 ms1, mc ≤ mc1 + 15 → ms ≤ ms1 + 800 → Inv S1 → In yL_law cL_law 4 (some .boolean) rm D p l e s m a b me c A Q mc1 ms1 (k_cell D dy1 S1) (k_ad D dy1) 1217 (lwLs b0 D i) []) : In yL_law cL_law 4 (some .boolean) rm D p l e s m a b me c A Q mc ms (k_cell D dy S) (k_ad D dy) 555 (lwLs b0 D i) [] := by
  obtain ⟨v, S1, S2, h1, h2, hI2⟩ := (p_force (xs (i + nI 1).toNatClampNeg)) S hI
  refine i_aload_n X 2 dL_law_555 rfl rfl ?_
  refine i_aload_n X 1 dL_law_556 rfl rfl ?_
  refine i_iload_n X 0 dL_law_557 rfl rfl ?_
  refine i_iconst X (v := 1) dL_law_558 rfl ?_
  refine i_iadd X dL_law_559 ?_
  refine i_sld X hX hb0 hbA (hin 1 (by decide)) dL_law_560 ?_
  refine i_callV X [.int (xs (i + nI 1).toNatClampNeg)] [] (ok_X11_force h1) q_966 q_967 q_968 q_969 q_141 hd_X11_force (ce_48 D _ _) kc11.1 rfl ⟨Nat.le_trans (Nat.le_of_ble_eq_true rfl) hrm.1, Nat.le_trans (Nat.le_of_ble_eq_true rfl) hrm.2⟩ (Nat.zero_le _) (Nat.zero_le _) rfl rfl (Nat.le_of_ble_eq_true rfl) dL_law_561 ?_
  rintro _ _ _ ⟨rfl, rfl, rfl⟩
  refine i_aload_n X 3 dL_law_564 rfl rfl ?_
  refine i_aload_n X 1 dL_law_565 rfl rfl ?_
  refine i_iload_n X 0 dL_law_566 rfl rfl ?_
  refine i_iconst X (v := 1) dL_law_567 rfl ?_
  refine i_iadd X dL_law_568 ?_
  refine i_sld X hX hb0 hbA (hin 1 (by decide)) dL_law_569 ?_
  refine i_callV X [.int (xs (i + nI 1).toNatClampNeg)] [.int v] (ok_X12_force h2) q_1712 q_1713 q_1714 q_1715 q_153 hd_X12_force (ce_51 D _ _) kc12.1 rfl ⟨Nat.le_trans (Nat.le_of_ble_eq_true rfl) hrm.1, Nat.le_trans (Nat.le_of_ble_eq_true rfl) hrm.2⟩ (Nat.zero_le _) (Nat.zero_le _) rfl rfl (Nat.le_of_ble_eq_true rfl) dL_law_570 ?_
  rintro _ _ _ ⟨rfl, rfl, rfl⟩
  refine i_icmp_eq X (t := 1217) dL_law_573 (by decide) (fun _ => ?_) (fun z => absurd rfl z)
  exact kk _ _ _ _ (show mc ≤ mc + 15 by omega) (show ms ≤ ms + 800 by omega) hI2
set_option maxRecDepth 100000 in
set_option maxHeartbeats 4000000 in
theorem lc_balance {rm : Room} {D : k_D} {p : Program} {l : Launch} {e : Env} {s : State} {m : MethodId} {a : Array Value} {b : List Frame} {me : Method} {c : Code} {A : Nat → Prop} {Q : State → Prop} {b0 L : Nat} {xs : Nat → Int32} (X : k_X yL_law cL_law 4 (some .boolean) D p s m me c A) (hX : va_X b0 L xs s s.heap) (hb0 : b0 < s.heap.size) (hbA : ¬ A b0) (hrm : 200 ≤ rm.frames ∧ 20000 ≤ rm.locals) {mc ms : Nat} (hmc : 15 ≤ mc) (hms : 800 ≤ ms) {dy : Nat → Nat} {S : St} {i : Int32} (hI : Inv S) (hin : ∀ j, j ≤ 5 → vp_in (i + nI j) L)
    (kk : ∀ dy1 S1 mc1 ms1, mc ≤ mc1 + 15 → ms ≤ ms1 + 800 → Inv S1 → In yL_law cL_law 4 (some .boolean) rm D p l e s m a b me c A Q mc1 ms1 (k_cell D dy1 S1) (k_ad D dy1) 1217 (lwLs b0 D i) []) : In yL_law cL_law 4 (some .boolean) rm D p l e s m a b me c A Q mc ms (k_cell D dy S) (k_ad D dy) 578 (lwLs b0 D i) [] := by
  obtain ⟨v, S1, S2, h1, h2, hI2⟩ := (p_balance (xs (i + nI 1).toNatClampNeg)) S hI
  refine i_aload_n X 2 dL_law_578 rfl rfl ?_
  refine i_aload_n X 1 dL_law_579 rfl rfl ?_
  refine i_iload_n X 0 dL_law_580 rfl rfl ?_
  refine i_iconst X (v := 1) dL_law_581 rfl ?_
  refine i_iadd X dL_law_582 ?_
  refine i_sld X hX hb0 hbA (hin 1 (by decide)) dL_law_583 ?_
  refine i_callV X [.int (xs (i + nI 1).toNatClampNeg)] [] (ok_X11_balance h1) q_971 q_972 q_973 q_974 q_141 hd_X11_balance (ce_48 D _ _) kc11.1 rfl ⟨Nat.le_trans (Nat.le_of_ble_eq_true rfl) hrm.1, Nat.le_trans (Nat.le_of_ble_eq_true rfl) hrm.2⟩ (Nat.zero_le _) (Nat.zero_le _) rfl rfl (Nat.le_of_ble_eq_true rfl) dL_law_584 ?_
  rintro _ _ _ ⟨rfl, rfl, rfl⟩
  refine i_aload_n X 3 dL_law_587 rfl rfl ?_
  refine i_aload_n X 1 dL_law_588 rfl rfl ?_
  refine i_iload_n X 0 dL_law_589 rfl rfl ?_
  refine i_iconst X (v := 1) dL_law_590 rfl ?_
  refine i_iadd X dL_law_591 ?_
  refine i_sld X hX hb0 hbA (hin 1 (by decide)) dL_law_592 ?_
  refine i_callV X [.int (xs (i + nI 1).toNatClampNeg)] [.int v] (ok_X12_balance h2) q_1716 q_1717 q_1718 q_1719 q_153 hd_X12_balance (ce_51 D _ _) kc12.1 rfl ⟨Nat.le_trans (Nat.le_of_ble_eq_true rfl) hrm.1, Nat.le_trans (Nat.le_of_ble_eq_true rfl) hrm.2⟩ (Nat.zero_le _) (Nat.zero_le _) rfl rfl (Nat.le_of_ble_eq_true rfl) dL_law_593 ?_
  rintro _ _ _ ⟨rfl, rfl, rfl⟩
  refine i_icmp_eq X (t := 1217) dL_law_596 (by decide) (fun _ => ?_) (fun z => absurd rfl z)
  exact kk _ _ _ _ (show mc ≤ mc + 15 by omega) (show ms ≤ ms + 800 by omega) hI2
set_option maxRecDepth 100000 in
set_option maxHeartbeats 4000000 in
theorem lc_richest {rm : Room} {D : k_D} {p : Program} {l : Launch} {e : Env} {s : State} {m : MethodId} {a : Array Value} {b : List Frame} {me : Method} {c : Code} {A : Nat → Prop} {Q : State → Prop} {b0 L : Nat} {xs : Nat → Int32} (X : k_X yL_law cL_law 4 (some .boolean) D p s m me c A) (hX : va_X b0 L xs s s.heap) (hb0 : b0 < s.heap.size) (hbA : ¬ A b0) (hrm : 200 ≤ rm.frames ∧ 20000 ≤ rm.locals) {mc ms : Nat} (hmc : 15 ≤ mc) (hms : 800 ≤ ms) {dy : Nat → Nat} {S : St} {i : Int32} (hI : Inv S) (hin : ∀ j, j ≤ 5 → vp_in (i + nI j) L)
    (kk : ∀ dy1 S1 mc1 ms1, mc ≤ mc1 + 15 → ms ≤ ms1 + 800 → Inv S1 → In yL_law cL_law 4 (some .boolean) rm D p l e s m a b me c A Q mc1 ms1 (k_cell D dy1 S1) (k_ad D dy1) 1217 (lwLs b0 D i) []) : In yL_law cL_law 4 (some .boolean) rm D p l e s m a b me c A Q mc ms (k_cell D dy S) (k_ad D dy) 601 (lwLs b0 D i) [] := by
  obtain ⟨v, S1, S2, h1, h2, hI2⟩ := p_richest S hI
  refine i_aload_n X 2 dL_law_601 rfl rfl ?_
  refine i_callV X [] [] (ok_X11_richest h1) q_980 q_981 q_982 q_983 q_141 hd_X11_richest (ce_48 D _ _) kc11.1 rfl ⟨Nat.le_trans (Nat.le_of_ble_eq_true rfl) hrm.1, Nat.le_trans (Nat.le_of_ble_eq_true rfl) hrm.2⟩ (Nat.zero_le _) (Nat.zero_le _) rfl rfl (Nat.le_of_ble_eq_true rfl) dL_law_602 ?_
  rintro _ _ _ ⟨rfl, rfl, rfl⟩
  refine i_aload_n X 3 dL_law_605 rfl rfl ?_
  refine i_callV X [] [.int v] (ok_X12_richest h2) q_1725 q_1726 q_1727 q_1728 q_153 hd_X12_richest (ce_51 D _ _) kc12.1 rfl ⟨Nat.le_trans (Nat.le_of_ble_eq_true rfl) hrm.1, Nat.le_trans (Nat.le_of_ble_eq_true rfl) hrm.2⟩ (Nat.zero_le _) (Nat.zero_le _) rfl rfl (Nat.le_of_ble_eq_true rfl) dL_law_606 ?_
  rintro _ _ _ ⟨rfl, rfl, rfl⟩
  refine i_icmp_eq X (t := 1217) dL_law_609 (by decide) (fun _ => ?_) (fun z => absurd rfl z)
  exact kk _ _ _ _ (show mc ≤ mc + 15 by omega) (show ms ≤ ms + 800 by omega) hI2
set_option maxRecDepth 100000 in
set_option maxHeartbeats 4000000 in
theorem lc_net {rm : Room} {D : k_D} {p : Program} {l : Launch} {e : Env} {s : State} {m : MethodId} {a : Array Value} {b : List Frame} {me : Method} {c : Code} {A : Nat → Prop} {Q : State → Prop} {b0 L : Nat} {xs : Nat → Int32} (X : k_X yL_law cL_law 4 (some .boolean) D p s m me c A) (hX : va_X b0 L xs s s.heap) (hb0 : b0 < s.heap.size) (hbA : ¬ A b0) (hrm : 200 ≤ rm.frames ∧ 20000 ≤ rm.locals) {mc ms : Nat} (hmc : 15 ≤ mc) (hms : 800 ≤ ms) {dy : Nat → Nat} {S : St} {i : Int32} (hI : Inv S) (hin : ∀ j, j ≤ 5 → vp_in (i + nI j) L)
    (kk : ∀ dy1 S1 mc1 ms1, mc ≤ mc1 + 15 → ms ≤ ms1 + 800 → Inv S1 → In yL_law cL_law 4 (some .boolean) rm D p l e s m a b me c A Q mc1 ms1 (k_cell D dy1 S1) (k_ad D dy1) 1217 (lwLs b0 D i) []) : In yL_law cL_law 4 (some .boolean) rm D p l e s m a b me c A Q mc ms (k_cell D dy S) (k_ad D dy) 614 (lwLs b0 D i) [] := by
  obtain ⟨v, S1, S2, h1, h2, hI2⟩ := (p_net (xs (i + nI 1).toNatClampNeg) (xs (i + nI 2).toNatClampNeg)) S hI
  refine i_aload_n X 2 dL_law_614 rfl rfl ?_
  refine i_aload_n X 1 dL_law_615 rfl rfl ?_
  refine i_iload_n X 0 dL_law_616 rfl rfl ?_
  refine i_iconst X (v := 1) dL_law_617 rfl ?_
  refine i_iadd X dL_law_618 ?_
  refine i_sld X hX hb0 hbA (hin 1 (by decide)) dL_law_619 ?_
  refine i_aload_n X 1 dL_law_620 rfl rfl ?_
  refine i_iload_n X 0 dL_law_621 rfl rfl ?_
  refine i_iconst X (v := 2) dL_law_622 rfl ?_
  refine i_iadd X dL_law_623 ?_
  refine i_sld X hX hb0 hbA (hin 2 (by decide)) dL_law_624 ?_
  refine i_callV X [.int (xs (i + nI 1).toNatClampNeg), .int (xs (i + nI 2).toNatClampNeg)] [] (ok_X11_net h1) q_984 q_985 q_986 q_987 q_141 hd_X11_net (ce_48 D _ _) kc11.1 rfl ⟨Nat.le_trans (Nat.le_of_ble_eq_true rfl) hrm.1, Nat.le_trans (Nat.le_of_ble_eq_true rfl) hrm.2⟩ (Nat.zero_le _) (Nat.zero_le _) rfl rfl (Nat.le_of_ble_eq_true rfl) dL_law_625 ?_
  rintro _ _ _ ⟨rfl, rfl, rfl⟩
  refine i_aload_n X 3 dL_law_628 rfl rfl ?_
  refine i_aload_n X 1 dL_law_629 rfl rfl ?_
  refine i_iload_n X 0 dL_law_630 rfl rfl ?_
  refine i_iconst X (v := 1) dL_law_631 rfl ?_
  refine i_iadd X dL_law_632 ?_
  refine i_sld X hX hb0 hbA (hin 1 (by decide)) dL_law_633 ?_
  refine i_aload_n X 1 dL_law_634 rfl rfl ?_
  refine i_iload_n X 0 dL_law_635 rfl rfl ?_
  refine i_iconst X (v := 2) dL_law_636 rfl ?_
  refine i_iadd X dL_law_637 ?_
  refine i_sld X hX hb0 hbA (hin 2 (by decide)) dL_law_638 ?_
  refine i_callV X [.int (xs (i + nI 1).toNatClampNeg), .int (xs (i + nI 2).toNatClampNeg)] [.int v] (ok_X12_net h2) q_1729 q_1730 q_1731 q_1732 q_153 hd_X12_net (ce_51 D _ _) kc12.1 rfl ⟨Nat.le_trans (Nat.le_of_ble_eq_true rfl) hrm.1, Nat.le_trans (Nat.le_of_ble_eq_true rfl) hrm.2⟩ (Nat.zero_le _) (Nat.zero_le _) rfl rfl (Nat.le_of_ble_eq_true rfl) dL_law_639 ?_
  rintro _ _ _ ⟨rfl, rfl, rfl⟩
  refine i_icmp_eq X (t := 1217) dL_law_642 (by decide) (fun _ => ?_) (fun z => absurd rfl z)
  exact kk _ _ _ _ (show mc ≤ mc + 15 by omega) (show ms ≤ ms + 800 by omega) hI2
set_option maxRecDepth 100000 in
set_option maxHeartbeats 4000000 in
theorem lc_left {rm : Room} {D : k_D} {p : Program} {l : Launch} {e : Env} {s : State} {m : MethodId} {a : Array Value} {b : List Frame} {me : Method} {c : Code} {A : Nat → Prop} {Q : State → Prop} {b0 L : Nat} {xs : Nat → Int32} (X : k_X yL_law cL_law 4 (some .boolean) D p s m me c A) (hX : va_X b0 L xs s s.heap) (hb0 : b0 < s.heap.size) (hbA : ¬ A b0) (hrm : 200 ≤ rm.frames ∧ 20000 ≤ rm.locals) {mc ms : Nat} (hmc : 15 ≤ mc) (hms : 800 ≤ ms) {dy : Nat → Nat} {S : St} {i : Int32} (hI : Inv S) (hin : ∀ j, j ≤ 5 → vp_in (i + nI j) L)
    (kk : ∀ dy1 S1 mc1 ms1, mc ≤ mc1 + 15 → ms ≤ ms1 + 800 → Inv S1 → In yL_law cL_law 4 (some .boolean) rm D p l e s m a b me c A Q mc1 ms1 (k_cell D dy1 S1) (k_ad D dy1) 1217 (lwLs b0 D i) []) : In yL_law cL_law 4 (some .boolean) rm D p l e s m a b me c A Q mc ms (k_cell D dy S) (k_ad D dy) 647 (lwLs b0 D i) [] := by
  obtain ⟨v, S1, S2, h1, h2, hI2⟩ := (p_left (xs (i + nI 1).toNatClampNeg) (xs (i + nI 2).toNatClampNeg)) S hI
  refine i_aload_n X 2 dL_law_647 rfl rfl ?_
  refine i_aload_n X 1 dL_law_648 rfl rfl ?_
  refine i_iload_n X 0 dL_law_649 rfl rfl ?_
  refine i_iconst X (v := 1) dL_law_650 rfl ?_
  refine i_iadd X dL_law_651 ?_
  refine i_sld X hX hb0 hbA (hin 1 (by decide)) dL_law_652 ?_
  refine i_aload_n X 1 dL_law_653 rfl rfl ?_
  refine i_iload_n X 0 dL_law_654 rfl rfl ?_
  refine i_iconst X (v := 2) dL_law_655 rfl ?_
  refine i_iadd X dL_law_656 ?_
  refine i_sld X hX hb0 hbA (hin 2 (by decide)) dL_law_657 ?_
  refine i_callV X [.int (xs (i + nI 1).toNatClampNeg), .int (xs (i + nI 2).toNatClampNeg)] [] (ok_X11_left h1) q_999 q_1000 q_1001 q_1002 q_141 hd_X11_left (ce_48 D _ _) kc11.1 rfl ⟨Nat.le_trans (Nat.le_of_ble_eq_true rfl) hrm.1, Nat.le_trans (Nat.le_of_ble_eq_true rfl) hrm.2⟩ (Nat.zero_le _) (Nat.zero_le _) rfl rfl (Nat.le_of_ble_eq_true rfl) dL_law_658 ?_
  rintro _ _ _ ⟨rfl, rfl, rfl⟩
  refine i_aload_n X 3 dL_law_661 rfl rfl ?_
  refine i_aload_n X 1 dL_law_662 rfl rfl ?_
  refine i_iload_n X 0 dL_law_663 rfl rfl ?_
  refine i_iconst X (v := 1) dL_law_664 rfl ?_
  refine i_iadd X dL_law_665 ?_
  refine i_sld X hX hb0 hbA (hin 1 (by decide)) dL_law_666 ?_
  refine i_aload_n X 1 dL_law_667 rfl rfl ?_
  refine i_iload_n X 0 dL_law_668 rfl rfl ?_
  refine i_iconst X (v := 2) dL_law_669 rfl ?_
  refine i_iadd X dL_law_670 ?_
  refine i_sld X hX hb0 hbA (hin 2 (by decide)) dL_law_671 ?_
  refine i_callV X [.int (xs (i + nI 1).toNatClampNeg), .int (xs (i + nI 2).toNatClampNeg)] [.int v] (ok_X12_left h2) q_1741 q_1742 q_1743 q_1744 q_153 hd_X12_left (ce_51 D _ _) kc12.1 rfl ⟨Nat.le_trans (Nat.le_of_ble_eq_true rfl) hrm.1, Nat.le_trans (Nat.le_of_ble_eq_true rfl) hrm.2⟩ (Nat.zero_le _) (Nat.zero_le _) rfl rfl (Nat.le_of_ble_eq_true rfl) dL_law_672 ?_
  rintro _ _ _ ⟨rfl, rfl, rfl⟩
  refine i_icmp_eq X (t := 1217) dL_law_675 (by decide) (fun _ => ?_) (fun z => absurd rfl z)
  exact kk _ _ _ _ (show mc ≤ mc + 15 by omega) (show ms ≤ ms + 800 by omega) hI2
set_option maxRecDepth 100000 in
set_option maxHeartbeats 4000000 in
theorem lc_ring {rm : Room} {D : k_D} {p : Program} {l : Launch} {e : Env} {s : State} {m : MethodId} {a : Array Value} {b : List Frame} {me : Method} {c : Code} {A : Nat → Prop} {Q : State → Prop} {b0 L : Nat} {xs : Nat → Int32} (X : k_X yL_law cL_law 4 (some .boolean) D p s m me c A) (hX : va_X b0 L xs s s.heap) (hb0 : b0 < s.heap.size) (hbA : ¬ A b0) (hrm : 200 ≤ rm.frames ∧ 20000 ≤ rm.locals) {mc ms : Nat} (hmc : 15 ≤ mc) (hms : 800 ≤ ms) {dy : Nat → Nat} {S : St} {i : Int32} (hI : Inv S) (hin : ∀ j, j ≤ 5 → vp_in (i + nI j) L)
    (kk : ∀ dy1 S1 mc1 ms1, mc ≤ mc1 + 15 → ms ≤ ms1 + 800 → Inv S1 → In yL_law cL_law 4 (some .boolean) rm D p l e s m a b me c A Q mc1 ms1 (k_cell D dy1 S1) (k_ad D dy1) 1217 (lwLs b0 D i) []) : In yL_law cL_law 4 (some .boolean) rm D p l e s m a b me c A Q mc ms (k_cell D dy S) (k_ad D dy) 680 (lwLs b0 D i) [] := by
  obtain ⟨v, S1, S2, h1, h2, hI2⟩ := (p_ring (xs (i + nI 1).toNatClampNeg) (xs (i + nI 2).toNatClampNeg)) S hI
  refine i_aload_n X 2 dL_law_680 rfl rfl ?_
  refine i_aload_n X 1 dL_law_681 rfl rfl ?_
  refine i_iload_n X 0 dL_law_682 rfl rfl ?_
  refine i_iconst X (v := 1) dL_law_683 rfl ?_
  refine i_iadd X dL_law_684 ?_
  refine i_sld X hX hb0 hbA (hin 1 (by decide)) dL_law_685 ?_
  refine i_aload_n X 1 dL_law_686 rfl rfl ?_
  refine i_iload_n X 0 dL_law_687 rfl rfl ?_
  refine i_iconst X (v := 2) dL_law_688 rfl ?_
  refine i_iadd X dL_law_689 ?_
  refine i_sld X hX hb0 hbA (hin 2 (by decide)) dL_law_690 ?_
  refine i_callV X [.int (xs (i + nI 1).toNatClampNeg), .int (xs (i + nI 2).toNatClampNeg)] [] (ok_X11_ring h1) q_1022 q_1023 q_1024 q_1025 q_141 hd_X11_ring (ce_48 D _ _) kc11.1 rfl ⟨Nat.le_trans (Nat.le_of_ble_eq_true rfl) hrm.1, Nat.le_trans (Nat.le_of_ble_eq_true rfl) hrm.2⟩ (Nat.zero_le _) (Nat.zero_le _) rfl rfl (Nat.le_of_ble_eq_true rfl) dL_law_691 ?_
  rintro _ _ _ ⟨rfl, rfl, rfl⟩
  refine i_aload_n X 3 dL_law_694 rfl rfl ?_
  refine i_aload_n X 1 dL_law_695 rfl rfl ?_
  refine i_iload_n X 0 dL_law_696 rfl rfl ?_
  refine i_iconst X (v := 1) dL_law_697 rfl ?_
  refine i_iadd X dL_law_698 ?_
  refine i_sld X hX hb0 hbA (hin 1 (by decide)) dL_law_699 ?_
  refine i_aload_n X 1 dL_law_700 rfl rfl ?_
  refine i_iload_n X 0 dL_law_701 rfl rfl ?_
  refine i_iconst X (v := 2) dL_law_702 rfl ?_
  refine i_iadd X dL_law_703 ?_
  refine i_sld X hX hb0 hbA (hin 2 (by decide)) dL_law_704 ?_
  refine i_callV X [.int (xs (i + nI 1).toNatClampNeg), .int (xs (i + nI 2).toNatClampNeg)] [.int v] (ok_X12_ring h2) q_1756 q_1757 q_1758 q_1759 q_153 hd_X12_ring (ce_51 D _ _) kc12.1 rfl ⟨Nat.le_trans (Nat.le_of_ble_eq_true rfl) hrm.1, Nat.le_trans (Nat.le_of_ble_eq_true rfl) hrm.2⟩ (Nat.zero_le _) (Nat.zero_le _) rfl rfl (Nat.le_of_ble_eq_true rfl) dL_law_705 ?_
  rintro _ _ _ ⟨rfl, rfl, rfl⟩
  refine i_icmp_eq X (t := 1217) dL_law_708 (by decide) (fun _ => ?_) (fun z => absurd rfl z)
  exact kk _ _ _ _ (show mc ≤ mc + 15 by omega) (show ms ≤ ms + 800 by omega) hI2
set_option maxRecDepth 100000 in
set_option maxHeartbeats 4000000 in
theorem lc_cancel {rm : Room} {D : k_D} {p : Program} {l : Launch} {e : Env} {s : State} {m : MethodId} {a : Array Value} {b : List Frame} {me : Method} {c : Code} {A : Nat → Prop} {Q : State → Prop} {b0 L : Nat} {xs : Nat → Int32} (X : k_X yL_law cL_law 4 (some .boolean) D p s m me c A) (hX : va_X b0 L xs s s.heap) (hb0 : b0 < s.heap.size) (hbA : ¬ A b0) (hrm : 200 ≤ rm.frames ∧ 20000 ≤ rm.locals) {mc ms : Nat} (hmc : 15 ≤ mc) (hms : 800 ≤ ms) {dy : Nat → Nat} {S : St} {i : Int32} (hI : Inv S) (hin : ∀ j, j ≤ 5 → vp_in (i + nI j) L)
    (kk : ∀ dy1 S1 mc1 ms1, mc ≤ mc1 + 15 → ms ≤ ms1 + 800 → Inv S1 → In yL_law cL_law 4 (some .boolean) rm D p l e s m a b me c A Q mc1 ms1 (k_cell D dy1 S1) (k_ad D dy1) 1217 (lwLs b0 D i) []) : In yL_law cL_law 4 (some .boolean) rm D p l e s m a b me c A Q mc ms (k_cell D dy S) (k_ad D dy) 713 (lwLs b0 D i) [] := by
  obtain ⟨v, S1, S2, h1, h2, hI2⟩ := (p_cancel (xs (i + nI 1).toNatClampNeg)) S hI
  refine i_aload_n X 2 dL_law_713 rfl rfl ?_
  refine i_aload_n X 1 dL_law_714 rfl rfl ?_
  refine i_iload_n X 0 dL_law_715 rfl rfl ?_
  refine i_iconst X (v := 1) dL_law_716 rfl ?_
  refine i_iadd X dL_law_717 ?_
  refine i_sld X hX hb0 hbA (hin 1 (by decide)) dL_law_718 ?_
  refine i_callV X [.int (xs (i + nI 1).toNatClampNeg)] [] (ok_X11_cancel h1) q_1046 q_1047 q_1048 q_1049 q_141 hd_X11_cancel (ce_48 D _ _) kc11.1 rfl ⟨Nat.le_trans (Nat.le_of_ble_eq_true rfl) hrm.1, Nat.le_trans (Nat.le_of_ble_eq_true rfl) hrm.2⟩ (Nat.zero_le _) (Nat.zero_le _) rfl rfl (Nat.le_of_ble_eq_true rfl) dL_law_719 ?_
  rintro _ _ _ ⟨rfl, rfl, rfl⟩
  refine i_aload_n X 3 dL_law_722 rfl rfl ?_
  refine i_aload_n X 1 dL_law_723 rfl rfl ?_
  refine i_iload_n X 0 dL_law_724 rfl rfl ?_
  refine i_iconst X (v := 1) dL_law_725 rfl ?_
  refine i_iadd X dL_law_726 ?_
  refine i_sld X hX hb0 hbA (hin 1 (by decide)) dL_law_727 ?_
  refine i_callV X [.int (xs (i + nI 1).toNatClampNeg)] [.int v] (ok_X12_cancel h2) q_1776 q_1777 q_1778 q_1779 q_153 hd_X12_cancel (ce_51 D _ _) kc12.1 rfl ⟨Nat.le_trans (Nat.le_of_ble_eq_true rfl) hrm.1, Nat.le_trans (Nat.le_of_ble_eq_true rfl) hrm.2⟩ (Nat.zero_le _) (Nat.zero_le _) rfl rfl (Nat.le_of_ble_eq_true rfl) dL_law_728 ?_
  rintro _ _ _ ⟨rfl, rfl, rfl⟩
  refine i_icmp_eq X (t := 1217) dL_law_731 (by decide) (fun _ => ?_) (fun z => absurd rfl z)
  exact kk _ _ _ _ (show mc ≤ mc + 15 by omega) (show ms ≤ ms + 800 by omega) hI2
set_option maxRecDepth 100000 in
set_option maxHeartbeats 4000000 in
theorem lc_best {rm : Room} {D : k_D} {p : Program} {l : Launch} {e : Env} {s : State} {m : MethodId} {a : Array Value} {b : List Frame} {me : Method} {c : Code} {A : Nat → Prop} {Q : State → Prop} {b0 L : Nat} {xs : Nat → Int32} (X : k_X yL_law cL_law 4 (some .boolean) D p s m me c A) (hX : va_X b0 L xs s s.heap) (hb0 : b0 < s.heap.size) (hbA : ¬ A b0) (hrm : 200 ≤ rm.frames ∧ 20000 ≤ rm.locals) {mc ms : Nat} (hmc : 15 ≤ mc) (hms : 800 ≤ ms) {dy : Nat → Nat} {S : St} {i : Int32} (hI : Inv S) (hin : ∀ j, j ≤ 5 → vp_in (i + nI j) L)
    (kk : ∀ dy1 S1 mc1 ms1, mc ≤ mc1 + 15 → ms ≤ ms1 + 800 → Inv S1 → In yL_law cL_law 4 (some .boolean) rm D p l e s m a b me c A Q mc1 ms1 (k_cell D dy1 S1) (k_ad D dy1) 1217 (lwLs b0 D i) []) : In yL_law cL_law 4 (some .boolean) rm D p l e s m a b me c A Q mc ms (k_cell D dy S) (k_ad D dy) 736 (lwLs b0 D i) [] := by
  obtain ⟨v, S1, S2, h1, h2, hI2⟩ := (p_best (xs (i + nI 1).toNatClampNeg) (xs (i + nI 2).toNatClampNeg) (xs (i + nI 3).toNatClampNeg) (xs (i + nI 4).toNatClampNeg)) S hI
  refine i_aload_n X 2 dL_law_736 rfl rfl ?_
  refine i_aload_n X 1 dL_law_737 rfl rfl ?_
  refine i_iload_n X 0 dL_law_738 rfl rfl ?_
  refine i_iconst X (v := 1) dL_law_739 rfl ?_
  refine i_iadd X dL_law_740 ?_
  refine i_sld X hX hb0 hbA (hin 1 (by decide)) dL_law_741 ?_
  refine i_aload_n X 1 dL_law_742 rfl rfl ?_
  refine i_iload_n X 0 dL_law_743 rfl rfl ?_
  refine i_iconst X (v := 2) dL_law_744 rfl ?_
  refine i_iadd X dL_law_745 ?_
  refine i_sld X hX hb0 hbA (hin 2 (by decide)) dL_law_746 ?_
  refine i_aload_n X 1 dL_law_747 rfl rfl ?_
  refine i_iload_n X 0 dL_law_748 rfl rfl ?_
  refine i_iconst X (v := 3) dL_law_749 rfl ?_
  refine i_iadd X dL_law_750 ?_
  refine i_sld X hX hb0 hbA (hin 3 (by decide)) dL_law_751 ?_
  refine i_aload_n X 1 dL_law_752 rfl rfl ?_
  refine i_iload_n X 0 dL_law_753 rfl rfl ?_
  refine i_iconst X (v := 4) dL_law_754 rfl ?_
  refine i_iadd X dL_law_755 ?_
  refine i_sld X hX hb0 hbA (hin 4 (by decide)) dL_law_756 ?_
  refine i_callV X [.int (xs (i + nI 1).toNatClampNeg), .int (xs (i + nI 2).toNatClampNeg), .int (xs (i + nI 3).toNatClampNeg), .int (xs (i + nI 4).toNatClampNeg)] [] (ok_X11_best h1) q_1072 q_1073 q_1074 q_1075 q_141 hd_X11_best (ce_48 D _ _) kc11.1 rfl ⟨Nat.le_trans (Nat.le_of_ble_eq_true rfl) hrm.1, Nat.le_trans (Nat.le_of_ble_eq_true rfl) hrm.2⟩ (Nat.zero_le _) (Nat.zero_le _) rfl rfl (Nat.le_of_ble_eq_true rfl) dL_law_757 ?_
  rintro _ _ _ ⟨rfl, rfl, rfl⟩
  refine i_aload_n X 3 dL_law_760 rfl rfl ?_
  refine i_aload_n X 1 dL_law_761 rfl rfl ?_
  refine i_iload_n X 0 dL_law_762 rfl rfl ?_
  refine i_iconst X (v := 1) dL_law_763 rfl ?_
  refine i_iadd X dL_law_764 ?_
  refine i_sld X hX hb0 hbA (hin 1 (by decide)) dL_law_765 ?_
  refine i_aload_n X 1 dL_law_766 rfl rfl ?_
  refine i_iload_n X 0 dL_law_767 rfl rfl ?_
  refine i_iconst X (v := 2) dL_law_768 rfl ?_
  refine i_iadd X dL_law_769 ?_
  refine i_sld X hX hb0 hbA (hin 2 (by decide)) dL_law_770 ?_
  refine i_aload_n X 1 dL_law_771 rfl rfl ?_
  refine i_iload_n X 0 dL_law_772 rfl rfl ?_
  refine i_iconst X (v := 3) dL_law_773 rfl ?_
  refine i_iadd X dL_law_774 ?_
  refine i_sld X hX hb0 hbA (hin 3 (by decide)) dL_law_775 ?_
  refine i_aload_n X 1 dL_law_776 rfl rfl ?_
  refine i_iload_n X 0 dL_law_777 rfl rfl ?_
  refine i_iconst X (v := 4) dL_law_778 rfl ?_
  refine i_iadd X dL_law_779 ?_
  refine i_sld X hX hb0 hbA (hin 4 (by decide)) dL_law_780 ?_
  refine i_callV X [.int (xs (i + nI 1).toNatClampNeg), .int (xs (i + nI 2).toNatClampNeg), .int (xs (i + nI 3).toNatClampNeg), .int (xs (i + nI 4).toNatClampNeg)] [.int v] (ok_X12_best h2) q_1781 q_1782 q_1783 q_1784 q_153 hd_X12_best (ce_51 D _ _) kc12.1 rfl ⟨Nat.le_trans (Nat.le_of_ble_eq_true rfl) hrm.1, Nat.le_trans (Nat.le_of_ble_eq_true rfl) hrm.2⟩ (Nat.zero_le _) (Nat.zero_le _) rfl rfl (Nat.le_of_ble_eq_true rfl) dL_law_781 ?_
  rintro _ _ _ ⟨rfl, rfl, rfl⟩
  refine i_icmp_eq X (t := 1217) dL_law_784 (by decide) (fun _ => ?_) (fun z => absurd rfl z)
  exact kk _ _ _ _ (show mc ≤ mc + 15 by omega) (show ms ≤ ms + 800 by omega) hI2
set_option maxRecDepth 100000 in
set_option maxHeartbeats 4000000 in
theorem lc_play {rm : Room} {D : k_D} {p : Program} {l : Launch} {e : Env} {s : State} {m : MethodId} {a : Array Value} {b : List Frame} {me : Method} {c : Code} {A : Nat → Prop} {Q : State → Prop} {b0 L : Nat} {xs : Nat → Int32} (X : k_X yL_law cL_law 4 (some .boolean) D p s m me c A) (hX : va_X b0 L xs s s.heap) (hb0 : b0 < s.heap.size) (hbA : ¬ A b0) (hrm : 200 ≤ rm.frames ∧ 20000 ≤ rm.locals) {mc ms : Nat} (hmc : 15 ≤ mc) (hms : 800 ≤ ms) {dy : Nat → Nat} {S : St} {i : Int32} (hI : Inv S) (hin : ∀ j, j ≤ 5 → vp_in (i + nI j) L)
    (kk : ∀ dy1 S1 mc1 ms1, mc ≤ mc1 + 15 → ms ≤ ms1 + 800 → Inv S1 → In yL_law cL_law 4 (some .boolean) rm D p l e s m a b me c A Q mc1 ms1 (k_cell D dy1 S1) (k_ad D dy1) 1217 (lwLs b0 D i) []) : In yL_law cL_law 4 (some .boolean) rm D p l e s m a b me c A Q mc ms (k_cell D dy S) (k_ad D dy) 789 (lwLs b0 D i) [] := by
  obtain ⟨v, S1, S2, h1, h2, hI2⟩ := (p_play (xs (i + nI 1).toNatClampNeg) (xs (i + nI 2).toNatClampNeg) (xs (i + nI 3).toNatClampNeg)) S hI
  refine i_aload_n X 2 dL_law_789 rfl rfl ?_
  refine i_aload_n X 1 dL_law_790 rfl rfl ?_
  refine i_iload_n X 0 dL_law_791 rfl rfl ?_
  refine i_iconst X (v := 1) dL_law_792 rfl ?_
  refine i_iadd X dL_law_793 ?_
  refine i_sld X hX hb0 hbA (hin 1 (by decide)) dL_law_794 ?_
  refine i_aload_n X 1 dL_law_795 rfl rfl ?_
  refine i_iload_n X 0 dL_law_796 rfl rfl ?_
  refine i_iconst X (v := 2) dL_law_797 rfl ?_
  refine i_iadd X dL_law_798 ?_
  refine i_sld X hX hb0 hbA (hin 2 (by decide)) dL_law_799 ?_
  refine i_aload_n X 1 dL_law_800 rfl rfl ?_
  refine i_iload_n X 0 dL_law_801 rfl rfl ?_
  refine i_iconst X (v := 3) dL_law_802 rfl ?_
  refine i_iadd X dL_law_803 ?_
  refine i_sld X hX hb0 hbA (hin 3 (by decide)) dL_law_804 ?_
  refine i_callV X [.int (xs (i + nI 1).toNatClampNeg), .int (xs (i + nI 2).toNatClampNeg), .int (xs (i + nI 3).toNatClampNeg)] [] (ok_X11_play h1) q_1121 q_1122 q_1123 q_1124 q_141 hd_X11_play (ce_48 D _ _) kc11.1 rfl ⟨Nat.le_trans (Nat.le_of_ble_eq_true rfl) hrm.1, Nat.le_trans (Nat.le_of_ble_eq_true rfl) hrm.2⟩ (Nat.zero_le _) (Nat.zero_le _) rfl rfl (Nat.le_of_ble_eq_true rfl) dL_law_805 ?_
  rintro _ _ _ ⟨rfl, rfl, rfl⟩
  refine i_aload_n X 3 dL_law_808 rfl rfl ?_
  refine i_aload_n X 1 dL_law_809 rfl rfl ?_
  refine i_iload_n X 0 dL_law_810 rfl rfl ?_
  refine i_iconst X (v := 1) dL_law_811 rfl ?_
  refine i_iadd X dL_law_812 ?_
  refine i_sld X hX hb0 hbA (hin 1 (by decide)) dL_law_813 ?_
  refine i_aload_n X 1 dL_law_814 rfl rfl ?_
  refine i_iload_n X 0 dL_law_815 rfl rfl ?_
  refine i_iconst X (v := 2) dL_law_816 rfl ?_
  refine i_iadd X dL_law_817 ?_
  refine i_sld X hX hb0 hbA (hin 2 (by decide)) dL_law_818 ?_
  refine i_aload_n X 1 dL_law_819 rfl rfl ?_
  refine i_iload_n X 0 dL_law_820 rfl rfl ?_
  refine i_iconst X (v := 3) dL_law_821 rfl ?_
  refine i_iadd X dL_law_822 ?_
  refine i_sld X hX hb0 hbA (hin 3 (by decide)) dL_law_823 ?_
  refine i_callV X [.int (xs (i + nI 1).toNatClampNeg), .int (xs (i + nI 2).toNatClampNeg), .int (xs (i + nI 3).toNatClampNeg)] [.int v] (ok_X12_play h2) q_1802 q_1803 q_1804 q_1805 q_153 hd_X12_play (ce_51 D _ _) kc12.1 rfl ⟨Nat.le_trans (Nat.le_of_ble_eq_true rfl) hrm.1, Nat.le_trans (Nat.le_of_ble_eq_true rfl) hrm.2⟩ (Nat.zero_le _) (Nat.zero_le _) rfl rfl (Nat.le_of_ble_eq_true rfl) dL_law_824 ?_
  rintro _ _ _ ⟨rfl, rfl, rfl⟩
  refine i_icmp_eq X (t := 1217) dL_law_827 (by decide) (fun _ => ?_) (fun z => absurd rfl z)
  exact kk _ _ _ _ (show mc ≤ mc + 15 by omega) (show ms ≤ ms + 800 by omega) hI2
set_option maxRecDepth 100000 in
set_option maxHeartbeats 4000000 in
theorem lc_bands {rm : Room} {D : k_D} {p : Program} {l : Launch} {e : Env} {s : State} {m : MethodId} {a : Array Value} {b : List Frame} {me : Method} {c : Code} {A : Nat → Prop} {Q : State → Prop} {b0 L : Nat} {xs : Nat → Int32} (X : k_X yL_law cL_law 4 (some .boolean) D p s m me c A) (hX : va_X b0 L xs s s.heap) (hb0 : b0 < s.heap.size) (hbA : ¬ A b0) (hrm : 200 ≤ rm.frames ∧ 20000 ≤ rm.locals) {mc ms : Nat} (hmc : 15 ≤ mc) (hms : 800 ≤ ms) {dy : Nat → Nat} {S : St} {i : Int32} (hI : Inv S) (hin : ∀ j, j ≤ 5 → vp_in (i + nI j) L)
    (kk : ∀ dy1 S1 mc1 ms1, mc ≤ mc1 + 15 → ms ≤ ms1 + 800 → Inv S1 → In yL_law cL_law 4 (some .boolean) rm D p l e s m a b me c A Q mc1 ms1 (k_cell D dy1 S1) (k_ad D dy1) 1217 (lwLs b0 D i) []) : In yL_law cL_law 4 (some .boolean) rm D p l e s m a b me c A Q mc ms (k_cell D dy S) (k_ad D dy) 832 (lwLs b0 D i) [] := by
  obtain ⟨v, S1, S2, h1, h2, hI2⟩ := (p_bands (xs (i + nI 1).toNatClampNeg) (xs (i + nI 2).toNatClampNeg)) S hI
  refine i_aload_n X 2 dL_law_832 rfl rfl ?_
  refine i_aload_n X 1 dL_law_833 rfl rfl ?_
  refine i_iload_n X 0 dL_law_834 rfl rfl ?_
  refine i_iconst X (v := 1) dL_law_835 rfl ?_
  refine i_iadd X dL_law_836 ?_
  refine i_sld X hX hb0 hbA (hin 1 (by decide)) dL_law_837 ?_
  refine i_aload_n X 1 dL_law_838 rfl rfl ?_
  refine i_iload_n X 0 dL_law_839 rfl rfl ?_
  refine i_iconst X (v := 2) dL_law_840 rfl ?_
  refine i_iadd X dL_law_841 ?_
  refine i_sld X hX hb0 hbA (hin 2 (by decide)) dL_law_842 ?_
  refine i_callV X [.int (xs (i + nI 1).toNatClampNeg), .int (xs (i + nI 2).toNatClampNeg)] [] (ok_X11_bands h1) q_1130 q_1131 q_1132 q_1133 q_141 hd_X11_bands (ce_48 D _ _) kc11.1 rfl ⟨Nat.le_trans (Nat.le_of_ble_eq_true rfl) hrm.1, Nat.le_trans (Nat.le_of_ble_eq_true rfl) hrm.2⟩ (Nat.zero_le _) (Nat.zero_le _) rfl rfl (Nat.le_of_ble_eq_true rfl) dL_law_843 ?_
  rintro _ _ _ ⟨rfl, rfl, rfl⟩
  refine i_aload_n X 3 dL_law_846 rfl rfl ?_
  refine i_aload_n X 1 dL_law_847 rfl rfl ?_
  refine i_iload_n X 0 dL_law_848 rfl rfl ?_
  refine i_iconst X (v := 1) dL_law_849 rfl ?_
  refine i_iadd X dL_law_850 ?_
  refine i_sld X hX hb0 hbA (hin 1 (by decide)) dL_law_851 ?_
  refine i_aload_n X 1 dL_law_852 rfl rfl ?_
  refine i_iload_n X 0 dL_law_853 rfl rfl ?_
  refine i_iconst X (v := 2) dL_law_854 rfl ?_
  refine i_iadd X dL_law_855 ?_
  refine i_sld X hX hb0 hbA (hin 2 (by decide)) dL_law_856 ?_
  refine i_callV X [.int (xs (i + nI 1).toNatClampNeg), .int (xs (i + nI 2).toNatClampNeg)] [.int v] (ok_X12_bands h2) q_1806 q_1807 q_1808 q_1809 q_153 hd_X12_bands (ce_51 D _ _) kc12.1 rfl ⟨Nat.le_trans (Nat.le_of_ble_eq_true rfl) hrm.1, Nat.le_trans (Nat.le_of_ble_eq_true rfl) hrm.2⟩ (Nat.zero_le _) (Nat.zero_le _) rfl rfl (Nat.le_of_ble_eq_true rfl) dL_law_857 ?_
  rintro _ _ _ ⟨rfl, rfl, rfl⟩
  refine i_icmp_eq X (t := 1217) dL_law_860 (by decide) (fun _ => ?_) (fun z => absurd rfl z)
  exact kk _ _ _ _ (show mc ≤ mc + 15 by omega) (show ms ≤ ms + 800 by omega) hI2
set_option maxRecDepth 100000 in
set_option maxHeartbeats 4000000 in
theorem lc_wedding {rm : Room} {D : k_D} {p : Program} {l : Launch} {e : Env} {s : State} {m : MethodId} {a : Array Value} {b : List Frame} {me : Method} {c : Code} {A : Nat → Prop} {Q : State → Prop} {b0 L : Nat} {xs : Nat → Int32} (X : k_X yL_law cL_law 4 (some .boolean) D p s m me c A) (hX : va_X b0 L xs s s.heap) (hb0 : b0 < s.heap.size) (hbA : ¬ A b0) (hrm : 200 ≤ rm.frames ∧ 20000 ≤ rm.locals) {mc ms : Nat} (hmc : 15 ≤ mc) (hms : 800 ≤ ms) {dy : Nat → Nat} {S : St} {i : Int32} (hI : Inv S) (hin : ∀ j, j ≤ 5 → vp_in (i + nI j) L)
    (kk : ∀ dy1 S1 mc1 ms1, mc ≤ mc1 + 15 → ms ≤ ms1 + 800 → Inv S1 → In yL_law cL_law 4 (some .boolean) rm D p l e s m a b me c A Q mc1 ms1 (k_cell D dy1 S1) (k_ad D dy1) 1217 (lwLs b0 D i) []) : In yL_law cL_law 4 (some .boolean) rm D p l e s m a b me c A Q mc ms (k_cell D dy S) (k_ad D dy) 865 (lwLs b0 D i) [] := by
  obtain ⟨v, S1, S2, h1, h2, hI2⟩ := (p_wedding (xs (i + nI 1).toNatClampNeg) (xs (i + nI 2).toNatClampNeg)) S hI
  refine i_aload_n X 2 dL_law_865 rfl rfl ?_
  refine i_aload_n X 1 dL_law_866 rfl rfl ?_
  refine i_iload_n X 0 dL_law_867 rfl rfl ?_
  refine i_iconst X (v := 1) dL_law_868 rfl ?_
  refine i_iadd X dL_law_869 ?_
  refine i_sld X hX hb0 hbA (hin 1 (by decide)) dL_law_870 ?_
  refine i_aload_n X 1 dL_law_871 rfl rfl ?_
  refine i_iload_n X 0 dL_law_872 rfl rfl ?_
  refine i_iconst X (v := 2) dL_law_873 rfl ?_
  refine i_iadd X dL_law_874 ?_
  refine i_sld X hX hb0 hbA (hin 2 (by decide)) dL_law_875 ?_
  refine i_callV X [.int (xs (i + nI 1).toNatClampNeg), .int (xs (i + nI 2).toNatClampNeg)] [] (ok_X11_wedding h1) q_1149 q_1150 q_1151 q_1152 q_141 hd_X11_wedding (ce_48 D _ _) kc11.1 rfl ⟨Nat.le_trans (Nat.le_of_ble_eq_true rfl) hrm.1, Nat.le_trans (Nat.le_of_ble_eq_true rfl) hrm.2⟩ (Nat.zero_le _) (Nat.zero_le _) rfl rfl (Nat.le_of_ble_eq_true rfl) dL_law_876 ?_
  rintro _ _ _ ⟨rfl, rfl, rfl⟩
  refine i_aload_n X 3 dL_law_879 rfl rfl ?_
  refine i_aload_n X 1 dL_law_880 rfl rfl ?_
  refine i_iload_n X 0 dL_law_881 rfl rfl ?_
  refine i_iconst X (v := 1) dL_law_882 rfl ?_
  refine i_iadd X dL_law_883 ?_
  refine i_sld X hX hb0 hbA (hin 1 (by decide)) dL_law_884 ?_
  refine i_aload_n X 1 dL_law_885 rfl rfl ?_
  refine i_iload_n X 0 dL_law_886 rfl rfl ?_
  refine i_iconst X (v := 2) dL_law_887 rfl ?_
  refine i_iadd X dL_law_888 ?_
  refine i_sld X hX hb0 hbA (hin 2 (by decide)) dL_law_889 ?_
  refine i_callV X [.int (xs (i + nI 1).toNatClampNeg), .int (xs (i + nI 2).toNatClampNeg)] [.int v] (ok_X12_wedding h2) q_1810 q_1811 q_1812 q_1813 q_153 hd_X12_wedding (ce_51 D _ _) kc12.1 rfl ⟨Nat.le_trans (Nat.le_of_ble_eq_true rfl) hrm.1, Nat.le_trans (Nat.le_of_ble_eq_true rfl) hrm.2⟩ (Nat.zero_le _) (Nat.zero_le _) rfl rfl (Nat.le_of_ble_eq_true rfl) dL_law_890 ?_
  rintro _ _ _ ⟨rfl, rfl, rfl⟩
  refine i_icmp_eq X (t := 1217) dL_law_893 (by decide) (fun _ => ?_) (fun z => absurd rfl z)
  exact kk _ _ _ _ (show mc ≤ mc + 15 by omega) (show ms ≤ ms + 800 by omega) hI2
set_option maxRecDepth 100000 in
set_option maxHeartbeats 4000000 in
theorem lc_divorce {rm : Room} {D : k_D} {p : Program} {l : Launch} {e : Env} {s : State} {m : MethodId} {a : Array Value} {b : List Frame} {me : Method} {c : Code} {A : Nat → Prop} {Q : State → Prop} {b0 L : Nat} {xs : Nat → Int32} (X : k_X yL_law cL_law 4 (some .boolean) D p s m me c A) (hX : va_X b0 L xs s s.heap) (hb0 : b0 < s.heap.size) (hbA : ¬ A b0) (hrm : 200 ≤ rm.frames ∧ 20000 ≤ rm.locals) {mc ms : Nat} (hmc : 15 ≤ mc) (hms : 800 ≤ ms) {dy : Nat → Nat} {S : St} {i : Int32} (hI : Inv S) (hin : ∀ j, j ≤ 5 → vp_in (i + nI j) L)
    (kk : ∀ dy1 S1 mc1 ms1, mc ≤ mc1 + 15 → ms ≤ ms1 + 800 → Inv S1 → In yL_law cL_law 4 (some .boolean) rm D p l e s m a b me c A Q mc1 ms1 (k_cell D dy1 S1) (k_ad D dy1) 1217 (lwLs b0 D i) []) : In yL_law cL_law 4 (some .boolean) rm D p l e s m a b me c A Q mc ms (k_cell D dy S) (k_ad D dy) 898 (lwLs b0 D i) [] := by
  obtain ⟨v, S1, S2, h1, h2, hI2⟩ := p_divorce S hI
  refine i_aload_n X 2 dL_law_898 rfl rfl ?_
  refine i_callV X [] [] (ok_X11_divorce h1) q_1157 q_1158 q_1159 q_1160 q_141 hd_X11_divorce (ce_48 D _ _) kc11.1 rfl ⟨Nat.le_trans (Nat.le_of_ble_eq_true rfl) hrm.1, Nat.le_trans (Nat.le_of_ble_eq_true rfl) hrm.2⟩ (Nat.zero_le _) (Nat.zero_le _) rfl rfl (Nat.le_of_ble_eq_true rfl) dL_law_899 ?_
  rintro _ _ _ ⟨rfl, rfl, rfl⟩
  refine i_aload_n X 3 dL_law_902 rfl rfl ?_
  refine i_callV X [] [.int v] (ok_X12_divorce h2) q_1814 q_1815 q_1816 q_1817 q_153 hd_X12_divorce (ce_51 D _ _) kc12.1 rfl ⟨Nat.le_trans (Nat.le_of_ble_eq_true rfl) hrm.1, Nat.le_trans (Nat.le_of_ble_eq_true rfl) hrm.2⟩ (Nat.zero_le _) (Nat.zero_le _) rfl rfl (Nat.le_of_ble_eq_true rfl) dL_law_903 ?_
  rintro _ _ _ ⟨rfl, rfl, rfl⟩
  refine i_icmp_eq X (t := 1217) dL_law_906 (by decide) (fun _ => ?_) (fun z => absurd rfl z)
  exact kk _ _ _ _ (show mc ≤ mc + 15 by omega) (show ms ≤ ms + 800 by omega) hI2
set_option maxRecDepth 100000 in
set_option maxHeartbeats 4000000 in
theorem lc_free {rm : Room} {D : k_D} {p : Program} {l : Launch} {e : Env} {s : State} {m : MethodId} {a : Array Value} {b : List Frame} {me : Method} {c : Code} {A : Nat → Prop} {Q : State → Prop} {b0 L : Nat} {xs : Nat → Int32} (X : k_X yL_law cL_law 4 (some .boolean) D p s m me c A) (hX : va_X b0 L xs s s.heap) (hb0 : b0 < s.heap.size) (hbA : ¬ A b0) (hrm : 200 ≤ rm.frames ∧ 20000 ≤ rm.locals) {mc ms : Nat} (hmc : 15 ≤ mc) (hms : 800 ≤ ms) {dy : Nat → Nat} {S : St} {i : Int32} (hI : Inv S) (hin : ∀ j, j ≤ 5 → vp_in (i + nI j) L)
    (kk : ∀ dy1 S1 mc1 ms1, mc ≤ mc1 + 15 → ms ≤ ms1 + 800 → Inv S1 → In yL_law cL_law 4 (some .boolean) rm D p l e s m a b me c A Q mc1 ms1 (k_cell D dy1 S1) (k_ad D dy1) 1217 (lwLs b0 D i) []) : In yL_law cL_law 4 (some .boolean) rm D p l e s m a b me c A Q mc ms (k_cell D dy S) (k_ad D dy) 911 (lwLs b0 D i) [] := by
  obtain ⟨v, S1, S2, h1, h2, hI2⟩ := (p_free (xs (i + nI 1).toNatClampNeg)) S hI
  refine i_aload_n X 2 dL_law_911 rfl rfl ?_
  refine i_aload_n X 1 dL_law_912 rfl rfl ?_
  refine i_iload_n X 0 dL_law_913 rfl rfl ?_
  refine i_iconst X (v := 1) dL_law_914 rfl ?_
  refine i_iadd X dL_law_915 ?_
  refine i_sld X hX hb0 hbA (hin 1 (by decide)) dL_law_916 ?_
  refine i_callV X [.int (xs (i + nI 1).toNatClampNeg)] [] (ok_X11_free h1) q_1161 q_1162 q_1163 q_1164 q_141 hd_X11_free (ce_48 D _ _) kc11.1 rfl ⟨Nat.le_trans (Nat.le_of_ble_eq_true rfl) hrm.1, Nat.le_trans (Nat.le_of_ble_eq_true rfl) hrm.2⟩ (Nat.zero_le _) (Nat.zero_le _) rfl rfl (Nat.le_of_ble_eq_true rfl) dL_law_917 ?_
  rintro _ _ _ ⟨rfl, rfl, rfl⟩
  refine i_aload_n X 3 dL_law_920 rfl rfl ?_
  refine i_aload_n X 1 dL_law_921 rfl rfl ?_
  refine i_iload_n X 0 dL_law_922 rfl rfl ?_
  refine i_iconst X (v := 1) dL_law_923 rfl ?_
  refine i_iadd X dL_law_924 ?_
  refine i_sld X hX hb0 hbA (hin 1 (by decide)) dL_law_925 ?_
  refine i_callV X [.int (xs (i + nI 1).toNatClampNeg)] [.int v] (ok_X12_free h2) q_1818 q_1819 q_1820 q_1821 q_153 hd_X12_free (ce_51 D _ _) kc12.1 rfl ⟨Nat.le_trans (Nat.le_of_ble_eq_true rfl) hrm.1, Nat.le_trans (Nat.le_of_ble_eq_true rfl) hrm.2⟩ (Nat.zero_le _) (Nat.zero_le _) rfl rfl (Nat.le_of_ble_eq_true rfl) dL_law_926 ?_
  rintro _ _ _ ⟨rfl, rfl, rfl⟩
  refine i_icmp_eq X (t := 1217) dL_law_929 (by decide) (fun _ => ?_) (fun z => absurd rfl z)
  exact kk _ _ _ _ (show mc ≤ mc + 15 by omega) (show ms ≤ ms + 800 by omega) hI2
set_option maxRecDepth 100000 in
set_option maxHeartbeats 4000000 in
theorem lc_dance {rm : Room} {D : k_D} {p : Program} {l : Launch} {e : Env} {s : State} {m : MethodId} {a : Array Value} {b : List Frame} {me : Method} {c : Code} {A : Nat → Prop} {Q : State → Prop} {b0 L : Nat} {xs : Nat → Int32} (X : k_X yL_law cL_law 4 (some .boolean) D p s m me c A) (hX : va_X b0 L xs s s.heap) (hb0 : b0 < s.heap.size) (hbA : ¬ A b0) (hrm : 200 ≤ rm.frames ∧ 20000 ≤ rm.locals) {mc ms : Nat} (hmc : 15 ≤ mc) (hms : 800 ≤ ms) {dy : Nat → Nat} {S : St} {i : Int32} (hI : Inv S) (hin : ∀ j, j ≤ 5 → vp_in (i + nI j) L)
    (kk : ∀ dy1 S1 mc1 ms1, mc ≤ mc1 + 15 → ms ≤ ms1 + 800 → Inv S1 → In yL_law cL_law 4 (some .boolean) rm D p l e s m a b me c A Q mc1 ms1 (k_cell D dy1 S1) (k_ad D dy1) 1217 (lwLs b0 D i) []) : In yL_law cL_law 4 (some .boolean) rm D p l e s m a b me c A Q mc ms (k_cell D dy S) (k_ad D dy) 934 (lwLs b0 D i) [] := by
  obtain ⟨v, S1, S2, h1, h2, hI2⟩ := (p_dance (xs (i + nI 1).toNatClampNeg) (xs (i + nI 2).toNatClampNeg)) S hI
  refine i_aload_n X 2 dL_law_934 rfl rfl ?_
  refine i_aload_n X 1 dL_law_935 rfl rfl ?_
  refine i_iload_n X 0 dL_law_936 rfl rfl ?_
  refine i_iconst X (v := 1) dL_law_937 rfl ?_
  refine i_iadd X dL_law_938 ?_
  refine i_sld X hX hb0 hbA (hin 1 (by decide)) dL_law_939 ?_
  refine i_aload_n X 1 dL_law_940 rfl rfl ?_
  refine i_iload_n X 0 dL_law_941 rfl rfl ?_
  refine i_iconst X (v := 2) dL_law_942 rfl ?_
  refine i_iadd X dL_law_943 ?_
  refine i_sld X hX hb0 hbA (hin 2 (by decide)) dL_law_944 ?_
  refine i_callV X [.int (xs (i + nI 1).toNatClampNeg), .int (xs (i + nI 2).toNatClampNeg)] [] (ok_X11_dance h1) q_1173 q_1174 q_1175 q_1176 q_141 hd_X11_dance (ce_48 D _ _) kc11.1 rfl ⟨Nat.le_trans (Nat.le_of_ble_eq_true rfl) hrm.1, Nat.le_trans (Nat.le_of_ble_eq_true rfl) hrm.2⟩ (Nat.zero_le _) (Nat.zero_le _) rfl rfl (Nat.le_of_ble_eq_true rfl) dL_law_945 ?_
  rintro _ _ _ ⟨rfl, rfl, rfl⟩
  refine i_aload_n X 3 dL_law_948 rfl rfl ?_
  refine i_aload_n X 1 dL_law_949 rfl rfl ?_
  refine i_iload_n X 0 dL_law_950 rfl rfl ?_
  refine i_iconst X (v := 1) dL_law_951 rfl ?_
  refine i_iadd X dL_law_952 ?_
  refine i_sld X hX hb0 hbA (hin 1 (by decide)) dL_law_953 ?_
  refine i_aload_n X 1 dL_law_954 rfl rfl ?_
  refine i_iload_n X 0 dL_law_955 rfl rfl ?_
  refine i_iconst X (v := 2) dL_law_956 rfl ?_
  refine i_iadd X dL_law_957 ?_
  refine i_sld X hX hb0 hbA (hin 2 (by decide)) dL_law_958 ?_
  refine i_callV X [.int (xs (i + nI 1).toNatClampNeg), .int (xs (i + nI 2).toNatClampNeg)] [.int v] (ok_X12_dance h2) q_1822 q_1823 q_1824 q_1825 q_153 hd_X12_dance (ce_51 D _ _) kc12.1 rfl ⟨Nat.le_trans (Nat.le_of_ble_eq_true rfl) hrm.1, Nat.le_trans (Nat.le_of_ble_eq_true rfl) hrm.2⟩ (Nat.zero_le _) (Nat.zero_le _) rfl rfl (Nat.le_of_ble_eq_true rfl) dL_law_959 ?_
  rintro _ _ _ ⟨rfl, rfl, rfl⟩
  refine i_icmp_eq X (t := 1217) dL_law_962 (by decide) (fun _ => ?_) (fun z => absurd rfl z)
  exact kk _ _ _ _ (show mc ≤ mc + 15 by omega) (show ms ≤ ms + 800 by omega) hI2
set_option maxRecDepth 100000 in
set_option maxHeartbeats 4000000 in
theorem lc_ahead {rm : Room} {D : k_D} {p : Program} {l : Launch} {e : Env} {s : State} {m : MethodId} {a : Array Value} {b : List Frame} {me : Method} {c : Code} {A : Nat → Prop} {Q : State → Prop} {b0 L : Nat} {xs : Nat → Int32} (X : k_X yL_law cL_law 4 (some .boolean) D p s m me c A) (hX : va_X b0 L xs s s.heap) (hb0 : b0 < s.heap.size) (hbA : ¬ A b0) (hrm : 200 ≤ rm.frames ∧ 20000 ≤ rm.locals) {mc ms : Nat} (hmc : 15 ≤ mc) (hms : 800 ≤ ms) {dy : Nat → Nat} {S : St} {i : Int32} (hI : Inv S) (hin : ∀ j, j ≤ 5 → vp_in (i + nI j) L)
    (kk : ∀ dy1 S1 mc1 ms1, mc ≤ mc1 + 15 → ms ≤ ms1 + 800 → Inv S1 → In yL_law cL_law 4 (some .boolean) rm D p l e s m a b me c A Q mc1 ms1 (k_cell D dy1 S1) (k_ad D dy1) 1217 (lwLs b0 D i) []) : In yL_law cL_law 4 (some .boolean) rm D p l e s m a b me c A Q mc ms (k_cell D dy S) (k_ad D dy) 967 (lwLs b0 D i) [] := by
  obtain ⟨v, S1, S2, h1, h2, hI2⟩ := (p_ahead (xs (i + nI 1).toNatClampNeg) (xs (i + nI 2).toNatClampNeg)) S hI
  refine i_aload_n X 2 dL_law_967 rfl rfl ?_
  refine i_aload_n X 1 dL_law_968 rfl rfl ?_
  refine i_iload_n X 0 dL_law_969 rfl rfl ?_
  refine i_iconst X (v := 1) dL_law_970 rfl ?_
  refine i_iadd X dL_law_971 ?_
  refine i_sld X hX hb0 hbA (hin 1 (by decide)) dL_law_972 ?_
  refine i_aload_n X 1 dL_law_973 rfl rfl ?_
  refine i_iload_n X 0 dL_law_974 rfl rfl ?_
  refine i_iconst X (v := 2) dL_law_975 rfl ?_
  refine i_iadd X dL_law_976 ?_
  refine i_sld X hX hb0 hbA (hin 2 (by decide)) dL_law_977 ?_
  refine i_callV X [.int (xs (i + nI 1).toNatClampNeg), .int (xs (i + nI 2).toNatClampNeg)] [] (ok_X11_ahead h1) q_1181 q_1182 q_1183 q_1184 q_141 hd_X11_ahead (ce_48 D _ _) kc11.1 rfl ⟨Nat.le_trans (Nat.le_of_ble_eq_true rfl) hrm.1, Nat.le_trans (Nat.le_of_ble_eq_true rfl) hrm.2⟩ (Nat.zero_le _) (Nat.zero_le _) rfl rfl (Nat.le_of_ble_eq_true rfl) dL_law_978 ?_
  rintro _ _ _ ⟨rfl, rfl, rfl⟩
  refine i_aload_n X 3 dL_law_981 rfl rfl ?_
  refine i_aload_n X 1 dL_law_982 rfl rfl ?_
  refine i_iload_n X 0 dL_law_983 rfl rfl ?_
  refine i_iconst X (v := 1) dL_law_984 rfl ?_
  refine i_iadd X dL_law_985 ?_
  refine i_sld X hX hb0 hbA (hin 1 (by decide)) dL_law_986 ?_
  refine i_aload_n X 1 dL_law_987 rfl rfl ?_
  refine i_iload_n X 0 dL_law_988 rfl rfl ?_
  refine i_iconst X (v := 2) dL_law_989 rfl ?_
  refine i_iadd X dL_law_990 ?_
  refine i_sld X hX hb0 hbA (hin 2 (by decide)) dL_law_991 ?_
  refine i_callV X [.int (xs (i + nI 1).toNatClampNeg), .int (xs (i + nI 2).toNatClampNeg)] [.int v] (ok_X12_ahead h2) q_1826 q_1827 q_1828 q_1829 q_153 hd_X12_ahead (ce_51 D _ _) kc12.1 rfl ⟨Nat.le_trans (Nat.le_of_ble_eq_true rfl) hrm.1, Nat.le_trans (Nat.le_of_ble_eq_true rfl) hrm.2⟩ (Nat.zero_le _) (Nat.zero_le _) rfl rfl (Nat.le_of_ble_eq_true rfl) dL_law_992 ?_
  rintro _ _ _ ⟨rfl, rfl, rfl⟩
  refine i_icmp_eq X (t := 1217) dL_law_995 (by decide) (fun _ => ?_) (fun z => absurd rfl z)
  exact kk _ _ _ _ (show mc ≤ mc + 15 by omega) (show ms ≤ ms + 800 by omega) hI2
set_option maxRecDepth 100000 in
set_option maxHeartbeats 4000000 in
theorem lc_forget {rm : Room} {D : k_D} {p : Program} {l : Launch} {e : Env} {s : State} {m : MethodId} {a : Array Value} {b : List Frame} {me : Method} {c : Code} {A : Nat → Prop} {Q : State → Prop} {b0 L : Nat} {xs : Nat → Int32} (X : k_X yL_law cL_law 4 (some .boolean) D p s m me c A) (hX : va_X b0 L xs s s.heap) (hb0 : b0 < s.heap.size) (hbA : ¬ A b0) (hrm : 200 ≤ rm.frames ∧ 20000 ≤ rm.locals) {mc ms : Nat} (hmc : 15 ≤ mc) (hms : 800 ≤ ms) {dy : Nat → Nat} {S : St} {i : Int32} (hI : Inv S) (hin : ∀ j, j ≤ 5 → vp_in (i + nI j) L)
    (kk : ∀ dy1 S1 mc1 ms1, mc ≤ mc1 + 15 → ms ≤ ms1 + 800 → Inv S1 → In yL_law cL_law 4 (some .boolean) rm D p l e s m a b me c A Q mc1 ms1 (k_cell D dy1 S1) (k_ad D dy1) 1217 (lwLs b0 D i) []) : In yL_law cL_law 4 (some .boolean) rm D p l e s m a b me c A Q mc ms (k_cell D dy S) (k_ad D dy) 1000 (lwLs b0 D i) [] := by
  obtain ⟨v, S1, S2, h1, h2, hI2⟩ := p_forget S hI
  refine i_aload_n X 2 dL_law_1000 rfl rfl ?_
  refine i_callV X [] [] (ok_X11_forget h1) q_1193 q_1194 q_1195 q_1196 q_141 hd_X11_forget (ce_48 D _ _) kc11.1 rfl ⟨Nat.le_trans (Nat.le_of_ble_eq_true rfl) hrm.1, Nat.le_trans (Nat.le_of_ble_eq_true rfl) hrm.2⟩ (Nat.zero_le _) (Nat.zero_le _) rfl rfl (Nat.le_of_ble_eq_true rfl) dL_law_1001 ?_
  rintro _ _ _ ⟨rfl, rfl, rfl⟩
  refine i_aload_n X 3 dL_law_1004 rfl rfl ?_
  refine i_callV X [] [.int v] (ok_X12_forget h2) q_1834 q_1835 q_1836 q_1837 q_153 hd_X12_forget (ce_51 D _ _) kc12.1 rfl ⟨Nat.le_trans (Nat.le_of_ble_eq_true rfl) hrm.1, Nat.le_trans (Nat.le_of_ble_eq_true rfl) hrm.2⟩ (Nat.zero_le _) (Nat.zero_le _) rfl rfl (Nat.le_of_ble_eq_true rfl) dL_law_1005 ?_
  rintro _ _ _ ⟨rfl, rfl, rfl⟩
  refine i_icmp_eq X (t := 1217) dL_law_1008 (by decide) (fun _ => ?_) (fun z => absurd rfl z)
  exact kk _ _ _ _ (show mc ≤ mc + 15 by omega) (show ms ≤ ms + 800 by omega) hI2
set_option maxRecDepth 100000 in
set_option maxHeartbeats 4000000 in
theorem lc_orders {rm : Room} {D : k_D} {p : Program} {l : Launch} {e : Env} {s : State} {m : MethodId} {a : Array Value} {b : List Frame} {me : Method} {c : Code} {A : Nat → Prop} {Q : State → Prop} {b0 L : Nat} {xs : Nat → Int32} (X : k_X yL_law cL_law 4 (some .boolean) D p s m me c A) (hX : va_X b0 L xs s s.heap) (hb0 : b0 < s.heap.size) (hbA : ¬ A b0) (hrm : 200 ≤ rm.frames ∧ 20000 ≤ rm.locals) {mc ms : Nat} (hmc : 15 ≤ mc) (hms : 800 ≤ ms) {dy : Nat → Nat} {S : St} {i : Int32} (hI : Inv S) (hin : ∀ j, j ≤ 5 → vp_in (i + nI j) L)
    (kk : ∀ dy1 S1 mc1 ms1, mc ≤ mc1 + 15 → ms ≤ ms1 + 800 → Inv S1 → In yL_law cL_law 4 (some .boolean) rm D p l e s m a b me c A Q mc1 ms1 (k_cell D dy1 S1) (k_ad D dy1) 1217 (lwLs b0 D i) []) : In yL_law cL_law 4 (some .boolean) rm D p l e s m a b me c A Q mc ms (k_cell D dy S) (k_ad D dy) 1013 (lwLs b0 D i) [] := by
  obtain ⟨v, S1, S2, h1, h2, hI2⟩ := (p_orders (xs (i + nI 1).toNatClampNeg) (xs (i + nI 2).toNatClampNeg)) S hI
  refine i_aload_n X 2 dL_law_1013 rfl rfl ?_
  refine i_aload_n X 1 dL_law_1014 rfl rfl ?_
  refine i_iload_n X 0 dL_law_1015 rfl rfl ?_
  refine i_iconst X (v := 1) dL_law_1016 rfl ?_
  refine i_iadd X dL_law_1017 ?_
  refine i_sld X hX hb0 hbA (hin 1 (by decide)) dL_law_1018 ?_
  refine i_aload_n X 1 dL_law_1019 rfl rfl ?_
  refine i_iload_n X 0 dL_law_1020 rfl rfl ?_
  refine i_iconst X (v := 2) dL_law_1021 rfl ?_
  refine i_iadd X dL_law_1022 ?_
  refine i_sld X hX hb0 hbA (hin 2 (by decide)) dL_law_1023 ?_
  refine i_callV X [.int (xs (i + nI 1).toNatClampNeg), .int (xs (i + nI 2).toNatClampNeg)] [] (ok_X11_orders h1) q_1197 q_1198 q_1199 q_1200 q_141 hd_X11_orders (ce_48 D _ _) kc11.1 rfl ⟨Nat.le_trans (Nat.le_of_ble_eq_true rfl) hrm.1, Nat.le_trans (Nat.le_of_ble_eq_true rfl) hrm.2⟩ (Nat.zero_le _) (Nat.zero_le _) rfl rfl (Nat.le_of_ble_eq_true rfl) dL_law_1024 ?_
  rintro _ _ _ ⟨rfl, rfl, rfl⟩
  refine i_aload_n X 3 dL_law_1027 rfl rfl ?_
  refine i_aload_n X 1 dL_law_1028 rfl rfl ?_
  refine i_iload_n X 0 dL_law_1029 rfl rfl ?_
  refine i_iconst X (v := 1) dL_law_1030 rfl ?_
  refine i_iadd X dL_law_1031 ?_
  refine i_sld X hX hb0 hbA (hin 1 (by decide)) dL_law_1032 ?_
  refine i_aload_n X 1 dL_law_1033 rfl rfl ?_
  refine i_iload_n X 0 dL_law_1034 rfl rfl ?_
  refine i_iconst X (v := 2) dL_law_1035 rfl ?_
  refine i_iadd X dL_law_1036 ?_
  refine i_sld X hX hb0 hbA (hin 2 (by decide)) dL_law_1037 ?_
  refine i_callV X [.int (xs (i + nI 1).toNatClampNeg), .int (xs (i + nI 2).toNatClampNeg)] [.int v] (ok_X12_orders h2) q_1838 q_1839 q_1840 q_1841 q_153 hd_X12_orders (ce_51 D _ _) kc12.1 rfl ⟨Nat.le_trans (Nat.le_of_ble_eq_true rfl) hrm.1, Nat.le_trans (Nat.le_of_ble_eq_true rfl) hrm.2⟩ (Nat.zero_le _) (Nat.zero_le _) rfl rfl (Nat.le_of_ble_eq_true rfl) dL_law_1038 ?_
  rintro _ _ _ ⟨rfl, rfl, rfl⟩
  refine i_icmp_eq X (t := 1217) dL_law_1041 (by decide) (fun _ => ?_) (fun z => absurd rfl z)
  exact kk _ _ _ _ (show mc ≤ mc + 15 by omega) (show ms ≤ ms + 800 by omega) hI2
set_option maxRecDepth 100000 in
set_option maxHeartbeats 4000000 in
theorem lc_can {rm : Room} {D : k_D} {p : Program} {l : Launch} {e : Env} {s : State} {m : MethodId} {a : Array Value} {b : List Frame} {me : Method} {c : Code} {A : Nat → Prop} {Q : State → Prop} {b0 L : Nat} {xs : Nat → Int32} (X : k_X yL_law cL_law 4 (some .boolean) D p s m me c A) (hX : va_X b0 L xs s s.heap) (hb0 : b0 < s.heap.size) (hbA : ¬ A b0) (hrm : 200 ≤ rm.frames ∧ 20000 ≤ rm.locals) {mc ms : Nat} (hmc : 15 ≤ mc) (hms : 800 ≤ ms) {dy : Nat → Nat} {S : St} {i : Int32} (hI : Inv S) (hin : ∀ j, j ≤ 5 → vp_in (i + nI j) L)
    (kk : ∀ dy1 S1 mc1 ms1, mc ≤ mc1 + 15 → ms ≤ ms1 + 800 → Inv S1 → In yL_law cL_law 4 (some .boolean) rm D p l e s m a b me c A Q mc1 ms1 (k_cell D dy1 S1) (k_ad D dy1) 1217 (lwLs b0 D i) []) : In yL_law cL_law 4 (some .boolean) rm D p l e s m a b me c A Q mc ms (k_cell D dy S) (k_ad D dy) 1046 (lwLs b0 D i) [] := by
  obtain ⟨v, S1, S2, h1, h2, hI2⟩ := (p_can (xs (i + nI 1).toNatClampNeg)) S hI
  refine i_aload_n X 2 dL_law_1046 rfl rfl ?_
  refine i_aload_n X 1 dL_law_1047 rfl rfl ?_
  refine i_iload_n X 0 dL_law_1048 rfl rfl ?_
  refine i_iconst X (v := 1) dL_law_1049 rfl ?_
  refine i_iadd X dL_law_1050 ?_
  refine i_sld X hX hb0 hbA (hin 1 (by decide)) dL_law_1051 ?_
  refine i_callV X [.int (xs (i + nI 1).toNatClampNeg)] [] (ok_X11_can h1) q_1227 q_1228 q_1229 q_1230 q_141 hd_X11_can (ce_48 D _ _) kc11.1 rfl ⟨Nat.le_trans (Nat.le_of_ble_eq_true rfl) hrm.1, Nat.le_trans (Nat.le_of_ble_eq_true rfl) hrm.2⟩ (Nat.zero_le _) (Nat.zero_le _) rfl rfl (Nat.le_of_ble_eq_true rfl) dL_law_1052 ?_
  rintro _ _ _ ⟨rfl, rfl, rfl⟩
  refine i_aload_n X 3 dL_law_1055 rfl rfl ?_
  refine i_aload_n X 1 dL_law_1056 rfl rfl ?_
  refine i_iload_n X 0 dL_law_1057 rfl rfl ?_
  refine i_iconst X (v := 1) dL_law_1058 rfl ?_
  refine i_iadd X dL_law_1059 ?_
  refine i_sld X hX hb0 hbA (hin 1 (by decide)) dL_law_1060 ?_
  refine i_callV X [.int (xs (i + nI 1).toNatClampNeg)] [.int v] (ok_X12_can h2) q_1858 q_1859 q_1860 q_1861 q_153 hd_X12_can (ce_51 D _ _) kc12.1 rfl ⟨Nat.le_trans (Nat.le_of_ble_eq_true rfl) hrm.1, Nat.le_trans (Nat.le_of_ble_eq_true rfl) hrm.2⟩ (Nat.zero_le _) (Nat.zero_le _) rfl rfl (Nat.le_of_ble_eq_true rfl) dL_law_1061 ?_
  rintro _ _ _ ⟨rfl, rfl, rfl⟩
  refine i_icmp_eq X (t := 1217) dL_law_1064 (by decide) (fun _ => ?_) (fun z => absurd rfl z)
  exact kk _ _ _ _ (show mc ≤ mc + 15 by omega) (show ms ≤ ms + 800 by omega) hI2
set_option maxRecDepth 100000 in
set_option maxHeartbeats 4000000 in
theorem lc_evenings {rm : Room} {D : k_D} {p : Program} {l : Launch} {e : Env} {s : State} {m : MethodId} {a : Array Value} {b : List Frame} {me : Method} {c : Code} {A : Nat → Prop} {Q : State → Prop} {b0 L : Nat} {xs : Nat → Int32} (X : k_X yL_law cL_law 4 (some .boolean) D p s m me c A) (hX : va_X b0 L xs s s.heap) (hb0 : b0 < s.heap.size) (hbA : ¬ A b0) (hrm : 200 ≤ rm.frames ∧ 20000 ≤ rm.locals) {mc ms : Nat} (hmc : 15 ≤ mc) (hms : 800 ≤ ms) {dy : Nat → Nat} {S : St} {i : Int32} (hI : Inv S) (hin : ∀ j, j ≤ 5 → vp_in (i + nI j) L)
    (kk : ∀ dy1 S1 mc1 ms1, mc ≤ mc1 + 15 → ms ≤ ms1 + 800 → Inv S1 → In yL_law cL_law 4 (some .boolean) rm D p l e s m a b me c A Q mc1 ms1 (k_cell D dy1 S1) (k_ad D dy1) 1217 (lwLs b0 D i) []) : In yL_law cL_law 4 (some .boolean) rm D p l e s m a b me c A Q mc ms (k_cell D dy S) (k_ad D dy) 1069 (lwLs b0 D i) [] := by
  obtain ⟨v, S1, S2, h1, h2, hI2⟩ := (p_evenings (xs (i + nI 1).toNatClampNeg) (xs (i + nI 2).toNatClampNeg)) S hI
  refine i_aload_n X 2 dL_law_1069 rfl rfl ?_
  refine i_aload_n X 1 dL_law_1070 rfl rfl ?_
  refine i_iload_n X 0 dL_law_1071 rfl rfl ?_
  refine i_iconst X (v := 1) dL_law_1072 rfl ?_
  refine i_iadd X dL_law_1073 ?_
  refine i_sld X hX hb0 hbA (hin 1 (by decide)) dL_law_1074 ?_
  refine i_aload_n X 1 dL_law_1075 rfl rfl ?_
  refine i_iload_n X 0 dL_law_1076 rfl rfl ?_
  refine i_iconst X (v := 2) dL_law_1077 rfl ?_
  refine i_iadd X dL_law_1078 ?_
  refine i_sld X hX hb0 hbA (hin 2 (by decide)) dL_law_1079 ?_
  refine i_callV X [.int (xs (i + nI 1).toNatClampNeg), .int (xs (i + nI 2).toNatClampNeg)] [] (ok_X11_evenings h1) q_1231 q_1232 q_1233 q_1234 q_141 hd_X11_evenings (ce_48 D _ _) kc11.1 rfl ⟨Nat.le_trans (Nat.le_of_ble_eq_true rfl) hrm.1, Nat.le_trans (Nat.le_of_ble_eq_true rfl) hrm.2⟩ (Nat.zero_le _) (Nat.zero_le _) rfl rfl (Nat.le_of_ble_eq_true rfl) dL_law_1080 ?_
  rintro _ _ _ ⟨rfl, rfl, rfl⟩
  refine i_aload_n X 3 dL_law_1083 rfl rfl ?_
  refine i_aload_n X 1 dL_law_1084 rfl rfl ?_
  refine i_iload_n X 0 dL_law_1085 rfl rfl ?_
  refine i_iconst X (v := 1) dL_law_1086 rfl ?_
  refine i_iadd X dL_law_1087 ?_
  refine i_sld X hX hb0 hbA (hin 1 (by decide)) dL_law_1088 ?_
  refine i_aload_n X 1 dL_law_1089 rfl rfl ?_
  refine i_iload_n X 0 dL_law_1090 rfl rfl ?_
  refine i_iconst X (v := 2) dL_law_1091 rfl ?_
  refine i_iadd X dL_law_1092 ?_
  refine i_sld X hX hb0 hbA (hin 2 (by decide)) dL_law_1093 ?_
  refine i_callV X [.int (xs (i + nI 1).toNatClampNeg), .int (xs (i + nI 2).toNatClampNeg)] [.int v] (ok_X12_evenings h2) q_1862 q_1863 q_1864 q_1865 q_153 hd_X12_evenings (ce_51 D _ _) kc12.1 rfl ⟨Nat.le_trans (Nat.le_of_ble_eq_true rfl) hrm.1, Nat.le_trans (Nat.le_of_ble_eq_true rfl) hrm.2⟩ (Nat.zero_le _) (Nat.zero_le _) rfl rfl (Nat.le_of_ble_eq_true rfl) dL_law_1094 ?_
  rintro _ _ _ ⟨rfl, rfl, rfl⟩
  refine i_icmp_eq X (t := 1217) dL_law_1097 (by decide) (fun _ => ?_) (fun z => absurd rfl z)
  exact kk _ _ _ _ (show mc ≤ mc + 15 by omega) (show ms ≤ ms + 800 by omega) hI2
set_option maxRecDepth 100000 in
set_option maxHeartbeats 4000000 in
theorem lc_owed {rm : Room} {D : k_D} {p : Program} {l : Launch} {e : Env} {s : State} {m : MethodId} {a : Array Value} {b : List Frame} {me : Method} {c : Code} {A : Nat → Prop} {Q : State → Prop} {b0 L : Nat} {xs : Nat → Int32} (X : k_X yL_law cL_law 4 (some .boolean) D p s m me c A) (hX : va_X b0 L xs s s.heap) (hb0 : b0 < s.heap.size) (hbA : ¬ A b0) (hrm : 200 ≤ rm.frames ∧ 20000 ≤ rm.locals) {mc ms : Nat} (hmc : 15 ≤ mc) (hms : 800 ≤ ms) {dy : Nat → Nat} {S : St} {i : Int32} (hI : Inv S) (hin : ∀ j, j ≤ 5 → vp_in (i + nI j) L)
    (kk : ∀ dy1 S1 mc1 ms1, mc ≤ mc1 + 15 → ms ≤ ms1 + 800 → Inv S1 → In yL_law cL_law 4 (some .boolean) rm D p l e s m a b me c A Q mc1 ms1 (k_cell D dy1 S1) (k_ad D dy1) 1217 (lwLs b0 D i) []) : In yL_law cL_law 4 (some .boolean) rm D p l e s m a b me c A Q mc ms (k_cell D dy S) (k_ad D dy) 1102 (lwLs b0 D i) [] := by
  obtain ⟨v, S1, S2, h1, h2, hI2⟩ := (p_owed (xs (i + nI 1).toNatClampNeg) (xs (i + nI 2).toNatClampNeg)) S hI
  refine i_aload_n X 2 dL_law_1102 rfl rfl ?_
  refine i_aload_n X 1 dL_law_1103 rfl rfl ?_
  refine i_iload_n X 0 dL_law_1104 rfl rfl ?_
  refine i_iconst X (v := 1) dL_law_1105 rfl ?_
  refine i_iadd X dL_law_1106 ?_
  refine i_sld X hX hb0 hbA (hin 1 (by decide)) dL_law_1107 ?_
  refine i_aload_n X 1 dL_law_1108 rfl rfl ?_
  refine i_iload_n X 0 dL_law_1109 rfl rfl ?_
  refine i_iconst X (v := 2) dL_law_1110 rfl ?_
  refine i_iadd X dL_law_1111 ?_
  refine i_sld X hX hb0 hbA (hin 2 (by decide)) dL_law_1112 ?_
  refine i_callV X [.int (xs (i + nI 1).toNatClampNeg), .int (xs (i + nI 2).toNatClampNeg)] [] (ok_X11_owed h1) q_1256 q_1257 q_1258 q_1259 q_141 hd_X11_owed (ce_48 D _ _) kc11.1 rfl ⟨Nat.le_trans (Nat.le_of_ble_eq_true rfl) hrm.1, Nat.le_trans (Nat.le_of_ble_eq_true rfl) hrm.2⟩ (Nat.zero_le _) (Nat.zero_le _) rfl rfl (Nat.le_of_ble_eq_true rfl) dL_law_1113 ?_
  rintro _ _ _ ⟨rfl, rfl, rfl⟩
  refine i_aload_n X 3 dL_law_1116 rfl rfl ?_
  refine i_aload_n X 1 dL_law_1117 rfl rfl ?_
  refine i_iload_n X 0 dL_law_1118 rfl rfl ?_
  refine i_iconst X (v := 1) dL_law_1119 rfl ?_
  refine i_iadd X dL_law_1120 ?_
  refine i_sld X hX hb0 hbA (hin 1 (by decide)) dL_law_1121 ?_
  refine i_aload_n X 1 dL_law_1122 rfl rfl ?_
  refine i_iload_n X 0 dL_law_1123 rfl rfl ?_
  refine i_iconst X (v := 2) dL_law_1124 rfl ?_
  refine i_iadd X dL_law_1125 ?_
  refine i_sld X hX hb0 hbA (hin 2 (by decide)) dL_law_1126 ?_
  refine i_callV X [.int (xs (i + nI 1).toNatClampNeg), .int (xs (i + nI 2).toNatClampNeg)] [.int v] (ok_X12_owed h2) q_1873 q_1874 q_1875 q_1876 q_153 hd_X12_owed (ce_51 D _ _) kc12.1 rfl ⟨Nat.le_trans (Nat.le_of_ble_eq_true rfl) hrm.1, Nat.le_trans (Nat.le_of_ble_eq_true rfl) hrm.2⟩ (Nat.zero_le _) (Nat.zero_le _) rfl rfl (Nat.le_of_ble_eq_true rfl) dL_law_1127 ?_
  rintro _ _ _ ⟨rfl, rfl, rfl⟩
  refine i_icmp_eq X (t := 1217) dL_law_1130 (by decide) (fun _ => ?_) (fun z => absurd rfl z)
  exact kk _ _ _ _ (show mc ≤ mc + 15 by omega) (show ms ≤ ms + 800 by omega) hI2
set_option maxRecDepth 100000 in
set_option maxHeartbeats 4000000 in
theorem lc_image {rm : Room} {D : k_D} {p : Program} {l : Launch} {e : Env} {s : State} {m : MethodId} {a : Array Value} {b : List Frame} {me : Method} {c : Code} {A : Nat → Prop} {Q : State → Prop} {b0 L : Nat} {xs : Nat → Int32} (X : k_X yL_law cL_law 4 (some .boolean) D p s m me c A) (hX : va_X b0 L xs s s.heap) (hb0 : b0 < s.heap.size) (hbA : ¬ A b0) (hrm : 200 ≤ rm.frames ∧ 20000 ≤ rm.locals) {mc ms : Nat} (hmc : 15 ≤ mc) (hms : 800 ≤ ms) {dy : Nat → Nat} {S : St} {i : Int32} (hI : Inv S) (hin : ∀ j, j ≤ 5 → vp_in (i + nI j) L)
    (kk : ∀ dy1 S1 mc1 ms1, mc ≤ mc1 + 15 → ms ≤ ms1 + 800 → Inv S1 → In yL_law cL_law 4 (some .boolean) rm D p l e s m a b me c A Q mc1 ms1 (k_cell D dy1 S1) (k_ad D dy1) 1217 (lwLs b0 D i) []) : In yL_law cL_law 4 (some .boolean) rm D p l e s m a b me c A Q mc ms (k_cell D dy S) (k_ad D dy) 1135 (lwLs b0 D i) [] := by
  obtain ⟨v, S1, S2, h1, h2, hI2⟩ := (p_image (xs (i + nI 1).toNatClampNeg)) S hI
  refine i_aload_n X 2 dL_law_1135 rfl rfl ?_
  refine i_aload_n X 1 dL_law_1136 rfl rfl ?_
  refine i_iload_n X 0 dL_law_1137 rfl rfl ?_
  refine i_iconst X (v := 1) dL_law_1138 rfl ?_
  refine i_iadd X dL_law_1139 ?_
  refine i_sld X hX hb0 hbA (hin 1 (by decide)) dL_law_1140 ?_
  refine i_callV X [.int (xs (i + nI 1).toNatClampNeg)] [] (ok_X11_image h1) q_1261 q_1262 q_1263 q_1264 q_141 hd_X11_image (ce_48 D _ _) kc11.1 rfl ⟨Nat.le_trans (Nat.le_of_ble_eq_true rfl) hrm.1, Nat.le_trans (Nat.le_of_ble_eq_true rfl) hrm.2⟩ (show 15 ≤ mc by omega) (show 174 ≤ ms by omega) rfl rfl (Nat.le_of_ble_eq_true rfl) dL_law_1141 ?_
  rintro _ dy _ ⟨rfl, rfl⟩
  refine i_aload_n X 3 dL_law_1144 rfl rfl ?_
  refine i_aload_n X 1 dL_law_1145 rfl rfl ?_
  refine i_iload_n X 0 dL_law_1146 rfl rfl ?_
  refine i_iconst X (v := 1) dL_law_1147 rfl ?_
  refine i_iadd X dL_law_1148 ?_
  refine i_sld X hX hb0 hbA (hin 1 (by decide)) dL_law_1149 ?_
  refine i_callV X [.int (xs (i + nI 1).toNatClampNeg)] [.int v] (ok_X12_image h2) q_1477 q_1478 q_1479 q_1480 q_153 hd_X12_image (ce_51 D _ _) kc12.1 rfl ⟨Nat.le_trans (Nat.le_of_ble_eq_true rfl) hrm.1, Nat.le_trans (Nat.le_of_ble_eq_true rfl) hrm.2⟩ (Nat.zero_le _) (Nat.zero_le _) rfl rfl (Nat.le_of_ble_eq_true rfl) dL_law_1150 ?_
  rintro _ _ _ ⟨rfl, rfl, rfl⟩
  refine i_icmp_eq X (t := 1217) dL_law_1153 (by decide) (fun _ => ?_) (fun z => absurd rfl z)
  exact kk _ _ _ _ (show mc ≤ mc - 15 + 15 by omega) (show ms ≤ ms - 174 + 800 by omega) hI2
set_option maxRecDepth 100000 in
set_option maxHeartbeats 4000000 in
theorem lc_back {rm : Room} {D : k_D} {p : Program} {l : Launch} {e : Env} {s : State} {m : MethodId} {a : Array Value} {b : List Frame} {me : Method} {c : Code} {A : Nat → Prop} {Q : State → Prop} {b0 L : Nat} {xs : Nat → Int32} (X : k_X yL_law cL_law 4 (some .boolean) D p s m me c A) (hX : va_X b0 L xs s s.heap) (hb0 : b0 < s.heap.size) (hbA : ¬ A b0) (hrm : 200 ≤ rm.frames ∧ 20000 ≤ rm.locals) {mc ms : Nat} (hmc : 15 ≤ mc) (hms : 800 ≤ ms) {dy : Nat → Nat} {S : St} {i : Int32} (hI : Inv S) (hin : ∀ j, j ≤ 5 → vp_in (i + nI j) L)
    (kk : ∀ dy1 S1 mc1 ms1, mc ≤ mc1 + 15 → ms ≤ ms1 + 800 → Inv S1 → In yL_law cL_law 4 (some .boolean) rm D p l e s m a b me c A Q mc1 ms1 (k_cell D dy1 S1) (k_ad D dy1) 1217 (lwLs b0 D i) []) : In yL_law cL_law 4 (some .boolean) rm D p l e s m a b me c A Q mc ms (k_cell D dy S) (k_ad D dy) 1158 (lwLs b0 D i) [] := by
  obtain ⟨v, S1, S2, h1, h2, hI2⟩ := (p_back (xs (i + nI 1).toNatClampNeg)) S hI
  refine i_aload_n X 2 dL_law_1158 rfl rfl ?_
  refine i_aload_n X 1 dL_law_1159 rfl rfl ?_
  refine i_iload_n X 0 dL_law_1160 rfl rfl ?_
  refine i_iconst X (v := 1) dL_law_1161 rfl ?_
  refine i_iadd X dL_law_1162 ?_
  refine i_sld X hX hb0 hbA (hin 1 (by decide)) dL_law_1163 ?_
  refine i_callV X [.int (xs (i + nI 1).toNatClampNeg)] [] (ok_X11_back h1) q_1275 q_1276 q_1277 q_1278 q_141 hd_X11_back (ce_48 D _ _) kc11.1 rfl ⟨Nat.le_trans (Nat.le_of_ble_eq_true rfl) hrm.1, Nat.le_trans (Nat.le_of_ble_eq_true rfl) hrm.2⟩ (Nat.zero_le _) (Nat.zero_le _) rfl rfl (Nat.le_of_ble_eq_true rfl) dL_law_1164 ?_
  rintro _ _ _ ⟨rfl, rfl, rfl⟩
  refine i_aload_n X 3 dL_law_1167 rfl rfl ?_
  refine i_aload_n X 1 dL_law_1168 rfl rfl ?_
  refine i_iload_n X 0 dL_law_1169 rfl rfl ?_
  refine i_iconst X (v := 1) dL_law_1170 rfl ?_
  refine i_iadd X dL_law_1171 ?_
  refine i_sld X hX hb0 hbA (hin 1 (by decide)) dL_law_1172 ?_
  refine i_callV X [.int (xs (i + nI 1).toNatClampNeg)] [.int v] (ok_X12_back h2) q_1488 q_1489 q_1490 q_1491 q_153 hd_X12_back (ce_51 D _ _) kc12.1 rfl ⟨Nat.le_trans (Nat.le_of_ble_eq_true rfl) hrm.1, Nat.le_trans (Nat.le_of_ble_eq_true rfl) hrm.2⟩ (Nat.zero_le _) (Nat.zero_le _) rfl rfl (Nat.le_of_ble_eq_true rfl) dL_law_1173 ?_
  rintro _ _ _ ⟨rfl, rfl, rfl⟩
  refine i_icmp_eq X (t := 1217) dL_law_1176 (by decide) (fun _ => ?_) (fun z => absurd rfl z)
  exact kk _ _ _ _ (show mc ≤ mc + 15 by omega) (show ms ≤ ms + 800 by omega) hI2
set_option maxRecDepth 100000 in
set_option maxHeartbeats 4000000 in
theorem lc_count {rm : Room} {D : k_D} {p : Program} {l : Launch} {e : Env} {s : State} {m : MethodId} {a : Array Value} {b : List Frame} {me : Method} {c : Code} {A : Nat → Prop} {Q : State → Prop} {b0 L : Nat} {xs : Nat → Int32} (X : k_X yL_law cL_law 4 (some .boolean) D p s m me c A) (hX : va_X b0 L xs s s.heap) (hb0 : b0 < s.heap.size) (hbA : ¬ A b0) (hrm : 200 ≤ rm.frames ∧ 20000 ≤ rm.locals) {mc ms : Nat} (hmc : 15 ≤ mc) (hms : 800 ≤ ms) {dy : Nat → Nat} {S : St} {i : Int32} (hI : Inv S) (hin : ∀ j, j ≤ 5 → vp_in (i + nI j) L)
    (kk : ∀ dy1 S1 mc1 ms1, mc ≤ mc1 + 15 → ms ≤ ms1 + 800 → Inv S1 → In yL_law cL_law 4 (some .boolean) rm D p l e s m a b me c A Q mc1 ms1 (k_cell D dy1 S1) (k_ad D dy1) 1217 (lwLs b0 D i) []) : In yL_law cL_law 4 (some .boolean) rm D p l e s m a b me c A Q mc ms (k_cell D dy S) (k_ad D dy) 1181 (lwLs b0 D i) [] := by
  obtain ⟨v, S1, S2, h1, h2, hI2⟩ := (p_count (xs (i + nI 1).toNatClampNeg)) S hI
  refine i_aload_n X 2 dL_law_1181 rfl rfl ?_
  refine i_aload_n X 1 dL_law_1182 rfl rfl ?_
  refine i_iload_n X 0 dL_law_1183 rfl rfl ?_
  refine i_iconst X (v := 1) dL_law_1184 rfl ?_
  refine i_iadd X dL_law_1185 ?_
  refine i_sld X hX hb0 hbA (hin 1 (by decide)) dL_law_1186 ?_
  refine i_callV X [.int (xs (i + nI 1).toNatClampNeg)] [] (ok_X11_count h1) q_1279 q_1280 q_1281 q_1282 q_141 hd_X11_count (ce_48 D _ _) kc11.1 rfl ⟨Nat.le_trans (Nat.le_of_ble_eq_true rfl) hrm.1, Nat.le_trans (Nat.le_of_ble_eq_true rfl) hrm.2⟩ (Nat.zero_le _) (Nat.zero_le _) rfl rfl (Nat.le_of_ble_eq_true rfl) dL_law_1187 ?_
  rintro _ _ _ ⟨rfl, rfl, rfl⟩
  refine i_aload_n X 3 dL_law_1190 rfl rfl ?_
  refine i_aload_n X 1 dL_law_1191 rfl rfl ?_
  refine i_iload_n X 0 dL_law_1192 rfl rfl ?_
  refine i_iconst X (v := 1) dL_law_1193 rfl ?_
  refine i_iadd X dL_law_1194 ?_
  refine i_sld X hX hb0 hbA (hin 1 (by decide)) dL_law_1195 ?_
  refine i_callV X [.int (xs (i + nI 1).toNatClampNeg)] [.int v] (ok_X12_count h2) q_1877 q_1878 q_1879 q_1880 q_153 hd_X12_count (ce_51 D _ _) kc12.1 rfl ⟨Nat.le_trans (Nat.le_of_ble_eq_true rfl) hrm.1, Nat.le_trans (Nat.le_of_ble_eq_true rfl) hrm.2⟩ (Nat.zero_le _) (Nat.zero_le _) rfl rfl (Nat.le_of_ble_eq_true rfl) dL_law_1196 ?_
  rintro _ _ _ ⟨rfl, rfl, rfl⟩
  refine i_icmp_eq X (t := 1217) dL_law_1199 (by decide) (fun _ => ?_) (fun z => absurd rfl z)
  exact kk _ _ _ _ (show mc ≤ mc + 15 by omega) (show ms ≤ ms + 800 by omega) hI2
set_option maxRecDepth 100000 in
set_option maxHeartbeats 4000000 in
theorem lc_status {rm : Room} {D : k_D} {p : Program} {l : Launch} {e : Env} {s : State} {m : MethodId} {a : Array Value} {b : List Frame} {me : Method} {c : Code} {A : Nat → Prop} {Q : State → Prop} {b0 L : Nat} {xs : Nat → Int32} (X : k_X yL_law cL_law 4 (some .boolean) D p s m me c A) (hX : va_X b0 L xs s s.heap) (hb0 : b0 < s.heap.size) (hbA : ¬ A b0) (hrm : 200 ≤ rm.frames ∧ 20000 ≤ rm.locals) {mc ms : Nat} (hmc : 15 ≤ mc) (hms : 800 ≤ ms) {dy : Nat → Nat} {S : St} {i : Int32} (hI : Inv S) (hin : ∀ j, j ≤ 5 → vp_in (i + nI j) L)
    (kk : ∀ dy1 S1 mc1 ms1, mc ≤ mc1 + 15 → ms ≤ ms1 + 800 → Inv S1 → In yL_law cL_law 4 (some .boolean) rm D p l e s m a b me c A Q mc1 ms1 (k_cell D dy1 S1) (k_ad D dy1) 1217 (lwLs b0 D i) []) : In yL_law cL_law 4 (some .boolean) rm D p l e s m a b me c A Q mc ms (k_cell D dy S) (k_ad D dy) 1204 (lwLs b0 D i) [] := by
  obtain ⟨v, S1, S2, h1, h2, hI2⟩ := p_status S hI
  refine i_aload_n X 2 dL_law_1204 rfl rfl ?_
  refine i_callV X [] [] (ok_X11_status h1) q_1291 q_1292 q_1293 q_1294 q_141 hd_X11_status (ce_48 D _ _) kc11.1 rfl ⟨Nat.le_trans (Nat.le_of_ble_eq_true rfl) hrm.1, Nat.le_trans (Nat.le_of_ble_eq_true rfl) hrm.2⟩ (Nat.zero_le _) (Nat.zero_le _) rfl rfl (Nat.le_of_ble_eq_true rfl) dL_law_1205 ?_
  rintro _ _ _ ⟨rfl, rfl, rfl⟩
  refine i_aload_n X 3 dL_law_1208 rfl rfl ?_
  refine i_callV X [] [.int v] (ok_X12_status h2) q_1881 q_1882 q_1883 q_1884 q_153 hd_X12_status (ce_51 D _ _) kc12.1 rfl ⟨Nat.le_trans (Nat.le_of_ble_eq_true rfl) hrm.1, Nat.le_trans (Nat.le_of_ble_eq_true rfl) hrm.2⟩ (Nat.zero_le _) (Nat.zero_le _) rfl rfl (Nat.le_of_ble_eq_true rfl) dL_law_1209 ?_
  rintro _ _ _ ⟨rfl, rfl, rfl⟩
  refine i_icmp_eq X (t := 1217) dL_law_1212 (by decide) (fun _ => ?_) (fun z => absurd rfl z)
  exact kk _ _ _ _ (show mc ≤ mc + 15 by omega) (show ms ≤ ms + 800 by omega) hI2
