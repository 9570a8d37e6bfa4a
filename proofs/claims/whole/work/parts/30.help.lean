/-! The law's helpers: one call of the class under a try; what was thrown comes back as a number. -/
def xncs : List (String × String) := [("java/lang/IllegalStateException", "java/lang/IllegalArgumentException"), ("java/util/NoSuchElementException", "java/lang/IllegalArgumentException"), ("java/lang/IllegalStateException", "java/util/NoSuchElementException"), ("java/lang/IllegalArgumentException", "java/lang/IndexOutOfBoundsException")]
def xN (U : State) : Prop := ∀ z ∈ xncs, va_Nc z.1 z.2 U
theorem xN.moved {u U : State} (h : xN u) (hv : u.vm.Alike U.vm) : xN U := fun z hz => (h z hz).moved hv
def xPcH (D : va_G) (q : Nat → Nat) (k : Nat → ClassId) (sz : Nat) (a b : xT) (o : Nat → Int64) (av : List Value) : Array Value → State → Prop := va_Pc av (fun U => U.heap.size = sz ∧ va_P D vwCl (xw q k a b o) U.heap ∧ va_D (fun _ => True) (xw q k a b o) ∧ xG D k U ∧ xSt U ∧ xN U)
def xQh (D : va_G) (q : Nat → Nat) (k : Nat → ClassId) (a b : xT) (o : Nat → Int64) (kc : Int32) (a1 : xT) (o1 : Nat → Int64) : Array Value → State → Outcome → State → Prop := fun _ st oc t => oc = .returned (some (.int kc)) ∧ va_P D vwCl (xw q k a1 b o1) t.heap ∧ va_F (va_A (xw q k a b o) st.heap.size) st t
theorem xw_o {q : Nat → Nat} {k : Nat → ClassId} {a b : xT} {o : Nat → Int64} {x : Int64} : (xw q k a b o).set 39 (q 39, .inl (k 2, 1, .inr (.inl (vp_updL o (0 : Int32).toNatClampNeg x)))) = xw q k a b (vp_updL o 0 x) := rfl
theorem xin01 : vp_in (0 : Int32) 1 := by unfold vp_in; decide
section XH
variable {p : Program} {l : Launch} {e : Env} {R : Room} {s : State} {m : MethodId} {args : Array Value} {below : List Frame} {meth : Method} {c : Code} {H H1 : Heap} {locs : List Loc} {cells slots : Nat} {Q : State → Prop}
variable {D : va_G} {q : Nat → Nat} {k : Nat → ClassId} {a b a1 : xT} {o o1 : Nat → Int64} {A : Nat → Prop} {av : List Value} {pc : Nat} {ls : Array Slot} {st0 rest : List Value} {ar : Array Value}
theorem xpreTm (hP : va_P D vwCl (xw q k a b o) s.heap) (hD : va_D A (xw q k a b o)) (hG : xG D k s) (hst : xSt s) : xPre s s.heap (xPcTm D q k s.heap.size a b o av) av :=
  ⟨fun _ _ _ _ h => ⟨h.1, h.2.1, h.2.2.1, h.2.2.2.1, h.2.2.2.2.1.call, h.2.2.2.2.2.call⟩, fun U hU hW => ⟨rfl, by rw [hU], by rw [hU]; exact hP, hD.weaken (fun _ _ _ _ => trivial), hG.warm hW, hst.moved hW.alike (fun z cell h _ => by rw [hU]; exact h)⟩⟩
theorem xgo_tm {E : String} {sz : Nat} (hr : xRun p l e R s m args below meth c H locs cells slots (xmm (.inl E)) (xmn (.inl E)) (F0 m pc ls st0) rest (xQm D q k a b o (.inl E) ar) (xfr q k a b o sz (.inl E)))
    (kk : ∀ (u : Addr) (H1 : Heap) (ce : Cell), H1[u]? = some ce → ce.vm = .none → s.vm.findClass E = some ce.cls → H.size ≤ H1.size → (∀ z : Nat, z < H.size → H1[z]? = H[z]?) → xW p l e R s m args below meth c H1 locs (cells + 1) (slots + 6) Q (F0 m pc ls rest) u) : W p l e R s m args below meth c H locs cells slots Q (F0 m pc ls st0) := xgo_t (a := ar) hr kk
theorem xkeep (hP : va_P D vwCl (xw q k a b o) s.heap) (hk : ∀ z : Nat, z < s.heap.size → H1[z]? = s.heap[z]?) : va_P D vwCl (xw q k a b o) H1 := fun i z hz => (hP i z hz).kept (hk _ (hP i z hz).lt)
theorem xkeepS (hz : s.heap.size ≤ H1.size) (hk : ∀ z : Nat, z < s.heap.size → H1[z]? = s.heap[z]?) : va_S A s.heap H1 [] := ⟨hz, fun z h _ => hk z h, fun _ h => nomatch h⟩
theorem xreth {cc : ByteArray} {kc : Int32} (hx : p.tables.exec = Jvm.exec) (hb : c.code = cc) (hr : meth.sig.returnType = some .int) (hlocks : meth.locks = false) (hP : va_P D vwCl (xw q k a1 b o1) H) (hS : va_S (va_A (xw q k a b o) s.heap.size) s.heap H locs) (hdg : decode cc pc = .ok (.ireturn, 1)) :
    W p l e R s m args below meth c H locs 1 6 (xMQ below (xQh D q k a b o kc a1 o1) args s 1 6 (va_A (xw q k a b o) s.heap.size)) (F0 m pc ls [.int kc]) :=
  xmono xmq (W.iret hx hb hr (fun t ht _ => ⟨rfl, by rw [ht]; exact hP, hS.F ht⟩) hS.2.2 hdg hlocks)
end XH

abbrev r_L_rate : Room := { frames := 7, cells := 1, slots := 6, locals := 112 }
set_option maxHeartbeats 4000000 in
set_option maxRecDepth 100000 in
theorem h_rate_ok (l : Launch) (hl0 : l.stackTraces = false) (D : va_G) (q : Nat → Nat) (k : Nat → ClassId) (sz : Nat) (a b : xT) (o : Nat → Int64) (v1 : Int32) (v2 : Int32) (r : Int32) (a1 : xT) (hN : f_X4_rate a v1 v2 = some (.inr (r, a1))) : xMet l yL_rate (.codeWith yL_rate cL_rate 5 (some .int) [(0, 10, 13, 13), (0, 10, 17, 15)]) r_L_rate (xPcH D q k sz a b o [.ref (q 0), .int v1, .int v2, .ref (q 39)]) (xQh D q k a b o 0 a1 (vp_updL o 0 r.toInt64)) 1 6 (va_A (xw q k a b o) sz) := by
  refine xMet.ofWW (by decide) ?_
  intro p e s m args below meth c hx hb hml hr hlocks hnm htb hv
  obtain ⟨rfl, hsz, hP, hD, hG, hst, hNc⟩ := hv
  subst hsz
  have hown : s.vm.findClass RL = some m.cls := findClass_of_methodNamed hnm
  have hK := hG.1
  have hE := hG.2.1
  have hl := lv_entry ([.ref (q 0), .int v1, .int v2, .ref (q 39)]) (n := 5) (Nat.le_of_ble_eq_true rfl)
  rw [lg_entry_eq]
  generalize (lg_sl ([.ref (q 0), .int v1, .int v2, .ref (q 39)]) ++ List.replicate (5 - (lg_sl ([.ref (q 0), .int v1, .int v2, .ref (q 39)])).length) Slot.unset).toArray = ls at hl ⊢
  have hl : lv_has ls 5 [(0, .ref (q 0)), (1, .int v1), (2, .int v2), (3, .ref (q 39))] := hl
  have hD := hD.self (sz := s.heap.size)
  have hS : va_S (va_A (xw q k a b o) s.heap.size) s.heap s.heap [] := va_S.rf
  have hA : ∀ u, s.heap.size ≤ u → va_A (xw q k a b o) s.heap.size u := fun u h => Or.inr h
  refine lv_aload_n hx hb dL_rate_0 rfl (lv_at hl 3 rfl) ?_
  refine lv_iconst (v := 0) hx hb dL_rate_1 (by decide) ?_
  refine lv_aload_n hx hb dL_rate_2 rfl (lv_at hl 0 rfl) ?_
  refine lv_iload_n hx hb dL_rate_3 rfl (lv_at hl 1 rfl) ?_
  refine lv_iload_n hx hb dL_rate_4 rfl (lv_at hl 2 rfl) ?_
  refine xgo_m (v := some (.int r)) (a1 := a1) (b1 := b) (xrunV (C := RX4) (As := [.int v1, .int v2]) (rest := [.int 0, .ref (q 39)]) (xfixm fx_X4_rate hx hb hml hown (by decide) (by decide) (by decide) (by decide)) hE ml_L_7 wi_X4_rate wz_X4_rate wc_X4_rate wn_X4 (c_X4_rate l hl0 D q k _ a b o v1 v2 _ hN) (va_recv (q := (RX4, TX4, 4)) (ci := 4) (q0 := 0) hK hP rfl rfl) (xpreTm hP hD hG hst) rfl rfl hl.1 rfl (lv_room (Nat.le_of_ble_eq_true rfl)) dL_rate_5) hD hS hA (fun H locs hP hD hS => ?_)
  refine lv_i2l (v := r.toInt64) hx hb dL_rate_8 rfl ?_
  refine va_last hx hb hK hP hD hS 39 2 rfl rfl xin01 dL_rate_9 (fun H locs hP hD hS => ?_)
  rw [xw_o] at hP hD
  refine lv_goto hx hb dL_rate_10 rfl ?_
  refine lv_iconst (v := 0) hx hb dL_rate_21 (by decide) ?_
  refine W.widen (k := 1) (n := 6) (by decide) (by decide) ?_
  exact xreth hx hb hr hlocks hP hS dL_rate_22
set_option maxHeartbeats 4000000 in
set_option maxRecDepth 100000 in
theorem h_rate_e1 (l : Launch) (hl0 : l.stackTraces = false) (D : va_G) (q : Nat → Nat) (k : Nat → ClassId) (sz : Nat) (a b : xT) (o : Nat → Int64) (v1 : Int32) (v2 : Int32) (hN : f_X4_rate a v1 v2 = some (.inl "java/lang/IllegalArgumentException")) : xMet l yL_rate (.codeWith yL_rate cL_rate 5 (some .int) [(0, 10, 13, 13), (0, 10, 17, 15)]) r_L_rate (xPcH D q k sz a b o [.ref (q 0), .int v1, .int v2, .ref (q 39)]) (xQh D q k a b o 1 a o) 1 6 (va_A (xw q k a b o) sz) := by
  refine xMet.ofWW (by decide) ?_
  intro p e s m args below meth c hx hb hml hr hlocks hnm htb hv
  obtain ⟨rfl, hsz, hP, hD, hG, hst, hNc⟩ := hv
  subst hsz
  have hown : s.vm.findClass RL = some m.cls := findClass_of_methodNamed hnm
  have hK := hG.1
  have hE := hG.2.1
  have hl := lv_entry ([.ref (q 0), .int v1, .int v2, .ref (q 39)]) (n := 5) (Nat.le_of_ble_eq_true rfl)
  rw [lg_entry_eq]
  generalize (lg_sl ([.ref (q 0), .int v1, .int v2, .ref (q 39)]) ++ List.replicate (5 - (lg_sl ([.ref (q 0), .int v1, .int v2, .ref (q 39)])).length) Slot.unset).toArray = ls at hl ⊢
  have hl : lv_has ls 5 [(0, .ref (q 0)), (1, .int v1), (2, .int v2), (3, .ref (q 39))] := hl
  have hD := hD.self (sz := s.heap.size)
  have hS : va_S (va_A (xw q k a b o) s.heap.size) s.heap s.heap [] := va_S.rf
  have hA : ∀ u, s.heap.size ≤ u → va_A (xw q k a b o) s.heap.size u := fun u h => Or.inr h
  refine lv_aload_n hx hb dL_rate_0 rfl (lv_at hl 3 rfl) ?_
  refine lv_iconst (v := 0) hx hb dL_rate_1 (by decide) ?_
  refine lv_aload_n hx hb dL_rate_2 rfl (lv_at hl 0 rfl) ?_
  refine lv_iload_n hx hb dL_rate_3 rfl (lv_at hl 1 rfl) ?_
  refine lv_iload_n hx hb dL_rate_4 rfl (lv_at hl 2 rfl) ?_
  refine xgo_tm (E := "java/lang/IllegalArgumentException") (xrunV (C := RX4) (As := [.int v1, .int v2]) (rest := [.int 0, .ref (q 39)]) (xfixm fx_X4_rate hx hb hml hown (by decide) (by decide) (by decide) (by decide)) hE ml_L_7 wi_X4_rate wz_X4_rate wc_X4_rate wn_X4 (c_X4_rate l hl0 D q k _ a b o v1 v2 _ hN) (va_recv (q := (RX4, TX4, 4)) (ci := 4) (q0 := 0) hK hP rfl rfl) (xpreTm hP hD hG hst) rfl rfl hl.1 rfl (lv_room (Nat.le_of_ble_eq_true rfl)) dL_rate_5) (fun u H1 ce h1 h2 h3 h4 h5 => ?_)
  refine xcatch (hpc := 13) h1 h2 h3 (fun pl hpl => xCatQ.cat _ _ (by rw [htb]; exact xrowY hpl hown hE kl_L_13 wq_IllegalArgumentException h3 (by decide) (by decide))) ?_
  refine lv_astore (lv' := [(4, .ref u), (0, .ref (q 0)), (1, .int v1), (2, .int v2), (3, .ref (q 39))]) hx hb dL_rate_13 hl (by decide) rfl (fun ls hl => ?_)
  refine lv_iconst (v := 1) hx hb dL_rate_15 (by decide) ?_
  exact xreth hx hb hr hlocks (xkeep hP h5) (xkeepS h4 h5) dL_rate_16
set_option maxHeartbeats 4000000 in
set_option maxRecDepth 100000 in
theorem h_rate_e2 (l : Launch) (hl0 : l.stackTraces = false) (D : va_G) (q : Nat → Nat) (k : Nat → ClassId) (sz : Nat) (a b : xT) (o : Nat → Int64) (v1 : Int32) (v2 : Int32) (hN : f_X4_rate a v1 v2 = some (.inl "java/lang/IllegalStateException")) : xMet l yL_rate (.codeWith yL_rate cL_rate 5 (some .int) [(0, 10, 13, 13), (0, 10, 17, 15)]) r_L_rate (xPcH D q k sz a b o [.ref (q 0), .int v1, .int v2, .ref (q 39)]) (xQh D q k a b o 2 a o) 1 6 (va_A (xw q k a b o) sz) := by
  refine xMet.ofWW (by decide) ?_
  intro p e s m args below meth c hx hb hml hr hlocks hnm htb hv
  obtain ⟨rfl, hsz, hP, hD, hG, hst, hNc⟩ := hv
  subst hsz
  have hown : s.vm.findClass RL = some m.cls := findClass_of_methodNamed hnm
  have hK := hG.1
  have hE := hG.2.1
  have hl := lv_entry ([.ref (q 0), .int v1, .int v2, .ref (q 39)]) (n := 5) (Nat.le_of_ble_eq_true rfl)
  rw [lg_entry_eq]
  generalize (lg_sl ([.ref (q 0), .int v1, .int v2, .ref (q 39)]) ++ List.replicate (5 - (lg_sl ([.ref (q 0), .int v1, .int v2, .ref (q 39)])).length) Slot.unset).toArray = ls at hl ⊢
  have hl : lv_has ls 5 [(0, .ref (q 0)), (1, .int v1), (2, .int v2), (3, .ref (q 39))] := hl
  have hD := hD.self (sz := s.heap.size)
  have hS : va_S (va_A (xw q k a b o) s.heap.size) s.heap s.heap [] := va_S.rf
  have hA : ∀ u, s.heap.size ≤ u → va_A (xw q k a b o) s.heap.size u := fun u h => Or.inr h
  refine lv_aload_n hx hb dL_rate_0 rfl (lv_at hl 3 rfl) ?_
  refine lv_iconst (v := 0) hx hb dL_rate_1 (by decide) ?_
  refine lv_aload_n hx hb dL_rate_2 rfl (lv_at hl 0 rfl) ?_
  refine lv_iload_n hx hb dL_rate_3 rfl (lv_at hl 1 rfl) ?_
  refine lv_iload_n hx hb dL_rate_4 rfl (lv_at hl 2 rfl) ?_
  refine xgo_tm (E := "java/lang/IllegalStateException") (xrunV (C := RX4) (As := [.int v1, .int v2]) (rest := [.int 0, .ref (q 39)]) (xfixm fx_X4_rate hx hb hml hown (by decide) (by decide) (by decide) (by decide)) hE ml_L_7 wi_X4_rate wz_X4_rate wc_X4_rate wn_X4 (c_X4_rate l hl0 D q k _ a b o v1 v2 _ hN) (va_recv (q := (RX4, TX4, 4)) (ci := 4) (q0 := 0) hK hP rfl rfl) (xpreTm hP hD hG hst) rfl rfl hl.1 rfl (lv_room (Nat.le_of_ble_eq_true rfl)) dL_rate_5) (fun u H1 ce h1 h2 h3 h4 h5 => ?_)
  refine xcatch (hpc := 17) h1 h2 h3 (fun pl hpl => xCatQ.cat _ _ (by rw [htb]; exact xrowN hpl hown hE kl_L_13 (hNc ("java/lang/IllegalStateException", "java/lang/IllegalArgumentException") (by decide)) h3 (by decide) (by decide) (xrowY hpl hown hE kl_L_15 wq_IllegalStateException h3 (by decide) (by decide)))) ?_
  refine lv_astore (lv' := [(4, .ref u), (0, .ref (q 0)), (1, .int v1), (2, .int v2), (3, .ref (q 39))]) hx hb dL_rate_17 hl (by decide) rfl (fun ls hl => ?_)
  refine lv_iconst (v := 2) hx hb dL_rate_19 (by decide) ?_
  exact xreth hx hb hr hlocks (xkeep hP h5) (xkeepS h4 h5) dL_rate_20
abbrev r_L_flight : Room := { frames := 8, cells := 1, slots := 6, locals := 134 }
set_option maxHeartbeats 4000000 in
set_option maxRecDepth 100000 in
theorem h_flight_ok (l : Launch) (hl0 : l.stackTraces = false) (D : va_G) (q : Nat → Nat) (k : Nat → ClassId) (sz : Nat) (a b : xT) (o : Nat → Int64) (v1 : Int32) (v2 : Int32) (v3 : Int32) (r : Int32) (a1 : xT) (hN : f_X4_flight a v1 v2 v3 = some (.inr (r, a1))) : xMet l yL_flight (.codeWith yL_flight cL_flight 6 (some .int) [(0, 12, 15, 13), (0, 12, 19, 15)]) r_L_flight (xPcH D q k sz a b o [.ref (q 0), .int v1, .int v2, .int v3, .ref (q 39)]) (xQh D q k a b o 0 a1 (vp_updL o 0 r.toInt64)) 1 6 (va_A (xw q k a b o) sz) := by
  refine xMet.ofWW (by decide) ?_
  intro p e s m args below meth c hx hb hml hr hlocks hnm htb hv
  obtain ⟨rfl, hsz, hP, hD, hG, hst, hNc⟩ := hv
  subst hsz
  have hown : s.vm.findClass RL = some m.cls := findClass_of_methodNamed hnm
  have hK := hG.1
  have hE := hG.2.1
  have hl := lv_entry ([.ref (q 0), .int v1, .int v2, .int v3, .ref (q 39)]) (n := 6) (Nat.le_of_ble_eq_true rfl)
  rw [lg_entry_eq]
  generalize (lg_sl ([.ref (q 0), .int v1, .int v2, .int v3, .ref (q 39)]) ++ List.replicate (6 - (lg_sl ([.ref (q 0), .int v1, .int v2, .int v3, .ref (q 39)])).length) Slot.unset).toArray = ls at hl ⊢
  have hl : lv_has ls 6 [(0, .ref (q 0)), (1, .int v1), (2, .int v2), (3, .int v3), (4, .ref (q 39))] := hl
  have hD := hD.self (sz := s.heap.size)
  have hS : va_S (va_A (xw q k a b o) s.heap.size) s.heap s.heap [] := va_S.rf
  have hA : ∀ u, s.heap.size ≤ u → va_A (xw q k a b o) s.heap.size u := fun u h => Or.inr h
  refine lv_aload hx hb dL_flight_0 (lv_at hl 4 rfl) ?_
  refine lv_iconst (v := 0) hx hb dL_flight_2 (by decide) ?_
  refine lv_aload_n hx hb dL_flight_3 rfl (lv_at hl 0 rfl) ?_
  refine lv_iload_n hx hb dL_flight_4 rfl (lv_at hl 1 rfl) ?_
  refine lv_iload_n hx hb dL_flight_5 rfl (lv_at hl 2 rfl) ?_
  refine lv_iload_n hx hb dL_flight_6 rfl (lv_at hl 3 rfl) ?_
  refine xgo_m (v := some (.int r)) (a1 := a1) (b1 := b) (xrunV (C := RX4) (As := [.int v1, .int v2, .int v3]) (rest := [.int 0, .ref (q 39)]) (xfixm fx_X4_flight hx hb hml hown (by decide) (by decide) (by decide) (by decide)) hE ml_L_17 wi_X4_flight wz_X4_flight wc_X4_flight wn_X4 (c_X4_flight l hl0 D q k _ a b o v1 v2 v3 _ hN) (va_recv (q := (RX4, TX4, 4)) (ci := 4) (q0 := 0) hK hP rfl rfl) (xpreTm hP hD hG hst) rfl rfl hl.1 rfl (lv_room (Nat.le_of_ble_eq_true rfl)) dL_flight_7) hD hS hA (fun H locs hP hD hS => ?_)
  refine lv_i2l (v := r.toInt64) hx hb dL_flight_10 rfl ?_
  refine va_last hx hb hK hP hD hS 39 2 rfl rfl xin01 dL_flight_11 (fun H locs hP hD hS => ?_)
  rw [xw_o] at hP hD
  refine lv_goto hx hb dL_flight_12 rfl ?_
  refine lv_iconst (v := 0) hx hb dL_flight_23 (by decide) ?_
  refine W.widen (k := 1) (n := 6) (by decide) (by decide) ?_
  exact xreth hx hb hr hlocks hP hS dL_flight_24
set_option maxHeartbeats 4000000 in
set_option maxRecDepth 100000 in
theorem h_flight_e1 (l : Launch) (hl0 : l.stackTraces = false) (D : va_G) (q : Nat → Nat) (k : Nat → ClassId) (sz : Nat) (a b : xT) (o : Nat → Int64) (v1 : Int32) (v2 : Int32) (v3 : Int32) (hN : f_X4_flight a v1 v2 v3 = some (.inl "java/lang/IllegalArgumentException")) : xMet l yL_flight (.codeWith yL_flight cL_flight 6 (some .int) [(0, 12, 15, 13), (0, 12, 19, 15)]) r_L_flight (xPcH D q k sz a b o [.ref (q 0), .int v1, .int v2, .int v3, .ref (q 39)]) (xQh D q k a b o 1 a o) 1 6 (va_A (xw q k a b o) sz) := by
  refine xMet.ofWW (by decide) ?_
  intro p e s m args below meth c hx hb hml hr hlocks hnm htb hv
  obtain ⟨rfl, hsz, hP, hD, hG, hst, hNc⟩ := hv
  subst hsz
  have hown : s.vm.findClass RL = some m.cls := findClass_of_methodNamed hnm
  have hK := hG.1
  have hE := hG.2.1
  have hl := lv_entry ([.ref (q 0), .int v1, .int v2, .int v3, .ref (q 39)]) (n := 6) (Nat.le_of_ble_eq_true rfl)
  rw [lg_entry_eq]
  generalize (lg_sl ([.ref (q 0), .int v1, .int v2, .int v3, .ref (q 39)]) ++ List.replicate (6 - (lg_sl ([.ref (q 0), .int v1, .int v2, .int v3, .ref (q 39)])).length) Slot.unset).toArray = ls at hl ⊢
  have hl : lv_has ls 6 [(0, .ref (q 0)), (1, .int v1), (2, .int v2), (3, .int v3), (4, .ref (q 39))] := hl
  have hD := hD.self (sz := s.heap.size)
  have hS : va_S (va_A (xw q k a b o) s.heap.size) s.heap s.heap [] := va_S.rf
  have hA : ∀ u, s.heap.size ≤ u → va_A (xw q k a b o) s.heap.size u := fun u h => Or.inr h
  refine lv_aload hx hb dL_flight_0 (lv_at hl 4 rfl) ?_
  refine lv_iconst (v := 0) hx hb dL_flight_2 (by decide) ?_
  refine lv_aload_n hx hb dL_flight_3 rfl (lv_at hl 0 rfl) ?_
  refine lv_iload_n hx hb dL_flight_4 rfl (lv_at hl 1 rfl) ?_
  refine lv_iload_n hx hb dL_flight_5 rfl (lv_at hl 2 rfl) ?_
  refine lv_iload_n hx hb dL_flight_6 rfl (lv_at hl 3 rfl) ?_
  refine xgo_tm (E := "java/lang/IllegalArgumentException") (xrunV (C := RX4) (As := [.int v1, .int v2, .int v3]) (rest := [.int 0, .ref (q 39)]) (xfixm fx_X4_flight hx hb hml hown (by decide) (by decide) (by decide) (by decide)) hE ml_L_17 wi_X4_flight wz_X4_flight wc_X4_flight wn_X4 (c_X4_flight l hl0 D q k _ a b o v1 v2 v3 _ hN) (va_recv (q := (RX4, TX4, 4)) (ci := 4) (q0 := 0) hK hP rfl rfl) (xpreTm hP hD hG hst) rfl rfl hl.1 rfl (lv_room (Nat.le_of_ble_eq_true rfl)) dL_flight_7) (fun u H1 ce h1 h2 h3 h4 h5 => ?_)
  refine xcatch (hpc := 15) h1 h2 h3 (fun pl hpl => xCatQ.cat _ _ (by rw [htb]; exact xrowY hpl hown hE kl_L_13 wq_IllegalArgumentException h3 (by decide) (by decide))) ?_
  refine lv_astore (lv' := [(5, .ref u), (0, .ref (q 0)), (1, .int v1), (2, .int v2), (3, .int v3), (4, .ref (q 39))]) hx hb dL_flight_15 hl (by decide) rfl (fun ls hl => ?_)
  refine lv_iconst (v := 1) hx hb dL_flight_17 (by decide) ?_
  exact xreth hx hb hr hlocks (xkeep hP h5) (xkeepS h4 h5) dL_flight_18
set_option maxHeartbeats 4000000 in
set_option maxRecDepth 100000 in
theorem h_flight_e2 (l : Launch) (hl0 : l.stackTraces = false) (D : va_G) (q : Nat → Nat) (k : Nat → ClassId) (sz : Nat) (a b : xT) (o : Nat → Int64) (v1 : Int32) (v2 : Int32) (v3 : Int32) (hN : f_X4_flight a v1 v2 v3 = some (.inl "java/lang/IllegalStateException")) : xMet l yL_flight (.codeWith yL_flight cL_flight 6 (some .int) [(0, 12, 15, 13), (0, 12, 19, 15)]) r_L_flight (xPcH D q k sz a b o [.ref (q 0), .int v1, .int v2, .int v3, .ref (q 39)]) (xQh D q k a b o 2 a o) 1 6 (va_A (xw q k a b o) sz) := by
  refine xMet.ofWW (by decide) ?_
  intro p e s m args below meth c hx hb hml hr hlocks hnm htb hv
  obtain ⟨rfl, hsz, hP, hD, hG, hst, hNc⟩ := hv
  subst hsz
  have hown : s.vm.findClass RL = some m.cls := findClass_of_methodNamed hnm
  have hK := hG.1
  have hE := hG.2.1
  have hl := lv_entry ([.ref (q 0), .int v1, .int v2, .int v3, .ref (q 39)]) (n := 6) (Nat.le_of_ble_eq_true rfl)
  rw [lg_entry_eq]
  generalize (lg_sl ([.ref (q 0), .int v1, .int v2, .int v3, .ref (q 39)]) ++ List.replicate (6 - (lg_sl ([.ref (q 0), .int v1, .int v2, .int v3, .ref (q 39)])).length) Slot.unset).toArray = ls at hl ⊢
  have hl : lv_has ls 6 [(0, .ref (q 0)), (1, .int v1), (2, .int v2), (3, .int v3), (4, .ref (q 39))] := hl
  have hD := hD.self (sz := s.heap.size)
  have hS : va_S (va_A (xw q k a b o) s.heap.size) s.heap s.heap [] := va_S.rf
  have hA : ∀ u, s.heap.size ≤ u → va_A (xw q k a b o) s.heap.size u := fun u h => Or.inr h
  refine lv_aload hx hb dL_flight_0 (lv_at hl 4 rfl) ?_
  refine lv_iconst (v := 0) hx hb dL_flight_2 (by decide) ?_
  refine lv_aload_n hx hb dL_flight_3 rfl (lv_at hl 0 rfl) ?_
  refine lv_iload_n hx hb dL_flight_4 rfl (lv_at hl 1 rfl) ?_
  refine lv_iload_n hx hb dL_flight_5 rfl (lv_at hl 2 rfl) ?_
  refine lv_iload_n hx hb dL_flight_6 rfl (lv_at hl 3 rfl) ?_
  refine xgo_tm (E := "java/lang/IllegalStateException") (xrunV (C := RX4) (As := [.int v1, .int v2, .int v3]) (rest := [.int 0, .ref (q 39)]) (xfixm fx_X4_flight hx hb hml hown (by decide) (by decide) (by decide) (by decide)) hE ml_L_17 wi_X4_flight wz_X4_flight wc_X4_flight wn_X4 (c_X4_flight l hl0 D q k _ a b o v1 v2 v3 _ hN) (va_recv (q := (RX4, TX4, 4)) (ci := 4) (q0 := 0) hK hP rfl rfl) (xpreTm hP hD hG hst) rfl rfl hl.1 rfl (lv_room (Nat.le_of_ble_eq_true rfl)) dL_flight_7) (fun u H1 ce h1 h2 h3 h4 h5 => ?_)
  refine xcatch (hpc := 19) h1 h2 h3 (fun pl hpl => xCatQ.cat _ _ (by rw [htb]; exact xrowN hpl hown hE kl_L_13 (hNc ("java/lang/IllegalStateException", "java/lang/IllegalArgumentException") (by decide)) h3 (by decide) (by decide) (xrowY hpl hown hE kl_L_15 wq_IllegalStateException h3 (by decide) (by decide)))) ?_
  refine lv_astore (lv' := [(5, .ref u), (0, .ref (q 0)), (1, .int v1), (2, .int v2), (3, .int v3), (4, .ref (q 39))]) hx hb dL_flight_19 hl (by decide) rfl (fun ls hl => ?_)
  refine lv_iconst (v := 2) hx hb dL_flight_21 (by decide) ?_
  exact xreth hx hb hr hlocks (xkeep hP h5) (xkeepS h4 h5) dL_flight_22
abbrev r_L_slotOf : Room := { frames := 8, cells := 1, slots := 6, locals := 132 }
set_option maxHeartbeats 4000000 in
set_option maxRecDepth 100000 in
theorem h_slotOf_ok (l : Launch) (hl0 : l.stackTraces = false) (D : va_G) (q : Nat → Nat) (k : Nat → ClassId) (sz : Nat) (a b : xT) (o : Nat → Int64) (v1 : Int32) (r : Int32) (hN : f_X4_slotOf a v1 = some (.inr r)) : xMet l yL_slotOf (.codeWith yL_slotOf cL_slotOf 4 (some .int) [(0, 9, 12, 13)]) r_L_slotOf (xPcH D q k sz a b o [.ref (q 0), .int v1, .ref (q 39)]) (xQh D q k a b o 0 a (vp_updL o 0 r.toInt64)) 1 6 (va_A (xw q k a b o) sz) := by
  refine xMet.ofWW (by decide) ?_
  intro p e s m args below meth c hx hb hml hr hlocks hnm htb hv
  obtain ⟨rfl, hsz, hP, hD, hG, hst, hNc⟩ := hv
  subst hsz
  have hown : s.vm.findClass RL = some m.cls := findClass_of_methodNamed hnm
  have hK := hG.1
  have hE := hG.2.1
  have hl := lv_entry ([.ref (q 0), .int v1, .ref (q 39)]) (n := 4) (Nat.le_of_ble_eq_true rfl)
  rw [lg_entry_eq]
  generalize (lg_sl ([.ref (q 0), .int v1, .ref (q 39)]) ++ List.replicate (4 - (lg_sl ([.ref (q 0), .int v1, .ref (q 39)])).length) Slot.unset).toArray = ls at hl ⊢
  have hl : lv_has ls 4 [(0, .ref (q 0)), (1, .int v1), (2, .ref (q 39))] := hl
  have hD := hD.self (sz := s.heap.size)
  have hS : va_S (va_A (xw q k a b o) s.heap.size) s.heap s.heap [] := va_S.rf
  have hA : ∀ u, s.heap.size ≤ u → va_A (xw q k a b o) s.heap.size u := fun u h => Or.inr h
  refine lv_aload_n hx hb dL_slotOf_0 rfl (lv_at hl 2 rfl) ?_
  refine lv_iconst (v := 0) hx hb dL_slotOf_1 (by decide) ?_
  refine lv_aload_n hx hb dL_slotOf_2 rfl (lv_at hl 0 rfl) ?_
  refine lv_iload_n hx hb dL_slotOf_3 rfl (lv_at hl 1 rfl) ?_
  refine xgo_r (v := some (.int r)) (xrunV (C := RX4) (As := [.int v1]) (rest := [.int 0, .ref (q 39)]) (xfixm fx_X4_slotOf hx hb hml hown (by decide) (by decide) (by decide) (by decide)) hE ml_L_21 wi_X4_slotOf wz_X4_slotOf wc_X4_slotOf wn_X4 (c_X4_slotOf l hl0 D q k a b o v1 _ hN) (va_recv (q := (RX4, TX4, 4)) (ci := 4) (q0 := 0) hK hP rfl rfl) (xpreT hP hD hG hst) rfl rfl hl.1 rfl (lv_room (Nat.le_of_ble_eq_true rfl)) dL_slotOf_4) ?_
  refine lv_i2l (v := r.toInt64) hx hb dL_slotOf_7 rfl ?_
  refine va_last hx hb hK hP hD hS 39 2 rfl rfl xin01 dL_slotOf_8 (fun H locs hP hD hS => ?_)
  rw [xw_o] at hP hD
  refine lv_goto hx hb dL_slotOf_9 rfl ?_
  refine lv_iconst (v := 0) hx hb dL_slotOf_15 (by decide) ?_
  refine W.widen (k := 1) (n := 6) (by decide) (by decide) ?_
  exact xreth hx hb hr hlocks hP hS dL_slotOf_16
set_option maxHeartbeats 4000000 in
set_option maxRecDepth 100000 in
theorem h_slotOf_e1 (l : Launch) (hl0 : l.stackTraces = false) (D : va_G) (q : Nat → Nat) (k : Nat → ClassId) (sz : Nat) (a b : xT) (o : Nat → Int64) (v1 : Int32) (hN : f_X4_slotOf a v1 = some (.inl "java/lang/IllegalArgumentException")) : xMet l yL_slotOf (.codeWith yL_slotOf cL_slotOf 4 (some .int) [(0, 9, 12, 13)]) r_L_slotOf (xPcH D q k sz a b o [.ref (q 0), .int v1, .ref (q 39)]) (xQh D q k a b o 1 a o) 1 6 (va_A (xw q k a b o) sz) := by
  refine xMet.ofWW (by decide) ?_
  intro p e s m args below meth c hx hb hml hr hlocks hnm htb hv
  obtain ⟨rfl, hsz, hP, hD, hG, hst, hNc⟩ := hv
  subst hsz
  have hown : s.vm.findClass RL = some m.cls := findClass_of_methodNamed hnm
  have hK := hG.1
  have hE := hG.2.1
  have hl := lv_entry ([.ref (q 0), .int v1, .ref (q 39)]) (n := 4) (Nat.le_of_ble_eq_true rfl)
  rw [lg_entry_eq]
  generalize (lg_sl ([.ref (q 0), .int v1, .ref (q 39)]) ++ List.replicate (4 - (lg_sl ([.ref (q 0), .int v1, .ref (q 39)])).length) Slot.unset).toArray = ls at hl ⊢
  have hl : lv_has ls 4 [(0, .ref (q 0)), (1, .int v1), (2, .ref (q 39))] := hl
  have hD := hD.self (sz := s.heap.size)
  have hS : va_S (va_A (xw q k a b o) s.heap.size) s.heap s.heap [] := va_S.rf
  have hA : ∀ u, s.heap.size ≤ u → va_A (xw q k a b o) s.heap.size u := fun u h => Or.inr h
  refine lv_aload_n hx hb dL_slotOf_0 rfl (lv_at hl 2 rfl) ?_
  refine lv_iconst (v := 0) hx hb dL_slotOf_1 (by decide) ?_
  refine lv_aload_n hx hb dL_slotOf_2 rfl (lv_at hl 0 rfl) ?_
  refine lv_iload_n hx hb dL_slotOf_3 rfl (lv_at hl 1 rfl) ?_
  refine xgo_t (E := "java/lang/IllegalArgumentException") (xrunV (C := RX4) (As := [.int v1]) (rest := [.int 0, .ref (q 39)]) (xfixm fx_X4_slotOf hx hb hml hown (by decide) (by decide) (by decide) (by decide)) hE ml_L_21 wi_X4_slotOf wz_X4_slotOf wc_X4_slotOf wn_X4 (c_X4_slotOf l hl0 D q k a b o v1 _ hN) (va_recv (q := (RX4, TX4, 4)) (ci := 4) (q0 := 0) hK hP rfl rfl) (xpreT hP hD hG hst) rfl rfl hl.1 rfl (lv_room (Nat.le_of_ble_eq_true rfl)) dL_slotOf_4) (fun u H1 ce h1 h2 h3 h4 h5 => ?_)
  refine xcatch (hpc := 12) h1 h2 h3 (fun pl hpl => xCatQ.cat _ _ (by rw [htb]; exact xrowY hpl hown hE kl_L_13 wq_IllegalArgumentException h3 (by decide) (by decide))) ?_
  refine lv_astore_n (lv' := [(3, .ref u), (0, .ref (q 0)), (1, .int v1), (2, .ref (q 39))]) hx hb dL_slotOf_12 rfl hl (by decide) rfl (fun ls hl => ?_)
  refine lv_iconst (v := 1) hx hb dL_slotOf_13 (by decide) ?_
  exact xreth hx hb hr hlocks (xkeep hP h5) (xkeepS h4 h5) dL_slotOf_14
abbrev r_L_ownerOf : Room := { frames := 8, cells := 1, slots := 6, locals := 132 }
set_option maxHeartbeats 4000000 in
set_option maxRecDepth 100000 in
theorem h_ownerOf_ok (l : Launch) (hl0 : l.stackTraces = false) (D : va_G) (q : Nat → Nat) (k : Nat → ClassId) (sz : Nat) (a b : xT) (o : Nat → Int64) (v1 : Int32) (r : Int32) (hN : f_X4_ownerOf a v1 = some (.inr r)) : xMet l yL_ownerOf (.codeWith yL_ownerOf cL_ownerOf 4 (some .int) [(0, 9, 12, 28)]) r_L_ownerOf (xPcH D q k sz a b o [.ref (q 0), .int v1, .ref (q 39)]) (xQh D q k a b o 0 a (vp_updL o 0 r.toInt64)) 1 6 (va_A (xw q k a b o) sz) := by
  refine xMet.ofWW (by decide) ?_
  intro p e s m args below meth c hx hb hml hr hlocks hnm htb hv
  obtain ⟨rfl, hsz, hP, hD, hG, hst, hNc⟩ := hv
  subst hsz
  have hown : s.vm.findClass RL = some m.cls := findClass_of_methodNamed hnm
  have hK := hG.1
  have hE := hG.2.1
  have hl := lv_entry ([.ref (q 0), .int v1, .ref (q 39)]) (n := 4) (Nat.le_of_ble_eq_true rfl)
  rw [lg_entry_eq]
  generalize (lg_sl ([.ref (q 0), .int v1, .ref (q 39)]) ++ List.replicate (4 - (lg_sl ([.ref (q 0), .int v1, .ref (q 39)])).length) Slot.unset).toArray = ls at hl ⊢
  have hl : lv_has ls 4 [(0, .ref (q 0)), (1, .int v1), (2, .ref (q 39))] := hl
  have hD := hD.self (sz := s.heap.size)
  have hS : va_S (va_A (xw q k a b o) s.heap.size) s.heap s.heap [] := va_S.rf
  have hA : ∀ u, s.heap.size ≤ u → va_A (xw q k a b o) s.heap.size u := fun u h => Or.inr h
  refine lv_aload_n hx hb dL_ownerOf_0 rfl (lv_at hl 2 rfl) ?_
  refine lv_iconst (v := 0) hx hb dL_ownerOf_1 (by decide) ?_
  refine lv_aload_n hx hb dL_ownerOf_2 rfl (lv_at hl 0 rfl) ?_
  refine lv_iload_n hx hb dL_ownerOf_3 rfl (lv_at hl 1 rfl) ?_
  refine xgo_r (v := some (.int r)) (xrunV (C := RX4) (As := [.int v1]) (rest := [.int 0, .ref (q 39)]) (xfixm fx_X4_ownerOf hx hb hml hown (by decide) (by decide) (by decide) (by decide)) hE ml_L_25 wi_X4_ownerOf wz_X4_ownerOf wc_X4_ownerOf wn_X4 (c_X4_ownerOf l hl0 D q k a b o v1 _ hN) (va_recv (q := (RX4, TX4, 4)) (ci := 4) (q0 := 0) hK hP rfl rfl) (xpreT hP hD hG hst) rfl rfl hl.1 rfl (lv_room (Nat.le_of_ble_eq_true rfl)) dL_ownerOf_4) ?_
  refine lv_i2l (v := r.toInt64) hx hb dL_ownerOf_7 rfl ?_
  refine va_last hx hb hK hP hD hS 39 2 rfl rfl xin01 dL_ownerOf_8 (fun H locs hP hD hS => ?_)
  rw [xw_o] at hP hD
  refine lv_goto hx hb dL_ownerOf_9 rfl ?_
  refine lv_iconst (v := 0) hx hb dL_ownerOf_15 (by decide) ?_
  refine W.widen (k := 1) (n := 6) (by decide) (by decide) ?_
  exact xreth hx hb hr hlocks hP hS dL_ownerOf_16
set_option maxHeartbeats 4000000 in
set_option maxRecDepth 100000 in
theorem h_ownerOf_e1 (l : Launch) (hl0 : l.stackTraces = false) (D : va_G) (q : Nat → Nat) (k : Nat → ClassId) (sz : Nat) (a b : xT) (o : Nat → Int64) (v1 : Int32) (hN : f_X4_ownerOf a v1 = some (.inl "java/util/NoSuchElementException")) : xMet l yL_ownerOf (.codeWith yL_ownerOf cL_ownerOf 4 (some .int) [(0, 9, 12, 28)]) r_L_ownerOf (xPcH D q k sz a b o [.ref (q 0), .int v1, .ref (q 39)]) (xQh D q k a b o 1 a o) 1 6 (va_A (xw q k a b o) sz) := by
  refine xMet.ofWW (by decide) ?_
  intro p e s m args below meth c hx hb hml hr hlocks hnm htb hv
  obtain ⟨rfl, hsz, hP, hD, hG, hst, hNc⟩ := hv
  subst hsz
  have hown : s.vm.findClass RL = some m.cls := findClass_of_methodNamed hnm
  have hK := hG.1
  have hE := hG.2.1
  have hl := lv_entry ([.ref (q 0), .int v1, .ref (q 39)]) (n := 4) (Nat.le_of_ble_eq_true rfl)
  rw [lg_entry_eq]
  generalize (lg_sl ([.ref (q 0), .int v1, .ref (q 39)]) ++ List.replicate (4 - (lg_sl ([.ref (q 0), .int v1, .ref (q 39)])).length) Slot.unset).toArray = ls at hl ⊢
  have hl : lv_has ls 4 [(0, .ref (q 0)), (1, .int v1), (2, .ref (q 39))] := hl
  have hD := hD.self (sz := s.heap.size)
  have hS : va_S (va_A (xw q k a b o) s.heap.size) s.heap s.heap [] := va_S.rf
  have hA : ∀ u, s.heap.size ≤ u → va_A (xw q k a b o) s.heap.size u := fun u h => Or.inr h
  refine lv_aload_n hx hb dL_ownerOf_0 rfl (lv_at hl 2 rfl) ?_
  refine lv_iconst (v := 0) hx hb dL_ownerOf_1 (by decide) ?_
  refine lv_aload_n hx hb dL_ownerOf_2 rfl (lv_at hl 0 rfl) ?_
  refine lv_iload_n hx hb dL_ownerOf_3 rfl (lv_at hl 1 rfl) ?_
  refine xgo_t (E := "java/util/NoSuchElementException") (xrunV (C := RX4) (As := [.int v1]) (rest := [.int 0, .ref (q 39)]) (xfixm fx_X4_ownerOf hx hb hml hown (by decide) (by decide) (by decide) (by decide)) hE ml_L_25 wi_X4_ownerOf wz_X4_ownerOf wc_X4_ownerOf wn_X4 (c_X4_ownerOf l hl0 D q k a b o v1 _ hN) (va_recv (q := (RX4, TX4, 4)) (ci := 4) (q0 := 0) hK hP rfl rfl) (xpreT hP hD hG hst) rfl rfl hl.1 rfl (lv_room (Nat.le_of_ble_eq_true rfl)) dL_ownerOf_4) (fun u H1 ce h1 h2 h3 h4 h5 => ?_)
  refine xcatch (hpc := 12) h1 h2 h3 (fun pl hpl => xCatQ.cat _ _ (by rw [htb]; exact xrowY hpl hown hE kl_L_28 wq_NoSuchElementException h3 (by decide) (by decide))) ?_
  refine lv_astore_n (lv' := [(3, .ref u), (0, .ref (q 0)), (1, .int v1), (2, .ref (q 39))]) hx hb dL_ownerOf_12 rfl hl (by decide) rfl (fun ls hl => ?_)
  refine lv_iconst (v := 1) hx hb dL_ownerOf_13 (by decide) ?_
  exact xreth hx hb hr hlocks (xkeep hP h5) (xkeepS h4 h5) dL_ownerOf_14
abbrev r_L_flightIn : Room := { frames := 8, cells := 1, slots := 6, locals := 132 }
set_option maxHeartbeats 4000000 in
set_option maxRecDepth 100000 in
theorem h_flightIn_ok (l : Launch) (hl0 : l.stackTraces = false) (D : va_G) (q : Nat → Nat) (k : Nat → ClassId) (sz : Nat) (a b : xT) (o : Nat → Int64) (v1 : Int32) (r : Int32) (hN : f_X4_flightIn a v1 = some (.inr r)) : xMet l yL_flightIn (.codeWith yL_flightIn cL_flightIn 4 (some .int) [(0, 9, 12, 28)]) r_L_flightIn (xPcH D q k sz a b o [.ref (q 0), .int v1, .ref (q 39)]) (xQh D q k a b o 0 a (vp_updL o 0 r.toInt64)) 1 6 (va_A (xw q k a b o) sz) := by
  refine xMet.ofWW (by decide) ?_
  intro p e s m args below meth c hx hb hml hr hlocks hnm htb hv
  obtain ⟨rfl, hsz, hP, hD, hG, hst, hNc⟩ := hv
  subst hsz
  have hown : s.vm.findClass RL = some m.cls := findClass_of_methodNamed hnm
  have hK := hG.1
  have hE := hG.2.1
  have hl := lv_entry ([.ref (q 0), .int v1, .ref (q 39)]) (n := 4) (Nat.le_of_ble_eq_true rfl)
  rw [lg_entry_eq]
  generalize (lg_sl ([.ref (q 0), .int v1, .ref (q 39)]) ++ List.replicate (4 - (lg_sl ([.ref (q 0), .int v1, .ref (q 39)])).length) Slot.unset).toArray = ls at hl ⊢
  have hl : lv_has ls 4 [(0, .ref (q 0)), (1, .int v1), (2, .ref (q 39))] := hl
  have hD := hD.self (sz := s.heap.size)
  have hS : va_S (va_A (xw q k a b o) s.heap.size) s.heap s.heap [] := va_S.rf
  have hA : ∀ u, s.heap.size ≤ u → va_A (xw q k a b o) s.heap.size u := fun u h => Or.inr h
  refine lv_aload_n hx hb dL_flightIn_0 rfl (lv_at hl 2 rfl) ?_
  refine lv_iconst (v := 0) hx hb dL_flightIn_1 (by decide) ?_
  refine lv_aload_n hx hb dL_flightIn_2 rfl (lv_at hl 0 rfl) ?_
  refine lv_iload_n hx hb dL_flightIn_3 rfl (lv_at hl 1 rfl) ?_
  refine xgo_r (v := some (.int r)) (xrunV (C := RX4) (As := [.int v1]) (rest := [.int 0, .ref (q 39)]) (xfixm fx_X4_flightIn hx hb hml hown (by decide) (by decide) (by decide) (by decide)) hE ml_L_30 wi_X4_flightIn wz_X4_flightIn wc_X4_flightIn wn_X4 (c_X4_flightIn l hl0 D q k a b o v1 _ hN) (va_recv (q := (RX4, TX4, 4)) (ci := 4) (q0 := 0) hK hP rfl rfl) (xpreT hP hD hG hst) rfl rfl hl.1 rfl (lv_room (Nat.le_of_ble_eq_true rfl)) dL_flightIn_4) ?_
  refine lv_i2l (v := r.toInt64) hx hb dL_flightIn_7 rfl ?_
  refine va_last hx hb hK hP hD hS 39 2 rfl rfl xin01 dL_flightIn_8 (fun H locs hP hD hS => ?_)
  rw [xw_o] at hP hD
  refine lv_goto hx hb dL_flightIn_9 rfl ?_
  refine lv_iconst (v := 0) hx hb dL_flightIn_15 (by decide) ?_
  refine W.widen (k := 1) (n := 6) (by decide) (by decide) ?_
  exact xreth hx hb hr hlocks hP hS dL_flightIn_16
set_option maxHeartbeats 4000000 in
set_option maxRecDepth 100000 in
theorem h_flightIn_e1 (l : Launch) (hl0 : l.stackTraces = false) (D : va_G) (q : Nat → Nat) (k : Nat → ClassId) (sz : Nat) (a b : xT) (o : Nat → Int64) (v1 : Int32) (hN : f_X4_flightIn a v1 = some (.inl "java/util/NoSuchElementException")) : xMet l yL_flightIn (.codeWith yL_flightIn cL_flightIn 4 (some .int) [(0, 9, 12, 28)]) r_L_flightIn (xPcH D q k sz a b o [.ref (q 0), .int v1, .ref (q 39)]) (xQh D q k a b o 1 a o) 1 6 (va_A (xw q k a b o) sz) := by
  refine xMet.ofWW (by decide) ?_
  intro p e s m args below meth c hx hb hml hr hlocks hnm htb hv
  obtain ⟨rfl, hsz, hP, hD, hG, hst, hNc⟩ := hv
  subst hsz
  have hown : s.vm.findClass RL = some m.cls := findClass_of_methodNamed hnm
  have hK := hG.1
  have hE := hG.2.1
  have hl := lv_entry ([.ref (q 0), .int v1, .ref (q 39)]) (n := 4) (Nat.le_of_ble_eq_true rfl)
  rw [lg_entry_eq]
  generalize (lg_sl ([.ref (q 0), .int v1, .ref (q 39)]) ++ List.replicate (4 - (lg_sl ([.ref (q 0), .int v1, .ref (q 39)])).length) Slot.unset).toArray = ls at hl ⊢
  have hl : lv_has ls 4 [(0, .ref (q 0)), (1, .int v1), (2, .ref (q 39))] := hl
  have hD := hD.self (sz := s.heap.size)
  have hS : va_S (va_A (xw q k a b o) s.heap.size) s.heap s.heap [] := va_S.rf
  have hA : ∀ u, s.heap.size ≤ u → va_A (xw q k a b o) s.heap.size u := fun u h => Or.inr h
  refine lv_aload_n hx hb dL_flightIn_0 rfl (lv_at hl 2 rfl) ?_
  refine lv_iconst (v := 0) hx hb dL_flightIn_1 (by decide) ?_
  refine lv_aload_n hx hb dL_flightIn_2 rfl (lv_at hl 0 rfl) ?_
  refine lv_iload_n hx hb dL_flightIn_3 rfl (lv_at hl 1 rfl) ?_
  refine xgo_t (E := "java/util/NoSuchElementException") (xrunV (C := RX4) (As := [.int v1]) (rest := [.int 0, .ref (q 39)]) (xfixm fx_X4_flightIn hx hb hml hown (by decide) (by decide) (by decide) (by decide)) hE ml_L_30 wi_X4_flightIn wz_X4_flightIn wc_X4_flightIn wn_X4 (c_X4_flightIn l hl0 D q k a b o v1 _ hN) (va_recv (q := (RX4, TX4, 4)) (ci := 4) (q0 := 0) hK hP rfl rfl) (xpreT hP hD hG hst) rfl rfl hl.1 rfl (lv_room (Nat.le_of_ble_eq_true rfl)) dL_flightIn_4) (fun u H1 ce h1 h2 h3 h4 h5 => ?_)
  refine xcatch (hpc := 12) h1 h2 h3 (fun pl hpl => xCatQ.cat _ _ (by rw [htb]; exact xrowY hpl hown hE kl_L_28 wq_NoSuchElementException h3 (by decide) (by decide))) ?_
  refine lv_astore_n (lv' := [(3, .ref u), (0, .ref (q 0)), (1, .int v1), (2, .ref (q 39))]) hx hb dL_flightIn_12 rfl hl (by decide) rfl (fun ls hl => ?_)
  refine lv_iconst (v := 1) hx hb dL_flightIn_13 (by decide) ?_
  exact xreth hx hb hr hlocks (xkeep hP h5) (xkeepS h4 h5) dL_flightIn_14
abbrev r_L_later : Room := { frames := 8, cells := 1, slots := 6, locals := 133 }
set_option maxHeartbeats 4000000 in
set_option maxRecDepth 100000 in
theorem h_later_ok (l : Launch) (hl0 : l.stackTraces = false) (D : va_G) (q : Nat → Nat) (k : Nat → ClassId) (sz : Nat) (a b : xT) (o : Nat → Int64) (v1 : Int32) (v2 : Int32) (r : Int32) (a1 : xT) (hN : f_X4_later a v1 v2 = some (.inr (r, a1))) : xMet l yL_later (.codeWith yL_later cL_later 5 (some .int) [(0, 17, 20, 13), (0, 17, 24, 15)]) r_L_later (xPcH D q k sz a b o [.ref (q 0), .int v1, .int v2, .ref (q 39)]) (xQh D q k a b o 0 a1 (vp_updL o 0 (if r = 0 then 0 else 1))) 1 6 (va_A (xw q k a b o) sz) := by
  refine xMet.ofWW (by decide) ?_
  intro p e s m args below meth c hx hb hml hr hlocks hnm htb hv
  obtain ⟨rfl, hsz, hP, hD, hG, hst, hNc⟩ := hv
  subst hsz
  have hown : s.vm.findClass RL = some m.cls := findClass_of_methodNamed hnm
  have hK := hG.1
  have hE := hG.2.1
  have hl := lv_entry ([.ref (q 0), .int v1, .int v2, .ref (q 39)]) (n := 5) (Nat.le_of_ble_eq_true rfl)
  rw [lg_entry_eq]
  generalize (lg_sl ([.ref (q 0), .int v1, .int v2, .ref (q 39)]) ++ List.replicate (5 - (lg_sl ([.ref (q 0), .int v1, .int v2, .ref (q 39)])).length) Slot.unset).toArray = ls at hl ⊢
  have hl : lv_has ls 5 [(0, .ref (q 0)), (1, .int v1), (2, .int v2), (3, .ref (q 39))] := hl
  have hD := hD.self (sz := s.heap.size)
  have hS : va_S (va_A (xw q k a b o) s.heap.size) s.heap s.heap [] := va_S.rf
  have hA : ∀ u, s.heap.size ≤ u → va_A (xw q k a b o) s.heap.size u := fun u h => Or.inr h
  refine lv_aload_n hx hb dL_later_0 rfl (lv_at hl 3 rfl) ?_
  refine lv_iconst (v := 0) hx hb dL_later_1 (by decide) ?_
  refine lv_aload_n hx hb dL_later_2 rfl (lv_at hl 0 rfl) ?_
  refine lv_iload_n hx hb dL_later_3 rfl (lv_at hl 1 rfl) ?_
  refine lv_iload_n hx hb dL_later_4 rfl (lv_at hl 2 rfl) ?_
  refine xgo_m (v := some (.int r)) (a1 := a1) (b1 := b) (xrunV (C := RX4) (As := [.int v1, .int v2]) (rest := [.int 0, .ref (q 39)]) (xfixm fx_X4_later hx hb hml hown (by decide) (by decide) (by decide) (by decide)) hE ml_L_33 wi_X4_later wz_X4_later wc_X4_later wn_X4 (c_X4_later l hl0 D q k _ a b o v1 v2 _ hN) (va_recv (q := (RX4, TX4, 4)) (ci := 4) (q0 := 0) hK hP rfl rfl) (xpreTm hP hD hG hst) rfl rfl hl.1 rfl (lv_room (Nat.le_of_ble_eq_true rfl)) dL_later_5) hD hS hA (fun H locs hP hD hS => ?_)
  refine lv_if_eq hx hb dL_later_8 rfl (fun hc => ?_) (fun hc => ?_)
  · rw [if_pos hc]
    refine lv_lconst (v := 0) hx hb dL_later_15 (by decide) ?_
    refine va_last hx hb hK hP hD hS 39 2 rfl rfl xin01 dL_later_16 (fun H locs hP hD hS => ?_)
    rw [xw_o] at hP hD
    refine lv_goto hx hb dL_later_17 rfl ?_
    refine lv_iconst (v := 0) hx hb dL_later_28 (by decide) ?_
    refine W.widen (k := 1) (n := 6) (by decide) (by decide) ?_
    exact xreth hx hb hr hlocks hP hS dL_later_29
  · rw [if_neg hc]
    refine lv_lconst (v := 1) hx hb dL_later_11 (by decide) ?_
    refine lv_goto hx hb dL_later_12 rfl ?_
    refine va_last hx hb hK hP hD hS 39 2 rfl rfl xin01 dL_later_16 (fun H locs hP hD hS => ?_)
    rw [xw_o] at hP hD
    refine lv_goto hx hb dL_later_17 rfl ?_
    refine lv_iconst (v := 0) hx hb dL_later_28 (by decide) ?_
    refine W.widen (k := 1) (n := 6) (by decide) (by decide) ?_
    exact xreth hx hb hr hlocks hP hS dL_later_29
set_option maxHeartbeats 4000000 in
set_option maxRecDepth 100000 in
theorem h_later_e1 (l : Launch) (hl0 : l.stackTraces = false) (D : va_G) (q : Nat → Nat) (k : Nat → ClassId) (sz : Nat) (a b : xT) (o : Nat → Int64) (v1 : Int32) (v2 : Int32) (hN : f_X4_later a v1 v2 = some (.inl "java/lang/IllegalArgumentException")) : xMet l yL_later (.codeWith yL_later cL_later 5 (some .int) [(0, 17, 20, 13), (0, 17, 24, 15)]) r_L_later (xPcH D q k sz a b o [.ref (q 0), .int v1, .int v2, .ref (q 39)]) (xQh D q k a b o 1 a o) 1 6 (va_A (xw q k a b o) sz) := by
  refine xMet.ofWW (by decide) ?_
  intro p e s m args below meth c hx hb hml hr hlocks hnm htb hv
  obtain ⟨rfl, hsz, hP, hD, hG, hst, hNc⟩ := hv
  subst hsz
  have hown : s.vm.findClass RL = some m.cls := findClass_of_methodNamed hnm
  have hK := hG.1
  have hE := hG.2.1
  have hl := lv_entry ([.ref (q 0), .int v1, .int v2, .ref (q 39)]) (n := 5) (Nat.le_of_ble_eq_true rfl)
  rw [lg_entry_eq]
  generalize (lg_sl ([.ref (q 0), .int v1, .int v2, .ref (q 39)]) ++ List.replicate (5 - (lg_sl ([.ref (q 0), .int v1, .int v2, .ref (q 39)])).length) Slot.unset).toArray = ls at hl ⊢
  have hl : lv_has ls 5 [(0, .ref (q 0)), (1, .int v1), (2, .int v2), (3, .ref (q 39))] := hl
  have hD := hD.self (sz := s.heap.size)
  have hS : va_S (va_A (xw q k a b o) s.heap.size) s.heap s.heap [] := va_S.rf
  have hA : ∀ u, s.heap.size ≤ u → va_A (xw q k a b o) s.heap.size u := fun u h => Or.inr h
  refine lv_aload_n hx hb dL_later_0 rfl (lv_at hl 3 rfl) ?_
  refine lv_iconst (v := 0) hx hb dL_later_1 (by decide) ?_
  refine lv_aload_n hx hb dL_later_2 rfl (lv_at hl 0 rfl) ?_
  refine lv_iload_n hx hb dL_later_3 rfl (lv_at hl 1 rfl) ?_
  refine lv_iload_n hx hb dL_later_4 rfl (lv_at hl 2 rfl) ?_
  refine xgo_tm (E := "java/lang/IllegalArgumentException") (xrunV (C := RX4) (As := [.int v1, .int v2]) (rest := [.int 0, .ref (q 39)]) (xfixm fx_X4_later hx hb hml hown (by decide) (by decide) (by decide) (by decide)) hE ml_L_33 wi_X4_later wz_X4_later wc_X4_later wn_X4 (c_X4_later l hl0 D q k _ a b o v1 v2 _ hN) (va_recv (q := (RX4, TX4, 4)) (ci := 4) (q0 := 0) hK hP rfl rfl) (xpreTm hP hD hG hst) rfl rfl hl.1 rfl (lv_room (Nat.le_of_ble_eq_true rfl)) dL_later_5) (fun u H1 ce h1 h2 h3 h4 h5 => ?_)
  refine xcatch (hpc := 20) h1 h2 h3 (fun pl hpl => xCatQ.cat _ _ (by rw [htb]; exact xrowY hpl hown hE kl_L_13 wq_IllegalArgumentException h3 (by decide) (by decide))) ?_
  refine lv_astore (lv' := [(4, .ref u), (0, .ref (q 0)), (1, .int v1), (2, .int v2), (3, .ref (q 39))]) hx hb dL_later_20 hl (by decide) rfl (fun ls hl => ?_)
  refine lv_iconst (v := 1) hx hb dL_later_22 (by decide) ?_
  exact xreth hx hb hr hlocks (xkeep hP h5) (xkeepS h4 h5) dL_later_23
set_option maxHeartbeats 4000000 in
set_option maxRecDepth 100000 in
theorem h_later_e2 (l : Launch) (hl0 : l.stackTraces = false) (D : va_G) (q : Nat → Nat) (k : Nat → ClassId) (sz : Nat) (a b : xT) (o : Nat → Int64) (v1 : Int32) (v2 : Int32) (hN : f_X4_later a v1 v2 = some (.inl "java/lang/IllegalStateException")) : xMet l yL_later (.codeWith yL_later cL_later 5 (some .int) [(0, 17, 20, 13), (0, 17, 24, 15)]) r_L_later (xPcH D q k sz a b o [.ref (q 0), .int v1, .int v2, .ref (q 39)]) (xQh D q k a b o 2 a o) 1 6 (va_A (xw q k a b o) sz) := by
  refine xMet.ofWW (by decide) ?_
  intro p e s m args below meth c hx hb hml hr hlocks hnm htb hv
  obtain ⟨rfl, hsz, hP, hD, hG, hst, hNc⟩ := hv
  subst hsz
  have hown : s.vm.findClass RL = some m.cls := findClass_of_methodNamed hnm
  have hK := hG.1
  have hE := hG.2.1
  have hl := lv_entry ([.ref (q 0), .int v1, .int v2, .ref (q 39)]) (n := 5) (Nat.le_of_ble_eq_true rfl)
  rw [lg_entry_eq]
  generalize (lg_sl ([.ref (q 0), .int v1, .int v2, .ref (q 39)]) ++ List.replicate (5 - (lg_sl ([.ref (q 0), .int v1, .int v2, .ref (q 39)])).length) Slot.unset).toArray = ls at hl ⊢
  have hl : lv_has ls 5 [(0, .ref (q 0)), (1, .int v1), (2, .int v2), (3, .ref (q 39))] := hl
  have hD := hD.self (sz := s.heap.size)
  have hS : va_S (va_A (xw q k a b o) s.heap.size) s.heap s.heap [] := va_S.rf
  have hA : ∀ u, s.heap.size ≤ u → va_A (xw q k a b o) s.heap.size u := fun u h => Or.inr h
  refine lv_aload_n hx hb dL_later_0 rfl (lv_at hl 3 rfl) ?_
  refine lv_iconst (v := 0) hx hb dL_later_1 (by decide) ?_
  refine lv_aload_n hx hb dL_later_2 rfl (lv_at hl 0 rfl) ?_
  refine lv_iload_n hx hb dL_later_3 rfl (lv_at hl 1 rfl) ?_
  refine lv_iload_n hx hb dL_later_4 rfl (lv_at hl 2 rfl) ?_
  refine xgo_tm (E := "java/lang/IllegalStateException") (xrunV (C := RX4) (As := [.int v1, .int v2]) (rest := [.int 0, .ref (q 39)]) (xfixm fx_X4_later hx hb hml hown (by decide) (by decide) (by decide) (by decide)) hE ml_L_33 wi_X4_later wz_X4_later wc_X4_later wn_X4 (c_X4_later l hl0 D q k _ a b o v1 v2 _ hN) (va_recv (q := (RX4, TX4, 4)) (ci := 4) (q0 := 0) hK hP rfl rfl) (xpreTm hP hD hG hst) rfl rfl hl.1 rfl (lv_room (Nat.le_of_ble_eq_true rfl)) dL_later_5) (fun u H1 ce h1 h2 h3 h4 h5 => ?_)
  refine xcatch (hpc := 24) h1 h2 h3 (fun pl hpl => xCatQ.cat _ _ (by rw [htb]; exact xrowN hpl hown hE kl_L_13 (hNc ("java/lang/IllegalStateException", "java/lang/IllegalArgumentException") (by decide)) h3 (by decide) (by decide) (xrowY hpl hown hE kl_L_15 wq_IllegalStateException h3 (by decide) (by decide)))) ?_
  refine lv_astore (lv' := [(4, .ref u), (0, .ref (q 0)), (1, .int v1), (2, .int v2), (3, .ref (q 39))]) hx hb dL_later_24 hl (by decide) rfl (fun ls hl => ?_)
  refine lv_iconst (v := 2) hx hb dL_later_26 (by decide) ?_
  exact xreth hx hb hr hlocks (xkeep hP h5) (xkeepS h4 h5) dL_later_27
abbrev r_L_cancel : Room := { frames := 8, cells := 1, slots := 6, locals := 132 }
set_option maxHeartbeats 4000000 in
set_option maxRecDepth 100000 in
theorem h_cancel_ok (l : Launch) (hl0 : l.stackTraces = false) (D : va_G) (q : Nat → Nat) (k : Nat → ClassId) (sz : Nat) (a b : xT) (o : Nat → Int64) (v1 : Int32) (r : Int32) (a1 : xT) (hN : f_X4_cancel a v1 = some (.inr (r, a1))) : xMet l yL_cancel (.codeWith yL_cancel cL_cancel 4 (some .int) [(0, 16, 19, 13), (0, 16, 22, 15)]) r_L_cancel (xPcH D q k sz a b o [.ref (q 0), .int v1, .ref (q 39)]) (xQh D q k a b o 0 a1 (vp_updL o 0 (if r = 0 then 0 else 1))) 1 6 (va_A (xw q k a b o) sz) := by
  refine xMet.ofWW (by decide) ?_
  intro p e s m args below meth c hx hb hml hr hlocks hnm htb hv
  obtain ⟨rfl, hsz, hP, hD, hG, hst, hNc⟩ := hv
  subst hsz
  have hown : s.vm.findClass RL = some m.cls := findClass_of_methodNamed hnm
  have hK := hG.1
  have hE := hG.2.1
  have hl := lv_entry ([.ref (q 0), .int v1, .ref (q 39)]) (n := 4) (Nat.le_of_ble_eq_true rfl)
  rw [lg_entry_eq]
  generalize (lg_sl ([.ref (q 0), .int v1, .ref (q 39)]) ++ List.replicate (4 - (lg_sl ([.ref (q 0), .int v1, .ref (q 39)])).length) Slot.unset).toArray = ls at hl ⊢
  have hl : lv_has ls 4 [(0, .ref (q 0)), (1, .int v1), (2, .ref (q 39))] := hl
  have hD := hD.self (sz := s.heap.size)
  have hS : va_S (va_A (xw q k a b o) s.heap.size) s.heap s.heap [] := va_S.rf
  have hA : ∀ u, s.heap.size ≤ u → va_A (xw q k a b o) s.heap.size u := fun u h => Or.inr h
  refine lv_aload_n hx hb dL_cancel_0 rfl (lv_at hl 2 rfl) ?_
  refine lv_iconst (v := 0) hx hb dL_cancel_1 (by decide) ?_
  refine lv_aload_n hx hb dL_cancel_2 rfl (lv_at hl 0 rfl) ?_
  refine lv_iload_n hx hb dL_cancel_3 rfl (lv_at hl 1 rfl) ?_
  refine xgo_m (v := some (.int r)) (a1 := a1) (b1 := b) (xrunV (C := RX4) (As := [.int v1]) (rest := [.int 0, .ref (q 39)]) (xfixm fx_X4_cancel hx hb hml hown (by decide) (by decide) (by decide) (by decide)) hE ml_L_37 wi_X4_cancel wz_X4_cancel wc_X4_cancel wn_X4 (c_X4_cancel l hl0 D q k _ a b o v1 _ hN) (va_recv (q := (RX4, TX4, 4)) (ci := 4) (q0 := 0) hK hP rfl rfl) (xpreTm hP hD hG hst) rfl rfl hl.1 rfl (lv_room (Nat.le_of_ble_eq_true rfl)) dL_cancel_4) hD hS hA (fun H locs hP hD hS => ?_)
  refine lv_if_eq hx hb dL_cancel_7 rfl (fun hc => ?_) (fun hc => ?_)
  · rw [if_pos hc]
    refine lv_lconst (v := 0) hx hb dL_cancel_14 (by decide) ?_
    refine va_last hx hb hK hP hD hS 39 2 rfl rfl xin01 dL_cancel_15 (fun H locs hP hD hS => ?_)
    rw [xw_o] at hP hD
    refine lv_goto hx hb dL_cancel_16 rfl ?_
    refine lv_iconst (v := 0) hx hb dL_cancel_25 (by decide) ?_
    refine W.widen (k := 1) (n := 6) (by decide) (by decide) ?_
    exact xreth hx hb hr hlocks hP hS dL_cancel_26
  · rw [if_neg hc]
    refine lv_lconst (v := 1) hx hb dL_cancel_10 (by decide) ?_
    refine lv_goto hx hb dL_cancel_11 rfl ?_
    refine va_last hx hb hK hP hD hS 39 2 rfl rfl xin01 dL_cancel_15 (fun H locs hP hD hS => ?_)
    rw [xw_o] at hP hD
    refine lv_goto hx hb dL_cancel_16 rfl ?_
    refine lv_iconst (v := 0) hx hb dL_cancel_25 (by decide) ?_
    refine W.widen (k := 1) (n := 6) (by decide) (by decide) ?_
    exact xreth hx hb hr hlocks hP hS dL_cancel_26
set_option maxHeartbeats 4000000 in
set_option maxRecDepth 100000 in
theorem h_cancel_e1 (l : Launch) (hl0 : l.stackTraces = false) (D : va_G) (q : Nat → Nat) (k : Nat → ClassId) (sz : Nat) (a b : xT) (o : Nat → Int64) (v1 : Int32) (hN : f_X4_cancel a v1 = some (.inl "java/lang/IllegalArgumentException")) : xMet l yL_cancel (.codeWith yL_cancel cL_cancel 4 (some .int) [(0, 16, 19, 13), (0, 16, 22, 15)]) r_L_cancel (xPcH D q k sz a b o [.ref (q 0), .int v1, .ref (q 39)]) (xQh D q k a b o 1 a o) 1 6 (va_A (xw q k a b o) sz) := by
  refine xMet.ofWW (by decide) ?_
  intro p e s m args below meth c hx hb hml hr hlocks hnm htb hv
  obtain ⟨rfl, hsz, hP, hD, hG, hst, hNc⟩ := hv
  subst hsz
  have hown : s.vm.findClass RL = some m.cls := findClass_of_methodNamed hnm
  have hK := hG.1
  have hE := hG.2.1
  have hl := lv_entry ([.ref (q 0), .int v1, .ref (q 39)]) (n := 4) (Nat.le_of_ble_eq_true rfl)
  rw [lg_entry_eq]
  generalize (lg_sl ([.ref (q 0), .int v1, .ref (q 39)]) ++ List.replicate (4 - (lg_sl ([.ref (q 0), .int v1, .ref (q 39)])).length) Slot.unset).toArray = ls at hl ⊢
  have hl : lv_has ls 4 [(0, .ref (q 0)), (1, .int v1), (2, .ref (q 39))] := hl
  have hD := hD.self (sz := s.heap.size)
  have hS : va_S (va_A (xw q k a b o) s.heap.size) s.heap s.heap [] := va_S.rf
  have hA : ∀ u, s.heap.size ≤ u → va_A (xw q k a b o) s.heap.size u := fun u h => Or.inr h
  refine lv_aload_n hx hb dL_cancel_0 rfl (lv_at hl 2 rfl) ?_
  refine lv_iconst (v := 0) hx hb dL_cancel_1 (by decide) ?_
  refine lv_aload_n hx hb dL_cancel_2 rfl (lv_at hl 0 rfl) ?_
  refine lv_iload_n hx hb dL_cancel_3 rfl (lv_at hl 1 rfl) ?_
  refine xgo_tm (E := "java/lang/IllegalArgumentException") (xrunV (C := RX4) (As := [.int v1]) (rest := [.int 0, .ref (q 39)]) (xfixm fx_X4_cancel hx hb hml hown (by decide) (by decide) (by decide) (by decide)) hE ml_L_37 wi_X4_cancel wz_X4_cancel wc_X4_cancel wn_X4 (c_X4_cancel l hl0 D q k _ a b o v1 _ hN) (va_recv (q := (RX4, TX4, 4)) (ci := 4) (q0 := 0) hK hP rfl rfl) (xpreTm hP hD hG hst) rfl rfl hl.1 rfl (lv_room (Nat.le_of_ble_eq_true rfl)) dL_cancel_4) (fun u H1 ce h1 h2 h3 h4 h5 => ?_)
  refine xcatch (hpc := 19) h1 h2 h3 (fun pl hpl => xCatQ.cat _ _ (by rw [htb]; exact xrowY hpl hown hE kl_L_13 wq_IllegalArgumentException h3 (by decide) (by decide))) ?_
  refine lv_astore_n (lv' := [(3, .ref u), (0, .ref (q 0)), (1, .int v1), (2, .ref (q 39))]) hx hb dL_cancel_19 rfl hl (by decide) rfl (fun ls hl => ?_)
  refine lv_iconst (v := 1) hx hb dL_cancel_20 (by decide) ?_
  exact xreth hx hb hr hlocks (xkeep hP h5) (xkeepS h4 h5) dL_cancel_21
set_option maxHeartbeats 4000000 in
set_option maxRecDepth 100000 in
theorem h_cancel_e2 (l : Launch) (hl0 : l.stackTraces = false) (D : va_G) (q : Nat → Nat) (k : Nat → ClassId) (sz : Nat) (a b : xT) (o : Nat → Int64) (v1 : Int32) (hN : f_X4_cancel a v1 = some (.inl "java/lang/IllegalStateException")) : xMet l yL_cancel (.codeWith yL_cancel cL_cancel 4 (some .int) [(0, 16, 19, 13), (0, 16, 22, 15)]) r_L_cancel (xPcH D q k sz a b o [.ref (q 0), .int v1, .ref (q 39)]) (xQh D q k a b o 2 a o) 1 6 (va_A (xw q k a b o) sz) := by
  refine xMet.ofWW (by decide) ?_
  intro p e s m args below meth c hx hb hml hr hlocks hnm htb hv
  obtain ⟨rfl, hsz, hP, hD, hG, hst, hNc⟩ := hv
  subst hsz
  have hown : s.vm.findClass RL = some m.cls := findClass_of_methodNamed hnm
  have hK := hG.1
  have hE := hG.2.1
  have hl := lv_entry ([.ref (q 0), .int v1, .ref (q 39)]) (n := 4) (Nat.le_of_ble_eq_true rfl)
  rw [lg_entry_eq]
  generalize (lg_sl ([.ref (q 0), .int v1, .ref (q 39)]) ++ List.replicate (4 - (lg_sl ([.ref (q 0), .int v1, .ref (q 39)])).length) Slot.unset).toArray = ls at hl ⊢
  have hl : lv_has ls 4 [(0, .ref (q 0)), (1, .int v1), (2, .ref (q 39))] := hl
  have hD := hD.self (sz := s.heap.size)
  have hS : va_S (va_A (xw q k a b o) s.heap.size) s.heap s.heap [] := va_S.rf
  have hA : ∀ u, s.heap.size ≤ u → va_A (xw q k a b o) s.heap.size u := fun u h => Or.inr h
  refine lv_aload_n hx hb dL_cancel_0 rfl (lv_at hl 2 rfl) ?_
  refine lv_iconst (v := 0) hx hb dL_cancel_1 (by decide) ?_
  refine lv_aload_n hx hb dL_cancel_2 rfl (lv_at hl 0 rfl) ?_
  refine lv_iload_n hx hb dL_cancel_3 rfl (lv_at hl 1 rfl) ?_
  refine xgo_tm (E := "java/lang/IllegalStateException") (xrunV (C := RX4) (As := [.int v1]) (rest := [.int 0, .ref (q 39)]) (xfixm fx_X4_cancel hx hb hml hown (by decide) (by decide) (by decide) (by decide)) hE ml_L_37 wi_X4_cancel wz_X4_cancel wc_X4_cancel wn_X4 (c_X4_cancel l hl0 D q k _ a b o v1 _ hN) (va_recv (q := (RX4, TX4, 4)) (ci := 4) (q0 := 0) hK hP rfl rfl) (xpreTm hP hD hG hst) rfl rfl hl.1 rfl (lv_room (Nat.le_of_ble_eq_true rfl)) dL_cancel_4) (fun u H1 ce h1 h2 h3 h4 h5 => ?_)
  refine xcatch (hpc := 22) h1 h2 h3 (fun pl hpl => xCatQ.cat _ _ (by rw [htb]; exact xrowN hpl hown hE kl_L_13 (hNc ("java/lang/IllegalStateException", "java/lang/IllegalArgumentException") (by decide)) h3 (by decide) (by decide) (xrowY hpl hown hE kl_L_15 wq_IllegalStateException h3 (by decide) (by decide)))) ?_
  refine lv_astore_n (lv' := [(3, .ref u), (0, .ref (q 0)), (1, .int v1), (2, .ref (q 39))]) hx hb dL_cancel_22 rfl hl (by decide) rfl (fun ls hl => ?_)
  refine lv_iconst (v := 2) hx hb dL_cancel_23 (by decide) ?_
  exact xreth hx hb hr hlocks (xkeep hP h5) (xkeepS h4 h5) dL_cancel_24
abbrev r_L_airborne : Room := { frames := 8, cells := 1, slots := 6, locals := 132 }
set_option maxHeartbeats 4000000 in
set_option maxRecDepth 100000 in
theorem h_airborne_ok (l : Launch) (hl0 : l.stackTraces = false) (D : va_G) (q : Nat → Nat) (k : Nat → ClassId) (sz : Nat) (a b : xT) (o : Nat → Int64) (v1 : Int32) (a1 : xT) (hN : f_X4_airborne a v1 = some (.inr a1)) : xMet l yL_airborne (.codeWith yL_airborne cL_airborne 3 (some .int) [(0, 5, 8, 13), (0, 5, 11, 15)]) r_L_airborne (xPcH D q k sz a b o [.ref (q 0), .int v1]) (xQh D q k a b o 0 a1 o) 1 6 (va_A (xw q k a b o) sz) := by
  refine xMet.ofWW (by decide) ?_
  intro p e s m args below meth c hx hb hml hr hlocks hnm htb hv
  obtain ⟨rfl, hsz, hP, hD, hG, hst, hNc⟩ := hv
  subst hsz
  have hown : s.vm.findClass RL = some m.cls := findClass_of_methodNamed hnm
  have hK := hG.1
  have hE := hG.2.1
  have hl := lv_entry ([.ref (q 0), .int v1]) (n := 3) (Nat.le_of_ble_eq_true rfl)
  rw [lg_entry_eq]
  generalize (lg_sl ([.ref (q 0), .int v1]) ++ List.replicate (3 - (lg_sl ([.ref (q 0), .int v1])).length) Slot.unset).toArray = ls at hl ⊢
  have hl : lv_has ls 3 [(0, .ref (q 0)), (1, .int v1)] := hl
  have hD := hD.self (sz := s.heap.size)
  have hS : va_S (va_A (xw q k a b o) s.heap.size) s.heap s.heap [] := va_S.rf
  have hA : ∀ u, s.heap.size ≤ u → va_A (xw q k a b o) s.heap.size u := fun u h => Or.inr h
  refine lv_aload_n hx hb dL_airborne_0 rfl (lv_at hl 0 rfl) ?_
  refine lv_iload_n hx hb dL_airborne_1 rfl (lv_at hl 1 rfl) ?_
  refine xgo_m (v := none) (a1 := a1) (b1 := b) (xrunV (C := RX4) (As := [.int v1]) (rest := []) (xfixm fx_X4_airborne hx hb hml hown (by decide) (by decide) (by decide) (by decide)) hE ml_L_41 wi_X4_airborne wz_X4_airborne wc_X4_airborne wn_X4 (c_X4_airborne l hl0 D q k _ a b o v1 _ hN) (va_recv (q := (RX4, TX4, 4)) (ci := 4) (q0 := 0) hK hP rfl rfl) (xpreTm hP hD hG hst) rfl rfl hl.1 rfl (lv_room (Nat.le_of_ble_eq_true rfl)) dL_airborne_2) hD hS hA (fun H locs hP hD hS => ?_)
  refine lv_goto hx hb dL_airborne_5 rfl ?_
  refine lv_iconst (v := 0) hx hb dL_airborne_14 (by decide) ?_
  refine W.widen (k := 1) (n := 6) (by decide) (by decide) ?_
  exact xreth hx hb hr hlocks hP hS dL_airborne_15
set_option maxHeartbeats 4000000 in
set_option maxRecDepth 100000 in
theorem h_airborne_e1 (l : Launch) (hl0 : l.stackTraces = false) (D : va_G) (q : Nat → Nat) (k : Nat → ClassId) (sz : Nat) (a b : xT) (o : Nat → Int64) (v1 : Int32) (hN : f_X4_airborne a v1 = some (.inl "java/lang/IllegalArgumentException")) : xMet l yL_airborne (.codeWith yL_airborne cL_airborne 3 (some .int) [(0, 5, 8, 13), (0, 5, 11, 15)]) r_L_airborne (xPcH D q k sz a b o [.ref (q 0), .int v1]) (xQh D q k a b o 1 a o) 1 6 (va_A (xw q k a b o) sz) := by
  refine xMet.ofWW (by decide) ?_
  intro p e s m args below meth c hx hb hml hr hlocks hnm htb hv
  obtain ⟨rfl, hsz, hP, hD, hG, hst, hNc⟩ := hv
  subst hsz
  have hown : s.vm.findClass RL = some m.cls := findClass_of_methodNamed hnm
  have hK := hG.1
  have hE := hG.2.1
  have hl := lv_entry ([.ref (q 0), .int v1]) (n := 3) (Nat.le_of_ble_eq_true rfl)
  rw [lg_entry_eq]
  generalize (lg_sl ([.ref (q 0), .int v1]) ++ List.replicate (3 - (lg_sl ([.ref (q 0), .int v1])).length) Slot.unset).toArray = ls at hl ⊢
  have hl : lv_has ls 3 [(0, .ref (q 0)), (1, .int v1)] := hl
  have hD := hD.self (sz := s.heap.size)
  have hS : va_S (va_A (xw q k a b o) s.heap.size) s.heap s.heap [] := va_S.rf
  have hA : ∀ u, s.heap.size ≤ u → va_A (xw q k a b o) s.heap.size u := fun u h => Or.inr h
  refine lv_aload_n hx hb dL_airborne_0 rfl (lv_at hl 0 rfl) ?_
  refine lv_iload_n hx hb dL_airborne_1 rfl (lv_at hl 1 rfl) ?_
  refine xgo_tm (E := "java/lang/IllegalArgumentException") (xrunV (C := RX4) (As := [.int v1]) (rest := []) (xfixm fx_X4_airborne hx hb hml hown (by decide) (by decide) (by decide) (by decide)) hE ml_L_41 wi_X4_airborne wz_X4_airborne wc_X4_airborne wn_X4 (c_X4_airborne l hl0 D q k _ a b o v1 _ hN) (va_recv (q := (RX4, TX4, 4)) (ci := 4) (q0 := 0) hK hP rfl rfl) (xpreTm hP hD hG hst) rfl rfl hl.1 rfl (lv_room (Nat.le_of_ble_eq_true rfl)) dL_airborne_2) (fun u H1 ce h1 h2 h3 h4 h5 => ?_)
  refine xcatch (hpc := 8) h1 h2 h3 (fun pl hpl => xCatQ.cat _ _ (by rw [htb]; exact xrowY hpl hown hE kl_L_13 wq_IllegalArgumentException h3 (by decide) (by decide))) ?_
  refine lv_astore_n (lv' := [(2, .ref u), (0, .ref (q 0)), (1, .int v1)]) hx hb dL_airborne_8 rfl hl (by decide) rfl (fun ls hl => ?_)
  refine lv_iconst (v := 1) hx hb dL_airborne_9 (by decide) ?_
  exact xreth hx hb hr hlocks (xkeep hP h5) (xkeepS h4 h5) dL_airborne_10
set_option maxHeartbeats 4000000 in
set_option maxRecDepth 100000 in
theorem h_airborne_e2 (l : Launch) (hl0 : l.stackTraces = false) (D : va_G) (q : Nat → Nat) (k : Nat → ClassId) (sz : Nat) (a b : xT) (o : Nat → Int64) (v1 : Int32) (hN : f_X4_airborne a v1 = some (.inl "java/lang/IllegalStateException")) : xMet l yL_airborne (.codeWith yL_airborne cL_airborne 3 (some .int) [(0, 5, 8, 13), (0, 5, 11, 15)]) r_L_airborne (xPcH D q k sz a b o [.ref (q 0), .int v1]) (xQh D q k a b o 2 a o) 1 6 (va_A (xw q k a b o) sz) := by
  refine xMet.ofWW (by decide) ?_
  intro p e s m args below meth c hx hb hml hr hlocks hnm htb hv
  obtain ⟨rfl, hsz, hP, hD, hG, hst, hNc⟩ := hv
  subst hsz
  have hown : s.vm.findClass RL = some m.cls := findClass_of_methodNamed hnm
  have hK := hG.1
  have hE := hG.2.1
  have hl := lv_entry ([.ref (q 0), .int v1]) (n := 3) (Nat.le_of_ble_eq_true rfl)
  rw [lg_entry_eq]
  generalize (lg_sl ([.ref (q 0), .int v1]) ++ List.replicate (3 - (lg_sl ([.ref (q 0), .int v1])).length) Slot.unset).toArray = ls at hl ⊢
  have hl : lv_has ls 3 [(0, .ref (q 0)), (1, .int v1)] := hl
  have hD := hD.self (sz := s.heap.size)
  have hS : va_S (va_A (xw q k a b o) s.heap.size) s.heap s.heap [] := va_S.rf
  have hA : ∀ u, s.heap.size ≤ u → va_A (xw q k a b o) s.heap.size u := fun u h => Or.inr h
  refine lv_aload_n hx hb dL_airborne_0 rfl (lv_at hl 0 rfl) ?_
  refine lv_iload_n hx hb dL_airborne_1 rfl (lv_at hl 1 rfl) ?_
  refine xgo_tm (E := "java/lang/IllegalStateException") (xrunV (C := RX4) (As := [.int v1]) (rest := []) (xfixm fx_X4_airborne hx hb hml hown (by decide) (by decide) (by decide) (by decide)) hE ml_L_41 wi_X4_airborne wz_X4_airborne wc_X4_airborne wn_X4 (c_X4_airborne l hl0 D q k _ a b o v1 _ hN) (va_recv (q := (RX4, TX4, 4)) (ci := 4) (q0 := 0) hK hP rfl rfl) (xpreTm hP hD hG hst) rfl rfl hl.1 rfl (lv_room (Nat.le_of_ble_eq_true rfl)) dL_airborne_2) (fun u H1 ce h1 h2 h3 h4 h5 => ?_)
  refine xcatch (hpc := 11) h1 h2 h3 (fun pl hpl => xCatQ.cat _ _ (by rw [htb]; exact xrowN hpl hown hE kl_L_13 (hNc ("java/lang/IllegalStateException", "java/lang/IllegalArgumentException") (by decide)) h3 (by decide) (by decide) (xrowY hpl hown hE kl_L_15 wq_IllegalStateException h3 (by decide) (by decide)))) ?_
  refine lv_astore_n (lv' := [(2, .ref u), (0, .ref (q 0)), (1, .int v1)]) hx hb dL_airborne_11 rfl hl (by decide) rfl (fun ls hl => ?_)
  refine lv_iconst (v := 2) hx hb dL_airborne_12 (by decide) ?_
  exact xreth hx hb hr hlocks (xkeep hP h5) (xkeepS h4 h5) dL_airborne_13
abbrev r_L_swap : Room := { frames := 8, cells := 1, slots := 6, locals := 135 }
set_option maxHeartbeats 4000000 in
set_option maxRecDepth 100000 in
theorem h_swap_ok (l : Launch) (hl0 : l.stackTraces = false) (D : va_G) (q : Nat → Nat) (k : Nat → ClassId) (sz : Nat) (a b : xT) (o : Nat → Int64) (v1 : Int32) (v2 : Int32) (a1 : xT) (hN : f_X4_swap a v1 v2 = some (.inr a1)) : xMet l yL_swap (.codeWith yL_swap cL_swap 4 (some .int) [(0, 6, 9, 13), (0, 6, 12, 15)]) r_L_swap (xPcH D q k sz a b o [.ref (q 0), .int v1, .int v2]) (xQh D q k a b o 0 a1 o) 1 6 (va_A (xw q k a b o) sz) := by
  refine xMet.ofWW (by decide) ?_
  intro p e s m args below meth c hx hb hml hr hlocks hnm htb hv
  obtain ⟨rfl, hsz, hP, hD, hG, hst, hNc⟩ := hv
  subst hsz
  have hown : s.vm.findClass RL = some m.cls := findClass_of_methodNamed hnm
  have hK := hG.1
  have hE := hG.2.1
  have hl := lv_entry ([.ref (q 0), .int v1, .int v2]) (n := 4) (Nat.le_of_ble_eq_true rfl)
  rw [lg_entry_eq]
  generalize (lg_sl ([.ref (q 0), .int v1, .int v2]) ++ List.replicate (4 - (lg_sl ([.ref (q 0), .int v1, .int v2])).length) Slot.unset).toArray = ls at hl ⊢
  have hl : lv_has ls 4 [(0, .ref (q 0)), (1, .int v1), (2, .int v2)] := hl
  have hD := hD.self (sz := s.heap.size)
  have hS : va_S (va_A (xw q k a b o) s.heap.size) s.heap s.heap [] := va_S.rf
  have hA : ∀ u, s.heap.size ≤ u → va_A (xw q k a b o) s.heap.size u := fun u h => Or.inr h
  refine lv_aload_n hx hb dL_swap_0 rfl (lv_at hl 0 rfl) ?_
  refine lv_iload_n hx hb dL_swap_1 rfl (lv_at hl 1 rfl) ?_
  refine lv_iload_n hx hb dL_swap_2 rfl (lv_at hl 2 rfl) ?_
  refine xgo_m (v := none) (a1 := a1) (b1 := b) (xrunV (C := RX4) (As := [.int v1, .int v2]) (rest := []) (xfixm fx_X4_swap hx hb hml hown (by decide) (by decide) (by decide) (by decide)) hE ml_L_45 wi_X4_swap wz_X4_swap wc_X4_swap wn_X4 (c_X4_swap l hl0 D q k _ a b o v1 v2 _ hN) (va_recv (q := (RX4, TX4, 4)) (ci := 4) (q0 := 0) hK hP rfl rfl) (xpreTm hP hD hG hst) rfl rfl hl.1 rfl (lv_room (Nat.le_of_ble_eq_true rfl)) dL_swap_3) hD hS hA (fun H locs hP hD hS => ?_)
  refine lv_goto hx hb dL_swap_6 rfl ?_
  refine lv_iconst (v := 0) hx hb dL_swap_15 (by decide) ?_
  refine W.widen (k := 1) (n := 6) (by decide) (by decide) ?_
  exact xreth hx hb hr hlocks hP hS dL_swap_16
set_option maxHeartbeats 4000000 in
set_option maxRecDepth 100000 in
theorem h_swap_e1 (l : Launch) (hl0 : l.stackTraces = false) (D : va_G) (q : Nat → Nat) (k : Nat → ClassId) (sz : Nat) (a b : xT) (o : Nat → Int64) (v1 : Int32) (v2 : Int32) (hN : f_X4_swap a v1 v2 = some (.inl "java/lang/IllegalArgumentException")) : xMet l yL_swap (.codeWith yL_swap cL_swap 4 (some .int) [(0, 6, 9, 13), (0, 6, 12, 15)]) r_L_swap (xPcH D q k sz a b o [.ref (q 0), .int v1, .int v2]) (xQh D q k a b o 1 a o) 1 6 (va_A (xw q k a b o) sz) := by
  refine xMet.ofWW (by decide) ?_
  intro p e s m args below meth c hx hb hml hr hlocks hnm htb hv
  obtain ⟨rfl, hsz, hP, hD, hG, hst, hNc⟩ := hv
  subst hsz
  have hown : s.vm.findClass RL = some m.cls := findClass_of_methodNamed hnm
  have hK := hG.1
  have hE := hG.2.1
  have hl := lv_entry ([.ref (q 0), .int v1, .int v2]) (n := 4) (Nat.le_of_ble_eq_true rfl)
  rw [lg_entry_eq]
  generalize (lg_sl ([.ref (q 0), .int v1, .int v2]) ++ List.replicate (4 - (lg_sl ([.ref (q 0), .int v1, .int v2])).length) Slot.unset).toArray = ls at hl ⊢
  have hl : lv_has ls 4 [(0, .ref (q 0)), (1, .int v1), (2, .int v2)] := hl
  have hD := hD.self (sz := s.heap.size)
  have hS : va_S (va_A (xw q k a b o) s.heap.size) s.heap s.heap [] := va_S.rf
  have hA : ∀ u, s.heap.size ≤ u → va_A (xw q k a b o) s.heap.size u := fun u h => Or.inr h
  refine lv_aload_n hx hb dL_swap_0 rfl (lv_at hl 0 rfl) ?_
  refine lv_iload_n hx hb dL_swap_1 rfl (lv_at hl 1 rfl) ?_
  refine lv_iload_n hx hb dL_swap_2 rfl (lv_at hl 2 rfl) ?_
  refine xgo_tm (E := "java/lang/IllegalArgumentException") (xrunV (C := RX4) (As := [.int v1, .int v2]) (rest := []) (xfixm fx_X4_swap hx hb hml hown (by decide) (by decide) (by decide) (by decide)) hE ml_L_45 wi_X4_swap wz_X4_swap wc_X4_swap wn_X4 (c_X4_swap l hl0 D q k _ a b o v1 v2 _ hN) (va_recv (q := (RX4, TX4, 4)) (ci := 4) (q0 := 0) hK hP rfl rfl) (xpreTm hP hD hG hst) rfl rfl hl.1 rfl (lv_room (Nat.le_of_ble_eq_true rfl)) dL_swap_3) (fun u H1 ce h1 h2 h3 h4 h5 => ?_)
  refine xcatch (hpc := 9) h1 h2 h3 (fun pl hpl => xCatQ.cat _ _ (by rw [htb]; exact xrowY hpl hown hE kl_L_13 wq_IllegalArgumentException h3 (by decide) (by decide))) ?_
  refine lv_astore_n (lv' := [(3, .ref u), (0, .ref (q 0)), (1, .int v1), (2, .int v2)]) hx hb dL_swap_9 rfl hl (by decide) rfl (fun ls hl => ?_)
  refine lv_iconst (v := 1) hx hb dL_swap_10 (by decide) ?_
  exact xreth hx hb hr hlocks (xkeep hP h5) (xkeepS h4 h5) dL_swap_11
set_option maxHeartbeats 4000000 in
set_option maxRecDepth 100000 in
theorem h_swap_e2 (l : Launch) (hl0 : l.stackTraces = false) (D : va_G) (q : Nat → Nat) (k : Nat → ClassId) (sz : Nat) (a b : xT) (o : Nat → Int64) (v1 : Int32) (v2 : Int32) (hN : f_X4_swap a v1 v2 = some (.inl "java/lang/IllegalStateException")) : xMet l yL_swap (.codeWith yL_swap cL_swap 4 (some .int) [(0, 6, 9, 13), (0, 6, 12, 15)]) r_L_swap (xPcH D q k sz a b o [.ref (q 0), .int v1, .int v2]) (xQh D q k a b o 2 a o) 1 6 (va_A (xw q k a b o) sz) := by
  refine xMet.ofWW (by decide) ?_
  intro p e s m args below meth c hx hb hml hr hlocks hnm htb hv
  obtain ⟨rfl, hsz, hP, hD, hG, hst, hNc⟩ := hv
  subst hsz
  have hown : s.vm.findClass RL = some m.cls := findClass_of_methodNamed hnm
  have hK := hG.1
  have hE := hG.2.1
  have hl := lv_entry ([.ref (q 0), .int v1, .int v2]) (n := 4) (Nat.le_of_ble_eq_true rfl)
  rw [lg_entry_eq]
  generalize (lg_sl ([.ref (q 0), .int v1, .int v2]) ++ List.replicate (4 - (lg_sl ([.ref (q 0), .int v1, .int v2])).length) Slot.unset).toArray = ls at hl ⊢
  have hl : lv_has ls 4 [(0, .ref (q 0)), (1, .int v1), (2, .int v2)] := hl
  have hD := hD.self (sz := s.heap.size)
  have hS : va_S (va_A (xw q k a b o) s.heap.size) s.heap s.heap [] := va_S.rf
  have hA : ∀ u, s.heap.size ≤ u → va_A (xw q k a b o) s.heap.size u := fun u h => Or.inr h
  refine lv_aload_n hx hb dL_swap_0 rfl (lv_at hl 0 rfl) ?_
  refine lv_iload_n hx hb dL_swap_1 rfl (lv_at hl 1 rfl) ?_
  refine lv_iload_n hx hb dL_swap_2 rfl (lv_at hl 2 rfl) ?_
  refine xgo_tm (E := "java/lang/IllegalStateException") (xrunV (C := RX4) (As := [.int v1, .int v2]) (rest := []) (xfixm fx_X4_swap hx hb hml hown (by decide) (by decide) (by decide) (by decide)) hE ml_L_45 wi_X4_swap wz_X4_swap wc_X4_swap wn_X4 (c_X4_swap l hl0 D q k _ a b o v1 v2 _ hN) (va_recv (q := (RX4, TX4, 4)) (ci := 4) (q0 := 0) hK hP rfl rfl) (xpreTm hP hD hG hst) rfl rfl hl.1 rfl (lv_room (Nat.le_of_ble_eq_true rfl)) dL_swap_3) (fun u H1 ce h1 h2 h3 h4 h5 => ?_)
  refine xcatch (hpc := 12) h1 h2 h3 (fun pl hpl => xCatQ.cat _ _ (by rw [htb]; exact xrowN hpl hown hE kl_L_13 (hNc ("java/lang/IllegalStateException", "java/lang/IllegalArgumentException") (by decide)) h3 (by decide) (by decide) (xrowY hpl hown hE kl_L_15 wq_IllegalStateException h3 (by decide) (by decide)))) ?_
  refine lv_astore_n (lv' := [(3, .ref u), (0, .ref (q 0)), (1, .int v1), (2, .int v2)]) hx hb dL_swap_12 rfl hl (by decide) rfl (fun ls hl => ?_)
  refine lv_iconst (v := 2) hx hb dL_swap_13 (by decide) ?_
  exact xreth hx hb hr hlocks (xkeep hP h5) (xkeepS h4 h5) dL_swap_14
abbrev r_L_offer : Room := { frames := 8, cells := 1, slots := 6, locals := 134 }
set_option maxHeartbeats 4000000 in
set_option maxRecDepth 100000 in
theorem h_offer_ok (l : Launch) (hl0 : l.stackTraces = false) (D : va_G) (q : Nat → Nat) (k : Nat → ClassId) (sz : Nat) (a b : xT) (o : Nat → Int64) (v1 : Int32) (v2 : Int32) (v3 : Int32) (r : Int32) (a1 : xT) (hN : f_X4_offer a v1 v2 v3 = some (.inr (r, a1))) : xMet l yL_offer (.codeWith yL_offer cL_offer 6 (some .int) [(0, 12, 15, 13), (0, 12, 19, 28), (0, 12, 23, 15)]) r_L_offer (xPcH D q k sz a b o [.ref (q 0), .int v1, .int v2, .int v3, .ref (q 39)]) (xQh D q k a b o 0 a1 (vp_updL o 0 r.toInt64)) 1 6 (va_A (xw q k a b o) sz) := by
  refine xMet.ofWW (by decide) ?_
  intro p e s m args below meth c hx hb hml hr hlocks hnm htb hv
  obtain ⟨rfl, hsz, hP, hD, hG, hst, hNc⟩ := hv
  subst hsz
  have hown : s.vm.findClass RL = some m.cls := findClass_of_methodNamed hnm
  have hK := hG.1
  have hE := hG.2.1
  have hl := lv_entry ([.ref (q 0), .int v1, .int v2, .int v3, .ref (q 39)]) (n := 6) (Nat.le_of_ble_eq_true rfl)
  rw [lg_entry_eq]
  generalize (lg_sl ([.ref (q 0), .int v1, .int v2, .int v3, .ref (q 39)]) ++ List.replicate (6 - (lg_sl ([.ref (q 0), .int v1, .int v2, .int v3, .ref (q 39)])).length) Slot.unset).toArray = ls at hl ⊢
  have hl : lv_has ls 6 [(0, .ref (q 0)), (1, .int v1), (2, .int v2), (3, .int v3), (4, .ref (q 39))] := hl
  have hD := hD.self (sz := s.heap.size)
  have hS : va_S (va_A (xw q k a b o) s.heap.size) s.heap s.heap [] := va_S.rf
  have hA : ∀ u, s.heap.size ≤ u → va_A (xw q k a b o) s.heap.size u := fun u h => Or.inr h
  refine lv_aload hx hb dL_offer_0 (lv_at hl 4 rfl) ?_
  refine lv_iconst (v := 0) hx hb dL_offer_2 (by decide) ?_
  refine lv_aload_n hx hb dL_offer_3 rfl (lv_at hl 0 rfl) ?_
  refine lv_iload_n hx hb dL_offer_4 rfl (lv_at hl 1 rfl) ?_
  refine lv_iload_n hx hb dL_offer_5 rfl (lv_at hl 2 rfl) ?_
  refine lv_iload_n hx hb dL_offer_6 rfl (lv_at hl 3 rfl) ?_
  refine xgo_m (v := some (.int r)) (a1 := a1) (b1 := b) (xrunV (C := RX4) (As := [.int v1, .int v2, .int v3]) (rest := [.int 0, .ref (q 39)]) (xfixm fx_X4_offer hx hb hml hown (by decide) (by decide) (by decide) (by decide)) hE ml_L_49 wi_X4_offer wz_X4_offer wc_X4_offer wn_X4 (c_X4_offer l hl0 D q k _ a b o v1 v2 v3 _ hN) (va_recv (q := (RX4, TX4, 4)) (ci := 4) (q0 := 0) hK hP rfl rfl) (xpreTm hP hD hG hst) rfl rfl hl.1 rfl (lv_room (Nat.le_of_ble_eq_true rfl)) dL_offer_7) hD hS hA (fun H locs hP hD hS => ?_)
  refine lv_i2l (v := r.toInt64) hx hb dL_offer_10 rfl ?_
  refine va_last hx hb hK hP hD hS 39 2 rfl rfl xin01 dL_offer_11 (fun H locs hP hD hS => ?_)
  rw [xw_o] at hP hD
  refine lv_goto hx hb dL_offer_12 rfl ?_
  refine lv_iconst (v := 0) hx hb dL_offer_27 (by decide) ?_
  refine W.widen (k := 1) (n := 6) (by decide) (by decide) ?_
  exact xreth hx hb hr hlocks hP hS dL_offer_28
set_option maxHeartbeats 4000000 in
set_option maxRecDepth 100000 in
theorem h_offer_e1 (l : Launch) (hl0 : l.stackTraces = false) (D : va_G) (q : Nat → Nat) (k : Nat → ClassId) (sz : Nat) (a b : xT) (o : Nat → Int64) (v1 : Int32) (v2 : Int32) (v3 : Int32) (hN : f_X4_offer a v1 v2 v3 = some (.inl "java/lang/IllegalArgumentException")) : xMet l yL_offer (.codeWith yL_offer cL_offer 6 (some .int) [(0, 12, 15, 13), (0, 12, 19, 28), (0, 12, 23, 15)]) r_L_offer (xPcH D q k sz a b o [.ref (q 0), .int v1, .int v2, .int v3, .ref (q 39)]) (xQh D q k a b o 1 a o) 1 6 (va_A (xw q k a b o) sz) := by
  refine xMet.ofWW (by decide) ?_
  intro p e s m args below meth c hx hb hml hr hlocks hnm htb hv
  obtain ⟨rfl, hsz, hP, hD, hG, hst, hNc⟩ := hv
  subst hsz
  have hown : s.vm.findClass RL = some m.cls := findClass_of_methodNamed hnm
  have hK := hG.1
  have hE := hG.2.1
  have hl := lv_entry ([.ref (q 0), .int v1, .int v2, .int v3, .ref (q 39)]) (n := 6) (Nat.le_of_ble_eq_true rfl)
  rw [lg_entry_eq]
  generalize (lg_sl ([.ref (q 0), .int v1, .int v2, .int v3, .ref (q 39)]) ++ List.replicate (6 - (lg_sl ([.ref (q 0), .int v1, .int v2, .int v3, .ref (q 39)])).length) Slot.unset).toArray = ls at hl ⊢
  have hl : lv_has ls 6 [(0, .ref (q 0)), (1, .int v1), (2, .int v2), (3, .int v3), (4, .ref (q 39))] := hl
  have hD := hD.self (sz := s.heap.size)
  have hS : va_S (va_A (xw q k a b o) s.heap.size) s.heap s.heap [] := va_S.rf
  have hA : ∀ u, s.heap.size ≤ u → va_A (xw q k a b o) s.heap.size u := fun u h => Or.inr h
  refine lv_aload hx hb dL_offer_0 (lv_at hl 4 rfl) ?_
  refine lv_iconst (v := 0) hx hb dL_offer_2 (by decide) ?_
  refine lv_aload_n hx hb dL_offer_3 rfl (lv_at hl 0 rfl) ?_
  refine lv_iload_n hx hb dL_offer_4 rfl (lv_at hl 1 rfl) ?_
  refine lv_iload_n hx hb dL_offer_5 rfl (lv_at hl 2 rfl) ?_
  refine lv_iload_n hx hb dL_offer_6 rfl (lv_at hl 3 rfl) ?_
  refine xgo_tm (E := "java/lang/IllegalArgumentException") (xrunV (C := RX4) (As := [.int v1, .int v2, .int v3]) (rest := [.int 0, .ref (q 39)]) (xfixm fx_X4_offer hx hb hml hown (by decide) (by decide) (by decide) (by decide)) hE ml_L_49 wi_X4_offer wz_X4_offer wc_X4_offer wn_X4 (c_X4_offer l hl0 D q k _ a b o v1 v2 v3 _ hN) (va_recv (q := (RX4, TX4, 4)) (ci := 4) (q0 := 0) hK hP rfl rfl) (xpreTm hP hD hG hst) rfl rfl hl.1 rfl (lv_room (Nat.le_of_ble_eq_true rfl)) dL_offer_7) (fun u H1 ce h1 h2 h3 h4 h5 => ?_)
  refine xcatch (hpc := 15) h1 h2 h3 (fun pl hpl => xCatQ.cat _ _ (by rw [htb]; exact xrowY hpl hown hE kl_L_13 wq_IllegalArgumentException h3 (by decide) (by decide))) ?_
  refine lv_astore (lv' := [(5, .ref u), (0, .ref (q 0)), (1, .int v1), (2, .int v2), (3, .int v3), (4, .ref (q 39))]) hx hb dL_offer_15 hl (by decide) rfl (fun ls hl => ?_)
  refine lv_iconst (v := 1) hx hb dL_offer_17 (by decide) ?_
  exact xreth hx hb hr hlocks (xkeep hP h5) (xkeepS h4 h5) dL_offer_18
set_option maxHeartbeats 4000000 in
set_option maxRecDepth 100000 in
theorem h_offer_e2 (l : Launch) (hl0 : l.stackTraces = false) (D : va_G) (q : Nat → Nat) (k : Nat → ClassId) (sz : Nat) (a b : xT) (o : Nat → Int64) (v1 : Int32) (v2 : Int32) (v3 : Int32) (hN : f_X4_offer a v1 v2 v3 = some (.inl "java/util/NoSuchElementException")) : xMet l yL_offer (.codeWith yL_offer cL_offer 6 (some .int) [(0, 12, 15, 13), (0, 12, 19, 28), (0, 12, 23, 15)]) r_L_offer (xPcH D q k sz a b o [.ref (q 0), .int v1, .int v2, .int v3, .ref (q 39)]) (xQh D q k a b o 2 a o) 1 6 (va_A (xw q k a b o) sz) := by
  refine xMet.ofWW (by decide) ?_
  intro p e s m args below meth c hx hb hml hr hlocks hnm htb hv
  obtain ⟨rfl, hsz, hP, hD, hG, hst, hNc⟩ := hv
  subst hsz
  have hown : s.vm.findClass RL = some m.cls := findClass_of_methodNamed hnm
  have hK := hG.1
  have hE := hG.2.1
  have hl := lv_entry ([.ref (q 0), .int v1, .int v2, .int v3, .ref (q 39)]) (n := 6) (Nat.le_of_ble_eq_true rfl)
  rw [lg_entry_eq]
  generalize (lg_sl ([.ref (q 0), .int v1, .int v2, .int v3, .ref (q 39)]) ++ List.replicate (6 - (lg_sl ([.ref (q 0), .int v1, .int v2, .int v3, .ref (q 39)])).length) Slot.unset).toArray = ls at hl ⊢
  have hl : lv_has ls 6 [(0, .ref (q 0)), (1, .int v1), (2, .int v2), (3, .int v3), (4, .ref (q 39))] := hl
  have hD := hD.self (sz := s.heap.size)
  have hS : va_S (va_A (xw q k a b o) s.heap.size) s.heap s.heap [] := va_S.rf
  have hA : ∀ u, s.heap.size ≤ u → va_A (xw q k a b o) s.heap.size u := fun u h => Or.inr h
  refine lv_aload hx hb dL_offer_0 (lv_at hl 4 rfl) ?_
  refine lv_iconst (v := 0) hx hb dL_offer_2 (by decide) ?_
  refine lv_aload_n hx hb dL_offer_3 rfl (lv_at hl 0 rfl) ?_
  refine lv_iload_n hx hb dL_offer_4 rfl (lv_at hl 1 rfl) ?_
  refine lv_iload_n hx hb dL_offer_5 rfl (lv_at hl 2 rfl) ?_
  refine lv_iload_n hx hb dL_offer_6 rfl (lv_at hl 3 rfl) ?_
  refine xgo_tm (E := "java/util/NoSuchElementException") (xrunV (C := RX4) (As := [.int v1, .int v2, .int v3]) (rest := [.int 0, .ref (q 39)]) (xfixm fx_X4_offer hx hb hml hown (by decide) (by decide) (by decide) (by decide)) hE ml_L_49 wi_X4_offer wz_X4_offer wc_X4_offer wn_X4 (c_X4_offer l hl0 D q k _ a b o v1 v2 v3 _ hN) (va_recv (q := (RX4, TX4, 4)) (ci := 4) (q0 := 0) hK hP rfl rfl) (xpreTm hP hD hG hst) rfl rfl hl.1 rfl (lv_room (Nat.le_of_ble_eq_true rfl)) dL_offer_7) (fun u H1 ce h1 h2 h3 h4 h5 => ?_)
  refine xcatch (hpc := 19) h1 h2 h3 (fun pl hpl => xCatQ.cat _ _ (by rw [htb]; exact xrowN hpl hown hE kl_L_13 (hNc ("java/util/NoSuchElementException", "java/lang/IllegalArgumentException") (by decide)) h3 (by decide) (by decide) (xrowY hpl hown hE kl_L_28 wq_NoSuchElementException h3 (by decide) (by decide)))) ?_
  refine lv_astore (lv' := [(5, .ref u), (0, .ref (q 0)), (1, .int v1), (2, .int v2), (3, .int v3), (4, .ref (q 39))]) hx hb dL_offer_19 hl (by decide) rfl (fun ls hl => ?_)
  refine lv_iconst (v := 2) hx hb dL_offer_21 (by decide) ?_
  exact xreth hx hb hr hlocks (xkeep hP h5) (xkeepS h4 h5) dL_offer_22
set_option maxHeartbeats 4000000 in
set_option maxRecDepth 100000 in
theorem h_offer_e3 (l : Launch) (hl0 : l.stackTraces = false) (D : va_G) (q : Nat → Nat) (k : Nat → ClassId) (sz : Nat) (a b : xT) (o : Nat → Int64) (v1 : Int32) (v2 : Int32) (v3 : Int32) (hN : f_X4_offer a v1 v2 v3 = some (.inl "java/lang/IllegalStateException")) : xMet l yL_offer (.codeWith yL_offer cL_offer 6 (some .int) [(0, 12, 15, 13), (0, 12, 19, 28), (0, 12, 23, 15)]) r_L_offer (xPcH D q k sz a b o [.ref (q 0), .int v1, .int v2, .int v3, .ref (q 39)]) (xQh D q k a b o 3 a o) 1 6 (va_A (xw q k a b o) sz) := by
  refine xMet.ofWW (by decide) ?_
  intro p e s m args below meth c hx hb hml hr hlocks hnm htb hv
  obtain ⟨rfl, hsz, hP, hD, hG, hst, hNc⟩ := hv
  subst hsz
  have hown : s.vm.findClass RL = some m.cls := findClass_of_methodNamed hnm
  have hK := hG.1
  have hE := hG.2.1
  have hl := lv_entry ([.ref (q 0), .int v1, .int v2, .int v3, .ref (q 39)]) (n := 6) (Nat.le_of_ble_eq_true rfl)
  rw [lg_entry_eq]
  generalize (lg_sl ([.ref (q 0), .int v1, .int v2, .int v3, .ref (q 39)]) ++ List.replicate (6 - (lg_sl ([.ref (q 0), .int v1, .int v2, .int v3, .ref (q 39)])).length) Slot.unset).toArray = ls at hl ⊢
  have hl : lv_has ls 6 [(0, .ref (q 0)), (1, .int v1), (2, .int v2), (3, .int v3), (4, .ref (q 39))] := hl
  have hD := hD.self (sz := s.heap.size)
  have hS : va_S (va_A (xw q k a b o) s.heap.size) s.heap s.heap [] := va_S.rf
  have hA : ∀ u, s.heap.size ≤ u → va_A (xw q k a b o) s.heap.size u := fun u h => Or.inr h
  refine lv_aload hx hb dL_offer_0 (lv_at hl 4 rfl) ?_
  refine lv_iconst (v := 0) hx hb dL_offer_2 (by decide) ?_
  refine lv_aload_n hx hb dL_offer_3 rfl (lv_at hl 0 rfl) ?_
  refine lv_iload_n hx hb dL_offer_4 rfl (lv_at hl 1 rfl) ?_
  refine lv_iload_n hx hb dL_offer_5 rfl (lv_at hl 2 rfl) ?_
  refine lv_iload_n hx hb dL_offer_6 rfl (lv_at hl 3 rfl) ?_
  refine xgo_tm (E := "java/lang/IllegalStateException") (xrunV (C := RX4) (As := [.int v1, .int v2, .int v3]) (rest := [.int 0, .ref (q 39)]) (xfixm fx_X4_offer hx hb hml hown (by decide) (by decide) (by decide) (by decide)) hE ml_L_49 wi_X4_offer wz_X4_offer wc_X4_offer wn_X4 (c_X4_offer l hl0 D q k _ a b o v1 v2 v3 _ hN) (va_recv (q := (RX4, TX4, 4)) (ci := 4) (q0 := 0) hK hP rfl rfl) (xpreTm hP hD hG hst) rfl rfl hl.1 rfl (lv_room (Nat.le_of_ble_eq_true rfl)) dL_offer_7) (fun u H1 ce h1 h2 h3 h4 h5 => ?_)
  refine xcatch (hpc := 23) h1 h2 h3 (fun pl hpl => xCatQ.cat _ _ (by rw [htb]; exact xrowN hpl hown hE kl_L_13 (hNc ("java/lang/IllegalStateException", "java/lang/IllegalArgumentException") (by decide)) h3 (by decide) (by decide) (xrowN hpl hown hE kl_L_28 (hNc ("java/lang/IllegalStateException", "java/util/NoSuchElementException") (by decide)) h3 (by decide) (by decide) (xrowY hpl hown hE kl_L_15 wq_IllegalStateException h3 (by decide) (by decide))))) ?_
  refine lv_astore (lv' := [(5, .ref u), (0, .ref (q 0)), (1, .int v1), (2, .int v2), (3, .int v3), (4, .ref (q 39))]) hx hb dL_offer_23 hl (by decide) rfl (fun ls hl => ?_)
  refine lv_iconst (v := 3) hx hb dL_offer_25 (by decide) ?_
  exact xreth hx hb hr hlocks (xkeep hP h5) (xkeepS h4 h5) dL_offer_26
abbrev r_L_drop : Room := { frames := 7, cells := 1, slots := 6, locals := 112 }
set_option maxHeartbeats 4000000 in
set_option maxRecDepth 100000 in
theorem h_drop_ok (l : Launch) (hl0 : l.stackTraces = false) (D : va_G) (q : Nat → Nat) (k : Nat → ClassId) (sz : Nat) (a b : xT) (o : Nat → Int64) (v1 : Int32) (r : Int32) (a1 : xT) (hN : f_X4_drop a v1 = some (.inr (r, a1))) : xMet l yL_drop (.codeWith yL_drop cL_drop 4 (some .int) [(0, 16, 19, 13)]) r_L_drop (xPcH D q k sz a b o [.ref (q 0), .int v1, .ref (q 39)]) (xQh D q k a b o 0 a1 (vp_updL o 0 (if r = 0 then 0 else 1))) 1 6 (va_A (xw q k a b o) sz) := by
  refine xMet.ofWW (by decide) ?_
  intro p e s m args below meth c hx hb hml hr hlocks hnm htb hv
  obtain ⟨rfl, hsz, hP, hD, hG, hst, hNc⟩ := hv
  subst hsz
  have hown : s.vm.findClass RL = some m.cls := findClass_of_methodNamed hnm
  have hK := hG.1
  have hE := hG.2.1
  have hl := lv_entry ([.ref (q 0), .int v1, .ref (q 39)]) (n := 4) (Nat.le_of_ble_eq_true rfl)
  rw [lg_entry_eq]
  generalize (lg_sl ([.ref (q 0), .int v1, .ref (q 39)]) ++ List.replicate (4 - (lg_sl ([.ref (q 0), .int v1, .ref (q 39)])).length) Slot.unset).toArray = ls at hl ⊢
  have hl : lv_has ls 4 [(0, .ref (q 0)), (1, .int v1), (2, .ref (q 39))] := hl
  have hD := hD.self (sz := s.heap.size)
  have hS : va_S (va_A (xw q k a b o) s.heap.size) s.heap s.heap [] := va_S.rf
  have hA : ∀ u, s.heap.size ≤ u → va_A (xw q k a b o) s.heap.size u := fun u h => Or.inr h
  refine lv_aload_n hx hb dL_drop_0 rfl (lv_at hl 2 rfl) ?_
  refine lv_iconst (v := 0) hx hb dL_drop_1 (by decide) ?_
  refine lv_aload_n hx hb dL_drop_2 rfl (lv_at hl 0 rfl) ?_
  refine lv_iload_n hx hb dL_drop_3 rfl (lv_at hl 1 rfl) ?_
  refine xgo_m (v := some (.int r)) (a1 := a1) (b1 := b) (xrunV (C := RX4) (As := [.int v1]) (rest := [.int 0, .ref (q 39)]) (xfixm fx_X4_drop hx hb hml hown (by decide) (by decide) (by decide) (by decide)) hE ml_L_52 wi_X4_drop wz_X4_drop wc_X4_drop wn_X4 (c_X4_drop l hl0 D q k _ a b o v1 _ hN) (va_recv (q := (RX4, TX4, 4)) (ci := 4) (q0 := 0) hK hP rfl rfl) (xpreTm hP hD hG hst) rfl rfl hl.1 rfl (lv_room (Nat.le_of_ble_eq_true rfl)) dL_drop_4) hD hS hA (fun H locs hP hD hS => ?_)
  refine lv_if_eq hx hb dL_drop_7 rfl (fun hc => ?_) (fun hc => ?_)
  · rw [if_pos hc]
    refine lv_lconst (v := 0) hx hb dL_drop_14 (by decide) ?_
    refine va_last hx hb hK hP hD hS 39 2 rfl rfl xin01 dL_drop_15 (fun H locs hP hD hS => ?_)
    rw [xw_o] at hP hD
    refine lv_goto hx hb dL_drop_16 rfl ?_
    refine lv_iconst (v := 0) hx hb dL_drop_22 (by decide) ?_
    refine W.widen (k := 1) (n := 6) (by decide) (by decide) ?_
    exact xreth hx hb hr hlocks hP hS dL_drop_23
  · rw [if_neg hc]
    refine lv_lconst (v := 1) hx hb dL_drop_10 (by decide) ?_
    refine lv_goto hx hb dL_drop_11 rfl ?_
    refine va_last hx hb hK hP hD hS 39 2 rfl rfl xin01 dL_drop_15 (fun H locs hP hD hS => ?_)
    rw [xw_o] at hP hD
    refine lv_goto hx hb dL_drop_16 rfl ?_
    refine lv_iconst (v := 0) hx hb dL_drop_22 (by decide) ?_
    refine W.widen (k := 1) (n := 6) (by decide) (by decide) ?_
    exact xreth hx hb hr hlocks hP hS dL_drop_23
set_option maxHeartbeats 4000000 in
set_option maxRecDepth 100000 in
theorem h_drop_e1 (l : Launch) (hl0 : l.stackTraces = false) (D : va_G) (q : Nat → Nat) (k : Nat → ClassId) (sz : Nat) (a b : xT) (o : Nat → Int64) (v1 : Int32) (hN : f_X4_drop a v1 = some (.inl "java/lang/IllegalArgumentException")) : xMet l yL_drop (.codeWith yL_drop cL_drop 4 (some .int) [(0, 16, 19, 13)]) r_L_drop (xPcH D q k sz a b o [.ref (q 0), .int v1, .ref (q 39)]) (xQh D q k a b o 1 a o) 1 6 (va_A (xw q k a b o) sz) := by
  refine xMet.ofWW (by decide) ?_
  intro p e s m args below meth c hx hb hml hr hlocks hnm htb hv
  obtain ⟨rfl, hsz, hP, hD, hG, hst, hNc⟩ := hv
  subst hsz
  have hown : s.vm.findClass RL = some m.cls := findClass_of_methodNamed hnm
  have hK := hG.1
  have hE := hG.2.1
  have hl := lv_entry ([.ref (q 0), .int v1, .ref (q 39)]) (n := 4) (Nat.le_of_ble_eq_true rfl)
  rw [lg_entry_eq]
  generalize (lg_sl ([.ref (q 0), .int v1, .ref (q 39)]) ++ List.replicate (4 - (lg_sl ([.ref (q 0), .int v1, .ref (q 39)])).length) Slot.unset).toArray = ls at hl ⊢
  have hl : lv_has ls 4 [(0, .ref (q 0)), (1, .int v1), (2, .ref (q 39))] := hl
  have hD := hD.self (sz := s.heap.size)
  have hS : va_S (va_A (xw q k a b o) s.heap.size) s.heap s.heap [] := va_S.rf
  have hA : ∀ u, s.heap.size ≤ u → va_A (xw q k a b o) s.heap.size u := fun u h => Or.inr h
  refine lv_aload_n hx hb dL_drop_0 rfl (lv_at hl 2 rfl) ?_
  refine lv_iconst (v := 0) hx hb dL_drop_1 (by decide) ?_
  refine lv_aload_n hx hb dL_drop_2 rfl (lv_at hl 0 rfl) ?_
  refine lv_iload_n hx hb dL_drop_3 rfl (lv_at hl 1 rfl) ?_
  refine xgo_tm (E := "java/lang/IllegalArgumentException") (xrunV (C := RX4) (As := [.int v1]) (rest := [.int 0, .ref (q 39)]) (xfixm fx_X4_drop hx hb hml hown (by decide) (by decide) (by decide) (by decide)) hE ml_L_52 wi_X4_drop wz_X4_drop wc_X4_drop wn_X4 (c_X4_drop l hl0 D q k _ a b o v1 _ hN) (va_recv (q := (RX4, TX4, 4)) (ci := 4) (q0 := 0) hK hP rfl rfl) (xpreTm hP hD hG hst) rfl rfl hl.1 rfl (lv_room (Nat.le_of_ble_eq_true rfl)) dL_drop_4) (fun u H1 ce h1 h2 h3 h4 h5 => ?_)
  refine xcatch (hpc := 19) h1 h2 h3 (fun pl hpl => xCatQ.cat _ _ (by rw [htb]; exact xrowY hpl hown hE kl_L_13 wq_IllegalArgumentException h3 (by decide) (by decide))) ?_
  refine lv_astore_n (lv' := [(3, .ref u), (0, .ref (q 0)), (1, .int v1), (2, .ref (q 39))]) hx hb dL_drop_19 rfl hl (by decide) rfl (fun ls hl => ?_)
  refine lv_iconst (v := 1) hx hb dL_drop_20 (by decide) ?_
  exact xreth hx hb hr hlocks (xkeep hP h5) (xkeepS h4 h5) dL_drop_21
abbrev r_L_delay : Room := { frames := 9, cells := 1, slots := 6, locals := 156 }
set_option maxHeartbeats 4000000 in
set_option maxRecDepth 100000 in
theorem h_delay_ok (l : Launch) (hl0 : l.stackTraces = false) (D : va_G) (q : Nat → Nat) (k : Nat → ClassId) (sz : Nat) (a b : xT) (o : Nat → Int64) (v1 : Int32) (r : Int32) (hN : f_X4_delay a v1 = some (.inr r)) : xMet l yL_delay (.codeWith yL_delay cL_delay 4 (some .int) [(0, 9, 12, 13)]) r_L_delay (xPcH D q k sz a b o [.ref (q 0), .int v1, .ref (q 39)]) (xQh D q k a b o 0 a (vp_updL o 0 r.toInt64)) 1 6 (va_A (xw q k a b o) sz) := by
  refine xMet.ofWW (by decide) ?_
  intro p e s m args below meth c hx hb hml hr hlocks hnm htb hv
  obtain ⟨rfl, hsz, hP, hD, hG, hst, hNc⟩ := hv
  subst hsz
  have hown : s.vm.findClass RL = some m.cls := findClass_of_methodNamed hnm
  have hK := hG.1
  have hE := hG.2.1
  have hl := lv_entry ([.ref (q 0), .int v1, .ref (q 39)]) (n := 4) (Nat.le_of_ble_eq_true rfl)
  rw [lg_entry_eq]
  generalize (lg_sl ([.ref (q 0), .int v1, .ref (q 39)]) ++ List.replicate (4 - (lg_sl ([.ref (q 0), .int v1, .ref (q 39)])).length) Slot.unset).toArray = ls at hl ⊢
  have hl : lv_has ls 4 [(0, .ref (q 0)), (1, .int v1), (2, .ref (q 39))] := hl
  have hD := hD.self (sz := s.heap.size)
  have hS : va_S (va_A (xw q k a b o) s.heap.size) s.heap s.heap [] := va_S.rf
  have hA : ∀ u, s.heap.size ≤ u → va_A (xw q k a b o) s.heap.size u := fun u h => Or.inr h
  refine lv_aload_n hx hb dL_delay_0 rfl (lv_at hl 2 rfl) ?_
  refine lv_iconst (v := 0) hx hb dL_delay_1 (by decide) ?_
  refine lv_aload_n hx hb dL_delay_2 rfl (lv_at hl 0 rfl) ?_
  refine lv_iload_n hx hb dL_delay_3 rfl (lv_at hl 1 rfl) ?_
  refine xgo_r (v := some (.int r)) (xrunV (C := RX4) (As := [.int v1]) (rest := [.int 0, .ref (q 39)]) (xfixm fx_X4_delay hx hb hml hown (by decide) (by decide) (by decide) (by decide)) hE ml_L_55 wi_X4_delay wz_X4_delay wc_X4_delay wn_X4 (c_X4_delay l hl0 D q k a b o v1 _ hN) (va_recv (q := (RX4, TX4, 4)) (ci := 4) (q0 := 0) hK hP rfl rfl) (xpreT hP hD hG hst) rfl rfl hl.1 rfl (lv_room (Nat.le_of_ble_eq_true rfl)) dL_delay_4) ?_
  refine lv_i2l (v := r.toInt64) hx hb dL_delay_7 rfl ?_
  refine va_last hx hb hK hP hD hS 39 2 rfl rfl xin01 dL_delay_8 (fun H locs hP hD hS => ?_)
  rw [xw_o] at hP hD
  refine lv_goto hx hb dL_delay_9 rfl ?_
  refine lv_iconst (v := 0) hx hb dL_delay_15 (by decide) ?_
  refine W.widen (k := 1) (n := 6) (by decide) (by decide) ?_
  exact xreth hx hb hr hlocks hP hS dL_delay_16
set_option maxHeartbeats 4000000 in
set_option maxRecDepth 100000 in
theorem h_delay_e1 (l : Launch) (hl0 : l.stackTraces = false) (D : va_G) (q : Nat → Nat) (k : Nat → ClassId) (sz : Nat) (a b : xT) (o : Nat → Int64) (v1 : Int32) (hN : f_X4_delay a v1 = some (.inl "java/lang/IllegalArgumentException")) : xMet l yL_delay (.codeWith yL_delay cL_delay 4 (some .int) [(0, 9, 12, 13)]) r_L_delay (xPcH D q k sz a b o [.ref (q 0), .int v1, .ref (q 39)]) (xQh D q k a b o 1 a o) 1 6 (va_A (xw q k a b o) sz) := by
  refine xMet.ofWW (by decide) ?_
  intro p e s m args below meth c hx hb hml hr hlocks hnm htb hv
  obtain ⟨rfl, hsz, hP, hD, hG, hst, hNc⟩ := hv
  subst hsz
  have hown : s.vm.findClass RL = some m.cls := findClass_of_methodNamed hnm
  have hK := hG.1
  have hE := hG.2.1
  have hl := lv_entry ([.ref (q 0), .int v1, .ref (q 39)]) (n := 4) (Nat.le_of_ble_eq_true rfl)
  rw [lg_entry_eq]
  generalize (lg_sl ([.ref (q 0), .int v1, .ref (q 39)]) ++ List.replicate (4 - (lg_sl ([.ref (q 0), .int v1, .ref (q 39)])).length) Slot.unset).toArray = ls at hl ⊢
  have hl : lv_has ls 4 [(0, .ref (q 0)), (1, .int v1), (2, .ref (q 39))] := hl
  have hD := hD.self (sz := s.heap.size)
  have hS : va_S (va_A (xw q k a b o) s.heap.size) s.heap s.heap [] := va_S.rf
  have hA : ∀ u, s.heap.size ≤ u → va_A (xw q k a b o) s.heap.size u := fun u h => Or.inr h
  refine lv_aload_n hx hb dL_delay_0 rfl (lv_at hl 2 rfl) ?_
  refine lv_iconst (v := 0) hx hb dL_delay_1 (by decide) ?_
  refine lv_aload_n hx hb dL_delay_2 rfl (lv_at hl 0 rfl) ?_
  refine lv_iload_n hx hb dL_delay_3 rfl (lv_at hl 1 rfl) ?_
  refine xgo_t (E := "java/lang/IllegalArgumentException") (xrunV (C := RX4) (As := [.int v1]) (rest := [.int 0, .ref (q 39)]) (xfixm fx_X4_delay hx hb hml hown (by decide) (by decide) (by decide) (by decide)) hE ml_L_55 wi_X4_delay wz_X4_delay wc_X4_delay wn_X4 (c_X4_delay l hl0 D q k a b o v1 _ hN) (va_recv (q := (RX4, TX4, 4)) (ci := 4) (q0 := 0) hK hP rfl rfl) (xpreT hP hD hG hst) rfl rfl hl.1 rfl (lv_room (Nat.le_of_ble_eq_true rfl)) dL_delay_4) (fun u H1 ce h1 h2 h3 h4 h5 => ?_)
  refine xcatch (hpc := 12) h1 h2 h3 (fun pl hpl => xCatQ.cat _ _ (by rw [htb]; exact xrowY hpl hown hE kl_L_13 wq_IllegalArgumentException h3 (by decide) (by decide))) ?_
  refine lv_astore_n (lv' := [(3, .ref u), (0, .ref (q 0)), (1, .int v1), (2, .ref (q 39))]) hx hb dL_delay_12 rfl hl (by decide) rfl (fun ls hl => ?_)
  refine lv_iconst (v := 1) hx hb dL_delay_13 (by decide) ?_
  exact xreth hx hb hr hlocks (xkeep hP h5) (xkeepS h4 h5) dL_delay_14
abbrev r_L_owned : Room := { frames := 9, cells := 1, slots := 6, locals := 153 }
set_option maxHeartbeats 4000000 in
set_option maxRecDepth 100000 in
theorem h_owned_ok (l : Launch) (hl0 : l.stackTraces = false) (D : va_G) (q : Nat → Nat) (k : Nat → ClassId) (sz : Nat) (a b : xT) (o : Nat → Int64) (v1 : Int32) (r : Int32) (hN : f_X4_owned a v1 = some (.inr r)) : xMet l yL_owned (.codeWith yL_owned cL_owned 4 (some .int) [(0, 9, 12, 13)]) r_L_owned (xPcH D q k sz a b o [.ref (q 0), .int v1, .ref (q 39)]) (xQh D q k a b o 0 a (vp_updL o 0 r.toInt64)) 1 6 (va_A (xw q k a b o) sz) := by
  refine xMet.ofWW (by decide) ?_
  intro p e s m args below meth c hx hb hml hr hlocks hnm htb hv
  obtain ⟨rfl, hsz, hP, hD, hG, hst, hNc⟩ := hv
  subst hsz
  have hown : s.vm.findClass RL = some m.cls := findClass_of_methodNamed hnm
  have hK := hG.1
  have hE := hG.2.1
  have hl := lv_entry ([.ref (q 0), .int v1, .ref (q 39)]) (n := 4) (Nat.le_of_ble_eq_true rfl)
  rw [lg_entry_eq]
  generalize (lg_sl ([.ref (q 0), .int v1, .ref (q 39)]) ++ List.replicate (4 - (lg_sl ([.ref (q 0), .int v1, .ref (q 39)])).length) Slot.unset).toArray = ls at hl ⊢
  have hl : lv_has ls 4 [(0, .ref (q 0)), (1, .int v1), (2, .ref (q 39))] := hl
  have hD := hD.self (sz := s.heap.size)
  have hS : va_S (va_A (xw q k a b o) s.heap.size) s.heap s.heap [] := va_S.rf
  have hA : ∀ u, s.heap.size ≤ u → va_A (xw q k a b o) s.heap.size u := fun u h => Or.inr h
  refine lv_aload_n hx hb dL_owned_0 rfl (lv_at hl 2 rfl) ?_
  refine lv_iconst (v := 0) hx hb dL_owned_1 (by decide) ?_
  refine lv_aload_n hx hb dL_owned_2 rfl (lv_at hl 0 rfl) ?_
  refine lv_iload_n hx hb dL_owned_3 rfl (lv_at hl 1 rfl) ?_
  refine xgo_r (v := some (.int r)) (xrunV (C := RX4) (As := [.int v1]) (rest := [.int 0, .ref (q 39)]) (xfixm fx_X4_owned hx hb hml hown (by decide) (by decide) (by decide) (by decide)) hE ml_L_58 wi_X4_owned wz_X4_owned wc_X4_owned wn_X4 (c_X4_owned l hl0 D q k a b o v1 _ hN) (va_recv (q := (RX4, TX4, 4)) (ci := 4) (q0 := 0) hK hP rfl rfl) (xpreT hP hD hG hst) rfl rfl hl.1 rfl (lv_room (Nat.le_of_ble_eq_true rfl)) dL_owned_4) ?_
  refine lv_i2l (v := r.toInt64) hx hb dL_owned_7 rfl ?_
  refine va_last hx hb hK hP hD hS 39 2 rfl rfl xin01 dL_owned_8 (fun H locs hP hD hS => ?_)
  rw [xw_o] at hP hD
  refine lv_goto hx hb dL_owned_9 rfl ?_
  refine lv_iconst (v := 0) hx hb dL_owned_15 (by decide) ?_
  refine W.widen (k := 1) (n := 6) (by decide) (by decide) ?_
  exact xreth hx hb hr hlocks hP hS dL_owned_16
set_option maxHeartbeats 4000000 in
set_option maxRecDepth 100000 in
theorem h_owned_e1 (l : Launch) (hl0 : l.stackTraces = false) (D : va_G) (q : Nat → Nat) (k : Nat → ClassId) (sz : Nat) (a b : xT) (o : Nat → Int64) (v1 : Int32) (hN : f_X4_owned a v1 = some (.inl "java/lang/IllegalArgumentException")) : xMet l yL_owned (.codeWith yL_owned cL_owned 4 (some .int) [(0, 9, 12, 13)]) r_L_owned (xPcH D q k sz a b o [.ref (q 0), .int v1, .ref (q 39)]) (xQh D q k a b o 1 a o) 1 6 (va_A (xw q k a b o) sz) := by
  refine xMet.ofWW (by decide) ?_
  intro p e s m args below meth c hx hb hml hr hlocks hnm htb hv
  obtain ⟨rfl, hsz, hP, hD, hG, hst, hNc⟩ := hv
  subst hsz
  have hown : s.vm.findClass RL = some m.cls := findClass_of_methodNamed hnm
  have hK := hG.1
  have hE := hG.2.1
  have hl := lv_entry ([.ref (q 0), .int v1, .ref (q 39)]) (n := 4) (Nat.le_of_ble_eq_true rfl)
  rw [lg_entry_eq]
  generalize (lg_sl ([.ref (q 0), .int v1, .ref (q 39)]) ++ List.replicate (4 - (lg_sl ([.ref (q 0), .int v1, .ref (q 39)])).length) Slot.unset).toArray = ls at hl ⊢
  have hl : lv_has ls 4 [(0, .ref (q 0)), (1, .int v1), (2, .ref (q 39))] := hl
  have hD := hD.self (sz := s.heap.size)
  have hS : va_S (va_A (xw q k a b o) s.heap.size) s.heap s.heap [] := va_S.rf
  have hA : ∀ u, s.heap.size ≤ u → va_A (xw q k a b o) s.heap.size u := fun u h => Or.inr h
  refine lv_aload_n hx hb dL_owned_0 rfl (lv_at hl 2 rfl) ?_
  refine lv_iconst (v := 0) hx hb dL_owned_1 (by decide) ?_
  refine lv_aload_n hx hb dL_owned_2 rfl (lv_at hl 0 rfl) ?_
  refine lv_iload_n hx hb dL_owned_3 rfl (lv_at hl 1 rfl) ?_
  refine xgo_t (E := "java/lang/IllegalArgumentException") (xrunV (C := RX4) (As := [.int v1]) (rest := [.int 0, .ref (q 39)]) (xfixm fx_X4_owned hx hb hml hown (by decide) (by decide) (by decide) (by decide)) hE ml_L_58 wi_X4_owned wz_X4_owned wc_X4_owned wn_X4 (c_X4_owned l hl0 D q k a b o v1 _ hN) (va_recv (q := (RX4, TX4, 4)) (ci := 4) (q0 := 0) hK hP rfl rfl) (xpreT hP hD hG hst) rfl rfl hl.1 rfl (lv_room (Nat.le_of_ble_eq_true rfl)) dL_owned_4) (fun u H1 ce h1 h2 h3 h4 h5 => ?_)
  refine xcatch (hpc := 12) h1 h2 h3 (fun pl hpl => xCatQ.cat _ _ (by rw [htb]; exact xrowY hpl hown hE kl_L_13 wq_IllegalArgumentException h3 (by decide) (by decide))) ?_
  refine lv_astore_n (lv' := [(3, .ref u), (0, .ref (q 0)), (1, .int v1), (2, .ref (q 39))]) hx hb dL_owned_12 rfl hl (by decide) rfl (fun ls hl => ?_)
  refine lv_iconst (v := 1) hx hb dL_owned_13 (by decide) ?_
  exact xreth hx hb hr hlocks (xkeep hP h5) (xkeepS h4 h5) dL_owned_14
abbrev r_L_entry : Room := { frames := 7, cells := 1, slots := 6, locals := 112 }
set_option maxHeartbeats 4000000 in
set_option maxRecDepth 100000 in
theorem h_entry_ok (l : Launch) (hl0 : l.stackTraces = false) (D : va_G) (q : Nat → Nat) (k : Nat → ClassId) (sz : Nat) (a b : xT) (o : Nat → Int64) (v1 : Int32) (v2 : Int32) (r : Int32) (hN : f_X4_entry a v1 v2 = some (.inr r)) : xMet l yL_entry (.codeWith yL_entry cL_entry 5 (some .int) [(0, 10, 13, 64), (0, 10, 17, 13)]) r_L_entry (xPcH D q k sz a b o [.ref (q 0), .int v1, .int v2, .ref (q 39)]) (xQh D q k a b o 0 a (vp_updL o 0 r.toInt64)) 1 6 (va_A (xw q k a b o) sz) := by
  refine xMet.ofWW (by decide) ?_
  intro p e s m args below meth c hx hb hml hr hlocks hnm htb hv
  obtain ⟨rfl, hsz, hP, hD, hG, hst, hNc⟩ := hv
  subst hsz
  have hown : s.vm.findClass RL = some m.cls := findClass_of_methodNamed hnm
  have hK := hG.1
  have hE := hG.2.1
  have hl := lv_entry ([.ref (q 0), .int v1, .int v2, .ref (q 39)]) (n := 5) (Nat.le_of_ble_eq_true rfl)
  rw [lg_entry_eq]
  generalize (lg_sl ([.ref (q 0), .int v1, .int v2, .ref (q 39)]) ++ List.replicate (5 - (lg_sl ([.ref (q 0), .int v1, .int v2, .ref (q 39)])).length) Slot.unset).toArray = ls at hl ⊢
  have hl : lv_has ls 5 [(0, .ref (q 0)), (1, .int v1), (2, .int v2), (3, .ref (q 39))] := hl
  have hD := hD.self (sz := s.heap.size)
  have hS : va_S (va_A (xw q k a b o) s.heap.size) s.heap s.heap [] := va_S.rf
  have hA : ∀ u, s.heap.size ≤ u → va_A (xw q k a b o) s.heap.size u := fun u h => Or.inr h
  refine lv_aload_n hx hb dL_entry_0 rfl (lv_at hl 3 rfl) ?_
  refine lv_iconst (v := 0) hx hb dL_entry_1 (by decide) ?_
  refine lv_aload_n hx hb dL_entry_2 rfl (lv_at hl 0 rfl) ?_
  refine lv_iload_n hx hb dL_entry_3 rfl (lv_at hl 1 rfl) ?_
  refine lv_iload_n hx hb dL_entry_4 rfl (lv_at hl 2 rfl) ?_
  refine xgo_r (v := some (.int r)) (xrunV (C := RX4) (As := [.int v1, .int v2]) (rest := [.int 0, .ref (q 39)]) (xfixm fx_X4_entry hx hb hml hown (by decide) (by decide) (by decide) (by decide)) hE ml_L_61 wi_X4_entry wz_X4_entry wc_X4_entry wn_X4 (c_X4_entry l hl0 D q k a b o v1 v2 _ hN) (va_recv (q := (RX4, TX4, 4)) (ci := 4) (q0 := 0) hK hP rfl rfl) (xpreT hP hD hG hst) rfl rfl hl.1 rfl (lv_room (Nat.le_of_ble_eq_true rfl)) dL_entry_5) ?_
  refine lv_i2l (v := r.toInt64) hx hb dL_entry_8 rfl ?_
  refine va_last hx hb hK hP hD hS 39 2 rfl rfl xin01 dL_entry_9 (fun H locs hP hD hS => ?_)
  rw [xw_o] at hP hD
  refine lv_goto hx hb dL_entry_10 rfl ?_
  refine lv_iconst (v := 0) hx hb dL_entry_21 (by decide) ?_
  refine W.widen (k := 1) (n := 6) (by decide) (by decide) ?_
  exact xreth hx hb hr hlocks hP hS dL_entry_22
set_option maxHeartbeats 4000000 in
set_option maxRecDepth 100000 in
theorem h_entry_e1 (l : Launch) (hl0 : l.stackTraces = false) (D : va_G) (q : Nat → Nat) (k : Nat → ClassId) (sz : Nat) (a b : xT) (o : Nat → Int64) (v1 : Int32) (v2 : Int32) (hN : f_X4_entry a v1 v2 = some (.inl "java/lang/IndexOutOfBoundsException")) : xMet l yL_entry (.codeWith yL_entry cL_entry 5 (some .int) [(0, 10, 13, 64), (0, 10, 17, 13)]) r_L_entry (xPcH D q k sz a b o [.ref (q 0), .int v1, .int v2, .ref (q 39)]) (xQh D q k a b o 1 a o) 1 6 (va_A (xw q k a b o) sz) := by
  refine xMet.ofWW (by decide) ?_
  intro p e s m args below meth c hx hb hml hr hlocks hnm htb hv
  obtain ⟨rfl, hsz, hP, hD, hG, hst, hNc⟩ := hv
  subst hsz
  have hown : s.vm.findClass RL = some m.cls := findClass_of_methodNamed hnm
  have hK := hG.1
  have hE := hG.2.1
  have hl := lv_entry ([.ref (q 0), .int v1, .int v2, .ref (q 39)]) (n := 5) (Nat.le_of_ble_eq_true rfl)
  rw [lg_entry_eq]
  generalize (lg_sl ([.ref (q 0), .int v1, .int v2, .ref (q 39)]) ++ List.replicate (5 - (lg_sl ([.ref (q 0), .int v1, .int v2, .ref (q 39)])).length) Slot.unset).toArray = ls at hl ⊢
  have hl : lv_has ls 5 [(0, .ref (q 0)), (1, .int v1), (2, .int v2), (3, .ref (q 39))] := hl
  have hD := hD.self (sz := s.heap.size)
  have hS : va_S (va_A (xw q k a b o) s.heap.size) s.heap s.heap [] := va_S.rf
  have hA : ∀ u, s.heap.size ≤ u → va_A (xw q k a b o) s.heap.size u := fun u h => Or.inr h
  refine lv_aload_n hx hb dL_entry_0 rfl (lv_at hl 3 rfl) ?_
  refine lv_iconst (v := 0) hx hb dL_entry_1 (by decide) ?_
  refine lv_aload_n hx hb dL_entry_2 rfl (lv_at hl 0 rfl) ?_
  refine lv_iload_n hx hb dL_entry_3 rfl (lv_at hl 1 rfl) ?_
  refine lv_iload_n hx hb dL_entry_4 rfl (lv_at hl 2 rfl) ?_
  refine xgo_t (E := "java/lang/IndexOutOfBoundsException") (xrunV (C := RX4) (As := [.int v1, .int v2]) (rest := [.int 0, .ref (q 39)]) (xfixm fx_X4_entry hx hb hml hown (by decide) (by decide) (by decide) (by decide)) hE ml_L_61 wi_X4_entry wz_X4_entry wc_X4_entry wn_X4 (c_X4_entry l hl0 D q k a b o v1 v2 _ hN) (va_recv (q := (RX4, TX4, 4)) (ci := 4) (q0 := 0) hK hP rfl rfl) (xpreT hP hD hG hst) rfl rfl hl.1 rfl (lv_room (Nat.le_of_ble_eq_true rfl)) dL_entry_5) (fun u H1 ce h1 h2 h3 h4 h5 => ?_)
  refine xcatch (hpc := 13) h1 h2 h3 (fun pl hpl => xCatQ.cat _ _ (by rw [htb]; exact xrowY hpl hown hE kl_L_64 wq_IndexOutOfBoundsException h3 (by decide) (by decide))) ?_
  refine lv_astore (lv' := [(4, .ref u), (0, .ref (q 0)), (1, .int v1), (2, .int v2), (3, .ref (q 39))]) hx hb dL_entry_13 hl (by decide) rfl (fun ls hl => ?_)
  refine lv_iconst (v := 1) hx hb dL_entry_15 (by decide) ?_
  exact xreth hx hb hr hlocks (xkeep hP h5) (xkeepS h4 h5) dL_entry_16
set_option maxHeartbeats 4000000 in
set_option maxRecDepth 100000 in
theorem h_entry_e2 (l : Launch) (hl0 : l.stackTraces = false) (D : va_G) (q : Nat → Nat) (k : Nat → ClassId) (sz : Nat) (a b : xT) (o : Nat → Int64) (v1 : Int32) (v2 : Int32) (hN : f_X4_entry a v1 v2 = some (.inl "java/lang/IllegalArgumentException")) : xMet l yL_entry (.codeWith yL_entry cL_entry 5 (some .int) [(0, 10, 13, 64), (0, 10, 17, 13)]) r_L_entry (xPcH D q k sz a b o [.ref (q 0), .int v1, .int v2, .ref (q 39)]) (xQh D q k a b o 2 a o) 1 6 (va_A (xw q k a b o) sz) := by
  refine xMet.ofWW (by decide) ?_
  intro p e s m args below meth c hx hb hml hr hlocks hnm htb hv
  obtain ⟨rfl, hsz, hP, hD, hG, hst, hNc⟩ := hv
  subst hsz
  have hown : s.vm.findClass RL = some m.cls := findClass_of_methodNamed hnm
  have hK := hG.1
  have hE := hG.2.1
  have hl := lv_entry ([.ref (q 0), .int v1, .int v2, .ref (q 39)]) (n := 5) (Nat.le_of_ble_eq_true rfl)
  rw [lg_entry_eq]
  generalize (lg_sl ([.ref (q 0), .int v1, .int v2, .ref (q 39)]) ++ List.replicate (5 - (lg_sl ([.ref (q 0), .int v1, .int v2, .ref (q 39)])).length) Slot.unset).toArray = ls at hl ⊢
  have hl : lv_has ls 5 [(0, .ref (q 0)), (1, .int v1), (2, .int v2), (3, .ref (q 39))] := hl
  have hD := hD.self (sz := s.heap.size)
  have hS : va_S (va_A (xw q k a b o) s.heap.size) s.heap s.heap [] := va_S.rf
  have hA : ∀ u, s.heap.size ≤ u → va_A (xw q k a b o) s.heap.size u := fun u h => Or.inr h
  refine lv_aload_n hx hb dL_entry_0 rfl (lv_at hl 3 rfl) ?_
  refine lv_iconst (v := 0) hx hb dL_entry_1 (by decide) ?_
  refine lv_aload_n hx hb dL_entry_2 rfl (lv_at hl 0 rfl) ?_
  refine lv_iload_n hx hb dL_entry_3 rfl (lv_at hl 1 rfl) ?_
  refine lv_iload_n hx hb dL_entry_4 rfl (lv_at hl 2 rfl) ?_
  refine xgo_t (E := "java/lang/IllegalArgumentException") (xrunV (C := RX4) (As := [.int v1, .int v2]) (rest := [.int 0, .ref (q 39)]) (xfixm fx_X4_entry hx hb hml hown (by decide) (by decide) (by decide) (by decide)) hE ml_L_61 wi_X4_entry wz_X4_entry wc_X4_entry wn_X4 (c_X4_entry l hl0 D q k a b o v1 v2 _ hN) (va_recv (q := (RX4, TX4, 4)) (ci := 4) (q0 := 0) hK hP rfl rfl) (xpreT hP hD hG hst) rfl rfl hl.1 rfl (lv_room (Nat.le_of_ble_eq_true rfl)) dL_entry_5) (fun u H1 ce h1 h2 h3 h4 h5 => ?_)
  refine xcatch (hpc := 17) h1 h2 h3 (fun pl hpl => xCatQ.cat _ _ (by rw [htb]; exact xrowN hpl hown hE kl_L_64 (hNc ("java/lang/IllegalArgumentException", "java/lang/IndexOutOfBoundsException") (by decide)) h3 (by decide) (by decide) (xrowY hpl hown hE kl_L_13 wq_IllegalArgumentException h3 (by decide) (by decide)))) ?_
  refine lv_astore (lv' := [(4, .ref u), (0, .ref (q 0)), (1, .int v1), (2, .int v2), (3, .ref (q 39))]) hx hb dL_entry_17 hl (by decide) rfl (fun ls hl => ?_)
  refine lv_iconst (v := 2) hx hb dL_entry_19 (by decide) ?_
  exact xreth hx hb hr hlocks (xkeep hP h5) (xkeepS h4 h5) dL_entry_20
