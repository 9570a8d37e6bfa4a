abbrev r_X4_checkPlannable : Room := { frames := 6, cells := 1, slots := 6, locals := 90 }
noncomputable def g_X4_checkPlannable_0  (a : xT) (v1 : Int32) : Option (Option String) := ((f_X1_isPlannable a v1).bind fun r5 => (if r5 = 0 then some (some "java/lang/IllegalStateException") else some none))
set_option maxHeartbeats 4000000 in
set_option maxRecDepth 100000 in
theorem t_X4_checkPlannable_0 {p : Program} {l : Launch} {e : Env} {s : State} {m : MethodId} {args : Array Value} {below : List Frame} {meth : Method} {c : Code} {D : va_G} {q : Nat → Nat} {k : Nat → ClassId} {a b : xT} {o : Nat → Int64} {y : Option String} (C : xCx p s m meth c cX4_checkPlannable 2 none RX4 D k) (hl0 : l.stackTraces = false) (hst : xSt s) (hP : va_P D vwCl (xw q k a b o) s.heap) (hD : va_D (fun _ => True) (xw q k a b o))  {v1 : Int32} {ls : Array Slot} (hl : lv_has ls 2 [(0, .ref (q 0)), (1, .int v1)]) (hf : g_X4_checkPlannable_0  a v1 = some y) : W p l e r_X4_checkPlannable s m args below meth c s.heap [] 0 0 (xMQ below (xQr (xck y)) args s (xmc (xck y)) (xms (xck y)) (fun _ => False)) (F0 m 0 ls []) := by
  obtain ⟨hx, hb, hml, hr, hlocks, hown, hno, hG⟩ := C
  have hK := hG.1
  have hE := hG.2.1
  unfold g_X4_checkPlannable_0 at hf
  refine lv_aload_n hx hb dX4_checkPlannable_0 rfl (lv_at hl 0 rfl) ?_
  refine va_get (D := D) (ci := 4) (v := .ref (q 2)) (C := RX4) (T := TX4) (N := 4) hx hb (hwX4 hE) (fun _ h => h) hown hK hP 0 rfl rfl 1 (by decide) (hE _ fl_X4_19 rfl _) (fun _ h9 => h9) rfl dX4_checkPlannable_1 ?_
  refine lv_iload_n hx hb dX4_checkPlannable_4 rfl (lv_at hl 1 rfl) ?_
  obtain ⟨r5, hN, hf⟩ := xbind hf
  refine xgo_r (v := some (.int r5)) (xrunV (C := RX1) (As := [.int v1]) (rest := []) (xfixm fx_X1_isPlannable hx hb hml hown (by decide) (by decide) (by decide) (by decide)) hE ml_X4_214 wi_X1_isPlannable wz_X1_isPlannable wc_X1_isPlannable wn_X1 (c_X1_isPlannable l D q k a b o v1 _ hN) (va_recv (q := (RX1, TX1, 8)) (ci := 1) (q0 := 2) hK hP rfl rfl) (xpre hP hD hG) rfl rfl hl.1 rfl (lv_room (Nat.le_of_ble_eq_true rfl)) dX4_checkPlannable_5) ?_
  refine lv_if_ne hx hb dX4_checkPlannable_8 rfl (fun hc => ?_) (fun hc => ?_)
  · rw [if_neg hc] at hf
    cases hf
    exact xret_v hx hb hr hlocks dX4_checkPlannable_21
  · rw [if_pos hc] at hf
    cases hf
    obtain ⟨sa, hsa⟩ := hG.2.2 (RX4, 217, "cancelled or airborne") (by decide +kernel)
    exact xthrow (own := RX4) (cls := "java/lang/IllegalStateException") (text := "cancelled or airborne") (names := ["java/lang/RuntimeException", "java/lang/Exception"]) (ik := 50) (is := 217) (ic := 54) (sa := sa) hx hb hl0 hown hE hst (by decide +kernel) (by decide +kernel) tw_X4_54 kl_X4_50 wn_IllegalStateException hsa hno hlocks (hl.1.trans hml.symm) dX4_checkPlannable_11 dX4_checkPlannable_14 dX4_checkPlannable_15 dX4_checkPlannable_17 dX4_checkPlannable_20 (by decide) (by decide) (by decide) (by decide) (fun u t h => ⟨u, rfl, h⟩)
noncomputable def f_X4_checkPlannable (a : xT) (v1 : Int32) : Option (Option String) := g_X4_checkPlannable_0 a v1
set_option maxHeartbeats 4000000 in
set_option maxRecDepth 100000 in
theorem c_X4_checkPlannable (l : Launch) (hl0 : l.stackTraces = false) (D : va_G) (q : Nat → Nat) (k : Nat → ClassId) (a b : xT) (o : Nat → Int64) (v1 : Int32) (y : Option String) (hf : f_X4_checkPlannable a v1 = some y) : xMet l yX4_checkPlannable (.code yX4_checkPlannable cX4_checkPlannable 2 none) r_X4_checkPlannable (xPcT D q k a b o [.ref (q 0), .int v1]) (xQr (xck y)) (xmc (xck y)) (xms (xck y)) (fun _ => False) := by
  refine xMet.ofW (by decide) ?_
  intro p e s m args below meth c hx hb hml hr hlocks hnm hme hno hv
  obtain ⟨rfl, hP, hD, hG, hst⟩ := hv
  have hown : s.vm.findClass RX4 = some m.cls := findClass_of_methodNamed hnm
  have hl := lv_entry ([.ref (q 0), .int v1]) (n := 2) (Nat.le_of_ble_eq_true rfl)
  rw [lg_entry_eq]
  generalize (lg_sl ([.ref (q 0), .int v1]) ++ List.replicate (2 - (lg_sl ([.ref (q 0), .int v1])).length) Slot.unset).toArray = ls at hl ⊢
  have hl : lv_has ls 2 [(0, .ref (q 0)), (1, .int v1)] := hl
  exact t_X4_checkPlannable_0 ⟨hx, hb, hml, hr, hlocks, hown, hno, hG⟩ hl0 hst hP hD hl hf
abbrev r_X4_takeOut : Room := { frames := 1, cells := 0, slots := 0, locals := 24 }
noncomputable def g_X4_takeOut_30  (a : xT) (v1 : Int32) (v2 : Int32) (v3 : Int32) : Option (xT) := ((f_X0_add a v2 v1 v3 (-1)).bind fun z38 => some z38)
set_option maxHeartbeats 4000000 in
set_option maxRecDepth 100000 in
theorem t_X4_takeOut_30 {p : Program} {l : Launch} {e : Env} {s : State} {m : MethodId} {args : Array Value} {below : List Frame} {meth : Method} {c : Code} {D : va_G} {q : Nat → Nat} {k : Nat → ClassId} {a b : xT} {o : Nat → Int64} {z : xT} {y : xT} (C : xCx p s m meth c cX4_takeOut 4 none RX4 D k) {H : Heap} {locs : List Loc} (hP : va_P D vwCl (xw q k a b o) H) (hD : va_D (va_A (xw q k z b o) s.heap.size) (xw q k a b o)) (hS : va_S (va_A (xw q k z b o) s.heap.size) s.heap H locs)  {v1 v2 v3 : Int32} {ls : Array Slot} (hl : lv_has ls 4 [(0, .ref (q 0)), (1, .int v1), (2, .int v2), (3, .int v3)]) (hf : g_X4_takeOut_30  a v1 v2 v3 = some y) : W p l e r_X4_takeOut s m args below meth c H locs 0 0 (xMQ below (xQm D q k z b o (.inr (none, y, b))) args s 0 0 (va_A (xw q k z b o) s.heap.size)) (F0 m 30 ls []) := by
  obtain ⟨hx, hb, hml, hr, hlocks, hown, hno, hG⟩ := C
  have hK := hG.1
  have hE := hG.2.1
  have hA : ∀ u, s.heap.size ≤ u → va_A (xw q k z b o) s.heap.size u := fun u h => Or.inr h
  unfold g_X4_takeOut_30 at hf
  refine lv_aload_n hx hb dX4_takeOut_30 rfl (lv_at hl 0 rfl) ?_
  refine va_get (D := D) (ci := 4) (v := .ref (q 4)) (C := RX4) (T := TX4) (N := 4) hx hb (hwX4 hE) (fun _ h => h) hown hK hP 0 rfl rfl 3 (by decide) (hE _ fl_X4_33 rfl _) (fun _ h9 => h9) rfl dX4_takeOut_31 ?_
  refine lv_iload_n hx hb dX4_takeOut_34 rfl (lv_at hl 2 rfl) ?_
  refine lv_iload_n hx hb dX4_takeOut_35 rfl (lv_at hl 1 rfl) ?_
  refine lv_iload_n hx hb dX4_takeOut_36 rfl (lv_at hl 3 rfl) ?_
  refine lv_iconst (v := -1) hx hb dX4_takeOut_37 (by decide) ?_
  obtain ⟨z38, hN, hf⟩ := xbind hf
  refine xgo_m (v := none) (a1 := z38) (b1 := b) (xrunV (C := RX0) (As := [.int v2, .int v1, .int v3, .int (-1)]) (rest := []) (xfixm fx_X0_add hx hb hml hown (by decide) (by decide) (by decide) (by decide)) hE ml_X4_139 wi_X0_add wz_X0_add wc_X0_add wn_X0 (c_X0_add l D q k _ a b o v2 v1 v3 (-1) _ hN) (va_recv (q := (RX0, TX0, 5)) (ci := 0) (q0 := 4) hK hP rfl rfl) (xprem hP hD hG) rfl rfl hl.1 rfl (lv_room (Nat.le_of_ble_eq_true rfl)) dX4_takeOut_38) hD hS hA (fun H locs hP hD hS => ?_)
  cases hf
  exact xretm_v hx hb hr hlocks hP hS dX4_takeOut_41
noncomputable def g_X4_takeOut_20  (a : xT) (v1 : Int32) (v2 : Int32) (v3 : Int32) : Option (xT) := (if xin v1 60 = true then g_X4_takeOut_30  (xs a 6 v1.toNatClampNeg (-1)) v1 v2 v3 else none)
set_option maxHeartbeats 4000000 in
set_option maxRecDepth 100000 in
theorem t_X4_takeOut_20 {p : Program} {l : Launch} {e : Env} {s : State} {m : MethodId} {args : Array Value} {below : List Frame} {meth : Method} {c : Code} {D : va_G} {q : Nat → Nat} {k : Nat → ClassId} {a b : xT} {o : Nat → Int64} {z : xT} {y : xT} (C : xCx p s m meth c cX4_takeOut 4 none RX4 D k) {H : Heap} {locs : List Loc} (hP : va_P D vwCl (xw q k a b o) H) (hD : va_D (va_A (xw q k z b o) s.heap.size) (xw q k a b o)) (hS : va_S (va_A (xw q k z b o) s.heap.size) s.heap H locs)  {v1 v2 v3 : Int32} {ls : Array Slot} (hl : lv_has ls 4 [(0, .ref (q 0)), (1, .int v1), (2, .int v2), (3, .int v3)]) (hf : g_X4_takeOut_20  a v1 v2 v3 = some y) : W p l e r_X4_takeOut s m args below meth c H locs 0 0 (xMQ below (xQm D q k z b o (.inr (none, y, b))) args s 0 0 (va_A (xw q k z b o) s.heap.size)) (F0 m 20 ls []) := by
  obtain ⟨hx, hb, hml, hr, hlocks, hown, hno, hG⟩ := C
  have hK := hG.1
  have hE := hG.2.1
  have hA : ∀ u, s.heap.size ≤ u → va_A (xw q k z b o) s.heap.size u := fun u h => Or.inr h
  unfold g_X4_takeOut_20 at hf
  refine lv_aload_n hx hb dX4_takeOut_20 rfl (lv_at hl 0 rfl) ?_
  refine va_get (D := D) (ci := 4) (v := .ref (q 2)) (C := RX4) (T := TX4) (N := 4) hx hb (hwX4 hE) (fun _ h => h) hown hK hP 0 rfl rfl 1 (by decide) (hE _ fl_X4_19 rfl _) (fun _ h9 => h9) rfl dX4_takeOut_21 ?_
  refine va_get (D := D) (ci := 1) (v := .ref (q 11)) (C := RX1) (T := TX1) (N := 8) hx hb (hwX1 hE) (fun _ h => h) hown hK hP 2 rfl rfl 3 (by decide) (hE _ fl_X4_90 rfl _) (fun _ h9 => h9) rfl dX4_takeOut_24 ?_
  refine lv_iload_n hx hb dX4_takeOut_27 rfl (lv_at hl 1 rfl) ?_
  refine lv_iconst (v := -1) hx hb dX4_takeOut_28 (by decide) ?_
  obtain ⟨hin, hf⟩ := xguard hf
  refine va_iast hx hb hK hP hD hS 11 0 rfl rfl hin dX4_takeOut_29 (fun H locs hP hD hS => ?_)
  rw [xw_s11] at hP hD
  exact t_X4_takeOut_30 ⟨hx, hb, hml, hr, hlocks, hown, hno, hG⟩ hP hD hS  (lv_sub hl [0, 1, 2, 3] rfl) hf
noncomputable def g_X4_takeOut_0  (a : xT) (v1 : Int32) (v2 : Int32) : Option (xT) := (if xin v1 60 = true then (if xin (a.1 6 v1.toNatClampNeg) 240 = true then g_X4_takeOut_20  (xs a 2 (a.1 6 v1.toNatClampNeg).toNatClampNeg (-1)) v1 v2 (a.1 6 v1.toNatClampNeg) else none) else none)
set_option maxHeartbeats 4000000 in
set_option maxRecDepth 100000 in
theorem t_X4_takeOut_0 {p : Program} {l : Launch} {e : Env} {s : State} {m : MethodId} {args : Array Value} {below : List Frame} {meth : Method} {c : Code} {D : va_G} {q : Nat → Nat} {k : Nat → ClassId} {a b : xT} {o : Nat → Int64} {z : xT} {y : xT} (C : xCx p s m meth c cX4_takeOut 4 none RX4 D k) {H : Heap} {locs : List Loc} (hP : va_P D vwCl (xw q k a b o) H) (hD : va_D (va_A (xw q k z b o) s.heap.size) (xw q k a b o)) (hS : va_S (va_A (xw q k z b o) s.heap.size) s.heap H locs)  {v1 v2 : Int32} {ls : Array Slot} (hl : lv_has ls 4 [(0, .ref (q 0)), (1, .int v1), (2, .int v2)]) (hf : g_X4_takeOut_0  a v1 v2 = some y) : W p l e r_X4_takeOut s m args below meth c H locs 0 0 (xMQ below (xQm D q k z b o (.inr (none, y, b))) args s 0 0 (va_A (xw q k z b o) s.heap.size)) (F0 m 0 ls []) := by
  obtain ⟨hx, hb, hml, hr, hlocks, hown, hno, hG⟩ := C
  have hK := hG.1
  have hE := hG.2.1
  have hA : ∀ u, s.heap.size ≤ u → va_A (xw q k z b o) s.heap.size u := fun u h => Or.inr h
  unfold g_X4_takeOut_0 at hf
  refine lv_aload_n hx hb dX4_takeOut_0 rfl (lv_at hl 0 rfl) ?_
  refine va_get (D := D) (ci := 4) (v := .ref (q 2)) (C := RX4) (T := TX4) (N := 4) hx hb (hwX4 hE) (fun _ h => h) hown hK hP 0 rfl rfl 1 (by decide) (hE _ fl_X4_19 rfl _) (fun _ h9 => h9) rfl dX4_takeOut_1 ?_
  refine va_get (D := D) (ci := 1) (v := .ref (q 11)) (C := RX1) (T := TX1) (N := 8) hx hb (hwX1 hE) (fun _ h => h) hown hK hP 2 rfl rfl 3 (by decide) (hE _ fl_X4_90 rfl _) (fun _ h9 => h9) rfl dX4_takeOut_4 ?_
  refine lv_iload_n hx hb dX4_takeOut_7 rfl (lv_at hl 1 rfl) ?_
  obtain ⟨hin, hf⟩ := xguard hf
  refine va_iald hx hb hK hP 11 0 rfl rfl hin dX4_takeOut_8 ?_
  refine lv_istore_n (lv' := [(3, .int (a.1 6 v1.toNatClampNeg)), (0, .ref (q 0)), (1, .int v1), (2, .int v2)]) hx hb dX4_takeOut_9 rfl hl (by decide) rfl (fun ls hl => ?_)
  refine lv_aload_n hx hb dX4_takeOut_10 rfl (lv_at hl 1 rfl) ?_
  refine va_get (D := D) (ci := 4) (v := .ref (q 1)) (C := RX4) (T := TX4) (N := 4) hx hb (hwX4 hE) (fun _ h => h) hown hK hP 0 rfl rfl 0 (by decide) (hE _ fl_X4_12 rfl _) (fun _ h9 => h9) rfl dX4_takeOut_11 ?_
  refine va_get (D := D) (ci := 3) (v := .ref (q 7)) (C := RX3) (T := TX3) (N := 3) hx hb (hwX3 hE) (fun _ h => h) hown hK hP 1 rfl rfl 2 (by decide) (hE _ fl_X4_100 rfl _) (fun _ h9 => h9) rfl dX4_takeOut_14 ?_
  refine lv_iload_n hx hb dX4_takeOut_17 rfl (lv_at hl 0 rfl) ?_
  refine lv_iconst (v := -1) hx hb dX4_takeOut_18 (by decide) ?_
  obtain ⟨hin, hf⟩ := xguard hf
  refine va_iast hx hb hK hP hD hS 7 0 rfl rfl hin dX4_takeOut_19 (fun H locs hP hD hS => ?_)
  rw [xw_s7] at hP hD
  exact t_X4_takeOut_20 ⟨hx, hb, hml, hr, hlocks, hown, hno, hG⟩ hP hD hS  (lv_sub hl [1, 2, 3, 0] rfl) hf
noncomputable def f_X4_takeOut (a : xT) (v1 : Int32) (v2 : Int32) : Option (xT) := g_X4_takeOut_0 a v1 v2
set_option maxHeartbeats 4000000 in
set_option maxRecDepth 100000 in
theorem c_X4_takeOut (l : Launch) (D : va_G) (q : Nat → Nat) (k : Nat → ClassId) (sz : Nat) (a b : xT) (o : Nat → Int64) (v1 : Int32) (v2 : Int32) (y : xT) (hf : f_X4_takeOut a v1 v2 = some y) : xMet l yX4_takeOut (.code yX4_takeOut cX4_takeOut 4 none) r_X4_takeOut (xPcm D q k sz a b o [.ref (q 0), .int v1, .int v2]) (xQm D q k a b o (.inr (none, y, b))) 0 0 (va_A (xw q k a b o) sz) := by
  refine xMet.ofW (by decide) ?_
  intro p e s m args below meth c hx hb hml hr hlocks hnm hme hno hv
  obtain ⟨rfl, hsz, hP, hD, hG⟩ := hv
  subst hsz
  have hown : s.vm.findClass RX4 = some m.cls := findClass_of_methodNamed hnm
  have hl := lv_entry ([.ref (q 0), .int v1, .int v2]) (n := 4) (Nat.le_of_ble_eq_true rfl)
  rw [lg_entry_eq]
  generalize (lg_sl ([.ref (q 0), .int v1, .int v2]) ++ List.replicate (4 - (lg_sl ([.ref (q 0), .int v1, .int v2])).length) Slot.unset).toArray = ls at hl ⊢
  have hl : lv_has ls 4 [(0, .ref (q 0)), (1, .int v1), (2, .int v2)] := hl
  have hD := hD.self (sz := s.heap.size)
  exact t_X4_takeOut_0 ⟨hx, hb, hml, hr, hlocks, hown, hno, hG⟩ hP hD va_S.rf hl hf
abbrev r_X4_cancel : Room := { frames := 7, cells := 1, slots := 6, locals := 111 }
noncomputable def g_X4_cancel_20  (a : xT) (v1 : Int32) : Option (String ⊕ (Int32 × xT)) := (if xin v1 60 = true then (if (a.1 6 v1.toNatClampNeg) = (-1) then some (.inr (0, a)) else ((f_X4_takeOut a v1 5).bind fun z38 => some (.inr (1, z38)))) else none)
set_option maxHeartbeats 4000000 in
set_option maxRecDepth 100000 in
theorem t_X4_cancel_20 {p : Program} {l : Launch} {e : Env} {s : State} {m : MethodId} {args : Array Value} {below : List Frame} {meth : Method} {c : Code} {D : va_G} {q : Nat → Nat} {k : Nat → ClassId} {a b : xT} {o : Nat → Int64} {z : xT} {y : String ⊕ (Int32 × xT)} (C : xCx p s m meth c cX4_cancel 2 (some .boolean) RX4 D k) (hl0 : l.stackTraces = false) (hst : xSt s) {H : Heap} {locs : List Loc} (hP : va_P D vwCl (xw q k a b o) H) (hD : va_D (va_A (xw q k z b o) s.heap.size) (xw q k a b o)) (hS : va_S (va_A (xw q k z b o) s.heap.size) s.heap H locs)  {v1 : Int32} {ls : Array Slot} (hl : lv_has ls 2 [(0, .ref (q 0)), (1, .int v1)]) (hf : g_X4_cancel_20  a v1 = some y) : W p l e r_X4_cancel s m args below meth c H locs 0 0 (xMQ below (xQm D q k z b o (Sum.map id (fun z => (some (.int z.1), z.2, b)) y)) args s (xmm (Sum.map id (fun z => (some (.int z.1), z.2, b)) y)) (xmn (Sum.map id (fun z => (some (.int z.1), z.2, b)) y)) (xfr q k z b o s.heap.size (Sum.map id (fun z => (some (.int z.1), z.2, b)) y))) (F0 m 20 ls []) := by
  obtain ⟨hx, hb, hml, hr, hlocks, hown, hno, hG⟩ := C
  have hK := hG.1
  have hE := hG.2.1
  have hA : ∀ u, s.heap.size ≤ u → va_A (xw q k z b o) s.heap.size u := fun u h => Or.inr h
  unfold g_X4_cancel_20 at hf
  refine lv_aload_n hx hb dX4_cancel_20 rfl (lv_at hl 0 rfl) ?_
  refine va_get (D := D) (ci := 4) (v := .ref (q 2)) (C := RX4) (T := TX4) (N := 4) hx hb (hwX4 hE) (fun _ h => h) hown hK hP 0 rfl rfl 1 (by decide) (hE _ fl_X4_19 rfl _) (fun _ h9 => h9) rfl dX4_cancel_21 ?_
  refine va_get (D := D) (ci := 1) (v := .ref (q 11)) (C := RX1) (T := TX1) (N := 8) hx hb (hwX1 hE) (fun _ h => h) hown hK hP 2 rfl rfl 3 (by decide) (hE _ fl_X4_90 rfl _) (fun _ h9 => h9) rfl dX4_cancel_24 ?_
  refine lv_iload_n hx hb dX4_cancel_27 rfl (lv_at hl 1 rfl) ?_
  obtain ⟨hin, hf⟩ := xguard hf
  refine va_iald hx hb hK hP 11 0 rfl rfl hin dX4_cancel_28 ?_
  refine lv_iconst (v := -1) hx hb dX4_cancel_29 (by decide) ?_
  refine lv_icmp_ne hx hb dX4_cancel_30 rfl (fun hc => ?_) (fun hc => ?_)
  · rw [if_neg hc] at hf
    refine lv_aload_n hx hb dX4_cancel_35 rfl (lv_at hl 0 rfl) ?_
    refine lv_iload_n hx hb dX4_cancel_36 rfl (lv_at hl 1 rfl) ?_
    refine lv_iconst (v := 5) hx hb dX4_cancel_37 (by decide) ?_
    obtain ⟨z38, hN, hf⟩ := xbind hf
    refine xgo_m (v := none) (a1 := z38) (b1 := b) (xrunV (C := RX4) (As := [.int v1, .int 5]) (rest := []) (xfixm fx_X4_takeOut hx hb hml hown (by decide) (by decide) (by decide) (by decide)) hE ml_X4_112 wi_X4_takeOut wz_X4_takeOut wc_X4_takeOut wn_X4 (c_X4_takeOut l D q k _ a b o v1 5 _ hN) (va_recv (q := (RX4, TX4, 4)) (ci := 4) (q0 := 0) hK hP rfl rfl) (xprem hP hD hG) rfl rfl hl.1 rfl (lv_room (Nat.le_of_ble_eq_true rfl)) dX4_cancel_38) hD hS hA (fun H locs hP hD hS => ?_)
    refine lv_iconst (v := 1) hx hb dX4_cancel_41 (by decide) ?_
    cases hf
    exact xretm_z hx hb hr xz1 hlocks hP hS dX4_cancel_42
  · rw [if_pos hc] at hf
    refine lv_iconst (v := 0) hx hb dX4_cancel_33 (by decide) ?_
    cases hf
    exact xretm_z hx hb hr xz0 hlocks hP hS dX4_cancel_34
noncomputable def g_X4_cancel_0  (z : xT) (v1 : Int32) : Option (String ⊕ (Int32 × xT)) := ((f_X4_checkFlight z v1).bind fun r => Option.elim r (((f_X4_checkPlannable z v1).bind fun r => Option.elim r ((if xin v1 60 = true then g_X4_cancel_20  (xs z 7 v1.toNatClampNeg (vp_nar .boolean 1)) v1 else none)) (fun E => some (.inl E)))) (fun E => some (.inl E)))
set_option maxHeartbeats 4000000 in
set_option maxRecDepth 100000 in
theorem t_X4_cancel_0 {p : Program} {l : Launch} {e : Env} {s : State} {m : MethodId} {args : Array Value} {below : List Frame} {meth : Method} {c : Code} {D : va_G} {q : Nat → Nat} {k : Nat → ClassId} {b : xT} {o : Nat → Int64} {z : xT} {y : String ⊕ (Int32 × xT)} (C : xCx p s m meth c cX4_cancel 2 (some .boolean) RX4 D k) (hl0 : l.stackTraces = false) (hst : xSt s) (hP : va_P D vwCl (xw q k z b o) s.heap) (hD : va_D (va_A (xw q k z b o) s.heap.size) (xw q k z b o))  {v1 : Int32} {ls : Array Slot} (hl : lv_has ls 2 [(0, .ref (q 0)), (1, .int v1)]) (hf : g_X4_cancel_0  z v1 = some y) : W p l e r_X4_cancel s m args below meth c s.heap [] 0 0 (xMQ below (xQm D q k z b o (Sum.map id (fun z => (some (.int z.1), z.2, b)) y)) args s (xmm (Sum.map id (fun z => (some (.int z.1), z.2, b)) y)) (xmn (Sum.map id (fun z => (some (.int z.1), z.2, b)) y)) (xfr q k z b o s.heap.size (Sum.map id (fun z => (some (.int z.1), z.2, b)) y))) (F0 m 0 ls []) := by
  obtain ⟨hx, hb, hml, hr, hlocks, hown, hno, hG⟩ := C
  have hK := hG.1
  have hE := hG.2.1
  have hS : va_S (va_A (xw q k z b o) s.heap.size) s.heap s.heap [] := va_S.rf
  have hA : ∀ u, s.heap.size ≤ u → va_A (xw q k z b o) s.heap.size u := fun u h => Or.inr h
  unfold g_X4_cancel_0 at hf
  refine lv_aload_n hx hb dX4_cancel_0 rfl (lv_at hl 0 rfl) ?_
  refine lv_iload_n hx hb dX4_cancel_1 rfl (lv_at hl 1 rfl) ?_
  obtain ⟨r2, hN, hf⟩ := xbind hf
  cases r2 with
  | some E =>
    replace hf : some (.inl E) = some y := hf
    cases hf
    exact xgo_t (xrunV (C := RX4) (As := [.int v1]) (rest := []) (xfixm fx_X4_checkFlight hx hb hml hown (by decide) (by decide) (by decide) (by decide)) hE ml_X4_87 wi_X4_checkFlight wz_X4_checkFlight wc_X4_checkFlight wn_X4 (c_X4_checkFlight l hl0 D q k z b o v1 _ hN) (va_recv (q := (RX4, TX4, 4)) (ci := 4) (q0 := 0) hK hP rfl rfl) (xpreT hP hD hG hst) rfl rfl hl.1 rfl (lv_room (Nat.le_of_ble_eq_true rfl)) dX4_cancel_2) (fun u H1 ce h1 h2 h3 h4 h5 => xout hno hlocks (fun u t h => ⟨u, rfl, h⟩) h1 h2 h3 h4 h5)
  | none =>
    replace hf : ((f_X4_checkPlannable z v1).bind fun r => Option.elim r ((if xin v1 60 = true then g_X4_cancel_20  (xs z 7 v1.toNatClampNeg (vp_nar .boolean 1)) v1 else none)) (fun E => some (.inl E))) = some y := hf
    refine xgo_r (v := none) (xrunV (C := RX4) (As := [.int v1]) (rest := []) (xfixm fx_X4_checkFlight hx hb hml hown (by decide) (by decide) (by decide) (by decide)) hE ml_X4_87 wi_X4_checkFlight wz_X4_checkFlight wc_X4_checkFlight wn_X4 (c_X4_checkFlight l hl0 D q k z b o v1 _ hN) (va_recv (q := (RX4, TX4, 4)) (ci := 4) (q0 := 0) hK hP rfl rfl) (xpreT hP hD hG hst) rfl rfl hl.1 rfl (lv_room (Nat.le_of_ble_eq_true rfl)) dX4_cancel_2) ?_
    refine lv_aload_n hx hb dX4_cancel_5 rfl (lv_at hl 0 rfl) ?_
    refine lv_iload_n hx hb dX4_cancel_6 rfl (lv_at hl 1 rfl) ?_
    obtain ⟨r7, hN, hf⟩ := xbind hf
    cases r7 with
    | some E =>
      replace hf : some (.inl E) = some y := hf
      cases hf
      exact xgo_t (xrunV (C := RX4) (As := [.int v1]) (rest := []) (xfixm fx_X4_checkPlannable hx hb hml hown (by decide) (by decide) (by decide) (by decide)) hE ml_X4_106 wi_X4_checkPlannable wz_X4_checkPlannable wc_X4_checkPlannable wn_X4 (c_X4_checkPlannable l hl0 D q k z b o v1 _ hN) (va_recv (q := (RX4, TX4, 4)) (ci := 4) (q0 := 0) hK hP rfl rfl) (xpreT hP hD hG hst) rfl rfl hl.1 rfl (lv_room (Nat.le_of_ble_eq_true rfl)) dX4_cancel_7) (fun u H1 ce h1 h2 h3 h4 h5 => xout hno hlocks (fun u t h => ⟨u, rfl, h⟩) h1 h2 h3 h4 h5)
    | none =>
      replace hf : (if xin v1 60 = true then g_X4_cancel_20  (xs z 7 v1.toNatClampNeg (vp_nar .boolean 1)) v1 else none) = some y := hf
      refine xgo_r (v := none) (xrunV (C := RX4) (As := [.int v1]) (rest := []) (xfixm fx_X4_checkPlannable hx hb hml hown (by decide) (by decide) (by decide) (by decide)) hE ml_X4_106 wi_X4_checkPlannable wz_X4_checkPlannable wc_X4_checkPlannable wn_X4 (c_X4_checkPlannable l hl0 D q k z b o v1 _ hN) (va_recv (q := (RX4, TX4, 4)) (ci := 4) (q0 := 0) hK hP rfl rfl) (xpreT hP hD hG hst) rfl rfl hl.1 rfl (lv_room (Nat.le_of_ble_eq_true rfl)) dX4_cancel_7) ?_
      refine lv_aload_n hx hb dX4_cancel_10 rfl (lv_at hl 0 rfl) ?_
      refine va_get (D := D) (ci := 4) (v := .ref (q 2)) (C := RX4) (T := TX4) (N := 4) hx hb (hwX4 hE) (fun _ h => h) hown hK hP 0 rfl rfl 1 (by decide) (hE _ fl_X4_19 rfl _) (fun _ h9 => h9) rfl dX4_cancel_11 ?_
      refine va_get (D := D) (ci := 1) (v := .ref (q 12)) (C := RX1) (T := TX1) (N := 8) hx hb (hwX1 hE) (fun _ h => h) hown hK hP 2 rfl rfl 4 (by decide) (hE _ fl_X4_115 rfl _) (fun _ h9 => h9) rfl dX4_cancel_14 ?_
      refine lv_iload_n hx hb dX4_cancel_17 rfl (lv_at hl 1 rfl) ?_
      refine lv_iconst (v := 1) hx hb dX4_cancel_18 (by decide) ?_
      obtain ⟨hin, hf⟩ := xguard hf
      refine va_zast hx hb hK hP hD hS 12 1 rfl rfl hin dX4_cancel_19 (fun H locs hP hD hS => ?_)
      rw [xw_s12] at hP hD
      exact t_X4_cancel_20 ⟨hx, hb, hml, hr, hlocks, hown, hno, hG⟩ hl0 hst hP hD hS  (lv_sub hl [0, 1] rfl) hf
noncomputable def f_X4_cancel (a : xT) (v1 : Int32) : Option (String ⊕ (Int32 × xT)) := g_X4_cancel_0 a v1
set_option maxHeartbeats 4000000 in
set_option maxRecDepth 100000 in
theorem c_X4_cancel (l : Launch) (hl0 : l.stackTraces = false) (D : va_G) (q : Nat → Nat) (k : Nat → ClassId) (sz : Nat) (a b : xT) (o : Nat → Int64) (v1 : Int32) (y : String ⊕ (Int32 × xT)) (hf : f_X4_cancel a v1 = some y) : xMet l yX4_cancel (.code yX4_cancel cX4_cancel 2 (some .boolean)) r_X4_cancel (xPcTm D q k sz a b o [.ref (q 0), .int v1]) (xQm D q k a b o (Sum.map id (fun z => (some (.int z.1), z.2, b)) y)) (xmm (Sum.map id (fun z => (some (.int z.1), z.2, b)) y)) (xmn (Sum.map id (fun z => (some (.int z.1), z.2, b)) y)) (xfr q k a b o sz (Sum.map id (fun z => (some (.int z.1), z.2, b)) y)) := by
  refine xMet.ofW (by decide) ?_
  intro p e s m args below meth c hx hb hml hr hlocks hnm hme hno hv
  obtain ⟨rfl, hsz, hP, hD, hG, hst⟩ := hv
  subst hsz
  have hown : s.vm.findClass RX4 = some m.cls := findClass_of_methodNamed hnm
  have hl := lv_entry ([.ref (q 0), .int v1]) (n := 2) (Nat.le_of_ble_eq_true rfl)
  rw [lg_entry_eq]
  generalize (lg_sl ([.ref (q 0), .int v1]) ++ List.replicate (2 - (lg_sl ([.ref (q 0), .int v1])).length) Slot.unset).toArray = ls at hl ⊢
  have hl : lv_has ls 2 [(0, .ref (q 0)), (1, .int v1)] := hl
  have hD := hD.self (sz := s.heap.size)
  exact t_X4_cancel_0 ⟨hx, hb, hml, hr, hlocks, hown, hno, hG⟩ hl0 hst hP hD hl hf
abbrev r_X4_endAsTraded : Room := { frames := 1, cells := 0, slots := 0, locals := 24 }
noncomputable def g_X4_endAsTraded_20  (a : xT) (v1 : Int32) (v2 : Int32) : Option (xT) := (if xin v2 240 = true then (if xin v1 40 = true then ((f_X0_add a 2 (a.1 2 v2.toNatClampNeg) v2 (a.1 12 v1.toNatClampNeg)).bind fun z44 => some z44) else none) else none)
set_option maxHeartbeats 4000000 in
set_option maxRecDepth 100000 in
theorem t_X4_endAsTraded_20 {p : Program} {l : Launch} {e : Env} {s : State} {m : MethodId} {args : Array Value} {below : List Frame} {meth : Method} {c : Code} {D : va_G} {q : Nat → Nat} {k : Nat → ClassId} {a b : xT} {o : Nat → Int64} {z : xT} {y : xT} (C : xCx p s m meth c cX4_endAsTraded 3 none RX4 D k) {H : Heap} {locs : List Loc} (hP : va_P D vwCl (xw q k a b o) H) (hD : va_D (va_A (xw q k z b o) s.heap.size) (xw q k a b o)) (hS : va_S (va_A (xw q k z b o) s.heap.size) s.heap H locs)  {v1 v2 : Int32} {ls : Array Slot} (hl : lv_has ls 3 [(0, .ref (q 0)), (1, .int v1), (2, .int v2)]) (hf : g_X4_endAsTraded_20  a v1 v2 = some y) : W p l e r_X4_endAsTraded s m args below meth c H locs 0 0 (xMQ below (xQm D q k z b o (.inr (none, y, b))) args s 0 0 (va_A (xw q k z b o) s.heap.size)) (F0 m 20 ls []) := by
  obtain ⟨hx, hb, hml, hr, hlocks, hown, hno, hG⟩ := C
  have hK := hG.1
  have hE := hG.2.1
  have hA : ∀ u, s.heap.size ≤ u → va_A (xw q k z b o) s.heap.size u := fun u h => Or.inr h
  unfold g_X4_endAsTraded_20 at hf
  refine lv_aload_n hx hb dX4_endAsTraded_20 rfl (lv_at hl 0 rfl) ?_
  refine va_get (D := D) (ci := 4) (v := .ref (q 4)) (C := RX4) (T := TX4) (N := 4) hx hb (hwX4 hE) (fun _ h => h) hown hK hP 0 rfl rfl 3 (by decide) (hE _ fl_X4_33 rfl _) (fun _ h9 => h9) rfl dX4_endAsTraded_21 ?_
  refine lv_iconst (v := 2) hx hb dX4_endAsTraded_24 (by decide) ?_
  refine lv_aload_n hx hb dX4_endAsTraded_25 rfl (lv_at hl 0 rfl) ?_
  refine va_get (D := D) (ci := 4) (v := .ref (q 1)) (C := RX4) (T := TX4) (N := 4) hx hb (hwX4 hE) (fun _ h => h) hown hK hP 0 rfl rfl 0 (by decide) (hE _ fl_X4_12 rfl _) (fun _ h9 => h9) rfl dX4_endAsTraded_26 ?_
  refine va_get (D := D) (ci := 3) (v := .ref (q 7)) (C := RX3) (T := TX3) (N := 3) hx hb (hwX3 hE) (fun _ h => h) hown hK hP 1 rfl rfl 2 (by decide) (hE _ fl_X4_100 rfl _) (fun _ h9 => h9) rfl dX4_endAsTraded_29 ?_
  refine lv_iload_n hx hb dX4_endAsTraded_32 rfl (lv_at hl 2 rfl) ?_
  obtain ⟨hin, hf⟩ := xguard hf
  refine va_iald hx hb hK hP 7 0 rfl rfl hin dX4_endAsTraded_33 ?_
  refine lv_iload_n hx hb dX4_endAsTraded_34 rfl (lv_at hl 2 rfl) ?_
  refine lv_aload_n hx hb dX4_endAsTraded_35 rfl (lv_at hl 0 rfl) ?_
  refine va_get (D := D) (ci := 4) (v := .ref (q 3)) (C := RX4) (T := TX4) (N := 4) hx hb (hwX4 hE) (fun _ h => h) hown hK hP 0 rfl rfl 2 (by decide) (hE _ fl_X4_26 rfl _) (fun _ h9 => h9) rfl dX4_endAsTraded_36 ?_
  refine va_get (D := D) (ci := 2) (v := .ref (q 17)) (C := RX2) (T := TX2) (N := 5) hx hb (hwX2 hE) (fun _ h => h) hown hK hP 3 rfl rfl 2 (by decide) (hE _ fl_X4_240 rfl _) (fun _ h9 => h9) rfl dX4_endAsTraded_39 ?_
  refine lv_iload_n hx hb dX4_endAsTraded_42 rfl (lv_at hl 1 rfl) ?_
  obtain ⟨hin, hf⟩ := xguard hf
  refine va_iald hx hb hK hP 17 0 rfl rfl hin dX4_endAsTraded_43 ?_
  obtain ⟨z44, hN, hf⟩ := xbind hf
  refine xgo_m (v := none) (a1 := z44) (b1 := b) (xrunV (C := RX0) (As := [.int 2, .int (a.1 2 v2.toNatClampNeg), .int v2, .int (a.1 12 v1.toNatClampNeg)]) (rest := []) (xfixm fx_X0_add hx hb hml hown (by decide) (by decide) (by decide) (by decide)) hE ml_X4_139 wi_X0_add wz_X0_add wc_X0_add wn_X0 (c_X0_add l D q k _ a b o 2 (a.1 2 v2.toNatClampNeg) v2 (a.1 12 v1.toNatClampNeg) _ hN) (va_recv (q := (RX0, TX0, 5)) (ci := 0) (q0 := 4) hK hP rfl rfl) (xprem hP hD hG) rfl rfl hl.1 rfl (lv_room (Nat.le_of_ble_eq_true rfl)) dX4_endAsTraded_44) hD hS hA (fun H locs hP hD hS => ?_)
  cases hf
  exact xretm_v hx hb hr hlocks hP hS dX4_endAsTraded_47
noncomputable def g_X4_endAsTraded_0  (a : xT) (v1 : Int32) : Option (xT) := (if xin v1 40 = true then (if xin v1 40 = true then g_X4_endAsTraded_20  (xs a 13 v1.toNatClampNeg (vp_nar .boolean 0)) v1 (a.1 11 v1.toNatClampNeg) else none) else none)
set_option maxHeartbeats 4000000 in
set_option maxRecDepth 100000 in
theorem t_X4_endAsTraded_0 {p : Program} {l : Launch} {e : Env} {s : State} {m : MethodId} {args : Array Value} {below : List Frame} {meth : Method} {c : Code} {D : va_G} {q : Nat → Nat} {k : Nat → ClassId} {a b : xT} {o : Nat → Int64} {z : xT} {y : xT} (C : xCx p s m meth c cX4_endAsTraded 3 none RX4 D k) {H : Heap} {locs : List Loc} (hP : va_P D vwCl (xw q k a b o) H) (hD : va_D (va_A (xw q k z b o) s.heap.size) (xw q k a b o)) (hS : va_S (va_A (xw q k z b o) s.heap.size) s.heap H locs)  {v1 : Int32} {ls : Array Slot} (hl : lv_has ls 3 [(0, .ref (q 0)), (1, .int v1)]) (hf : g_X4_endAsTraded_0  a v1 = some y) : W p l e r_X4_endAsTraded s m args below meth c H locs 0 0 (xMQ below (xQm D q k z b o (.inr (none, y, b))) args s 0 0 (va_A (xw q k z b o) s.heap.size)) (F0 m 0 ls []) := by
  obtain ⟨hx, hb, hml, hr, hlocks, hown, hno, hG⟩ := C
  have hK := hG.1
  have hE := hG.2.1
  have hA : ∀ u, s.heap.size ≤ u → va_A (xw q k z b o) s.heap.size u := fun u h => Or.inr h
  unfold g_X4_endAsTraded_0 at hf
  refine lv_aload_n hx hb dX4_endAsTraded_0 rfl (lv_at hl 0 rfl) ?_
  refine va_get (D := D) (ci := 4) (v := .ref (q 3)) (C := RX4) (T := TX4) (N := 4) hx hb (hwX4 hE) (fun _ h => h) hown hK hP 0 rfl rfl 2 (by decide) (hE _ fl_X4_26 rfl _) (fun _ h9 => h9) rfl dX4_endAsTraded_1 ?_
  refine va_get (D := D) (ci := 2) (v := .ref (q 16)) (C := RX2) (T := TX2) (N := 5) hx hb (hwX2 hE) (fun _ h => h) hown hK hP 3 rfl rfl 1 (by decide) (hE _ fl_X4_237 rfl _) (fun _ h9 => h9) rfl dX4_endAsTraded_4 ?_
  refine lv_iload_n hx hb dX4_endAsTraded_7 rfl (lv_at hl 1 rfl) ?_
  obtain ⟨hin, hf⟩ := xguard hf
  refine va_iald hx hb hK hP 16 0 rfl rfl hin dX4_endAsTraded_8 ?_
  refine lv_istore_n (lv' := [(2, .int (a.1 11 v1.toNatClampNeg)), (0, .ref (q 0)), (1, .int v1)]) hx hb dX4_endAsTraded_9 rfl hl (by decide) rfl (fun ls hl => ?_)
  refine lv_aload_n hx hb dX4_endAsTraded_10 rfl (lv_at hl 1 rfl) ?_
  refine va_get (D := D) (ci := 4) (v := .ref (q 3)) (C := RX4) (T := TX4) (N := 4) hx hb (hwX4 hE) (fun _ h => h) hown hK hP 0 rfl rfl 2 (by decide) (hE _ fl_X4_26 rfl _) (fun _ h9 => h9) rfl dX4_endAsTraded_11 ?_
  refine va_get (D := D) (ci := 2) (v := .ref (q 18)) (C := RX2) (T := TX2) (N := 5) hx hb (hwX2 hE) (fun _ h => h) hown hK hP 3 rfl rfl 3 (by decide) (hE _ fl_X4_152 rfl _) (fun _ h9 => h9) rfl dX4_endAsTraded_14 ?_
  refine lv_iload_n hx hb dX4_endAsTraded_17 rfl (lv_at hl 2 rfl) ?_
  refine lv_iconst (v := 0) hx hb dX4_endAsTraded_18 (by decide) ?_
  obtain ⟨hin, hf⟩ := xguard hf
  refine va_zast hx hb hK hP hD hS 18 1 rfl rfl hin dX4_endAsTraded_19 (fun H locs hP hD hS => ?_)
  rw [xw_s18] at hP hD
  exact t_X4_endAsTraded_20 ⟨hx, hb, hml, hr, hlocks, hown, hno, hG⟩ hP hD hS  (lv_sub hl [1, 2, 0] rfl) hf
noncomputable def f_X4_endAsTraded (a : xT) (v1 : Int32) : Option (xT) := g_X4_endAsTraded_0 a v1
set_option maxHeartbeats 4000000 in
set_option maxRecDepth 100000 in
theorem c_X4_endAsTraded (l : Launch) (D : va_G) (q : Nat → Nat) (k : Nat → ClassId) (sz : Nat) (a b : xT) (o : Nat → Int64) (v1 : Int32) (y : xT) (hf : f_X4_endAsTraded a v1 = some y) : xMet l yX4_endAsTraded (.code yX4_endAsTraded cX4_endAsTraded 3 none) r_X4_endAsTraded (xPcm D q k sz a b o [.ref (q 0), .int v1]) (xQm D q k a b o (.inr (none, y, b))) 0 0 (va_A (xw q k a b o) sz) := by
  refine xMet.ofW (by decide) ?_
  intro p e s m args below meth c hx hb hml hr hlocks hnm hme hno hv
  obtain ⟨rfl, hsz, hP, hD, hG⟩ := hv
  subst hsz
  have hown : s.vm.findClass RX4 = some m.cls := findClass_of_methodNamed hnm
  have hl := lv_entry ([.ref (q 0), .int v1]) (n := 3) (Nat.le_of_ble_eq_true rfl)
  rw [lg_entry_eq]
  generalize (lg_sl ([.ref (q 0), .int v1]) ++ List.replicate (3 - (lg_sl ([.ref (q 0), .int v1])).length) Slot.unset).toArray = ls at hl ⊢
  have hl : lv_has ls 3 [(0, .ref (q 0)), (1, .int v1)] := hl
  have hD := hD.self (sz := s.heap.size)
  exact t_X4_endAsTraded_0 ⟨hx, hb, hml, hr, hlocks, hown, hno, hG⟩ hP hD va_S.rf hl hf
abbrev r_X4_putIn : Room := { frames := 0, cells := 0, slots := 0, locals := 0 }
noncomputable def g_X4_putIn_25  (a : xT)  : Option (xT) := some a
set_option maxHeartbeats 4000000 in
set_option maxRecDepth 100000 in
theorem t_X4_putIn_25 {p : Program} {l : Launch} {e : Env} {s : State} {m : MethodId} {args : Array Value} {below : List Frame} {meth : Method} {c : Code} {D : va_G} {q : Nat → Nat} {k : Nat → ClassId} {a b : xT} {o : Nat → Int64} {z : xT} {y : xT} (C : xCx p s m meth c cX4_putIn 3 none RX4 D k) {H : Heap} {locs : List Loc} (hP : va_P D vwCl (xw q k a b o) H) (hD : va_D (va_A (xw q k z b o) s.heap.size) (xw q k a b o)) (hS : va_S (va_A (xw q k z b o) s.heap.size) s.heap H locs)  {ls : Array Slot} (hl : lv_has ls 3 []) (hf : g_X4_putIn_25  a  = some y) : W p l e r_X4_putIn s m args below meth c H locs 0 0 (xMQ below (xQm D q k z b o (.inr (none, y, b))) args s 0 0 (va_A (xw q k z b o) s.heap.size)) (F0 m 25 ls []) := by
  obtain ⟨hx, hb, hml, hr, hlocks, hown, hno, hG⟩ := C
  have hK := hG.1
  have hE := hG.2.1
  have hA : ∀ u, s.heap.size ≤ u → va_A (xw q k z b o) s.heap.size u := fun u h => Or.inr h
  unfold g_X4_putIn_25 at hf
  cases hf
  exact xretm_v hx hb hr hlocks hP hS dX4_putIn_25
noncomputable def g_X4_putIn_10  (a : xT) (v1 : Int32) (v2 : Int32) : Option (xT) := (if v2 = (-1) then g_X4_putIn_25  a  else (if xin v2 60 = true then g_X4_putIn_25  (xs a 6 v2.toNatClampNeg v1)  else none))
set_option maxHeartbeats 4000000 in
set_option maxRecDepth 100000 in
theorem t_X4_putIn_10 {p : Program} {l : Launch} {e : Env} {s : State} {m : MethodId} {args : Array Value} {below : List Frame} {meth : Method} {c : Code} {D : va_G} {q : Nat → Nat} {k : Nat → ClassId} {a b : xT} {o : Nat → Int64} {z : xT} {y : xT} (C : xCx p s m meth c cX4_putIn 3 none RX4 D k) {H : Heap} {locs : List Loc} (hP : va_P D vwCl (xw q k a b o) H) (hD : va_D (va_A (xw q k z b o) s.heap.size) (xw q k a b o)) (hS : va_S (va_A (xw q k z b o) s.heap.size) s.heap H locs)  {v1 v2 : Int32} {ls : Array Slot} (hl : lv_has ls 3 [(0, .ref (q 0)), (1, .int v1), (2, .int v2)]) (hf : g_X4_putIn_10  a v1 v2 = some y) : W p l e r_X4_putIn s m args below meth c H locs 0 0 (xMQ below (xQm D q k z b o (.inr (none, y, b))) args s 0 0 (va_A (xw q k z b o) s.heap.size)) (F0 m 10 ls []) := by
  obtain ⟨hx, hb, hml, hr, hlocks, hown, hno, hG⟩ := C
  have hK := hG.1
  have hE := hG.2.1
  have hA : ∀ u, s.heap.size ≤ u → va_A (xw q k z b o) s.heap.size u := fun u h => Or.inr h
  unfold g_X4_putIn_10 at hf
  refine lv_iload_n hx hb dX4_putIn_10 rfl (lv_at hl 2 rfl) ?_
  refine lv_iconst (v := -1) hx hb dX4_putIn_11 (by decide) ?_
  refine lv_icmp_eq hx hb dX4_putIn_12 rfl (fun hc => ?_) (fun hc => ?_)
  · rw [if_pos hc] at hf
    exact t_X4_putIn_25 ⟨hx, hb, hml, hr, hlocks, hown, hno, hG⟩ hP hD hS  (lv_sub hl [] rfl) hf
  · rw [if_neg hc] at hf
    refine lv_aload_n hx hb dX4_putIn_15 rfl (lv_at hl 0 rfl) ?_
    refine va_get (D := D) (ci := 4) (v := .ref (q 2)) (C := RX4) (T := TX4) (N := 4) hx hb (hwX4 hE) (fun _ h => h) hown hK hP 0 rfl rfl 1 (by decide) (hE _ fl_X4_19 rfl _) (fun _ h9 => h9) rfl dX4_putIn_16 ?_
    refine va_get (D := D) (ci := 1) (v := .ref (q 11)) (C := RX1) (T := TX1) (N := 8) hx hb (hwX1 hE) (fun _ h => h) hown hK hP 2 rfl rfl 3 (by decide) (hE _ fl_X4_90 rfl _) (fun _ h9 => h9) rfl dX4_putIn_19 ?_
    refine lv_iload_n hx hb dX4_putIn_22 rfl (lv_at hl 2 rfl) ?_
    refine lv_iload_n hx hb dX4_putIn_23 rfl (lv_at hl 1 rfl) ?_
    obtain ⟨hin, hf⟩ := xguard hf
    refine va_iast hx hb hK hP hD hS 11 0 rfl rfl hin dX4_putIn_24 (fun H locs hP hD hS => ?_)
    rw [xw_s11] at hP hD
    exact t_X4_putIn_25 ⟨hx, hb, hml, hr, hlocks, hown, hno, hG⟩ hP hD hS  (lv_sub hl [] rfl) hf
noncomputable def g_X4_putIn_0  (a : xT) (v1 : Int32) (v2 : Int32) : Option (xT) := (if xin v1 240 = true then g_X4_putIn_10  (xs a 2 v1.toNatClampNeg v2) v1 v2 else none)
set_option maxHeartbeats 4000000 in
set_option maxRecDepth 100000 in
theorem t_X4_putIn_0 {p : Program} {l : Launch} {e : Env} {s : State} {m : MethodId} {args : Array Value} {below : List Frame} {meth : Method} {c : Code} {D : va_G} {q : Nat → Nat} {k : Nat → ClassId} {a b : xT} {o : Nat → Int64} {z : xT} {y : xT} (C : xCx p s m meth c cX4_putIn 3 none RX4 D k) {H : Heap} {locs : List Loc} (hP : va_P D vwCl (xw q k a b o) H) (hD : va_D (va_A (xw q k z b o) s.heap.size) (xw q k a b o)) (hS : va_S (va_A (xw q k z b o) s.heap.size) s.heap H locs)  {v1 v2 : Int32} {ls : Array Slot} (hl : lv_has ls 3 [(0, .ref (q 0)), (1, .int v1), (2, .int v2)]) (hf : g_X4_putIn_0  a v1 v2 = some y) : W p l e r_X4_putIn s m args below meth c H locs 0 0 (xMQ below (xQm D q k z b o (.inr (none, y, b))) args s 0 0 (va_A (xw q k z b o) s.heap.size)) (F0 m 0 ls []) := by
  obtain ⟨hx, hb, hml, hr, hlocks, hown, hno, hG⟩ := C
  have hK := hG.1
  have hE := hG.2.1
  have hA : ∀ u, s.heap.size ≤ u → va_A (xw q k z b o) s.heap.size u := fun u h => Or.inr h
  unfold g_X4_putIn_0 at hf
  refine lv_aload_n hx hb dX4_putIn_0 rfl (lv_at hl 0 rfl) ?_
  refine va_get (D := D) (ci := 4) (v := .ref (q 1)) (C := RX4) (T := TX4) (N := 4) hx hb (hwX4 hE) (fun _ h => h) hown hK hP 0 rfl rfl 0 (by decide) (hE _ fl_X4_12 rfl _) (fun _ h9 => h9) rfl dX4_putIn_1 ?_
  refine va_get (D := D) (ci := 3) (v := .ref (q 7)) (C := RX3) (T := TX3) (N := 3) hx hb (hwX3 hE) (fun _ h => h) hown hK hP 1 rfl rfl 2 (by decide) (hE _ fl_X4_100 rfl _) (fun _ h9 => h9) rfl dX4_putIn_4 ?_
  refine lv_iload_n hx hb dX4_putIn_7 rfl (lv_at hl 1 rfl) ?_
  refine lv_iload_n hx hb dX4_putIn_8 rfl (lv_at hl 2 rfl) ?_
  obtain ⟨hin, hf⟩ := xguard hf
  refine va_iast hx hb hK hP hD hS 7 0 rfl rfl hin dX4_putIn_9 (fun H locs hP hD hS => ?_)
  rw [xw_s7] at hP hD
  exact t_X4_putIn_10 ⟨hx, hb, hml, hr, hlocks, hown, hno, hG⟩ hP hD hS  (lv_sub hl [0, 1, 2] rfl) hf
noncomputable def f_X4_putIn (a : xT) (v1 : Int32) (v2 : Int32) : Option (xT) := g_X4_putIn_0 a v1 v2
set_option maxHeartbeats 4000000 in
set_option maxRecDepth 100000 in
theorem c_X4_putIn (l : Launch) (D : va_G) (q : Nat → Nat) (k : Nat → ClassId) (sz : Nat) (a b : xT) (o : Nat → Int64) (v1 : Int32) (v2 : Int32) (y : xT) (hf : f_X4_putIn a v1 v2 = some y) : xMet l yX4_putIn (.code yX4_putIn cX4_putIn 3 none) r_X4_putIn (xPcm D q k sz a b o [.ref (q 0), .int v1, .int v2]) (xQm D q k a b o (.inr (none, y, b))) 0 0 (va_A (xw q k a b o) sz) := by
  refine xMet.ofW (by decide) ?_
  intro p e s m args below meth c hx hb hml hr hlocks hnm hme hno hv
  obtain ⟨rfl, hsz, hP, hD, hG⟩ := hv
  subst hsz
  have hown : s.vm.findClass RX4 = some m.cls := findClass_of_methodNamed hnm
  have hl := lv_entry ([.ref (q 0), .int v1, .int v2]) (n := 3) (Nat.le_of_ble_eq_true rfl)
  rw [lg_entry_eq]
  generalize (lg_sl ([.ref (q 0), .int v1, .int v2]) ++ List.replicate (3 - (lg_sl ([.ref (q 0), .int v1, .int v2])).length) Slot.unset).toArray = ls at hl ⊢
  have hl : lv_has ls 3 [(0, .ref (q 0)), (1, .int v1), (2, .int v2)] := hl
  have hD := hD.self (sz := s.heap.size)
  exact t_X4_putIn_0 ⟨hx, hb, hml, hr, hlocks, hown, hno, hG⟩ hP hD va_S.rf hl hf
abbrev r_X4_exchange : Room := { frames := 1, cells := 0, slots := 0, locals := 22 }
noncomputable def g_X4_exchange_70  (a : xT)  : Option (xT) := some a
set_option maxHeartbeats 4000000 in
set_option maxRecDepth 100000 in
theorem t_X4_exchange_70 {p : Program} {l : Launch} {e : Env} {s : State} {m : MethodId} {args : Array Value} {below : List Frame} {meth : Method} {c : Code} {D : va_G} {q : Nat → Nat} {k : Nat → ClassId} {a b : xT} {o : Nat → Int64} {z : xT} {y : xT} (C : xCx p s m meth c cX4_exchange 5 none RX4 D k) {H : Heap} {locs : List Loc} (hP : va_P D vwCl (xw q k a b o) H) (hD : va_D (va_A (xw q k z b o) s.heap.size) (xw q k a b o)) (hS : va_S (va_A (xw q k z b o) s.heap.size) s.heap H locs)  {ls : Array Slot} (hl : lv_has ls 5 []) (hf : g_X4_exchange_70  a  = some y) : W p l e r_X4_exchange s m args below meth c H locs 0 0 (xMQ below (xQm D q k z b o (.inr (none, y, b))) args s 0 0 (va_A (xw q k z b o) s.heap.size)) (F0 m 70 ls []) := by
  obtain ⟨hx, hb, hml, hr, hlocks, hown, hno, hG⟩ := C
  have hK := hG.1
  have hE := hG.2.1
  have hA : ∀ u, s.heap.size ≤ u → va_A (xw q k z b o) s.heap.size u := fun u h => Or.inr h
  unfold g_X4_exchange_70 at hf
  cases hf
  exact xretm_v hx hb hr hlocks hP hS dX4_exchange_70
noncomputable def g_X4_exchange_53  (a : xT) (v2 : Int32) (v3 : Int32) (v4 : Int32) : Option (xT) := ((f_X4_putIn a v2 v3).bind fun z56 => (if xin v2 240 = true then g_X4_exchange_70  (xs z56 1 v2.toNatClampNeg v4)  else none))
set_option maxHeartbeats 4000000 in
set_option maxRecDepth 100000 in
theorem t_X4_exchange_53 {p : Program} {l : Launch} {e : Env} {s : State} {m : MethodId} {args : Array Value} {below : List Frame} {meth : Method} {c : Code} {D : va_G} {q : Nat → Nat} {k : Nat → ClassId} {a b : xT} {o : Nat → Int64} {z : xT} {y : xT} (C : xCx p s m meth c cX4_exchange 5 none RX4 D k) {H : Heap} {locs : List Loc} (hP : va_P D vwCl (xw q k a b o) H) (hD : va_D (va_A (xw q k z b o) s.heap.size) (xw q k a b o)) (hS : va_S (va_A (xw q k z b o) s.heap.size) s.heap H locs)  {v2 v3 v4 : Int32} {ls : Array Slot} (hl : lv_has ls 5 [(0, .ref (q 0)), (2, .int v2), (3, .int v3), (4, .int v4)]) (hf : g_X4_exchange_53  a v2 v3 v4 = some y) : W p l e r_X4_exchange s m args below meth c H locs 0 0 (xMQ below (xQm D q k z b o (.inr (none, y, b))) args s 0 0 (va_A (xw q k z b o) s.heap.size)) (F0 m 53 ls []) := by
  obtain ⟨hx, hb, hml, hr, hlocks, hown, hno, hG⟩ := C
  have hK := hG.1
  have hE := hG.2.1
  have hA : ∀ u, s.heap.size ≤ u → va_A (xw q k z b o) s.heap.size u := fun u h => Or.inr h
  unfold g_X4_exchange_53 at hf
  refine lv_aload_n hx hb dX4_exchange_53 rfl (lv_at hl 0 rfl) ?_
  refine lv_iload_n hx hb dX4_exchange_54 rfl (lv_at hl 1 rfl) ?_
  refine lv_iload_n hx hb dX4_exchange_55 rfl (lv_at hl 2 rfl) ?_
  obtain ⟨z56, hN, hf⟩ := xbind hf
  refine xgo_m (v := none) (a1 := z56) (b1 := b) (xrunV (C := RX4) (As := [.int v2, .int v3]) (rest := []) (xfixm fx_X4_putIn hx hb hml hown (by decide) (by decide) (by decide) (by decide)) hE ml_X4_136 wi_X4_putIn wz_X4_putIn wc_X4_putIn wn_X4 (c_X4_putIn l D q k _ a b o v2 v3 _ hN) (va_recv (q := (RX4, TX4, 4)) (ci := 4) (q0 := 0) hK hP rfl rfl) (xprem hP hD hG) rfl rfl hl.1 rfl (lv_room (Nat.le_of_ble_eq_true rfl)) dX4_exchange_56) hD hS hA (fun H locs hP hD hS => ?_)
  refine lv_aload_n hx hb dX4_exchange_59 rfl (lv_at hl 0 rfl) ?_
  refine va_get (D := D) (ci := 4) (v := .ref (q 1)) (C := RX4) (T := TX4) (N := 4) hx hb (hwX4 hE) (fun _ h => h) hown hK hP 0 rfl rfl 0 (by decide) (hE _ fl_X4_12 rfl _) (fun _ h9 => h9) rfl dX4_exchange_60 ?_
  refine va_get (D := D) (ci := 3) (v := .ref (q 6)) (C := RX3) (T := TX3) (N := 3) hx hb (hwX3 hE) (fun _ h => h) hown hK hP 1 rfl rfl 1 (by decide) (hE _ fl_X4_97 rfl _) (fun _ h9 => h9) rfl dX4_exchange_63 ?_
  refine lv_iload_n hx hb dX4_exchange_66 rfl (lv_at hl 1 rfl) ?_
  refine lv_iload hx hb dX4_exchange_67 (lv_at hl 3 rfl) ?_
  obtain ⟨hin, hf⟩ := xguard hf
  refine va_iast hx hb hK hP hD hS 6 0 rfl rfl hin dX4_exchange_69 (fun H locs hP hD hS => ?_)
  rw [xw_s6] at hP hD
  exact t_X4_exchange_70 ⟨hx, hb, hml, hr, hlocks, hown, hno, hG⟩ hP hD hS  (lv_sub hl [] rfl) hf
noncomputable def g_X4_exchange_0  (a : xT) (v1 : Int32) (v2 : Int32) : Option (xT) := (if xin v1 240 = true then (if xin v1 240 = true then (if xin v2 240 = true then ((f_X4_putIn a v1 (a.1 2 v2.toNatClampNeg)).bind fun z32 => (if xin v2 240 = true then (if xin v1 240 = true then g_X4_exchange_53  (xs z32 1 v1.toNatClampNeg (z32.1 1 v2.toNatClampNeg)) v2 (a.1 2 v1.toNatClampNeg) (a.1 1 v1.toNatClampNeg) else none) else none)) else none) else none) else none)
set_option maxHeartbeats 4000000 in
set_option maxRecDepth 100000 in
theorem t_X4_exchange_0 {p : Program} {l : Launch} {e : Env} {s : State} {m : MethodId} {args : Array Value} {below : List Frame} {meth : Method} {c : Code} {D : va_G} {q : Nat → Nat} {k : Nat → ClassId} {a b : xT} {o : Nat → Int64} {z : xT} {y : xT} (C : xCx p s m meth c cX4_exchange 5 none RX4 D k) {H : Heap} {locs : List Loc} (hP : va_P D vwCl (xw q k a b o) H) (hD : va_D (va_A (xw q k z b o) s.heap.size) (xw q k a b o)) (hS : va_S (va_A (xw q k z b o) s.heap.size) s.heap H locs)  {v1 v2 : Int32} {ls : Array Slot} (hl : lv_has ls 5 [(0, .ref (q 0)), (1, .int v1), (2, .int v2)]) (hf : g_X4_exchange_0  a v1 v2 = some y) : W p l e r_X4_exchange s m args below meth c H locs 0 0 (xMQ below (xQm D q k z b o (.inr (none, y, b))) args s 0 0 (va_A (xw q k z b o) s.heap.size)) (F0 m 0 ls []) := by
  obtain ⟨hx, hb, hml, hr, hlocks, hown, hno, hG⟩ := C
  have hK := hG.1
  have hE := hG.2.1
  have hA : ∀ u, s.heap.size ≤ u → va_A (xw q k z b o) s.heap.size u := fun u h => Or.inr h
  unfold g_X4_exchange_0 at hf
  refine lv_aload_n hx hb dX4_exchange_0 rfl (lv_at hl 0 rfl) ?_
  refine va_get (D := D) (ci := 4) (v := .ref (q 1)) (C := RX4) (T := TX4) (N := 4) hx hb (hwX4 hE) (fun _ h => h) hown hK hP 0 rfl rfl 0 (by decide) (hE _ fl_X4_12 rfl _) (fun _ h9 => h9) rfl dX4_exchange_1 ?_
  refine va_get (D := D) (ci := 3) (v := .ref (q 7)) (C := RX3) (T := TX3) (N := 3) hx hb (hwX3 hE) (fun _ h => h) hown hK hP 1 rfl rfl 2 (by decide) (hE _ fl_X4_100 rfl _) (fun _ h9 => h9) rfl dX4_exchange_4 ?_
  refine lv_iload_n hx hb dX4_exchange_7 rfl (lv_at hl 1 rfl) ?_
  obtain ⟨hin, hf⟩ := xguard hf
  refine va_iald hx hb hK hP 7 0 rfl rfl hin dX4_exchange_8 ?_
  refine lv_istore_n (lv' := [(3, .int (a.1 2 v1.toNatClampNeg)), (0, .ref (q 0)), (1, .int v1), (2, .int v2)]) hx hb dX4_exchange_9 rfl hl (by decide) rfl (fun ls hl => ?_)
  refine lv_aload_n hx hb dX4_exchange_10 rfl (lv_at hl 1 rfl) ?_
  refine va_get (D := D) (ci := 4) (v := .ref (q 1)) (C := RX4) (T := TX4) (N := 4) hx hb (hwX4 hE) (fun _ h => h) hown hK hP 0 rfl rfl 0 (by decide) (hE _ fl_X4_12 rfl _) (fun _ h9 => h9) rfl dX4_exchange_11 ?_
  refine va_get (D := D) (ci := 3) (v := .ref (q 6)) (C := RX3) (T := TX3) (N := 3) hx hb (hwX3 hE) (fun _ h => h) hown hK hP 1 rfl rfl 1 (by decide) (hE _ fl_X4_97 rfl _) (fun _ h9 => h9) rfl dX4_exchange_14 ?_
  refine lv_iload_n hx hb dX4_exchange_17 rfl (lv_at hl 2 rfl) ?_
  obtain ⟨hin, hf⟩ := xguard hf
  refine va_iald hx hb hK hP 6 0 rfl rfl hin dX4_exchange_18 ?_
  refine lv_istore (lv' := [(4, .int (a.1 1 v1.toNatClampNeg)), (3, .int (a.1 2 v1.toNatClampNeg)), (0, .ref (q 0)), (1, .int v1), (2, .int v2)]) hx hb dX4_exchange_19 hl (by decide) rfl (fun ls hl => ?_)
  refine lv_aload_n hx hb dX4_exchange_21 rfl (lv_at hl 2 rfl) ?_
  refine lv_iload_n hx hb dX4_exchange_22 rfl (lv_at hl 3 rfl) ?_
  refine lv_aload_n hx hb dX4_exchange_23 rfl (lv_at hl 2 rfl) ?_
  refine va_get (D := D) (ci := 4) (v := .ref (q 1)) (C := RX4) (T := TX4) (N := 4) hx hb (hwX4 hE) (fun _ h => h) hown hK hP 0 rfl rfl 0 (by decide) (hE _ fl_X4_12 rfl _) (fun _ h9 => h9) rfl dX4_exchange_24 ?_
  refine va_get (D := D) (ci := 3) (v := .ref (q 7)) (C := RX3) (T := TX3) (N := 3) hx hb (hwX3 hE) (fun _ h => h) hown hK hP 1 rfl rfl 2 (by decide) (hE _ fl_X4_100 rfl _) (fun _ h9 => h9) rfl dX4_exchange_27 ?_
  refine lv_iload_n hx hb dX4_exchange_30 rfl (lv_at hl 4 rfl) ?_
  obtain ⟨hin, hf⟩ := xguard hf
  refine va_iald hx hb hK hP 7 0 rfl rfl hin dX4_exchange_31 ?_
  obtain ⟨z32, hN, hf⟩ := xbind hf
  refine xgo_m (v := none) (a1 := z32) (b1 := b) (xrunV (C := RX4) (As := [.int v1, .int (a.1 2 v2.toNatClampNeg)]) (rest := []) (xfixm fx_X4_putIn hx hb hml hown (by decide) (by decide) (by decide) (by decide)) hE ml_X4_136 wi_X4_putIn wz_X4_putIn wc_X4_putIn wn_X4 (c_X4_putIn l D q k _ a b o v1 (a.1 2 v2.toNatClampNeg) _ hN) (va_recv (q := (RX4, TX4, 4)) (ci := 4) (q0 := 0) hK hP rfl rfl) (xprem hP hD hG) rfl rfl hl.1 rfl (lv_room (Nat.le_of_ble_eq_true rfl)) dX4_exchange_32) hD hS hA (fun H locs hP hD hS => ?_)
  refine lv_aload_n hx hb dX4_exchange_35 rfl (lv_at hl 2 rfl) ?_
  refine va_get (D := D) (ci := 4) (v := .ref (q 1)) (C := RX4) (T := TX4) (N := 4) hx hb (hwX4 hE) (fun _ h => h) hown hK hP 0 rfl rfl 0 (by decide) (hE _ fl_X4_12 rfl _) (fun _ h9 => h9) rfl dX4_exchange_36 ?_
  refine va_get (D := D) (ci := 3) (v := .ref (q 6)) (C := RX3) (T := TX3) (N := 3) hx hb (hwX3 hE) (fun _ h => h) hown hK hP 1 rfl rfl 1 (by decide) (hE _ fl_X4_97 rfl _) (fun _ h9 => h9) rfl dX4_exchange_39 ?_
  refine lv_iload_n hx hb dX4_exchange_42 rfl (lv_at hl 3 rfl) ?_
  refine lv_aload_n hx hb dX4_exchange_43 rfl (lv_at hl 2 rfl) ?_
  refine va_get (D := D) (ci := 4) (v := .ref (q 1)) (C := RX4) (T := TX4) (N := 4) hx hb (hwX4 hE) (fun _ h => h) hown hK hP 0 rfl rfl 0 (by decide) (hE _ fl_X4_12 rfl _) (fun _ h9 => h9) rfl dX4_exchange_44 ?_
  refine va_get (D := D) (ci := 3) (v := .ref (q 6)) (C := RX3) (T := TX3) (N := 3) hx hb (hwX3 hE) (fun _ h => h) hown hK hP 1 rfl rfl 1 (by decide) (hE _ fl_X4_97 rfl _) (fun _ h9 => h9) rfl dX4_exchange_47 ?_
  refine lv_iload_n hx hb dX4_exchange_50 rfl (lv_at hl 4 rfl) ?_
  obtain ⟨hin, hf⟩ := xguard hf
  refine va_iald hx hb hK hP 6 0 rfl rfl hin dX4_exchange_51 ?_
  obtain ⟨hin, hf⟩ := xguard hf
  refine va_iast hx hb hK hP hD hS 6 0 rfl rfl hin dX4_exchange_52 (fun H locs hP hD hS => ?_)
  rw [xw_s6] at hP hD
  exact t_X4_exchange_53 ⟨hx, hb, hml, hr, hlocks, hown, hno, hG⟩ hP hD hS  (lv_sub hl [2, 4, 1, 0] rfl) hf
noncomputable def f_X4_exchange (a : xT) (v1 : Int32) (v2 : Int32) : Option (xT) := g_X4_exchange_0 a v1 v2
set_option maxHeartbeats 4000000 in
set_option maxRecDepth 100000 in
theorem c_X4_exchange (l : Launch) (D : va_G) (q : Nat → Nat) (k : Nat → ClassId) (sz : Nat) (a b : xT) (o : Nat → Int64) (v1 : Int32) (v2 : Int32) (y : xT) (hf : f_X4_exchange a v1 v2 = some y) : xMet l yX4_exchange (.code yX4_exchange cX4_exchange 5 none) r_X4_exchange (xPcm D q k sz a b o [.ref (q 0), .int v1, .int v2]) (xQm D q k a b o (.inr (none, y, b))) 0 0 (va_A (xw q k a b o) sz) := by
  refine xMet.ofW (by decide) ?_
  intro p e s m args below meth c hx hb hml hr hlocks hnm hme hno hv
  obtain ⟨rfl, hsz, hP, hD, hG⟩ := hv
  subst hsz
  have hown : s.vm.findClass RX4 = some m.cls := findClass_of_methodNamed hnm
  have hl := lv_entry ([.ref (q 0), .int v1, .int v2]) (n := 5) (Nat.le_of_ble_eq_true rfl)
  rw [lg_entry_eq]
  generalize (lg_sl ([.ref (q 0), .int v1, .int v2]) ++ List.replicate (5 - (lg_sl ([.ref (q 0), .int v1, .int v2])).length) Slot.unset).toArray = ls at hl ⊢
  have hl : lv_has ls 5 [(0, .ref (q 0)), (1, .int v1), (2, .int v2)] := hl
  have hD := hD.self (sz := s.heap.size)
  exact t_X4_exchange_0 ⟨hx, hb, hml, hr, hlocks, hown, hno, hG⟩ hP hD va_S.rf hl hf
abbrev r_X4_isFrozen : Room := { frames := 0, cells := 0, slots := 0, locals := 0 }
noncomputable def g_X4_isFrozen_32  (a : xT) (s0 : Int32) : Option (Int32) := (if xzb s0 = true then some s0 else none)
set_option maxHeartbeats 4000000 in
set_option maxRecDepth 100000 in
theorem t_X4_isFrozen_32 {p : Program} {l : Launch} {e : Env} {s : State} {m : MethodId} {args : Array Value} {below : List Frame} {meth : Method} {c : Code} {D : va_G} {q : Nat → Nat} {k : Nat → ClassId} {a b : xT} {o : Nat → Int64} {y : Int32} (C : xCx p s m meth c cX4_isFrozen 3 (some .boolean) RX4 D k) (hP : va_P D vwCl (xw q k a b o) s.heap) (hD : va_D (fun _ => True) (xw q k a b o))  {s0 : Int32} {ls : Array Slot} (hl : lv_has ls 3 []) (hf : g_X4_isFrozen_32  a s0 = some y) : W p l e r_X4_isFrozen s m args below meth c s.heap [] 0 0 (xMQ below (xQr (.inr (some (.int y)))) args s (xmc (.inr (some (.int y)))) (xms (.inr (some (.int y)))) (fun _ => False)) (F0 m 32 ls [.int s0]) := by
  obtain ⟨hx, hb, hml, hr, hlocks, hown, hno, hG⟩ := C
  have hK := hG.1
  have hE := hG.2.1
  unfold g_X4_isFrozen_32 at hf
  obtain ⟨hz, hf⟩ := xguz hf
  cases hf
  exact xret_z hx hb hr hz hlocks dX4_isFrozen_32
noncomputable def g_X4_isFrozen_31  (a : xT)  : Option (Int32) := g_X4_isFrozen_32  a 0
set_option maxHeartbeats 4000000 in
set_option maxRecDepth 100000 in
theorem t_X4_isFrozen_31 {p : Program} {l : Launch} {e : Env} {s : State} {m : MethodId} {args : Array Value} {below : List Frame} {meth : Method} {c : Code} {D : va_G} {q : Nat → Nat} {k : Nat → ClassId} {a b : xT} {o : Nat → Int64} {y : Int32} (C : xCx p s m meth c cX4_isFrozen 3 (some .boolean) RX4 D k) (hP : va_P D vwCl (xw q k a b o) s.heap) (hD : va_D (fun _ => True) (xw q k a b o))  {ls : Array Slot} (hl : lv_has ls 3 []) (hf : g_X4_isFrozen_31  a  = some y) : W p l e r_X4_isFrozen s m args below meth c s.heap [] 0 0 (xMQ below (xQr (.inr (some (.int y)))) args s (xmc (.inr (some (.int y)))) (xms (.inr (some (.int y)))) (fun _ => False)) (F0 m 31 ls []) := by
  obtain ⟨hx, hb, hml, hr, hlocks, hown, hno, hG⟩ := C
  have hK := hG.1
  have hE := hG.2.1
  unfold g_X4_isFrozen_31 at hf
  refine lv_iconst (v := 0) hx hb dX4_isFrozen_31 (by decide) ?_
  exact t_X4_isFrozen_32 ⟨hx, hb, hml, hr, hlocks, hown, hno, hG⟩ hP hD  (lv_sub hl [] rfl) hf
noncomputable def g_X4_isFrozen_0  (a : xT) (v1 : Int32) : Option (Int32) := (if xin v1 240 = true then (if (a.1 2 v1.toNatClampNeg) = (-1) then g_X4_isFrozen_31  a  else (if xin (a.1 2 v1.toNatClampNeg) 60 = true then (if (a.1 8 (a.1 2 v1.toNatClampNeg).toNatClampNeg) = 0 then g_X4_isFrozen_31  a  else g_X4_isFrozen_32  a 1) else none)) else none)
set_option maxHeartbeats 4000000 in
set_option maxRecDepth 100000 in
theorem t_X4_isFrozen_0 {p : Program} {l : Launch} {e : Env} {s : State} {m : MethodId} {args : Array Value} {below : List Frame} {meth : Method} {c : Code} {D : va_G} {q : Nat → Nat} {k : Nat → ClassId} {a b : xT} {o : Nat → Int64} {y : Int32} (C : xCx p s m meth c cX4_isFrozen 3 (some .boolean) RX4 D k) (hP : va_P D vwCl (xw q k a b o) s.heap) (hD : va_D (fun _ => True) (xw q k a b o))  {v1 : Int32} {ls : Array Slot} (hl : lv_has ls 3 [(0, .ref (q 0)), (1, .int v1)]) (hf : g_X4_isFrozen_0  a v1 = some y) : W p l e r_X4_isFrozen s m args below meth c s.heap [] 0 0 (xMQ below (xQr (.inr (some (.int y)))) args s (xmc (.inr (some (.int y)))) (xms (.inr (some (.int y)))) (fun _ => False)) (F0 m 0 ls []) := by
  obtain ⟨hx, hb, hml, hr, hlocks, hown, hno, hG⟩ := C
  have hK := hG.1
  have hE := hG.2.1
  unfold g_X4_isFrozen_0 at hf
  refine lv_aload_n hx hb dX4_isFrozen_0 rfl (lv_at hl 0 rfl) ?_
  refine va_get (D := D) (ci := 4) (v := .ref (q 1)) (C := RX4) (T := TX4) (N := 4) hx hb (hwX4 hE) (fun _ h => h) hown hK hP 0 rfl rfl 0 (by decide) (hE _ fl_X4_12 rfl _) (fun _ h9 => h9) rfl dX4_isFrozen_1 ?_
  refine va_get (D := D) (ci := 3) (v := .ref (q 7)) (C := RX3) (T := TX3) (N := 3) hx hb (hwX3 hE) (fun _ h => h) hown hK hP 1 rfl rfl 2 (by decide) (hE _ fl_X4_100 rfl _) (fun _ h9 => h9) rfl dX4_isFrozen_4 ?_
  refine lv_iload_n hx hb dX4_isFrozen_7 rfl (lv_at hl 1 rfl) ?_
  obtain ⟨hin, hf⟩ := xguard hf
  refine va_iald hx hb hK hP 7 0 rfl rfl hin dX4_isFrozen_8 ?_
  refine lv_istore_n (lv' := [(2, .int (a.1 2 v1.toNatClampNeg)), (0, .ref (q 0)), (1, .int v1)]) hx hb dX4_isFrozen_9 rfl hl (by decide) rfl (fun ls hl => ?_)
  refine lv_iload_n hx hb dX4_isFrozen_10 rfl (lv_at hl 0 rfl) ?_
  refine lv_iconst (v := -1) hx hb dX4_isFrozen_11 (by decide) ?_
  refine lv_icmp_eq hx hb dX4_isFrozen_12 rfl (fun hc => ?_) (fun hc => ?_)
  · rw [if_pos hc] at hf
    exact t_X4_isFrozen_31 ⟨hx, hb, hml, hr, hlocks, hown, hno, hG⟩ hP hD  (lv_sub hl [] rfl) hf
  · rw [if_neg hc] at hf
    refine lv_aload_n hx hb dX4_isFrozen_15 rfl (lv_at hl 1 rfl) ?_
    refine va_get (D := D) (ci := 4) (v := .ref (q 2)) (C := RX4) (T := TX4) (N := 4) hx hb (hwX4 hE) (fun _ h => h) hown hK hP 0 rfl rfl 1 (by decide) (hE _ fl_X4_19 rfl _) (fun _ h9 => h9) rfl dX4_isFrozen_16 ?_
    refine va_get (D := D) (ci := 1) (v := .ref (q 13)) (C := RX1) (T := TX1) (N := 8) hx hb (hwX1 hE) (fun _ h => h) hown hK hP 2 rfl rfl 5 (by decide) (hE _ fl_X4_119 rfl _) (fun _ h9 => h9) rfl dX4_isFrozen_19 ?_
    refine lv_iload_n hx hb dX4_isFrozen_22 rfl (lv_at hl 0 rfl) ?_
    obtain ⟨hin, hf⟩ := xguard hf
    refine va_zald hx hb hK hP 13 1 rfl rfl hin dX4_isFrozen_23 ?_
    refine lv_if_eq hx hb dX4_isFrozen_24 rfl (fun hc => ?_) (fun hc => ?_)
    · rw [if_pos hc] at hf
      exact t_X4_isFrozen_31 ⟨hx, hb, hml, hr, hlocks, hown, hno, hG⟩ hP hD  (lv_sub hl [] rfl) hf
    · rw [if_neg hc] at hf
      refine lv_iconst (v := 1) hx hb dX4_isFrozen_27 (by decide) ?_
      refine lv_goto hx hb dX4_isFrozen_28 rfl ?_
      exact t_X4_isFrozen_32 ⟨hx, hb, hml, hr, hlocks, hown, hno, hG⟩ hP hD  (lv_sub hl [] rfl) hf
noncomputable def f_X4_isFrozen (a : xT) (v1 : Int32) : Option (Int32) := g_X4_isFrozen_0 a v1
set_option maxHeartbeats 4000000 in
set_option maxRecDepth 100000 in
theorem c_X4_isFrozen (l : Launch) (D : va_G) (q : Nat → Nat) (k : Nat → ClassId) (a b : xT) (o : Nat → Int64) (v1 : Int32) (y : Int32) (hf : f_X4_isFrozen a v1 = some y) : xMet l yX4_isFrozen (.code yX4_isFrozen cX4_isFrozen 3 (some .boolean)) r_X4_isFrozen (xPc D q k a b o [.ref (q 0), .int v1]) (xQr (.inr (some (.int y)))) (xmc (.inr (some (.int y)))) (xms (.inr (some (.int y)))) (fun _ => False) := by
  refine xMet.ofW (by decide) ?_
  intro p e s m args below meth c hx hb hml hr hlocks hnm hme hno hv
  obtain ⟨rfl, hP, hD, hG⟩ := hv
  have hown : s.vm.findClass RX4 = some m.cls := findClass_of_methodNamed hnm
  have hl := lv_entry ([.ref (q 0), .int v1]) (n := 3) (Nat.le_of_ble_eq_true rfl)
  rw [lg_entry_eq]
  generalize (lg_sl ([.ref (q 0), .int v1]) ++ List.replicate (3 - (lg_sl ([.ref (q 0), .int v1])).length) Slot.unset).toArray = ls at hl ⊢
  have hl : lv_has ls 3 [(0, .ref (q 0)), (1, .int v1)] := hl
  exact t_X4_isFrozen_0 ⟨hx, hb, hml, hr, hlocks, hown, hno, hG⟩ hP hD hl hf
