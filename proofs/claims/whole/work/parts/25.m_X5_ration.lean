abbrev r_X5_ration : Room := { frames := 3, cells := 0, slots := 0, locals := 66 }
noncomputable def g_X5_ration_5  (b : xT)  : Option (Int32 × xT) := ((f_X5_rationed b ).bind fun z6 => some (z6.1, z6.2))
set_option maxHeartbeats 4000000 in
set_option maxRecDepth 100000 in
theorem t_X5_ration_5 {p : Program} {l : Launch} {e : Env} {s : State} {m : MethodId} {args : Array Value} {below : List Frame} {meth : Method} {c : Code} {D : va_G} {q : Nat → Nat} {k : Nat → ClassId} {a b : xT} {o : Nat → Int64} {z : xT} {y : Int32 × xT} (C : xCx p s m meth c cX5_ration 1 (some .int) RX5 D k) {H : Heap} {locs : List Loc} (hP : va_P D vwCl (xw q k a b o) H) (hD : va_D (va_A (xw q k a z o) s.heap.size) (xw q k a b o)) (hS : va_S (va_A (xw q k a z o) s.heap.size) s.heap H locs)  {ls : Array Slot} (hl : lv_has ls 1 [(0, .ref (q 23))]) (hf : g_X5_ration_5  b  = some y) : W p l e r_X5_ration s m args below meth c H locs 0 0 (xMQ below (xQm D q k a z o (.inr (some (.int y.1), a, y.2))) args s 0 0 (va_A (xw q k a z o) s.heap.size)) (F0 m 5 ls []) := by
  obtain ⟨hx, hb, hml, hr, hlocks, hown, hno, hG⟩ := C
  have hK := hG.1
  have hE := hG.2.1
  have hA : ∀ u, s.heap.size ≤ u → va_A (xw q k a z o) s.heap.size u := fun u h => Or.inr h
  unfold g_X5_ration_5 at hf
  refine lv_aload_n hx hb dX5_ration_5 rfl (lv_at hl 0 rfl) ?_
  obtain ⟨z6, hN, hf⟩ := xbind hf
  refine xgo_m (v := some (.int z6.1)) (a1 := a) (b1 := z6.2) (xrunV (C := RX5) (As := []) (rest := []) (xfixm fx_X5_rationed hx hb hml hown (by decide) (by decide) (by decide) (by decide)) hE ml_X5_81 wi_X5_rationed wz_X5_rationed wc_X5_rationed wn_X5 (c_X5_rationed l D q k _ a b o  _ hN) (va_recv (q := (RX5, TX5, 19)) (ci := 5) (q0 := 23) hK hP rfl rfl) (xprem hP hD hG) rfl rfl hl.1 rfl (lv_room (Nat.le_of_ble_eq_true rfl)) dX5_ration_6) hD hS hA (fun H locs hP hD hS => ?_)
  cases hf
  exact xretm_i hx hb hr hlocks hP hS dX5_ration_9
noncomputable def g_X5_ration_0  (b : xT)  : Option (Int32 × xT) := g_X5_ration_5  (xn b 0 0) 
set_option maxHeartbeats 4000000 in
set_option maxRecDepth 100000 in
theorem t_X5_ration_0 {p : Program} {l : Launch} {e : Env} {s : State} {m : MethodId} {args : Array Value} {below : List Frame} {meth : Method} {c : Code} {D : va_G} {q : Nat → Nat} {k : Nat → ClassId} {a b : xT} {o : Nat → Int64} {z : xT} {y : Int32 × xT} (C : xCx p s m meth c cX5_ration 1 (some .int) RX5 D k) {H : Heap} {locs : List Loc} (hP : va_P D vwCl (xw q k a b o) H) (hD : va_D (va_A (xw q k a z o) s.heap.size) (xw q k a b o)) (hS : va_S (va_A (xw q k a z o) s.heap.size) s.heap H locs)  {ls : Array Slot} (hl : lv_has ls 1 [(0, .ref (q 23))]) (hf : g_X5_ration_0  b  = some y) : W p l e r_X5_ration s m args below meth c H locs 0 0 (xMQ below (xQm D q k a z o (.inr (some (.int y.1), a, y.2))) args s 0 0 (va_A (xw q k a z o) s.heap.size)) (F0 m 0 ls []) := by
  obtain ⟨hx, hb, hml, hr, hlocks, hown, hno, hG⟩ := C
  have hK := hG.1
  have hE := hG.2.1
  have hA : ∀ u, s.heap.size ≤ u → va_A (xw q k a z o) s.heap.size u := fun u h => Or.inr h
  unfold g_X5_ration_0 at hf
  refine lv_aload_n hx hb dX5_ration_0 rfl (lv_at hl 0 rfl) ?_
  refine lv_iconst (v := 0) hx hb dX5_ration_1 (by decide) ?_
  refine va_put (D := D) (ci := 5) (v := .int 0) (ty := .int) (C := RX5) (T := TX5) (N := 19) hx hb (hwX5 hE) (fun _ h => h) tyX5 tyX5_ok nmX5 hown hK hP hD hS 23 rfl rfl 0 (by decide) (hE _ fl_X5_56 rfl _) (fun _ h9 => h9) rfl (by decide +kernel) rfl rfl (Nat.le_of_ble_eq_true rfl) dX5_ration_2 (fun H locs hP hD hS => ?_)
  rw [xw_n23_0] at hP hD
  exact t_X5_ration_5 ⟨hx, hb, hml, hr, hlocks, hown, hno, hG⟩ hP hD hS  (lv_sub hl [0] rfl) hf
noncomputable def f_X5_ration (b : xT)  : Option (Int32 × xT) := g_X5_ration_0 b 
set_option maxHeartbeats 4000000 in
set_option maxRecDepth 100000 in
theorem c_X5_ration (l : Launch) (D : va_G) (q : Nat → Nat) (k : Nat → ClassId) (sz : Nat) (a b : xT) (o : Nat → Int64)  (y : Int32 × xT) (hf : f_X5_ration b  = some y) : xMet l yX5_ration (.code yX5_ration cX5_ration 1 (some .int)) r_X5_ration (xPcm D q k sz a b o [.ref (q 23)]) (xQm D q k a b o (.inr (some (.int y.1), a, y.2))) 0 0 (va_A (xw q k a b o) sz) := by
  refine xMet.ofW (by decide) ?_
  intro p e s m args below meth c hx hb hml hr hlocks hnm hme hno hv
  obtain ⟨rfl, hsz, hP, hD, hG⟩ := hv
  subst hsz
  have hown : s.vm.findClass RX5 = some m.cls := findClass_of_methodNamed hnm
  have hl := lv_entry ([.ref (q 23)]) (n := 1) (Nat.le_of_ble_eq_true rfl)
  rw [lg_entry_eq]
  generalize (lg_sl ([.ref (q 23)]) ++ List.replicate (1 - (lg_sl ([.ref (q 23)])).length) Slot.unset).toArray = ls at hl ⊢
  have hl : lv_has ls 1 [(0, .ref (q 23))] := hl
  have hD := hD.self (sz := s.heap.size)
  exact t_X5_ration_0 ⟨hx, hb, hml, hr, hlocks, hown, hno, hG⟩ hP hD va_S.rf hl hf
abbrev r_X5_slotOf : Room := { frames := 1, cells := 0, slots := 0, locals := 21 }
noncomputable def g_X5_slotOf_34  (b : xT) (s0 : Int32) : Option (Int32 × xT) := some (s0, b)
set_option maxHeartbeats 4000000 in
set_option maxRecDepth 100000 in
theorem t_X5_slotOf_34 {p : Program} {l : Launch} {e : Env} {s : State} {m : MethodId} {args : Array Value} {below : List Frame} {meth : Method} {c : Code} {D : va_G} {q : Nat → Nat} {k : Nat → ClassId} {a b : xT} {o : Nat → Int64} {z : xT} {y : Int32 × xT} (C : xCx p s m meth c cX5_slotOf 2 (some .int) RX5 D k) {H : Heap} {locs : List Loc} (hP : va_P D vwCl (xw q k a b o) H) (hD : va_D (va_A (xw q k a z o) s.heap.size) (xw q k a b o)) (hS : va_S (va_A (xw q k a z o) s.heap.size) s.heap H locs)  {s0 : Int32} {ls : Array Slot} (hl : lv_has ls 2 []) (hf : g_X5_slotOf_34  b s0 = some y) : W p l e r_X5_slotOf s m args below meth c H locs 0 0 (xMQ below (xQm D q k a z o (.inr (some (.int y.1), a, y.2))) args s 0 0 (va_A (xw q k a z o) s.heap.size)) (F0 m 34 ls [.int s0]) := by
  obtain ⟨hx, hb, hml, hr, hlocks, hown, hno, hG⟩ := C
  have hK := hG.1
  have hE := hG.2.1
  have hA : ∀ u, s.heap.size ≤ u → va_A (xw q k a z o) s.heap.size u := fun u h => Or.inr h
  unfold g_X5_slotOf_34 at hf
  cases hf
  exact xretm_i hx hb hr hlocks hP hS dX5_slotOf_34
noncomputable def g_X5_slotOf_17  (b : xT) (v1 : Int32) : Option (Int32 × xT) := (if (b.2 0) ≤ 0 then (if xin v1 60 = true then g_X5_slotOf_34  b (b.1 6 v1.toNatClampNeg) else none) else g_X5_slotOf_34  b 0)
set_option maxHeartbeats 4000000 in
set_option maxRecDepth 100000 in
theorem t_X5_slotOf_17 {p : Program} {l : Launch} {e : Env} {s : State} {m : MethodId} {args : Array Value} {below : List Frame} {meth : Method} {c : Code} {D : va_G} {q : Nat → Nat} {k : Nat → ClassId} {a b : xT} {o : Nat → Int64} {z : xT} {y : Int32 × xT} (C : xCx p s m meth c cX5_slotOf 2 (some .int) RX5 D k) {H : Heap} {locs : List Loc} (hP : va_P D vwCl (xw q k a b o) H) (hD : va_D (va_A (xw q k a z o) s.heap.size) (xw q k a b o)) (hS : va_S (va_A (xw q k a z o) s.heap.size) s.heap H locs)  {v1 : Int32} {ls : Array Slot} (hl : lv_has ls 2 [(0, .ref (q 23)), (1, .int v1)]) (hf : g_X5_slotOf_17  b v1 = some y) : W p l e r_X5_slotOf s m args below meth c H locs 0 0 (xMQ below (xQm D q k a z o (.inr (some (.int y.1), a, y.2))) args s 0 0 (va_A (xw q k a z o) s.heap.size)) (F0 m 17 ls []) := by
  obtain ⟨hx, hb, hml, hr, hlocks, hown, hno, hG⟩ := C
  have hK := hG.1
  have hE := hG.2.1
  have hA : ∀ u, s.heap.size ≤ u → va_A (xw q k a z o) s.heap.size u := fun u h => Or.inr h
  unfold g_X5_slotOf_17 at hf
  refine lv_aload_n hx hb dX5_slotOf_17 rfl (lv_at hl 0 rfl) ?_
  refine va_get (D := D) (ci := 5) (v := .int (b.2 0)) (C := RX5) (T := TX5) (N := 19) hx hb (hwX5 hE) (fun _ h => h) hown hK hP 23 rfl rfl 0 (by decide) (hE _ fl_X5_56 rfl _) (fun _ h9 => h9) rfl dX5_slotOf_18 ?_
  refine lv_if_le hx hb dX5_slotOf_21 rfl (fun hc => ?_) (fun hc => ?_)
  · rw [if_pos hc] at hf
    refine lv_aload_n hx hb dX5_slotOf_28 rfl (lv_at hl 0 rfl) ?_
    refine va_get (D := D) (ci := 5) (v := .ref (q 30)) (C := RX5) (T := TX5) (N := 19) hx hb (hwX5 hE) (fun _ h => h) hown hK hP 23 rfl rfl 8 (by decide) (hE _ fl_X5_29 rfl _) (fun _ h9 => h9) rfl dX5_slotOf_29 ?_
    refine lv_iload_n hx hb dX5_slotOf_32 rfl (lv_at hl 1 rfl) ?_
    obtain ⟨hin, hf⟩ := xguard hf
    refine va_iald hx hb hK hP 30 0 rfl rfl hin dX5_slotOf_33 ?_
    exact t_X5_slotOf_34 ⟨hx, hb, hml, hr, hlocks, hown, hno, hG⟩ hP hD hS  (lv_sub hl [] rfl) hf
  · rw [if_neg hc] at hf
    refine lv_iconst (v := 0) hx hb dX5_slotOf_24 (by decide) ?_
    refine lv_goto hx hb dX5_slotOf_25 rfl ?_
    exact t_X5_slotOf_34 ⟨hx, hb, hml, hr, hlocks, hown, hno, hG⟩ hP hD hS  (lv_sub hl [] rfl) hf
noncomputable def g_X5_slotOf_14  (b : xT) (v1 : Int32) (s1 : Int32) : Option (Int32 × xT) := g_X5_slotOf_17  (xn b 0 s1) v1
set_option maxHeartbeats 4000000 in
set_option maxRecDepth 100000 in
theorem t_X5_slotOf_14 {p : Program} {l : Launch} {e : Env} {s : State} {m : MethodId} {args : Array Value} {below : List Frame} {meth : Method} {c : Code} {D : va_G} {q : Nat → Nat} {k : Nat → ClassId} {a b : xT} {o : Nat → Int64} {z : xT} {y : Int32 × xT} (C : xCx p s m meth c cX5_slotOf 2 (some .int) RX5 D k) {H : Heap} {locs : List Loc} (hP : va_P D vwCl (xw q k a b o) H) (hD : va_D (va_A (xw q k a z o) s.heap.size) (xw q k a b o)) (hS : va_S (va_A (xw q k a z o) s.heap.size) s.heap H locs)  {v1 s1 : Int32} {ls : Array Slot} (hl : lv_has ls 2 [(0, .ref (q 23)), (1, .int v1)]) (hf : g_X5_slotOf_14  b v1 s1 = some y) : W p l e r_X5_slotOf s m args below meth c H locs 0 0 (xMQ below (xQm D q k a z o (.inr (some (.int y.1), a, y.2))) args s 0 0 (va_A (xw q k a z o) s.heap.size)) (F0 m 14 ls [.int s1, .ref (q 23)]) := by
  obtain ⟨hx, hb, hml, hr, hlocks, hown, hno, hG⟩ := C
  have hK := hG.1
  have hE := hG.2.1
  have hA : ∀ u, s.heap.size ≤ u → va_A (xw q k a z o) s.heap.size u := fun u h => Or.inr h
  unfold g_X5_slotOf_14 at hf
  refine va_put (D := D) (ci := 5) (v := .int s1) (ty := .int) (C := RX5) (T := TX5) (N := 19) hx hb (hwX5 hE) (fun _ h => h) tyX5 tyX5_ok nmX5 hown hK hP hD hS 23 rfl rfl 0 (by decide) (hE _ fl_X5_56 rfl _) (fun _ h9 => h9) rfl (by decide +kernel) rfl rfl (Nat.le_of_ble_eq_true rfl) dX5_slotOf_14 (fun H locs hP hD hS => ?_)
  rw [xw_n23_0] at hP hD
  exact t_X5_slotOf_17 ⟨hx, hb, hml, hr, hlocks, hown, hno, hG⟩ hP hD hS  (lv_sub hl [0, 1] rfl) hf
noncomputable def g_X5_slotOf_0  (b : xT) (v1 : Int32) : Option (Int32 × xT) := ((f_X5_isFlight b v1).bind fun r3 => (if r3 = 0 then g_X5_slotOf_14  b v1 1 else g_X5_slotOf_14  b v1 0))
set_option maxHeartbeats 4000000 in
set_option maxRecDepth 100000 in
theorem t_X5_slotOf_0 {p : Program} {l : Launch} {e : Env} {s : State} {m : MethodId} {args : Array Value} {below : List Frame} {meth : Method} {c : Code} {D : va_G} {q : Nat → Nat} {k : Nat → ClassId} {a b : xT} {o : Nat → Int64} {z : xT} {y : Int32 × xT} (C : xCx p s m meth c cX5_slotOf 2 (some .int) RX5 D k) {H : Heap} {locs : List Loc} (hP : va_P D vwCl (xw q k a b o) H) (hD : va_D (va_A (xw q k a z o) s.heap.size) (xw q k a b o)) (hS : va_S (va_A (xw q k a z o) s.heap.size) s.heap H locs)  {v1 : Int32} {ls : Array Slot} (hl : lv_has ls 2 [(0, .ref (q 23)), (1, .int v1)]) (hf : g_X5_slotOf_0  b v1 = some y) : W p l e r_X5_slotOf s m args below meth c H locs 0 0 (xMQ below (xQm D q k a z o (.inr (some (.int y.1), a, y.2))) args s 0 0 (va_A (xw q k a z o) s.heap.size)) (F0 m 0 ls []) := by
  obtain ⟨hx, hb, hml, hr, hlocks, hown, hno, hG⟩ := C
  have hK := hG.1
  have hE := hG.2.1
  have hA : ∀ u, s.heap.size ≤ u → va_A (xw q k a z o) s.heap.size u := fun u h => Or.inr h
  unfold g_X5_slotOf_0 at hf
  refine lv_aload_n hx hb dX5_slotOf_0 rfl (lv_at hl 0 rfl) ?_
  refine lv_aload_n hx hb dX5_slotOf_1 rfl (lv_at hl 0 rfl) ?_
  refine lv_iload_n hx hb dX5_slotOf_2 rfl (lv_at hl 1 rfl) ?_
  obtain ⟨r3, hN, hf⟩ := xbind hf
  refine xgo_r (v := some (.int r3)) (xrunV (C := RX5) (As := [.int v1]) (rest := [.ref (q 23)]) (xfixm fx_X5_isFlight hx hb hml hown (by decide) (by decide) (by decide) (by decide)) hE ml_X5_91 wi_X5_isFlight wz_X5_isFlight wc_X5_isFlight wn_X5 (c_X5_isFlight l D q k a b o v1 _ hN) (va_recv (q := (RX5, TX5, 19)) (ci := 5) (q0 := 23) hK hP rfl rfl) (xpre hP hD hG) rfl rfl hl.1 rfl (lv_room (Nat.le_of_ble_eq_true rfl)) dX5_slotOf_3) ?_
  refine lv_if_eq hx hb dX5_slotOf_6 rfl (fun hc => ?_) (fun hc => ?_)
  · rw [if_pos hc] at hf
    refine lv_iconst (v := 1) hx hb dX5_slotOf_13 (by decide) ?_
    exact t_X5_slotOf_14 ⟨hx, hb, hml, hr, hlocks, hown, hno, hG⟩ hP hD hS  (lv_sub hl [0, 1] rfl) hf
  · rw [if_neg hc] at hf
    refine lv_iconst (v := 0) hx hb dX5_slotOf_9 (by decide) ?_
    refine lv_goto hx hb dX5_slotOf_10 rfl ?_
    exact t_X5_slotOf_14 ⟨hx, hb, hml, hr, hlocks, hown, hno, hG⟩ hP hD hS  (lv_sub hl [0, 1] rfl) hf
noncomputable def f_X5_slotOf (b : xT) (v1 : Int32) : Option (Int32 × xT) := g_X5_slotOf_0 b v1
set_option maxHeartbeats 4000000 in
set_option maxRecDepth 100000 in
theorem c_X5_slotOf (l : Launch) (D : va_G) (q : Nat → Nat) (k : Nat → ClassId) (sz : Nat) (a b : xT) (o : Nat → Int64) (v1 : Int32) (y : Int32 × xT) (hf : f_X5_slotOf b v1 = some y) : xMet l yX5_slotOf (.code yX5_slotOf cX5_slotOf 2 (some .int)) r_X5_slotOf (xPcm D q k sz a b o [.ref (q 23), .int v1]) (xQm D q k a b o (.inr (some (.int y.1), a, y.2))) 0 0 (va_A (xw q k a b o) sz) := by
  refine xMet.ofW (by decide) ?_
  intro p e s m args below meth c hx hb hml hr hlocks hnm hme hno hv
  obtain ⟨rfl, hsz, hP, hD, hG⟩ := hv
  subst hsz
  have hown : s.vm.findClass RX5 = some m.cls := findClass_of_methodNamed hnm
  have hl := lv_entry ([.ref (q 23), .int v1]) (n := 2) (Nat.le_of_ble_eq_true rfl)
  rw [lg_entry_eq]
  generalize (lg_sl ([.ref (q 23), .int v1]) ++ List.replicate (2 - (lg_sl ([.ref (q 23), .int v1])).length) Slot.unset).toArray = ls at hl ⊢
  have hl : lv_has ls 2 [(0, .ref (q 23)), (1, .int v1)] := hl
  have hD := hD.self (sz := s.heap.size)
  exact t_X5_slotOf_0 ⟨hx, hb, hml, hr, hlocks, hown, hno, hG⟩ hP hD va_S.rf hl hf
abbrev r_X5_swap : Room := { frames := 2, cells := 0, slots := 0, locals := 46 }
noncomputable def g_X5_swap_123  (b : xT) (v1 : Int32) (v2 : Int32) : Option (xT) := (if (b.2 0) ≤ 0 then (if xin v1 60 = true then (if xin v1 60 = true then (if xin v2 60 = true then ((f_X5_exchange b (b.1 6 v1.toNatClampNeg) (b.1 6 v2.toNatClampNeg)).bind fun z151 => (if xin v1 60 = true then ((f_X5_note z151 1 v1 (b.1 6 v1.toNatClampNeg) (z151.1 6 v1.toNatClampNeg)).bind fun z164 => some z164) else none)) else none) else none) else none) else some b)
set_option maxHeartbeats 4000000 in
set_option maxRecDepth 100000 in
theorem t_X5_swap_123 {p : Program} {l : Launch} {e : Env} {s : State} {m : MethodId} {args : Array Value} {below : List Frame} {meth : Method} {c : Code} {D : va_G} {q : Nat → Nat} {k : Nat → ClassId} {a b : xT} {o : Nat → Int64} {z : xT} {y : xT} (C : xCx p s m meth c cX5_swap 4 none RX5 D k) {H : Heap} {locs : List Loc} (hP : va_P D vwCl (xw q k a b o) H) (hD : va_D (va_A (xw q k a z o) s.heap.size) (xw q k a b o)) (hS : va_S (va_A (xw q k a z o) s.heap.size) s.heap H locs)  {v1 v2 : Int32} {ls : Array Slot} (hl : lv_has ls 4 [(0, .ref (q 23)), (1, .int v1), (2, .int v2)]) (hf : g_X5_swap_123  b v1 v2 = some y) : W p l e r_X5_swap s m args below meth c H locs 0 0 (xMQ below (xQm D q k a z o (.inr (none, a, y))) args s 0 0 (va_A (xw q k a z o) s.heap.size)) (F0 m 123 ls []) := by
  obtain ⟨hx, hb, hml, hr, hlocks, hown, hno, hG⟩ := C
  have hK := hG.1
  have hE := hG.2.1
  have hA : ∀ u, s.heap.size ≤ u → va_A (xw q k a z o) s.heap.size u := fun u h => Or.inr h
  unfold g_X5_swap_123 at hf
  refine lv_aload_n hx hb dX5_swap_123 rfl (lv_at hl 0 rfl) ?_
  refine va_get (D := D) (ci := 5) (v := .int (b.2 0)) (C := RX5) (T := TX5) (N := 19) hx hb (hwX5 hE) (fun _ h => h) hown hK hP 23 rfl rfl 0 (by decide) (hE _ fl_X5_56 rfl _) (fun _ h9 => h9) rfl dX5_swap_124 ?_
  refine lv_if_le hx hb dX5_swap_127 rfl (fun hc => ?_) (fun hc => ?_)
  · rw [if_pos hc] at hf
    refine lv_aload_n hx hb dX5_swap_131 rfl (lv_at hl 0 rfl) ?_
    refine va_get (D := D) (ci := 5) (v := .ref (q 30)) (C := RX5) (T := TX5) (N := 19) hx hb (hwX5 hE) (fun _ h => h) hown hK hP 23 rfl rfl 8 (by decide) (hE _ fl_X5_29 rfl _) (fun _ h9 => h9) rfl dX5_swap_132 ?_
    refine lv_iload_n hx hb dX5_swap_135 rfl (lv_at hl 1 rfl) ?_
    obtain ⟨hin, hf⟩ := xguard hf
    refine va_iald hx hb hK hP 30 0 rfl rfl hin dX5_swap_136 ?_
    refine lv_istore_n (lv' := [(3, .int (b.1 6 v1.toNatClampNeg)), (0, .ref (q 23)), (1, .int v1), (2, .int v2)]) hx hb dX5_swap_137 rfl hl (by decide) rfl (fun ls hl => ?_)
    refine lv_aload_n hx hb dX5_swap_138 rfl (lv_at hl 1 rfl) ?_
    refine lv_aload_n hx hb dX5_swap_139 rfl (lv_at hl 1 rfl) ?_
    refine va_get (D := D) (ci := 5) (v := .ref (q 30)) (C := RX5) (T := TX5) (N := 19) hx hb (hwX5 hE) (fun _ h => h) hown hK hP 23 rfl rfl 8 (by decide) (hE _ fl_X5_29 rfl _) (fun _ h9 => h9) rfl dX5_swap_140 ?_
    refine lv_iload_n hx hb dX5_swap_143 rfl (lv_at hl 2 rfl) ?_
    obtain ⟨hin, hf⟩ := xguard hf
    refine va_iald hx hb hK hP 30 0 rfl rfl hin dX5_swap_144 ?_
    refine lv_aload_n hx hb dX5_swap_145 rfl (lv_at hl 1 rfl) ?_
    refine va_get (D := D) (ci := 5) (v := .ref (q 30)) (C := RX5) (T := TX5) (N := 19) hx hb (hwX5 hE) (fun _ h => h) hown hK hP 23 rfl rfl 8 (by decide) (hE _ fl_X5_29 rfl _) (fun _ h9 => h9) rfl dX5_swap_146 ?_
    refine lv_iload_n hx hb dX5_swap_149 rfl (lv_at hl 3 rfl) ?_
    obtain ⟨hin, hf⟩ := xguard hf
    refine va_iald hx hb hK hP 30 0 rfl rfl hin dX5_swap_150 ?_
    obtain ⟨z151, hN, hf⟩ := xbind hf
    refine xgo_m (v := none) (a1 := a) (b1 := z151) (xrunV (C := RX5) (As := [.int (b.1 6 v1.toNatClampNeg), .int (b.1 6 v2.toNatClampNeg)]) (rest := []) (xfixm fx_X5_exchange hx hb hml hown (by decide) (by decide) (by decide) (by decide)) hE ml_X5_105 wi_X5_exchange wz_X5_exchange wc_X5_exchange wn_X5 (c_X5_exchange l D q k _ a b o (b.1 6 v1.toNatClampNeg) (b.1 6 v2.toNatClampNeg) _ hN) (va_recv (q := (RX5, TX5, 19)) (ci := 5) (q0 := 23) hK hP rfl rfl) (xprem hP hD hG) rfl rfl hl.1 rfl (lv_room (Nat.le_of_ble_eq_true rfl)) dX5_swap_151) hD hS hA (fun H locs hP hD hS => ?_)
    refine lv_aload_n hx hb dX5_swap_154 rfl (lv_at hl 1 rfl) ?_
    refine lv_iconst (v := 1) hx hb dX5_swap_155 (by decide) ?_
    refine lv_iload_n hx hb dX5_swap_156 rfl (lv_at hl 2 rfl) ?_
    refine lv_iload_n hx hb dX5_swap_157 rfl (lv_at hl 0 rfl) ?_
    refine lv_aload_n hx hb dX5_swap_158 rfl (lv_at hl 1 rfl) ?_
    refine va_get (D := D) (ci := 5) (v := .ref (q 30)) (C := RX5) (T := TX5) (N := 19) hx hb (hwX5 hE) (fun _ h => h) hown hK hP 23 rfl rfl 8 (by decide) (hE _ fl_X5_29 rfl _) (fun _ h9 => h9) rfl dX5_swap_159 ?_
    refine lv_iload_n hx hb dX5_swap_162 rfl (lv_at hl 2 rfl) ?_
    obtain ⟨hin, hf⟩ := xguard hf
    refine va_iald hx hb hK hP 30 0 rfl rfl hin dX5_swap_163 ?_
    obtain ⟨z164, hN, hf⟩ := xbind hf
    refine xgo_m (v := none) (a1 := a) (b1 := z164) (xrunV (C := RX5) (As := [.int 1, .int v1, .int (b.1 6 v1.toNatClampNeg), .int (z151.1 6 v1.toNatClampNeg)]) (rest := []) (xfixm fx_X5_note hx hb hml hown (by decide) (by decide) (by decide) (by decide)) hE ml_X5_97 wi_X5_note wz_X5_note wc_X5_note wn_X5 (c_X5_note l D q k _ a z151 o 1 v1 (b.1 6 v1.toNatClampNeg) (z151.1 6 v1.toNatClampNeg) _ hN) (va_recv (q := (RX5, TX5, 19)) (ci := 5) (q0 := 23) hK hP rfl rfl) (xprem hP hD hG) rfl rfl hl.1 rfl (lv_room (Nat.le_of_ble_eq_true rfl)) dX5_swap_164) hD hS hA (fun H locs hP hD hS => ?_)
    cases hf
    exact xretm_v hx hb hr hlocks hP hS dX5_swap_167
  · rw [if_neg hc] at hf
    cases hf
    exact xretm_v hx hb hr hlocks hP hS dX5_swap_130
noncomputable def g_X5_swap_118  (b : xT) (v1 : Int32) (v2 : Int32) : Option (xT) := g_X5_swap_123  (xn b 0 2) v1 v2
set_option maxHeartbeats 4000000 in
set_option maxRecDepth 100000 in
theorem t_X5_swap_118 {p : Program} {l : Launch} {e : Env} {s : State} {m : MethodId} {args : Array Value} {below : List Frame} {meth : Method} {c : Code} {D : va_G} {q : Nat → Nat} {k : Nat → ClassId} {a b : xT} {o : Nat → Int64} {z : xT} {y : xT} (C : xCx p s m meth c cX5_swap 4 none RX5 D k) {H : Heap} {locs : List Loc} (hP : va_P D vwCl (xw q k a b o) H) (hD : va_D (va_A (xw q k a z o) s.heap.size) (xw q k a b o)) (hS : va_S (va_A (xw q k a z o) s.heap.size) s.heap H locs)  {v1 v2 : Int32} {ls : Array Slot} (hl : lv_has ls 4 [(0, .ref (q 23)), (1, .int v1), (2, .int v2)]) (hf : g_X5_swap_118  b v1 v2 = some y) : W p l e r_X5_swap s m args below meth c H locs 0 0 (xMQ below (xQm D q k a z o (.inr (none, a, y))) args s 0 0 (va_A (xw q k a z o) s.heap.size)) (F0 m 118 ls []) := by
  obtain ⟨hx, hb, hml, hr, hlocks, hown, hno, hG⟩ := C
  have hK := hG.1
  have hE := hG.2.1
  have hA : ∀ u, s.heap.size ≤ u → va_A (xw q k a z o) s.heap.size u := fun u h => Or.inr h
  unfold g_X5_swap_118 at hf
  refine lv_aload_n hx hb dX5_swap_118 rfl (lv_at hl 0 rfl) ?_
  refine lv_iconst (v := 2) hx hb dX5_swap_119 (by decide) ?_
  refine va_put (D := D) (ci := 5) (v := .int 2) (ty := .int) (C := RX5) (T := TX5) (N := 19) hx hb (hwX5 hE) (fun _ h => h) tyX5 tyX5_ok nmX5 hown hK hP hD hS 23 rfl rfl 0 (by decide) (hE _ fl_X5_56 rfl _) (fun _ h9 => h9) rfl (by decide +kernel) rfl rfl (Nat.le_of_ble_eq_true rfl) dX5_swap_120 (fun H locs hP hD hS => ?_)
  rw [xw_n23_0] at hP hD
  exact t_X5_swap_123 ⟨hx, hb, hml, hr, hlocks, hown, hno, hG⟩ hP hD hS  (lv_sub hl [0, 1, 2] rfl) hf
noncomputable def g_X5_swap_45  (b : xT) (v1 : Int32) (v2 : Int32) : Option (xT) := (if (b.2 0) = 0 then (if xin v1 60 = true then (if (b.1 6 v1.toNatClampNeg) < 0 then g_X5_swap_118  b v1 v2 else (if xin v2 60 = true then (if (b.1 6 v2.toNatClampNeg) < 0 then g_X5_swap_118  b v1 v2 else (if xin v1 60 = true then (if (b.1 8 v1.toNatClampNeg) = 0 then (if xin v2 60 = true then (if (b.1 8 v2.toNatClampNeg) = 0 then (if xin v2 60 = true then (if xin v1 60 = true then (if (b.1 6 v2.toNatClampNeg) < (b.1 5 v1.toNatClampNeg) then g_X5_swap_118  b v1 v2 else (if xin v1 60 = true then (if xin v2 60 = true then (if (b.1 5 v2.toNatClampNeg) ≤ (b.1 6 v1.toNatClampNeg) then g_X5_swap_123  b v1 v2 else g_X5_swap_118  b v1 v2) else none) else none)) else none) else none) else g_X5_swap_118  b v1 v2) else none) else g_X5_swap_118  b v1 v2) else none)) else none)) else none) else g_X5_swap_123  b v1 v2)
set_option maxHeartbeats 4000000 in
set_option maxRecDepth 100000 in
theorem t_X5_swap_45 {p : Program} {l : Launch} {e : Env} {s : State} {m : MethodId} {args : Array Value} {below : List Frame} {meth : Method} {c : Code} {D : va_G} {q : Nat → Nat} {k : Nat → ClassId} {a b : xT} {o : Nat → Int64} {z : xT} {y : xT} (C : xCx p s m meth c cX5_swap 4 none RX5 D k) {H : Heap} {locs : List Loc} (hP : va_P D vwCl (xw q k a b o) H) (hD : va_D (va_A (xw q k a z o) s.heap.size) (xw q k a b o)) (hS : va_S (va_A (xw q k a z o) s.heap.size) s.heap H locs)  {v1 v2 : Int32} {ls : Array Slot} (hl : lv_has ls 4 [(0, .ref (q 23)), (1, .int v1), (2, .int v2)]) (hf : g_X5_swap_45  b v1 v2 = some y) : W p l e r_X5_swap s m args below meth c H locs 0 0 (xMQ below (xQm D q k a z o (.inr (none, a, y))) args s 0 0 (va_A (xw q k a z o) s.heap.size)) (F0 m 45 ls []) := by
  obtain ⟨hx, hb, hml, hr, hlocks, hown, hno, hG⟩ := C
  have hK := hG.1
  have hE := hG.2.1
  have hA : ∀ u, s.heap.size ≤ u → va_A (xw q k a z o) s.heap.size u := fun u h => Or.inr h
  unfold g_X5_swap_45 at hf
  refine lv_aload_n hx hb dX5_swap_45 rfl (lv_at hl 0 rfl) ?_
  refine va_get (D := D) (ci := 5) (v := .int (b.2 0)) (C := RX5) (T := TX5) (N := 19) hx hb (hwX5 hE) (fun _ h => h) hown hK hP 23 rfl rfl 0 (by decide) (hE _ fl_X5_56 rfl _) (fun _ h9 => h9) rfl dX5_swap_46 ?_
  refine lv_if_ne hx hb dX5_swap_49 rfl (fun hc => ?_) (fun hc => ?_)
  · rw [if_neg hc] at hf
    exact t_X5_swap_123 ⟨hx, hb, hml, hr, hlocks, hown, hno, hG⟩ hP hD hS  (lv_sub hl [0, 1, 2] rfl) hf
  · rw [if_pos hc] at hf
    refine lv_aload_n hx hb dX5_swap_52 rfl (lv_at hl 0 rfl) ?_
    refine va_get (D := D) (ci := 5) (v := .ref (q 30)) (C := RX5) (T := TX5) (N := 19) hx hb (hwX5 hE) (fun _ h => h) hown hK hP 23 rfl rfl 8 (by decide) (hE _ fl_X5_29 rfl _) (fun _ h9 => h9) rfl dX5_swap_53 ?_
    refine lv_iload_n hx hb dX5_swap_56 rfl (lv_at hl 1 rfl) ?_
    obtain ⟨hin, hf⟩ := xguard hf
    refine va_iald hx hb hK hP 30 0 rfl rfl hin dX5_swap_57 ?_
    refine lv_if_lt hx hb dX5_swap_58 rfl (fun hc => ?_) (fun hc => ?_)
    · rw [if_pos hc] at hf
      exact t_X5_swap_118 ⟨hx, hb, hml, hr, hlocks, hown, hno, hG⟩ hP hD hS  (lv_sub hl [0, 1, 2] rfl) hf
    · rw [if_neg hc] at hf
      refine lv_aload_n hx hb dX5_swap_61 rfl (lv_at hl 0 rfl) ?_
      refine va_get (D := D) (ci := 5) (v := .ref (q 30)) (C := RX5) (T := TX5) (N := 19) hx hb (hwX5 hE) (fun _ h => h) hown hK hP 23 rfl rfl 8 (by decide) (hE _ fl_X5_29 rfl _) (fun _ h9 => h9) rfl dX5_swap_62 ?_
      refine lv_iload_n hx hb dX5_swap_65 rfl (lv_at hl 2 rfl) ?_
      obtain ⟨hin, hf⟩ := xguard hf
      refine va_iald hx hb hK hP 30 0 rfl rfl hin dX5_swap_66 ?_
      refine lv_if_lt hx hb dX5_swap_67 rfl (fun hc => ?_) (fun hc => ?_)
      · rw [if_pos hc] at hf
        exact t_X5_swap_118 ⟨hx, hb, hml, hr, hlocks, hown, hno, hG⟩ hP hD hS  (lv_sub hl [0, 1, 2] rfl) hf
      · rw [if_neg hc] at hf
        refine lv_aload_n hx hb dX5_swap_70 rfl (lv_at hl 0 rfl) ?_
        refine va_get (D := D) (ci := 5) (v := .ref (q 32)) (C := RX5) (T := TX5) (N := 19) hx hb (hwX5 hE) (fun _ h => h) hown hK hP 23 rfl rfl 10 (by decide) (hE _ fl_X5_35 rfl _) (fun _ h9 => h9) rfl dX5_swap_71 ?_
        refine lv_iload_n hx hb dX5_swap_74 rfl (lv_at hl 1 rfl) ?_
        obtain ⟨hin, hf⟩ := xguard hf
        refine va_zald hx hb hK hP 32 1 rfl rfl hin dX5_swap_75 ?_
        refine lv_if_ne hx hb dX5_swap_76 rfl (fun hc => ?_) (fun hc => ?_)
        · rw [if_neg hc] at hf
          exact t_X5_swap_118 ⟨hx, hb, hml, hr, hlocks, hown, hno, hG⟩ hP hD hS  (lv_sub hl [0, 1, 2] rfl) hf
        · rw [if_pos hc] at hf
          refine lv_aload_n hx hb dX5_swap_79 rfl (lv_at hl 0 rfl) ?_
          refine va_get (D := D) (ci := 5) (v := .ref (q 32)) (C := RX5) (T := TX5) (N := 19) hx hb (hwX5 hE) (fun _ h => h) hown hK hP 23 rfl rfl 10 (by decide) (hE _ fl_X5_35 rfl _) (fun _ h9 => h9) rfl dX5_swap_80 ?_
          refine lv_iload_n hx hb dX5_swap_83 rfl (lv_at hl 2 rfl) ?_
          obtain ⟨hin, hf⟩ := xguard hf
          refine va_zald hx hb hK hP 32 1 rfl rfl hin dX5_swap_84 ?_
          refine lv_if_ne hx hb dX5_swap_85 rfl (fun hc => ?_) (fun hc => ?_)
          · rw [if_neg hc] at hf
            exact t_X5_swap_118 ⟨hx, hb, hml, hr, hlocks, hown, hno, hG⟩ hP hD hS  (lv_sub hl [0, 1, 2] rfl) hf
          · rw [if_pos hc] at hf
            refine lv_aload_n hx hb dX5_swap_88 rfl (lv_at hl 0 rfl) ?_
            refine va_get (D := D) (ci := 5) (v := .ref (q 30)) (C := RX5) (T := TX5) (N := 19) hx hb (hwX5 hE) (fun _ h => h) hown hK hP 23 rfl rfl 8 (by decide) (hE _ fl_X5_29 rfl _) (fun _ h9 => h9) rfl dX5_swap_89 ?_
            refine lv_iload_n hx hb dX5_swap_92 rfl (lv_at hl 2 rfl) ?_
            obtain ⟨hin, hf⟩ := xguard hf
            refine va_iald hx hb hK hP 30 0 rfl rfl hin dX5_swap_93 ?_
            refine lv_aload_n hx hb dX5_swap_94 rfl (lv_at hl 0 rfl) ?_
            refine va_get (D := D) (ci := 5) (v := .ref (q 29)) (C := RX5) (T := TX5) (N := 19) hx hb (hwX5 hE) (fun _ h => h) hown hK hP 23 rfl rfl 7 (by decide) (hE _ fl_X5_26 rfl _) (fun _ h9 => h9) rfl dX5_swap_95 ?_
            refine lv_iload_n hx hb dX5_swap_98 rfl (lv_at hl 1 rfl) ?_
            obtain ⟨hin, hf⟩ := xguard hf
            refine va_iald hx hb hK hP 29 0 rfl rfl hin dX5_swap_99 ?_
            refine lv_icmp_lt hx hb dX5_swap_100 rfl (fun hc => ?_) (fun hc => ?_)
            · rw [if_pos hc] at hf
              exact t_X5_swap_118 ⟨hx, hb, hml, hr, hlocks, hown, hno, hG⟩ hP hD hS  (lv_sub hl [0, 1, 2] rfl) hf
            · rw [if_neg hc] at hf
              refine lv_aload_n hx hb dX5_swap_103 rfl (lv_at hl 0 rfl) ?_
              refine va_get (D := D) (ci := 5) (v := .ref (q 30)) (C := RX5) (T := TX5) (N := 19) hx hb (hwX5 hE) (fun _ h => h) hown hK hP 23 rfl rfl 8 (by decide) (hE _ fl_X5_29 rfl _) (fun _ h9 => h9) rfl dX5_swap_104 ?_
              refine lv_iload_n hx hb dX5_swap_107 rfl (lv_at hl 1 rfl) ?_
              obtain ⟨hin, hf⟩ := xguard hf
              refine va_iald hx hb hK hP 30 0 rfl rfl hin dX5_swap_108 ?_
              refine lv_aload_n hx hb dX5_swap_109 rfl (lv_at hl 0 rfl) ?_
              refine va_get (D := D) (ci := 5) (v := .ref (q 29)) (C := RX5) (T := TX5) (N := 19) hx hb (hwX5 hE) (fun _ h => h) hown hK hP 23 rfl rfl 7 (by decide) (hE _ fl_X5_26 rfl _) (fun _ h9 => h9) rfl dX5_swap_110 ?_
              refine lv_iload_n hx hb dX5_swap_113 rfl (lv_at hl 2 rfl) ?_
              obtain ⟨hin, hf⟩ := xguard hf
              refine va_iald hx hb hK hP 29 0 rfl rfl hin dX5_swap_114 ?_
              refine lv_icmp_ge hx hb dX5_swap_115 rfl (fun hc => ?_) (fun hc => ?_)
              · rw [if_pos hc] at hf
                exact t_X5_swap_123 ⟨hx, hb, hml, hr, hlocks, hown, hno, hG⟩ hP hD hS  (lv_sub hl [0, 1, 2] rfl) hf
              · rw [if_neg hc] at hf
                exact t_X5_swap_118 ⟨hx, hb, hml, hr, hlocks, hown, hno, hG⟩ hP hD hS  (lv_sub hl [0, 1, 2] rfl) hf
noncomputable def g_X5_swap_42  (b : xT) (v1 : Int32) (v2 : Int32) (s1 : Int32) : Option (xT) := g_X5_swap_45  (xn b 0 s1) v1 v2
set_option maxHeartbeats 4000000 in
set_option maxRecDepth 100000 in
theorem t_X5_swap_42 {p : Program} {l : Launch} {e : Env} {s : State} {m : MethodId} {args : Array Value} {below : List Frame} {meth : Method} {c : Code} {D : va_G} {q : Nat → Nat} {k : Nat → ClassId} {a b : xT} {o : Nat → Int64} {z : xT} {y : xT} (C : xCx p s m meth c cX5_swap 4 none RX5 D k) {H : Heap} {locs : List Loc} (hP : va_P D vwCl (xw q k a b o) H) (hD : va_D (va_A (xw q k a z o) s.heap.size) (xw q k a b o)) (hS : va_S (va_A (xw q k a z o) s.heap.size) s.heap H locs)  {v1 v2 s1 : Int32} {ls : Array Slot} (hl : lv_has ls 4 [(0, .ref (q 23)), (1, .int v1), (2, .int v2)]) (hf : g_X5_swap_42  b v1 v2 s1 = some y) : W p l e r_X5_swap s m args below meth c H locs 0 0 (xMQ below (xQm D q k a z o (.inr (none, a, y))) args s 0 0 (va_A (xw q k a z o) s.heap.size)) (F0 m 42 ls [.int s1, .ref (q 23)]) := by
  obtain ⟨hx, hb, hml, hr, hlocks, hown, hno, hG⟩ := C
  have hK := hG.1
  have hE := hG.2.1
  have hA : ∀ u, s.heap.size ≤ u → va_A (xw q k a z o) s.heap.size u := fun u h => Or.inr h
  unfold g_X5_swap_42 at hf
  refine va_put (D := D) (ci := 5) (v := .int s1) (ty := .int) (C := RX5) (T := TX5) (N := 19) hx hb (hwX5 hE) (fun _ h => h) tyX5 tyX5_ok nmX5 hown hK hP hD hS 23 rfl rfl 0 (by decide) (hE _ fl_X5_56 rfl _) (fun _ h9 => h9) rfl (by decide +kernel) rfl rfl (Nat.le_of_ble_eq_true rfl) dX5_swap_42 (fun H locs hP hD hS => ?_)
  rw [xw_n23_0] at hP hD
  exact t_X5_swap_45 ⟨hx, hb, hml, hr, hlocks, hown, hno, hG⟩ hP hD hS  (lv_sub hl [0, 1, 2] rfl) hf
noncomputable def g_X5_swap_37  (b : xT) (v1 : Int32) (v2 : Int32) : Option (xT) := g_X5_swap_42  b v1 v2 1
set_option maxHeartbeats 4000000 in
set_option maxRecDepth 100000 in
theorem t_X5_swap_37 {p : Program} {l : Launch} {e : Env} {s : State} {m : MethodId} {args : Array Value} {below : List Frame} {meth : Method} {c : Code} {D : va_G} {q : Nat → Nat} {k : Nat → ClassId} {a b : xT} {o : Nat → Int64} {z : xT} {y : xT} (C : xCx p s m meth c cX5_swap 4 none RX5 D k) {H : Heap} {locs : List Loc} (hP : va_P D vwCl (xw q k a b o) H) (hD : va_D (va_A (xw q k a z o) s.heap.size) (xw q k a b o)) (hS : va_S (va_A (xw q k a z o) s.heap.size) s.heap H locs)  {v1 v2 : Int32} {ls : Array Slot} (hl : lv_has ls 4 [(0, .ref (q 23)), (1, .int v1), (2, .int v2)]) (hf : g_X5_swap_37  b v1 v2 = some y) : W p l e r_X5_swap s m args below meth c H locs 0 0 (xMQ below (xQm D q k a z o (.inr (none, a, y))) args s 0 0 (va_A (xw q k a z o) s.heap.size)) (F0 m 37 ls [.ref (q 23)]) := by
  obtain ⟨hx, hb, hml, hr, hlocks, hown, hno, hG⟩ := C
  have hK := hG.1
  have hE := hG.2.1
  have hA : ∀ u, s.heap.size ≤ u → va_A (xw q k a z o) s.heap.size u := fun u h => Or.inr h
  unfold g_X5_swap_37 at hf
  refine lv_iconst (v := 1) hx hb dX5_swap_37 (by decide) ?_
  refine lv_goto hx hb dX5_swap_38 rfl ?_
  exact t_X5_swap_42 ⟨hx, hb, hml, hr, hlocks, hown, hno, hG⟩ hP hD hS  (lv_sub hl [0, 1, 2] rfl) hf
noncomputable def g_X5_swap_0  (b : xT) (v1 : Int32) (v2 : Int32) : Option (xT) := ((f_X5_isFlight b v1).bind fun r3 => (if r3 = 0 then g_X5_swap_37  b v1 v2 else ((f_X5_isFlight b v2).bind fun r11 => (if r11 = 0 then g_X5_swap_37  b v1 v2 else (if v1 = v2 then g_X5_swap_37  b v1 v2 else (if xin v1 60 = true then (if xin v2 60 = true then (if (b.1 3 v1.toNatClampNeg) = (b.1 3 v2.toNatClampNeg) then g_X5_swap_42  b v1 v2 0 else g_X5_swap_37  b v1 v2) else none) else none))))))
set_option maxHeartbeats 4000000 in
set_option maxRecDepth 100000 in
theorem t_X5_swap_0 {p : Program} {l : Launch} {e : Env} {s : State} {m : MethodId} {args : Array Value} {below : List Frame} {meth : Method} {c : Code} {D : va_G} {q : Nat → Nat} {k : Nat → ClassId} {a b : xT} {o : Nat → Int64} {z : xT} {y : xT} (C : xCx p s m meth c cX5_swap 4 none RX5 D k) {H : Heap} {locs : List Loc} (hP : va_P D vwCl (xw q k a b o) H) (hD : va_D (va_A (xw q k a z o) s.heap.size) (xw q k a b o)) (hS : va_S (va_A (xw q k a z o) s.heap.size) s.heap H locs)  {v1 v2 : Int32} {ls : Array Slot} (hl : lv_has ls 4 [(0, .ref (q 23)), (1, .int v1), (2, .int v2)]) (hf : g_X5_swap_0  b v1 v2 = some y) : W p l e r_X5_swap s m args below meth c H locs 0 0 (xMQ below (xQm D q k a z o (.inr (none, a, y))) args s 0 0 (va_A (xw q k a z o) s.heap.size)) (F0 m 0 ls []) := by
  obtain ⟨hx, hb, hml, hr, hlocks, hown, hno, hG⟩ := C
  have hK := hG.1
  have hE := hG.2.1
  have hA : ∀ u, s.heap.size ≤ u → va_A (xw q k a z o) s.heap.size u := fun u h => Or.inr h
  unfold g_X5_swap_0 at hf
  refine lv_aload_n hx hb dX5_swap_0 rfl (lv_at hl 0 rfl) ?_
  refine lv_aload_n hx hb dX5_swap_1 rfl (lv_at hl 0 rfl) ?_
  refine lv_iload_n hx hb dX5_swap_2 rfl (lv_at hl 1 rfl) ?_
  obtain ⟨r3, hN, hf⟩ := xbind hf
  refine xgo_r (v := some (.int r3)) (xrunV (C := RX5) (As := [.int v1]) (rest := [.ref (q 23)]) (xfixm fx_X5_isFlight hx hb hml hown (by decide) (by decide) (by decide) (by decide)) hE ml_X5_91 wi_X5_isFlight wz_X5_isFlight wc_X5_isFlight wn_X5 (c_X5_isFlight l D q k a b o v1 _ hN) (va_recv (q := (RX5, TX5, 19)) (ci := 5) (q0 := 23) hK hP rfl rfl) (xpre hP hD hG) rfl rfl hl.1 rfl (lv_room (Nat.le_of_ble_eq_true rfl)) dX5_swap_3) ?_
  refine lv_if_eq hx hb dX5_swap_6 rfl (fun hc => ?_) (fun hc => ?_)
  · rw [if_pos hc] at hf
    exact t_X5_swap_37 ⟨hx, hb, hml, hr, hlocks, hown, hno, hG⟩ hP hD hS  (lv_sub hl [0, 1, 2] rfl) hf
  · rw [if_neg hc] at hf
    refine lv_aload_n hx hb dX5_swap_9 rfl (lv_at hl 0 rfl) ?_
    refine lv_iload_n hx hb dX5_swap_10 rfl (lv_at hl 2 rfl) ?_
    obtain ⟨r11, hN, hf⟩ := xbind hf
    refine xgo_r (v := some (.int r11)) (xrunV (C := RX5) (As := [.int v2]) (rest := [.ref (q 23)]) (xfixm fx_X5_isFlight hx hb hml hown (by decide) (by decide) (by decide) (by decide)) hE ml_X5_91 wi_X5_isFlight wz_X5_isFlight wc_X5_isFlight wn_X5 (c_X5_isFlight l D q k a b o v2 _ hN) (va_recv (q := (RX5, TX5, 19)) (ci := 5) (q0 := 23) hK hP rfl rfl) (xpre hP hD hG) rfl rfl hl.1 rfl (lv_room (Nat.le_of_ble_eq_true rfl)) dX5_swap_11) ?_
    refine lv_if_eq hx hb dX5_swap_14 rfl (fun hc => ?_) (fun hc => ?_)
    · rw [if_pos hc] at hf
      exact t_X5_swap_37 ⟨hx, hb, hml, hr, hlocks, hown, hno, hG⟩ hP hD hS  (lv_sub hl [0, 1, 2] rfl) hf
    · rw [if_neg hc] at hf
      refine lv_iload_n hx hb dX5_swap_17 rfl (lv_at hl 1 rfl) ?_
      refine lv_iload_n hx hb dX5_swap_18 rfl (lv_at hl 2 rfl) ?_
      refine lv_icmp_eq hx hb dX5_swap_19 rfl (fun hc => ?_) (fun hc => ?_)
      · rw [if_pos hc] at hf
        exact t_X5_swap_37 ⟨hx, hb, hml, hr, hlocks, hown, hno, hG⟩ hP hD hS  (lv_sub hl [0, 1, 2] rfl) hf
      · rw [if_neg hc] at hf
        refine lv_aload_n hx hb dX5_swap_22 rfl (lv_at hl 0 rfl) ?_
        refine va_get (D := D) (ci := 5) (v := .ref (q 27)) (C := RX5) (T := TX5) (N := 19) hx hb (hwX5 hE) (fun _ h => h) hown hK hP 23 rfl rfl 5 (by decide) (hE _ fl_X5_20 rfl _) (fun _ h9 => h9) rfl dX5_swap_23 ?_
        refine lv_iload_n hx hb dX5_swap_26 rfl (lv_at hl 1 rfl) ?_
        obtain ⟨hin, hf⟩ := xguard hf
        refine va_iald hx hb hK hP 27 0 rfl rfl hin dX5_swap_27 ?_
        refine lv_aload_n hx hb dX5_swap_28 rfl (lv_at hl 0 rfl) ?_
        refine va_get (D := D) (ci := 5) (v := .ref (q 27)) (C := RX5) (T := TX5) (N := 19) hx hb (hwX5 hE) (fun _ h => h) hown hK hP 23 rfl rfl 5 (by decide) (hE _ fl_X5_20 rfl _) (fun _ h9 => h9) rfl dX5_swap_29 ?_
        refine lv_iload_n hx hb dX5_swap_32 rfl (lv_at hl 2 rfl) ?_
        obtain ⟨hin, hf⟩ := xguard hf
        refine va_iald hx hb hK hP 27 0 rfl rfl hin dX5_swap_33 ?_
        refine lv_icmp_eq hx hb dX5_swap_34 rfl (fun hc => ?_) (fun hc => ?_)
        · rw [if_pos hc] at hf
          refine lv_iconst (v := 0) hx hb dX5_swap_41 (by decide) ?_
          exact t_X5_swap_42 ⟨hx, hb, hml, hr, hlocks, hown, hno, hG⟩ hP hD hS  (lv_sub hl [0, 1, 2] rfl) hf
        · rw [if_neg hc] at hf
          exact t_X5_swap_37 ⟨hx, hb, hml, hr, hlocks, hown, hno, hG⟩ hP hD hS  (lv_sub hl [0, 1, 2] rfl) hf
noncomputable def f_X5_swap (b : xT) (v1 : Int32) (v2 : Int32) : Option (xT) := g_X5_swap_0 b v1 v2
set_option maxHeartbeats 4000000 in
set_option maxRecDepth 100000 in
theorem c_X5_swap (l : Launch) (D : va_G) (q : Nat → Nat) (k : Nat → ClassId) (sz : Nat) (a b : xT) (o : Nat → Int64) (v1 : Int32) (v2 : Int32) (y : xT) (hf : f_X5_swap b v1 v2 = some y) : xMet l yX5_swap (.code yX5_swap cX5_swap 4 none) r_X5_swap (xPcm D q k sz a b o [.ref (q 23), .int v1, .int v2]) (xQm D q k a b o (.inr (none, a, y))) 0 0 (va_A (xw q k a b o) sz) := by
  refine xMet.ofW (by decide) ?_
  intro p e s m args below meth c hx hb hml hr hlocks hnm hme hno hv
  obtain ⟨rfl, hsz, hP, hD, hG⟩ := hv
  subst hsz
  have hown : s.vm.findClass RX5 = some m.cls := findClass_of_methodNamed hnm
  have hl := lv_entry ([.ref (q 23), .int v1, .int v2]) (n := 4) (Nat.le_of_ble_eq_true rfl)
  rw [lg_entry_eq]
  generalize (lg_sl ([.ref (q 23), .int v1, .int v2]) ++ List.replicate (4 - (lg_sl ([.ref (q 23), .int v1, .int v2])).length) Slot.unset).toArray = ls at hl ⊢
  have hl : lv_has ls 4 [(0, .ref (q 23)), (1, .int v1), (2, .int v2)] := hl
  have hD := hD.self (sz := s.heap.size)
  exact t_X5_swap_0 ⟨hx, hb, hml, hr, hlocks, hown, hno, hG⟩ hP hD va_S.rf hl hf
abbrev r_X5_thrown : Room := { frames := 0, cells := 0, slots := 0, locals := 0 }
noncomputable def g_X5_thrown_0  (b : xT)  : Option (Int32) := some (b.2 0)
set_option maxHeartbeats 4000000 in
set_option maxRecDepth 100000 in
theorem t_X5_thrown_0 {p : Program} {l : Launch} {e : Env} {s : State} {m : MethodId} {args : Array Value} {below : List Frame} {meth : Method} {c : Code} {D : va_G} {q : Nat → Nat} {k : Nat → ClassId} {a b : xT} {o : Nat → Int64} {y : Int32} (C : xCx p s m meth c cX5_thrown 1 (some .int) RX5 D k) (hP : va_P D vwCl (xw q k a b o) s.heap) (hD : va_D (fun _ => True) (xw q k a b o))  {ls : Array Slot} (hl : lv_has ls 1 [(0, .ref (q 23))]) (hf : g_X5_thrown_0  b  = some y) : W p l e r_X5_thrown s m args below meth c s.heap [] 0 0 (xMQ below (xQr (.inr (some (.int y)))) args s (xmc (.inr (some (.int y)))) (xms (.inr (some (.int y)))) (fun _ => False)) (F0 m 0 ls []) := by
  obtain ⟨hx, hb, hml, hr, hlocks, hown, hno, hG⟩ := C
  have hK := hG.1
  have hE := hG.2.1
  unfold g_X5_thrown_0 at hf
  refine lv_aload_n hx hb dX5_thrown_0 rfl (lv_at hl 0 rfl) ?_
  refine va_get (D := D) (ci := 5) (v := .int (b.2 0)) (C := RX5) (T := TX5) (N := 19) hx hb (hwX5 hE) (fun _ h => h) hown hK hP 23 rfl rfl 0 (by decide) (hE _ fl_X5_56 rfl _) (fun _ h9 => h9) rfl dX5_thrown_1 ?_
  cases hf
  exact xret_i hx hb hr hlocks dX5_thrown_4
noncomputable def f_X5_thrown (b : xT)  : Option (Int32) := g_X5_thrown_0 b 
set_option maxHeartbeats 4000000 in
set_option maxRecDepth 100000 in
theorem c_X5_thrown (l : Launch) (D : va_G) (q : Nat → Nat) (k : Nat → ClassId) (a b : xT) (o : Nat → Int64)  (y : Int32) (hf : f_X5_thrown b  = some y) : xMet l yX5_thrown (.code yX5_thrown cX5_thrown 1 (some .int)) r_X5_thrown (xPc D q k a b o [.ref (q 23)]) (xQr (.inr (some (.int y)))) (xmc (.inr (some (.int y)))) (xms (.inr (some (.int y)))) (fun _ => False) := by
  refine xMet.ofW (by decide) ?_
  intro p e s m args below meth c hx hb hml hr hlocks hnm hme hno hv
  obtain ⟨rfl, hP, hD, hG⟩ := hv
  have hown : s.vm.findClass RX5 = some m.cls := findClass_of_methodNamed hnm
  have hl := lv_entry ([.ref (q 23)]) (n := 1) (Nat.le_of_ble_eq_true rfl)
  rw [lg_entry_eq]
  generalize (lg_sl ([.ref (q 23)]) ++ List.replicate (1 - (lg_sl ([.ref (q 23)])).length) Slot.unset).toArray = ls at hl ⊢
  have hl : lv_has ls 1 [(0, .ref (q 23))] := hl
  exact t_X5_thrown_0 ⟨hx, hb, hml, hr, hlocks, hown, hno, hG⟩ hP hD hl hf
abbrev r_X5_trade : Room := { frames := 3, cells := 0, slots := 0, locals := 69 }
noncomputable def g_X5_trade_108 (K9 : xT → Int32 → Int32 → Option (Int32 × xT)) (b : xT) (v1 : Int32) (v2 : Int32) : Option (Int32 × xT) := K9 b v1 (v2 + 1)
set_option maxHeartbeats 4000000 in
set_option maxRecDepth 100000 in
theorem t_X5_trade_108 {p : Program} {l : Launch} {e : Env} {s : State} {m : MethodId} {args : Array Value} {below : List Frame} {meth : Method} {c : Code} {D : va_G} {q : Nat → Nat} {k : Nat → ClassId} {a b : xT} {o : Nat → Int64} {z : xT} {y : Int32 × xT} (C : xCx p s m meth c cX5_trade 5 (some .int) RX5 D k) {H : Heap} {locs : List Loc} (hP : va_P D vwCl (xw q k a b o) H) (hD : va_D (va_A (xw q k a z o) s.heap.size) (xw q k a b o)) (hS : va_S (va_A (xw q k a z o) s.heap.size) s.heap H locs) {K9 : xT → Int32 → Int32 → Option (Int32 × xT)} (hK9 : ∀ {b : xT} {v1 v2 : Int32} {ls : Array Slot} {H : Heap} {locs : List Loc}, va_P D vwCl (xw q k a b o) H → va_D (va_A (xw q k a z o) s.heap.size) (xw q k a b o) → va_S (va_A (xw q k a z o) s.heap.size) s.heap H locs → lv_has ls 5 [(0, .ref (q 23)), (1, .int v1), (2, .int v2)] → K9 b v1 v2 = some y → W p l e r_X5_trade s m args below meth c H locs 0 0 (xMQ below (xQm D q k a z o (.inr (some (.int y.1), a, y.2))) args s 0 0 (va_A (xw q k a z o) s.heap.size)) (F0 m 9 ls [])) {v1 v2 : Int32} {ls : Array Slot} (hl : lv_has ls 5 [(0, .ref (q 23)), (1, .int v1), (2, .int v2)]) (hf : g_X5_trade_108 K9 b v1 v2 = some y) : W p l e r_X5_trade s m args below meth c H locs 0 0 (xMQ below (xQm D q k a z o (.inr (some (.int y.1), a, y.2))) args s 0 0 (va_A (xw q k a z o) s.heap.size)) (F0 m 108 ls []) := by
  obtain ⟨hx, hb, hml, hr, hlocks, hown, hno, hG⟩ := C
  have hK := hG.1
  have hE := hG.2.1
  have hA : ∀ u, s.heap.size ≤ u → va_A (xw q k a z o) s.heap.size u := fun u h => Or.inr h
  unfold g_X5_trade_108 at hf
  refine lv_iinc (k := 2) (v := v2 + 1) (lv' := [(2, .int (v2 + 1)), (0, .ref (q 23)), (1, .int v1)]) hx hb dX5_trade_108 hl rfl (xinc (by decide) _) (by decide) rfl (fun ls hl => ?_)
  refine lv_goto hx hb dX5_trade_111 rfl ?_
  exact hK9 hP hD hS (lv_sub hl [1, 2, 0] rfl) hf
noncomputable def g_X5_trade_92 (K9 : xT → Int32 → Int32 → Option (Int32 × xT)) (b : xT) (v1 : Int32) (v2 : Int32) : Option (Int32 × xT) := (if xin v2 40 = true then (if xin v2 40 = true then ((f_X5_exchange b (b.1 11 v2.toNatClampNeg) (b.1 12 v2.toNatClampNeg)).bind fun z105 => g_X5_trade_108 K9 z105 v1 v2) else none) else none)
set_option maxHeartbeats 4000000 in
set_option maxRecDepth 100000 in
theorem t_X5_trade_92 {p : Program} {l : Launch} {e : Env} {s : State} {m : MethodId} {args : Array Value} {below : List Frame} {meth : Method} {c : Code} {D : va_G} {q : Nat → Nat} {k : Nat → ClassId} {a b : xT} {o : Nat → Int64} {z : xT} {y : Int32 × xT} (C : xCx p s m meth c cX5_trade 5 (some .int) RX5 D k) {H : Heap} {locs : List Loc} (hP : va_P D vwCl (xw q k a b o) H) (hD : va_D (va_A (xw q k a z o) s.heap.size) (xw q k a b o)) (hS : va_S (va_A (xw q k a z o) s.heap.size) s.heap H locs) {K9 : xT → Int32 → Int32 → Option (Int32 × xT)} (hK9 : ∀ {b : xT} {v1 v2 : Int32} {ls : Array Slot} {H : Heap} {locs : List Loc}, va_P D vwCl (xw q k a b o) H → va_D (va_A (xw q k a z o) s.heap.size) (xw q k a b o) → va_S (va_A (xw q k a z o) s.heap.size) s.heap H locs → lv_has ls 5 [(0, .ref (q 23)), (1, .int v1), (2, .int v2)] → K9 b v1 v2 = some y → W p l e r_X5_trade s m args below meth c H locs 0 0 (xMQ below (xQm D q k a z o (.inr (some (.int y.1), a, y.2))) args s 0 0 (va_A (xw q k a z o) s.heap.size)) (F0 m 9 ls [])) {v1 v2 : Int32} {ls : Array Slot} (hl : lv_has ls 5 [(0, .ref (q 23)), (1, .int v1), (2, .int v2)]) (hf : g_X5_trade_92 K9 b v1 v2 = some y) : W p l e r_X5_trade s m args below meth c H locs 0 0 (xMQ below (xQm D q k a z o (.inr (some (.int y.1), a, y.2))) args s 0 0 (va_A (xw q k a z o) s.heap.size)) (F0 m 92 ls []) := by
  obtain ⟨hx, hb, hml, hr, hlocks, hown, hno, hG⟩ := C
  have hK := hG.1
  have hE := hG.2.1
  have hA : ∀ u, s.heap.size ≤ u → va_A (xw q k a z o) s.heap.size u := fun u h => Or.inr h
  unfold g_X5_trade_92 at hf
  refine lv_aload_n hx hb dX5_trade_92 rfl (lv_at hl 0 rfl) ?_
  refine lv_aload_n hx hb dX5_trade_93 rfl (lv_at hl 0 rfl) ?_
  refine va_get (D := D) (ci := 5) (v := .ref (q 35)) (C := RX5) (T := TX5) (N := 19) hx hb (hwX5 hE) (fun _ h => h) hown hK hP 23 rfl rfl 14 (by decide) (hE _ fl_X5_44 rfl _) (fun _ h9 => h9) rfl dX5_trade_94 ?_
  refine lv_iload_n hx hb dX5_trade_97 rfl (lv_at hl 2 rfl) ?_
  obtain ⟨hin, hf⟩ := xguard hf
  refine va_iald hx hb hK hP 35 0 rfl rfl hin dX5_trade_98 ?_
  refine lv_aload_n hx hb dX5_trade_99 rfl (lv_at hl 0 rfl) ?_
  refine va_get (D := D) (ci := 5) (v := .ref (q 36)) (C := RX5) (T := TX5) (N := 19) hx hb (hwX5 hE) (fun _ h => h) hown hK hP 23 rfl rfl 15 (by decide) (hE _ fl_X5_47 rfl _) (fun _ h9 => h9) rfl dX5_trade_100 ?_
  refine lv_iload_n hx hb dX5_trade_103 rfl (lv_at hl 2 rfl) ?_
  obtain ⟨hin, hf⟩ := xguard hf
  refine va_iald hx hb hK hP 36 0 rfl rfl hin dX5_trade_104 ?_
  obtain ⟨z105, hN, hf⟩ := xbind hf
  refine xgo_m (v := none) (a1 := a) (b1 := z105) (xrunV (C := RX5) (As := [.int (b.1 11 v2.toNatClampNeg), .int (b.1 12 v2.toNatClampNeg)]) (rest := []) (xfixm fx_X5_exchange hx hb hml hown (by decide) (by decide) (by decide) (by decide)) hE ml_X5_105 wi_X5_exchange wz_X5_exchange wc_X5_exchange wn_X5 (c_X5_exchange l D q k _ a b o (b.1 11 v2.toNatClampNeg) (b.1 12 v2.toNatClampNeg) _ hN) (va_recv (q := (RX5, TX5, 19)) (ci := 5) (q0 := 23) hK hP rfl rfl) (xprem hP hD hG) rfl rfl hl.1 rfl (lv_room (Nat.le_of_ble_eq_true rfl)) dX5_trade_105) hD hS hA (fun H locs hP hD hS => ?_)
  exact t_X5_trade_108 ⟨hx, hb, hml, hr, hlocks, hown, hno, hG⟩ hP hD hS hK9 (lv_sub hl [0, 1, 2] rfl) hf
noncomputable def g_X5_trade_70 (K9 : xT → Int32 → Int32 → Option (Int32 × xT)) (b : xT) (v1 : Int32) (v2 : Int32) (v4 : Int32) : Option (Int32 × xT) := ((f_X5_close b v2).bind fun z72 => (if v4 < 0 then g_X5_trade_92 K9 z72 (v1 + 1) v2 else ((f_X5_close z72 v4).bind fun z86 => g_X5_trade_92 K9 z86 ((v1 + 1) + 1) v2)))
set_option maxHeartbeats 4000000 in
set_option maxRecDepth 100000 in
theorem t_X5_trade_70 {p : Program} {l : Launch} {e : Env} {s : State} {m : MethodId} {args : Array Value} {below : List Frame} {meth : Method} {c : Code} {D : va_G} {q : Nat → Nat} {k : Nat → ClassId} {a b : xT} {o : Nat → Int64} {z : xT} {y : Int32 × xT} (C : xCx p s m meth c cX5_trade 5 (some .int) RX5 D k) {H : Heap} {locs : List Loc} (hP : va_P D vwCl (xw q k a b o) H) (hD : va_D (va_A (xw q k a z o) s.heap.size) (xw q k a b o)) (hS : va_S (va_A (xw q k a z o) s.heap.size) s.heap H locs) {K9 : xT → Int32 → Int32 → Option (Int32 × xT)} (hK9 : ∀ {b : xT} {v1 v2 : Int32} {ls : Array Slot} {H : Heap} {locs : List Loc}, va_P D vwCl (xw q k a b o) H → va_D (va_A (xw q k a z o) s.heap.size) (xw q k a b o) → va_S (va_A (xw q k a z o) s.heap.size) s.heap H locs → lv_has ls 5 [(0, .ref (q 23)), (1, .int v1), (2, .int v2)] → K9 b v1 v2 = some y → W p l e r_X5_trade s m args below meth c H locs 0 0 (xMQ below (xQm D q k a z o (.inr (some (.int y.1), a, y.2))) args s 0 0 (va_A (xw q k a z o) s.heap.size)) (F0 m 9 ls [])) {v1 v2 v4 : Int32} {ls : Array Slot} (hl : lv_has ls 5 [(0, .ref (q 23)), (1, .int v1), (2, .int v2), (4, .int v4)]) (hf : g_X5_trade_70 K9 b v1 v2 v4 = some y) : W p l e r_X5_trade s m args below meth c H locs 0 0 (xMQ below (xQm D q k a z o (.inr (some (.int y.1), a, y.2))) args s 0 0 (va_A (xw q k a z o) s.heap.size)) (F0 m 70 ls []) := by
  obtain ⟨hx, hb, hml, hr, hlocks, hown, hno, hG⟩ := C
  have hK := hG.1
  have hE := hG.2.1
  have hA : ∀ u, s.heap.size ≤ u → va_A (xw q k a z o) s.heap.size u := fun u h => Or.inr h
  unfold g_X5_trade_70 at hf
  refine lv_aload_n hx hb dX5_trade_70 rfl (lv_at hl 0 rfl) ?_
  refine lv_iload_n hx hb dX5_trade_71 rfl (lv_at hl 2 rfl) ?_
  obtain ⟨z72, hN, hf⟩ := xbind hf
  refine xgo_m (v := none) (a1 := a) (b1 := z72) (xrunV (C := RX5) (As := [.int v2]) (rest := []) (xfixm fx_X5_close hx hb hml hown (by decide) (by decide) (by decide) (by decide)) hE ml_X5_118 wi_X5_close wz_X5_close wc_X5_close wn_X5 (c_X5_close l D q k _ a b o v2 _ hN) (va_recv (q := (RX5, TX5, 19)) (ci := 5) (q0 := 23) hK hP rfl rfl) (xprem hP hD hG) rfl rfl hl.1 rfl (lv_room (Nat.le_of_ble_eq_true rfl)) dX5_trade_72) hD hS hA (fun H locs hP hD hS => ?_)
  refine lv_iinc (k := 1) (v := v1 + 1) (lv' := [(1, .int (v1 + 1)), (0, .ref (q 23)), (2, .int v2), (4, .int v4)]) hx hb dX5_trade_75 hl rfl (xinc (by decide) _) (by decide) rfl (fun ls hl => ?_)
  refine lv_iload hx hb dX5_trade_78 (lv_at hl 3 rfl) ?_
  refine lv_if_lt hx hb dX5_trade_80 rfl (fun hc => ?_) (fun hc => ?_)
  · rw [if_pos hc] at hf
    exact t_X5_trade_92 ⟨hx, hb, hml, hr, hlocks, hown, hno, hG⟩ hP hD hS hK9 (lv_sub hl [1, 0, 2] rfl) hf
  · rw [if_neg hc] at hf
    refine lv_aload_n hx hb dX5_trade_83 rfl (lv_at hl 1 rfl) ?_
    refine lv_iload hx hb dX5_trade_84 (lv_at hl 3 rfl) ?_
    obtain ⟨z86, hN, hf⟩ := xbind hf
    refine xgo_m (v := none) (a1 := a) (b1 := z86) (xrunV (C := RX5) (As := [.int v4]) (rest := []) (xfixm fx_X5_close hx hb hml hown (by decide) (by decide) (by decide) (by decide)) hE ml_X5_118 wi_X5_close wz_X5_close wc_X5_close wn_X5 (c_X5_close l D q k _ a z72 o v4 _ hN) (va_recv (q := (RX5, TX5, 19)) (ci := 5) (q0 := 23) hK hP rfl rfl) (xprem hP hD hG) rfl rfl hl.1 rfl (lv_room (Nat.le_of_ble_eq_true rfl)) dX5_trade_86) hD hS hA (fun H locs hP hD hS => ?_)
    refine lv_iinc (k := 0) (v := (v1 + 1) + 1) (lv' := [(1, .int ((v1 + 1) + 1)), (0, .ref (q 23)), (2, .int v2), (4, .int v4)]) hx hb dX5_trade_89 hl rfl (xinc (by decide) _) (by decide) rfl (fun ls hl => ?_)
    exact t_X5_trade_92 ⟨hx, hb, hml, hr, hlocks, hown, hno, hG⟩ hP hD hS hK9 (lv_sub hl [1, 0, 2] rfl) hf
noncomputable def g_X5_trade_59 (K9 : xT → Int32 → Int32 → Option (Int32 × xT)) (b : xT) (v1 : Int32) (v2 : Int32) (v3 : Int32) (s0 : Int32) : Option (Int32 × xT) := (if v3 = 0 then (if s0 < 0 then g_X5_trade_108 K9 b v1 v2 else g_X5_trade_70 K9 b v1 v2 s0) else g_X5_trade_70 K9 b v1 v2 s0)
set_option maxHeartbeats 4000000 in
set_option maxRecDepth 100000 in
theorem t_X5_trade_59 {p : Program} {l : Launch} {e : Env} {s : State} {m : MethodId} {args : Array Value} {below : List Frame} {meth : Method} {c : Code} {D : va_G} {q : Nat → Nat} {k : Nat → ClassId} {a b : xT} {o : Nat → Int64} {z : xT} {y : Int32 × xT} (C : xCx p s m meth c cX5_trade 5 (some .int) RX5 D k) {H : Heap} {locs : List Loc} (hP : va_P D vwCl (xw q k a b o) H) (hD : va_D (va_A (xw q k a z o) s.heap.size) (xw q k a b o)) (hS : va_S (va_A (xw q k a z o) s.heap.size) s.heap H locs) {K9 : xT → Int32 → Int32 → Option (Int32 × xT)} (hK9 : ∀ {b : xT} {v1 v2 : Int32} {ls : Array Slot} {H : Heap} {locs : List Loc}, va_P D vwCl (xw q k a b o) H → va_D (va_A (xw q k a z o) s.heap.size) (xw q k a b o) → va_S (va_A (xw q k a z o) s.heap.size) s.heap H locs → lv_has ls 5 [(0, .ref (q 23)), (1, .int v1), (2, .int v2)] → K9 b v1 v2 = some y → W p l e r_X5_trade s m args below meth c H locs 0 0 (xMQ below (xQm D q k a z o (.inr (some (.int y.1), a, y.2))) args s 0 0 (va_A (xw q k a z o) s.heap.size)) (F0 m 9 ls [])) {v1 v2 v3 s0 : Int32} {ls : Array Slot} (hl : lv_has ls 5 [(0, .ref (q 23)), (1, .int v1), (2, .int v2), (3, .int v3)]) (hf : g_X5_trade_59 K9 b v1 v2 v3 s0 = some y) : W p l e r_X5_trade s m args below meth c H locs 0 0 (xMQ below (xQm D q k a z o (.inr (some (.int y.1), a, y.2))) args s 0 0 (va_A (xw q k a z o) s.heap.size)) (F0 m 59 ls [.int s0]) := by
  obtain ⟨hx, hb, hml, hr, hlocks, hown, hno, hG⟩ := C
  have hK := hG.1
  have hE := hG.2.1
  have hA : ∀ u, s.heap.size ≤ u → va_A (xw q k a z o) s.heap.size u := fun u h => Or.inr h
  unfold g_X5_trade_59 at hf
  refine lv_istore (lv' := [(4, .int s0), (0, .ref (q 23)), (1, .int v1), (2, .int v2), (3, .int v3)]) hx hb dX5_trade_59 hl (by decide) rfl (fun ls hl => ?_)
  refine lv_iload_n hx hb dX5_trade_61 rfl (lv_at hl 4 rfl) ?_
  refine lv_if_ne hx hb dX5_trade_62 rfl (fun hc => ?_) (fun hc => ?_)
  · rw [if_neg hc] at hf
    exact t_X5_trade_70 ⟨hx, hb, hml, hr, hlocks, hown, hno, hG⟩ hP hD hS hK9 (lv_sub hl [1, 2, 3, 0] rfl) hf
  · rw [if_pos hc] at hf
    refine lv_iload hx hb dX5_trade_65 (lv_at hl 0 rfl) ?_
    refine lv_if_lt hx hb dX5_trade_67 rfl (fun hc => ?_) (fun hc => ?_)
    · rw [if_pos hc] at hf
      exact t_X5_trade_108 ⟨hx, hb, hml, hr, hlocks, hown, hno, hG⟩ hP hD hS hK9 (lv_sub hl [1, 2, 3] rfl) hf
    · rw [if_neg hc] at hf
      exact t_X5_trade_70 ⟨hx, hb, hml, hr, hlocks, hown, hno, hG⟩ hP hD hS hK9 (lv_sub hl [1, 2, 3, 0] rfl) hf
noncomputable def g_X5_trade_45 (K9 : xT → Int32 → Int32 → Option (Int32 × xT)) (b : xT) (v1 : Int32) (v2 : Int32) (s0 : Int32) : Option (Int32 × xT) := (if s0 = 0 then ((f_X5_partner b v2).bind fun r56 => g_X5_trade_59 K9 b v1 v2 s0 r56) else g_X5_trade_59 K9 b v1 v2 s0 (-1))
set_option maxHeartbeats 4000000 in
set_option maxRecDepth 100000 in
theorem t_X5_trade_45 {p : Program} {l : Launch} {e : Env} {s : State} {m : MethodId} {args : Array Value} {below : List Frame} {meth : Method} {c : Code} {D : va_G} {q : Nat → Nat} {k : Nat → ClassId} {a b : xT} {o : Nat → Int64} {z : xT} {y : Int32 × xT} (C : xCx p s m meth c cX5_trade 5 (some .int) RX5 D k) {H : Heap} {locs : List Loc} (hP : va_P D vwCl (xw q k a b o) H) (hD : va_D (va_A (xw q k a z o) s.heap.size) (xw q k a b o)) (hS : va_S (va_A (xw q k a z o) s.heap.size) s.heap H locs) {K9 : xT → Int32 → Int32 → Option (Int32 × xT)} (hK9 : ∀ {b : xT} {v1 v2 : Int32} {ls : Array Slot} {H : Heap} {locs : List Loc}, va_P D vwCl (xw q k a b o) H → va_D (va_A (xw q k a z o) s.heap.size) (xw q k a b o) → va_S (va_A (xw q k a z o) s.heap.size) s.heap H locs → lv_has ls 5 [(0, .ref (q 23)), (1, .int v1), (2, .int v2)] → K9 b v1 v2 = some y → W p l e r_X5_trade s m args below meth c H locs 0 0 (xMQ below (xQm D q k a z o (.inr (some (.int y.1), a, y.2))) args s 0 0 (va_A (xw q k a z o) s.heap.size)) (F0 m 9 ls [])) {v1 v2 s0 : Int32} {ls : Array Slot} (hl : lv_has ls 5 [(0, .ref (q 23)), (1, .int v1), (2, .int v2)]) (hf : g_X5_trade_45 K9 b v1 v2 s0 = some y) : W p l e r_X5_trade s m args below meth c H locs 0 0 (xMQ below (xQm D q k a z o (.inr (some (.int y.1), a, y.2))) args s 0 0 (va_A (xw q k a z o) s.heap.size)) (F0 m 45 ls [.int s0]) := by
  obtain ⟨hx, hb, hml, hr, hlocks, hown, hno, hG⟩ := C
  have hK := hG.1
  have hE := hG.2.1
  have hA : ∀ u, s.heap.size ≤ u → va_A (xw q k a z o) s.heap.size u := fun u h => Or.inr h
  unfold g_X5_trade_45 at hf
  refine lv_istore_n (lv' := [(3, .int s0), (0, .ref (q 23)), (1, .int v1), (2, .int v2)]) hx hb dX5_trade_45 rfl hl (by decide) rfl (fun ls hl => ?_)
  refine lv_iload_n hx hb dX5_trade_46 rfl (lv_at hl 0 rfl) ?_
  refine lv_if_eq hx hb dX5_trade_47 rfl (fun hc => ?_) (fun hc => ?_)
  · rw [if_pos hc] at hf
    refine lv_aload_n hx hb dX5_trade_54 rfl (lv_at hl 1 rfl) ?_
    refine lv_iload_n hx hb dX5_trade_55 rfl (lv_at hl 3 rfl) ?_
    obtain ⟨r56, hN, hf⟩ := xbind hf
    refine xgo_r (v := some (.int r56)) (xrunV (C := RX5) (As := [.int v2]) (rest := []) (xfixm fx_X5_partner hx hb hml hown (by decide) (by decide) (by decide) (by decide)) hE ml_X5_114 wi_X5_partner wz_X5_partner wc_X5_partner wn_X5 (c_X5_partner l D q k a b o v2 _ hN) (va_recv (q := (RX5, TX5, 19)) (ci := 5) (q0 := 23) hK hP rfl rfl) (xpre hP hD hG) rfl rfl hl.1 rfl (lv_room (Nat.le_of_ble_eq_true rfl)) dX5_trade_56) ?_
    exact t_X5_trade_59 ⟨hx, hb, hml, hr, hlocks, hown, hno, hG⟩ hP hD hS hK9 (lv_sub hl [1, 2, 3, 0] rfl) hf
  · rw [if_neg hc] at hf
    refine lv_iconst (v := -1) hx hb dX5_trade_50 (by decide) ?_
    refine lv_goto hx hb dX5_trade_51 rfl ?_
    exact t_X5_trade_59 ⟨hx, hb, hml, hr, hlocks, hown, hno, hG⟩ hP hD hS hK9 (lv_sub hl [1, 2, 3, 0] rfl) hf
noncomputable def g_X5_trade_9s (K9 : xT → Int32 → Int32 → Option (Int32 × xT)) (b : xT) (v1 : Int32) (v2 : Int32) : Option (Int32 × xT) := (if (b.2 2) ≤ v2 then some (v1, b) else ((f_X5_isGood b v2).bind fun r19 => (if r19 = 0 then g_X5_trade_108 K9 b v1 v2 else (if xin v2 40 = true then (if xin (b.1 12 v2.toNatClampNeg) 240 = true then (if (b.1 1 (b.1 12 v2.toNatClampNeg).toNatClampNeg) = (-1) then g_X5_trade_45 K9 b v1 v2 1 else g_X5_trade_45 K9 b v1 v2 0) else none) else none))))
set_option maxHeartbeats 4000000 in
set_option maxRecDepth 100000 in
theorem t_X5_trade_9s {p : Program} {l : Launch} {e : Env} {s : State} {m : MethodId} {args : Array Value} {below : List Frame} {meth : Method} {c : Code} {D : va_G} {q : Nat → Nat} {k : Nat → ClassId} {a b : xT} {o : Nat → Int64} {z : xT} {y : Int32 × xT} (C : xCx p s m meth c cX5_trade 5 (some .int) RX5 D k) {H : Heap} {locs : List Loc} (hP : va_P D vwCl (xw q k a b o) H) (hD : va_D (va_A (xw q k a z o) s.heap.size) (xw q k a b o)) (hS : va_S (va_A (xw q k a z o) s.heap.size) s.heap H locs) {K9 : xT → Int32 → Int32 → Option (Int32 × xT)} (hK9 : ∀ {b : xT} {v1 v2 : Int32} {ls : Array Slot} {H : Heap} {locs : List Loc}, va_P D vwCl (xw q k a b o) H → va_D (va_A (xw q k a z o) s.heap.size) (xw q k a b o) → va_S (va_A (xw q k a z o) s.heap.size) s.heap H locs → lv_has ls 5 [(0, .ref (q 23)), (1, .int v1), (2, .int v2)] → K9 b v1 v2 = some y → W p l e r_X5_trade s m args below meth c H locs 0 0 (xMQ below (xQm D q k a z o (.inr (some (.int y.1), a, y.2))) args s 0 0 (va_A (xw q k a z o) s.heap.size)) (F0 m 9 ls [])) {v1 v2 : Int32} {ls : Array Slot} (hl : lv_has ls 5 [(0, .ref (q 23)), (1, .int v1), (2, .int v2)]) (hf : g_X5_trade_9s K9 b v1 v2 = some y) : W p l e r_X5_trade s m args below meth c H locs 0 0 (xMQ below (xQm D q k a z o (.inr (some (.int y.1), a, y.2))) args s 0 0 (va_A (xw q k a z o) s.heap.size)) (F0 m 9 ls []) := by
  obtain ⟨hx, hb, hml, hr, hlocks, hown, hno, hG⟩ := C
  have hK := hG.1
  have hE := hG.2.1
  have hA : ∀ u, s.heap.size ≤ u → va_A (xw q k a z o) s.heap.size u := fun u h => Or.inr h
  unfold g_X5_trade_9s at hf
  refine lv_iload_n hx hb dX5_trade_9 rfl (lv_at hl 2 rfl) ?_
  refine lv_aload_n hx hb dX5_trade_10 rfl (lv_at hl 0 rfl) ?_
  refine va_get (D := D) (ci := 5) (v := .int (b.2 2)) (C := RX5) (T := TX5) (N := 19) hx hb (hwX5 hE) (fun _ h => h) hown hK hP 23 rfl rfl 12 (by decide) (hE _ fl_X5_108 rfl _) (fun _ h9 => h9) rfl dX5_trade_11 ?_
  refine lv_icmp_ge hx hb dX5_trade_14 rfl (fun hc => ?_) (fun hc => ?_)
  · rw [if_pos hc] at hf
    refine lv_iload_n hx hb dX5_trade_114 rfl (lv_at hl 1 rfl) ?_
    cases hf
    exact xretm_i hx hb hr hlocks hP hS dX5_trade_115
  · rw [if_neg hc] at hf
    refine lv_aload_n hx hb dX5_trade_17 rfl (lv_at hl 0 rfl) ?_
    refine lv_iload_n hx hb dX5_trade_18 rfl (lv_at hl 2 rfl) ?_
    obtain ⟨r19, hN, hf⟩ := xbind hf
    refine xgo_r (v := some (.int r19)) (xrunV (C := RX5) (As := [.int v2]) (rest := []) (xfixm fx_X5_isGood hx hb hml hown (by decide) (by decide) (by decide) (by decide)) hE ml_X5_111 wi_X5_isGood wz_X5_isGood wc_X5_isGood wn_X5 (c_X5_isGood l D q k a b o v2 _ hN) (va_recv (q := (RX5, TX5, 19)) (ci := 5) (q0 := 23) hK hP rfl rfl) (xpre hP hD hG) rfl rfl hl.1 rfl (lv_room (Nat.le_of_ble_eq_true rfl)) dX5_trade_19) ?_
    refine lv_if_eq hx hb dX5_trade_22 rfl (fun hc => ?_) (fun hc => ?_)
    · rw [if_pos hc] at hf
      exact t_X5_trade_108 ⟨hx, hb, hml, hr, hlocks, hown, hno, hG⟩ hP hD hS hK9 (lv_sub hl [0, 1, 2] rfl) hf
    · rw [if_neg hc] at hf
      refine lv_aload_n hx hb dX5_trade_25 rfl (lv_at hl 0 rfl) ?_
      refine va_get (D := D) (ci := 5) (v := .ref (q 25)) (C := RX5) (T := TX5) (N := 19) hx hb (hwX5 hE) (fun _ h => h) hown hK hP 23 rfl rfl 2 (by decide) (hE _ fl_X5_13 rfl _) (fun _ h9 => h9) rfl dX5_trade_26 ?_
      refine lv_aload_n hx hb dX5_trade_29 rfl (lv_at hl 0 rfl) ?_
      refine va_get (D := D) (ci := 5) (v := .ref (q 36)) (C := RX5) (T := TX5) (N := 19) hx hb (hwX5 hE) (fun _ h => h) hown hK hP 23 rfl rfl 15 (by decide) (hE _ fl_X5_47 rfl _) (fun _ h9 => h9) rfl dX5_trade_30 ?_
      refine lv_iload_n hx hb dX5_trade_33 rfl (lv_at hl 2 rfl) ?_
      obtain ⟨hin, hf⟩ := xguard hf
      refine va_iald hx hb hK hP 36 0 rfl rfl hin dX5_trade_34 ?_
      obtain ⟨hin, hf⟩ := xguard hf
      refine va_iald hx hb hK hP 25 0 rfl rfl hin dX5_trade_35 ?_
      refine lv_iconst (v := -1) hx hb dX5_trade_36 (by decide) ?_
      refine lv_icmp_ne hx hb dX5_trade_37 rfl (fun hc => ?_) (fun hc => ?_)
      · rw [if_neg hc] at hf
        refine lv_iconst (v := 0) hx hb dX5_trade_44 (by decide) ?_
        exact t_X5_trade_45 ⟨hx, hb, hml, hr, hlocks, hown, hno, hG⟩ hP hD hS hK9 (lv_sub hl [0, 1, 2] rfl) hf
      · rw [if_pos hc] at hf
        refine lv_iconst (v := 1) hx hb dX5_trade_40 (by decide) ?_
        refine lv_goto hx hb dX5_trade_41 rfl ?_
        exact t_X5_trade_45 ⟨hx, hb, hml, hr, hlocks, hown, hno, hG⟩ hP hD hS hK9 (lv_sub hl [0, 1, 2] rfl) hf
noncomputable def g_X5_trade_9  : Nat → xT → Int32 → Int32 → Option (Int32 × xT) := fun n => Nat.rec (motive := fun _ => xT → Int32 → Int32 → Option (Int32 × xT)) (fun _ _ _ => none) (fun _ ih => g_X5_trade_9s ih) n
set_option maxHeartbeats 4000000 in
theorem t_X5_trade_9 {p : Program} {l : Launch} {e : Env} {s : State} {m : MethodId} {args : Array Value} {below : List Frame} {meth : Method} {c : Code} {D : va_G} {q : Nat → Nat} {k : Nat → ClassId} {a : xT} {o : Nat → Int64} {z : xT} {y : Int32 × xT} (C : xCx p s m meth c cX5_trade 5 (some .int) RX5 D k)  (n : Nat) : ∀ {b : xT} {v1 v2 : Int32} {ls : Array Slot} {H : Heap} {locs : List Loc}, va_P D vwCl (xw q k a b o) H → va_D (va_A (xw q k a z o) s.heap.size) (xw q k a b o) → va_S (va_A (xw q k a z o) s.heap.size) s.heap H locs → lv_has ls 5 [(0, .ref (q 23)), (1, .int v1), (2, .int v2)] → g_X5_trade_9  n b v1 v2 = some y → W p l e r_X5_trade s m args below meth c H locs 0 0 (xMQ below (xQm D q k a z o (.inr (some (.int y.1), a, y.2))) args s 0 0 (va_A (xw q k a z o) s.heap.size)) (F0 m 9 ls []) := by
  induction n with
  | zero =>
    intro _ _ _ _ _ _ _ _ _ _ hf
    have h9 : (none : Option (Int32 × xT)) = some y := hf
    cases h9
  | succ n ih =>
    intro _ _ _ _ _ _ hP hD hS hl hf
    exact t_X5_trade_9s C hP hD hS (K9 := g_X5_trade_9  n) ih hl hf
noncomputable def g_X5_trade_5  (b : xT)  : Option (Int32 × xT) := g_X5_trade_9  1000 b 0 0
set_option maxHeartbeats 4000000 in
set_option maxRecDepth 100000 in
theorem t_X5_trade_5 {p : Program} {l : Launch} {e : Env} {s : State} {m : MethodId} {args : Array Value} {below : List Frame} {meth : Method} {c : Code} {D : va_G} {q : Nat → Nat} {k : Nat → ClassId} {a b : xT} {o : Nat → Int64} {z : xT} {y : Int32 × xT} (C : xCx p s m meth c cX5_trade 5 (some .int) RX5 D k) {H : Heap} {locs : List Loc} (hP : va_P D vwCl (xw q k a b o) H) (hD : va_D (va_A (xw q k a z o) s.heap.size) (xw q k a b o)) (hS : va_S (va_A (xw q k a z o) s.heap.size) s.heap H locs)  {ls : Array Slot} (hl : lv_has ls 5 [(0, .ref (q 23))]) (hf : g_X5_trade_5  b  = some y) : W p l e r_X5_trade s m args below meth c H locs 0 0 (xMQ below (xQm D q k a z o (.inr (some (.int y.1), a, y.2))) args s 0 0 (va_A (xw q k a z o) s.heap.size)) (F0 m 5 ls []) := by
  obtain ⟨hx, hb, hml, hr, hlocks, hown, hno, hG⟩ := C
  have hK := hG.1
  have hE := hG.2.1
  have hA : ∀ u, s.heap.size ≤ u → va_A (xw q k a z o) s.heap.size u := fun u h => Or.inr h
  unfold g_X5_trade_5 at hf
  refine lv_iconst (v := 0) hx hb dX5_trade_5 (by decide) ?_
  refine lv_istore_n (lv' := [(1, .int 0), (0, .ref (q 23))]) hx hb dX5_trade_6 rfl hl (by decide) rfl (fun ls hl => ?_)
  refine lv_iconst (v := 0) hx hb dX5_trade_7 (by decide) ?_
  refine lv_istore_n (lv' := [(2, .int 0), (1, .int 0), (0, .ref (q 23))]) hx hb dX5_trade_8 rfl hl (by decide) rfl (fun ls hl => ?_)
  exact t_X5_trade_9 ⟨hx, hb, hml, hr, hlocks, hown, hno, hG⟩  1000 hP hD hS (lv_sub hl [2, 1, 0] rfl) hf
noncomputable def g_X5_trade_0  (b : xT)  : Option (Int32 × xT) := g_X5_trade_5  (xn b 0 0) 
set_option maxHeartbeats 4000000 in
set_option maxRecDepth 100000 in
theorem t_X5_trade_0 {p : Program} {l : Launch} {e : Env} {s : State} {m : MethodId} {args : Array Value} {below : List Frame} {meth : Method} {c : Code} {D : va_G} {q : Nat → Nat} {k : Nat → ClassId} {a b : xT} {o : Nat → Int64} {z : xT} {y : Int32 × xT} (C : xCx p s m meth c cX5_trade 5 (some .int) RX5 D k) {H : Heap} {locs : List Loc} (hP : va_P D vwCl (xw q k a b o) H) (hD : va_D (va_A (xw q k a z o) s.heap.size) (xw q k a b o)) (hS : va_S (va_A (xw q k a z o) s.heap.size) s.heap H locs)  {ls : Array Slot} (hl : lv_has ls 5 [(0, .ref (q 23))]) (hf : g_X5_trade_0  b  = some y) : W p l e r_X5_trade s m args below meth c H locs 0 0 (xMQ below (xQm D q k a z o (.inr (some (.int y.1), a, y.2))) args s 0 0 (va_A (xw q k a z o) s.heap.size)) (F0 m 0 ls []) := by
  obtain ⟨hx, hb, hml, hr, hlocks, hown, hno, hG⟩ := C
  have hK := hG.1
  have hE := hG.2.1
  have hA : ∀ u, s.heap.size ≤ u → va_A (xw q k a z o) s.heap.size u := fun u h => Or.inr h
  unfold g_X5_trade_0 at hf
  refine lv_aload_n hx hb dX5_trade_0 rfl (lv_at hl 0 rfl) ?_
  refine lv_iconst (v := 0) hx hb dX5_trade_1 (by decide) ?_
  refine va_put (D := D) (ci := 5) (v := .int 0) (ty := .int) (C := RX5) (T := TX5) (N := 19) hx hb (hwX5 hE) (fun _ h => h) tyX5 tyX5_ok nmX5 hown hK hP hD hS 23 rfl rfl 0 (by decide) (hE _ fl_X5_56 rfl _) (fun _ h9 => h9) rfl (by decide +kernel) rfl rfl (Nat.le_of_ble_eq_true rfl) dX5_trade_2 (fun H locs hP hD hS => ?_)
  rw [xw_n23_0] at hP hD
  exact t_X5_trade_5 ⟨hx, hb, hml, hr, hlocks, hown, hno, hG⟩ hP hD hS  (lv_sub hl [0] rfl) hf
noncomputable def f_X5_trade (b : xT)  : Option (Int32 × xT) := g_X5_trade_0 b 
set_option maxHeartbeats 4000000 in
set_option maxRecDepth 100000 in
theorem c_X5_trade (l : Launch) (D : va_G) (q : Nat → Nat) (k : Nat → ClassId) (sz : Nat) (a b : xT) (o : Nat → Int64)  (y : Int32 × xT) (hf : f_X5_trade b  = some y) : xMet l yX5_trade (.code yX5_trade cX5_trade 5 (some .int)) r_X5_trade (xPcm D q k sz a b o [.ref (q 23)]) (xQm D q k a b o (.inr (some (.int y.1), a, y.2))) 0 0 (va_A (xw q k a b o) sz) := by
  refine xMet.ofW (by decide) ?_
  intro p e s m args below meth c hx hb hml hr hlocks hnm hme hno hv
  obtain ⟨rfl, hsz, hP, hD, hG⟩ := hv
  subst hsz
  have hown : s.vm.findClass RX5 = some m.cls := findClass_of_methodNamed hnm
  have hl := lv_entry ([.ref (q 23)]) (n := 5) (Nat.le_of_ble_eq_true rfl)
  rw [lg_entry_eq]
  generalize (lg_sl ([.ref (q 23)]) ++ List.replicate (5 - (lg_sl ([.ref (q 23)])).length) Slot.unset).toArray = ls at hl ⊢
  have hl : lv_has ls 5 [(0, .ref (q 23))] := hl
  have hD := hD.self (sz := s.heap.size)
  exact t_X5_trade_0 ⟨hx, hb, hml, hr, hlocks, hown, hno, hG⟩ hP hD va_S.rf hl hf
