abbrev r_X0_add : Room := { frames := 0, cells := 0, slots := 0, locals := 0 }
noncomputable def g_X0_add_61  (a : xT)  : Option (xT) := some a
set_option maxHeartbeats 4000000 in
set_option maxRecDepth 100000 in
theorem t_X0_add_61 {p : Program} {l : Launch} {e : Env} {s : State} {m : MethodId} {args : Array Value} {below : List Frame} {meth : Method} {c : Code} {D : va_G} {q : Nat → Nat} {k : Nat → ClassId} {a b : xT} {o : Nat → Int64} {z : xT} {y : xT} (C : xCx p s m meth c cX0_add 5 none RX0 D k) {H : Heap} {locs : List Loc} (hP : va_P D vwCl (xw q k a b o) H) (hD : va_D (va_A (xw q k z b o) s.heap.size) (xw q k a b o)) (hS : va_S (va_A (xw q k z b o) s.heap.size) s.heap H locs)  {ls : Array Slot} (hl : lv_has ls 5 []) (hf : g_X0_add_61  a  = some y) : W p l e r_X0_add s m args below meth c H locs 0 0 (xMQ below (xQm D q k z b o (.inr (none, y, b))) args s 0 0 (va_A (xw q k z b o) s.heap.size)) (F0 m 61 ls []) := by
  obtain ⟨hx, hb, hml, hr, hlocks, hown, hno, hG⟩ := C
  have hK := hG.1
  have hE := hG.2.1
  have hA : ∀ u, s.heap.size ≤ u → va_A (xw q k z b o) s.heap.size u := fun u h => Or.inr h
  unfold g_X0_add_61 at hf
  cases hf
  exact xretm_v hx hb hr hlocks hP hS dX0_add_61
noncomputable def g_X0_add_51  (a : xT)  : Option (xT) := g_X0_add_61  (xn a 2 ((a.2 2) + 1)) 
set_option maxHeartbeats 4000000 in
set_option maxRecDepth 100000 in
theorem t_X0_add_51 {p : Program} {l : Launch} {e : Env} {s : State} {m : MethodId} {args : Array Value} {below : List Frame} {meth : Method} {c : Code} {D : va_G} {q : Nat → Nat} {k : Nat → ClassId} {a b : xT} {o : Nat → Int64} {z : xT} {y : xT} (C : xCx p s m meth c cX0_add 5 none RX0 D k) {H : Heap} {locs : List Loc} (hP : va_P D vwCl (xw q k a b o) H) (hD : va_D (va_A (xw q k z b o) s.heap.size) (xw q k a b o)) (hS : va_S (va_A (xw q k z b o) s.heap.size) s.heap H locs)  {ls : Array Slot} (hl : lv_has ls 5 [(0, .ref (q 4))]) (hf : g_X0_add_51  a  = some y) : W p l e r_X0_add s m args below meth c H locs 0 0 (xMQ below (xQm D q k z b o (.inr (none, y, b))) args s 0 0 (va_A (xw q k z b o) s.heap.size)) (F0 m 51 ls []) := by
  obtain ⟨hx, hb, hml, hr, hlocks, hown, hno, hG⟩ := C
  have hK := hG.1
  have hE := hG.2.1
  have hA : ∀ u, s.heap.size ≤ u → va_A (xw q k z b o) s.heap.size u := fun u h => Or.inr h
  unfold g_X0_add_51 at hf
  refine lv_aload_n hx hb dX0_add_51 rfl (lv_at hl 0 rfl) ?_
  refine lv_dup hx hb dX0_add_52 rfl ?_
  refine va_get (D := D) (ci := 0) (v := .int (a.2 2)) (C := RX0) (T := TX0) (N := 5) hx hb (hwX0 hE) (fun _ h => h) hown hK hP 4 rfl rfl 4 (by decide) (hE _ fl_X0_24 rfl _) (fun _ h9 => h9) rfl dX0_add_53 ?_
  refine lv_iconst (v := 1) hx hb dX0_add_56 (by decide) ?_
  refine lv_iadd hx hb dX0_add_57 ?_
  refine va_put (D := D) (ci := 0) (v := .int ((a.2 2) + 1)) (ty := .int) (C := RX0) (T := TX0) (N := 5) hx hb (hwX0 hE) (fun _ h => h) tyX0 tyX0_ok nmX0 hown hK hP hD hS 4 rfl rfl 4 (by decide) (hE _ fl_X0_24 rfl _) (fun _ h9 => h9) rfl (by decide +kernel) rfl rfl (Nat.le_of_ble_eq_true rfl) dX0_add_58 (fun H locs hP hD hS => ?_)
  rw [xw_n4_4] at hP hD
  exact t_X0_add_61 ⟨hx, hb, hml, hr, hlocks, hown, hno, hG⟩ hP hD hS  (lv_sub hl [] rfl) hf
noncomputable def g_X0_add_40  (a : xT) (v4 : Int32) : Option (xT) := (if xin (a.2 2) 200 = true then g_X0_add_51  (xs a 17 (a.2 2).toNatClampNeg v4)  else none)
set_option maxHeartbeats 4000000 in
set_option maxRecDepth 100000 in
theorem t_X0_add_40 {p : Program} {l : Launch} {e : Env} {s : State} {m : MethodId} {args : Array Value} {below : List Frame} {meth : Method} {c : Code} {D : va_G} {q : Nat → Nat} {k : Nat → ClassId} {a b : xT} {o : Nat → Int64} {z : xT} {y : xT} (C : xCx p s m meth c cX0_add 5 none RX0 D k) {H : Heap} {locs : List Loc} (hP : va_P D vwCl (xw q k a b o) H) (hD : va_D (va_A (xw q k z b o) s.heap.size) (xw q k a b o)) (hS : va_S (va_A (xw q k z b o) s.heap.size) s.heap H locs)  {v4 : Int32} {ls : Array Slot} (hl : lv_has ls 5 [(0, .ref (q 4)), (4, .int v4)]) (hf : g_X0_add_40  a v4 = some y) : W p l e r_X0_add s m args below meth c H locs 0 0 (xMQ below (xQm D q k z b o (.inr (none, y, b))) args s 0 0 (va_A (xw q k z b o) s.heap.size)) (F0 m 40 ls []) := by
  obtain ⟨hx, hb, hml, hr, hlocks, hown, hno, hG⟩ := C
  have hK := hG.1
  have hE := hG.2.1
  have hA : ∀ u, s.heap.size ≤ u → va_A (xw q k z b o) s.heap.size u := fun u h => Or.inr h
  unfold g_X0_add_40 at hf
  refine lv_aload_n hx hb dX0_add_40 rfl (lv_at hl 0 rfl) ?_
  refine va_get (D := D) (ci := 0) (v := .ref (q 22)) (C := RX0) (T := TX0) (N := 5) hx hb (hwX0 hE) (fun _ h => h) hown hK hP 4 rfl rfl 3 (by decide) (hE _ fl_X0_21 rfl _) (fun _ h9 => h9) rfl dX0_add_41 ?_
  refine lv_aload_n hx hb dX0_add_44 rfl (lv_at hl 0 rfl) ?_
  refine va_get (D := D) (ci := 0) (v := .int (a.2 2)) (C := RX0) (T := TX0) (N := 5) hx hb (hwX0 hE) (fun _ h => h) hown hK hP 4 rfl rfl 4 (by decide) (hE _ fl_X0_24 rfl _) (fun _ h9 => h9) rfl dX0_add_45 ?_
  refine lv_iload hx hb dX0_add_48 (lv_at hl 1 rfl) ?_
  obtain ⟨hin, hf⟩ := xguard hf
  refine va_iast hx hb hK hP hD hS 22 0 rfl rfl hin dX0_add_50 (fun H locs hP hD hS => ?_)
  rw [xw_s22] at hP hD
  exact t_X0_add_51 ⟨hx, hb, hml, hr, hlocks, hown, hno, hG⟩ hP hD hS  (lv_sub hl [0] rfl) hf
noncomputable def g_X0_add_30  (a : xT) (v3 : Int32) (v4 : Int32) : Option (xT) := (if xin (a.2 2) 200 = true then g_X0_add_40  (xs a 16 (a.2 2).toNatClampNeg v3) v4 else none)
set_option maxHeartbeats 4000000 in
set_option maxRecDepth 100000 in
theorem t_X0_add_30 {p : Program} {l : Launch} {e : Env} {s : State} {m : MethodId} {args : Array Value} {below : List Frame} {meth : Method} {c : Code} {D : va_G} {q : Nat → Nat} {k : Nat → ClassId} {a b : xT} {o : Nat → Int64} {z : xT} {y : xT} (C : xCx p s m meth c cX0_add 5 none RX0 D k) {H : Heap} {locs : List Loc} (hP : va_P D vwCl (xw q k a b o) H) (hD : va_D (va_A (xw q k z b o) s.heap.size) (xw q k a b o)) (hS : va_S (va_A (xw q k z b o) s.heap.size) s.heap H locs)  {v3 v4 : Int32} {ls : Array Slot} (hl : lv_has ls 5 [(0, .ref (q 4)), (3, .int v3), (4, .int v4)]) (hf : g_X0_add_30  a v3 v4 = some y) : W p l e r_X0_add s m args below meth c H locs 0 0 (xMQ below (xQm D q k z b o (.inr (none, y, b))) args s 0 0 (va_A (xw q k z b o) s.heap.size)) (F0 m 30 ls []) := by
  obtain ⟨hx, hb, hml, hr, hlocks, hown, hno, hG⟩ := C
  have hK := hG.1
  have hE := hG.2.1
  have hA : ∀ u, s.heap.size ≤ u → va_A (xw q k z b o) s.heap.size u := fun u h => Or.inr h
  unfold g_X0_add_30 at hf
  refine lv_aload_n hx hb dX0_add_30 rfl (lv_at hl 0 rfl) ?_
  refine va_get (D := D) (ci := 0) (v := .ref (q 21)) (C := RX0) (T := TX0) (N := 5) hx hb (hwX0 hE) (fun _ h => h) hown hK hP 4 rfl rfl 2 (by decide) (hE _ fl_X0_18 rfl _) (fun _ h9 => h9) rfl dX0_add_31 ?_
  refine lv_aload_n hx hb dX0_add_34 rfl (lv_at hl 0 rfl) ?_
  refine va_get (D := D) (ci := 0) (v := .int (a.2 2)) (C := RX0) (T := TX0) (N := 5) hx hb (hwX0 hE) (fun _ h => h) hown hK hP 4 rfl rfl 4 (by decide) (hE _ fl_X0_24 rfl _) (fun _ h9 => h9) rfl dX0_add_35 ?_
  refine lv_iload_n hx hb dX0_add_38 rfl (lv_at hl 1 rfl) ?_
  obtain ⟨hin, hf⟩ := xguard hf
  refine va_iast hx hb hK hP hD hS 21 0 rfl rfl hin dX0_add_39 (fun H locs hP hD hS => ?_)
  rw [xw_s21] at hP hD
  exact t_X0_add_40 ⟨hx, hb, hml, hr, hlocks, hown, hno, hG⟩ hP hD hS  (lv_sub hl [0, 2] rfl) hf
noncomputable def g_X0_add_20  (a : xT) (v2 : Int32) (v3 : Int32) (v4 : Int32) : Option (xT) := (if xin (a.2 2) 200 = true then g_X0_add_30  (xs a 15 (a.2 2).toNatClampNeg v2) v3 v4 else none)
set_option maxHeartbeats 4000000 in
set_option maxRecDepth 100000 in
theorem t_X0_add_20 {p : Program} {l : Launch} {e : Env} {s : State} {m : MethodId} {args : Array Value} {below : List Frame} {meth : Method} {c : Code} {D : va_G} {q : Nat → Nat} {k : Nat → ClassId} {a b : xT} {o : Nat → Int64} {z : xT} {y : xT} (C : xCx p s m meth c cX0_add 5 none RX0 D k) {H : Heap} {locs : List Loc} (hP : va_P D vwCl (xw q k a b o) H) (hD : va_D (va_A (xw q k z b o) s.heap.size) (xw q k a b o)) (hS : va_S (va_A (xw q k z b o) s.heap.size) s.heap H locs)  {v2 v3 v4 : Int32} {ls : Array Slot} (hl : lv_has ls 5 [(0, .ref (q 4)), (2, .int v2), (3, .int v3), (4, .int v4)]) (hf : g_X0_add_20  a v2 v3 v4 = some y) : W p l e r_X0_add s m args below meth c H locs 0 0 (xMQ below (xQm D q k z b o (.inr (none, y, b))) args s 0 0 (va_A (xw q k z b o) s.heap.size)) (F0 m 20 ls []) := by
  obtain ⟨hx, hb, hml, hr, hlocks, hown, hno, hG⟩ := C
  have hK := hG.1
  have hE := hG.2.1
  have hA : ∀ u, s.heap.size ≤ u → va_A (xw q k z b o) s.heap.size u := fun u h => Or.inr h
  unfold g_X0_add_20 at hf
  refine lv_aload_n hx hb dX0_add_20 rfl (lv_at hl 0 rfl) ?_
  refine va_get (D := D) (ci := 0) (v := .ref (q 20)) (C := RX0) (T := TX0) (N := 5) hx hb (hwX0 hE) (fun _ h => h) hown hK hP 4 rfl rfl 1 (by decide) (hE _ fl_X0_15 rfl _) (fun _ h9 => h9) rfl dX0_add_21 ?_
  refine lv_aload_n hx hb dX0_add_24 rfl (lv_at hl 0 rfl) ?_
  refine va_get (D := D) (ci := 0) (v := .int (a.2 2)) (C := RX0) (T := TX0) (N := 5) hx hb (hwX0 hE) (fun _ h => h) hown hK hP 4 rfl rfl 4 (by decide) (hE _ fl_X0_24 rfl _) (fun _ h9 => h9) rfl dX0_add_25 ?_
  refine lv_iload_n hx hb dX0_add_28 rfl (lv_at hl 1 rfl) ?_
  obtain ⟨hin, hf⟩ := xguard hf
  refine va_iast hx hb hK hP hD hS 20 0 rfl rfl hin dX0_add_29 (fun H locs hP hD hS => ?_)
  rw [xw_s20] at hP hD
  exact t_X0_add_30 ⟨hx, hb, hml, hr, hlocks, hown, hno, hG⟩ hP hD hS  (lv_sub hl [0, 2, 3] rfl) hf
noncomputable def g_X0_add_0  (a : xT) (v1 : Int32) (v2 : Int32) (v3 : Int32) (v4 : Int32) : Option (xT) := (if 200 ≤ (a.2 2) then g_X0_add_61  a  else (if xin (a.2 2) 200 = true then g_X0_add_20  (xs a 14 (a.2 2).toNatClampNeg v1) v2 v3 v4 else none))
set_option maxHeartbeats 4000000 in
set_option maxRecDepth 100000 in
theorem t_X0_add_0 {p : Program} {l : Launch} {e : Env} {s : State} {m : MethodId} {args : Array Value} {below : List Frame} {meth : Method} {c : Code} {D : va_G} {q : Nat → Nat} {k : Nat → ClassId} {a b : xT} {o : Nat → Int64} {z : xT} {y : xT} (C : xCx p s m meth c cX0_add 5 none RX0 D k) {H : Heap} {locs : List Loc} (hP : va_P D vwCl (xw q k a b o) H) (hD : va_D (va_A (xw q k z b o) s.heap.size) (xw q k a b o)) (hS : va_S (va_A (xw q k z b o) s.heap.size) s.heap H locs)  {v1 v2 v3 v4 : Int32} {ls : Array Slot} (hl : lv_has ls 5 [(0, .ref (q 4)), (1, .int v1), (2, .int v2), (3, .int v3), (4, .int v4)]) (hf : g_X0_add_0  a v1 v2 v3 v4 = some y) : W p l e r_X0_add s m args below meth c H locs 0 0 (xMQ below (xQm D q k z b o (.inr (none, y, b))) args s 0 0 (va_A (xw q k z b o) s.heap.size)) (F0 m 0 ls []) := by
  obtain ⟨hx, hb, hml, hr, hlocks, hown, hno, hG⟩ := C
  have hK := hG.1
  have hE := hG.2.1
  have hA : ∀ u, s.heap.size ≤ u → va_A (xw q k z b o) s.heap.size u := fun u h => Or.inr h
  unfold g_X0_add_0 at hf
  refine lv_aload_n hx hb dX0_add_0 rfl (lv_at hl 0 rfl) ?_
  refine va_get (D := D) (ci := 0) (v := .int (a.2 2)) (C := RX0) (T := TX0) (N := 5) hx hb (hwX0 hE) (fun _ h => h) hown hK hP 4 rfl rfl 4 (by decide) (hE _ fl_X0_24 rfl _) (fun _ h9 => h9) rfl dX0_add_1 ?_
  refine lv_sipush (v := 200) hx hb dX0_add_4 (by decide) ?_
  refine lv_icmp_ge hx hb dX0_add_7 rfl (fun hc => ?_) (fun hc => ?_)
  · rw [if_pos hc] at hf
    exact t_X0_add_61 ⟨hx, hb, hml, hr, hlocks, hown, hno, hG⟩ hP hD hS  (lv_sub hl [] rfl) hf
  · rw [if_neg hc] at hf
    refine lv_aload_n hx hb dX0_add_10 rfl (lv_at hl 0 rfl) ?_
    refine va_get (D := D) (ci := 0) (v := .ref (q 19)) (C := RX0) (T := TX0) (N := 5) hx hb (hwX0 hE) (fun _ h => h) hown hK hP 4 rfl rfl 0 (by decide) (hE _ fl_X0_9 rfl _) (fun _ h9 => h9) rfl dX0_add_11 ?_
    refine lv_aload_n hx hb dX0_add_14 rfl (lv_at hl 0 rfl) ?_
    refine va_get (D := D) (ci := 0) (v := .int (a.2 2)) (C := RX0) (T := TX0) (N := 5) hx hb (hwX0 hE) (fun _ h => h) hown hK hP 4 rfl rfl 4 (by decide) (hE _ fl_X0_24 rfl _) (fun _ h9 => h9) rfl dX0_add_15 ?_
    refine lv_iload_n hx hb dX0_add_18 rfl (lv_at hl 1 rfl) ?_
    obtain ⟨hin, hf⟩ := xguard hf
    refine va_iast hx hb hK hP hD hS 19 0 rfl rfl hin dX0_add_19 (fun H locs hP hD hS => ?_)
    rw [xw_s19] at hP hD
    exact t_X0_add_20 ⟨hx, hb, hml, hr, hlocks, hown, hno, hG⟩ hP hD hS  (lv_sub hl [0, 2, 3, 4] rfl) hf
noncomputable def f_X0_add (a : xT) (v1 : Int32) (v2 : Int32) (v3 : Int32) (v4 : Int32) : Option (xT) := g_X0_add_0 a v1 v2 v3 v4
set_option maxHeartbeats 4000000 in
set_option maxRecDepth 100000 in
theorem c_X0_add (l : Launch) (D : va_G) (q : Nat → Nat) (k : Nat → ClassId) (sz : Nat) (a b : xT) (o : Nat → Int64) (v1 : Int32) (v2 : Int32) (v3 : Int32) (v4 : Int32) (y : xT) (hf : f_X0_add a v1 v2 v3 v4 = some y) : xMet l yX0_add (.code yX0_add cX0_add 5 none) r_X0_add (xPcm D q k sz a b o [.ref (q 4), .int v1, .int v2, .int v3, .int v4]) (xQm D q k a b o (.inr (none, y, b))) 0 0 (va_A (xw q k a b o) sz) := by
  refine xMet.ofW (by decide) ?_
  intro p e s m args below meth c hx hb hml hr hlocks hnm hme hno hv
  obtain ⟨rfl, hsz, hP, hD, hG⟩ := hv
  subst hsz
  have hown : s.vm.findClass RX0 = some m.cls := findClass_of_methodNamed hnm
  have hl := lv_entry ([.ref (q 4), .int v1, .int v2, .int v3, .int v4]) (n := 5) (Nat.le_of_ble_eq_true rfl)
  rw [lg_entry_eq]
  generalize (lg_sl ([.ref (q 4), .int v1, .int v2, .int v3, .int v4]) ++ List.replicate (5 - (lg_sl ([.ref (q 4), .int v1, .int v2, .int v3, .int v4])).length) Slot.unset).toArray = ls at hl ⊢
  have hl : lv_has ls 5 [(0, .ref (q 4)), (1, .int v1), (2, .int v2), (3, .int v3), (4, .int v4)] := hl
  have hD := hD.self (sz := s.heap.size)
  exact t_X0_add_0 ⟨hx, hb, hml, hr, hlocks, hown, hno, hG⟩ hP hD va_S.rf hl hf
abbrev r_X0_clear : Room := { frames := 0, cells := 0, slots := 0, locals := 0 }
noncomputable def g_X0_clear_5  (a : xT)  : Option (xT) := some a
set_option maxHeartbeats 4000000 in
set_option maxRecDepth 100000 in
theorem t_X0_clear_5 {p : Program} {l : Launch} {e : Env} {s : State} {m : MethodId} {args : Array Value} {below : List Frame} {meth : Method} {c : Code} {D : va_G} {q : Nat → Nat} {k : Nat → ClassId} {a b : xT} {o : Nat → Int64} {z : xT} {y : xT} (C : xCx p s m meth c cX0_clear 1 none RX0 D k) {H : Heap} {locs : List Loc} (hP : va_P D vwCl (xw q k a b o) H) (hD : va_D (va_A (xw q k z b o) s.heap.size) (xw q k a b o)) (hS : va_S (va_A (xw q k z b o) s.heap.size) s.heap H locs)  {ls : Array Slot} (hl : lv_has ls 1 []) (hf : g_X0_clear_5  a  = some y) : W p l e r_X0_clear s m args below meth c H locs 0 0 (xMQ below (xQm D q k z b o (.inr (none, y, b))) args s 0 0 (va_A (xw q k z b o) s.heap.size)) (F0 m 5 ls []) := by
  obtain ⟨hx, hb, hml, hr, hlocks, hown, hno, hG⟩ := C
  have hK := hG.1
  have hE := hG.2.1
  have hA : ∀ u, s.heap.size ≤ u → va_A (xw q k z b o) s.heap.size u := fun u h => Or.inr h
  unfold g_X0_clear_5 at hf
  cases hf
  exact xretm_v hx hb hr hlocks hP hS dX0_clear_5
noncomputable def g_X0_clear_0  (a : xT)  : Option (xT) := g_X0_clear_5  (xn a 2 0) 
set_option maxHeartbeats 4000000 in
set_option maxRecDepth 100000 in
theorem t_X0_clear_0 {p : Program} {l : Launch} {e : Env} {s : State} {m : MethodId} {args : Array Value} {below : List Frame} {meth : Method} {c : Code} {D : va_G} {q : Nat → Nat} {k : Nat → ClassId} {a b : xT} {o : Nat → Int64} {z : xT} {y : xT} (C : xCx p s m meth c cX0_clear 1 none RX0 D k) {H : Heap} {locs : List Loc} (hP : va_P D vwCl (xw q k a b o) H) (hD : va_D (va_A (xw q k z b o) s.heap.size) (xw q k a b o)) (hS : va_S (va_A (xw q k z b o) s.heap.size) s.heap H locs)  {ls : Array Slot} (hl : lv_has ls 1 [(0, .ref (q 4))]) (hf : g_X0_clear_0  a  = some y) : W p l e r_X0_clear s m args below meth c H locs 0 0 (xMQ below (xQm D q k z b o (.inr (none, y, b))) args s 0 0 (va_A (xw q k z b o) s.heap.size)) (F0 m 0 ls []) := by
  obtain ⟨hx, hb, hml, hr, hlocks, hown, hno, hG⟩ := C
  have hK := hG.1
  have hE := hG.2.1
  have hA : ∀ u, s.heap.size ≤ u → va_A (xw q k z b o) s.heap.size u := fun u h => Or.inr h
  unfold g_X0_clear_0 at hf
  refine lv_aload_n hx hb dX0_clear_0 rfl (lv_at hl 0 rfl) ?_
  refine lv_iconst (v := 0) hx hb dX0_clear_1 (by decide) ?_
  refine va_put (D := D) (ci := 0) (v := .int 0) (ty := .int) (C := RX0) (T := TX0) (N := 5) hx hb (hwX0 hE) (fun _ h => h) tyX0 tyX0_ok nmX0 hown hK hP hD hS 4 rfl rfl 4 (by decide) (hE _ fl_X0_24 rfl _) (fun _ h9 => h9) rfl (by decide +kernel) rfl rfl (Nat.le_of_ble_eq_true rfl) dX0_clear_2 (fun H locs hP hD hS => ?_)
  rw [xw_n4_4] at hP hD
  exact t_X0_clear_5 ⟨hx, hb, hml, hr, hlocks, hown, hno, hG⟩ hP hD hS  (lv_sub hl [] rfl) hf
noncomputable def f_X0_clear (a : xT)  : Option (xT) := g_X0_clear_0 a 
set_option maxHeartbeats 4000000 in
set_option maxRecDepth 100000 in
theorem c_X0_clear (l : Launch) (D : va_G) (q : Nat → Nat) (k : Nat → ClassId) (sz : Nat) (a b : xT) (o : Nat → Int64)  (y : xT) (hf : f_X0_clear a  = some y) : xMet l yX0_clear (.code yX0_clear cX0_clear 1 none) r_X0_clear (xPcm D q k sz a b o [.ref (q 4)]) (xQm D q k a b o (.inr (none, y, b))) 0 0 (va_A (xw q k a b o) sz) := by
  refine xMet.ofW (by decide) ?_
  intro p e s m args below meth c hx hb hml hr hlocks hnm hme hno hv
  obtain ⟨rfl, hsz, hP, hD, hG⟩ := hv
  subst hsz
  have hown : s.vm.findClass RX0 = some m.cls := findClass_of_methodNamed hnm
  have hl := lv_entry ([.ref (q 4)]) (n := 1) (Nat.le_of_ble_eq_true rfl)
  rw [lg_entry_eq]
  generalize (lg_sl ([.ref (q 4)]) ++ List.replicate (1 - (lg_sl ([.ref (q 4)])).length) Slot.unset).toArray = ls at hl ⊢
  have hl : lv_has ls 1 [(0, .ref (q 4))] := hl
  have hD := hD.self (sz := s.heap.size)
  exact t_X0_clear_0 ⟨hx, hb, hml, hr, hlocks, hown, hno, hG⟩ hP hD va_S.rf hl hf
abbrev r_X1_insertBySchedule : Room := { frames := 0, cells := 0, slots := 0, locals := 0 }
noncomputable def g_X1_insertBySchedule_55  (a : xT)  : Option (xT) := some a
set_option maxHeartbeats 4000000 in
set_option maxRecDepth 100000 in
theorem t_X1_insertBySchedule_55 {p : Program} {l : Launch} {e : Env} {s : State} {m : MethodId} {args : Array Value} {below : List Frame} {meth : Method} {c : Code} {D : va_G} {q : Nat → Nat} {k : Nat → ClassId} {a b : xT} {o : Nat → Int64} {z : xT} {y : xT} (C : xCx p s m meth c cX1_insertBySchedule 3 none RX1 D k) {H : Heap} {locs : List Loc} (hP : va_P D vwCl (xw q k a b o) H) (hD : va_D (va_A (xw q k z b o) s.heap.size) (xw q k a b o)) (hS : va_S (va_A (xw q k z b o) s.heap.size) s.heap H locs)  {ls : Array Slot} (hl : lv_has ls 3 []) (hf : g_X1_insertBySchedule_55  a  = some y) : W p l e r_X1_insertBySchedule s m args below meth c H locs 0 0 (xMQ below (xQm D q k z b o (.inr (none, y, b))) args s 0 0 (va_A (xw q k z b o) s.heap.size)) (F0 m 55 ls []) := by
  obtain ⟨hx, hb, hml, hr, hlocks, hown, hno, hG⟩ := C
  have hK := hG.1
  have hE := hG.2.1
  have hA : ∀ u, s.heap.size ≤ u → va_A (xw q k z b o) s.heap.size u := fun u h => Or.inr h
  unfold g_X1_insertBySchedule_55 at hf
  cases hf
  exact xretm_v hx hb hr hlocks hP hS dX1_insertBySchedule_55
noncomputable def g_X1_insertBySchedule_48  (a : xT) (v1 : Int32) (v2 : Int32) : Option (xT) := (if xin v2 60 = true then g_X1_insertBySchedule_55  (xs a 9 v2.toNatClampNeg v1)  else none)
set_option maxHeartbeats 4000000 in
set_option maxRecDepth 100000 in
theorem t_X1_insertBySchedule_48 {p : Program} {l : Launch} {e : Env} {s : State} {m : MethodId} {args : Array Value} {below : List Frame} {meth : Method} {c : Code} {D : va_G} {q : Nat → Nat} {k : Nat → ClassId} {a b : xT} {o : Nat → Int64} {z : xT} {y : xT} (C : xCx p s m meth c cX1_insertBySchedule 3 none RX1 D k) {H : Heap} {locs : List Loc} (hP : va_P D vwCl (xw q k a b o) H) (hD : va_D (va_A (xw q k z b o) s.heap.size) (xw q k a b o)) (hS : va_S (va_A (xw q k z b o) s.heap.size) s.heap H locs)  {v1 v2 : Int32} {ls : Array Slot} (hl : lv_has ls 3 [(0, .ref (q 2)), (1, .int v1), (2, .int v2)]) (hf : g_X1_insertBySchedule_48  a v1 v2 = some y) : W p l e r_X1_insertBySchedule s m args below meth c H locs 0 0 (xMQ below (xQm D q k z b o (.inr (none, y, b))) args s 0 0 (va_A (xw q k z b o) s.heap.size)) (F0 m 48 ls []) := by
  obtain ⟨hx, hb, hml, hr, hlocks, hown, hno, hG⟩ := C
  have hK := hG.1
  have hE := hG.2.1
  have hA : ∀ u, s.heap.size ≤ u → va_A (xw q k z b o) s.heap.size u := fun u h => Or.inr h
  unfold g_X1_insertBySchedule_48 at hf
  refine lv_aload_n hx hb dX1_insertBySchedule_48 rfl (lv_at hl 0 rfl) ?_
  refine va_get (D := D) (ci := 1) (v := .ref (q 14)) (C := RX1) (T := TX1) (N := 8) hx hb (hwX1 hE) (fun _ h => h) hown hK hP 2 rfl rfl 6 (by decide) (hE _ fl_X1_31 rfl _) (fun _ h9 => h9) rfl dX1_insertBySchedule_49 ?_
  refine lv_iload_n hx hb dX1_insertBySchedule_52 rfl (lv_at hl 2 rfl) ?_
  refine lv_iload_n hx hb dX1_insertBySchedule_53 rfl (lv_at hl 1 rfl) ?_
  obtain ⟨hin, hf⟩ := xguard hf
  refine va_iast hx hb hK hP hD hS 14 0 rfl rfl hin dX1_insertBySchedule_54 (fun H locs hP hD hS => ?_)
  rw [xw_s14] at hP hD
  exact t_X1_insertBySchedule_55 ⟨hx, hb, hml, hr, hlocks, hown, hno, hG⟩ hP hD hS  (lv_sub hl [] rfl) hf
noncomputable def g_X1_insertBySchedule_42 (K2 : xT → Int32 → Int32 → Option (xT)) (a : xT) (v1 : Int32) (v2 : Int32) : Option (xT) := K2 a v1 (v2 + (-1))
set_option maxHeartbeats 4000000 in
set_option maxRecDepth 100000 in
theorem t_X1_insertBySchedule_42 {p : Program} {l : Launch} {e : Env} {s : State} {m : MethodId} {args : Array Value} {below : List Frame} {meth : Method} {c : Code} {D : va_G} {q : Nat → Nat} {k : Nat → ClassId} {a b : xT} {o : Nat → Int64} {z : xT} {y : xT} (C : xCx p s m meth c cX1_insertBySchedule 3 none RX1 D k) {H : Heap} {locs : List Loc} (hP : va_P D vwCl (xw q k a b o) H) (hD : va_D (va_A (xw q k z b o) s.heap.size) (xw q k a b o)) (hS : va_S (va_A (xw q k z b o) s.heap.size) s.heap H locs) {K2 : xT → Int32 → Int32 → Option (xT)} (hK2 : ∀ {a : xT} {v1 v2 : Int32} {ls : Array Slot} {H : Heap} {locs : List Loc}, va_P D vwCl (xw q k a b o) H → va_D (va_A (xw q k z b o) s.heap.size) (xw q k a b o) → va_S (va_A (xw q k z b o) s.heap.size) s.heap H locs → lv_has ls 3 [(0, .ref (q 2)), (1, .int v1), (2, .int v2)] → K2 a v1 v2 = some y → W p l e r_X1_insertBySchedule s m args below meth c H locs 0 0 (xMQ below (xQm D q k z b o (.inr (none, y, b))) args s 0 0 (va_A (xw q k z b o) s.heap.size)) (F0 m 2 ls [])) {v1 v2 : Int32} {ls : Array Slot} (hl : lv_has ls 3 [(0, .ref (q 2)), (1, .int v1), (2, .int v2)]) (hf : g_X1_insertBySchedule_42 K2 a v1 v2 = some y) : W p l e r_X1_insertBySchedule s m args below meth c H locs 0 0 (xMQ below (xQm D q k z b o (.inr (none, y, b))) args s 0 0 (va_A (xw q k z b o) s.heap.size)) (F0 m 42 ls []) := by
  obtain ⟨hx, hb, hml, hr, hlocks, hown, hno, hG⟩ := C
  have hK := hG.1
  have hE := hG.2.1
  have hA : ∀ u, s.heap.size ≤ u → va_A (xw q k z b o) s.heap.size u := fun u h => Or.inr h
  unfold g_X1_insertBySchedule_42 at hf
  refine lv_iinc (k := 2) (v := v2 + (-1)) (lv' := [(2, .int (v2 + (-1))), (0, .ref (q 2)), (1, .int v1)]) hx hb dX1_insertBySchedule_42 hl rfl (xinc (by decide) _) (by decide) rfl (fun ls hl => ?_)
  refine lv_goto hx hb dX1_insertBySchedule_45 rfl ?_
  exact hK2 hP hD hS (lv_sub hl [1, 2, 0] rfl) hf
noncomputable def g_X1_insertBySchedule_2s (K2 : xT → Int32 → Int32 → Option (xT)) (a : xT) (v1 : Int32) (v2 : Int32) : Option (xT) := (if v2 ≤ 0 then g_X1_insertBySchedule_48  a v1 v2 else (if xin (v2 - 1) 60 = true then (if xin (a.1 9 (v2 - 1).toNatClampNeg) 60 = true then (if xin v1 60 = true then (if (a.1 4 (a.1 9 (v2 - 1).toNatClampNeg).toNatClampNeg) ≤ (a.1 4 v1.toNatClampNeg) then g_X1_insertBySchedule_48  a v1 v2 else (if xin (v2 - 1) 60 = true then (if xin v2 60 = true then g_X1_insertBySchedule_42 K2 (xs a 9 v2.toNatClampNeg (a.1 9 (v2 - 1).toNatClampNeg)) v1 v2 else none) else none)) else none) else none) else none))
set_option maxHeartbeats 4000000 in
set_option maxRecDepth 100000 in
theorem t_X1_insertBySchedule_2s {p : Program} {l : Launch} {e : Env} {s : State} {m : MethodId} {args : Array Value} {below : List Frame} {meth : Method} {c : Code} {D : va_G} {q : Nat → Nat} {k : Nat → ClassId} {a b : xT} {o : Nat → Int64} {z : xT} {y : xT} (C : xCx p s m meth c cX1_insertBySchedule 3 none RX1 D k) {H : Heap} {locs : List Loc} (hP : va_P D vwCl (xw q k a b o) H) (hD : va_D (va_A (xw q k z b o) s.heap.size) (xw q k a b o)) (hS : va_S (va_A (xw q k z b o) s.heap.size) s.heap H locs) {K2 : xT → Int32 → Int32 → Option (xT)} (hK2 : ∀ {a : xT} {v1 v2 : Int32} {ls : Array Slot} {H : Heap} {locs : List Loc}, va_P D vwCl (xw q k a b o) H → va_D (va_A (xw q k z b o) s.heap.size) (xw q k a b o) → va_S (va_A (xw q k z b o) s.heap.size) s.heap H locs → lv_has ls 3 [(0, .ref (q 2)), (1, .int v1), (2, .int v2)] → K2 a v1 v2 = some y → W p l e r_X1_insertBySchedule s m args below meth c H locs 0 0 (xMQ below (xQm D q k z b o (.inr (none, y, b))) args s 0 0 (va_A (xw q k z b o) s.heap.size)) (F0 m 2 ls [])) {v1 v2 : Int32} {ls : Array Slot} (hl : lv_has ls 3 [(0, .ref (q 2)), (1, .int v1), (2, .int v2)]) (hf : g_X1_insertBySchedule_2s K2 a v1 v2 = some y) : W p l e r_X1_insertBySchedule s m args below meth c H locs 0 0 (xMQ below (xQm D q k z b o (.inr (none, y, b))) args s 0 0 (va_A (xw q k z b o) s.heap.size)) (F0 m 2 ls []) := by
  obtain ⟨hx, hb, hml, hr, hlocks, hown, hno, hG⟩ := C
  have hK := hG.1
  have hE := hG.2.1
  have hA : ∀ u, s.heap.size ≤ u → va_A (xw q k z b o) s.heap.size u := fun u h => Or.inr h
  unfold g_X1_insertBySchedule_2s at hf
  refine lv_iload_n hx hb dX1_insertBySchedule_2 rfl (lv_at hl 2 rfl) ?_
  refine lv_if_le hx hb dX1_insertBySchedule_3 rfl (fun hc => ?_) (fun hc => ?_)
  · rw [if_pos hc] at hf
    exact t_X1_insertBySchedule_48 ⟨hx, hb, hml, hr, hlocks, hown, hno, hG⟩ hP hD hS  (lv_sub hl [0, 1, 2] rfl) hf
  · rw [if_neg hc] at hf
    refine lv_aload_n hx hb dX1_insertBySchedule_6 rfl (lv_at hl 0 rfl) ?_
    refine va_get (D := D) (ci := 1) (v := .ref (q 9)) (C := RX1) (T := TX1) (N := 8) hx hb (hwX1 hE) (fun _ h => h) hown hK hP 2 rfl rfl 1 (by decide) (hE _ fl_X1_15 rfl _) (fun _ h9 => h9) rfl dX1_insertBySchedule_7 ?_
    refine lv_aload_n hx hb dX1_insertBySchedule_10 rfl (lv_at hl 0 rfl) ?_
    refine va_get (D := D) (ci := 1) (v := .ref (q 14)) (C := RX1) (T := TX1) (N := 8) hx hb (hwX1 hE) (fun _ h => h) hown hK hP 2 rfl rfl 6 (by decide) (hE _ fl_X1_31 rfl _) (fun _ h9 => h9) rfl dX1_insertBySchedule_11 ?_
    refine lv_iload_n hx hb dX1_insertBySchedule_14 rfl (lv_at hl 2 rfl) ?_
    refine lv_iconst (v := 1) hx hb dX1_insertBySchedule_15 (by decide) ?_
    refine lv_isub hx hb dX1_insertBySchedule_16 ?_
    obtain ⟨hin, hf⟩ := xguard hf
    refine va_iald hx hb hK hP 14 0 rfl rfl hin dX1_insertBySchedule_17 ?_
    obtain ⟨hin, hf⟩ := xguard hf
    refine va_iald hx hb hK hP 9 0 rfl rfl hin dX1_insertBySchedule_18 ?_
    refine lv_aload_n hx hb dX1_insertBySchedule_19 rfl (lv_at hl 0 rfl) ?_
    refine va_get (D := D) (ci := 1) (v := .ref (q 9)) (C := RX1) (T := TX1) (N := 8) hx hb (hwX1 hE) (fun _ h => h) hown hK hP 2 rfl rfl 1 (by decide) (hE _ fl_X1_15 rfl _) (fun _ h9 => h9) rfl dX1_insertBySchedule_20 ?_
    refine lv_iload_n hx hb dX1_insertBySchedule_23 rfl (lv_at hl 1 rfl) ?_
    obtain ⟨hin, hf⟩ := xguard hf
    refine va_iald hx hb hK hP 9 0 rfl rfl hin dX1_insertBySchedule_24 ?_
    refine lv_icmp_le hx hb dX1_insertBySchedule_25 rfl (fun hc => ?_) (fun hc => ?_)
    · rw [if_pos hc] at hf
      exact t_X1_insertBySchedule_48 ⟨hx, hb, hml, hr, hlocks, hown, hno, hG⟩ hP hD hS  (lv_sub hl [0, 1, 2] rfl) hf
    · rw [if_neg hc] at hf
      refine lv_aload_n hx hb dX1_insertBySchedule_28 rfl (lv_at hl 0 rfl) ?_
      refine va_get (D := D) (ci := 1) (v := .ref (q 14)) (C := RX1) (T := TX1) (N := 8) hx hb (hwX1 hE) (fun _ h => h) hown hK hP 2 rfl rfl 6 (by decide) (hE _ fl_X1_31 rfl _) (fun _ h9 => h9) rfl dX1_insertBySchedule_29 ?_
      refine lv_iload_n hx hb dX1_insertBySchedule_32 rfl (lv_at hl 2 rfl) ?_
      refine lv_aload_n hx hb dX1_insertBySchedule_33 rfl (lv_at hl 0 rfl) ?_
      refine va_get (D := D) (ci := 1) (v := .ref (q 14)) (C := RX1) (T := TX1) (N := 8) hx hb (hwX1 hE) (fun _ h => h) hown hK hP 2 rfl rfl 6 (by decide) (hE _ fl_X1_31 rfl _) (fun _ h9 => h9) rfl dX1_insertBySchedule_34 ?_
      refine lv_iload_n hx hb dX1_insertBySchedule_37 rfl (lv_at hl 2 rfl) ?_
      refine lv_iconst (v := 1) hx hb dX1_insertBySchedule_38 (by decide) ?_
      refine lv_isub hx hb dX1_insertBySchedule_39 ?_
      obtain ⟨hin, hf⟩ := xguard hf
      refine va_iald hx hb hK hP 14 0 rfl rfl hin dX1_insertBySchedule_40 ?_
      obtain ⟨hin, hf⟩ := xguard hf
      refine va_iast hx hb hK hP hD hS 14 0 rfl rfl hin dX1_insertBySchedule_41 (fun H locs hP hD hS => ?_)
      rw [xw_s14] at hP hD
      exact t_X1_insertBySchedule_42 ⟨hx, hb, hml, hr, hlocks, hown, hno, hG⟩ hP hD hS hK2 (lv_sub hl [0, 1, 2] rfl) hf
noncomputable def g_X1_insertBySchedule_2  : Nat → xT → Int32 → Int32 → Option (xT) := fun n => Nat.rec (motive := fun _ => xT → Int32 → Int32 → Option (xT)) (fun _ _ _ => none) (fun _ ih => g_X1_insertBySchedule_2s ih) n
set_option maxHeartbeats 4000000 in
theorem t_X1_insertBySchedule_2 {p : Program} {l : Launch} {e : Env} {s : State} {m : MethodId} {args : Array Value} {below : List Frame} {meth : Method} {c : Code} {D : va_G} {q : Nat → Nat} {k : Nat → ClassId} {b : xT} {o : Nat → Int64} {z : xT} {y : xT} (C : xCx p s m meth c cX1_insertBySchedule 3 none RX1 D k)  (n : Nat) : ∀ {a : xT} {v1 v2 : Int32} {ls : Array Slot} {H : Heap} {locs : List Loc}, va_P D vwCl (xw q k a b o) H → va_D (va_A (xw q k z b o) s.heap.size) (xw q k a b o) → va_S (va_A (xw q k z b o) s.heap.size) s.heap H locs → lv_has ls 3 [(0, .ref (q 2)), (1, .int v1), (2, .int v2)] → g_X1_insertBySchedule_2  n a v1 v2 = some y → W p l e r_X1_insertBySchedule s m args below meth c H locs 0 0 (xMQ below (xQm D q k z b o (.inr (none, y, b))) args s 0 0 (va_A (xw q k z b o) s.heap.size)) (F0 m 2 ls []) := by
  induction n with
  | zero =>
    intro _ _ _ _ _ _ _ _ _ _ hf
    have h9 : (none : Option (xT)) = some y := hf
    cases h9
  | succ n ih =>
    intro _ _ _ _ _ _ hP hD hS hl hf
    exact t_X1_insertBySchedule_2s C hP hD hS (K2 := g_X1_insertBySchedule_2  n) ih hl hf
noncomputable def g_X1_insertBySchedule_0  (a : xT) (v1 : Int32) : Option (xT) := g_X1_insertBySchedule_2  1000 a v1 v1
set_option maxHeartbeats 4000000 in
set_option maxRecDepth 100000 in
theorem t_X1_insertBySchedule_0 {p : Program} {l : Launch} {e : Env} {s : State} {m : MethodId} {args : Array Value} {below : List Frame} {meth : Method} {c : Code} {D : va_G} {q : Nat → Nat} {k : Nat → ClassId} {a b : xT} {o : Nat → Int64} {z : xT} {y : xT} (C : xCx p s m meth c cX1_insertBySchedule 3 none RX1 D k) {H : Heap} {locs : List Loc} (hP : va_P D vwCl (xw q k a b o) H) (hD : va_D (va_A (xw q k z b o) s.heap.size) (xw q k a b o)) (hS : va_S (va_A (xw q k z b o) s.heap.size) s.heap H locs)  {v1 : Int32} {ls : Array Slot} (hl : lv_has ls 3 [(0, .ref (q 2)), (1, .int v1)]) (hf : g_X1_insertBySchedule_0  a v1 = some y) : W p l e r_X1_insertBySchedule s m args below meth c H locs 0 0 (xMQ below (xQm D q k z b o (.inr (none, y, b))) args s 0 0 (va_A (xw q k z b o) s.heap.size)) (F0 m 0 ls []) := by
  obtain ⟨hx, hb, hml, hr, hlocks, hown, hno, hG⟩ := C
  have hK := hG.1
  have hE := hG.2.1
  have hA : ∀ u, s.heap.size ≤ u → va_A (xw q k z b o) s.heap.size u := fun u h => Or.inr h
  unfold g_X1_insertBySchedule_0 at hf
  refine lv_iload_n hx hb dX1_insertBySchedule_0 rfl (lv_at hl 1 rfl) ?_
  refine lv_istore_n (lv' := [(2, .int v1), (0, .ref (q 2)), (1, .int v1)]) hx hb dX1_insertBySchedule_1 rfl hl (by decide) rfl (fun ls hl => ?_)
  exact t_X1_insertBySchedule_2 ⟨hx, hb, hml, hr, hlocks, hown, hno, hG⟩  1000 hP hD hS (lv_sub hl [1, 2, 0] rfl) hf
noncomputable def f_X1_insertBySchedule (a : xT) (v1 : Int32) : Option (xT) := g_X1_insertBySchedule_0 a v1
set_option maxHeartbeats 4000000 in
set_option maxRecDepth 100000 in
theorem c_X1_insertBySchedule (l : Launch) (D : va_G) (q : Nat → Nat) (k : Nat → ClassId) (sz : Nat) (a b : xT) (o : Nat → Int64) (v1 : Int32) (y : xT) (hf : f_X1_insertBySchedule a v1 = some y) : xMet l yX1_insertBySchedule (.code yX1_insertBySchedule cX1_insertBySchedule 3 none) r_X1_insertBySchedule (xPcm D q k sz a b o [.ref (q 2), .int v1]) (xQm D q k a b o (.inr (none, y, b))) 0 0 (va_A (xw q k a b o) sz) := by
  refine xMet.ofW (by decide) ?_
  intro p e s m args below meth c hx hb hml hr hlocks hnm hme hno hv
  obtain ⟨rfl, hsz, hP, hD, hG⟩ := hv
  subst hsz
  have hown : s.vm.findClass RX1 = some m.cls := findClass_of_methodNamed hnm
  have hl := lv_entry ([.ref (q 2), .int v1]) (n := 3) (Nat.le_of_ble_eq_true rfl)
  rw [lg_entry_eq]
  generalize (lg_sl ([.ref (q 2), .int v1]) ++ List.replicate (3 - (lg_sl ([.ref (q 2), .int v1])).length) Slot.unset).toArray = ls at hl ⊢
  have hl : lv_has ls 3 [(0, .ref (q 2)), (1, .int v1)] := hl
  have hD := hD.self (sz := s.heap.size)
  exact t_X1_insertBySchedule_0 ⟨hx, hb, hml, hr, hlocks, hown, hno, hG⟩ hP hD va_S.rf hl hf
abbrev r_X1_add : Room := { frames := 1, cells := 0, slots := 0, locals := 22 }
noncomputable def g_X1_add_54  (a : xT) (v4 : Int32) : Option (Int32 × xT) := some (v4, a)
set_option maxHeartbeats 4000000 in
set_option maxRecDepth 100000 in
theorem t_X1_add_54 {p : Program} {l : Launch} {e : Env} {s : State} {m : MethodId} {args : Array Value} {below : List Frame} {meth : Method} {c : Code} {D : va_G} {q : Nat → Nat} {k : Nat → ClassId} {a b : xT} {o : Nat → Int64} {z : xT} {y : Int32 × xT} (C : xCx p s m meth c cX1_add 5 (some .int) RX1 D k) {H : Heap} {locs : List Loc} (hP : va_P D vwCl (xw q k a b o) H) (hD : va_D (va_A (xw q k z b o) s.heap.size) (xw q k a b o)) (hS : va_S (va_A (xw q k z b o) s.heap.size) s.heap H locs)  {v4 : Int32} {ls : Array Slot} (hl : lv_has ls 5 [(4, .int v4)]) (hf : g_X1_add_54  a v4 = some y) : W p l e r_X1_add s m args below meth c H locs 0 0 (xMQ below (xQm D q k z b o (.inr (some (.int y.1), y.2, b))) args s 0 0 (va_A (xw q k z b o) s.heap.size)) (F0 m 54 ls []) := by
  obtain ⟨hx, hb, hml, hr, hlocks, hown, hno, hG⟩ := C
  have hK := hG.1
  have hE := hG.2.1
  have hA : ∀ u, s.heap.size ≤ u → va_A (xw q k z b o) s.heap.size u := fun u h => Or.inr h
  unfold g_X1_add_54 at hf
  refine lv_iload hx hb dX1_add_54 (lv_at hl 0 rfl) ?_
  cases hf
  exact xretm_i hx hb hr hlocks hP hS dX1_add_56
noncomputable def g_X1_add_38  (a : xT) (v4 : Int32) : Option (Int32 × xT) := ((f_X1_insertBySchedule a v4).bind fun z41 => g_X1_add_54  (xn z41 0 ((z41.2 0) + 1)) v4)
set_option maxHeartbeats 4000000 in
set_option maxRecDepth 100000 in
theorem t_X1_add_38 {p : Program} {l : Launch} {e : Env} {s : State} {m : MethodId} {args : Array Value} {below : List Frame} {meth : Method} {c : Code} {D : va_G} {q : Nat → Nat} {k : Nat → ClassId} {a b : xT} {o : Nat → Int64} {z : xT} {y : Int32 × xT} (C : xCx p s m meth c cX1_add 5 (some .int) RX1 D k) {H : Heap} {locs : List Loc} (hP : va_P D vwCl (xw q k a b o) H) (hD : va_D (va_A (xw q k z b o) s.heap.size) (xw q k a b o)) (hS : va_S (va_A (xw q k z b o) s.heap.size) s.heap H locs)  {v4 : Int32} {ls : Array Slot} (hl : lv_has ls 5 [(0, .ref (q 2)), (4, .int v4)]) (hf : g_X1_add_38  a v4 = some y) : W p l e r_X1_add s m args below meth c H locs 0 0 (xMQ below (xQm D q k z b o (.inr (some (.int y.1), y.2, b))) args s 0 0 (va_A (xw q k z b o) s.heap.size)) (F0 m 38 ls []) := by
  obtain ⟨hx, hb, hml, hr, hlocks, hown, hno, hG⟩ := C
  have hK := hG.1
  have hE := hG.2.1
  have hA : ∀ u, s.heap.size ≤ u → va_A (xw q k z b o) s.heap.size u := fun u h => Or.inr h
  unfold g_X1_add_38 at hf
  refine lv_aload_n hx hb dX1_add_38 rfl (lv_at hl 0 rfl) ?_
  refine lv_iload hx hb dX1_add_39 (lv_at hl 1 rfl) ?_
  obtain ⟨z41, hN, hf⟩ := xbind hf
  refine xgo_m (v := none) (a1 := z41) (b1 := b) (xrunV (C := RX1) (As := [.int v4]) (rest := []) (xfixm fx_X1_insertBySchedule hx hb hml hown (by decide) (by decide) (by decide) (by decide)) hE ml_X1_38 wi_X1_insertBySchedule wz_X1_insertBySchedule wc_X1_insertBySchedule wn_X1 (c_X1_insertBySchedule l D q k _ a b o v4 _ hN) (va_recv (q := (RX1, TX1, 8)) (ci := 1) (q0 := 2) hK hP rfl rfl) (xprem hP hD hG) rfl rfl hl.1 rfl (lv_room (Nat.le_of_ble_eq_true rfl)) dX1_add_41) hD hS hA (fun H locs hP hD hS => ?_)
  refine lv_aload_n hx hb dX1_add_44 rfl (lv_at hl 0 rfl) ?_
  refine lv_dup hx hb dX1_add_45 rfl ?_
  refine va_get (D := D) (ci := 1) (v := .int (z41.2 0)) (C := RX1) (T := TX1) (N := 8) hx hb (hwX1 hE) (fun _ h => h) hown hK hP 2 rfl rfl 7 (by decide) (hE _ fl_X1_34 rfl _) (fun _ h9 => h9) rfl dX1_add_46 ?_
  refine lv_iconst (v := 1) hx hb dX1_add_49 (by decide) ?_
  refine lv_iadd hx hb dX1_add_50 ?_
  refine va_put (D := D) (ci := 1) (v := .int ((z41.2 0) + 1)) (ty := .int) (C := RX1) (T := TX1) (N := 8) hx hb (hwX1 hE) (fun _ h => h) tyX1 tyX1_ok nmX1 hown hK hP hD hS 2 rfl rfl 7 (by decide) (hE _ fl_X1_34 rfl _) (fun _ h9 => h9) rfl (by decide +kernel) rfl rfl (Nat.le_of_ble_eq_true rfl) dX1_add_51 (fun H locs hP hD hS => ?_)
  rw [xw_n2_7] at hP hD
  exact t_X1_add_54 ⟨hx, hb, hml, hr, hlocks, hown, hno, hG⟩ hP hD hS  (lv_sub hl [1] rfl) hf
noncomputable def g_X1_add_30  (a : xT) (v4 : Int32) : Option (Int32 × xT) := (if xin v4 60 = true then g_X1_add_38  (xs a 6 v4.toNatClampNeg (-1)) v4 else none)
set_option maxHeartbeats 4000000 in
set_option maxRecDepth 100000 in
theorem t_X1_add_30 {p : Program} {l : Launch} {e : Env} {s : State} {m : MethodId} {args : Array Value} {below : List Frame} {meth : Method} {c : Code} {D : va_G} {q : Nat → Nat} {k : Nat → ClassId} {a b : xT} {o : Nat → Int64} {z : xT} {y : Int32 × xT} (C : xCx p s m meth c cX1_add 5 (some .int) RX1 D k) {H : Heap} {locs : List Loc} (hP : va_P D vwCl (xw q k a b o) H) (hD : va_D (va_A (xw q k z b o) s.heap.size) (xw q k a b o)) (hS : va_S (va_A (xw q k z b o) s.heap.size) s.heap H locs)  {v4 : Int32} {ls : Array Slot} (hl : lv_has ls 5 [(0, .ref (q 2)), (4, .int v4)]) (hf : g_X1_add_30  a v4 = some y) : W p l e r_X1_add s m args below meth c H locs 0 0 (xMQ below (xQm D q k z b o (.inr (some (.int y.1), y.2, b))) args s 0 0 (va_A (xw q k z b o) s.heap.size)) (F0 m 30 ls []) := by
  obtain ⟨hx, hb, hml, hr, hlocks, hown, hno, hG⟩ := C
  have hK := hG.1
  have hE := hG.2.1
  have hA : ∀ u, s.heap.size ≤ u → va_A (xw q k z b o) s.heap.size u := fun u h => Or.inr h
  unfold g_X1_add_30 at hf
  refine lv_aload_n hx hb dX1_add_30 rfl (lv_at hl 0 rfl) ?_
  refine va_get (D := D) (ci := 1) (v := .ref (q 11)) (C := RX1) (T := TX1) (N := 8) hx hb (hwX1 hE) (fun _ h => h) hown hK hP 2 rfl rfl 3 (by decide) (hE _ fl_X1_21 rfl _) (fun _ h9 => h9) rfl dX1_add_31 ?_
  refine lv_iload hx hb dX1_add_34 (lv_at hl 1 rfl) ?_
  refine lv_iconst (v := -1) hx hb dX1_add_36 (by decide) ?_
  obtain ⟨hin, hf⟩ := xguard hf
  refine va_iast hx hb hK hP hD hS 11 0 rfl rfl hin dX1_add_37 (fun H locs hP hD hS => ?_)
  rw [xw_s11] at hP hD
  exact t_X1_add_38 ⟨hx, hb, hml, hr, hlocks, hown, hno, hG⟩ hP hD hS  (lv_sub hl [0, 1] rfl) hf
noncomputable def g_X1_add_22  (a : xT) (v3 : Int32) (v4 : Int32) : Option (Int32 × xT) := (if xin v4 60 = true then g_X1_add_30  (xs a 5 v4.toNatClampNeg v3) v4 else none)
set_option maxHeartbeats 4000000 in
set_option maxRecDepth 100000 in
theorem t_X1_add_22 {p : Program} {l : Launch} {e : Env} {s : State} {m : MethodId} {args : Array Value} {below : List Frame} {meth : Method} {c : Code} {D : va_G} {q : Nat → Nat} {k : Nat → ClassId} {a b : xT} {o : Nat → Int64} {z : xT} {y : Int32 × xT} (C : xCx p s m meth c cX1_add 5 (some .int) RX1 D k) {H : Heap} {locs : List Loc} (hP : va_P D vwCl (xw q k a b o) H) (hD : va_D (va_A (xw q k z b o) s.heap.size) (xw q k a b o)) (hS : va_S (va_A (xw q k z b o) s.heap.size) s.heap H locs)  {v3 v4 : Int32} {ls : Array Slot} (hl : lv_has ls 5 [(0, .ref (q 2)), (3, .int v3), (4, .int v4)]) (hf : g_X1_add_22  a v3 v4 = some y) : W p l e r_X1_add s m args below meth c H locs 0 0 (xMQ below (xQm D q k z b o (.inr (some (.int y.1), y.2, b))) args s 0 0 (va_A (xw q k z b o) s.heap.size)) (F0 m 22 ls []) := by
  obtain ⟨hx, hb, hml, hr, hlocks, hown, hno, hG⟩ := C
  have hK := hG.1
  have hE := hG.2.1
  have hA : ∀ u, s.heap.size ≤ u → va_A (xw q k z b o) s.heap.size u := fun u h => Or.inr h
  unfold g_X1_add_22 at hf
  refine lv_aload_n hx hb dX1_add_22 rfl (lv_at hl 0 rfl) ?_
  refine va_get (D := D) (ci := 1) (v := .ref (q 10)) (C := RX1) (T := TX1) (N := 8) hx hb (hwX1 hE) (fun _ h => h) hown hK hP 2 rfl rfl 2 (by decide) (hE _ fl_X1_18 rfl _) (fun _ h9 => h9) rfl dX1_add_23 ?_
  refine lv_iload hx hb dX1_add_26 (lv_at hl 2 rfl) ?_
  refine lv_iload_n hx hb dX1_add_28 rfl (lv_at hl 1 rfl) ?_
  obtain ⟨hin, hf⟩ := xguard hf
  refine va_iast hx hb hK hP hD hS 10 0 rfl rfl hin dX1_add_29 (fun H locs hP hD hS => ?_)
  rw [xw_s10] at hP hD
  exact t_X1_add_30 ⟨hx, hb, hml, hr, hlocks, hown, hno, hG⟩ hP hD hS  (lv_sub hl [0, 2] rfl) hf
noncomputable def g_X1_add_14  (a : xT) (v2 : Int32) (v3 : Int32) (v4 : Int32) : Option (Int32 × xT) := (if xin v4 60 = true then g_X1_add_22  (xs a 4 v4.toNatClampNeg v2) v3 v4 else none)
set_option maxHeartbeats 4000000 in
set_option maxRecDepth 100000 in
theorem t_X1_add_14 {p : Program} {l : Launch} {e : Env} {s : State} {m : MethodId} {args : Array Value} {below : List Frame} {meth : Method} {c : Code} {D : va_G} {q : Nat → Nat} {k : Nat → ClassId} {a b : xT} {o : Nat → Int64} {z : xT} {y : Int32 × xT} (C : xCx p s m meth c cX1_add 5 (some .int) RX1 D k) {H : Heap} {locs : List Loc} (hP : va_P D vwCl (xw q k a b o) H) (hD : va_D (va_A (xw q k z b o) s.heap.size) (xw q k a b o)) (hS : va_S (va_A (xw q k z b o) s.heap.size) s.heap H locs)  {v2 v3 v4 : Int32} {ls : Array Slot} (hl : lv_has ls 5 [(0, .ref (q 2)), (2, .int v2), (3, .int v3), (4, .int v4)]) (hf : g_X1_add_14  a v2 v3 v4 = some y) : W p l e r_X1_add s m args below meth c H locs 0 0 (xMQ below (xQm D q k z b o (.inr (some (.int y.1), y.2, b))) args s 0 0 (va_A (xw q k z b o) s.heap.size)) (F0 m 14 ls []) := by
  obtain ⟨hx, hb, hml, hr, hlocks, hown, hno, hG⟩ := C
  have hK := hG.1
  have hE := hG.2.1
  have hA : ∀ u, s.heap.size ≤ u → va_A (xw q k z b o) s.heap.size u := fun u h => Or.inr h
  unfold g_X1_add_14 at hf
  refine lv_aload_n hx hb dX1_add_14 rfl (lv_at hl 0 rfl) ?_
  refine va_get (D := D) (ci := 1) (v := .ref (q 9)) (C := RX1) (T := TX1) (N := 8) hx hb (hwX1 hE) (fun _ h => h) hown hK hP 2 rfl rfl 1 (by decide) (hE _ fl_X1_15 rfl _) (fun _ h9 => h9) rfl dX1_add_15 ?_
  refine lv_iload hx hb dX1_add_18 (lv_at hl 3 rfl) ?_
  refine lv_iload_n hx hb dX1_add_20 rfl (lv_at hl 1 rfl) ?_
  obtain ⟨hin, hf⟩ := xguard hf
  refine va_iast hx hb hK hP hD hS 9 0 rfl rfl hin dX1_add_21 (fun H locs hP hD hS => ?_)
  rw [xw_s9] at hP hD
  exact t_X1_add_22 ⟨hx, hb, hml, hr, hlocks, hown, hno, hG⟩ hP hD hS  (lv_sub hl [0, 2, 3] rfl) hf
noncomputable def g_X1_add_0  (a : xT) (v1 : Int32) (v2 : Int32) (v3 : Int32) : Option (Int32 × xT) := (if xin (a.2 0) 60 = true then g_X1_add_14  (xs a 3 (a.2 0).toNatClampNeg v1) v2 v3 (a.2 0) else none)
set_option maxHeartbeats 4000000 in
set_option maxRecDepth 100000 in
theorem t_X1_add_0 {p : Program} {l : Launch} {e : Env} {s : State} {m : MethodId} {args : Array Value} {below : List Frame} {meth : Method} {c : Code} {D : va_G} {q : Nat → Nat} {k : Nat → ClassId} {a b : xT} {o : Nat → Int64} {z : xT} {y : Int32 × xT} (C : xCx p s m meth c cX1_add 5 (some .int) RX1 D k) {H : Heap} {locs : List Loc} (hP : va_P D vwCl (xw q k a b o) H) (hD : va_D (va_A (xw q k z b o) s.heap.size) (xw q k a b o)) (hS : va_S (va_A (xw q k z b o) s.heap.size) s.heap H locs)  {v1 v2 v3 : Int32} {ls : Array Slot} (hl : lv_has ls 5 [(0, .ref (q 2)), (1, .int v1), (2, .int v2), (3, .int v3)]) (hf : g_X1_add_0  a v1 v2 v3 = some y) : W p l e r_X1_add s m args below meth c H locs 0 0 (xMQ below (xQm D q k z b o (.inr (some (.int y.1), y.2, b))) args s 0 0 (va_A (xw q k z b o) s.heap.size)) (F0 m 0 ls []) := by
  obtain ⟨hx, hb, hml, hr, hlocks, hown, hno, hG⟩ := C
  have hK := hG.1
  have hE := hG.2.1
  have hA : ∀ u, s.heap.size ≤ u → va_A (xw q k z b o) s.heap.size u := fun u h => Or.inr h
  unfold g_X1_add_0 at hf
  refine lv_aload_n hx hb dX1_add_0 rfl (lv_at hl 0 rfl) ?_
  refine va_get (D := D) (ci := 1) (v := .int (a.2 0)) (C := RX1) (T := TX1) (N := 8) hx hb (hwX1 hE) (fun _ h => h) hown hK hP 2 rfl rfl 7 (by decide) (hE _ fl_X1_34 rfl _) (fun _ h9 => h9) rfl dX1_add_1 ?_
  refine lv_istore (lv' := [(4, .int (a.2 0)), (0, .ref (q 2)), (1, .int v1), (2, .int v2), (3, .int v3)]) hx hb dX1_add_4 hl (by decide) rfl (fun ls hl => ?_)
  refine lv_aload_n hx hb dX1_add_6 rfl (lv_at hl 1 rfl) ?_
  refine va_get (D := D) (ci := 1) (v := .ref (q 8)) (C := RX1) (T := TX1) (N := 8) hx hb (hwX1 hE) (fun _ h => h) hown hK hP 2 rfl rfl 0 (by decide) (hE _ fl_X1_9 rfl _) (fun _ h9 => h9) rfl dX1_add_7 ?_
  refine lv_iload hx hb dX1_add_10 (lv_at hl 0 rfl) ?_
  refine lv_iload_n hx hb dX1_add_12 rfl (lv_at hl 2 rfl) ?_
  obtain ⟨hin, hf⟩ := xguard hf
  refine va_iast hx hb hK hP hD hS 8 0 rfl rfl hin dX1_add_13 (fun H locs hP hD hS => ?_)
  rw [xw_s8] at hP hD
  exact t_X1_add_14 ⟨hx, hb, hml, hr, hlocks, hown, hno, hG⟩ hP hD hS  (lv_sub hl [1, 3, 4, 0] rfl) hf
noncomputable def f_X1_add (a : xT) (v1 : Int32) (v2 : Int32) (v3 : Int32) : Option (Int32 × xT) := g_X1_add_0 a v1 v2 v3
set_option maxHeartbeats 4000000 in
set_option maxRecDepth 100000 in
theorem c_X1_add (l : Launch) (D : va_G) (q : Nat → Nat) (k : Nat → ClassId) (sz : Nat) (a b : xT) (o : Nat → Int64) (v1 : Int32) (v2 : Int32) (v3 : Int32) (y : Int32 × xT) (hf : f_X1_add a v1 v2 v3 = some y) : xMet l yX1_add (.code yX1_add cX1_add 5 (some .int)) r_X1_add (xPcm D q k sz a b o [.ref (q 2), .int v1, .int v2, .int v3]) (xQm D q k a b o (.inr (some (.int y.1), y.2, b))) 0 0 (va_A (xw q k a b o) sz) := by
  refine xMet.ofW (by decide) ?_
  intro p e s m args below meth c hx hb hml hr hlocks hnm hme hno hv
  obtain ⟨rfl, hsz, hP, hD, hG⟩ := hv
  subst hsz
  have hown : s.vm.findClass RX1 = some m.cls := findClass_of_methodNamed hnm
  have hl := lv_entry ([.ref (q 2), .int v1, .int v2, .int v3]) (n := 5) (Nat.le_of_ble_eq_true rfl)
  rw [lg_entry_eq]
  generalize (lg_sl ([.ref (q 2), .int v1, .int v2, .int v3]) ++ List.replicate (5 - (lg_sl ([.ref (q 2), .int v1, .int v2, .int v3])).length) Slot.unset).toArray = ls at hl ⊢
  have hl : lv_has ls 5 [(0, .ref (q 2)), (1, .int v1), (2, .int v2), (3, .int v3)] := hl
  have hD := hD.self (sz := s.heap.size)
  exact t_X1_add_0 ⟨hx, hb, hml, hr, hlocks, hown, hno, hG⟩ hP hD va_S.rf hl hf
abbrev r_X1_canUse : Room := { frames := 0, cells := 0, slots := 0, locals := 0 }
noncomputable def g_X1_canUse_15  (a : xT) (s0 : Int32) : Option (Int32) := (if xzb s0 = true then some s0 else none)
set_option maxHeartbeats 4000000 in
set_option maxRecDepth 100000 in
theorem t_X1_canUse_15 {p : Program} {l : Launch} {e : Env} {s : State} {m : MethodId} {args : Array Value} {below : List Frame} {meth : Method} {c : Code} {D : va_G} {q : Nat → Nat} {k : Nat → ClassId} {a b : xT} {o : Nat → Int64} {y : Int32} (C : xCx p s m meth c cX1_canUse 3 (some .boolean) RX1 D k) (hP : va_P D vwCl (xw q k a b o) s.heap) (hD : va_D (fun _ => True) (xw q k a b o))  {s0 : Int32} {ls : Array Slot} (hl : lv_has ls 3 []) (hf : g_X1_canUse_15  a s0 = some y) : W p l e r_X1_canUse s m args below meth c s.heap [] 0 0 (xMQ below (xQr (.inr (some (.int y)))) args s (xmc (.inr (some (.int y)))) (xms (.inr (some (.int y)))) (fun _ => False)) (F0 m 15 ls [.int s0]) := by
  obtain ⟨hx, hb, hml, hr, hlocks, hown, hno, hG⟩ := C
  have hK := hG.1
  have hE := hG.2.1
  unfold g_X1_canUse_15 at hf
  obtain ⟨hz, hf⟩ := xguz hf
  cases hf
  exact xret_z hx hb hr hz hlocks dX1_canUse_15
noncomputable def g_X1_canUse_0  (a : xT) (v1 : Int32) (v2 : Int32) : Option (Int32) := (if xin v1 60 = true then (if v2 < (a.1 5 v1.toNatClampNeg) then g_X1_canUse_15  a 0 else g_X1_canUse_15  a 1) else none)
set_option maxHeartbeats 4000000 in
set_option maxRecDepth 100000 in
theorem t_X1_canUse_0 {p : Program} {l : Launch} {e : Env} {s : State} {m : MethodId} {args : Array Value} {below : List Frame} {meth : Method} {c : Code} {D : va_G} {q : Nat → Nat} {k : Nat → ClassId} {a b : xT} {o : Nat → Int64} {y : Int32} (C : xCx p s m meth c cX1_canUse 3 (some .boolean) RX1 D k) (hP : va_P D vwCl (xw q k a b o) s.heap) (hD : va_D (fun _ => True) (xw q k a b o))  {v1 v2 : Int32} {ls : Array Slot} (hl : lv_has ls 3 [(0, .ref (q 2)), (1, .int v1), (2, .int v2)]) (hf : g_X1_canUse_0  a v1 v2 = some y) : W p l e r_X1_canUse s m args below meth c s.heap [] 0 0 (xMQ below (xQr (.inr (some (.int y)))) args s (xmc (.inr (some (.int y)))) (xms (.inr (some (.int y)))) (fun _ => False)) (F0 m 0 ls []) := by
  obtain ⟨hx, hb, hml, hr, hlocks, hown, hno, hG⟩ := C
  have hK := hG.1
  have hE := hG.2.1
  unfold g_X1_canUse_0 at hf
  refine lv_iload_n hx hb dX1_canUse_0 rfl (lv_at hl 2 rfl) ?_
  refine lv_aload_n hx hb dX1_canUse_1 rfl (lv_at hl 0 rfl) ?_
  refine va_get (D := D) (ci := 1) (v := .ref (q 10)) (C := RX1) (T := TX1) (N := 8) hx hb (hwX1 hE) (fun _ h => h) hown hK hP 2 rfl rfl 2 (by decide) (hE _ fl_X1_18 rfl _) (fun _ h9 => h9) rfl dX1_canUse_2 ?_
  refine lv_iload_n hx hb dX1_canUse_5 rfl (lv_at hl 1 rfl) ?_
  obtain ⟨hin, hf⟩ := xguard hf
  refine va_iald hx hb hK hP 10 0 rfl rfl hin dX1_canUse_6 ?_
  refine lv_icmp_lt hx hb dX1_canUse_7 rfl (fun hc => ?_) (fun hc => ?_)
  · rw [if_pos hc] at hf
    refine lv_iconst (v := 0) hx hb dX1_canUse_14 (by decide) ?_
    exact t_X1_canUse_15 ⟨hx, hb, hml, hr, hlocks, hown, hno, hG⟩ hP hD  (lv_sub hl [] rfl) hf
  · rw [if_neg hc] at hf
    refine lv_iconst (v := 1) hx hb dX1_canUse_10 (by decide) ?_
    refine lv_goto hx hb dX1_canUse_11 rfl ?_
    exact t_X1_canUse_15 ⟨hx, hb, hml, hr, hlocks, hown, hno, hG⟩ hP hD  (lv_sub hl [] rfl) hf
noncomputable def f_X1_canUse (a : xT) (v1 : Int32) (v2 : Int32) : Option (Int32) := g_X1_canUse_0 a v1 v2
set_option maxHeartbeats 4000000 in
set_option maxRecDepth 100000 in
theorem c_X1_canUse (l : Launch) (D : va_G) (q : Nat → Nat) (k : Nat → ClassId) (a b : xT) (o : Nat → Int64) (v1 : Int32) (v2 : Int32) (y : Int32) (hf : f_X1_canUse a v1 v2 = some y) : xMet l yX1_canUse (.code yX1_canUse cX1_canUse 3 (some .boolean)) r_X1_canUse (xPc D q k a b o [.ref (q 2), .int v1, .int v2]) (xQr (.inr (some (.int y)))) (xmc (.inr (some (.int y)))) (xms (.inr (some (.int y)))) (fun _ => False) := by
  refine xMet.ofW (by decide) ?_
  intro p e s m args below meth c hx hb hml hr hlocks hnm hme hno hv
  obtain ⟨rfl, hP, hD, hG⟩ := hv
  have hown : s.vm.findClass RX1 = some m.cls := findClass_of_methodNamed hnm
  have hl := lv_entry ([.ref (q 2), .int v1, .int v2]) (n := 3) (Nat.le_of_ble_eq_true rfl)
  rw [lg_entry_eq]
  generalize (lg_sl ([.ref (q 2), .int v1, .int v2]) ++ List.replicate (3 - (lg_sl ([.ref (q 2), .int v1, .int v2])).length) Slot.unset).toArray = ls at hl ⊢
  have hl : lv_has ls 3 [(0, .ref (q 2)), (1, .int v1), (2, .int v2)] := hl
  exact t_X1_canUse_0 ⟨hx, hb, hml, hr, hlocks, hown, hno, hG⟩ hP hD hl hf
abbrev r_X1_isPlannable : Room := { frames := 0, cells := 0, slots := 0, locals := 0 }
noncomputable def g_X1_isPlannable_23  (a : xT) (s0 : Int32) : Option (Int32) := (if xzb s0 = true then some s0 else none)
set_option maxHeartbeats 4000000 in
set_option maxRecDepth 100000 in
theorem t_X1_isPlannable_23 {p : Program} {l : Launch} {e : Env} {s : State} {m : MethodId} {args : Array Value} {below : List Frame} {meth : Method} {c : Code} {D : va_G} {q : Nat → Nat} {k : Nat → ClassId} {a b : xT} {o : Nat → Int64} {y : Int32} (C : xCx p s m meth c cX1_isPlannable 2 (some .boolean) RX1 D k) (hP : va_P D vwCl (xw q k a b o) s.heap) (hD : va_D (fun _ => True) (xw q k a b o))  {s0 : Int32} {ls : Array Slot} (hl : lv_has ls 2 []) (hf : g_X1_isPlannable_23  a s0 = some y) : W p l e r_X1_isPlannable s m args below meth c s.heap [] 0 0 (xMQ below (xQr (.inr (some (.int y)))) args s (xmc (.inr (some (.int y)))) (xms (.inr (some (.int y)))) (fun _ => False)) (F0 m 23 ls [.int s0]) := by
  obtain ⟨hx, hb, hml, hr, hlocks, hown, hno, hG⟩ := C
  have hK := hG.1
  have hE := hG.2.1
  unfold g_X1_isPlannable_23 at hf
  obtain ⟨hz, hf⟩ := xguz hf
  cases hf
  exact xret_z hx hb hr hz hlocks dX1_isPlannable_23
noncomputable def g_X1_isPlannable_22  (a : xT)  : Option (Int32) := g_X1_isPlannable_23  a 0
set_option maxHeartbeats 4000000 in
set_option maxRecDepth 100000 in
theorem t_X1_isPlannable_22 {p : Program} {l : Launch} {e : Env} {s : State} {m : MethodId} {args : Array Value} {below : List Frame} {meth : Method} {c : Code} {D : va_G} {q : Nat → Nat} {k : Nat → ClassId} {a b : xT} {o : Nat → Int64} {y : Int32} (C : xCx p s m meth c cX1_isPlannable 2 (some .boolean) RX1 D k) (hP : va_P D vwCl (xw q k a b o) s.heap) (hD : va_D (fun _ => True) (xw q k a b o))  {ls : Array Slot} (hl : lv_has ls 2 []) (hf : g_X1_isPlannable_22  a  = some y) : W p l e r_X1_isPlannable s m args below meth c s.heap [] 0 0 (xMQ below (xQr (.inr (some (.int y)))) args s (xmc (.inr (some (.int y)))) (xms (.inr (some (.int y)))) (fun _ => False)) (F0 m 22 ls []) := by
  obtain ⟨hx, hb, hml, hr, hlocks, hown, hno, hG⟩ := C
  have hK := hG.1
  have hE := hG.2.1
  unfold g_X1_isPlannable_22 at hf
  refine lv_iconst (v := 0) hx hb dX1_isPlannable_22 (by decide) ?_
  exact t_X1_isPlannable_23 ⟨hx, hb, hml, hr, hlocks, hown, hno, hG⟩ hP hD  (lv_sub hl [] rfl) hf
noncomputable def g_X1_isPlannable_0  (a : xT) (v1 : Int32) : Option (Int32) := (if xin v1 60 = true then (if (a.1 7 v1.toNatClampNeg) = 0 then (if xin v1 60 = true then (if (a.1 8 v1.toNatClampNeg) = 0 then g_X1_isPlannable_23  a 1 else g_X1_isPlannable_22  a ) else none) else g_X1_isPlannable_22  a ) else none)
set_option maxHeartbeats 4000000 in
set_option maxRecDepth 100000 in
theorem t_X1_isPlannable_0 {p : Program} {l : Launch} {e : Env} {s : State} {m : MethodId} {args : Array Value} {below : List Frame} {meth : Method} {c : Code} {D : va_G} {q : Nat → Nat} {k : Nat → ClassId} {a b : xT} {o : Nat → Int64} {y : Int32} (C : xCx p s m meth c cX1_isPlannable 2 (some .boolean) RX1 D k) (hP : va_P D vwCl (xw q k a b o) s.heap) (hD : va_D (fun _ => True) (xw q k a b o))  {v1 : Int32} {ls : Array Slot} (hl : lv_has ls 2 [(0, .ref (q 2)), (1, .int v1)]) (hf : g_X1_isPlannable_0  a v1 = some y) : W p l e r_X1_isPlannable s m args below meth c s.heap [] 0 0 (xMQ below (xQr (.inr (some (.int y)))) args s (xmc (.inr (some (.int y)))) (xms (.inr (some (.int y)))) (fun _ => False)) (F0 m 0 ls []) := by
  obtain ⟨hx, hb, hml, hr, hlocks, hown, hno, hG⟩ := C
  have hK := hG.1
  have hE := hG.2.1
  unfold g_X1_isPlannable_0 at hf
  refine lv_aload_n hx hb dX1_isPlannable_0 rfl (lv_at hl 0 rfl) ?_
  refine va_get (D := D) (ci := 1) (v := .ref (q 12)) (C := RX1) (T := TX1) (N := 8) hx hb (hwX1 hE) (fun _ h => h) hown hK hP 2 rfl rfl 4 (by decide) (hE _ fl_X1_24 rfl _) (fun _ h9 => h9) rfl dX1_isPlannable_1 ?_
  refine lv_iload_n hx hb dX1_isPlannable_4 rfl (lv_at hl 1 rfl) ?_
  obtain ⟨hin, hf⟩ := xguard hf
  refine va_zald hx hb hK hP 12 1 rfl rfl hin dX1_isPlannable_5 ?_
  refine lv_if_ne hx hb dX1_isPlannable_6 rfl (fun hc => ?_) (fun hc => ?_)
  · rw [if_neg hc] at hf
    exact t_X1_isPlannable_22 ⟨hx, hb, hml, hr, hlocks, hown, hno, hG⟩ hP hD  (lv_sub hl [] rfl) hf
  · rw [if_pos hc] at hf
    refine lv_aload_n hx hb dX1_isPlannable_9 rfl (lv_at hl 0 rfl) ?_
    refine va_get (D := D) (ci := 1) (v := .ref (q 13)) (C := RX1) (T := TX1) (N := 8) hx hb (hwX1 hE) (fun _ h => h) hown hK hP 2 rfl rfl 5 (by decide) (hE _ fl_X1_28 rfl _) (fun _ h9 => h9) rfl dX1_isPlannable_10 ?_
    refine lv_iload_n hx hb dX1_isPlannable_13 rfl (lv_at hl 1 rfl) ?_
    obtain ⟨hin, hf⟩ := xguard hf
    refine va_zald hx hb hK hP 13 1 rfl rfl hin dX1_isPlannable_14 ?_
    refine lv_if_ne hx hb dX1_isPlannable_15 rfl (fun hc => ?_) (fun hc => ?_)
    · rw [if_neg hc] at hf
      exact t_X1_isPlannable_22 ⟨hx, hb, hml, hr, hlocks, hown, hno, hG⟩ hP hD  (lv_sub hl [] rfl) hf
    · rw [if_pos hc] at hf
      refine lv_iconst (v := 1) hx hb dX1_isPlannable_18 (by decide) ?_
      refine lv_goto hx hb dX1_isPlannable_19 rfl ?_
      exact t_X1_isPlannable_23 ⟨hx, hb, hml, hr, hlocks, hown, hno, hG⟩ hP hD  (lv_sub hl [] rfl) hf
noncomputable def f_X1_isPlannable (a : xT) (v1 : Int32) : Option (Int32) := g_X1_isPlannable_0 a v1
set_option maxHeartbeats 4000000 in
set_option maxRecDepth 100000 in
theorem c_X1_isPlannable (l : Launch) (D : va_G) (q : Nat → Nat) (k : Nat → ClassId) (a b : xT) (o : Nat → Int64) (v1 : Int32) (y : Int32) (hf : f_X1_isPlannable a v1 = some y) : xMet l yX1_isPlannable (.code yX1_isPlannable cX1_isPlannable 2 (some .boolean)) r_X1_isPlannable (xPc D q k a b o [.ref (q 2), .int v1]) (xQr (.inr (some (.int y)))) (xmc (.inr (some (.int y)))) (xms (.inr (some (.int y)))) (fun _ => False) := by
  refine xMet.ofW (by decide) ?_
  intro p e s m args below meth c hx hb hml hr hlocks hnm hme hno hv
  obtain ⟨rfl, hP, hD, hG⟩ := hv
  have hown : s.vm.findClass RX1 = some m.cls := findClass_of_methodNamed hnm
  have hl := lv_entry ([.ref (q 2), .int v1]) (n := 2) (Nat.le_of_ble_eq_true rfl)
  rw [lg_entry_eq]
  generalize (lg_sl ([.ref (q 2), .int v1]) ++ List.replicate (2 - (lg_sl ([.ref (q 2), .int v1])).length) Slot.unset).toArray = ls at hl ⊢
  have hl : lv_has ls 2 [(0, .ref (q 2)), (1, .int v1)] := hl
  exact t_X1_isPlannable_0 ⟨hx, hb, hml, hr, hlocks, hown, hno, hG⟩ hP hD hl hf
abbrev r_X2_add : Room := { frames := 0, cells := 0, slots := 0, locals := 0 }
noncomputable def g_X2_add_48  (a : xT) (v4 : Int32) : Option (Int32 × xT) := some (v4, a)
set_option maxHeartbeats 4000000 in
set_option maxRecDepth 100000 in
theorem t_X2_add_48 {p : Program} {l : Launch} {e : Env} {s : State} {m : MethodId} {args : Array Value} {below : List Frame} {meth : Method} {c : Code} {D : va_G} {q : Nat → Nat} {k : Nat → ClassId} {a b : xT} {o : Nat → Int64} {z : xT} {y : Int32 × xT} (C : xCx p s m meth c cX2_add 5 (some .int) RX2 D k) {H : Heap} {locs : List Loc} (hP : va_P D vwCl (xw q k a b o) H) (hD : va_D (va_A (xw q k z b o) s.heap.size) (xw q k a b o)) (hS : va_S (va_A (xw q k z b o) s.heap.size) s.heap H locs)  {v4 : Int32} {ls : Array Slot} (hl : lv_has ls 5 [(4, .int v4)]) (hf : g_X2_add_48  a v4 = some y) : W p l e r_X2_add s m args below meth c H locs 0 0 (xMQ below (xQm D q k z b o (.inr (some (.int y.1), y.2, b))) args s 0 0 (va_A (xw q k z b o) s.heap.size)) (F0 m 48 ls []) := by
  obtain ⟨hx, hb, hml, hr, hlocks, hown, hno, hG⟩ := C
  have hK := hG.1
  have hE := hG.2.1
  have hA : ∀ u, s.heap.size ≤ u → va_A (xw q k z b o) s.heap.size u := fun u h => Or.inr h
  unfold g_X2_add_48 at hf
  refine lv_iload hx hb dX2_add_48 (lv_at hl 0 rfl) ?_
  cases hf
  exact xretm_i hx hb hr hlocks hP hS dX2_add_50
noncomputable def g_X2_add_38  (a : xT) (v4 : Int32) : Option (Int32 × xT) := g_X2_add_48  (xn a 1 ((a.2 1) + 1)) v4
set_option maxHeartbeats 4000000 in
set_option maxRecDepth 100000 in
theorem t_X2_add_38 {p : Program} {l : Launch} {e : Env} {s : State} {m : MethodId} {args : Array Value} {below : List Frame} {meth : Method} {c : Code} {D : va_G} {q : Nat → Nat} {k : Nat → ClassId} {a b : xT} {o : Nat → Int64} {z : xT} {y : Int32 × xT} (C : xCx p s m meth c cX2_add 5 (some .int) RX2 D k) {H : Heap} {locs : List Loc} (hP : va_P D vwCl (xw q k a b o) H) (hD : va_D (va_A (xw q k z b o) s.heap.size) (xw q k a b o)) (hS : va_S (va_A (xw q k z b o) s.heap.size) s.heap H locs)  {v4 : Int32} {ls : Array Slot} (hl : lv_has ls 5 [(0, .ref (q 3)), (4, .int v4)]) (hf : g_X2_add_38  a v4 = some y) : W p l e r_X2_add s m args below meth c H locs 0 0 (xMQ below (xQm D q k z b o (.inr (some (.int y.1), y.2, b))) args s 0 0 (va_A (xw q k z b o) s.heap.size)) (F0 m 38 ls []) := by
  obtain ⟨hx, hb, hml, hr, hlocks, hown, hno, hG⟩ := C
  have hK := hG.1
  have hE := hG.2.1
  have hA : ∀ u, s.heap.size ≤ u → va_A (xw q k z b o) s.heap.size u := fun u h => Or.inr h
  unfold g_X2_add_38 at hf
  refine lv_aload_n hx hb dX2_add_38 rfl (lv_at hl 0 rfl) ?_
  refine lv_dup hx hb dX2_add_39 rfl ?_
  refine va_get (D := D) (ci := 2) (v := .int (a.2 1)) (C := RX2) (T := TX2) (N := 5) hx hb (hwX2 hE) (fun _ h => h) hown hK hP 3 rfl rfl 4 (by decide) (hE _ fl_X2_25 rfl _) (fun _ h9 => h9) rfl dX2_add_40 ?_
  refine lv_iconst (v := 1) hx hb dX2_add_43 (by decide) ?_
  refine lv_iadd hx hb dX2_add_44 ?_
  refine va_put (D := D) (ci := 2) (v := .int ((a.2 1) + 1)) (ty := .int) (C := RX2) (T := TX2) (N := 5) hx hb (hwX2 hE) (fun _ h => h) tyX2 tyX2_ok nmX2 hown hK hP hD hS 3 rfl rfl 4 (by decide) (hE _ fl_X2_25 rfl _) (fun _ h9 => h9) rfl (by decide +kernel) rfl rfl (Nat.le_of_ble_eq_true rfl) dX2_add_45 (fun H locs hP hD hS => ?_)
  rw [xw_n3_4] at hP hD
  exact t_X2_add_48 ⟨hx, hb, hml, hr, hlocks, hown, hno, hG⟩ hP hD hS  (lv_sub hl [1] rfl) hf
noncomputable def g_X2_add_30  (a : xT) (v4 : Int32) : Option (Int32 × xT) := (if xin v4 40 = true then g_X2_add_38  (xs a 13 v4.toNatClampNeg (vp_nar .boolean 1)) v4 else none)
set_option maxHeartbeats 4000000 in
set_option maxRecDepth 100000 in
theorem t_X2_add_30 {p : Program} {l : Launch} {e : Env} {s : State} {m : MethodId} {args : Array Value} {below : List Frame} {meth : Method} {c : Code} {D : va_G} {q : Nat → Nat} {k : Nat → ClassId} {a b : xT} {o : Nat → Int64} {z : xT} {y : Int32 × xT} (C : xCx p s m meth c cX2_add 5 (some .int) RX2 D k) {H : Heap} {locs : List Loc} (hP : va_P D vwCl (xw q k a b o) H) (hD : va_D (va_A (xw q k z b o) s.heap.size) (xw q k a b o)) (hS : va_S (va_A (xw q k z b o) s.heap.size) s.heap H locs)  {v4 : Int32} {ls : Array Slot} (hl : lv_has ls 5 [(0, .ref (q 3)), (4, .int v4)]) (hf : g_X2_add_30  a v4 = some y) : W p l e r_X2_add s m args below meth c H locs 0 0 (xMQ below (xQm D q k z b o (.inr (some (.int y.1), y.2, b))) args s 0 0 (va_A (xw q k z b o) s.heap.size)) (F0 m 30 ls []) := by
  obtain ⟨hx, hb, hml, hr, hlocks, hown, hno, hG⟩ := C
  have hK := hG.1
  have hE := hG.2.1
  have hA : ∀ u, s.heap.size ≤ u → va_A (xw q k z b o) s.heap.size u := fun u h => Or.inr h
  unfold g_X2_add_30 at hf
  refine lv_aload_n hx hb dX2_add_30 rfl (lv_at hl 0 rfl) ?_
  refine va_get (D := D) (ci := 2) (v := .ref (q 18)) (C := RX2) (T := TX2) (N := 5) hx hb (hwX2 hE) (fun _ h => h) hown hK hP 3 rfl rfl 3 (by decide) (hE _ fl_X2_21 rfl _) (fun _ h9 => h9) rfl dX2_add_31 ?_
  refine lv_iload hx hb dX2_add_34 (lv_at hl 1 rfl) ?_
  refine lv_iconst (v := 1) hx hb dX2_add_36 (by decide) ?_
  obtain ⟨hin, hf⟩ := xguard hf
  refine va_zast hx hb hK hP hD hS 18 1 rfl rfl hin dX2_add_37 (fun H locs hP hD hS => ?_)
  rw [xw_s18] at hP hD
  exact t_X2_add_38 ⟨hx, hb, hml, hr, hlocks, hown, hno, hG⟩ hP hD hS  (lv_sub hl [0, 1] rfl) hf
noncomputable def g_X2_add_22  (a : xT) (v3 : Int32) (v4 : Int32) : Option (Int32 × xT) := (if xin v4 40 = true then g_X2_add_30  (xs a 12 v4.toNatClampNeg v3) v4 else none)
set_option maxHeartbeats 4000000 in
set_option maxRecDepth 100000 in
theorem t_X2_add_22 {p : Program} {l : Launch} {e : Env} {s : State} {m : MethodId} {args : Array Value} {below : List Frame} {meth : Method} {c : Code} {D : va_G} {q : Nat → Nat} {k : Nat → ClassId} {a b : xT} {o : Nat → Int64} {z : xT} {y : Int32 × xT} (C : xCx p s m meth c cX2_add 5 (some .int) RX2 D k) {H : Heap} {locs : List Loc} (hP : va_P D vwCl (xw q k a b o) H) (hD : va_D (va_A (xw q k z b o) s.heap.size) (xw q k a b o)) (hS : va_S (va_A (xw q k z b o) s.heap.size) s.heap H locs)  {v3 v4 : Int32} {ls : Array Slot} (hl : lv_has ls 5 [(0, .ref (q 3)), (3, .int v3), (4, .int v4)]) (hf : g_X2_add_22  a v3 v4 = some y) : W p l e r_X2_add s m args below meth c H locs 0 0 (xMQ below (xQm D q k z b o (.inr (some (.int y.1), y.2, b))) args s 0 0 (va_A (xw q k z b o) s.heap.size)) (F0 m 22 ls []) := by
  obtain ⟨hx, hb, hml, hr, hlocks, hown, hno, hG⟩ := C
  have hK := hG.1
  have hE := hG.2.1
  have hA : ∀ u, s.heap.size ≤ u → va_A (xw q k z b o) s.heap.size u := fun u h => Or.inr h
  unfold g_X2_add_22 at hf
  refine lv_aload_n hx hb dX2_add_22 rfl (lv_at hl 0 rfl) ?_
  refine va_get (D := D) (ci := 2) (v := .ref (q 17)) (C := RX2) (T := TX2) (N := 5) hx hb (hwX2 hE) (fun _ h => h) hown hK hP 3 rfl rfl 2 (by decide) (hE _ fl_X2_18 rfl _) (fun _ h9 => h9) rfl dX2_add_23 ?_
  refine lv_iload hx hb dX2_add_26 (lv_at hl 2 rfl) ?_
  refine lv_iload_n hx hb dX2_add_28 rfl (lv_at hl 1 rfl) ?_
  obtain ⟨hin, hf⟩ := xguard hf
  refine va_iast hx hb hK hP hD hS 17 0 rfl rfl hin dX2_add_29 (fun H locs hP hD hS => ?_)
  rw [xw_s17] at hP hD
  exact t_X2_add_30 ⟨hx, hb, hml, hr, hlocks, hown, hno, hG⟩ hP hD hS  (lv_sub hl [0, 2] rfl) hf
noncomputable def g_X2_add_14  (a : xT) (v2 : Int32) (v3 : Int32) (v4 : Int32) : Option (Int32 × xT) := (if xin v4 40 = true then g_X2_add_22  (xs a 11 v4.toNatClampNeg v2) v3 v4 else none)
set_option maxHeartbeats 4000000 in
set_option maxRecDepth 100000 in
theorem t_X2_add_14 {p : Program} {l : Launch} {e : Env} {s : State} {m : MethodId} {args : Array Value} {below : List Frame} {meth : Method} {c : Code} {D : va_G} {q : Nat → Nat} {k : Nat → ClassId} {a b : xT} {o : Nat → Int64} {z : xT} {y : Int32 × xT} (C : xCx p s m meth c cX2_add 5 (some .int) RX2 D k) {H : Heap} {locs : List Loc} (hP : va_P D vwCl (xw q k a b o) H) (hD : va_D (va_A (xw q k z b o) s.heap.size) (xw q k a b o)) (hS : va_S (va_A (xw q k z b o) s.heap.size) s.heap H locs)  {v2 v3 v4 : Int32} {ls : Array Slot} (hl : lv_has ls 5 [(0, .ref (q 3)), (2, .int v2), (3, .int v3), (4, .int v4)]) (hf : g_X2_add_14  a v2 v3 v4 = some y) : W p l e r_X2_add s m args below meth c H locs 0 0 (xMQ below (xQm D q k z b o (.inr (some (.int y.1), y.2, b))) args s 0 0 (va_A (xw q k z b o) s.heap.size)) (F0 m 14 ls []) := by
  obtain ⟨hx, hb, hml, hr, hlocks, hown, hno, hG⟩ := C
  have hK := hG.1
  have hE := hG.2.1
  have hA : ∀ u, s.heap.size ≤ u → va_A (xw q k z b o) s.heap.size u := fun u h => Or.inr h
  unfold g_X2_add_14 at hf
  refine lv_aload_n hx hb dX2_add_14 rfl (lv_at hl 0 rfl) ?_
  refine va_get (D := D) (ci := 2) (v := .ref (q 16)) (C := RX2) (T := TX2) (N := 5) hx hb (hwX2 hE) (fun _ h => h) hown hK hP 3 rfl rfl 1 (by decide) (hE _ fl_X2_15 rfl _) (fun _ h9 => h9) rfl dX2_add_15 ?_
  refine lv_iload hx hb dX2_add_18 (lv_at hl 3 rfl) ?_
  refine lv_iload_n hx hb dX2_add_20 rfl (lv_at hl 1 rfl) ?_
  obtain ⟨hin, hf⟩ := xguard hf
  refine va_iast hx hb hK hP hD hS 16 0 rfl rfl hin dX2_add_21 (fun H locs hP hD hS => ?_)
  rw [xw_s16] at hP hD
  exact t_X2_add_22 ⟨hx, hb, hml, hr, hlocks, hown, hno, hG⟩ hP hD hS  (lv_sub hl [0, 2, 3] rfl) hf
noncomputable def g_X2_add_0  (a : xT) (v1 : Int32) (v2 : Int32) (v3 : Int32) : Option (Int32 × xT) := (if xin (a.2 1) 40 = true then g_X2_add_14  (xs a 10 (a.2 1).toNatClampNeg v1) v2 v3 (a.2 1) else none)
set_option maxHeartbeats 4000000 in
set_option maxRecDepth 100000 in
theorem t_X2_add_0 {p : Program} {l : Launch} {e : Env} {s : State} {m : MethodId} {args : Array Value} {below : List Frame} {meth : Method} {c : Code} {D : va_G} {q : Nat → Nat} {k : Nat → ClassId} {a b : xT} {o : Nat → Int64} {z : xT} {y : Int32 × xT} (C : xCx p s m meth c cX2_add 5 (some .int) RX2 D k) {H : Heap} {locs : List Loc} (hP : va_P D vwCl (xw q k a b o) H) (hD : va_D (va_A (xw q k z b o) s.heap.size) (xw q k a b o)) (hS : va_S (va_A (xw q k z b o) s.heap.size) s.heap H locs)  {v1 v2 v3 : Int32} {ls : Array Slot} (hl : lv_has ls 5 [(0, .ref (q 3)), (1, .int v1), (2, .int v2), (3, .int v3)]) (hf : g_X2_add_0  a v1 v2 v3 = some y) : W p l e r_X2_add s m args below meth c H locs 0 0 (xMQ below (xQm D q k z b o (.inr (some (.int y.1), y.2, b))) args s 0 0 (va_A (xw q k z b o) s.heap.size)) (F0 m 0 ls []) := by
  obtain ⟨hx, hb, hml, hr, hlocks, hown, hno, hG⟩ := C
  have hK := hG.1
  have hE := hG.2.1
  have hA : ∀ u, s.heap.size ≤ u → va_A (xw q k z b o) s.heap.size u := fun u h => Or.inr h
  unfold g_X2_add_0 at hf
  refine lv_aload_n hx hb dX2_add_0 rfl (lv_at hl 0 rfl) ?_
  refine va_get (D := D) (ci := 2) (v := .int (a.2 1)) (C := RX2) (T := TX2) (N := 5) hx hb (hwX2 hE) (fun _ h => h) hown hK hP 3 rfl rfl 4 (by decide) (hE _ fl_X2_25 rfl _) (fun _ h9 => h9) rfl dX2_add_1 ?_
  refine lv_istore (lv' := [(4, .int (a.2 1)), (0, .ref (q 3)), (1, .int v1), (2, .int v2), (3, .int v3)]) hx hb dX2_add_4 hl (by decide) rfl (fun ls hl => ?_)
  refine lv_aload_n hx hb dX2_add_6 rfl (lv_at hl 1 rfl) ?_
  refine va_get (D := D) (ci := 2) (v := .ref (q 15)) (C := RX2) (T := TX2) (N := 5) hx hb (hwX2 hE) (fun _ h => h) hown hK hP 3 rfl rfl 0 (by decide) (hE _ fl_X2_9 rfl _) (fun _ h9 => h9) rfl dX2_add_7 ?_
  refine lv_iload hx hb dX2_add_10 (lv_at hl 0 rfl) ?_
  refine lv_iload_n hx hb dX2_add_12 rfl (lv_at hl 2 rfl) ?_
  obtain ⟨hin, hf⟩ := xguard hf
  refine va_iast hx hb hK hP hD hS 15 0 rfl rfl hin dX2_add_13 (fun H locs hP hD hS => ?_)
  rw [xw_s15] at hP hD
  exact t_X2_add_14 ⟨hx, hb, hml, hr, hlocks, hown, hno, hG⟩ hP hD hS  (lv_sub hl [1, 3, 4, 0] rfl) hf
noncomputable def f_X2_add (a : xT) (v1 : Int32) (v2 : Int32) (v3 : Int32) : Option (Int32 × xT) := g_X2_add_0 a v1 v2 v3
set_option maxHeartbeats 4000000 in
set_option maxRecDepth 100000 in
theorem c_X2_add (l : Launch) (D : va_G) (q : Nat → Nat) (k : Nat → ClassId) (sz : Nat) (a b : xT) (o : Nat → Int64) (v1 : Int32) (v2 : Int32) (v3 : Int32) (y : Int32 × xT) (hf : f_X2_add a v1 v2 v3 = some y) : xMet l yX2_add (.code yX2_add cX2_add 5 (some .int)) r_X2_add (xPcm D q k sz a b o [.ref (q 3), .int v1, .int v2, .int v3]) (xQm D q k a b o (.inr (some (.int y.1), y.2, b))) 0 0 (va_A (xw q k a b o) sz) := by
  refine xMet.ofW (by decide) ?_
  intro p e s m args below meth c hx hb hml hr hlocks hnm hme hno hv
  obtain ⟨rfl, hsz, hP, hD, hG⟩ := hv
  subst hsz
  have hown : s.vm.findClass RX2 = some m.cls := findClass_of_methodNamed hnm
  have hl := lv_entry ([.ref (q 3), .int v1, .int v2, .int v3]) (n := 5) (Nat.le_of_ble_eq_true rfl)
  rw [lg_entry_eq]
  generalize (lg_sl ([.ref (q 3), .int v1, .int v2, .int v3]) ++ List.replicate (5 - (lg_sl ([.ref (q 3), .int v1, .int v2, .int v3])).length) Slot.unset).toArray = ls at hl ⊢
  have hl : lv_has ls 5 [(0, .ref (q 3)), (1, .int v1), (2, .int v2), (3, .int v3)] := hl
  have hD := hD.self (sz := s.heap.size)
  exact t_X2_add_0 ⟨hx, hb, hml, hr, hlocks, hown, hno, hG⟩ hP hD va_S.rf hl hf
