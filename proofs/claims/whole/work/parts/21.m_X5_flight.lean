abbrev r_X5_flight : Room := { frames := 1, cells := 0, slots := 0, locals := 22 }
noncomputable def g_X5_flight_130  (b : xT)  : Option (Int32 × xT) := some ((b.2 1) - 1, b)
set_option maxHeartbeats 4000000 in
set_option maxRecDepth 100000 in
theorem t_X5_flight_130 {p : Program} {l : Launch} {e : Env} {s : State} {m : MethodId} {args : Array Value} {below : List Frame} {meth : Method} {c : Code} {D : va_G} {q : Nat → Nat} {k : Nat → ClassId} {a b : xT} {o : Nat → Int64} {z : xT} {y : Int32 × xT} (C : xCx p s m meth c cX5_flight 5 (some .int) RX5 D k) {H : Heap} {locs : List Loc} (hP : va_P D vwCl (xw q k a b o) H) (hD : va_D (va_A (xw q k a z o) s.heap.size) (xw q k a b o)) (hS : va_S (va_A (xw q k a z o) s.heap.size) s.heap H locs)  {ls : Array Slot} (hl : lv_has ls 5 [(0, .ref (q 23))]) (hf : g_X5_flight_130  b  = some y) : W p l e r_X5_flight s m args below meth c H locs 0 0 (xMQ below (xQm D q k a z o (.inr (some (.int y.1), a, y.2))) args s 0 0 (va_A (xw q k a z o) s.heap.size)) (F0 m 130 ls []) := by
  obtain ⟨hx, hb, hml, hr, hlocks, hown, hno, hG⟩ := C
  have hK := hG.1
  have hE := hG.2.1
  have hA : ∀ u, s.heap.size ≤ u → va_A (xw q k a z o) s.heap.size u := fun u h => Or.inr h
  unfold g_X5_flight_130 at hf
  refine lv_aload_n hx hb dX5_flight_130 rfl (lv_at hl 0 rfl) ?_
  refine va_get (D := D) (ci := 5) (v := .int (b.2 1)) (C := RX5) (T := TX5) (N := 19) hx hb (hwX5 hE) (fun _ h => h) hown hK hP 23 rfl rfl 4 (by decide) (hE _ fl_X5_60 rfl _) (fun _ h9 => h9) rfl dX5_flight_131 ?_
  refine lv_iconst (v := 1) hx hb dX5_flight_134 (by decide) ?_
  refine lv_isub hx hb dX5_flight_135 ?_
  cases hf
  exact xretm_i hx hb hr hlocks hP hS dX5_flight_136
noncomputable def g_X5_flight_120  (b : xT)  : Option (Int32 × xT) := g_X5_flight_130  (xn b 1 ((b.2 1) + 1)) 
set_option maxHeartbeats 4000000 in
set_option maxRecDepth 100000 in
theorem t_X5_flight_120 {p : Program} {l : Launch} {e : Env} {s : State} {m : MethodId} {args : Array Value} {below : List Frame} {meth : Method} {c : Code} {D : va_G} {q : Nat → Nat} {k : Nat → ClassId} {a b : xT} {o : Nat → Int64} {z : xT} {y : Int32 × xT} (C : xCx p s m meth c cX5_flight 5 (some .int) RX5 D k) {H : Heap} {locs : List Loc} (hP : va_P D vwCl (xw q k a b o) H) (hD : va_D (va_A (xw q k a z o) s.heap.size) (xw q k a b o)) (hS : va_S (va_A (xw q k a z o) s.heap.size) s.heap H locs)  {ls : Array Slot} (hl : lv_has ls 5 [(0, .ref (q 23))]) (hf : g_X5_flight_120  b  = some y) : W p l e r_X5_flight s m args below meth c H locs 0 0 (xMQ below (xQm D q k a z o (.inr (some (.int y.1), a, y.2))) args s 0 0 (va_A (xw q k a z o) s.heap.size)) (F0 m 120 ls []) := by
  obtain ⟨hx, hb, hml, hr, hlocks, hown, hno, hG⟩ := C
  have hK := hG.1
  have hE := hG.2.1
  have hA : ∀ u, s.heap.size ≤ u → va_A (xw q k a z o) s.heap.size u := fun u h => Or.inr h
  unfold g_X5_flight_120 at hf
  refine lv_aload_n hx hb dX5_flight_120 rfl (lv_at hl 0 rfl) ?_
  refine lv_dup hx hb dX5_flight_121 rfl ?_
  refine va_get (D := D) (ci := 5) (v := .int (b.2 1)) (C := RX5) (T := TX5) (N := 19) hx hb (hwX5 hE) (fun _ h => h) hown hK hP 23 rfl rfl 4 (by decide) (hE _ fl_X5_60 rfl _) (fun _ h9 => h9) rfl dX5_flight_122 ?_
  refine lv_iconst (v := 1) hx hb dX5_flight_125 (by decide) ?_
  refine lv_iadd hx hb dX5_flight_126 ?_
  refine va_put (D := D) (ci := 5) (v := .int ((b.2 1) + 1)) (ty := .int) (C := RX5) (T := TX5) (N := 19) hx hb (hwX5 hE) (fun _ h => h) tyX5 tyX5_ok nmX5 hown hK hP hD hS 23 rfl rfl 4 (by decide) (hE _ fl_X5_60 rfl _) (fun _ h9 => h9) rfl (by decide +kernel) rfl rfl (Nat.le_of_ble_eq_true rfl) dX5_flight_127 (fun H locs hP hD hS => ?_)
  rw [xw_n23_4] at hP hD
  exact t_X5_flight_130 ⟨hx, hb, hml, hr, hlocks, hown, hno, hG⟩ hP hD hS  (lv_sub hl [0] rfl) hf
noncomputable def g_X5_flight_110  (b : xT)  : Option (Int32 × xT) := (if xin (b.2 1) 60 = true then g_X5_flight_120  (xs b 6 (b.2 1).toNatClampNeg (-1))  else none)
set_option maxHeartbeats 4000000 in
set_option maxRecDepth 100000 in
theorem t_X5_flight_110 {p : Program} {l : Launch} {e : Env} {s : State} {m : MethodId} {args : Array Value} {below : List Frame} {meth : Method} {c : Code} {D : va_G} {q : Nat → Nat} {k : Nat → ClassId} {a b : xT} {o : Nat → Int64} {z : xT} {y : Int32 × xT} (C : xCx p s m meth c cX5_flight 5 (some .int) RX5 D k) {H : Heap} {locs : List Loc} (hP : va_P D vwCl (xw q k a b o) H) (hD : va_D (va_A (xw q k a z o) s.heap.size) (xw q k a b o)) (hS : va_S (va_A (xw q k a z o) s.heap.size) s.heap H locs)  {ls : Array Slot} (hl : lv_has ls 5 [(0, .ref (q 23))]) (hf : g_X5_flight_110  b  = some y) : W p l e r_X5_flight s m args below meth c H locs 0 0 (xMQ below (xQm D q k a z o (.inr (some (.int y.1), a, y.2))) args s 0 0 (va_A (xw q k a z o) s.heap.size)) (F0 m 110 ls []) := by
  obtain ⟨hx, hb, hml, hr, hlocks, hown, hno, hG⟩ := C
  have hK := hG.1
  have hE := hG.2.1
  have hA : ∀ u, s.heap.size ≤ u → va_A (xw q k a z o) s.heap.size u := fun u h => Or.inr h
  unfold g_X5_flight_110 at hf
  refine lv_aload_n hx hb dX5_flight_110 rfl (lv_at hl 0 rfl) ?_
  refine va_get (D := D) (ci := 5) (v := .ref (q 30)) (C := RX5) (T := TX5) (N := 19) hx hb (hwX5 hE) (fun _ h => h) hown hK hP 23 rfl rfl 8 (by decide) (hE _ fl_X5_29 rfl _) (fun _ h9 => h9) rfl dX5_flight_111 ?_
  refine lv_aload_n hx hb dX5_flight_114 rfl (lv_at hl 0 rfl) ?_
  refine va_get (D := D) (ci := 5) (v := .int (b.2 1)) (C := RX5) (T := TX5) (N := 19) hx hb (hwX5 hE) (fun _ h => h) hown hK hP 23 rfl rfl 4 (by decide) (hE _ fl_X5_60 rfl _) (fun _ h9 => h9) rfl dX5_flight_115 ?_
  refine lv_iconst (v := -1) hx hb dX5_flight_118 (by decide) ?_
  obtain ⟨hin, hf⟩ := xguard hf
  refine va_iast hx hb hK hP hD hS 30 0 rfl rfl hin dX5_flight_119 (fun H locs hP hD hS => ?_)
  rw [xw_s30] at hP hD
  exact t_X5_flight_120 ⟨hx, hb, hml, hr, hlocks, hown, hno, hG⟩ hP hD hS  (lv_sub hl [0] rfl) hf
noncomputable def g_X5_flight_100  (b : xT) (v3 : Int32) : Option (Int32 × xT) := (if xin (b.2 1) 60 = true then g_X5_flight_110  (xs b 5 (b.2 1).toNatClampNeg v3)  else none)
set_option maxHeartbeats 4000000 in
set_option maxRecDepth 100000 in
theorem t_X5_flight_100 {p : Program} {l : Launch} {e : Env} {s : State} {m : MethodId} {args : Array Value} {below : List Frame} {meth : Method} {c : Code} {D : va_G} {q : Nat → Nat} {k : Nat → ClassId} {a b : xT} {o : Nat → Int64} {z : xT} {y : Int32 × xT} (C : xCx p s m meth c cX5_flight 5 (some .int) RX5 D k) {H : Heap} {locs : List Loc} (hP : va_P D vwCl (xw q k a b o) H) (hD : va_D (va_A (xw q k a z o) s.heap.size) (xw q k a b o)) (hS : va_S (va_A (xw q k a z o) s.heap.size) s.heap H locs)  {v3 : Int32} {ls : Array Slot} (hl : lv_has ls 5 [(0, .ref (q 23)), (3, .int v3)]) (hf : g_X5_flight_100  b v3 = some y) : W p l e r_X5_flight s m args below meth c H locs 0 0 (xMQ below (xQm D q k a z o (.inr (some (.int y.1), a, y.2))) args s 0 0 (va_A (xw q k a z o) s.heap.size)) (F0 m 100 ls []) := by
  obtain ⟨hx, hb, hml, hr, hlocks, hown, hno, hG⟩ := C
  have hK := hG.1
  have hE := hG.2.1
  have hA : ∀ u, s.heap.size ≤ u → va_A (xw q k a z o) s.heap.size u := fun u h => Or.inr h
  unfold g_X5_flight_100 at hf
  refine lv_aload_n hx hb dX5_flight_100 rfl (lv_at hl 0 rfl) ?_
  refine va_get (D := D) (ci := 5) (v := .ref (q 29)) (C := RX5) (T := TX5) (N := 19) hx hb (hwX5 hE) (fun _ h => h) hown hK hP 23 rfl rfl 7 (by decide) (hE _ fl_X5_26 rfl _) (fun _ h9 => h9) rfl dX5_flight_101 ?_
  refine lv_aload_n hx hb dX5_flight_104 rfl (lv_at hl 0 rfl) ?_
  refine va_get (D := D) (ci := 5) (v := .int (b.2 1)) (C := RX5) (T := TX5) (N := 19) hx hb (hwX5 hE) (fun _ h => h) hown hK hP 23 rfl rfl 4 (by decide) (hE _ fl_X5_60 rfl _) (fun _ h9 => h9) rfl dX5_flight_105 ?_
  refine lv_iload_n hx hb dX5_flight_108 rfl (lv_at hl 1 rfl) ?_
  obtain ⟨hin, hf⟩ := xguard hf
  refine va_iast hx hb hK hP hD hS 29 0 rfl rfl hin dX5_flight_109 (fun H locs hP hD hS => ?_)
  rw [xw_s29] at hP hD
  exact t_X5_flight_110 ⟨hx, hb, hml, hr, hlocks, hown, hno, hG⟩ hP hD hS  (lv_sub hl [0] rfl) hf
noncomputable def g_X5_flight_90  (b : xT) (v2 : Int32) (v3 : Int32) : Option (Int32 × xT) := (if xin (b.2 1) 60 = true then g_X5_flight_100  (xs b 4 (b.2 1).toNatClampNeg v2) v3 else none)
set_option maxHeartbeats 4000000 in
set_option maxRecDepth 100000 in
theorem t_X5_flight_90 {p : Program} {l : Launch} {e : Env} {s : State} {m : MethodId} {args : Array Value} {below : List Frame} {meth : Method} {c : Code} {D : va_G} {q : Nat → Nat} {k : Nat → ClassId} {a b : xT} {o : Nat → Int64} {z : xT} {y : Int32 × xT} (C : xCx p s m meth c cX5_flight 5 (some .int) RX5 D k) {H : Heap} {locs : List Loc} (hP : va_P D vwCl (xw q k a b o) H) (hD : va_D (va_A (xw q k a z o) s.heap.size) (xw q k a b o)) (hS : va_S (va_A (xw q k a z o) s.heap.size) s.heap H locs)  {v2 v3 : Int32} {ls : Array Slot} (hl : lv_has ls 5 [(0, .ref (q 23)), (2, .int v2), (3, .int v3)]) (hf : g_X5_flight_90  b v2 v3 = some y) : W p l e r_X5_flight s m args below meth c H locs 0 0 (xMQ below (xQm D q k a z o (.inr (some (.int y.1), a, y.2))) args s 0 0 (va_A (xw q k a z o) s.heap.size)) (F0 m 90 ls []) := by
  obtain ⟨hx, hb, hml, hr, hlocks, hown, hno, hG⟩ := C
  have hK := hG.1
  have hE := hG.2.1
  have hA : ∀ u, s.heap.size ≤ u → va_A (xw q k a z o) s.heap.size u := fun u h => Or.inr h
  unfold g_X5_flight_90 at hf
  refine lv_aload_n hx hb dX5_flight_90 rfl (lv_at hl 0 rfl) ?_
  refine va_get (D := D) (ci := 5) (v := .ref (q 28)) (C := RX5) (T := TX5) (N := 19) hx hb (hwX5 hE) (fun _ h => h) hown hK hP 23 rfl rfl 6 (by decide) (hE _ fl_X5_23 rfl _) (fun _ h9 => h9) rfl dX5_flight_91 ?_
  refine lv_aload_n hx hb dX5_flight_94 rfl (lv_at hl 0 rfl) ?_
  refine va_get (D := D) (ci := 5) (v := .int (b.2 1)) (C := RX5) (T := TX5) (N := 19) hx hb (hwX5 hE) (fun _ h => h) hown hK hP 23 rfl rfl 4 (by decide) (hE _ fl_X5_60 rfl _) (fun _ h9 => h9) rfl dX5_flight_95 ?_
  refine lv_iload_n hx hb dX5_flight_98 rfl (lv_at hl 1 rfl) ?_
  obtain ⟨hin, hf⟩ := xguard hf
  refine va_iast hx hb hK hP hD hS 28 0 rfl rfl hin dX5_flight_99 (fun H locs hP hD hS => ?_)
  rw [xw_s28] at hP hD
  exact t_X5_flight_100 ⟨hx, hb, hml, hr, hlocks, hown, hno, hG⟩ hP hD hS  (lv_sub hl [0, 2] rfl) hf
noncomputable def g_X5_flight_71  (b : xT) (v1 : Int32) (v2 : Int32) (v3 : Int32) : Option (Int32 × xT) := (if (b.2 0) ≤ 0 then (if xin (b.2 1) 60 = true then g_X5_flight_90  (xs b 3 (b.2 1).toNatClampNeg v1) v2 v3 else none) else some (0, b))
set_option maxHeartbeats 4000000 in
set_option maxRecDepth 100000 in
theorem t_X5_flight_71 {p : Program} {l : Launch} {e : Env} {s : State} {m : MethodId} {args : Array Value} {below : List Frame} {meth : Method} {c : Code} {D : va_G} {q : Nat → Nat} {k : Nat → ClassId} {a b : xT} {o : Nat → Int64} {z : xT} {y : Int32 × xT} (C : xCx p s m meth c cX5_flight 5 (some .int) RX5 D k) {H : Heap} {locs : List Loc} (hP : va_P D vwCl (xw q k a b o) H) (hD : va_D (va_A (xw q k a z o) s.heap.size) (xw q k a b o)) (hS : va_S (va_A (xw q k a z o) s.heap.size) s.heap H locs)  {v1 v2 v3 : Int32} {ls : Array Slot} (hl : lv_has ls 5 [(0, .ref (q 23)), (1, .int v1), (2, .int v2), (3, .int v3)]) (hf : g_X5_flight_71  b v1 v2 v3 = some y) : W p l e r_X5_flight s m args below meth c H locs 0 0 (xMQ below (xQm D q k a z o (.inr (some (.int y.1), a, y.2))) args s 0 0 (va_A (xw q k a z o) s.heap.size)) (F0 m 71 ls []) := by
  obtain ⟨hx, hb, hml, hr, hlocks, hown, hno, hG⟩ := C
  have hK := hG.1
  have hE := hG.2.1
  have hA : ∀ u, s.heap.size ≤ u → va_A (xw q k a z o) s.heap.size u := fun u h => Or.inr h
  unfold g_X5_flight_71 at hf
  refine lv_aload_n hx hb dX5_flight_71 rfl (lv_at hl 0 rfl) ?_
  refine va_get (D := D) (ci := 5) (v := .int (b.2 0)) (C := RX5) (T := TX5) (N := 19) hx hb (hwX5 hE) (fun _ h => h) hown hK hP 23 rfl rfl 0 (by decide) (hE _ fl_X5_56 rfl _) (fun _ h9 => h9) rfl dX5_flight_72 ?_
  refine lv_if_le hx hb dX5_flight_75 rfl (fun hc => ?_) (fun hc => ?_)
  · rw [if_pos hc] at hf
    refine lv_aload_n hx hb dX5_flight_80 rfl (lv_at hl 0 rfl) ?_
    refine va_get (D := D) (ci := 5) (v := .ref (q 27)) (C := RX5) (T := TX5) (N := 19) hx hb (hwX5 hE) (fun _ h => h) hown hK hP 23 rfl rfl 5 (by decide) (hE _ fl_X5_20 rfl _) (fun _ h9 => h9) rfl dX5_flight_81 ?_
    refine lv_aload_n hx hb dX5_flight_84 rfl (lv_at hl 0 rfl) ?_
    refine va_get (D := D) (ci := 5) (v := .int (b.2 1)) (C := RX5) (T := TX5) (N := 19) hx hb (hwX5 hE) (fun _ h => h) hown hK hP 23 rfl rfl 4 (by decide) (hE _ fl_X5_60 rfl _) (fun _ h9 => h9) rfl dX5_flight_85 ?_
    refine lv_iload_n hx hb dX5_flight_88 rfl (lv_at hl 1 rfl) ?_
    obtain ⟨hin, hf⟩ := xguard hf
    refine va_iast hx hb hK hP hD hS 27 0 rfl rfl hin dX5_flight_89 (fun H locs hP hD hS => ?_)
    rw [xw_s27] at hP hD
    exact t_X5_flight_90 ⟨hx, hb, hml, hr, hlocks, hown, hno, hG⟩ hP hD hS  (lv_sub hl [0, 2, 3] rfl) hf
  · rw [if_neg hc] at hf
    refine lv_iconst (v := 0) hx hb dX5_flight_78 (by decide) ?_
    cases hf
    exact xretm_i hx hb hr hlocks hP hS dX5_flight_79
noncomputable def g_X5_flight_68  (b : xT) (v1 : Int32) (v2 : Int32) (v3 : Int32) (s1 : Int32) : Option (Int32 × xT) := g_X5_flight_71  (xn b 0 s1) v1 v2 v3
set_option maxHeartbeats 4000000 in
set_option maxRecDepth 100000 in
theorem t_X5_flight_68 {p : Program} {l : Launch} {e : Env} {s : State} {m : MethodId} {args : Array Value} {below : List Frame} {meth : Method} {c : Code} {D : va_G} {q : Nat → Nat} {k : Nat → ClassId} {a b : xT} {o : Nat → Int64} {z : xT} {y : Int32 × xT} (C : xCx p s m meth c cX5_flight 5 (some .int) RX5 D k) {H : Heap} {locs : List Loc} (hP : va_P D vwCl (xw q k a b o) H) (hD : va_D (va_A (xw q k a z o) s.heap.size) (xw q k a b o)) (hS : va_S (va_A (xw q k a z o) s.heap.size) s.heap H locs)  {v1 v2 v3 s1 : Int32} {ls : Array Slot} (hl : lv_has ls 5 [(0, .ref (q 23)), (1, .int v1), (2, .int v2), (3, .int v3)]) (hf : g_X5_flight_68  b v1 v2 v3 s1 = some y) : W p l e r_X5_flight s m args below meth c H locs 0 0 (xMQ below (xQm D q k a z o (.inr (some (.int y.1), a, y.2))) args s 0 0 (va_A (xw q k a z o) s.heap.size)) (F0 m 68 ls [.int s1, .ref (q 23)]) := by
  obtain ⟨hx, hb, hml, hr, hlocks, hown, hno, hG⟩ := C
  have hK := hG.1
  have hE := hG.2.1
  have hA : ∀ u, s.heap.size ≤ u → va_A (xw q k a z o) s.heap.size u := fun u h => Or.inr h
  unfold g_X5_flight_68 at hf
  refine va_put (D := D) (ci := 5) (v := .int s1) (ty := .int) (C := RX5) (T := TX5) (N := 19) hx hb (hwX5 hE) (fun _ h => h) tyX5 tyX5_ok nmX5 hown hK hP hD hS 23 rfl rfl 0 (by decide) (hE _ fl_X5_56 rfl _) (fun _ h9 => h9) rfl (by decide +kernel) rfl rfl (Nat.le_of_ble_eq_true rfl) dX5_flight_68 (fun H locs hP hD hS => ?_)
  rw [xw_n23_0] at hP hD
  exact t_X5_flight_71 ⟨hx, hb, hml, hr, hlocks, hown, hno, hG⟩ hP hD hS  (lv_sub hl [0, 1, 2, 3] rfl) hf
noncomputable def g_X5_flight_50  (b : xT) (v1 : Int32) (v2 : Int32) (v3 : Int32) : Option (Int32 × xT) := g_X5_flight_68  b v1 v2 v3 1
set_option maxHeartbeats 4000000 in
set_option maxRecDepth 100000 in
theorem t_X5_flight_50 {p : Program} {l : Launch} {e : Env} {s : State} {m : MethodId} {args : Array Value} {below : List Frame} {meth : Method} {c : Code} {D : va_G} {q : Nat → Nat} {k : Nat → ClassId} {a b : xT} {o : Nat → Int64} {z : xT} {y : Int32 × xT} (C : xCx p s m meth c cX5_flight 5 (some .int) RX5 D k) {H : Heap} {locs : List Loc} (hP : va_P D vwCl (xw q k a b o) H) (hD : va_D (va_A (xw q k a z o) s.heap.size) (xw q k a b o)) (hS : va_S (va_A (xw q k a z o) s.heap.size) s.heap H locs)  {v1 v2 v3 : Int32} {ls : Array Slot} (hl : lv_has ls 5 [(0, .ref (q 23)), (1, .int v1), (2, .int v2), (3, .int v3)]) (hf : g_X5_flight_50  b v1 v2 v3 = some y) : W p l e r_X5_flight s m args below meth c H locs 0 0 (xMQ below (xQm D q k a z o (.inr (some (.int y.1), a, y.2))) args s 0 0 (va_A (xw q k a z o) s.heap.size)) (F0 m 50 ls [.ref (q 23)]) := by
  obtain ⟨hx, hb, hml, hr, hlocks, hown, hno, hG⟩ := C
  have hK := hG.1
  have hE := hG.2.1
  have hA : ∀ u, s.heap.size ≤ u → va_A (xw q k a z o) s.heap.size u := fun u h => Or.inr h
  unfold g_X5_flight_50 at hf
  refine lv_iconst (v := 1) hx hb dX5_flight_50 (by decide) ?_
  refine lv_goto hx hb dX5_flight_51 rfl ?_
  exact t_X5_flight_68 ⟨hx, hb, hml, hr, hlocks, hown, hno, hG⟩ hP hD hS  (lv_sub hl [0, 1, 2, 3] rfl) hf
noncomputable def g_X5_flight_14  (b : xT) (v1 : Int32) (v2 : Int32) (v3 : Int32) (s0 : Int32) : Option (Int32 × xT) := ((f_X5_within b v1 0 7).bind fun r21 => (if r21 = 0 then g_X5_flight_50  b v1 v2 v3 else ((f_X5_within b v2 0 239).bind fun r32 => (if r32 = 0 then g_X5_flight_50  b v1 v2 v3 else ((f_X5_within b v3 s0 300).bind fun r44 => (if r44 = 0 then g_X5_flight_50  b v1 v2 v3 else (if (b.2 1) = 60 then g_X5_flight_68  b v1 v2 v3 2 else g_X5_flight_68  b v1 v2 v3 0)))))))
set_option maxHeartbeats 4000000 in
set_option maxRecDepth 100000 in
theorem t_X5_flight_14 {p : Program} {l : Launch} {e : Env} {s : State} {m : MethodId} {args : Array Value} {below : List Frame} {meth : Method} {c : Code} {D : va_G} {q : Nat → Nat} {k : Nat → ClassId} {a b : xT} {o : Nat → Int64} {z : xT} {y : Int32 × xT} (C : xCx p s m meth c cX5_flight 5 (some .int) RX5 D k) {H : Heap} {locs : List Loc} (hP : va_P D vwCl (xw q k a b o) H) (hD : va_D (va_A (xw q k a z o) s.heap.size) (xw q k a b o)) (hS : va_S (va_A (xw q k a z o) s.heap.size) s.heap H locs)  {v1 v2 v3 s0 : Int32} {ls : Array Slot} (hl : lv_has ls 5 [(0, .ref (q 23)), (1, .int v1), (2, .int v2), (3, .int v3)]) (hf : g_X5_flight_14  b v1 v2 v3 s0 = some y) : W p l e r_X5_flight s m args below meth c H locs 0 0 (xMQ below (xQm D q k a z o (.inr (some (.int y.1), a, y.2))) args s 0 0 (va_A (xw q k a z o) s.heap.size)) (F0 m 14 ls [.int s0]) := by
  obtain ⟨hx, hb, hml, hr, hlocks, hown, hno, hG⟩ := C
  have hK := hG.1
  have hE := hG.2.1
  have hA : ∀ u, s.heap.size ≤ u → va_A (xw q k a z o) s.heap.size u := fun u h => Or.inr h
  unfold g_X5_flight_14 at hf
  refine lv_istore (lv' := [(4, .int s0), (0, .ref (q 23)), (1, .int v1), (2, .int v2), (3, .int v3)]) hx hb dX5_flight_14 hl (by decide) rfl (fun ls hl => ?_)
  refine lv_aload_n hx hb dX5_flight_16 rfl (lv_at hl 1 rfl) ?_
  refine lv_iload_n hx hb dX5_flight_17 rfl (lv_at hl 2 rfl) ?_
  refine lv_iconst (v := 0) hx hb dX5_flight_18 (by decide) ?_
  refine lv_bipush (v := 7) hx hb dX5_flight_19 (by decide) ?_
  obtain ⟨r21, hN, hf⟩ := xbind hf
  refine xgo_r (v := some (.int r21)) (xrunS (As := [.int v1, .int 0, .int 7]) (rest := [.ref (q 23)]) (xfixm fx_X5_within hx hb hml hown (by decide) (by decide) (by decide) (by decide)) hE ml_X5_84 wt_X5_within wc_X5_within wn_X5 (c_X5_within l D q k a b o v1 0 7 _ hN) (xpre hP hD hG) rfl rfl hl.1 rfl (lv_room (Nat.le_of_ble_eq_true rfl)) dX5_flight_21) ?_
  refine lv_if_eq hx hb dX5_flight_24 rfl (fun hc => ?_) (fun hc => ?_)
  · rw [if_pos hc] at hf
    exact t_X5_flight_50 ⟨hx, hb, hml, hr, hlocks, hown, hno, hG⟩ hP hD hS  (lv_sub hl [1, 2, 3, 4] rfl) hf
  · rw [if_neg hc] at hf
    refine lv_iload_n hx hb dX5_flight_27 rfl (lv_at hl 3 rfl) ?_
    refine lv_iconst (v := 0) hx hb dX5_flight_28 (by decide) ?_
    refine lv_sipush (v := 239) hx hb dX5_flight_29 (by decide) ?_
    obtain ⟨r32, hN, hf⟩ := xbind hf
    refine xgo_r (v := some (.int r32)) (xrunS (As := [.int v2, .int 0, .int 239]) (rest := [.ref (q 23)]) (xfixm fx_X5_within hx hb hml hown (by decide) (by decide) (by decide) (by decide)) hE ml_X5_84 wt_X5_within wc_X5_within wn_X5 (c_X5_within l D q k a b o v2 0 239 _ hN) (xpre hP hD hG) rfl rfl hl.1 rfl (lv_room (Nat.le_of_ble_eq_true rfl)) dX5_flight_32) ?_
    refine lv_if_eq hx hb dX5_flight_35 rfl (fun hc => ?_) (fun hc => ?_)
    · rw [if_pos hc] at hf
      exact t_X5_flight_50 ⟨hx, hb, hml, hr, hlocks, hown, hno, hG⟩ hP hD hS  (lv_sub hl [1, 2, 3, 4] rfl) hf
    · rw [if_neg hc] at hf
      refine lv_iload_n hx hb dX5_flight_38 rfl (lv_at hl 4 rfl) ?_
      refine lv_iload hx hb dX5_flight_39 (lv_at hl 0 rfl) ?_
      refine lv_sipush (v := 300) hx hb dX5_flight_41 (by decide) ?_
      obtain ⟨r44, hN, hf⟩ := xbind hf
      refine xgo_r (v := some (.int r44)) (xrunS (As := [.int v3, .int s0, .int 300]) (rest := [.ref (q 23)]) (xfixm fx_X5_within hx hb hml hown (by decide) (by decide) (by decide) (by decide)) hE ml_X5_84 wt_X5_within wc_X5_within wn_X5 (c_X5_within l D q k a b o v3 s0 300 _ hN) (xpre hP hD hG) rfl rfl hl.1 rfl (lv_room (Nat.le_of_ble_eq_true rfl)) dX5_flight_44) ?_
      refine lv_if_ne hx hb dX5_flight_47 rfl (fun hc => ?_) (fun hc => ?_)
      · rw [if_neg hc] at hf
        refine lv_aload_n hx hb dX5_flight_54 rfl (lv_at hl 1 rfl) ?_
        refine va_get (D := D) (ci := 5) (v := .int (b.2 1)) (C := RX5) (T := TX5) (N := 19) hx hb (hwX5 hE) (fun _ h => h) hown hK hP 23 rfl rfl 4 (by decide) (hE _ fl_X5_60 rfl _) (fun _ h9 => h9) rfl dX5_flight_55 ?_
        refine lv_bipush (v := 60) hx hb dX5_flight_58 (by decide) ?_
        refine lv_icmp_ne hx hb dX5_flight_60 rfl (fun hc => ?_) (fun hc => ?_)
        · rw [if_neg hc] at hf
          refine lv_iconst (v := 0) hx hb dX5_flight_67 (by decide) ?_
          exact t_X5_flight_68 ⟨hx, hb, hml, hr, hlocks, hown, hno, hG⟩ hP hD hS  (lv_sub hl [1, 2, 3, 4] rfl) hf
        · rw [if_pos hc] at hf
          refine lv_iconst (v := 2) hx hb dX5_flight_63 (by decide) ?_
          refine lv_goto hx hb dX5_flight_64 rfl ?_
          exact t_X5_flight_68 ⟨hx, hb, hml, hr, hlocks, hown, hno, hG⟩ hP hD hS  (lv_sub hl [1, 2, 3, 4] rfl) hf
      · rw [if_pos hc] at hf
        exact t_X5_flight_50 ⟨hx, hb, hml, hr, hlocks, hown, hno, hG⟩ hP hD hS  (lv_sub hl [1, 2, 3, 4] rfl) hf
noncomputable def g_X5_flight_0  (b : xT) (v1 : Int32) (v2 : Int32) (v3 : Int32) : Option (Int32 × xT) := (if 15 ≤ v2 then g_X5_flight_14  b v1 v2 v3 (v2 - 15) else g_X5_flight_14  b v1 v2 v3 0)
set_option maxHeartbeats 4000000 in
set_option maxRecDepth 100000 in
theorem t_X5_flight_0 {p : Program} {l : Launch} {e : Env} {s : State} {m : MethodId} {args : Array Value} {below : List Frame} {meth : Method} {c : Code} {D : va_G} {q : Nat → Nat} {k : Nat → ClassId} {a b : xT} {o : Nat → Int64} {z : xT} {y : Int32 × xT} (C : xCx p s m meth c cX5_flight 5 (some .int) RX5 D k) {H : Heap} {locs : List Loc} (hP : va_P D vwCl (xw q k a b o) H) (hD : va_D (va_A (xw q k a z o) s.heap.size) (xw q k a b o)) (hS : va_S (va_A (xw q k a z o) s.heap.size) s.heap H locs)  {v1 v2 v3 : Int32} {ls : Array Slot} (hl : lv_has ls 5 [(0, .ref (q 23)), (1, .int v1), (2, .int v2), (3, .int v3)]) (hf : g_X5_flight_0  b v1 v2 v3 = some y) : W p l e r_X5_flight s m args below meth c H locs 0 0 (xMQ below (xQm D q k a z o (.inr (some (.int y.1), a, y.2))) args s 0 0 (va_A (xw q k a z o) s.heap.size)) (F0 m 0 ls []) := by
  obtain ⟨hx, hb, hml, hr, hlocks, hown, hno, hG⟩ := C
  have hK := hG.1
  have hE := hG.2.1
  have hA : ∀ u, s.heap.size ≤ u → va_A (xw q k a z o) s.heap.size u := fun u h => Or.inr h
  unfold g_X5_flight_0 at hf
  refine lv_iload_n hx hb dX5_flight_0 rfl (lv_at hl 2 rfl) ?_
  refine lv_bipush (v := 15) hx hb dX5_flight_1 (by decide) ?_
  refine lv_icmp_ge hx hb dX5_flight_3 rfl (fun hc => ?_) (fun hc => ?_)
  · rw [if_pos hc] at hf
    refine lv_iload_n hx hb dX5_flight_10 rfl (lv_at hl 2 rfl) ?_
    refine lv_bipush (v := 15) hx hb dX5_flight_11 (by decide) ?_
    refine lv_isub hx hb dX5_flight_13 ?_
    exact t_X5_flight_14 ⟨hx, hb, hml, hr, hlocks, hown, hno, hG⟩ hP hD hS  (lv_sub hl [0, 1, 2, 3] rfl) hf
  · rw [if_neg hc] at hf
    refine lv_iconst (v := 0) hx hb dX5_flight_6 (by decide) ?_
    refine lv_goto hx hb dX5_flight_7 rfl ?_
    exact t_X5_flight_14 ⟨hx, hb, hml, hr, hlocks, hown, hno, hG⟩ hP hD hS  (lv_sub hl [0, 1, 2, 3] rfl) hf
noncomputable def f_X5_flight (b : xT) (v1 : Int32) (v2 : Int32) (v3 : Int32) : Option (Int32 × xT) := g_X5_flight_0 b v1 v2 v3
set_option maxHeartbeats 4000000 in
set_option maxRecDepth 100000 in
theorem c_X5_flight (l : Launch) (D : va_G) (q : Nat → Nat) (k : Nat → ClassId) (sz : Nat) (a b : xT) (o : Nat → Int64) (v1 : Int32) (v2 : Int32) (v3 : Int32) (y : Int32 × xT) (hf : f_X5_flight b v1 v2 v3 = some y) : xMet l yX5_flight (.code yX5_flight cX5_flight 5 (some .int)) r_X5_flight (xPcm D q k sz a b o [.ref (q 23), .int v1, .int v2, .int v3]) (xQm D q k a b o (.inr (some (.int y.1), a, y.2))) 0 0 (va_A (xw q k a b o) sz) := by
  refine xMet.ofW (by decide) ?_
  intro p e s m args below meth c hx hb hml hr hlocks hnm hme hno hv
  obtain ⟨rfl, hsz, hP, hD, hG⟩ := hv
  subst hsz
  have hown : s.vm.findClass RX5 = some m.cls := findClass_of_methodNamed hnm
  have hl := lv_entry ([.ref (q 23), .int v1, .int v2, .int v3]) (n := 5) (Nat.le_of_ble_eq_true rfl)
  rw [lg_entry_eq]
  generalize (lg_sl ([.ref (q 23), .int v1, .int v2, .int v3]) ++ List.replicate (5 - (lg_sl ([.ref (q 23), .int v1, .int v2, .int v3])).length) Slot.unset).toArray = ls at hl ⊢
  have hl : lv_has ls 5 [(0, .ref (q 23)), (1, .int v1), (2, .int v2), (3, .int v3)] := hl
  have hD := hD.self (sz := s.heap.size)
  exact t_X5_flight_0 ⟨hx, hb, hml, hr, hlocks, hown, hno, hG⟩ hP hD va_S.rf hl hf
abbrev r_X5_isSlot : Room := { frames := 0, cells := 0, slots := 0, locals := 0 }
noncomputable def g_X5_isSlot_25  (b : xT) (s0 : Int32) : Option (Int32) := (if xzb s0 = true then some s0 else none)
set_option maxHeartbeats 4000000 in
set_option maxRecDepth 100000 in
theorem t_X5_isSlot_25 {p : Program} {l : Launch} {e : Env} {s : State} {m : MethodId} {args : Array Value} {below : List Frame} {meth : Method} {c : Code} {D : va_G} {q : Nat → Nat} {k : Nat → ClassId} {a b : xT} {o : Nat → Int64} {y : Int32} (C : xCx p s m meth c cX5_isSlot 2 (some .boolean) RX5 D k) (hP : va_P D vwCl (xw q k a b o) s.heap) (hD : va_D (fun _ => True) (xw q k a b o))  {s0 : Int32} {ls : Array Slot} (hl : lv_has ls 2 []) (hf : g_X5_isSlot_25  b s0 = some y) : W p l e r_X5_isSlot s m args below meth c s.heap [] 0 0 (xMQ below (xQr (.inr (some (.int y)))) args s (xmc (.inr (some (.int y)))) (xms (.inr (some (.int y)))) (fun _ => False)) (F0 m 25 ls [.int s0]) := by
  obtain ⟨hx, hb, hml, hr, hlocks, hown, hno, hG⟩ := C
  have hK := hG.1
  have hE := hG.2.1
  unfold g_X5_isSlot_25 at hf
  obtain ⟨hz, hf⟩ := xguz hf
  cases hf
  exact xret_z hx hb hr hz hlocks dX5_isSlot_25
noncomputable def g_X5_isSlot_24  (b : xT)  : Option (Int32) := g_X5_isSlot_25  b 0
set_option maxHeartbeats 4000000 in
set_option maxRecDepth 100000 in
theorem t_X5_isSlot_24 {p : Program} {l : Launch} {e : Env} {s : State} {m : MethodId} {args : Array Value} {below : List Frame} {meth : Method} {c : Code} {D : va_G} {q : Nat → Nat} {k : Nat → ClassId} {a b : xT} {o : Nat → Int64} {y : Int32} (C : xCx p s m meth c cX5_isSlot 2 (some .boolean) RX5 D k) (hP : va_P D vwCl (xw q k a b o) s.heap) (hD : va_D (fun _ => True) (xw q k a b o))  {ls : Array Slot} (hl : lv_has ls 2 []) (hf : g_X5_isSlot_24  b  = some y) : W p l e r_X5_isSlot s m args below meth c s.heap [] 0 0 (xMQ below (xQr (.inr (some (.int y)))) args s (xmc (.inr (some (.int y)))) (xms (.inr (some (.int y)))) (fun _ => False)) (F0 m 24 ls []) := by
  obtain ⟨hx, hb, hml, hr, hlocks, hown, hno, hG⟩ := C
  have hK := hG.1
  have hE := hG.2.1
  unfold g_X5_isSlot_24 at hf
  refine lv_iconst (v := 0) hx hb dX5_isSlot_24 (by decide) ?_
  exact t_X5_isSlot_25 ⟨hx, hb, hml, hr, hlocks, hown, hno, hG⟩ hP hD  (lv_sub hl [] rfl) hf
noncomputable def g_X5_isSlot_0  (b : xT) (v1 : Int32) : Option (Int32) := (if v1 < 0 then g_X5_isSlot_24  b  else (if 240 ≤ v1 then g_X5_isSlot_24  b  else (if xin v1 240 = true then (if (b.1 0 v1.toNatClampNeg) = 0 then g_X5_isSlot_24  b  else g_X5_isSlot_25  b 1) else none)))
set_option maxHeartbeats 4000000 in
set_option maxRecDepth 100000 in
theorem t_X5_isSlot_0 {p : Program} {l : Launch} {e : Env} {s : State} {m : MethodId} {args : Array Value} {below : List Frame} {meth : Method} {c : Code} {D : va_G} {q : Nat → Nat} {k : Nat → ClassId} {a b : xT} {o : Nat → Int64} {y : Int32} (C : xCx p s m meth c cX5_isSlot 2 (some .boolean) RX5 D k) (hP : va_P D vwCl (xw q k a b o) s.heap) (hD : va_D (fun _ => True) (xw q k a b o))  {v1 : Int32} {ls : Array Slot} (hl : lv_has ls 2 [(0, .ref (q 23)), (1, .int v1)]) (hf : g_X5_isSlot_0  b v1 = some y) : W p l e r_X5_isSlot s m args below meth c s.heap [] 0 0 (xMQ below (xQr (.inr (some (.int y)))) args s (xmc (.inr (some (.int y)))) (xms (.inr (some (.int y)))) (fun _ => False)) (F0 m 0 ls []) := by
  obtain ⟨hx, hb, hml, hr, hlocks, hown, hno, hG⟩ := C
  have hK := hG.1
  have hE := hG.2.1
  unfold g_X5_isSlot_0 at hf
  refine lv_iload_n hx hb dX5_isSlot_0 rfl (lv_at hl 1 rfl) ?_
  refine lv_if_lt hx hb dX5_isSlot_1 rfl (fun hc => ?_) (fun hc => ?_)
  · rw [if_pos hc] at hf
    exact t_X5_isSlot_24 ⟨hx, hb, hml, hr, hlocks, hown, hno, hG⟩ hP hD  (lv_sub hl [] rfl) hf
  · rw [if_neg hc] at hf
    refine lv_iload_n hx hb dX5_isSlot_4 rfl (lv_at hl 1 rfl) ?_
    refine lv_sipush (v := 240) hx hb dX5_isSlot_5 (by decide) ?_
    refine lv_icmp_ge hx hb dX5_isSlot_8 rfl (fun hc => ?_) (fun hc => ?_)
    · rw [if_pos hc] at hf
      exact t_X5_isSlot_24 ⟨hx, hb, hml, hr, hlocks, hown, hno, hG⟩ hP hD  (lv_sub hl [] rfl) hf
    · rw [if_neg hc] at hf
      refine lv_aload_n hx hb dX5_isSlot_11 rfl (lv_at hl 0 rfl) ?_
      refine va_get (D := D) (ci := 5) (v := .ref (q 24)) (C := RX5) (T := TX5) (N := 19) hx hb (hwX5 hE) (fun _ h => h) hown hK hP 23 rfl rfl 1 (by decide) (hE _ fl_X5_7 rfl _) (fun _ h9 => h9) rfl dX5_isSlot_12 ?_
      refine lv_iload_n hx hb dX5_isSlot_15 rfl (lv_at hl 1 rfl) ?_
      obtain ⟨hin, hf⟩ := xguard hf
      refine va_zald hx hb hK hP 24 1 rfl rfl hin dX5_isSlot_16 ?_
      refine lv_if_eq hx hb dX5_isSlot_17 rfl (fun hc => ?_) (fun hc => ?_)
      · rw [if_pos hc] at hf
        exact t_X5_isSlot_24 ⟨hx, hb, hml, hr, hlocks, hown, hno, hG⟩ hP hD  (lv_sub hl [] rfl) hf
      · rw [if_neg hc] at hf
        refine lv_iconst (v := 1) hx hb dX5_isSlot_20 (by decide) ?_
        refine lv_goto hx hb dX5_isSlot_21 rfl ?_
        exact t_X5_isSlot_25 ⟨hx, hb, hml, hr, hlocks, hown, hno, hG⟩ hP hD  (lv_sub hl [] rfl) hf
noncomputable def f_X5_isSlot (b : xT) (v1 : Int32) : Option (Int32) := g_X5_isSlot_0 b v1
set_option maxHeartbeats 4000000 in
set_option maxRecDepth 100000 in
theorem c_X5_isSlot (l : Launch) (D : va_G) (q : Nat → Nat) (k : Nat → ClassId) (a b : xT) (o : Nat → Int64) (v1 : Int32) (y : Int32) (hf : f_X5_isSlot b v1 = some y) : xMet l yX5_isSlot (.code yX5_isSlot cX5_isSlot 2 (some .boolean)) r_X5_isSlot (xPc D q k a b o [.ref (q 23), .int v1]) (xQr (.inr (some (.int y)))) (xmc (.inr (some (.int y)))) (xms (.inr (some (.int y)))) (fun _ => False) := by
  refine xMet.ofW (by decide) ?_
  intro p e s m args below meth c hx hb hml hr hlocks hnm hme hno hv
  obtain ⟨rfl, hP, hD, hG⟩ := hv
  have hown : s.vm.findClass RX5 = some m.cls := findClass_of_methodNamed hnm
  have hl := lv_entry ([.ref (q 23), .int v1]) (n := 2) (Nat.le_of_ble_eq_true rfl)
  rw [lg_entry_eq]
  generalize (lg_sl ([.ref (q 23), .int v1]) ++ List.replicate (2 - (lg_sl ([.ref (q 23), .int v1])).length) Slot.unset).toArray = ls at hl ⊢
  have hl : lv_has ls 2 [(0, .ref (q 23)), (1, .int v1)] := hl
  exact t_X5_isSlot_0 ⟨hx, hb, hml, hr, hlocks, hown, hno, hG⟩ hP hD hl hf
abbrev r_X5_flightIn : Room := { frames := 1, cells := 0, slots := 0, locals := 21 }
noncomputable def g_X5_flightIn_34  (b : xT) (s0 : Int32) : Option (Int32 × xT) := some (s0, b)
set_option maxHeartbeats 4000000 in
set_option maxRecDepth 100000 in
theorem t_X5_flightIn_34 {p : Program} {l : Launch} {e : Env} {s : State} {m : MethodId} {args : Array Value} {below : List Frame} {meth : Method} {c : Code} {D : va_G} {q : Nat → Nat} {k : Nat → ClassId} {a b : xT} {o : Nat → Int64} {z : xT} {y : Int32 × xT} (C : xCx p s m meth c cX5_flightIn 2 (some .int) RX5 D k) {H : Heap} {locs : List Loc} (hP : va_P D vwCl (xw q k a b o) H) (hD : va_D (va_A (xw q k a z o) s.heap.size) (xw q k a b o)) (hS : va_S (va_A (xw q k a z o) s.heap.size) s.heap H locs)  {s0 : Int32} {ls : Array Slot} (hl : lv_has ls 2 []) (hf : g_X5_flightIn_34  b s0 = some y) : W p l e r_X5_flightIn s m args below meth c H locs 0 0 (xMQ below (xQm D q k a z o (.inr (some (.int y.1), a, y.2))) args s 0 0 (va_A (xw q k a z o) s.heap.size)) (F0 m 34 ls [.int s0]) := by
  obtain ⟨hx, hb, hml, hr, hlocks, hown, hno, hG⟩ := C
  have hK := hG.1
  have hE := hG.2.1
  have hA : ∀ u, s.heap.size ≤ u → va_A (xw q k a z o) s.heap.size u := fun u h => Or.inr h
  unfold g_X5_flightIn_34 at hf
  cases hf
  exact xretm_i hx hb hr hlocks hP hS dX5_flightIn_34
noncomputable def g_X5_flightIn_17  (b : xT) (v1 : Int32) : Option (Int32 × xT) := (if (b.2 0) ≤ 0 then (if xin v1 240 = true then g_X5_flightIn_34  b (b.1 2 v1.toNatClampNeg) else none) else g_X5_flightIn_34  b 0)
set_option maxHeartbeats 4000000 in
set_option maxRecDepth 100000 in
theorem t_X5_flightIn_17 {p : Program} {l : Launch} {e : Env} {s : State} {m : MethodId} {args : Array Value} {below : List Frame} {meth : Method} {c : Code} {D : va_G} {q : Nat → Nat} {k : Nat → ClassId} {a b : xT} {o : Nat → Int64} {z : xT} {y : Int32 × xT} (C : xCx p s m meth c cX5_flightIn 2 (some .int) RX5 D k) {H : Heap} {locs : List Loc} (hP : va_P D vwCl (xw q k a b o) H) (hD : va_D (va_A (xw q k a z o) s.heap.size) (xw q k a b o)) (hS : va_S (va_A (xw q k a z o) s.heap.size) s.heap H locs)  {v1 : Int32} {ls : Array Slot} (hl : lv_has ls 2 [(0, .ref (q 23)), (1, .int v1)]) (hf : g_X5_flightIn_17  b v1 = some y) : W p l e r_X5_flightIn s m args below meth c H locs 0 0 (xMQ below (xQm D q k a z o (.inr (some (.int y.1), a, y.2))) args s 0 0 (va_A (xw q k a z o) s.heap.size)) (F0 m 17 ls []) := by
  obtain ⟨hx, hb, hml, hr, hlocks, hown, hno, hG⟩ := C
  have hK := hG.1
  have hE := hG.2.1
  have hA : ∀ u, s.heap.size ≤ u → va_A (xw q k a z o) s.heap.size u := fun u h => Or.inr h
  unfold g_X5_flightIn_17 at hf
  refine lv_aload_n hx hb dX5_flightIn_17 rfl (lv_at hl 0 rfl) ?_
  refine va_get (D := D) (ci := 5) (v := .int (b.2 0)) (C := RX5) (T := TX5) (N := 19) hx hb (hwX5 hE) (fun _ h => h) hown hK hP 23 rfl rfl 0 (by decide) (hE _ fl_X5_56 rfl _) (fun _ h9 => h9) rfl dX5_flightIn_18 ?_
  refine lv_if_le hx hb dX5_flightIn_21 rfl (fun hc => ?_) (fun hc => ?_)
  · rw [if_pos hc] at hf
    refine lv_aload_n hx hb dX5_flightIn_28 rfl (lv_at hl 0 rfl) ?_
    refine va_get (D := D) (ci := 5) (v := .ref (q 26)) (C := RX5) (T := TX5) (N := 19) hx hb (hwX5 hE) (fun _ h => h) hown hK hP 23 rfl rfl 3 (by decide) (hE _ fl_X5_17 rfl _) (fun _ h9 => h9) rfl dX5_flightIn_29 ?_
    refine lv_iload_n hx hb dX5_flightIn_32 rfl (lv_at hl 1 rfl) ?_
    obtain ⟨hin, hf⟩ := xguard hf
    refine va_iald hx hb hK hP 26 0 rfl rfl hin dX5_flightIn_33 ?_
    exact t_X5_flightIn_34 ⟨hx, hb, hml, hr, hlocks, hown, hno, hG⟩ hP hD hS  (lv_sub hl [] rfl) hf
  · rw [if_neg hc] at hf
    refine lv_iconst (v := 0) hx hb dX5_flightIn_24 (by decide) ?_
    refine lv_goto hx hb dX5_flightIn_25 rfl ?_
    exact t_X5_flightIn_34 ⟨hx, hb, hml, hr, hlocks, hown, hno, hG⟩ hP hD hS  (lv_sub hl [] rfl) hf
noncomputable def g_X5_flightIn_14  (b : xT) (v1 : Int32) (s1 : Int32) : Option (Int32 × xT) := g_X5_flightIn_17  (xn b 0 s1) v1
set_option maxHeartbeats 4000000 in
set_option maxRecDepth 100000 in
theorem t_X5_flightIn_14 {p : Program} {l : Launch} {e : Env} {s : State} {m : MethodId} {args : Array Value} {below : List Frame} {meth : Method} {c : Code} {D : va_G} {q : Nat → Nat} {k : Nat → ClassId} {a b : xT} {o : Nat → Int64} {z : xT} {y : Int32 × xT} (C : xCx p s m meth c cX5_flightIn 2 (some .int) RX5 D k) {H : Heap} {locs : List Loc} (hP : va_P D vwCl (xw q k a b o) H) (hD : va_D (va_A (xw q k a z o) s.heap.size) (xw q k a b o)) (hS : va_S (va_A (xw q k a z o) s.heap.size) s.heap H locs)  {v1 s1 : Int32} {ls : Array Slot} (hl : lv_has ls 2 [(0, .ref (q 23)), (1, .int v1)]) (hf : g_X5_flightIn_14  b v1 s1 = some y) : W p l e r_X5_flightIn s m args below meth c H locs 0 0 (xMQ below (xQm D q k a z o (.inr (some (.int y.1), a, y.2))) args s 0 0 (va_A (xw q k a z o) s.heap.size)) (F0 m 14 ls [.int s1, .ref (q 23)]) := by
  obtain ⟨hx, hb, hml, hr, hlocks, hown, hno, hG⟩ := C
  have hK := hG.1
  have hE := hG.2.1
  have hA : ∀ u, s.heap.size ≤ u → va_A (xw q k a z o) s.heap.size u := fun u h => Or.inr h
  unfold g_X5_flightIn_14 at hf
  refine va_put (D := D) (ci := 5) (v := .int s1) (ty := .int) (C := RX5) (T := TX5) (N := 19) hx hb (hwX5 hE) (fun _ h => h) tyX5 tyX5_ok nmX5 hown hK hP hD hS 23 rfl rfl 0 (by decide) (hE _ fl_X5_56 rfl _) (fun _ h9 => h9) rfl (by decide +kernel) rfl rfl (Nat.le_of_ble_eq_true rfl) dX5_flightIn_14 (fun H locs hP hD hS => ?_)
  rw [xw_n23_0] at hP hD
  exact t_X5_flightIn_17 ⟨hx, hb, hml, hr, hlocks, hown, hno, hG⟩ hP hD hS  (lv_sub hl [0, 1] rfl) hf
noncomputable def g_X5_flightIn_0  (b : xT) (v1 : Int32) : Option (Int32 × xT) := ((f_X5_isSlot b v1).bind fun r3 => (if r3 = 0 then g_X5_flightIn_14  b v1 1 else g_X5_flightIn_14  b v1 0))
set_option maxHeartbeats 4000000 in
set_option maxRecDepth 100000 in
theorem t_X5_flightIn_0 {p : Program} {l : Launch} {e : Env} {s : State} {m : MethodId} {args : Array Value} {below : List Frame} {meth : Method} {c : Code} {D : va_G} {q : Nat → Nat} {k : Nat → ClassId} {a b : xT} {o : Nat → Int64} {z : xT} {y : Int32 × xT} (C : xCx p s m meth c cX5_flightIn 2 (some .int) RX5 D k) {H : Heap} {locs : List Loc} (hP : va_P D vwCl (xw q k a b o) H) (hD : va_D (va_A (xw q k a z o) s.heap.size) (xw q k a b o)) (hS : va_S (va_A (xw q k a z o) s.heap.size) s.heap H locs)  {v1 : Int32} {ls : Array Slot} (hl : lv_has ls 2 [(0, .ref (q 23)), (1, .int v1)]) (hf : g_X5_flightIn_0  b v1 = some y) : W p l e r_X5_flightIn s m args below meth c H locs 0 0 (xMQ below (xQm D q k a z o (.inr (some (.int y.1), a, y.2))) args s 0 0 (va_A (xw q k a z o) s.heap.size)) (F0 m 0 ls []) := by
  obtain ⟨hx, hb, hml, hr, hlocks, hown, hno, hG⟩ := C
  have hK := hG.1
  have hE := hG.2.1
  have hA : ∀ u, s.heap.size ≤ u → va_A (xw q k a z o) s.heap.size u := fun u h => Or.inr h
  unfold g_X5_flightIn_0 at hf
  refine lv_aload_n hx hb dX5_flightIn_0 rfl (lv_at hl 0 rfl) ?_
  refine lv_aload_n hx hb dX5_flightIn_1 rfl (lv_at hl 0 rfl) ?_
  refine lv_iload_n hx hb dX5_flightIn_2 rfl (lv_at hl 1 rfl) ?_
  obtain ⟨r3, hN, hf⟩ := xbind hf
  refine xgo_r (v := some (.int r3)) (xrunV (C := RX5) (As := [.int v1]) (rest := [.ref (q 23)]) (xfixm fx_X5_isSlot hx hb hml hown (by decide) (by decide) (by decide) (by decide)) hE ml_X5_94 wi_X5_isSlot wz_X5_isSlot wc_X5_isSlot wn_X5 (c_X5_isSlot l D q k a b o v1 _ hN) (va_recv (q := (RX5, TX5, 19)) (ci := 5) (q0 := 23) hK hP rfl rfl) (xpre hP hD hG) rfl rfl hl.1 rfl (lv_room (Nat.le_of_ble_eq_true rfl)) dX5_flightIn_3) ?_
  refine lv_if_eq hx hb dX5_flightIn_6 rfl (fun hc => ?_) (fun hc => ?_)
  · rw [if_pos hc] at hf
    refine lv_iconst (v := 1) hx hb dX5_flightIn_13 (by decide) ?_
    exact t_X5_flightIn_14 ⟨hx, hb, hml, hr, hlocks, hown, hno, hG⟩ hP hD hS  (lv_sub hl [0, 1] rfl) hf
  · rw [if_neg hc] at hf
    refine lv_iconst (v := 0) hx hb dX5_flightIn_9 (by decide) ?_
    refine lv_goto hx hb dX5_flightIn_10 rfl ?_
    exact t_X5_flightIn_14 ⟨hx, hb, hml, hr, hlocks, hown, hno, hG⟩ hP hD hS  (lv_sub hl [0, 1] rfl) hf
noncomputable def f_X5_flightIn (b : xT) (v1 : Int32) : Option (Int32 × xT) := g_X5_flightIn_0 b v1
set_option maxHeartbeats 4000000 in
set_option maxRecDepth 100000 in
theorem c_X5_flightIn (l : Launch) (D : va_G) (q : Nat → Nat) (k : Nat → ClassId) (sz : Nat) (a b : xT) (o : Nat → Int64) (v1 : Int32) (y : Int32 × xT) (hf : f_X5_flightIn b v1 = some y) : xMet l yX5_flightIn (.code yX5_flightIn cX5_flightIn 2 (some .int)) r_X5_flightIn (xPcm D q k sz a b o [.ref (q 23), .int v1]) (xQm D q k a b o (.inr (some (.int y.1), a, y.2))) 0 0 (va_A (xw q k a b o) sz) := by
  refine xMet.ofW (by decide) ?_
  intro p e s m args below meth c hx hb hml hr hlocks hnm hme hno hv
  obtain ⟨rfl, hsz, hP, hD, hG⟩ := hv
  subst hsz
  have hown : s.vm.findClass RX5 = some m.cls := findClass_of_methodNamed hnm
  have hl := lv_entry ([.ref (q 23), .int v1]) (n := 2) (Nat.le_of_ble_eq_true rfl)
  rw [lg_entry_eq]
  generalize (lg_sl ([.ref (q 23), .int v1]) ++ List.replicate (2 - (lg_sl ([.ref (q 23), .int v1])).length) Slot.unset).toArray = ls at hl ⊢
  have hl : lv_has ls 2 [(0, .ref (q 23)), (1, .int v1)] := hl
  have hD := hD.self (sz := s.heap.size)
  exact t_X5_flightIn_0 ⟨hx, hb, hml, hr, hlocks, hown, hno, hG⟩ hP hD va_S.rf hl hf
abbrev r_X5_gaps : Room := { frames := 1, cells := 0, slots := 0, locals := 22 }
noncomputable def g_X5_gaps_42 (K9 : xT → Int32 → Int32 → Option (Int32 × xT)) (K18 : xT → Int32 → Int32 → Int32 → Option (Int32 × xT)) (b : xT) (v2 : Int32) (v3 : Int32) (s0 : Int32) : Option (Int32 × xT) := K18 b s0 v2 (v3 + 1)
set_option maxHeartbeats 4000000 in
set_option maxRecDepth 100000 in
theorem t_X5_gaps_42 {p : Program} {l : Launch} {e : Env} {s : State} {m : MethodId} {args : Array Value} {below : List Frame} {meth : Method} {c : Code} {D : va_G} {q : Nat → Nat} {k : Nat → ClassId} {a b : xT} {o : Nat → Int64} {z : xT} {y : Int32 × xT} (C : xCx p s m meth c cX5_gaps 4 (some .int) RX5 D k) {H : Heap} {locs : List Loc} (hP : va_P D vwCl (xw q k a b o) H) (hD : va_D (va_A (xw q k a z o) s.heap.size) (xw q k a b o)) (hS : va_S (va_A (xw q k a z o) s.heap.size) s.heap H locs) {K9 : xT → Int32 → Int32 → Option (Int32 × xT)} (hK9 : ∀ {b : xT} {v1 v2 : Int32} {ls : Array Slot} {H : Heap} {locs : List Loc}, va_P D vwCl (xw q k a b o) H → va_D (va_A (xw q k a z o) s.heap.size) (xw q k a b o) → va_S (va_A (xw q k a z o) s.heap.size) s.heap H locs → lv_has ls 4 [(0, .ref (q 23)), (1, .int v1), (2, .int v2)] → K9 b v1 v2 = some y → W p l e r_X5_gaps s m args below meth c H locs 0 0 (xMQ below (xQm D q k a z o (.inr (some (.int y.1), a, y.2))) args s 0 0 (va_A (xw q k a z o) s.heap.size)) (F0 m 9 ls [])) {K18 : xT → Int32 → Int32 → Int32 → Option (Int32 × xT)} (hK18 : ∀ {b : xT} {v1 v2 v3 : Int32} {ls : Array Slot} {H : Heap} {locs : List Loc}, va_P D vwCl (xw q k a b o) H → va_D (va_A (xw q k a z o) s.heap.size) (xw q k a b o) → va_S (va_A (xw q k a z o) s.heap.size) s.heap H locs → lv_has ls 4 [(0, .ref (q 23)), (1, .int v1), (2, .int v2), (3, .int v3)] → K18 b v1 v2 v3 = some y → W p l e r_X5_gaps s m args below meth c H locs 0 0 (xMQ below (xQm D q k a z o (.inr (some (.int y.1), a, y.2))) args s 0 0 (va_A (xw q k a z o) s.heap.size)) (F0 m 18 ls [])) {v2 v3 s0 : Int32} {ls : Array Slot} (hl : lv_has ls 4 [(0, .ref (q 23)), (2, .int v2), (3, .int v3)]) (hf : g_X5_gaps_42 K9 K18 b v2 v3 s0 = some y) : W p l e r_X5_gaps s m args below meth c H locs 0 0 (xMQ below (xQm D q k a z o (.inr (some (.int y.1), a, y.2))) args s 0 0 (va_A (xw q k a z o) s.heap.size)) (F0 m 42 ls [.int s0]) := by
  obtain ⟨hx, hb, hml, hr, hlocks, hown, hno, hG⟩ := C
  have hK := hG.1
  have hE := hG.2.1
  have hA : ∀ u, s.heap.size ≤ u → va_A (xw q k a z o) s.heap.size u := fun u h => Or.inr h
  unfold g_X5_gaps_42 at hf
  refine lv_istore_n (lv' := [(1, .int s0), (0, .ref (q 23)), (2, .int v2), (3, .int v3)]) hx hb dX5_gaps_42 rfl hl (by decide) rfl (fun ls hl => ?_)
  refine lv_iinc (k := 3) (v := v3 + 1) (lv' := [(3, .int (v3 + 1)), (1, .int s0), (0, .ref (q 23)), (2, .int v2)]) hx hb dX5_gaps_43 hl rfl (xinc (by decide) _) (by decide) rfl (fun ls hl => ?_)
  refine lv_goto hx hb dX5_gaps_46 rfl ?_
  exact hK18 hP hD hS (lv_sub hl [2, 1, 3, 0] rfl) hf
noncomputable def g_X5_gaps_18s (K9 : xT → Int32 → Int32 → Option (Int32 × xT)) (K18 : xT → Int32 → Int32 → Int32 → Option (Int32 × xT)) (b : xT) (v1 : Int32) (v2 : Int32) (v3 : Int32) : Option (Int32 × xT) := (if (b.2 1) ≤ v3 then K9 b v1 (v2 + 1) else ((f_X5_isGap b v2 v3).bind fun r29 => (if r29 = 0 then g_X5_gaps_42 K9 K18 b v2 v3 v1 else g_X5_gaps_42 K9 K18 b v2 v3 (v1 + 1))))
set_option maxHeartbeats 4000000 in
set_option maxRecDepth 100000 in
theorem t_X5_gaps_18s {p : Program} {l : Launch} {e : Env} {s : State} {m : MethodId} {args : Array Value} {below : List Frame} {meth : Method} {c : Code} {D : va_G} {q : Nat → Nat} {k : Nat → ClassId} {a b : xT} {o : Nat → Int64} {z : xT} {y : Int32 × xT} (C : xCx p s m meth c cX5_gaps 4 (some .int) RX5 D k) {H : Heap} {locs : List Loc} (hP : va_P D vwCl (xw q k a b o) H) (hD : va_D (va_A (xw q k a z o) s.heap.size) (xw q k a b o)) (hS : va_S (va_A (xw q k a z o) s.heap.size) s.heap H locs) {K9 : xT → Int32 → Int32 → Option (Int32 × xT)} (hK9 : ∀ {b : xT} {v1 v2 : Int32} {ls : Array Slot} {H : Heap} {locs : List Loc}, va_P D vwCl (xw q k a b o) H → va_D (va_A (xw q k a z o) s.heap.size) (xw q k a b o) → va_S (va_A (xw q k a z o) s.heap.size) s.heap H locs → lv_has ls 4 [(0, .ref (q 23)), (1, .int v1), (2, .int v2)] → K9 b v1 v2 = some y → W p l e r_X5_gaps s m args below meth c H locs 0 0 (xMQ below (xQm D q k a z o (.inr (some (.int y.1), a, y.2))) args s 0 0 (va_A (xw q k a z o) s.heap.size)) (F0 m 9 ls [])) {K18 : xT → Int32 → Int32 → Int32 → Option (Int32 × xT)} (hK18 : ∀ {b : xT} {v1 v2 v3 : Int32} {ls : Array Slot} {H : Heap} {locs : List Loc}, va_P D vwCl (xw q k a b o) H → va_D (va_A (xw q k a z o) s.heap.size) (xw q k a b o) → va_S (va_A (xw q k a z o) s.heap.size) s.heap H locs → lv_has ls 4 [(0, .ref (q 23)), (1, .int v1), (2, .int v2), (3, .int v3)] → K18 b v1 v2 v3 = some y → W p l e r_X5_gaps s m args below meth c H locs 0 0 (xMQ below (xQm D q k a z o (.inr (some (.int y.1), a, y.2))) args s 0 0 (va_A (xw q k a z o) s.heap.size)) (F0 m 18 ls [])) {v1 v2 v3 : Int32} {ls : Array Slot} (hl : lv_has ls 4 [(0, .ref (q 23)), (1, .int v1), (2, .int v2), (3, .int v3)]) (hf : g_X5_gaps_18s K9 K18 b v1 v2 v3 = some y) : W p l e r_X5_gaps s m args below meth c H locs 0 0 (xMQ below (xQm D q k a z o (.inr (some (.int y.1), a, y.2))) args s 0 0 (va_A (xw q k a z o) s.heap.size)) (F0 m 18 ls []) := by
  obtain ⟨hx, hb, hml, hr, hlocks, hown, hno, hG⟩ := C
  have hK := hG.1
  have hE := hG.2.1
  have hA : ∀ u, s.heap.size ≤ u → va_A (xw q k a z o) s.heap.size u := fun u h => Or.inr h
  unfold g_X5_gaps_18s at hf
  refine lv_iload_n hx hb dX5_gaps_18 rfl (lv_at hl 3 rfl) ?_
  refine lv_aload_n hx hb dX5_gaps_19 rfl (lv_at hl 0 rfl) ?_
  refine va_get (D := D) (ci := 5) (v := .int (b.2 1)) (C := RX5) (T := TX5) (N := 19) hx hb (hwX5 hE) (fun _ h => h) hown hK hP 23 rfl rfl 4 (by decide) (hE _ fl_X5_60 rfl _) (fun _ h9 => h9) rfl dX5_gaps_20 ?_
  refine lv_icmp_ge hx hb dX5_gaps_23 rfl (fun hc => ?_) (fun hc => ?_)
  · rw [if_pos hc] at hf
    refine lv_iinc (k := 2) (v := v2 + 1) (lv' := [(2, .int (v2 + 1)), (0, .ref (q 23)), (1, .int v1), (3, .int v3)]) hx hb dX5_gaps_49 hl rfl (xinc (by decide) _) (by decide) rfl (fun ls hl => ?_)
    refine lv_goto hx hb dX5_gaps_52 rfl ?_
    exact hK9 hP hD hS (lv_sub hl [1, 2, 0] rfl) hf
  · rw [if_neg hc] at hf
    refine lv_aload_n hx hb dX5_gaps_26 rfl (lv_at hl 0 rfl) ?_
    refine lv_iload_n hx hb dX5_gaps_27 rfl (lv_at hl 2 rfl) ?_
    refine lv_iload_n hx hb dX5_gaps_28 rfl (lv_at hl 3 rfl) ?_
    obtain ⟨r29, hN, hf⟩ := xbind hf
    refine xgo_r (v := some (.int r29)) (xrunV (C := RX5) (As := [.int v2, .int v3]) (rest := []) (xfixm fx_X5_isGap hx hb hml hown (by decide) (by decide) (by decide) (by decide)) hE ml_X5_121 wi_X5_isGap wz_X5_isGap wc_X5_isGap wn_X5 (c_X5_isGap l D q k a b o v2 v3 _ hN) (va_recv (q := (RX5, TX5, 19)) (ci := 5) (q0 := 23) hK hP rfl rfl) (xpre hP hD hG) rfl rfl hl.1 rfl (lv_room (Nat.le_of_ble_eq_true rfl)) dX5_gaps_29) ?_
    refine lv_if_eq hx hb dX5_gaps_32 rfl (fun hc => ?_) (fun hc => ?_)
    · rw [if_pos hc] at hf
      refine lv_iload_n hx hb dX5_gaps_41 rfl (lv_at hl 1 rfl) ?_
      exact t_X5_gaps_42 ⟨hx, hb, hml, hr, hlocks, hown, hno, hG⟩ hP hD hS hK9 hK18 (lv_sub hl [0, 2, 3] rfl) hf
    · rw [if_neg hc] at hf
      refine lv_iload_n hx hb dX5_gaps_35 rfl (lv_at hl 1 rfl) ?_
      refine lv_iconst (v := 1) hx hb dX5_gaps_36 (by decide) ?_
      refine lv_iadd hx hb dX5_gaps_37 ?_
      refine lv_goto hx hb dX5_gaps_38 rfl ?_
      exact t_X5_gaps_42 ⟨hx, hb, hml, hr, hlocks, hown, hno, hG⟩ hP hD hS hK9 hK18 (lv_sub hl [0, 2, 3] rfl) hf
noncomputable def g_X5_gaps_18 (K9 : xT → Int32 → Int32 → Option (Int32 × xT)) : Nat → xT → Int32 → Int32 → Int32 → Option (Int32 × xT) := fun n => Nat.rec (motive := fun _ => xT → Int32 → Int32 → Int32 → Option (Int32 × xT)) (fun _ _ _ _ => none) (fun _ ih => g_X5_gaps_18s K9 ih) n
set_option maxHeartbeats 4000000 in
theorem t_X5_gaps_18 {p : Program} {l : Launch} {e : Env} {s : State} {m : MethodId} {args : Array Value} {below : List Frame} {meth : Method} {c : Code} {D : va_G} {q : Nat → Nat} {k : Nat → ClassId} {a : xT} {o : Nat → Int64} {z : xT} {y : Int32 × xT} (C : xCx p s m meth c cX5_gaps 4 (some .int) RX5 D k) {K9 : xT → Int32 → Int32 → Option (Int32 × xT)} (hK9 : ∀ {b : xT} {v1 v2 : Int32} {ls : Array Slot} {H : Heap} {locs : List Loc}, va_P D vwCl (xw q k a b o) H → va_D (va_A (xw q k a z o) s.heap.size) (xw q k a b o) → va_S (va_A (xw q k a z o) s.heap.size) s.heap H locs → lv_has ls 4 [(0, .ref (q 23)), (1, .int v1), (2, .int v2)] → K9 b v1 v2 = some y → W p l e r_X5_gaps s m args below meth c H locs 0 0 (xMQ below (xQm D q k a z o (.inr (some (.int y.1), a, y.2))) args s 0 0 (va_A (xw q k a z o) s.heap.size)) (F0 m 9 ls [])) (n : Nat) : ∀ {b : xT} {v1 v2 v3 : Int32} {ls : Array Slot} {H : Heap} {locs : List Loc}, va_P D vwCl (xw q k a b o) H → va_D (va_A (xw q k a z o) s.heap.size) (xw q k a b o) → va_S (va_A (xw q k a z o) s.heap.size) s.heap H locs → lv_has ls 4 [(0, .ref (q 23)), (1, .int v1), (2, .int v2), (3, .int v3)] → g_X5_gaps_18 K9 n b v1 v2 v3 = some y → W p l e r_X5_gaps s m args below meth c H locs 0 0 (xMQ below (xQm D q k a z o (.inr (some (.int y.1), a, y.2))) args s 0 0 (va_A (xw q k a z o) s.heap.size)) (F0 m 18 ls []) := by
  induction n with
  | zero =>
    intro _ _ _ _ _ _ _ _ _ _ _ hf
    have h9 : (none : Option (Int32 × xT)) = some y := hf
    cases h9
  | succ n ih =>
    intro _ _ _ _ _ _ _ hP hD hS hl hf
    exact t_X5_gaps_18s C hP hD hS hK9 (K18 := g_X5_gaps_18 K9 n) ih hl hf
noncomputable def g_X5_gaps_9s (K9 : xT → Int32 → Int32 → Option (Int32 × xT)) (b : xT) (v1 : Int32) (v2 : Int32) : Option (Int32 × xT) := (if 240 ≤ v2 then some (v1, b) else g_X5_gaps_18 K9 1000 b v1 v2 0)
set_option maxHeartbeats 4000000 in
set_option maxRecDepth 100000 in
theorem t_X5_gaps_9s {p : Program} {l : Launch} {e : Env} {s : State} {m : MethodId} {args : Array Value} {below : List Frame} {meth : Method} {c : Code} {D : va_G} {q : Nat → Nat} {k : Nat → ClassId} {a b : xT} {o : Nat → Int64} {z : xT} {y : Int32 × xT} (C : xCx p s m meth c cX5_gaps 4 (some .int) RX5 D k) {H : Heap} {locs : List Loc} (hP : va_P D vwCl (xw q k a b o) H) (hD : va_D (va_A (xw q k a z o) s.heap.size) (xw q k a b o)) (hS : va_S (va_A (xw q k a z o) s.heap.size) s.heap H locs) {K9 : xT → Int32 → Int32 → Option (Int32 × xT)} (hK9 : ∀ {b : xT} {v1 v2 : Int32} {ls : Array Slot} {H : Heap} {locs : List Loc}, va_P D vwCl (xw q k a b o) H → va_D (va_A (xw q k a z o) s.heap.size) (xw q k a b o) → va_S (va_A (xw q k a z o) s.heap.size) s.heap H locs → lv_has ls 4 [(0, .ref (q 23)), (1, .int v1), (2, .int v2)] → K9 b v1 v2 = some y → W p l e r_X5_gaps s m args below meth c H locs 0 0 (xMQ below (xQm D q k a z o (.inr (some (.int y.1), a, y.2))) args s 0 0 (va_A (xw q k a z o) s.heap.size)) (F0 m 9 ls [])) {v1 v2 : Int32} {ls : Array Slot} (hl : lv_has ls 4 [(0, .ref (q 23)), (1, .int v1), (2, .int v2)]) (hf : g_X5_gaps_9s K9 b v1 v2 = some y) : W p l e r_X5_gaps s m args below meth c H locs 0 0 (xMQ below (xQm D q k a z o (.inr (some (.int y.1), a, y.2))) args s 0 0 (va_A (xw q k a z o) s.heap.size)) (F0 m 9 ls []) := by
  obtain ⟨hx, hb, hml, hr, hlocks, hown, hno, hG⟩ := C
  have hK := hG.1
  have hE := hG.2.1
  have hA : ∀ u, s.heap.size ≤ u → va_A (xw q k a z o) s.heap.size u := fun u h => Or.inr h
  unfold g_X5_gaps_9s at hf
  refine lv_iload_n hx hb dX5_gaps_9 rfl (lv_at hl 2 rfl) ?_
  refine lv_sipush (v := 240) hx hb dX5_gaps_10 (by decide) ?_
  refine lv_icmp_ge hx hb dX5_gaps_13 rfl (fun hc => ?_) (fun hc => ?_)
  · rw [if_pos hc] at hf
    refine lv_iload_n hx hb dX5_gaps_55 rfl (lv_at hl 1 rfl) ?_
    cases hf
    exact xretm_i hx hb hr hlocks hP hS dX5_gaps_56
  · rw [if_neg hc] at hf
    refine lv_iconst (v := 0) hx hb dX5_gaps_16 (by decide) ?_
    refine lv_istore_n (lv' := [(3, .int 0), (0, .ref (q 23)), (1, .int v1), (2, .int v2)]) hx hb dX5_gaps_17 rfl hl (by decide) rfl (fun ls hl => ?_)
    exact t_X5_gaps_18 ⟨hx, hb, hml, hr, hlocks, hown, hno, hG⟩ hK9 1000 hP hD hS (lv_sub hl [1, 2, 3, 0] rfl) hf
noncomputable def g_X5_gaps_9  : Nat → xT → Int32 → Int32 → Option (Int32 × xT) := fun n => Nat.rec (motive := fun _ => xT → Int32 → Int32 → Option (Int32 × xT)) (fun _ _ _ => none) (fun _ ih => g_X5_gaps_9s ih) n
set_option maxHeartbeats 4000000 in
theorem t_X5_gaps_9 {p : Program} {l : Launch} {e : Env} {s : State} {m : MethodId} {args : Array Value} {below : List Frame} {meth : Method} {c : Code} {D : va_G} {q : Nat → Nat} {k : Nat → ClassId} {a : xT} {o : Nat → Int64} {z : xT} {y : Int32 × xT} (C : xCx p s m meth c cX5_gaps 4 (some .int) RX5 D k)  (n : Nat) : ∀ {b : xT} {v1 v2 : Int32} {ls : Array Slot} {H : Heap} {locs : List Loc}, va_P D vwCl (xw q k a b o) H → va_D (va_A (xw q k a z o) s.heap.size) (xw q k a b o) → va_S (va_A (xw q k a z o) s.heap.size) s.heap H locs → lv_has ls 4 [(0, .ref (q 23)), (1, .int v1), (2, .int v2)] → g_X5_gaps_9  n b v1 v2 = some y → W p l e r_X5_gaps s m args below meth c H locs 0 0 (xMQ below (xQm D q k a z o (.inr (some (.int y.1), a, y.2))) args s 0 0 (va_A (xw q k a z o) s.heap.size)) (F0 m 9 ls []) := by
  induction n with
  | zero =>
    intro _ _ _ _ _ _ _ _ _ _ hf
    have h9 : (none : Option (Int32 × xT)) = some y := hf
    cases h9
  | succ n ih =>
    intro _ _ _ _ _ _ hP hD hS hl hf
    exact t_X5_gaps_9s C hP hD hS (K9 := g_X5_gaps_9  n) ih hl hf
noncomputable def g_X5_gaps_5  (b : xT)  : Option (Int32 × xT) := g_X5_gaps_9  1000 b 0 0
set_option maxHeartbeats 4000000 in
set_option maxRecDepth 100000 in
theorem t_X5_gaps_5 {p : Program} {l : Launch} {e : Env} {s : State} {m : MethodId} {args : Array Value} {below : List Frame} {meth : Method} {c : Code} {D : va_G} {q : Nat → Nat} {k : Nat → ClassId} {a b : xT} {o : Nat → Int64} {z : xT} {y : Int32 × xT} (C : xCx p s m meth c cX5_gaps 4 (some .int) RX5 D k) {H : Heap} {locs : List Loc} (hP : va_P D vwCl (xw q k a b o) H) (hD : va_D (va_A (xw q k a z o) s.heap.size) (xw q k a b o)) (hS : va_S (va_A (xw q k a z o) s.heap.size) s.heap H locs)  {ls : Array Slot} (hl : lv_has ls 4 [(0, .ref (q 23))]) (hf : g_X5_gaps_5  b  = some y) : W p l e r_X5_gaps s m args below meth c H locs 0 0 (xMQ below (xQm D q k a z o (.inr (some (.int y.1), a, y.2))) args s 0 0 (va_A (xw q k a z o) s.heap.size)) (F0 m 5 ls []) := by
  obtain ⟨hx, hb, hml, hr, hlocks, hown, hno, hG⟩ := C
  have hK := hG.1
  have hE := hG.2.1
  have hA : ∀ u, s.heap.size ≤ u → va_A (xw q k a z o) s.heap.size u := fun u h => Or.inr h
  unfold g_X5_gaps_5 at hf
  refine lv_iconst (v := 0) hx hb dX5_gaps_5 (by decide) ?_
  refine lv_istore_n (lv' := [(1, .int 0), (0, .ref (q 23))]) hx hb dX5_gaps_6 rfl hl (by decide) rfl (fun ls hl => ?_)
  refine lv_iconst (v := 0) hx hb dX5_gaps_7 (by decide) ?_
  refine lv_istore_n (lv' := [(2, .int 0), (1, .int 0), (0, .ref (q 23))]) hx hb dX5_gaps_8 rfl hl (by decide) rfl (fun ls hl => ?_)
  exact t_X5_gaps_9 ⟨hx, hb, hml, hr, hlocks, hown, hno, hG⟩  1000 hP hD hS (lv_sub hl [2, 1, 0] rfl) hf
noncomputable def g_X5_gaps_0  (b : xT)  : Option (Int32 × xT) := g_X5_gaps_5  (xn b 0 0) 
set_option maxHeartbeats 4000000 in
set_option maxRecDepth 100000 in
theorem t_X5_gaps_0 {p : Program} {l : Launch} {e : Env} {s : State} {m : MethodId} {args : Array Value} {below : List Frame} {meth : Method} {c : Code} {D : va_G} {q : Nat → Nat} {k : Nat → ClassId} {a b : xT} {o : Nat → Int64} {z : xT} {y : Int32 × xT} (C : xCx p s m meth c cX5_gaps 4 (some .int) RX5 D k) {H : Heap} {locs : List Loc} (hP : va_P D vwCl (xw q k a b o) H) (hD : va_D (va_A (xw q k a z o) s.heap.size) (xw q k a b o)) (hS : va_S (va_A (xw q k a z o) s.heap.size) s.heap H locs)  {ls : Array Slot} (hl : lv_has ls 4 [(0, .ref (q 23))]) (hf : g_X5_gaps_0  b  = some y) : W p l e r_X5_gaps s m args below meth c H locs 0 0 (xMQ below (xQm D q k a z o (.inr (some (.int y.1), a, y.2))) args s 0 0 (va_A (xw q k a z o) s.heap.size)) (F0 m 0 ls []) := by
  obtain ⟨hx, hb, hml, hr, hlocks, hown, hno, hG⟩ := C
  have hK := hG.1
  have hE := hG.2.1
  have hA : ∀ u, s.heap.size ≤ u → va_A (xw q k a z o) s.heap.size u := fun u h => Or.inr h
  unfold g_X5_gaps_0 at hf
  refine lv_aload_n hx hb dX5_gaps_0 rfl (lv_at hl 0 rfl) ?_
  refine lv_iconst (v := 0) hx hb dX5_gaps_1 (by decide) ?_
  refine va_put (D := D) (ci := 5) (v := .int 0) (ty := .int) (C := RX5) (T := TX5) (N := 19) hx hb (hwX5 hE) (fun _ h => h) tyX5 tyX5_ok nmX5 hown hK hP hD hS 23 rfl rfl 0 (by decide) (hE _ fl_X5_56 rfl _) (fun _ h9 => h9) rfl (by decide +kernel) rfl rfl (Nat.le_of_ble_eq_true rfl) dX5_gaps_2 (fun H locs hP hD hS => ?_)
  rw [xw_n23_0] at hP hD
  exact t_X5_gaps_5 ⟨hx, hb, hml, hr, hlocks, hown, hno, hG⟩ hP hD hS  (lv_sub hl [0] rfl) hf
noncomputable def f_X5_gaps (b : xT)  : Option (Int32 × xT) := g_X5_gaps_0 b 
set_option maxHeartbeats 4000000 in
set_option maxRecDepth 100000 in
theorem c_X5_gaps (l : Launch) (D : va_G) (q : Nat → Nat) (k : Nat → ClassId) (sz : Nat) (a b : xT) (o : Nat → Int64)  (y : Int32 × xT) (hf : f_X5_gaps b  = some y) : xMet l yX5_gaps (.code yX5_gaps cX5_gaps 4 (some .int)) r_X5_gaps (xPcm D q k sz a b o [.ref (q 23)]) (xQm D q k a b o (.inr (some (.int y.1), a, y.2))) 0 0 (va_A (xw q k a b o) sz) := by
  refine xMet.ofW (by decide) ?_
  intro p e s m args below meth c hx hb hml hr hlocks hnm hme hno hv
  obtain ⟨rfl, hsz, hP, hD, hG⟩ := hv
  subst hsz
  have hown : s.vm.findClass RX5 = some m.cls := findClass_of_methodNamed hnm
  have hl := lv_entry ([.ref (q 23)]) (n := 4) (Nat.le_of_ble_eq_true rfl)
  rw [lg_entry_eq]
  generalize (lg_sl ([.ref (q 23)]) ++ List.replicate (4 - (lg_sl ([.ref (q 23)])).length) Slot.unset).toArray = ls at hl ⊢
  have hl : lv_has ls 4 [(0, .ref (q 23))] := hl
  have hD := hD.self (sz := s.heap.size)
  exact t_X5_gaps_0 ⟨hx, hb, hml, hr, hlocks, hown, hno, hG⟩ hP hD va_S.rf hl hf
abbrev r_X5_has : Room := { frames := 0, cells := 0, slots := 0, locals := 0 }
noncomputable def g_X5_has_36 (K5 : Int32 → Int32 → Int32 → Int32 → Int32 → Option (Int32)) (b : xT) (v0 : Int32) (v1 : Int32) (v2 : Int32) (v4 : Int32) (s0 : Int32) : Option (Int32) := K5 v0 v1 v2 s0 (v4 + 1)
set_option maxHeartbeats 4000000 in
set_option maxRecDepth 100000 in
theorem t_X5_has_36 {p : Program} {l : Launch} {e : Env} {s : State} {m : MethodId} {args : Array Value} {below : List Frame} {meth : Method} {c : Code} {D : va_G} {q : Nat → Nat} {k : Nat → ClassId} {a b : xT} {o : Nat → Int64} {y : Int32} (C : xCx p s m meth c cX5_has 5 (some .boolean) RX5 D k) (hP : va_P D vwCl (xw q k a b o) s.heap) (hD : va_D (fun _ => True) (xw q k a b o)) {K5 : Int32 → Int32 → Int32 → Int32 → Int32 → Option (Int32)} (hK5 : ∀ {v0 v1 v2 v3 v4 : Int32} {ls : Array Slot}, lv_has ls 5 [(0, .int v0), (1, .int v1), (2, .int v2), (3, .int v3), (4, .int v4)] → K5 v0 v1 v2 v3 v4 = some y → W p l e r_X5_has s m args below meth c s.heap [] 0 0 (xMQ below (xQr (.inr (some (.int y)))) args s (xmc (.inr (some (.int y)))) (xms (.inr (some (.int y)))) (fun _ => False)) (F0 m 5 ls [])) {v0 v1 v2 v4 s0 : Int32} {ls : Array Slot} (hl : lv_has ls 5 [(0, .int v0), (1, .int v1), (2, .int v2), (4, .int v4)]) (hf : g_X5_has_36 K5 b v0 v1 v2 v4 s0 = some y) : W p l e r_X5_has s m args below meth c s.heap [] 0 0 (xMQ below (xQr (.inr (some (.int y)))) args s (xmc (.inr (some (.int y)))) (xms (.inr (some (.int y)))) (fun _ => False)) (F0 m 36 ls [.int s0]) := by
  obtain ⟨hx, hb, hml, hr, hlocks, hown, hno, hG⟩ := C
  have hK := hG.1
  have hE := hG.2.1
  unfold g_X5_has_36 at hf
  refine lv_istore_n (lv' := [(3, .int s0), (0, .int v0), (1, .int v1), (2, .int v2), (4, .int v4)]) hx hb dX5_has_36 rfl hl (by decide) rfl (fun ls hl => ?_)
  refine lv_iinc (k := 4) (v := v4 + 1) (lv' := [(4, .int (v4 + 1)), (3, .int s0), (0, .int v0), (1, .int v1), (2, .int v2)]) hx hb dX5_has_37 hl rfl (xinc (by decide) _) (by decide) rfl (fun ls hl => ?_)
  refine lv_goto hx hb dX5_has_40 rfl ?_
  exact hK5 (lv_sub hl [2, 3, 4, 1, 0] rfl) hf
noncomputable def g_X5_has_31 (K5 : Int32 → Int32 → Int32 → Int32 → Int32 → Option (Int32)) (b : xT) (v0 : Int32) (v1 : Int32) (v2 : Int32) (v4 : Int32) : Option (Int32) := g_X5_has_36 K5 b v0 v1 v2 v4 1
set_option maxHeartbeats 4000000 in
set_option maxRecDepth 100000 in
theorem t_X5_has_31 {p : Program} {l : Launch} {e : Env} {s : State} {m : MethodId} {args : Array Value} {below : List Frame} {meth : Method} {c : Code} {D : va_G} {q : Nat → Nat} {k : Nat → ClassId} {a b : xT} {o : Nat → Int64} {y : Int32} (C : xCx p s m meth c cX5_has 5 (some .boolean) RX5 D k) (hP : va_P D vwCl (xw q k a b o) s.heap) (hD : va_D (fun _ => True) (xw q k a b o)) {K5 : Int32 → Int32 → Int32 → Int32 → Int32 → Option (Int32)} (hK5 : ∀ {v0 v1 v2 v3 v4 : Int32} {ls : Array Slot}, lv_has ls 5 [(0, .int v0), (1, .int v1), (2, .int v2), (3, .int v3), (4, .int v4)] → K5 v0 v1 v2 v3 v4 = some y → W p l e r_X5_has s m args below meth c s.heap [] 0 0 (xMQ below (xQr (.inr (some (.int y)))) args s (xmc (.inr (some (.int y)))) (xms (.inr (some (.int y)))) (fun _ => False)) (F0 m 5 ls [])) {v0 v1 v2 v4 : Int32} {ls : Array Slot} (hl : lv_has ls 5 [(0, .int v0), (1, .int v1), (2, .int v2), (4, .int v4)]) (hf : g_X5_has_31 K5 b v0 v1 v2 v4 = some y) : W p l e r_X5_has s m args below meth c s.heap [] 0 0 (xMQ below (xQr (.inr (some (.int y)))) args s (xmc (.inr (some (.int y)))) (xms (.inr (some (.int y)))) (fun _ => False)) (F0 m 31 ls []) := by
  obtain ⟨hx, hb, hml, hr, hlocks, hown, hno, hG⟩ := C
  have hK := hG.1
  have hE := hG.2.1
  unfold g_X5_has_31 at hf
  refine lv_iconst (v := 1) hx hb dX5_has_31 (by decide) ?_
  refine lv_goto hx hb dX5_has_32 rfl ?_
  exact t_X5_has_36 ⟨hx, hb, hml, hr, hlocks, hown, hno, hG⟩ hP hD hK5 (lv_sub hl [0, 1, 2, 3] rfl) hf
noncomputable def g_X5_has_5s (K5 : Int32 → Int32 → Int32 → Int32 → Int32 → Option (Int32)) (b : xT) (v0 : Int32) (v1 : Int32) (v2 : Int32) (v3 : Int32) (v4 : Int32) : Option (Int32) := (if v1 ≤ v4 then (if xzb v3 = true then some v3 else none) else (if v3 = 0 then (if v1 = 0 then none else (if ((15 * v0) + ((15 * v4) / v1)) = v2 then g_X5_has_31 K5 b v0 v1 v2 v4 else g_X5_has_36 K5 b v0 v1 v2 v4 0)) else g_X5_has_31 K5 b v0 v1 v2 v4))
set_option maxHeartbeats 4000000 in
set_option maxRecDepth 100000 in
theorem t_X5_has_5s {p : Program} {l : Launch} {e : Env} {s : State} {m : MethodId} {args : Array Value} {below : List Frame} {meth : Method} {c : Code} {D : va_G} {q : Nat → Nat} {k : Nat → ClassId} {a b : xT} {o : Nat → Int64} {y : Int32} (C : xCx p s m meth c cX5_has 5 (some .boolean) RX5 D k) (hP : va_P D vwCl (xw q k a b o) s.heap) (hD : va_D (fun _ => True) (xw q k a b o)) {K5 : Int32 → Int32 → Int32 → Int32 → Int32 → Option (Int32)} (hK5 : ∀ {v0 v1 v2 v3 v4 : Int32} {ls : Array Slot}, lv_has ls 5 [(0, .int v0), (1, .int v1), (2, .int v2), (3, .int v3), (4, .int v4)] → K5 v0 v1 v2 v3 v4 = some y → W p l e r_X5_has s m args below meth c s.heap [] 0 0 (xMQ below (xQr (.inr (some (.int y)))) args s (xmc (.inr (some (.int y)))) (xms (.inr (some (.int y)))) (fun _ => False)) (F0 m 5 ls [])) {v0 v1 v2 v3 v4 : Int32} {ls : Array Slot} (hl : lv_has ls 5 [(0, .int v0), (1, .int v1), (2, .int v2), (3, .int v3), (4, .int v4)]) (hf : g_X5_has_5s K5 b v0 v1 v2 v3 v4 = some y) : W p l e r_X5_has s m args below meth c s.heap [] 0 0 (xMQ below (xQr (.inr (some (.int y)))) args s (xmc (.inr (some (.int y)))) (xms (.inr (some (.int y)))) (fun _ => False)) (F0 m 5 ls []) := by
  obtain ⟨hx, hb, hml, hr, hlocks, hown, hno, hG⟩ := C
  have hK := hG.1
  have hE := hG.2.1
  unfold g_X5_has_5s at hf
  refine lv_iload hx hb dX5_has_5 (lv_at hl 4 rfl) ?_
  refine lv_iload_n hx hb dX5_has_7 rfl (lv_at hl 1 rfl) ?_
  refine lv_icmp_ge hx hb dX5_has_8 rfl (fun hc => ?_) (fun hc => ?_)
  · rw [if_pos hc] at hf
    refine lv_iload_n hx hb dX5_has_43 rfl (lv_at hl 3 rfl) ?_
    obtain ⟨hz, hf⟩ := xguz hf
    cases hf
    exact xret_z hx hb hr hz hlocks dX5_has_44
  · rw [if_neg hc] at hf
    refine lv_iload_n hx hb dX5_has_11 rfl (lv_at hl 3 rfl) ?_
    refine lv_if_ne hx hb dX5_has_12 rfl (fun hc => ?_) (fun hc => ?_)
    · rw [if_neg hc] at hf
      exact t_X5_has_31 ⟨hx, hb, hml, hr, hlocks, hown, hno, hG⟩ hP hD hK5 (lv_sub hl [0, 1, 2, 4] rfl) hf
    · rw [if_pos hc] at hf
      refine lv_bipush (v := 15) hx hb dX5_has_15 (by decide) ?_
      refine lv_iload_n hx hb dX5_has_17 rfl (lv_at hl 0 rfl) ?_
      refine lv_imul hx hb dX5_has_18 ?_
      refine lv_bipush (v := 15) hx hb dX5_has_19 (by decide) ?_
      refine lv_iload hx hb dX5_has_21 (lv_at hl 4 rfl) ?_
      refine lv_imul hx hb dX5_has_23 ?_
      refine lv_iload_n hx hb dX5_has_24 rfl (lv_at hl 1 rfl) ?_
      obtain ⟨hne, hf⟩ := xgne hf
      refine lv_idiv hx hb dX5_has_25 hne ?_
      refine lv_iadd hx hb dX5_has_26 ?_
      refine lv_iload_n hx hb dX5_has_27 rfl (lv_at hl 2 rfl) ?_
      refine lv_icmp_ne hx hb dX5_has_28 rfl (fun hc => ?_) (fun hc => ?_)
      · rw [if_neg hc] at hf
        refine lv_iconst (v := 0) hx hb dX5_has_35 (by decide) ?_
        exact t_X5_has_36 ⟨hx, hb, hml, hr, hlocks, hown, hno, hG⟩ hP hD hK5 (lv_sub hl [0, 1, 2, 4] rfl) hf
      · rw [if_pos hc] at hf
        exact t_X5_has_31 ⟨hx, hb, hml, hr, hlocks, hown, hno, hG⟩ hP hD hK5 (lv_sub hl [0, 1, 2, 4] rfl) hf
noncomputable def g_X5_has_5  (b : xT) : Nat → Int32 → Int32 → Int32 → Int32 → Int32 → Option (Int32) := fun n => Nat.rec (motive := fun _ => Int32 → Int32 → Int32 → Int32 → Int32 → Option (Int32)) (fun _ _ _ _ _ => none) (fun _ ih => g_X5_has_5s ih b) n
set_option maxHeartbeats 4000000 in
theorem t_X5_has_5 {p : Program} {l : Launch} {e : Env} {s : State} {m : MethodId} {args : Array Value} {below : List Frame} {meth : Method} {c : Code} {D : va_G} {q : Nat → Nat} {k : Nat → ClassId} {a b : xT} {o : Nat → Int64} {y : Int32} (C : xCx p s m meth c cX5_has 5 (some .boolean) RX5 D k) (hP : va_P D vwCl (xw q k a b o) s.heap) (hD : va_D (fun _ => True) (xw q k a b o))  (n : Nat) : ∀ {v0 v1 v2 v3 v4 : Int32} {ls : Array Slot}, lv_has ls 5 [(0, .int v0), (1, .int v1), (2, .int v2), (3, .int v3), (4, .int v4)] → g_X5_has_5  b n v0 v1 v2 v3 v4 = some y → W p l e r_X5_has s m args below meth c s.heap [] 0 0 (xMQ below (xQr (.inr (some (.int y)))) args s (xmc (.inr (some (.int y)))) (xms (.inr (some (.int y)))) (fun _ => False)) (F0 m 5 ls []) := by
  induction n with
  | zero =>
    intro _ _ _ _ _ _ _ hf
    have h9 : (none : Option (Int32)) = some y := hf
    cases h9
  | succ n ih =>
    intro _ _ _ _ _ _ hl hf
    exact t_X5_has_5s C hP hD (K5 := g_X5_has_5  b n) ih hl hf
noncomputable def g_X5_has_0  (b : xT) (v0 : Int32) (v1 : Int32) (v2 : Int32) : Option (Int32) := g_X5_has_5  b 1000 v0 v1 v2 0 0
set_option maxHeartbeats 4000000 in
set_option maxRecDepth 100000 in
theorem t_X5_has_0 {p : Program} {l : Launch} {e : Env} {s : State} {m : MethodId} {args : Array Value} {below : List Frame} {meth : Method} {c : Code} {D : va_G} {q : Nat → Nat} {k : Nat → ClassId} {a b : xT} {o : Nat → Int64} {y : Int32} (C : xCx p s m meth c cX5_has 5 (some .boolean) RX5 D k) (hP : va_P D vwCl (xw q k a b o) s.heap) (hD : va_D (fun _ => True) (xw q k a b o))  {v0 v1 v2 : Int32} {ls : Array Slot} (hl : lv_has ls 5 [(0, .int v0), (1, .int v1), (2, .int v2)]) (hf : g_X5_has_0  b v0 v1 v2 = some y) : W p l e r_X5_has s m args below meth c s.heap [] 0 0 (xMQ below (xQr (.inr (some (.int y)))) args s (xmc (.inr (some (.int y)))) (xms (.inr (some (.int y)))) (fun _ => False)) (F0 m 0 ls []) := by
  obtain ⟨hx, hb, hml, hr, hlocks, hown, hno, hG⟩ := C
  have hK := hG.1
  have hE := hG.2.1
  unfold g_X5_has_0 at hf
  refine lv_iconst (v := 0) hx hb dX5_has_0 (by decide) ?_
  refine lv_istore_n (lv' := [(3, .int 0), (0, .int v0), (1, .int v1), (2, .int v2)]) hx hb dX5_has_1 rfl hl (by decide) rfl (fun ls hl => ?_)
  refine lv_iconst (v := 0) hx hb dX5_has_2 (by decide) ?_
  refine lv_istore (lv' := [(4, .int 0), (3, .int 0), (0, .int v0), (1, .int v1), (2, .int v2)]) hx hb dX5_has_3 hl (by decide) rfl (fun ls hl => ?_)
  exact t_X5_has_5 ⟨hx, hb, hml, hr, hlocks, hown, hno, hG⟩ hP hD  1000 (lv_sub hl [2, 3, 4, 1, 0] rfl) hf
noncomputable def f_X5_has (b : xT) (v0 : Int32) (v1 : Int32) (v2 : Int32) : Option (Int32) := g_X5_has_0 b v0 v1 v2
set_option maxHeartbeats 4000000 in
set_option maxRecDepth 100000 in
theorem c_X5_has (l : Launch) (D : va_G) (q : Nat → Nat) (k : Nat → ClassId) (a b : xT) (o : Nat → Int64) (v0 : Int32) (v1 : Int32) (v2 : Int32) (y : Int32) (hf : f_X5_has b v0 v1 v2 = some y) : xMet l yX5_has (.code yX5_has cX5_has 5 (some .boolean)) r_X5_has (xPc D q k a b o [.int v0, .int v1, .int v2]) (xQr (.inr (some (.int y)))) (xmc (.inr (some (.int y)))) (xms (.inr (some (.int y)))) (fun _ => False) := by
  refine xMet.ofW (by decide) ?_
  intro p e s m args below meth c hx hb hml hr hlocks hnm hme hno hv
  obtain ⟨rfl, hP, hD, hG⟩ := hv
  have hown : s.vm.findClass RX5 = some m.cls := findClass_of_methodNamed hnm
  have hl := lv_entry ([.int v0, .int v1, .int v2]) (n := 5) (Nat.le_of_ble_eq_true rfl)
  rw [lg_entry_eq]
  generalize (lg_sl ([.int v0, .int v1, .int v2]) ++ List.replicate (5 - (lg_sl ([.int v0, .int v1, .int v2])).length) Slot.unset).toArray = ls at hl ⊢
  have hl : lv_has ls 5 [(0, .int v0), (1, .int v1), (2, .int v2)] := hl
  exact t_X5_has_0 ⟨hx, hb, hml, hr, hlocks, hown, hno, hG⟩ hP hD hl hf
