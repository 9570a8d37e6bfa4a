abbrev r_X5_offer : Room := { frames := 1, cells := 0, slots := 0, locals := 22 }
noncomputable def g_X5_offer_126  (b : xT)  : Option (Int32 × xT) := some ((b.2 2) - 1, b)
set_option maxHeartbeats 4000000 in
set_option maxRecDepth 100000 in
theorem t_X5_offer_126 {p : Program} {l : Launch} {e : Env} {s : State} {m : MethodId} {args : Array Value} {below : List Frame} {meth : Method} {c : Code} {D : va_G} {q : Nat → Nat} {k : Nat → ClassId} {a b : xT} {o : Nat → Int64} {z : xT} {y : Int32 × xT} (C : xCx p s m meth c cX5_offer 4 (some .int) RX5 D k) {H : Heap} {locs : List Loc} (hP : va_P D vwCl (xw q k a b o) H) (hD : va_D (va_A (xw q k a z o) s.heap.size) (xw q k a b o)) (hS : va_S (va_A (xw q k a z o) s.heap.size) s.heap H locs)  {ls : Array Slot} (hl : lv_has ls 4 [(0, .ref (q 23))]) (hf : g_X5_offer_126  b  = some y) : W p l e r_X5_offer s m args below meth c H locs 0 0 (xMQ below (xQm D q k a z o (.inr (some (.int y.1), a, y.2))) args s 0 0 (va_A (xw q k a z o) s.heap.size)) (F0 m 126 ls []) := by
  obtain ⟨hx, hb, hml, hr, hlocks, hown, hno, hG⟩ := C
  have hK := hG.1
  have hE := hG.2.1
  have hA : ∀ u, s.heap.size ≤ u → va_A (xw q k a z o) s.heap.size u := fun u h => Or.inr h
  unfold g_X5_offer_126 at hf
  refine lv_aload_n hx hb dX5_offer_126 rfl (lv_at hl 0 rfl) ?_
  refine va_get (D := D) (ci := 5) (v := .int (b.2 2)) (C := RX5) (T := TX5) (N := 19) hx hb (hwX5 hE) (fun _ h => h) hown hK hP 23 rfl rfl 12 (by decide) (hE _ fl_X5_108 rfl _) (fun _ h9 => h9) rfl dX5_offer_127 ?_
  refine lv_iconst (v := 1) hx hb dX5_offer_130 (by decide) ?_
  refine lv_isub hx hb dX5_offer_131 ?_
  cases hf
  exact xretm_i hx hb hr hlocks hP hS dX5_offer_132
noncomputable def g_X5_offer_116  (b : xT)  : Option (Int32 × xT) := g_X5_offer_126  (xn b 2 ((b.2 2) + 1)) 
set_option maxHeartbeats 4000000 in
set_option maxRecDepth 100000 in
theorem t_X5_offer_116 {p : Program} {l : Launch} {e : Env} {s : State} {m : MethodId} {args : Array Value} {below : List Frame} {meth : Method} {c : Code} {D : va_G} {q : Nat → Nat} {k : Nat → ClassId} {a b : xT} {o : Nat → Int64} {z : xT} {y : Int32 × xT} (C : xCx p s m meth c cX5_offer 4 (some .int) RX5 D k) {H : Heap} {locs : List Loc} (hP : va_P D vwCl (xw q k a b o) H) (hD : va_D (va_A (xw q k a z o) s.heap.size) (xw q k a b o)) (hS : va_S (va_A (xw q k a z o) s.heap.size) s.heap H locs)  {ls : Array Slot} (hl : lv_has ls 4 [(0, .ref (q 23))]) (hf : g_X5_offer_116  b  = some y) : W p l e r_X5_offer s m args below meth c H locs 0 0 (xMQ below (xQm D q k a z o (.inr (some (.int y.1), a, y.2))) args s 0 0 (va_A (xw q k a z o) s.heap.size)) (F0 m 116 ls []) := by
  obtain ⟨hx, hb, hml, hr, hlocks, hown, hno, hG⟩ := C
  have hK := hG.1
  have hE := hG.2.1
  have hA : ∀ u, s.heap.size ≤ u → va_A (xw q k a z o) s.heap.size u := fun u h => Or.inr h
  unfold g_X5_offer_116 at hf
  refine lv_aload_n hx hb dX5_offer_116 rfl (lv_at hl 0 rfl) ?_
  refine lv_dup hx hb dX5_offer_117 rfl ?_
  refine va_get (D := D) (ci := 5) (v := .int (b.2 2)) (C := RX5) (T := TX5) (N := 19) hx hb (hwX5 hE) (fun _ h => h) hown hK hP 23 rfl rfl 12 (by decide) (hE _ fl_X5_108 rfl _) (fun _ h9 => h9) rfl dX5_offer_118 ?_
  refine lv_iconst (v := 1) hx hb dX5_offer_121 (by decide) ?_
  refine lv_iadd hx hb dX5_offer_122 ?_
  refine va_put (D := D) (ci := 5) (v := .int ((b.2 2) + 1)) (ty := .int) (C := RX5) (T := TX5) (N := 19) hx hb (hwX5 hE) (fun _ h => h) tyX5 tyX5_ok nmX5 hown hK hP hD hS 23 rfl rfl 12 (by decide) (hE _ fl_X5_108 rfl _) (fun _ h9 => h9) rfl (by decide +kernel) rfl rfl (Nat.le_of_ble_eq_true rfl) dX5_offer_123 (fun H locs hP hD hS => ?_)
  rw [xw_n23_12] at hP hD
  exact t_X5_offer_126 ⟨hx, hb, hml, hr, hlocks, hown, hno, hG⟩ hP hD hS  (lv_sub hl [0] rfl) hf
noncomputable def g_X5_offer_106  (b : xT)  : Option (Int32 × xT) := (if xin (b.2 2) 40 = true then g_X5_offer_116  (xs b 13 (b.2 2).toNatClampNeg (vp_nar .boolean 1))  else none)
set_option maxHeartbeats 4000000 in
set_option maxRecDepth 100000 in
theorem t_X5_offer_106 {p : Program} {l : Launch} {e : Env} {s : State} {m : MethodId} {args : Array Value} {below : List Frame} {meth : Method} {c : Code} {D : va_G} {q : Nat → Nat} {k : Nat → ClassId} {a b : xT} {o : Nat → Int64} {z : xT} {y : Int32 × xT} (C : xCx p s m meth c cX5_offer 4 (some .int) RX5 D k) {H : Heap} {locs : List Loc} (hP : va_P D vwCl (xw q k a b o) H) (hD : va_D (va_A (xw q k a z o) s.heap.size) (xw q k a b o)) (hS : va_S (va_A (xw q k a z o) s.heap.size) s.heap H locs)  {ls : Array Slot} (hl : lv_has ls 4 [(0, .ref (q 23))]) (hf : g_X5_offer_106  b  = some y) : W p l e r_X5_offer s m args below meth c H locs 0 0 (xMQ below (xQm D q k a z o (.inr (some (.int y.1), a, y.2))) args s 0 0 (va_A (xw q k a z o) s.heap.size)) (F0 m 106 ls []) := by
  obtain ⟨hx, hb, hml, hr, hlocks, hown, hno, hG⟩ := C
  have hK := hG.1
  have hE := hG.2.1
  have hA : ∀ u, s.heap.size ≤ u → va_A (xw q k a z o) s.heap.size u := fun u h => Or.inr h
  unfold g_X5_offer_106 at hf
  refine lv_aload_n hx hb dX5_offer_106 rfl (lv_at hl 0 rfl) ?_
  refine va_get (D := D) (ci := 5) (v := .ref (q 37)) (C := RX5) (T := TX5) (N := 19) hx hb (hwX5 hE) (fun _ h => h) hown hK hP 23 rfl rfl 16 (by decide) (hE _ fl_X5_50 rfl _) (fun _ h9 => h9) rfl dX5_offer_107 ?_
  refine lv_aload_n hx hb dX5_offer_110 rfl (lv_at hl 0 rfl) ?_
  refine va_get (D := D) (ci := 5) (v := .int (b.2 2)) (C := RX5) (T := TX5) (N := 19) hx hb (hwX5 hE) (fun _ h => h) hown hK hP 23 rfl rfl 12 (by decide) (hE _ fl_X5_108 rfl _) (fun _ h9 => h9) rfl dX5_offer_111 ?_
  refine lv_iconst (v := 1) hx hb dX5_offer_114 (by decide) ?_
  obtain ⟨hin, hf⟩ := xguard hf
  refine va_zast hx hb hK hP hD hS 37 1 rfl rfl hin dX5_offer_115 (fun H locs hP hD hS => ?_)
  rw [xw_s37] at hP hD
  exact t_X5_offer_116 ⟨hx, hb, hml, hr, hlocks, hown, hno, hG⟩ hP hD hS  (lv_sub hl [0] rfl) hf
noncomputable def g_X5_offer_96  (b : xT) (v3 : Int32) : Option (Int32 × xT) := (if xin (b.2 2) 40 = true then g_X5_offer_106  (xs b 12 (b.2 2).toNatClampNeg v3)  else none)
set_option maxHeartbeats 4000000 in
set_option maxRecDepth 100000 in
theorem t_X5_offer_96 {p : Program} {l : Launch} {e : Env} {s : State} {m : MethodId} {args : Array Value} {below : List Frame} {meth : Method} {c : Code} {D : va_G} {q : Nat → Nat} {k : Nat → ClassId} {a b : xT} {o : Nat → Int64} {z : xT} {y : Int32 × xT} (C : xCx p s m meth c cX5_offer 4 (some .int) RX5 D k) {H : Heap} {locs : List Loc} (hP : va_P D vwCl (xw q k a b o) H) (hD : va_D (va_A (xw q k a z o) s.heap.size) (xw q k a b o)) (hS : va_S (va_A (xw q k a z o) s.heap.size) s.heap H locs)  {v3 : Int32} {ls : Array Slot} (hl : lv_has ls 4 [(0, .ref (q 23)), (3, .int v3)]) (hf : g_X5_offer_96  b v3 = some y) : W p l e r_X5_offer s m args below meth c H locs 0 0 (xMQ below (xQm D q k a z o (.inr (some (.int y.1), a, y.2))) args s 0 0 (va_A (xw q k a z o) s.heap.size)) (F0 m 96 ls []) := by
  obtain ⟨hx, hb, hml, hr, hlocks, hown, hno, hG⟩ := C
  have hK := hG.1
  have hE := hG.2.1
  have hA : ∀ u, s.heap.size ≤ u → va_A (xw q k a z o) s.heap.size u := fun u h => Or.inr h
  unfold g_X5_offer_96 at hf
  refine lv_aload_n hx hb dX5_offer_96 rfl (lv_at hl 0 rfl) ?_
  refine va_get (D := D) (ci := 5) (v := .ref (q 36)) (C := RX5) (T := TX5) (N := 19) hx hb (hwX5 hE) (fun _ h => h) hown hK hP 23 rfl rfl 15 (by decide) (hE _ fl_X5_47 rfl _) (fun _ h9 => h9) rfl dX5_offer_97 ?_
  refine lv_aload_n hx hb dX5_offer_100 rfl (lv_at hl 0 rfl) ?_
  refine va_get (D := D) (ci := 5) (v := .int (b.2 2)) (C := RX5) (T := TX5) (N := 19) hx hb (hwX5 hE) (fun _ h => h) hown hK hP 23 rfl rfl 12 (by decide) (hE _ fl_X5_108 rfl _) (fun _ h9 => h9) rfl dX5_offer_101 ?_
  refine lv_iload_n hx hb dX5_offer_104 rfl (lv_at hl 1 rfl) ?_
  obtain ⟨hin, hf⟩ := xguard hf
  refine va_iast hx hb hK hP hD hS 36 0 rfl rfl hin dX5_offer_105 (fun H locs hP hD hS => ?_)
  rw [xw_s36] at hP hD
  exact t_X5_offer_106 ⟨hx, hb, hml, hr, hlocks, hown, hno, hG⟩ hP hD hS  (lv_sub hl [0] rfl) hf
noncomputable def g_X5_offer_86  (b : xT) (v2 : Int32) (v3 : Int32) : Option (Int32 × xT) := (if xin (b.2 2) 40 = true then g_X5_offer_96  (xs b 11 (b.2 2).toNatClampNeg v2) v3 else none)
set_option maxHeartbeats 4000000 in
set_option maxRecDepth 100000 in
theorem t_X5_offer_86 {p : Program} {l : Launch} {e : Env} {s : State} {m : MethodId} {args : Array Value} {below : List Frame} {meth : Method} {c : Code} {D : va_G} {q : Nat → Nat} {k : Nat → ClassId} {a b : xT} {o : Nat → Int64} {z : xT} {y : Int32 × xT} (C : xCx p s m meth c cX5_offer 4 (some .int) RX5 D k) {H : Heap} {locs : List Loc} (hP : va_P D vwCl (xw q k a b o) H) (hD : va_D (va_A (xw q k a z o) s.heap.size) (xw q k a b o)) (hS : va_S (va_A (xw q k a z o) s.heap.size) s.heap H locs)  {v2 v3 : Int32} {ls : Array Slot} (hl : lv_has ls 4 [(0, .ref (q 23)), (2, .int v2), (3, .int v3)]) (hf : g_X5_offer_86  b v2 v3 = some y) : W p l e r_X5_offer s m args below meth c H locs 0 0 (xMQ below (xQm D q k a z o (.inr (some (.int y.1), a, y.2))) args s 0 0 (va_A (xw q k a z o) s.heap.size)) (F0 m 86 ls []) := by
  obtain ⟨hx, hb, hml, hr, hlocks, hown, hno, hG⟩ := C
  have hK := hG.1
  have hE := hG.2.1
  have hA : ∀ u, s.heap.size ≤ u → va_A (xw q k a z o) s.heap.size u := fun u h => Or.inr h
  unfold g_X5_offer_86 at hf
  refine lv_aload_n hx hb dX5_offer_86 rfl (lv_at hl 0 rfl) ?_
  refine va_get (D := D) (ci := 5) (v := .ref (q 35)) (C := RX5) (T := TX5) (N := 19) hx hb (hwX5 hE) (fun _ h => h) hown hK hP 23 rfl rfl 14 (by decide) (hE _ fl_X5_44 rfl _) (fun _ h9 => h9) rfl dX5_offer_87 ?_
  refine lv_aload_n hx hb dX5_offer_90 rfl (lv_at hl 0 rfl) ?_
  refine va_get (D := D) (ci := 5) (v := .int (b.2 2)) (C := RX5) (T := TX5) (N := 19) hx hb (hwX5 hE) (fun _ h => h) hown hK hP 23 rfl rfl 12 (by decide) (hE _ fl_X5_108 rfl _) (fun _ h9 => h9) rfl dX5_offer_91 ?_
  refine lv_iload_n hx hb dX5_offer_94 rfl (lv_at hl 1 rfl) ?_
  obtain ⟨hin, hf⟩ := xguard hf
  refine va_iast hx hb hK hP hD hS 35 0 rfl rfl hin dX5_offer_95 (fun H locs hP hD hS => ?_)
  rw [xw_s35] at hP hD
  exact t_X5_offer_96 ⟨hx, hb, hml, hr, hlocks, hown, hno, hG⟩ hP hD hS  (lv_sub hl [0, 2] rfl) hf
noncomputable def g_X5_offer_67  (b : xT) (v1 : Int32) (v2 : Int32) (v3 : Int32) : Option (Int32 × xT) := (if (b.2 0) ≤ 0 then (if xin (b.2 2) 40 = true then g_X5_offer_86  (xs b 10 (b.2 2).toNatClampNeg v1) v2 v3 else none) else some (0, b))
set_option maxHeartbeats 4000000 in
set_option maxRecDepth 100000 in
theorem t_X5_offer_67 {p : Program} {l : Launch} {e : Env} {s : State} {m : MethodId} {args : Array Value} {below : List Frame} {meth : Method} {c : Code} {D : va_G} {q : Nat → Nat} {k : Nat → ClassId} {a b : xT} {o : Nat → Int64} {z : xT} {y : Int32 × xT} (C : xCx p s m meth c cX5_offer 4 (some .int) RX5 D k) {H : Heap} {locs : List Loc} (hP : va_P D vwCl (xw q k a b o) H) (hD : va_D (va_A (xw q k a z o) s.heap.size) (xw q k a b o)) (hS : va_S (va_A (xw q k a z o) s.heap.size) s.heap H locs)  {v1 v2 v3 : Int32} {ls : Array Slot} (hl : lv_has ls 4 [(0, .ref (q 23)), (1, .int v1), (2, .int v2), (3, .int v3)]) (hf : g_X5_offer_67  b v1 v2 v3 = some y) : W p l e r_X5_offer s m args below meth c H locs 0 0 (xMQ below (xQm D q k a z o (.inr (some (.int y.1), a, y.2))) args s 0 0 (va_A (xw q k a z o) s.heap.size)) (F0 m 67 ls []) := by
  obtain ⟨hx, hb, hml, hr, hlocks, hown, hno, hG⟩ := C
  have hK := hG.1
  have hE := hG.2.1
  have hA : ∀ u, s.heap.size ≤ u → va_A (xw q k a z o) s.heap.size u := fun u h => Or.inr h
  unfold g_X5_offer_67 at hf
  refine lv_aload_n hx hb dX5_offer_67 rfl (lv_at hl 0 rfl) ?_
  refine va_get (D := D) (ci := 5) (v := .int (b.2 0)) (C := RX5) (T := TX5) (N := 19) hx hb (hwX5 hE) (fun _ h => h) hown hK hP 23 rfl rfl 0 (by decide) (hE _ fl_X5_56 rfl _) (fun _ h9 => h9) rfl dX5_offer_68 ?_
  refine lv_if_le hx hb dX5_offer_71 rfl (fun hc => ?_) (fun hc => ?_)
  · rw [if_pos hc] at hf
    refine lv_aload_n hx hb dX5_offer_76 rfl (lv_at hl 0 rfl) ?_
    refine va_get (D := D) (ci := 5) (v := .ref (q 34)) (C := RX5) (T := TX5) (N := 19) hx hb (hwX5 hE) (fun _ h => h) hown hK hP 23 rfl rfl 13 (by decide) (hE _ fl_X5_41 rfl _) (fun _ h9 => h9) rfl dX5_offer_77 ?_
    refine lv_aload_n hx hb dX5_offer_80 rfl (lv_at hl 0 rfl) ?_
    refine va_get (D := D) (ci := 5) (v := .int (b.2 2)) (C := RX5) (T := TX5) (N := 19) hx hb (hwX5 hE) (fun _ h => h) hown hK hP 23 rfl rfl 12 (by decide) (hE _ fl_X5_108 rfl _) (fun _ h9 => h9) rfl dX5_offer_81 ?_
    refine lv_iload_n hx hb dX5_offer_84 rfl (lv_at hl 1 rfl) ?_
    obtain ⟨hin, hf⟩ := xguard hf
    refine va_iast hx hb hK hP hD hS 34 0 rfl rfl hin dX5_offer_85 (fun H locs hP hD hS => ?_)
    rw [xw_s34] at hP hD
    exact t_X5_offer_86 ⟨hx, hb, hml, hr, hlocks, hown, hno, hG⟩ hP hD hS  (lv_sub hl [0, 2, 3] rfl) hf
  · rw [if_neg hc] at hf
    refine lv_iconst (v := 0) hx hb dX5_offer_74 (by decide) ?_
    cases hf
    exact xretm_i hx hb hr hlocks hP hS dX5_offer_75
noncomputable def g_X5_offer_64  (b : xT) (v1 : Int32) (v2 : Int32) (v3 : Int32) (s1 : Int32) : Option (Int32 × xT) := g_X5_offer_67  (xn b 0 s1) v1 v2 v3
set_option maxHeartbeats 4000000 in
set_option maxRecDepth 100000 in
theorem t_X5_offer_64 {p : Program} {l : Launch} {e : Env} {s : State} {m : MethodId} {args : Array Value} {below : List Frame} {meth : Method} {c : Code} {D : va_G} {q : Nat → Nat} {k : Nat → ClassId} {a b : xT} {o : Nat → Int64} {z : xT} {y : Int32 × xT} (C : xCx p s m meth c cX5_offer 4 (some .int) RX5 D k) {H : Heap} {locs : List Loc} (hP : va_P D vwCl (xw q k a b o) H) (hD : va_D (va_A (xw q k a z o) s.heap.size) (xw q k a b o)) (hS : va_S (va_A (xw q k a z o) s.heap.size) s.heap H locs)  {v1 v2 v3 s1 : Int32} {ls : Array Slot} (hl : lv_has ls 4 [(0, .ref (q 23)), (1, .int v1), (2, .int v2), (3, .int v3)]) (hf : g_X5_offer_64  b v1 v2 v3 s1 = some y) : W p l e r_X5_offer s m args below meth c H locs 0 0 (xMQ below (xQm D q k a z o (.inr (some (.int y.1), a, y.2))) args s 0 0 (va_A (xw q k a z o) s.heap.size)) (F0 m 64 ls [.int s1, .ref (q 23)]) := by
  obtain ⟨hx, hb, hml, hr, hlocks, hown, hno, hG⟩ := C
  have hK := hG.1
  have hE := hG.2.1
  have hA : ∀ u, s.heap.size ≤ u → va_A (xw q k a z o) s.heap.size u := fun u h => Or.inr h
  unfold g_X5_offer_64 at hf
  refine va_put (D := D) (ci := 5) (v := .int s1) (ty := .int) (C := RX5) (T := TX5) (N := 19) hx hb (hwX5 hE) (fun _ h => h) tyX5 tyX5_ok nmX5 hown hK hP hD hS 23 rfl rfl 0 (by decide) (hE _ fl_X5_56 rfl _) (fun _ h9 => h9) rfl (by decide +kernel) rfl rfl (Nat.le_of_ble_eq_true rfl) dX5_offer_64 (fun H locs hP hD hS => ?_)
  rw [xw_n23_0] at hP hD
  exact t_X5_offer_67 ⟨hx, hb, hml, hr, hlocks, hown, hno, hG⟩ hP hD hS  (lv_sub hl [0, 1, 2, 3] rfl) hf
noncomputable def g_X5_offer_16  (b : xT) (v1 : Int32) (v2 : Int32) (v3 : Int32) : Option (Int32 × xT) := g_X5_offer_64  b v1 v2 v3 1
set_option maxHeartbeats 4000000 in
set_option maxRecDepth 100000 in
theorem t_X5_offer_16 {p : Program} {l : Launch} {e : Env} {s : State} {m : MethodId} {args : Array Value} {below : List Frame} {meth : Method} {c : Code} {D : va_G} {q : Nat → Nat} {k : Nat → ClassId} {a b : xT} {o : Nat → Int64} {z : xT} {y : Int32 × xT} (C : xCx p s m meth c cX5_offer 4 (some .int) RX5 D k) {H : Heap} {locs : List Loc} (hP : va_P D vwCl (xw q k a b o) H) (hD : va_D (va_A (xw q k a z o) s.heap.size) (xw q k a b o)) (hS : va_S (va_A (xw q k a z o) s.heap.size) s.heap H locs)  {v1 v2 v3 : Int32} {ls : Array Slot} (hl : lv_has ls 4 [(0, .ref (q 23)), (1, .int v1), (2, .int v2), (3, .int v3)]) (hf : g_X5_offer_16  b v1 v2 v3 = some y) : W p l e r_X5_offer s m args below meth c H locs 0 0 (xMQ below (xQm D q k a z o (.inr (some (.int y.1), a, y.2))) args s 0 0 (va_A (xw q k a z o) s.heap.size)) (F0 m 16 ls [.ref (q 23)]) := by
  obtain ⟨hx, hb, hml, hr, hlocks, hown, hno, hG⟩ := C
  have hK := hG.1
  have hE := hG.2.1
  have hA : ∀ u, s.heap.size ≤ u → va_A (xw q k a z o) s.heap.size u := fun u h => Or.inr h
  unfold g_X5_offer_16 at hf
  refine lv_iconst (v := 1) hx hb dX5_offer_16 (by decide) ?_
  refine lv_goto hx hb dX5_offer_17 rfl ?_
  exact t_X5_offer_64 ⟨hx, hb, hml, hr, hlocks, hown, hno, hG⟩ hP hD hS  (lv_sub hl [0, 1, 2, 3] rfl) hf
noncomputable def g_X5_offer_36  (b : xT) (v1 : Int32) (v2 : Int32) (v3 : Int32) : Option (Int32 × xT) := g_X5_offer_64  b v1 v2 v3 2
set_option maxHeartbeats 4000000 in
set_option maxRecDepth 100000 in
theorem t_X5_offer_36 {p : Program} {l : Launch} {e : Env} {s : State} {m : MethodId} {args : Array Value} {below : List Frame} {meth : Method} {c : Code} {D : va_G} {q : Nat → Nat} {k : Nat → ClassId} {a b : xT} {o : Nat → Int64} {z : xT} {y : Int32 × xT} (C : xCx p s m meth c cX5_offer 4 (some .int) RX5 D k) {H : Heap} {locs : List Loc} (hP : va_P D vwCl (xw q k a b o) H) (hD : va_D (va_A (xw q k a z o) s.heap.size) (xw q k a b o)) (hS : va_S (va_A (xw q k a z o) s.heap.size) s.heap H locs)  {v1 v2 v3 : Int32} {ls : Array Slot} (hl : lv_has ls 4 [(0, .ref (q 23)), (1, .int v1), (2, .int v2), (3, .int v3)]) (hf : g_X5_offer_36  b v1 v2 v3 = some y) : W p l e r_X5_offer s m args below meth c H locs 0 0 (xMQ below (xQm D q k a z o (.inr (some (.int y.1), a, y.2))) args s 0 0 (va_A (xw q k a z o) s.heap.size)) (F0 m 36 ls [.ref (q 23)]) := by
  obtain ⟨hx, hb, hml, hr, hlocks, hown, hno, hG⟩ := C
  have hK := hG.1
  have hE := hG.2.1
  have hA : ∀ u, s.heap.size ≤ u → va_A (xw q k a z o) s.heap.size u := fun u h => Or.inr h
  unfold g_X5_offer_36 at hf
  refine lv_iconst (v := 2) hx hb dX5_offer_36 (by decide) ?_
  refine lv_goto hx hb dX5_offer_37 rfl ?_
  exact t_X5_offer_64 ⟨hx, hb, hml, hr, hlocks, hown, hno, hG⟩ hP hD hS  (lv_sub hl [0, 1, 2, 3] rfl) hf
noncomputable def g_X5_offer_59  (b : xT) (v1 : Int32) (v2 : Int32) (v3 : Int32) : Option (Int32 × xT) := g_X5_offer_64  b v1 v2 v3 3
set_option maxHeartbeats 4000000 in
set_option maxRecDepth 100000 in
theorem t_X5_offer_59 {p : Program} {l : Launch} {e : Env} {s : State} {m : MethodId} {args : Array Value} {below : List Frame} {meth : Method} {c : Code} {D : va_G} {q : Nat → Nat} {k : Nat → ClassId} {a b : xT} {o : Nat → Int64} {z : xT} {y : Int32 × xT} (C : xCx p s m meth c cX5_offer 4 (some .int) RX5 D k) {H : Heap} {locs : List Loc} (hP : va_P D vwCl (xw q k a b o) H) (hD : va_D (va_A (xw q k a z o) s.heap.size) (xw q k a b o)) (hS : va_S (va_A (xw q k a z o) s.heap.size) s.heap H locs)  {v1 v2 v3 : Int32} {ls : Array Slot} (hl : lv_has ls 4 [(0, .ref (q 23)), (1, .int v1), (2, .int v2), (3, .int v3)]) (hf : g_X5_offer_59  b v1 v2 v3 = some y) : W p l e r_X5_offer s m args below meth c H locs 0 0 (xMQ below (xQm D q k a z o (.inr (some (.int y.1), a, y.2))) args s 0 0 (va_A (xw q k a z o) s.heap.size)) (F0 m 59 ls [.ref (q 23)]) := by
  obtain ⟨hx, hb, hml, hr, hlocks, hown, hno, hG⟩ := C
  have hK := hG.1
  have hE := hG.2.1
  have hA : ∀ u, s.heap.size ≤ u → va_A (xw q k a z o) s.heap.size u := fun u h => Or.inr h
  unfold g_X5_offer_59 at hf
  refine lv_iconst (v := 3) hx hb dX5_offer_59 (by decide) ?_
  refine lv_goto hx hb dX5_offer_60 rfl ?_
  exact t_X5_offer_64 ⟨hx, hb, hml, hr, hlocks, hown, hno, hG⟩ hP hD hS  (lv_sub hl [0, 1, 2, 3] rfl) hf
noncomputable def g_X5_offer_0  (b : xT) (v1 : Int32) (v2 : Int32) (v3 : Int32) : Option (Int32 × xT) := ((f_X5_within b v1 0 7).bind fun r5 => (if r5 = 0 then g_X5_offer_16  b v1 v2 v3 else (if v2 = v3 then g_X5_offer_16  b v1 v2 v3 else ((f_X5_isSlot b v2).bind fun r22 => (if r22 = 0 then g_X5_offer_36  b v1 v2 v3 else ((f_X5_isSlot b v3).bind fun r30 => (if r30 = 0 then g_X5_offer_36  b v1 v2 v3 else (if xin v2 240 = true then (if (b.1 1 v2.toNatClampNeg) = v1 then (if (b.2 2) = 40 then g_X5_offer_59  b v1 v2 v3 else g_X5_offer_64  b v1 v2 v3 0) else g_X5_offer_59  b v1 v2 v3) else none))))))))
set_option maxHeartbeats 4000000 in
set_option maxRecDepth 100000 in
theorem t_X5_offer_0 {p : Program} {l : Launch} {e : Env} {s : State} {m : MethodId} {args : Array Value} {below : List Frame} {meth : Method} {c : Code} {D : va_G} {q : Nat → Nat} {k : Nat → ClassId} {a b : xT} {o : Nat → Int64} {z : xT} {y : Int32 × xT} (C : xCx p s m meth c cX5_offer 4 (some .int) RX5 D k) {H : Heap} {locs : List Loc} (hP : va_P D vwCl (xw q k a b o) H) (hD : va_D (va_A (xw q k a z o) s.heap.size) (xw q k a b o)) (hS : va_S (va_A (xw q k a z o) s.heap.size) s.heap H locs)  {v1 v2 v3 : Int32} {ls : Array Slot} (hl : lv_has ls 4 [(0, .ref (q 23)), (1, .int v1), (2, .int v2), (3, .int v3)]) (hf : g_X5_offer_0  b v1 v2 v3 = some y) : W p l e r_X5_offer s m args below meth c H locs 0 0 (xMQ below (xQm D q k a z o (.inr (some (.int y.1), a, y.2))) args s 0 0 (va_A (xw q k a z o) s.heap.size)) (F0 m 0 ls []) := by
  obtain ⟨hx, hb, hml, hr, hlocks, hown, hno, hG⟩ := C
  have hK := hG.1
  have hE := hG.2.1
  have hA : ∀ u, s.heap.size ≤ u → va_A (xw q k a z o) s.heap.size u := fun u h => Or.inr h
  unfold g_X5_offer_0 at hf
  refine lv_aload_n hx hb dX5_offer_0 rfl (lv_at hl 0 rfl) ?_
  refine lv_iload_n hx hb dX5_offer_1 rfl (lv_at hl 1 rfl) ?_
  refine lv_iconst (v := 0) hx hb dX5_offer_2 (by decide) ?_
  refine lv_bipush (v := 7) hx hb dX5_offer_3 (by decide) ?_
  obtain ⟨r5, hN, hf⟩ := xbind hf
  refine xgo_r (v := some (.int r5)) (xrunS (As := [.int v1, .int 0, .int 7]) (rest := [.ref (q 23)]) (xfixm fx_X5_within hx hb hml hown (by decide) (by decide) (by decide) (by decide)) hE ml_X5_84 wt_X5_within wc_X5_within wn_X5 (c_X5_within l D q k a b o v1 0 7 _ hN) (xpre hP hD hG) rfl rfl hl.1 rfl (lv_room (Nat.le_of_ble_eq_true rfl)) dX5_offer_5) ?_
  refine lv_if_eq hx hb dX5_offer_8 rfl (fun hc => ?_) (fun hc => ?_)
  · rw [if_pos hc] at hf
    exact t_X5_offer_16 ⟨hx, hb, hml, hr, hlocks, hown, hno, hG⟩ hP hD hS  (lv_sub hl [0, 1, 2, 3] rfl) hf
  · rw [if_neg hc] at hf
    refine lv_iload_n hx hb dX5_offer_11 rfl (lv_at hl 2 rfl) ?_
    refine lv_iload_n hx hb dX5_offer_12 rfl (lv_at hl 3 rfl) ?_
    refine lv_icmp_ne hx hb dX5_offer_13 rfl (fun hc => ?_) (fun hc => ?_)
    · rw [if_neg hc] at hf
      refine lv_aload_n hx hb dX5_offer_20 rfl (lv_at hl 0 rfl) ?_
      refine lv_iload_n hx hb dX5_offer_21 rfl (lv_at hl 2 rfl) ?_
      obtain ⟨r22, hN, hf⟩ := xbind hf
      refine xgo_r (v := some (.int r22)) (xrunV (C := RX5) (As := [.int v2]) (rest := [.ref (q 23)]) (xfixm fx_X5_isSlot hx hb hml hown (by decide) (by decide) (by decide) (by decide)) hE ml_X5_94 wi_X5_isSlot wz_X5_isSlot wc_X5_isSlot wn_X5 (c_X5_isSlot l D q k a b o v2 _ hN) (va_recv (q := (RX5, TX5, 19)) (ci := 5) (q0 := 23) hK hP rfl rfl) (xpre hP hD hG) rfl rfl hl.1 rfl (lv_room (Nat.le_of_ble_eq_true rfl)) dX5_offer_22) ?_
      refine lv_if_eq hx hb dX5_offer_25 rfl (fun hc => ?_) (fun hc => ?_)
      · rw [if_pos hc] at hf
        exact t_X5_offer_36 ⟨hx, hb, hml, hr, hlocks, hown, hno, hG⟩ hP hD hS  (lv_sub hl [0, 1, 2, 3] rfl) hf
      · rw [if_neg hc] at hf
        refine lv_aload_n hx hb dX5_offer_28 rfl (lv_at hl 0 rfl) ?_
        refine lv_iload_n hx hb dX5_offer_29 rfl (lv_at hl 3 rfl) ?_
        obtain ⟨r30, hN, hf⟩ := xbind hf
        refine xgo_r (v := some (.int r30)) (xrunV (C := RX5) (As := [.int v3]) (rest := [.ref (q 23)]) (xfixm fx_X5_isSlot hx hb hml hown (by decide) (by decide) (by decide) (by decide)) hE ml_X5_94 wi_X5_isSlot wz_X5_isSlot wc_X5_isSlot wn_X5 (c_X5_isSlot l D q k a b o v3 _ hN) (va_recv (q := (RX5, TX5, 19)) (ci := 5) (q0 := 23) hK hP rfl rfl) (xpre hP hD hG) rfl rfl hl.1 rfl (lv_room (Nat.le_of_ble_eq_true rfl)) dX5_offer_30) ?_
        refine lv_if_ne hx hb dX5_offer_33 rfl (fun hc => ?_) (fun hc => ?_)
        · rw [if_neg hc] at hf
          refine lv_aload_n hx hb dX5_offer_40 rfl (lv_at hl 0 rfl) ?_
          refine va_get (D := D) (ci := 5) (v := .ref (q 25)) (C := RX5) (T := TX5) (N := 19) hx hb (hwX5 hE) (fun _ h => h) hown hK hP 23 rfl rfl 2 (by decide) (hE _ fl_X5_13 rfl _) (fun _ h9 => h9) rfl dX5_offer_41 ?_
          refine lv_iload_n hx hb dX5_offer_44 rfl (lv_at hl 2 rfl) ?_
          obtain ⟨hin, hf⟩ := xguard hf
          refine va_iald hx hb hK hP 25 0 rfl rfl hin dX5_offer_45 ?_
          refine lv_iload_n hx hb dX5_offer_46 rfl (lv_at hl 1 rfl) ?_
          refine lv_icmp_ne hx hb dX5_offer_47 rfl (fun hc => ?_) (fun hc => ?_)
          · rw [if_neg hc] at hf
            exact t_X5_offer_59 ⟨hx, hb, hml, hr, hlocks, hown, hno, hG⟩ hP hD hS  (lv_sub hl [0, 1, 2, 3] rfl) hf
          · rw [if_pos hc] at hf
            refine lv_aload_n hx hb dX5_offer_50 rfl (lv_at hl 0 rfl) ?_
            refine va_get (D := D) (ci := 5) (v := .int (b.2 2)) (C := RX5) (T := TX5) (N := 19) hx hb (hwX5 hE) (fun _ h => h) hown hK hP 23 rfl rfl 12 (by decide) (hE _ fl_X5_108 rfl _) (fun _ h9 => h9) rfl dX5_offer_51 ?_
            refine lv_bipush (v := 40) hx hb dX5_offer_54 (by decide) ?_
            refine lv_icmp_ne hx hb dX5_offer_56 rfl (fun hc => ?_) (fun hc => ?_)
            · rw [if_neg hc] at hf
              refine lv_iconst (v := 0) hx hb dX5_offer_63 (by decide) ?_
              exact t_X5_offer_64 ⟨hx, hb, hml, hr, hlocks, hown, hno, hG⟩ hP hD hS  (lv_sub hl [0, 1, 2, 3] rfl) hf
            · rw [if_pos hc] at hf
              exact t_X5_offer_59 ⟨hx, hb, hml, hr, hlocks, hown, hno, hG⟩ hP hD hS  (lv_sub hl [0, 1, 2, 3] rfl) hf
        · rw [if_pos hc] at hf
          exact t_X5_offer_36 ⟨hx, hb, hml, hr, hlocks, hown, hno, hG⟩ hP hD hS  (lv_sub hl [0, 1, 2, 3] rfl) hf
    · rw [if_pos hc] at hf
      exact t_X5_offer_16 ⟨hx, hb, hml, hr, hlocks, hown, hno, hG⟩ hP hD hS  (lv_sub hl [0, 1, 2, 3] rfl) hf
noncomputable def f_X5_offer (b : xT) (v1 : Int32) (v2 : Int32) (v3 : Int32) : Option (Int32 × xT) := g_X5_offer_0 b v1 v2 v3
set_option maxHeartbeats 4000000 in
set_option maxRecDepth 100000 in
theorem c_X5_offer (l : Launch) (D : va_G) (q : Nat → Nat) (k : Nat → ClassId) (sz : Nat) (a b : xT) (o : Nat → Int64) (v1 : Int32) (v2 : Int32) (v3 : Int32) (y : Int32 × xT) (hf : f_X5_offer b v1 v2 v3 = some y) : xMet l yX5_offer (.code yX5_offer cX5_offer 4 (some .int)) r_X5_offer (xPcm D q k sz a b o [.ref (q 23), .int v1, .int v2, .int v3]) (xQm D q k a b o (.inr (some (.int y.1), a, y.2))) 0 0 (va_A (xw q k a b o) sz) := by
  refine xMet.ofW (by decide) ?_
  intro p e s m args below meth c hx hb hml hr hlocks hnm hme hno hv
  obtain ⟨rfl, hsz, hP, hD, hG⟩ := hv
  subst hsz
  have hown : s.vm.findClass RX5 = some m.cls := findClass_of_methodNamed hnm
  have hl := lv_entry ([.ref (q 23), .int v1, .int v2, .int v3]) (n := 4) (Nat.le_of_ble_eq_true rfl)
  rw [lg_entry_eq]
  generalize (lg_sl ([.ref (q 23), .int v1, .int v2, .int v3]) ++ List.replicate (4 - (lg_sl ([.ref (q 23), .int v1, .int v2, .int v3])).length) Slot.unset).toArray = ls at hl ⊢
  have hl : lv_has ls 4 [(0, .ref (q 23)), (1, .int v1), (2, .int v2), (3, .int v3)] := hl
  have hD := hD.self (sz := s.heap.size)
  exact t_X5_offer_0 ⟨hx, hb, hml, hr, hlocks, hown, hno, hG⟩ hP hD va_S.rf hl hf
abbrev r_X5_owned : Room := { frames := 1, cells := 0, slots := 0, locals := 22 }
noncomputable def g_X5_owned_70  (b : xT) (v2 : Int32) : Option (Int32 × xT) := some (v2, b)
set_option maxHeartbeats 4000000 in
set_option maxRecDepth 100000 in
theorem t_X5_owned_70 {p : Program} {l : Launch} {e : Env} {s : State} {m : MethodId} {args : Array Value} {below : List Frame} {meth : Method} {c : Code} {D : va_G} {q : Nat → Nat} {k : Nat → ClassId} {a b : xT} {o : Nat → Int64} {z : xT} {y : Int32 × xT} (C : xCx p s m meth c cX5_owned 4 (some .int) RX5 D k) {H : Heap} {locs : List Loc} (hP : va_P D vwCl (xw q k a b o) H) (hD : va_D (va_A (xw q k a z o) s.heap.size) (xw q k a b o)) (hS : va_S (va_A (xw q k a z o) s.heap.size) s.heap H locs)  {v2 : Int32} {ls : Array Slot} (hl : lv_has ls 4 [(2, .int v2)]) (hf : g_X5_owned_70  b v2 = some y) : W p l e r_X5_owned s m args below meth c H locs 0 0 (xMQ below (xQm D q k a z o (.inr (some (.int y.1), a, y.2))) args s 0 0 (va_A (xw q k a z o) s.heap.size)) (F0 m 70 ls []) := by
  obtain ⟨hx, hb, hml, hr, hlocks, hown, hno, hG⟩ := C
  have hK := hG.1
  have hE := hG.2.1
  have hA : ∀ u, s.heap.size ≤ u → va_A (xw q k a z o) s.heap.size u := fun u h => Or.inr h
  unfold g_X5_owned_70 at hf
  refine lv_iload_n hx hb dX5_owned_70 rfl (lv_at hl 0 rfl) ?_
  cases hf
  exact xretm_i hx hb hr hlocks hP hS dX5_owned_71
noncomputable def g_X5_owned_63 (K23 : xT → Int32 → Int32 → Int32 → Option (Int32 × xT)) (b : xT) (v1 : Int32) (v3 : Int32) (s0 : Int32) : Option (Int32 × xT) := K23 b v1 s0 (v3 + 1)
set_option maxHeartbeats 4000000 in
set_option maxRecDepth 100000 in
theorem t_X5_owned_63 {p : Program} {l : Launch} {e : Env} {s : State} {m : MethodId} {args : Array Value} {below : List Frame} {meth : Method} {c : Code} {D : va_G} {q : Nat → Nat} {k : Nat → ClassId} {a b : xT} {o : Nat → Int64} {z : xT} {y : Int32 × xT} (C : xCx p s m meth c cX5_owned 4 (some .int) RX5 D k) {H : Heap} {locs : List Loc} (hP : va_P D vwCl (xw q k a b o) H) (hD : va_D (va_A (xw q k a z o) s.heap.size) (xw q k a b o)) (hS : va_S (va_A (xw q k a z o) s.heap.size) s.heap H locs) {K23 : xT → Int32 → Int32 → Int32 → Option (Int32 × xT)} (hK23 : ∀ {b : xT} {v1 v2 v3 : Int32} {ls : Array Slot} {H : Heap} {locs : List Loc}, va_P D vwCl (xw q k a b o) H → va_D (va_A (xw q k a z o) s.heap.size) (xw q k a b o) → va_S (va_A (xw q k a z o) s.heap.size) s.heap H locs → lv_has ls 4 [(0, .ref (q 23)), (1, .int v1), (2, .int v2), (3, .int v3)] → K23 b v1 v2 v3 = some y → W p l e r_X5_owned s m args below meth c H locs 0 0 (xMQ below (xQm D q k a z o (.inr (some (.int y.1), a, y.2))) args s 0 0 (va_A (xw q k a z o) s.heap.size)) (F0 m 23 ls [])) {v1 v3 s0 : Int32} {ls : Array Slot} (hl : lv_has ls 4 [(0, .ref (q 23)), (1, .int v1), (3, .int v3)]) (hf : g_X5_owned_63 K23 b v1 v3 s0 = some y) : W p l e r_X5_owned s m args below meth c H locs 0 0 (xMQ below (xQm D q k a z o (.inr (some (.int y.1), a, y.2))) args s 0 0 (va_A (xw q k a z o) s.heap.size)) (F0 m 63 ls [.int s0]) := by
  obtain ⟨hx, hb, hml, hr, hlocks, hown, hno, hG⟩ := C
  have hK := hG.1
  have hE := hG.2.1
  have hA : ∀ u, s.heap.size ≤ u → va_A (xw q k a z o) s.heap.size u := fun u h => Or.inr h
  unfold g_X5_owned_63 at hf
  refine lv_istore_n (lv' := [(2, .int s0), (0, .ref (q 23)), (1, .int v1), (3, .int v3)]) hx hb dX5_owned_63 rfl hl (by decide) rfl (fun ls hl => ?_)
  refine lv_iinc (k := 3) (v := v3 + 1) (lv' := [(3, .int (v3 + 1)), (2, .int s0), (0, .ref (q 23)), (1, .int v1)]) hx hb dX5_owned_64 hl rfl (xinc (by decide) _) (by decide) rfl (fun ls hl => ?_)
  refine lv_goto hx hb dX5_owned_67 rfl ?_
  exact hK23 hP hD hS (lv_sub hl [2, 3, 1, 0] rfl) hf
noncomputable def g_X5_owned_62 (K23 : xT → Int32 → Int32 → Int32 → Option (Int32 × xT)) (b : xT) (v1 : Int32) (v2 : Int32) (v3 : Int32) : Option (Int32 × xT) := g_X5_owned_63 K23 b v1 v3 v2
set_option maxHeartbeats 4000000 in
set_option maxRecDepth 100000 in
theorem t_X5_owned_62 {p : Program} {l : Launch} {e : Env} {s : State} {m : MethodId} {args : Array Value} {below : List Frame} {meth : Method} {c : Code} {D : va_G} {q : Nat → Nat} {k : Nat → ClassId} {a b : xT} {o : Nat → Int64} {z : xT} {y : Int32 × xT} (C : xCx p s m meth c cX5_owned 4 (some .int) RX5 D k) {H : Heap} {locs : List Loc} (hP : va_P D vwCl (xw q k a b o) H) (hD : va_D (va_A (xw q k a z o) s.heap.size) (xw q k a b o)) (hS : va_S (va_A (xw q k a z o) s.heap.size) s.heap H locs) {K23 : xT → Int32 → Int32 → Int32 → Option (Int32 × xT)} (hK23 : ∀ {b : xT} {v1 v2 v3 : Int32} {ls : Array Slot} {H : Heap} {locs : List Loc}, va_P D vwCl (xw q k a b o) H → va_D (va_A (xw q k a z o) s.heap.size) (xw q k a b o) → va_S (va_A (xw q k a z o) s.heap.size) s.heap H locs → lv_has ls 4 [(0, .ref (q 23)), (1, .int v1), (2, .int v2), (3, .int v3)] → K23 b v1 v2 v3 = some y → W p l e r_X5_owned s m args below meth c H locs 0 0 (xMQ below (xQm D q k a z o (.inr (some (.int y.1), a, y.2))) args s 0 0 (va_A (xw q k a z o) s.heap.size)) (F0 m 23 ls [])) {v1 v2 v3 : Int32} {ls : Array Slot} (hl : lv_has ls 4 [(0, .ref (q 23)), (1, .int v1), (2, .int v2), (3, .int v3)]) (hf : g_X5_owned_62 K23 b v1 v2 v3 = some y) : W p l e r_X5_owned s m args below meth c H locs 0 0 (xMQ below (xQm D q k a z o (.inr (some (.int y.1), a, y.2))) args s 0 0 (va_A (xw q k a z o) s.heap.size)) (F0 m 62 ls []) := by
  obtain ⟨hx, hb, hml, hr, hlocks, hown, hno, hG⟩ := C
  have hK := hG.1
  have hE := hG.2.1
  have hA : ∀ u, s.heap.size ≤ u → va_A (xw q k a z o) s.heap.size u := fun u h => Or.inr h
  unfold g_X5_owned_62 at hf
  refine lv_iload_n hx hb dX5_owned_62 rfl (lv_at hl 2 rfl) ?_
  exact t_X5_owned_63 ⟨hx, hb, hml, hr, hlocks, hown, hno, hG⟩ hP hD hS hK23 (lv_sub hl [0, 1, 3] rfl) hf
noncomputable def g_X5_owned_23s (K23 : xT → Int32 → Int32 → Int32 → Option (Int32 × xT)) (b : xT) (v1 : Int32) (v2 : Int32) (v3 : Int32) : Option (Int32 × xT) := (if 240 ≤ v3 then g_X5_owned_70  b v2 else (if (b.2 0) = 0 then (if xin v3 240 = true then (if (b.1 0 v3.toNatClampNeg) = 0 then g_X5_owned_62 K23 b v1 v2 v3 else (if xin v3 240 = true then (if (b.1 1 v3.toNatClampNeg) = v1 then g_X5_owned_63 K23 b v1 v3 (v2 + 1) else g_X5_owned_62 K23 b v1 v2 v3) else none)) else none) else g_X5_owned_70  b v2))
set_option maxHeartbeats 4000000 in
set_option maxRecDepth 100000 in
theorem t_X5_owned_23s {p : Program} {l : Launch} {e : Env} {s : State} {m : MethodId} {args : Array Value} {below : List Frame} {meth : Method} {c : Code} {D : va_G} {q : Nat → Nat} {k : Nat → ClassId} {a b : xT} {o : Nat → Int64} {z : xT} {y : Int32 × xT} (C : xCx p s m meth c cX5_owned 4 (some .int) RX5 D k) {H : Heap} {locs : List Loc} (hP : va_P D vwCl (xw q k a b o) H) (hD : va_D (va_A (xw q k a z o) s.heap.size) (xw q k a b o)) (hS : va_S (va_A (xw q k a z o) s.heap.size) s.heap H locs) {K23 : xT → Int32 → Int32 → Int32 → Option (Int32 × xT)} (hK23 : ∀ {b : xT} {v1 v2 v3 : Int32} {ls : Array Slot} {H : Heap} {locs : List Loc}, va_P D vwCl (xw q k a b o) H → va_D (va_A (xw q k a z o) s.heap.size) (xw q k a b o) → va_S (va_A (xw q k a z o) s.heap.size) s.heap H locs → lv_has ls 4 [(0, .ref (q 23)), (1, .int v1), (2, .int v2), (3, .int v3)] → K23 b v1 v2 v3 = some y → W p l e r_X5_owned s m args below meth c H locs 0 0 (xMQ below (xQm D q k a z o (.inr (some (.int y.1), a, y.2))) args s 0 0 (va_A (xw q k a z o) s.heap.size)) (F0 m 23 ls [])) {v1 v2 v3 : Int32} {ls : Array Slot} (hl : lv_has ls 4 [(0, .ref (q 23)), (1, .int v1), (2, .int v2), (3, .int v3)]) (hf : g_X5_owned_23s K23 b v1 v2 v3 = some y) : W p l e r_X5_owned s m args below meth c H locs 0 0 (xMQ below (xQm D q k a z o (.inr (some (.int y.1), a, y.2))) args s 0 0 (va_A (xw q k a z o) s.heap.size)) (F0 m 23 ls []) := by
  obtain ⟨hx, hb, hml, hr, hlocks, hown, hno, hG⟩ := C
  have hK := hG.1
  have hE := hG.2.1
  have hA : ∀ u, s.heap.size ≤ u → va_A (xw q k a z o) s.heap.size u := fun u h => Or.inr h
  unfold g_X5_owned_23s at hf
  refine lv_iload_n hx hb dX5_owned_23 rfl (lv_at hl 3 rfl) ?_
  refine lv_sipush (v := 240) hx hb dX5_owned_24 (by decide) ?_
  refine lv_icmp_ge hx hb dX5_owned_27 rfl (fun hc => ?_) (fun hc => ?_)
  · rw [if_pos hc] at hf
    exact t_X5_owned_70 ⟨hx, hb, hml, hr, hlocks, hown, hno, hG⟩ hP hD hS  (lv_sub hl [2] rfl) hf
  · rw [if_neg hc] at hf
    refine lv_aload_n hx hb dX5_owned_30 rfl (lv_at hl 0 rfl) ?_
    refine va_get (D := D) (ci := 5) (v := .int (b.2 0)) (C := RX5) (T := TX5) (N := 19) hx hb (hwX5 hE) (fun _ h => h) hown hK hP 23 rfl rfl 0 (by decide) (hE _ fl_X5_56 rfl _) (fun _ h9 => h9) rfl dX5_owned_31 ?_
    refine lv_if_ne hx hb dX5_owned_34 rfl (fun hc => ?_) (fun hc => ?_)
    · rw [if_neg hc] at hf
      exact t_X5_owned_70 ⟨hx, hb, hml, hr, hlocks, hown, hno, hG⟩ hP hD hS  (lv_sub hl [2] rfl) hf
    · rw [if_pos hc] at hf
      refine lv_aload_n hx hb dX5_owned_37 rfl (lv_at hl 0 rfl) ?_
      refine va_get (D := D) (ci := 5) (v := .ref (q 24)) (C := RX5) (T := TX5) (N := 19) hx hb (hwX5 hE) (fun _ h => h) hown hK hP 23 rfl rfl 1 (by decide) (hE _ fl_X5_7 rfl _) (fun _ h9 => h9) rfl dX5_owned_38 ?_
      refine lv_iload_n hx hb dX5_owned_41 rfl (lv_at hl 3 rfl) ?_
      obtain ⟨hin, hf⟩ := xguard hf
      refine va_zald hx hb hK hP 24 1 rfl rfl hin dX5_owned_42 ?_
      refine lv_if_eq hx hb dX5_owned_43 rfl (fun hc => ?_) (fun hc => ?_)
      · rw [if_pos hc] at hf
        exact t_X5_owned_62 ⟨hx, hb, hml, hr, hlocks, hown, hno, hG⟩ hP hD hS hK23 (lv_sub hl [0, 1, 2, 3] rfl) hf
      · rw [if_neg hc] at hf
        refine lv_aload_n hx hb dX5_owned_46 rfl (lv_at hl 0 rfl) ?_
        refine va_get (D := D) (ci := 5) (v := .ref (q 25)) (C := RX5) (T := TX5) (N := 19) hx hb (hwX5 hE) (fun _ h => h) hown hK hP 23 rfl rfl 2 (by decide) (hE _ fl_X5_13 rfl _) (fun _ h9 => h9) rfl dX5_owned_47 ?_
        refine lv_iload_n hx hb dX5_owned_50 rfl (lv_at hl 3 rfl) ?_
        obtain ⟨hin, hf⟩ := xguard hf
        refine va_iald hx hb hK hP 25 0 rfl rfl hin dX5_owned_51 ?_
        refine lv_iload_n hx hb dX5_owned_52 rfl (lv_at hl 1 rfl) ?_
        refine lv_icmp_ne hx hb dX5_owned_53 rfl (fun hc => ?_) (fun hc => ?_)
        · rw [if_neg hc] at hf
          exact t_X5_owned_62 ⟨hx, hb, hml, hr, hlocks, hown, hno, hG⟩ hP hD hS hK23 (lv_sub hl [0, 1, 2, 3] rfl) hf
        · rw [if_pos hc] at hf
          refine lv_iload_n hx hb dX5_owned_56 rfl (lv_at hl 2 rfl) ?_
          refine lv_iconst (v := 1) hx hb dX5_owned_57 (by decide) ?_
          refine lv_iadd hx hb dX5_owned_58 ?_
          refine lv_goto hx hb dX5_owned_59 rfl ?_
          exact t_X5_owned_63 ⟨hx, hb, hml, hr, hlocks, hown, hno, hG⟩ hP hD hS hK23 (lv_sub hl [0, 1, 3] rfl) hf
noncomputable def g_X5_owned_23  : Nat → xT → Int32 → Int32 → Int32 → Option (Int32 × xT) := fun n => Nat.rec (motive := fun _ => xT → Int32 → Int32 → Int32 → Option (Int32 × xT)) (fun _ _ _ _ => none) (fun _ ih => g_X5_owned_23s ih) n
set_option maxHeartbeats 4000000 in
theorem t_X5_owned_23 {p : Program} {l : Launch} {e : Env} {s : State} {m : MethodId} {args : Array Value} {below : List Frame} {meth : Method} {c : Code} {D : va_G} {q : Nat → Nat} {k : Nat → ClassId} {a : xT} {o : Nat → Int64} {z : xT} {y : Int32 × xT} (C : xCx p s m meth c cX5_owned 4 (some .int) RX5 D k)  (n : Nat) : ∀ {b : xT} {v1 v2 v3 : Int32} {ls : Array Slot} {H : Heap} {locs : List Loc}, va_P D vwCl (xw q k a b o) H → va_D (va_A (xw q k a z o) s.heap.size) (xw q k a b o) → va_S (va_A (xw q k a z o) s.heap.size) s.heap H locs → lv_has ls 4 [(0, .ref (q 23)), (1, .int v1), (2, .int v2), (3, .int v3)] → g_X5_owned_23  n b v1 v2 v3 = some y → W p l e r_X5_owned s m args below meth c H locs 0 0 (xMQ below (xQm D q k a z o (.inr (some (.int y.1), a, y.2))) args s 0 0 (va_A (xw q k a z o) s.heap.size)) (F0 m 23 ls []) := by
  induction n with
  | zero =>
    intro _ _ _ _ _ _ _ _ _ _ _ hf
    have h9 : (none : Option (Int32 × xT)) = some y := hf
    cases h9
  | succ n ih =>
    intro _ _ _ _ _ _ _ hP hD hS hl hf
    exact t_X5_owned_23s C hP hD hS (K23 := g_X5_owned_23  n) ih hl hf
noncomputable def g_X5_owned_19  (b : xT) (v1 : Int32) : Option (Int32 × xT) := g_X5_owned_23  1000 b v1 0 0
set_option maxHeartbeats 4000000 in
set_option maxRecDepth 100000 in
theorem t_X5_owned_19 {p : Program} {l : Launch} {e : Env} {s : State} {m : MethodId} {args : Array Value} {below : List Frame} {meth : Method} {c : Code} {D : va_G} {q : Nat → Nat} {k : Nat → ClassId} {a b : xT} {o : Nat → Int64} {z : xT} {y : Int32 × xT} (C : xCx p s m meth c cX5_owned 4 (some .int) RX5 D k) {H : Heap} {locs : List Loc} (hP : va_P D vwCl (xw q k a b o) H) (hD : va_D (va_A (xw q k a z o) s.heap.size) (xw q k a b o)) (hS : va_S (va_A (xw q k a z o) s.heap.size) s.heap H locs)  {v1 : Int32} {ls : Array Slot} (hl : lv_has ls 4 [(0, .ref (q 23)), (1, .int v1)]) (hf : g_X5_owned_19  b v1 = some y) : W p l e r_X5_owned s m args below meth c H locs 0 0 (xMQ below (xQm D q k a z o (.inr (some (.int y.1), a, y.2))) args s 0 0 (va_A (xw q k a z o) s.heap.size)) (F0 m 19 ls []) := by
  obtain ⟨hx, hb, hml, hr, hlocks, hown, hno, hG⟩ := C
  have hK := hG.1
  have hE := hG.2.1
  have hA : ∀ u, s.heap.size ≤ u → va_A (xw q k a z o) s.heap.size u := fun u h => Or.inr h
  unfold g_X5_owned_19 at hf
  refine lv_iconst (v := 0) hx hb dX5_owned_19 (by decide) ?_
  refine lv_istore_n (lv' := [(2, .int 0), (0, .ref (q 23)), (1, .int v1)]) hx hb dX5_owned_20 rfl hl (by decide) rfl (fun ls hl => ?_)
  refine lv_iconst (v := 0) hx hb dX5_owned_21 (by decide) ?_
  refine lv_istore_n (lv' := [(3, .int 0), (2, .int 0), (0, .ref (q 23)), (1, .int v1)]) hx hb dX5_owned_22 rfl hl (by decide) rfl (fun ls hl => ?_)
  exact t_X5_owned_23 ⟨hx, hb, hml, hr, hlocks, hown, hno, hG⟩  1000 hP hD hS (lv_sub hl [2, 3, 1, 0] rfl) hf
noncomputable def g_X5_owned_16  (b : xT) (v1 : Int32) (s1 : Int32) : Option (Int32 × xT) := g_X5_owned_19  (xn b 0 s1) v1
set_option maxHeartbeats 4000000 in
set_option maxRecDepth 100000 in
theorem t_X5_owned_16 {p : Program} {l : Launch} {e : Env} {s : State} {m : MethodId} {args : Array Value} {below : List Frame} {meth : Method} {c : Code} {D : va_G} {q : Nat → Nat} {k : Nat → ClassId} {a b : xT} {o : Nat → Int64} {z : xT} {y : Int32 × xT} (C : xCx p s m meth c cX5_owned 4 (some .int) RX5 D k) {H : Heap} {locs : List Loc} (hP : va_P D vwCl (xw q k a b o) H) (hD : va_D (va_A (xw q k a z o) s.heap.size) (xw q k a b o)) (hS : va_S (va_A (xw q k a z o) s.heap.size) s.heap H locs)  {v1 s1 : Int32} {ls : Array Slot} (hl : lv_has ls 4 [(0, .ref (q 23)), (1, .int v1)]) (hf : g_X5_owned_16  b v1 s1 = some y) : W p l e r_X5_owned s m args below meth c H locs 0 0 (xMQ below (xQm D q k a z o (.inr (some (.int y.1), a, y.2))) args s 0 0 (va_A (xw q k a z o) s.heap.size)) (F0 m 16 ls [.int s1, .ref (q 23)]) := by
  obtain ⟨hx, hb, hml, hr, hlocks, hown, hno, hG⟩ := C
  have hK := hG.1
  have hE := hG.2.1
  have hA : ∀ u, s.heap.size ≤ u → va_A (xw q k a z o) s.heap.size u := fun u h => Or.inr h
  unfold g_X5_owned_16 at hf
  refine va_put (D := D) (ci := 5) (v := .int s1) (ty := .int) (C := RX5) (T := TX5) (N := 19) hx hb (hwX5 hE) (fun _ h => h) tyX5 tyX5_ok nmX5 hown hK hP hD hS 23 rfl rfl 0 (by decide) (hE _ fl_X5_56 rfl _) (fun _ h9 => h9) rfl (by decide +kernel) rfl rfl (Nat.le_of_ble_eq_true rfl) dX5_owned_16 (fun H locs hP hD hS => ?_)
  rw [xw_n23_0] at hP hD
  exact t_X5_owned_19 ⟨hx, hb, hml, hr, hlocks, hown, hno, hG⟩ hP hD hS  (lv_sub hl [0, 1] rfl) hf
noncomputable def g_X5_owned_0  (b : xT) (v1 : Int32) : Option (Int32 × xT) := ((f_X5_within b v1 (-1) 7).bind fun r5 => (if r5 = 0 then g_X5_owned_16  b v1 1 else g_X5_owned_16  b v1 0))
set_option maxHeartbeats 4000000 in
set_option maxRecDepth 100000 in
theorem t_X5_owned_0 {p : Program} {l : Launch} {e : Env} {s : State} {m : MethodId} {args : Array Value} {below : List Frame} {meth : Method} {c : Code} {D : va_G} {q : Nat → Nat} {k : Nat → ClassId} {a b : xT} {o : Nat → Int64} {z : xT} {y : Int32 × xT} (C : xCx p s m meth c cX5_owned 4 (some .int) RX5 D k) {H : Heap} {locs : List Loc} (hP : va_P D vwCl (xw q k a b o) H) (hD : va_D (va_A (xw q k a z o) s.heap.size) (xw q k a b o)) (hS : va_S (va_A (xw q k a z o) s.heap.size) s.heap H locs)  {v1 : Int32} {ls : Array Slot} (hl : lv_has ls 4 [(0, .ref (q 23)), (1, .int v1)]) (hf : g_X5_owned_0  b v1 = some y) : W p l e r_X5_owned s m args below meth c H locs 0 0 (xMQ below (xQm D q k a z o (.inr (some (.int y.1), a, y.2))) args s 0 0 (va_A (xw q k a z o) s.heap.size)) (F0 m 0 ls []) := by
  obtain ⟨hx, hb, hml, hr, hlocks, hown, hno, hG⟩ := C
  have hK := hG.1
  have hE := hG.2.1
  have hA : ∀ u, s.heap.size ≤ u → va_A (xw q k a z o) s.heap.size u := fun u h => Or.inr h
  unfold g_X5_owned_0 at hf
  refine lv_aload_n hx hb dX5_owned_0 rfl (lv_at hl 0 rfl) ?_
  refine lv_iload_n hx hb dX5_owned_1 rfl (lv_at hl 1 rfl) ?_
  refine lv_iconst (v := -1) hx hb dX5_owned_2 (by decide) ?_
  refine lv_bipush (v := 7) hx hb dX5_owned_3 (by decide) ?_
  obtain ⟨r5, hN, hf⟩ := xbind hf
  refine xgo_r (v := some (.int r5)) (xrunS (As := [.int v1, .int (-1), .int 7]) (rest := [.ref (q 23)]) (xfixm fx_X5_within hx hb hml hown (by decide) (by decide) (by decide) (by decide)) hE ml_X5_84 wt_X5_within wc_X5_within wn_X5 (c_X5_within l D q k a b o v1 (-1) 7 _ hN) (xpre hP hD hG) rfl rfl hl.1 rfl (lv_room (Nat.le_of_ble_eq_true rfl)) dX5_owned_5) ?_
  refine lv_if_eq hx hb dX5_owned_8 rfl (fun hc => ?_) (fun hc => ?_)
  · rw [if_pos hc] at hf
    refine lv_iconst (v := 1) hx hb dX5_owned_15 (by decide) ?_
    exact t_X5_owned_16 ⟨hx, hb, hml, hr, hlocks, hown, hno, hG⟩ hP hD hS  (lv_sub hl [0, 1] rfl) hf
  · rw [if_neg hc] at hf
    refine lv_iconst (v := 0) hx hb dX5_owned_11 (by decide) ?_
    refine lv_goto hx hb dX5_owned_12 rfl ?_
    exact t_X5_owned_16 ⟨hx, hb, hml, hr, hlocks, hown, hno, hG⟩ hP hD hS  (lv_sub hl [0, 1] rfl) hf
noncomputable def f_X5_owned (b : xT) (v1 : Int32) : Option (Int32 × xT) := g_X5_owned_0 b v1
set_option maxHeartbeats 4000000 in
set_option maxRecDepth 100000 in
theorem c_X5_owned (l : Launch) (D : va_G) (q : Nat → Nat) (k : Nat → ClassId) (sz : Nat) (a b : xT) (o : Nat → Int64) (v1 : Int32) (y : Int32 × xT) (hf : f_X5_owned b v1 = some y) : xMet l yX5_owned (.code yX5_owned cX5_owned 4 (some .int)) r_X5_owned (xPcm D q k sz a b o [.ref (q 23), .int v1]) (xQm D q k a b o (.inr (some (.int y.1), a, y.2))) 0 0 (va_A (xw q k a b o) sz) := by
  refine xMet.ofW (by decide) ?_
  intro p e s m args below meth c hx hb hml hr hlocks hnm hme hno hv
  obtain ⟨rfl, hsz, hP, hD, hG⟩ := hv
  subst hsz
  have hown : s.vm.findClass RX5 = some m.cls := findClass_of_methodNamed hnm
  have hl := lv_entry ([.ref (q 23), .int v1]) (n := 4) (Nat.le_of_ble_eq_true rfl)
  rw [lg_entry_eq]
  generalize (lg_sl ([.ref (q 23), .int v1]) ++ List.replicate (4 - (lg_sl ([.ref (q 23), .int v1])).length) Slot.unset).toArray = ls at hl ⊢
  have hl : lv_has ls 4 [(0, .ref (q 23)), (1, .int v1)] := hl
  have hD := hD.self (sz := s.heap.size)
  exact t_X5_owned_0 ⟨hx, hb, hml, hr, hlocks, hown, hno, hG⟩ hP hD va_S.rf hl hf
abbrev r_X5_ownerOf : Room := { frames := 1, cells := 0, slots := 0, locals := 21 }
noncomputable def g_X5_ownerOf_34  (b : xT) (s0 : Int32) : Option (Int32 × xT) := some (s0, b)
set_option maxHeartbeats 4000000 in
set_option maxRecDepth 100000 in
theorem t_X5_ownerOf_34 {p : Program} {l : Launch} {e : Env} {s : State} {m : MethodId} {args : Array Value} {below : List Frame} {meth : Method} {c : Code} {D : va_G} {q : Nat → Nat} {k : Nat → ClassId} {a b : xT} {o : Nat → Int64} {z : xT} {y : Int32 × xT} (C : xCx p s m meth c cX5_ownerOf 2 (some .int) RX5 D k) {H : Heap} {locs : List Loc} (hP : va_P D vwCl (xw q k a b o) H) (hD : va_D (va_A (xw q k a z o) s.heap.size) (xw q k a b o)) (hS : va_S (va_A (xw q k a z o) s.heap.size) s.heap H locs)  {s0 : Int32} {ls : Array Slot} (hl : lv_has ls 2 []) (hf : g_X5_ownerOf_34  b s0 = some y) : W p l e r_X5_ownerOf s m args below meth c H locs 0 0 (xMQ below (xQm D q k a z o (.inr (some (.int y.1), a, y.2))) args s 0 0 (va_A (xw q k a z o) s.heap.size)) (F0 m 34 ls [.int s0]) := by
  obtain ⟨hx, hb, hml, hr, hlocks, hown, hno, hG⟩ := C
  have hK := hG.1
  have hE := hG.2.1
  have hA : ∀ u, s.heap.size ≤ u → va_A (xw q k a z o) s.heap.size u := fun u h => Or.inr h
  unfold g_X5_ownerOf_34 at hf
  cases hf
  exact xretm_i hx hb hr hlocks hP hS dX5_ownerOf_34
noncomputable def g_X5_ownerOf_17  (b : xT) (v1 : Int32) : Option (Int32 × xT) := (if (b.2 0) ≤ 0 then (if xin v1 240 = true then g_X5_ownerOf_34  b (b.1 1 v1.toNatClampNeg) else none) else g_X5_ownerOf_34  b 0)
set_option maxHeartbeats 4000000 in
set_option maxRecDepth 100000 in
theorem t_X5_ownerOf_17 {p : Program} {l : Launch} {e : Env} {s : State} {m : MethodId} {args : Array Value} {below : List Frame} {meth : Method} {c : Code} {D : va_G} {q : Nat → Nat} {k : Nat → ClassId} {a b : xT} {o : Nat → Int64} {z : xT} {y : Int32 × xT} (C : xCx p s m meth c cX5_ownerOf 2 (some .int) RX5 D k) {H : Heap} {locs : List Loc} (hP : va_P D vwCl (xw q k a b o) H) (hD : va_D (va_A (xw q k a z o) s.heap.size) (xw q k a b o)) (hS : va_S (va_A (xw q k a z o) s.heap.size) s.heap H locs)  {v1 : Int32} {ls : Array Slot} (hl : lv_has ls 2 [(0, .ref (q 23)), (1, .int v1)]) (hf : g_X5_ownerOf_17  b v1 = some y) : W p l e r_X5_ownerOf s m args below meth c H locs 0 0 (xMQ below (xQm D q k a z o (.inr (some (.int y.1), a, y.2))) args s 0 0 (va_A (xw q k a z o) s.heap.size)) (F0 m 17 ls []) := by
  obtain ⟨hx, hb, hml, hr, hlocks, hown, hno, hG⟩ := C
  have hK := hG.1
  have hE := hG.2.1
  have hA : ∀ u, s.heap.size ≤ u → va_A (xw q k a z o) s.heap.size u := fun u h => Or.inr h
  unfold g_X5_ownerOf_17 at hf
  refine lv_aload_n hx hb dX5_ownerOf_17 rfl (lv_at hl 0 rfl) ?_
  refine va_get (D := D) (ci := 5) (v := .int (b.2 0)) (C := RX5) (T := TX5) (N := 19) hx hb (hwX5 hE) (fun _ h => h) hown hK hP 23 rfl rfl 0 (by decide) (hE _ fl_X5_56 rfl _) (fun _ h9 => h9) rfl dX5_ownerOf_18 ?_
  refine lv_if_le hx hb dX5_ownerOf_21 rfl (fun hc => ?_) (fun hc => ?_)
  · rw [if_pos hc] at hf
    refine lv_aload_n hx hb dX5_ownerOf_28 rfl (lv_at hl 0 rfl) ?_
    refine va_get (D := D) (ci := 5) (v := .ref (q 25)) (C := RX5) (T := TX5) (N := 19) hx hb (hwX5 hE) (fun _ h => h) hown hK hP 23 rfl rfl 2 (by decide) (hE _ fl_X5_13 rfl _) (fun _ h9 => h9) rfl dX5_ownerOf_29 ?_
    refine lv_iload_n hx hb dX5_ownerOf_32 rfl (lv_at hl 1 rfl) ?_
    obtain ⟨hin, hf⟩ := xguard hf
    refine va_iald hx hb hK hP 25 0 rfl rfl hin dX5_ownerOf_33 ?_
    exact t_X5_ownerOf_34 ⟨hx, hb, hml, hr, hlocks, hown, hno, hG⟩ hP hD hS  (lv_sub hl [] rfl) hf
  · rw [if_neg hc] at hf
    refine lv_iconst (v := 0) hx hb dX5_ownerOf_24 (by decide) ?_
    refine lv_goto hx hb dX5_ownerOf_25 rfl ?_
    exact t_X5_ownerOf_34 ⟨hx, hb, hml, hr, hlocks, hown, hno, hG⟩ hP hD hS  (lv_sub hl [] rfl) hf
noncomputable def g_X5_ownerOf_14  (b : xT) (v1 : Int32) (s1 : Int32) : Option (Int32 × xT) := g_X5_ownerOf_17  (xn b 0 s1) v1
set_option maxHeartbeats 4000000 in
set_option maxRecDepth 100000 in
theorem t_X5_ownerOf_14 {p : Program} {l : Launch} {e : Env} {s : State} {m : MethodId} {args : Array Value} {below : List Frame} {meth : Method} {c : Code} {D : va_G} {q : Nat → Nat} {k : Nat → ClassId} {a b : xT} {o : Nat → Int64} {z : xT} {y : Int32 × xT} (C : xCx p s m meth c cX5_ownerOf 2 (some .int) RX5 D k) {H : Heap} {locs : List Loc} (hP : va_P D vwCl (xw q k a b o) H) (hD : va_D (va_A (xw q k a z o) s.heap.size) (xw q k a b o)) (hS : va_S (va_A (xw q k a z o) s.heap.size) s.heap H locs)  {v1 s1 : Int32} {ls : Array Slot} (hl : lv_has ls 2 [(0, .ref (q 23)), (1, .int v1)]) (hf : g_X5_ownerOf_14  b v1 s1 = some y) : W p l e r_X5_ownerOf s m args below meth c H locs 0 0 (xMQ below (xQm D q k a z o (.inr (some (.int y.1), a, y.2))) args s 0 0 (va_A (xw q k a z o) s.heap.size)) (F0 m 14 ls [.int s1, .ref (q 23)]) := by
  obtain ⟨hx, hb, hml, hr, hlocks, hown, hno, hG⟩ := C
  have hK := hG.1
  have hE := hG.2.1
  have hA : ∀ u, s.heap.size ≤ u → va_A (xw q k a z o) s.heap.size u := fun u h => Or.inr h
  unfold g_X5_ownerOf_14 at hf
  refine va_put (D := D) (ci := 5) (v := .int s1) (ty := .int) (C := RX5) (T := TX5) (N := 19) hx hb (hwX5 hE) (fun _ h => h) tyX5 tyX5_ok nmX5 hown hK hP hD hS 23 rfl rfl 0 (by decide) (hE _ fl_X5_56 rfl _) (fun _ h9 => h9) rfl (by decide +kernel) rfl rfl (Nat.le_of_ble_eq_true rfl) dX5_ownerOf_14 (fun H locs hP hD hS => ?_)
  rw [xw_n23_0] at hP hD
  exact t_X5_ownerOf_17 ⟨hx, hb, hml, hr, hlocks, hown, hno, hG⟩ hP hD hS  (lv_sub hl [0, 1] rfl) hf
noncomputable def g_X5_ownerOf_0  (b : xT) (v1 : Int32) : Option (Int32 × xT) := ((f_X5_isSlot b v1).bind fun r3 => (if r3 = 0 then g_X5_ownerOf_14  b v1 1 else g_X5_ownerOf_14  b v1 0))
set_option maxHeartbeats 4000000 in
set_option maxRecDepth 100000 in
theorem t_X5_ownerOf_0 {p : Program} {l : Launch} {e : Env} {s : State} {m : MethodId} {args : Array Value} {below : List Frame} {meth : Method} {c : Code} {D : va_G} {q : Nat → Nat} {k : Nat → ClassId} {a b : xT} {o : Nat → Int64} {z : xT} {y : Int32 × xT} (C : xCx p s m meth c cX5_ownerOf 2 (some .int) RX5 D k) {H : Heap} {locs : List Loc} (hP : va_P D vwCl (xw q k a b o) H) (hD : va_D (va_A (xw q k a z o) s.heap.size) (xw q k a b o)) (hS : va_S (va_A (xw q k a z o) s.heap.size) s.heap H locs)  {v1 : Int32} {ls : Array Slot} (hl : lv_has ls 2 [(0, .ref (q 23)), (1, .int v1)]) (hf : g_X5_ownerOf_0  b v1 = some y) : W p l e r_X5_ownerOf s m args below meth c H locs 0 0 (xMQ below (xQm D q k a z o (.inr (some (.int y.1), a, y.2))) args s 0 0 (va_A (xw q k a z o) s.heap.size)) (F0 m 0 ls []) := by
  obtain ⟨hx, hb, hml, hr, hlocks, hown, hno, hG⟩ := C
  have hK := hG.1
  have hE := hG.2.1
  have hA : ∀ u, s.heap.size ≤ u → va_A (xw q k a z o) s.heap.size u := fun u h => Or.inr h
  unfold g_X5_ownerOf_0 at hf
  refine lv_aload_n hx hb dX5_ownerOf_0 rfl (lv_at hl 0 rfl) ?_
  refine lv_aload_n hx hb dX5_ownerOf_1 rfl (lv_at hl 0 rfl) ?_
  refine lv_iload_n hx hb dX5_ownerOf_2 rfl (lv_at hl 1 rfl) ?_
  obtain ⟨r3, hN, hf⟩ := xbind hf
  refine xgo_r (v := some (.int r3)) (xrunV (C := RX5) (As := [.int v1]) (rest := [.ref (q 23)]) (xfixm fx_X5_isSlot hx hb hml hown (by decide) (by decide) (by decide) (by decide)) hE ml_X5_94 wi_X5_isSlot wz_X5_isSlot wc_X5_isSlot wn_X5 (c_X5_isSlot l D q k a b o v1 _ hN) (va_recv (q := (RX5, TX5, 19)) (ci := 5) (q0 := 23) hK hP rfl rfl) (xpre hP hD hG) rfl rfl hl.1 rfl (lv_room (Nat.le_of_ble_eq_true rfl)) dX5_ownerOf_3) ?_
  refine lv_if_eq hx hb dX5_ownerOf_6 rfl (fun hc => ?_) (fun hc => ?_)
  · rw [if_pos hc] at hf
    refine lv_iconst (v := 1) hx hb dX5_ownerOf_13 (by decide) ?_
    exact t_X5_ownerOf_14 ⟨hx, hb, hml, hr, hlocks, hown, hno, hG⟩ hP hD hS  (lv_sub hl [0, 1] rfl) hf
  · rw [if_neg hc] at hf
    refine lv_iconst (v := 0) hx hb dX5_ownerOf_9 (by decide) ?_
    refine lv_goto hx hb dX5_ownerOf_10 rfl ?_
    exact t_X5_ownerOf_14 ⟨hx, hb, hml, hr, hlocks, hown, hno, hG⟩ hP hD hS  (lv_sub hl [0, 1] rfl) hf
noncomputable def f_X5_ownerOf (b : xT) (v1 : Int32) : Option (Int32 × xT) := g_X5_ownerOf_0 b v1
set_option maxHeartbeats 4000000 in
set_option maxRecDepth 100000 in
theorem c_X5_ownerOf (l : Launch) (D : va_G) (q : Nat → Nat) (k : Nat → ClassId) (sz : Nat) (a b : xT) (o : Nat → Int64) (v1 : Int32) (y : Int32 × xT) (hf : f_X5_ownerOf b v1 = some y) : xMet l yX5_ownerOf (.code yX5_ownerOf cX5_ownerOf 2 (some .int)) r_X5_ownerOf (xPcm D q k sz a b o [.ref (q 23), .int v1]) (xQm D q k a b o (.inr (some (.int y.1), a, y.2))) 0 0 (va_A (xw q k a b o) sz) := by
  refine xMet.ofW (by decide) ?_
  intro p e s m args below meth c hx hb hml hr hlocks hnm hme hno hv
  obtain ⟨rfl, hsz, hP, hD, hG⟩ := hv
  subst hsz
  have hown : s.vm.findClass RX5 = some m.cls := findClass_of_methodNamed hnm
  have hl := lv_entry ([.ref (q 23), .int v1]) (n := 2) (Nat.le_of_ble_eq_true rfl)
  rw [lg_entry_eq]
  generalize (lg_sl ([.ref (q 23), .int v1]) ++ List.replicate (2 - (lg_sl ([.ref (q 23), .int v1])).length) Slot.unset).toArray = ls at hl ⊢
  have hl : lv_has ls 2 [(0, .ref (q 23)), (1, .int v1)] := hl
  have hD := hD.self (sz := s.heap.size)
  exact t_X5_ownerOf_0 ⟨hx, hb, hml, hr, hlocks, hown, hno, hG⟩ hP hD va_S.rf hl hf
abbrev r_X5_partner : Room := { frames := 2, cells := 0, slots := 0, locals := 45 }
noncomputable def g_X5_partner_84 (K9 : Int32 → Int32 → Int32 → Option (Int32)) (b : xT) (v1 : Int32) (v3 : Int32) (s0 : Int32) : Option (Int32) := K9 v1 s0 (v3 + (-1))
set_option maxHeartbeats 4000000 in
set_option maxRecDepth 100000 in
theorem t_X5_partner_84 {p : Program} {l : Launch} {e : Env} {s : State} {m : MethodId} {args : Array Value} {below : List Frame} {meth : Method} {c : Code} {D : va_G} {q : Nat → Nat} {k : Nat → ClassId} {a b : xT} {o : Nat → Int64} {y : Int32} (C : xCx p s m meth c cX5_partner 5 (some .int) RX5 D k) (hP : va_P D vwCl (xw q k a b o) s.heap) (hD : va_D (fun _ => True) (xw q k a b o)) {K9 : Int32 → Int32 → Int32 → Option (Int32)} (hK9 : ∀ {v1 v2 v3 : Int32} {ls : Array Slot}, lv_has ls 5 [(0, .ref (q 23)), (1, .int v1), (2, .int v2), (3, .int v3)] → K9 v1 v2 v3 = some y → W p l e r_X5_partner s m args below meth c s.heap [] 0 0 (xMQ below (xQr (.inr (some (.int y)))) args s (xmc (.inr (some (.int y)))) (xms (.inr (some (.int y)))) (fun _ => False)) (F0 m 9 ls [])) {v1 v3 s0 : Int32} {ls : Array Slot} (hl : lv_has ls 5 [(0, .ref (q 23)), (1, .int v1), (3, .int v3)]) (hf : g_X5_partner_84 K9 b v1 v3 s0 = some y) : W p l e r_X5_partner s m args below meth c s.heap [] 0 0 (xMQ below (xQr (.inr (some (.int y)))) args s (xmc (.inr (some (.int y)))) (xms (.inr (some (.int y)))) (fun _ => False)) (F0 m 84 ls [.int s0]) := by
  obtain ⟨hx, hb, hml, hr, hlocks, hown, hno, hG⟩ := C
  have hK := hG.1
  have hE := hG.2.1
  unfold g_X5_partner_84 at hf
  refine lv_istore_n (lv' := [(2, .int s0), (0, .ref (q 23)), (1, .int v1), (3, .int v3)]) hx hb dX5_partner_84 rfl hl (by decide) rfl (fun ls hl => ?_)
  refine lv_iinc (k := 3) (v := v3 + (-1)) (lv' := [(3, .int (v3 + (-1))), (2, .int s0), (0, .ref (q 23)), (1, .int v1)]) hx hb dX5_partner_85 hl rfl (xinc (by decide) _) (by decide) rfl (fun ls hl => ?_)
  refine lv_goto hx hb dX5_partner_88 rfl ?_
  exact hK9 (lv_sub hl [2, 3, 1, 0] rfl) hf
noncomputable def g_X5_partner_83 (K9 : Int32 → Int32 → Int32 → Option (Int32)) (b : xT) (v1 : Int32) (v2 : Int32) (v3 : Int32) : Option (Int32) := g_X5_partner_84 K9 b v1 v3 v2
set_option maxHeartbeats 4000000 in
set_option maxRecDepth 100000 in
theorem t_X5_partner_83 {p : Program} {l : Launch} {e : Env} {s : State} {m : MethodId} {args : Array Value} {below : List Frame} {meth : Method} {c : Code} {D : va_G} {q : Nat → Nat} {k : Nat → ClassId} {a b : xT} {o : Nat → Int64} {y : Int32} (C : xCx p s m meth c cX5_partner 5 (some .int) RX5 D k) (hP : va_P D vwCl (xw q k a b o) s.heap) (hD : va_D (fun _ => True) (xw q k a b o)) {K9 : Int32 → Int32 → Int32 → Option (Int32)} (hK9 : ∀ {v1 v2 v3 : Int32} {ls : Array Slot}, lv_has ls 5 [(0, .ref (q 23)), (1, .int v1), (2, .int v2), (3, .int v3)] → K9 v1 v2 v3 = some y → W p l e r_X5_partner s m args below meth c s.heap [] 0 0 (xMQ below (xQr (.inr (some (.int y)))) args s (xmc (.inr (some (.int y)))) (xms (.inr (some (.int y)))) (fun _ => False)) (F0 m 9 ls [])) {v1 v2 v3 : Int32} {ls : Array Slot} (hl : lv_has ls 5 [(0, .ref (q 23)), (1, .int v1), (2, .int v2), (3, .int v3)]) (hf : g_X5_partner_83 K9 b v1 v2 v3 = some y) : W p l e r_X5_partner s m args below meth c s.heap [] 0 0 (xMQ below (xQr (.inr (some (.int y)))) args s (xmc (.inr (some (.int y)))) (xms (.inr (some (.int y)))) (fun _ => False)) (F0 m 83 ls []) := by
  obtain ⟨hx, hb, hml, hr, hlocks, hown, hno, hG⟩ := C
  have hK := hG.1
  have hE := hG.2.1
  unfold g_X5_partner_83 at hf
  refine lv_iload_n hx hb dX5_partner_83 rfl (lv_at hl 2 rfl) ?_
  exact t_X5_partner_84 ⟨hx, hb, hml, hr, hlocks, hown, hno, hG⟩ hP hD hK9 (lv_sub hl [0, 1, 3] rfl) hf
noncomputable def g_X5_partner_64 (K9 : Int32 → Int32 → Int32 → Option (Int32)) (b : xT) (v1 : Int32) (v2 : Int32) (v3 : Int32) (s0 : Int32) : Option (Int32) := (if s0 = 0 then g_X5_partner_83 K9 b v1 v2 v3 else ((f_X5_isGood b v3).bind fun r73 => (if r73 = 0 then g_X5_partner_83 K9 b v1 v2 v3 else g_X5_partner_84 K9 b v1 v3 v3)))
set_option maxHeartbeats 4000000 in
set_option maxRecDepth 100000 in
theorem t_X5_partner_64 {p : Program} {l : Launch} {e : Env} {s : State} {m : MethodId} {args : Array Value} {below : List Frame} {meth : Method} {c : Code} {D : va_G} {q : Nat → Nat} {k : Nat → ClassId} {a b : xT} {o : Nat → Int64} {y : Int32} (C : xCx p s m meth c cX5_partner 5 (some .int) RX5 D k) (hP : va_P D vwCl (xw q k a b o) s.heap) (hD : va_D (fun _ => True) (xw q k a b o)) {K9 : Int32 → Int32 → Int32 → Option (Int32)} (hK9 : ∀ {v1 v2 v3 : Int32} {ls : Array Slot}, lv_has ls 5 [(0, .ref (q 23)), (1, .int v1), (2, .int v2), (3, .int v3)] → K9 v1 v2 v3 = some y → W p l e r_X5_partner s m args below meth c s.heap [] 0 0 (xMQ below (xQr (.inr (some (.int y)))) args s (xmc (.inr (some (.int y)))) (xms (.inr (some (.int y)))) (fun _ => False)) (F0 m 9 ls [])) {v1 v2 v3 s0 : Int32} {ls : Array Slot} (hl : lv_has ls 5 [(0, .ref (q 23)), (1, .int v1), (2, .int v2), (3, .int v3)]) (hf : g_X5_partner_64 K9 b v1 v2 v3 s0 = some y) : W p l e r_X5_partner s m args below meth c s.heap [] 0 0 (xMQ below (xQr (.inr (some (.int y)))) args s (xmc (.inr (some (.int y)))) (xms (.inr (some (.int y)))) (fun _ => False)) (F0 m 64 ls [.int s0]) := by
  obtain ⟨hx, hb, hml, hr, hlocks, hown, hno, hG⟩ := C
  have hK := hG.1
  have hE := hG.2.1
  unfold g_X5_partner_64 at hf
  refine lv_istore (lv' := [(4, .int s0), (0, .ref (q 23)), (1, .int v1), (2, .int v2), (3, .int v3)]) hx hb dX5_partner_64 hl (by decide) rfl (fun ls hl => ?_)
  refine lv_iload hx hb dX5_partner_66 (lv_at hl 0 rfl) ?_
  refine lv_if_eq hx hb dX5_partner_68 rfl (fun hc => ?_) (fun hc => ?_)
  · rw [if_pos hc] at hf
    exact t_X5_partner_83 ⟨hx, hb, hml, hr, hlocks, hown, hno, hG⟩ hP hD hK9 (lv_sub hl [1, 2, 3, 4] rfl) hf
  · rw [if_neg hc] at hf
    refine lv_aload_n hx hb dX5_partner_71 rfl (lv_at hl 1 rfl) ?_
    refine lv_iload_n hx hb dX5_partner_72 rfl (lv_at hl 4 rfl) ?_
    obtain ⟨r73, hN, hf⟩ := xbind hf
    refine xgo_r (v := some (.int r73)) (xrunV (C := RX5) (As := [.int v3]) (rest := []) (xfixm fx_X5_isGood hx hb hml hown (by decide) (by decide) (by decide) (by decide)) hE ml_X5_111 wi_X5_isGood wz_X5_isGood wc_X5_isGood wn_X5 (c_X5_isGood l D q k a b o v3 _ hN) (va_recv (q := (RX5, TX5, 19)) (ci := 5) (q0 := 23) hK hP rfl rfl) (xpre hP hD hG) rfl rfl hl.1 rfl (lv_room (Nat.le_of_ble_eq_true rfl)) dX5_partner_73) ?_
    refine lv_if_eq hx hb dX5_partner_76 rfl (fun hc => ?_) (fun hc => ?_)
    · rw [if_pos hc] at hf
      exact t_X5_partner_83 ⟨hx, hb, hml, hr, hlocks, hown, hno, hG⟩ hP hD hK9 (lv_sub hl [1, 2, 3, 4] rfl) hf
    · rw [if_neg hc] at hf
      refine lv_iload_n hx hb dX5_partner_79 rfl (lv_at hl 4 rfl) ?_
      refine lv_goto hx hb dX5_partner_80 rfl ?_
      exact t_X5_partner_84 ⟨hx, hb, hml, hr, hlocks, hown, hno, hG⟩ hP hD hK9 (lv_sub hl [1, 2, 4] rfl) hf
noncomputable def g_X5_partner_63 (K9 : Int32 → Int32 → Int32 → Option (Int32)) (b : xT) (v1 : Int32) (v2 : Int32) (v3 : Int32) : Option (Int32) := g_X5_partner_64 K9 b v1 v2 v3 0
set_option maxHeartbeats 4000000 in
set_option maxRecDepth 100000 in
theorem t_X5_partner_63 {p : Program} {l : Launch} {e : Env} {s : State} {m : MethodId} {args : Array Value} {below : List Frame} {meth : Method} {c : Code} {D : va_G} {q : Nat → Nat} {k : Nat → ClassId} {a b : xT} {o : Nat → Int64} {y : Int32} (C : xCx p s m meth c cX5_partner 5 (some .int) RX5 D k) (hP : va_P D vwCl (xw q k a b o) s.heap) (hD : va_D (fun _ => True) (xw q k a b o)) {K9 : Int32 → Int32 → Int32 → Option (Int32)} (hK9 : ∀ {v1 v2 v3 : Int32} {ls : Array Slot}, lv_has ls 5 [(0, .ref (q 23)), (1, .int v1), (2, .int v2), (3, .int v3)] → K9 v1 v2 v3 = some y → W p l e r_X5_partner s m args below meth c s.heap [] 0 0 (xMQ below (xQr (.inr (some (.int y)))) args s (xmc (.inr (some (.int y)))) (xms (.inr (some (.int y)))) (fun _ => False)) (F0 m 9 ls [])) {v1 v2 v3 : Int32} {ls : Array Slot} (hl : lv_has ls 5 [(0, .ref (q 23)), (1, .int v1), (2, .int v2), (3, .int v3)]) (hf : g_X5_partner_63 K9 b v1 v2 v3 = some y) : W p l e r_X5_partner s m args below meth c s.heap [] 0 0 (xMQ below (xQr (.inr (some (.int y)))) args s (xmc (.inr (some (.int y)))) (xms (.inr (some (.int y)))) (fun _ => False)) (F0 m 63 ls []) := by
  obtain ⟨hx, hb, hml, hr, hlocks, hown, hno, hG⟩ := C
  have hK := hG.1
  have hE := hG.2.1
  unfold g_X5_partner_63 at hf
  refine lv_iconst (v := 0) hx hb dX5_partner_63 (by decide) ?_
  exact t_X5_partner_64 ⟨hx, hb, hml, hr, hlocks, hown, hno, hG⟩ hP hD hK9 (lv_sub hl [0, 1, 2, 3] rfl) hf
noncomputable def g_X5_partner_9s (K9 : Int32 → Int32 → Int32 → Option (Int32)) (b : xT) (v1 : Int32) (v2 : Int32) (v3 : Int32) : Option (Int32) := (if v3 ≤ v1 then some v2 else (if xin v3 40 = true then (if xin v1 40 = true then (if (b.1 10 v3.toNatClampNeg) = (b.1 10 v1.toNatClampNeg) then g_X5_partner_63 K9 b v1 v2 v3 else (if xin v3 40 = true then (if xin v1 40 = true then (if (b.1 11 v3.toNatClampNeg) = (b.1 12 v1.toNatClampNeg) then (if xin v3 40 = true then (if xin v1 40 = true then (if (b.1 12 v3.toNatClampNeg) = (b.1 11 v1.toNatClampNeg) then g_X5_partner_64 K9 b v1 v2 v3 1 else g_X5_partner_63 K9 b v1 v2 v3) else none) else none) else g_X5_partner_63 K9 b v1 v2 v3) else none) else none)) else none) else none))
set_option maxHeartbeats 4000000 in
set_option maxRecDepth 100000 in
theorem t_X5_partner_9s {p : Program} {l : Launch} {e : Env} {s : State} {m : MethodId} {args : Array Value} {below : List Frame} {meth : Method} {c : Code} {D : va_G} {q : Nat → Nat} {k : Nat → ClassId} {a b : xT} {o : Nat → Int64} {y : Int32} (C : xCx p s m meth c cX5_partner 5 (some .int) RX5 D k) (hP : va_P D vwCl (xw q k a b o) s.heap) (hD : va_D (fun _ => True) (xw q k a b o)) {K9 : Int32 → Int32 → Int32 → Option (Int32)} (hK9 : ∀ {v1 v2 v3 : Int32} {ls : Array Slot}, lv_has ls 5 [(0, .ref (q 23)), (1, .int v1), (2, .int v2), (3, .int v3)] → K9 v1 v2 v3 = some y → W p l e r_X5_partner s m args below meth c s.heap [] 0 0 (xMQ below (xQr (.inr (some (.int y)))) args s (xmc (.inr (some (.int y)))) (xms (.inr (some (.int y)))) (fun _ => False)) (F0 m 9 ls [])) {v1 v2 v3 : Int32} {ls : Array Slot} (hl : lv_has ls 5 [(0, .ref (q 23)), (1, .int v1), (2, .int v2), (3, .int v3)]) (hf : g_X5_partner_9s K9 b v1 v2 v3 = some y) : W p l e r_X5_partner s m args below meth c s.heap [] 0 0 (xMQ below (xQr (.inr (some (.int y)))) args s (xmc (.inr (some (.int y)))) (xms (.inr (some (.int y)))) (fun _ => False)) (F0 m 9 ls []) := by
  obtain ⟨hx, hb, hml, hr, hlocks, hown, hno, hG⟩ := C
  have hK := hG.1
  have hE := hG.2.1
  unfold g_X5_partner_9s at hf
  refine lv_iload_n hx hb dX5_partner_9 rfl (lv_at hl 3 rfl) ?_
  refine lv_iload_n hx hb dX5_partner_10 rfl (lv_at hl 1 rfl) ?_
  refine lv_icmp_le hx hb dX5_partner_11 rfl (fun hc => ?_) (fun hc => ?_)
  · rw [if_pos hc] at hf
    refine lv_iload_n hx hb dX5_partner_91 rfl (lv_at hl 2 rfl) ?_
    cases hf
    exact xret_i hx hb hr hlocks dX5_partner_92
  · rw [if_neg hc] at hf
    refine lv_aload_n hx hb dX5_partner_14 rfl (lv_at hl 0 rfl) ?_
    refine va_get (D := D) (ci := 5) (v := .ref (q 34)) (C := RX5) (T := TX5) (N := 19) hx hb (hwX5 hE) (fun _ h => h) hown hK hP 23 rfl rfl 13 (by decide) (hE _ fl_X5_41 rfl _) (fun _ h9 => h9) rfl dX5_partner_15 ?_
    refine lv_iload_n hx hb dX5_partner_18 rfl (lv_at hl 3 rfl) ?_
    obtain ⟨hin, hf⟩ := xguard hf
    refine va_iald hx hb hK hP 34 0 rfl rfl hin dX5_partner_19 ?_
    refine lv_aload_n hx hb dX5_partner_20 rfl (lv_at hl 0 rfl) ?_
    refine va_get (D := D) (ci := 5) (v := .ref (q 34)) (C := RX5) (T := TX5) (N := 19) hx hb (hwX5 hE) (fun _ h => h) hown hK hP 23 rfl rfl 13 (by decide) (hE _ fl_X5_41 rfl _) (fun _ h9 => h9) rfl dX5_partner_21 ?_
    refine lv_iload_n hx hb dX5_partner_24 rfl (lv_at hl 1 rfl) ?_
    obtain ⟨hin, hf⟩ := xguard hf
    refine va_iald hx hb hK hP 34 0 rfl rfl hin dX5_partner_25 ?_
    refine lv_icmp_eq hx hb dX5_partner_26 rfl (fun hc => ?_) (fun hc => ?_)
    · rw [if_pos hc] at hf
      exact t_X5_partner_63 ⟨hx, hb, hml, hr, hlocks, hown, hno, hG⟩ hP hD hK9 (lv_sub hl [0, 1, 2, 3] rfl) hf
    · rw [if_neg hc] at hf
      refine lv_aload_n hx hb dX5_partner_29 rfl (lv_at hl 0 rfl) ?_
      refine va_get (D := D) (ci := 5) (v := .ref (q 35)) (C := RX5) (T := TX5) (N := 19) hx hb (hwX5 hE) (fun _ h => h) hown hK hP 23 rfl rfl 14 (by decide) (hE _ fl_X5_44 rfl _) (fun _ h9 => h9) rfl dX5_partner_30 ?_
      refine lv_iload_n hx hb dX5_partner_33 rfl (lv_at hl 3 rfl) ?_
      obtain ⟨hin, hf⟩ := xguard hf
      refine va_iald hx hb hK hP 35 0 rfl rfl hin dX5_partner_34 ?_
      refine lv_aload_n hx hb dX5_partner_35 rfl (lv_at hl 0 rfl) ?_
      refine va_get (D := D) (ci := 5) (v := .ref (q 36)) (C := RX5) (T := TX5) (N := 19) hx hb (hwX5 hE) (fun _ h => h) hown hK hP 23 rfl rfl 15 (by decide) (hE _ fl_X5_47 rfl _) (fun _ h9 => h9) rfl dX5_partner_36 ?_
      refine lv_iload_n hx hb dX5_partner_39 rfl (lv_at hl 1 rfl) ?_
      obtain ⟨hin, hf⟩ := xguard hf
      refine va_iald hx hb hK hP 36 0 rfl rfl hin dX5_partner_40 ?_
      refine lv_icmp_ne hx hb dX5_partner_41 rfl (fun hc => ?_) (fun hc => ?_)
      · rw [if_neg hc] at hf
        exact t_X5_partner_63 ⟨hx, hb, hml, hr, hlocks, hown, hno, hG⟩ hP hD hK9 (lv_sub hl [0, 1, 2, 3] rfl) hf
      · rw [if_pos hc] at hf
        refine lv_aload_n hx hb dX5_partner_44 rfl (lv_at hl 0 rfl) ?_
        refine va_get (D := D) (ci := 5) (v := .ref (q 36)) (C := RX5) (T := TX5) (N := 19) hx hb (hwX5 hE) (fun _ h => h) hown hK hP 23 rfl rfl 15 (by decide) (hE _ fl_X5_47 rfl _) (fun _ h9 => h9) rfl dX5_partner_45 ?_
        refine lv_iload_n hx hb dX5_partner_48 rfl (lv_at hl 3 rfl) ?_
        obtain ⟨hin, hf⟩ := xguard hf
        refine va_iald hx hb hK hP 36 0 rfl rfl hin dX5_partner_49 ?_
        refine lv_aload_n hx hb dX5_partner_50 rfl (lv_at hl 0 rfl) ?_
        refine va_get (D := D) (ci := 5) (v := .ref (q 35)) (C := RX5) (T := TX5) (N := 19) hx hb (hwX5 hE) (fun _ h => h) hown hK hP 23 rfl rfl 14 (by decide) (hE _ fl_X5_44 rfl _) (fun _ h9 => h9) rfl dX5_partner_51 ?_
        refine lv_iload_n hx hb dX5_partner_54 rfl (lv_at hl 1 rfl) ?_
        obtain ⟨hin, hf⟩ := xguard hf
        refine va_iald hx hb hK hP 35 0 rfl rfl hin dX5_partner_55 ?_
        refine lv_icmp_ne hx hb dX5_partner_56 rfl (fun hc => ?_) (fun hc => ?_)
        · rw [if_neg hc] at hf
          exact t_X5_partner_63 ⟨hx, hb, hml, hr, hlocks, hown, hno, hG⟩ hP hD hK9 (lv_sub hl [0, 1, 2, 3] rfl) hf
        · rw [if_pos hc] at hf
          refine lv_iconst (v := 1) hx hb dX5_partner_59 (by decide) ?_
          refine lv_goto hx hb dX5_partner_60 rfl ?_
          exact t_X5_partner_64 ⟨hx, hb, hml, hr, hlocks, hown, hno, hG⟩ hP hD hK9 (lv_sub hl [0, 1, 2, 3] rfl) hf
noncomputable def g_X5_partner_9  (b : xT) : Nat → Int32 → Int32 → Int32 → Option (Int32) := fun n => Nat.rec (motive := fun _ => Int32 → Int32 → Int32 → Option (Int32)) (fun _ _ _ => none) (fun _ ih => g_X5_partner_9s ih b) n
set_option maxHeartbeats 4000000 in
theorem t_X5_partner_9 {p : Program} {l : Launch} {e : Env} {s : State} {m : MethodId} {args : Array Value} {below : List Frame} {meth : Method} {c : Code} {D : va_G} {q : Nat → Nat} {k : Nat → ClassId} {a b : xT} {o : Nat → Int64} {y : Int32} (C : xCx p s m meth c cX5_partner 5 (some .int) RX5 D k) (hP : va_P D vwCl (xw q k a b o) s.heap) (hD : va_D (fun _ => True) (xw q k a b o))  (n : Nat) : ∀ {v1 v2 v3 : Int32} {ls : Array Slot}, lv_has ls 5 [(0, .ref (q 23)), (1, .int v1), (2, .int v2), (3, .int v3)] → g_X5_partner_9  b n v1 v2 v3 = some y → W p l e r_X5_partner s m args below meth c s.heap [] 0 0 (xMQ below (xQr (.inr (some (.int y)))) args s (xmc (.inr (some (.int y)))) (xms (.inr (some (.int y)))) (fun _ => False)) (F0 m 9 ls []) := by
  induction n with
  | zero =>
    intro _ _ _ _ _ hf
    have h9 : (none : Option (Int32)) = some y := hf
    cases h9
  | succ n ih =>
    intro _ _ _ _ hl hf
    exact t_X5_partner_9s C hP hD (K9 := g_X5_partner_9  b n) ih hl hf
noncomputable def g_X5_partner_0  (b : xT) (v1 : Int32) : Option (Int32) := g_X5_partner_9  b 1000 v1 (-1) ((b.2 2) - 1)
set_option maxHeartbeats 4000000 in
set_option maxRecDepth 100000 in
theorem t_X5_partner_0 {p : Program} {l : Launch} {e : Env} {s : State} {m : MethodId} {args : Array Value} {below : List Frame} {meth : Method} {c : Code} {D : va_G} {q : Nat → Nat} {k : Nat → ClassId} {a b : xT} {o : Nat → Int64} {y : Int32} (C : xCx p s m meth c cX5_partner 5 (some .int) RX5 D k) (hP : va_P D vwCl (xw q k a b o) s.heap) (hD : va_D (fun _ => True) (xw q k a b o))  {v1 : Int32} {ls : Array Slot} (hl : lv_has ls 5 [(0, .ref (q 23)), (1, .int v1)]) (hf : g_X5_partner_0  b v1 = some y) : W p l e r_X5_partner s m args below meth c s.heap [] 0 0 (xMQ below (xQr (.inr (some (.int y)))) args s (xmc (.inr (some (.int y)))) (xms (.inr (some (.int y)))) (fun _ => False)) (F0 m 0 ls []) := by
  obtain ⟨hx, hb, hml, hr, hlocks, hown, hno, hG⟩ := C
  have hK := hG.1
  have hE := hG.2.1
  unfold g_X5_partner_0 at hf
  refine lv_iconst (v := -1) hx hb dX5_partner_0 (by decide) ?_
  refine lv_istore_n (lv' := [(2, .int (-1)), (0, .ref (q 23)), (1, .int v1)]) hx hb dX5_partner_1 rfl hl (by decide) rfl (fun ls hl => ?_)
  refine lv_aload_n hx hb dX5_partner_2 rfl (lv_at hl 1 rfl) ?_
  refine va_get (D := D) (ci := 5) (v := .int (b.2 2)) (C := RX5) (T := TX5) (N := 19) hx hb (hwX5 hE) (fun _ h => h) hown hK hP 23 rfl rfl 12 (by decide) (hE _ fl_X5_108 rfl _) (fun _ h9 => h9) rfl dX5_partner_3 ?_
  refine lv_iconst (v := 1) hx hb dX5_partner_6 (by decide) ?_
  refine lv_isub hx hb dX5_partner_7 ?_
  refine lv_istore_n (lv' := [(3, .int ((b.2 2) - 1)), (2, .int (-1)), (0, .ref (q 23)), (1, .int v1)]) hx hb dX5_partner_8 rfl hl (by decide) rfl (fun ls hl => ?_)
  exact t_X5_partner_9 ⟨hx, hb, hml, hr, hlocks, hown, hno, hG⟩ hP hD  1000 (lv_sub hl [2, 3, 1, 0] rfl) hf
noncomputable def f_X5_partner (b : xT) (v1 : Int32) : Option (Int32) := g_X5_partner_0 b v1
set_option maxHeartbeats 4000000 in
set_option maxRecDepth 100000 in
theorem c_X5_partner (l : Launch) (D : va_G) (q : Nat → Nat) (k : Nat → ClassId) (a b : xT) (o : Nat → Int64) (v1 : Int32) (y : Int32) (hf : f_X5_partner b v1 = some y) : xMet l yX5_partner (.code yX5_partner cX5_partner 5 (some .int)) r_X5_partner (xPc D q k a b o [.ref (q 23), .int v1]) (xQr (.inr (some (.int y)))) (xmc (.inr (some (.int y)))) (xms (.inr (some (.int y)))) (fun _ => False) := by
  refine xMet.ofW (by decide) ?_
  intro p e s m args below meth c hx hb hml hr hlocks hnm hme hno hv
  obtain ⟨rfl, hP, hD, hG⟩ := hv
  have hown : s.vm.findClass RX5 = some m.cls := findClass_of_methodNamed hnm
  have hl := lv_entry ([.ref (q 23), .int v1]) (n := 5) (Nat.le_of_ble_eq_true rfl)
  rw [lg_entry_eq]
  generalize (lg_sl ([.ref (q 23), .int v1]) ++ List.replicate (5 - (lg_sl ([.ref (q 23), .int v1])).length) Slot.unset).toArray = ls at hl ⊢
  have hl : lv_has ls 5 [(0, .ref (q 23)), (1, .int v1)] := hl
  exact t_X5_partner_0 ⟨hx, hb, hml, hr, hlocks, hown, hno, hG⟩ hP hD hl hf
