abbrev r_X5_rationed : Room := { frames := 2, cells := 0, slots := 0, locals := 43 }
noncomputable def g_X5_rationed_167 (K79 : xT → Int32 → Int32 → Option (Int32 × xT)) (b : xT) (v1 : Int32) : Option (Int32 × xT) := ((f_X5_nextFlight b ).bind fun r168 => K79 b v1 r168)
set_option maxHeartbeats 4000000 in
set_option maxRecDepth 100000 in
theorem t_X5_rationed_167 {p : Program} {l : Launch} {e : Env} {s : State} {m : MethodId} {args : Array Value} {below : List Frame} {meth : Method} {c : Code} {D : va_G} {q : Nat → Nat} {k : Nat → ClassId} {a b : xT} {o : Nat → Int64} {z : xT} {y : Int32 × xT} (C : xCx p s m meth c cX5_rationed 4 (some .int) RX5 D k) {H : Heap} {locs : List Loc} (hP : va_P D vwCl (xw q k a b o) H) (hD : va_D (va_A (xw q k a z o) s.heap.size) (xw q k a b o)) (hS : va_S (va_A (xw q k a z o) s.heap.size) s.heap H locs) {K79 : xT → Int32 → Int32 → Option (Int32 × xT)} (hK79 : ∀ {b : xT} {v1 v2 : Int32} {ls : Array Slot} {H : Heap} {locs : List Loc}, va_P D vwCl (xw q k a b o) H → va_D (va_A (xw q k a z o) s.heap.size) (xw q k a b o) → va_S (va_A (xw q k a z o) s.heap.size) s.heap H locs → lv_has ls 4 [(0, .ref (q 23)), (1, .int v1), (2, .int v2)] → K79 b v1 v2 = some y → W p l e r_X5_rationed s m args below meth c H locs 0 0 (xMQ below (xQm D q k a z o (.inr (some (.int y.1), a, y.2))) args s 0 0 (va_A (xw q k a z o) s.heap.size)) (F0 m 79 ls [])) {v1 : Int32} {ls : Array Slot} (hl : lv_has ls 4 [(0, .ref (q 23)), (1, .int v1)]) (hf : g_X5_rationed_167 K79 b v1 = some y) : W p l e r_X5_rationed s m args below meth c H locs 0 0 (xMQ below (xQm D q k a z o (.inr (some (.int y.1), a, y.2))) args s 0 0 (va_A (xw q k a z o) s.heap.size)) (F0 m 167 ls []) := by
  obtain ⟨hx, hb, hml, hr, hlocks, hown, hno, hG⟩ := C
  have hK := hG.1
  have hE := hG.2.1
  have hA : ∀ u, s.heap.size ≤ u → va_A (xw q k a z o) s.heap.size u := fun u h => Or.inr h
  unfold g_X5_rationed_167 at hf
  refine lv_aload_n hx hb dX5_rationed_167 rfl (lv_at hl 0 rfl) ?_
  obtain ⟨r168, hN, hf⟩ := xbind hf
  refine xgo_r (v := some (.int r168)) (xrunV (C := RX5) (As := []) (rest := []) (xfixm fx_X5_nextFlight hx hb hml hown (by decide) (by decide) (by decide) (by decide)) hE ml_X5_77 wi_X5_nextFlight wz_X5_nextFlight wc_X5_nextFlight wn_X5 (c_X5_nextFlight l D q k a b o  _ hN) (va_recv (q := (RX5, TX5, 19)) (ci := 5) (q0 := 23) hK hP rfl rfl) (xpre hP hD hG) rfl rfl hl.1 rfl (lv_room (Nat.le_of_ble_eq_true rfl)) dX5_rationed_168) ?_
  refine lv_istore_n (lv' := [(2, .int r168), (0, .ref (q 23)), (1, .int v1)]) hx hb dX5_rationed_171 rfl hl (by decide) rfl (fun ls hl => ?_)
  refine lv_goto hx hb dX5_rationed_172 rfl ?_
  exact hK79 hP hD hS (lv_sub hl [1, 2, 0] rfl) hf
noncomputable def g_X5_rationed_161 (K79 : xT → Int32 → Int32 → Option (Int32 × xT)) (b : xT) (v1 : Int32) : Option (Int32 × xT) := g_X5_rationed_167 K79 b v1
set_option maxHeartbeats 4000000 in
set_option maxRecDepth 100000 in
theorem t_X5_rationed_161 {p : Program} {l : Launch} {e : Env} {s : State} {m : MethodId} {args : Array Value} {below : List Frame} {meth : Method} {c : Code} {D : va_G} {q : Nat → Nat} {k : Nat → ClassId} {a b : xT} {o : Nat → Int64} {z : xT} {y : Int32 × xT} (C : xCx p s m meth c cX5_rationed 4 (some .int) RX5 D k) {H : Heap} {locs : List Loc} (hP : va_P D vwCl (xw q k a b o) H) (hD : va_D (va_A (xw q k a z o) s.heap.size) (xw q k a b o)) (hS : va_S (va_A (xw q k a z o) s.heap.size) s.heap H locs) {K79 : xT → Int32 → Int32 → Option (Int32 × xT)} (hK79 : ∀ {b : xT} {v1 v2 : Int32} {ls : Array Slot} {H : Heap} {locs : List Loc}, va_P D vwCl (xw q k a b o) H → va_D (va_A (xw q k a z o) s.heap.size) (xw q k a b o) → va_S (va_A (xw q k a z o) s.heap.size) s.heap H locs → lv_has ls 4 [(0, .ref (q 23)), (1, .int v1), (2, .int v2)] → K79 b v1 v2 = some y → W p l e r_X5_rationed s m args below meth c H locs 0 0 (xMQ below (xQm D q k a z o (.inr (some (.int y.1), a, y.2))) args s 0 0 (va_A (xw q k a z o) s.heap.size)) (F0 m 79 ls [])) {v1 : Int32} {ls : Array Slot} (hl : lv_has ls 4 [(0, .ref (q 23)), (1, .int v1)]) (hf : g_X5_rationed_161 K79 b v1 = some y) : W p l e r_X5_rationed s m args below meth c H locs 0 0 (xMQ below (xQm D q k a z o (.inr (some (.int y.1), a, y.2))) args s 0 0 (va_A (xw q k a z o) s.heap.size)) (F0 m 161 ls []) := by
  obtain ⟨hx, hb, hml, hr, hlocks, hown, hno, hG⟩ := C
  have hK := hG.1
  have hE := hG.2.1
  have hA : ∀ u, s.heap.size ≤ u → va_A (xw q k a z o) s.heap.size u := fun u h => Or.inr h
  unfold g_X5_rationed_161 at hf
  refine lv_goto hx hb dX5_rationed_161 rfl ?_
  exact t_X5_rationed_167 ⟨hx, hb, hml, hr, hlocks, hown, hno, hG⟩ hP hD hS hK79 (lv_sub hl [0, 1] rfl) hf
noncomputable def g_X5_rationed_149 (K79 : xT → Int32 → Int32 → Option (Int32 × xT)) (b : xT) (v1 : Int32) (v2 : Int32) (v3 : Int32) : Option (Int32 × xT) := (if xin v2 60 = true then (if xin v3 240 = true then g_X5_rationed_161 K79 (xs b 1 v3.toNatClampNeg (b.1 3 v2.toNatClampNeg)) v1 else none) else none)
set_option maxHeartbeats 4000000 in
set_option maxRecDepth 100000 in
theorem t_X5_rationed_149 {p : Program} {l : Launch} {e : Env} {s : State} {m : MethodId} {args : Array Value} {below : List Frame} {meth : Method} {c : Code} {D : va_G} {q : Nat → Nat} {k : Nat → ClassId} {a b : xT} {o : Nat → Int64} {z : xT} {y : Int32 × xT} (C : xCx p s m meth c cX5_rationed 4 (some .int) RX5 D k) {H : Heap} {locs : List Loc} (hP : va_P D vwCl (xw q k a b o) H) (hD : va_D (va_A (xw q k a z o) s.heap.size) (xw q k a b o)) (hS : va_S (va_A (xw q k a z o) s.heap.size) s.heap H locs) {K79 : xT → Int32 → Int32 → Option (Int32 × xT)} (hK79 : ∀ {b : xT} {v1 v2 : Int32} {ls : Array Slot} {H : Heap} {locs : List Loc}, va_P D vwCl (xw q k a b o) H → va_D (va_A (xw q k a z o) s.heap.size) (xw q k a b o) → va_S (va_A (xw q k a z o) s.heap.size) s.heap H locs → lv_has ls 4 [(0, .ref (q 23)), (1, .int v1), (2, .int v2)] → K79 b v1 v2 = some y → W p l e r_X5_rationed s m args below meth c H locs 0 0 (xMQ below (xQm D q k a z o (.inr (some (.int y.1), a, y.2))) args s 0 0 (va_A (xw q k a z o) s.heap.size)) (F0 m 79 ls [])) {v1 v2 v3 : Int32} {ls : Array Slot} (hl : lv_has ls 4 [(0, .ref (q 23)), (1, .int v1), (2, .int v2), (3, .int v3)]) (hf : g_X5_rationed_149 K79 b v1 v2 v3 = some y) : W p l e r_X5_rationed s m args below meth c H locs 0 0 (xMQ below (xQm D q k a z o (.inr (some (.int y.1), a, y.2))) args s 0 0 (va_A (xw q k a z o) s.heap.size)) (F0 m 149 ls []) := by
  obtain ⟨hx, hb, hml, hr, hlocks, hown, hno, hG⟩ := C
  have hK := hG.1
  have hE := hG.2.1
  have hA : ∀ u, s.heap.size ≤ u → va_A (xw q k a z o) s.heap.size u := fun u h => Or.inr h
  unfold g_X5_rationed_149 at hf
  refine lv_aload_n hx hb dX5_rationed_149 rfl (lv_at hl 0 rfl) ?_
  refine va_get (D := D) (ci := 5) (v := .ref (q 25)) (C := RX5) (T := TX5) (N := 19) hx hb (hwX5 hE) (fun _ h => h) hown hK hP 23 rfl rfl 2 (by decide) (hE _ fl_X5_13 rfl _) (fun _ h9 => h9) rfl dX5_rationed_150 ?_
  refine lv_iload_n hx hb dX5_rationed_153 rfl (lv_at hl 3 rfl) ?_
  refine lv_aload_n hx hb dX5_rationed_154 rfl (lv_at hl 0 rfl) ?_
  refine va_get (D := D) (ci := 5) (v := .ref (q 27)) (C := RX5) (T := TX5) (N := 19) hx hb (hwX5 hE) (fun _ h => h) hown hK hP 23 rfl rfl 5 (by decide) (hE _ fl_X5_20 rfl _) (fun _ h9 => h9) rfl dX5_rationed_155 ?_
  refine lv_iload_n hx hb dX5_rationed_158 rfl (lv_at hl 2 rfl) ?_
  obtain ⟨hin, hf⟩ := xguard hf
  refine va_iald hx hb hK hP 27 0 rfl rfl hin dX5_rationed_159 ?_
  obtain ⟨hin, hf⟩ := xguard hf
  refine va_iast hx hb hK hP hD hS 25 0 rfl rfl hin dX5_rationed_160 (fun H locs hP hD hS => ?_)
  rw [xw_s25] at hP hD
  exact t_X5_rationed_161 ⟨hx, hb, hml, hr, hlocks, hown, hno, hG⟩ hP hD hS hK79 (lv_sub hl [0, 1] rfl) hf
noncomputable def g_X5_rationed_142 (K79 : xT → Int32 → Int32 → Option (Int32 × xT)) (b : xT) (v1 : Int32) (v2 : Int32) (v3 : Int32) : Option (Int32 × xT) := (if xin v2 60 = true then g_X5_rationed_149 K79 (xs b 6 v2.toNatClampNeg v3) v1 v2 v3 else none)
set_option maxHeartbeats 4000000 in
set_option maxRecDepth 100000 in
theorem t_X5_rationed_142 {p : Program} {l : Launch} {e : Env} {s : State} {m : MethodId} {args : Array Value} {below : List Frame} {meth : Method} {c : Code} {D : va_G} {q : Nat → Nat} {k : Nat → ClassId} {a b : xT} {o : Nat → Int64} {z : xT} {y : Int32 × xT} (C : xCx p s m meth c cX5_rationed 4 (some .int) RX5 D k) {H : Heap} {locs : List Loc} (hP : va_P D vwCl (xw q k a b o) H) (hD : va_D (va_A (xw q k a z o) s.heap.size) (xw q k a b o)) (hS : va_S (va_A (xw q k a z o) s.heap.size) s.heap H locs) {K79 : xT → Int32 → Int32 → Option (Int32 × xT)} (hK79 : ∀ {b : xT} {v1 v2 : Int32} {ls : Array Slot} {H : Heap} {locs : List Loc}, va_P D vwCl (xw q k a b o) H → va_D (va_A (xw q k a z o) s.heap.size) (xw q k a b o) → va_S (va_A (xw q k a z o) s.heap.size) s.heap H locs → lv_has ls 4 [(0, .ref (q 23)), (1, .int v1), (2, .int v2)] → K79 b v1 v2 = some y → W p l e r_X5_rationed s m args below meth c H locs 0 0 (xMQ below (xQm D q k a z o (.inr (some (.int y.1), a, y.2))) args s 0 0 (va_A (xw q k a z o) s.heap.size)) (F0 m 79 ls [])) {v1 v2 v3 : Int32} {ls : Array Slot} (hl : lv_has ls 4 [(0, .ref (q 23)), (1, .int v1), (2, .int v2), (3, .int v3)]) (hf : g_X5_rationed_142 K79 b v1 v2 v3 = some y) : W p l e r_X5_rationed s m args below meth c H locs 0 0 (xMQ below (xQm D q k a z o (.inr (some (.int y.1), a, y.2))) args s 0 0 (va_A (xw q k a z o) s.heap.size)) (F0 m 142 ls []) := by
  obtain ⟨hx, hb, hml, hr, hlocks, hown, hno, hG⟩ := C
  have hK := hG.1
  have hE := hG.2.1
  have hA : ∀ u, s.heap.size ≤ u → va_A (xw q k a z o) s.heap.size u := fun u h => Or.inr h
  unfold g_X5_rationed_142 at hf
  refine lv_aload_n hx hb dX5_rationed_142 rfl (lv_at hl 0 rfl) ?_
  refine va_get (D := D) (ci := 5) (v := .ref (q 30)) (C := RX5) (T := TX5) (N := 19) hx hb (hwX5 hE) (fun _ h => h) hown hK hP 23 rfl rfl 8 (by decide) (hE _ fl_X5_29 rfl _) (fun _ h9 => h9) rfl dX5_rationed_143 ?_
  refine lv_iload_n hx hb dX5_rationed_146 rfl (lv_at hl 2 rfl) ?_
  refine lv_iload_n hx hb dX5_rationed_147 rfl (lv_at hl 3 rfl) ?_
  obtain ⟨hin, hf⟩ := xguard hf
  refine va_iast hx hb hK hP hD hS 30 0 rfl rfl hin dX5_rationed_148 (fun H locs hP hD hS => ?_)
  rw [xw_s30] at hP hD
  exact t_X5_rationed_149 ⟨hx, hb, hml, hr, hlocks, hown, hno, hG⟩ hP hD hS hK79 (lv_sub hl [0, 1, 2, 3] rfl) hf
noncomputable def g_X5_rationed_128 (K79 : xT → Int32 → Int32 → Option (Int32 × xT)) (b : xT) (v1 : Int32) (v2 : Int32) (v3 : Int32) : Option (Int32 × xT) := (if 240 ≤ v3 then g_X5_rationed_167 K79 b (v1 + 1) else (if xin v3 240 = true then g_X5_rationed_142 K79 (xs b 2 v3.toNatClampNeg v2) v1 v2 v3 else none))
set_option maxHeartbeats 4000000 in
set_option maxRecDepth 100000 in
theorem t_X5_rationed_128 {p : Program} {l : Launch} {e : Env} {s : State} {m : MethodId} {args : Array Value} {below : List Frame} {meth : Method} {c : Code} {D : va_G} {q : Nat → Nat} {k : Nat → ClassId} {a b : xT} {o : Nat → Int64} {z : xT} {y : Int32 × xT} (C : xCx p s m meth c cX5_rationed 4 (some .int) RX5 D k) {H : Heap} {locs : List Loc} (hP : va_P D vwCl (xw q k a b o) H) (hD : va_D (va_A (xw q k a z o) s.heap.size) (xw q k a b o)) (hS : va_S (va_A (xw q k a z o) s.heap.size) s.heap H locs) {K79 : xT → Int32 → Int32 → Option (Int32 × xT)} (hK79 : ∀ {b : xT} {v1 v2 : Int32} {ls : Array Slot} {H : Heap} {locs : List Loc}, va_P D vwCl (xw q k a b o) H → va_D (va_A (xw q k a z o) s.heap.size) (xw q k a b o) → va_S (va_A (xw q k a z o) s.heap.size) s.heap H locs → lv_has ls 4 [(0, .ref (q 23)), (1, .int v1), (2, .int v2)] → K79 b v1 v2 = some y → W p l e r_X5_rationed s m args below meth c H locs 0 0 (xMQ below (xQm D q k a z o (.inr (some (.int y.1), a, y.2))) args s 0 0 (va_A (xw q k a z o) s.heap.size)) (F0 m 79 ls [])) {v1 v2 v3 : Int32} {ls : Array Slot} (hl : lv_has ls 4 [(0, .ref (q 23)), (1, .int v1), (2, .int v2), (3, .int v3)]) (hf : g_X5_rationed_128 K79 b v1 v2 v3 = some y) : W p l e r_X5_rationed s m args below meth c H locs 0 0 (xMQ below (xQm D q k a z o (.inr (some (.int y.1), a, y.2))) args s 0 0 (va_A (xw q k a z o) s.heap.size)) (F0 m 128 ls []) := by
  obtain ⟨hx, hb, hml, hr, hlocks, hown, hno, hG⟩ := C
  have hK := hG.1
  have hE := hG.2.1
  have hA : ∀ u, s.heap.size ≤ u → va_A (xw q k a z o) s.heap.size u := fun u h => Or.inr h
  unfold g_X5_rationed_128 at hf
  refine lv_iload_n hx hb dX5_rationed_128 rfl (lv_at hl 3 rfl) ?_
  refine lv_sipush (v := 240) hx hb dX5_rationed_129 (by decide) ?_
  refine lv_icmp_ge hx hb dX5_rationed_132 rfl (fun hc => ?_) (fun hc => ?_)
  · rw [if_pos hc] at hf
    refine lv_iinc (k := 1) (v := v1 + 1) (lv' := [(1, .int (v1 + 1)), (0, .ref (q 23)), (2, .int v2), (3, .int v3)]) hx hb dX5_rationed_164 hl rfl (xinc (by decide) _) (by decide) rfl (fun ls hl => ?_)
    exact t_X5_rationed_167 ⟨hx, hb, hml, hr, hlocks, hown, hno, hG⟩ hP hD hS hK79 (lv_sub hl [1, 0] rfl) hf
  · rw [if_neg hc] at hf
    refine lv_aload_n hx hb dX5_rationed_135 rfl (lv_at hl 0 rfl) ?_
    refine va_get (D := D) (ci := 5) (v := .ref (q 26)) (C := RX5) (T := TX5) (N := 19) hx hb (hwX5 hE) (fun _ h => h) hown hK hP 23 rfl rfl 3 (by decide) (hE _ fl_X5_17 rfl _) (fun _ h9 => h9) rfl dX5_rationed_136 ?_
    refine lv_iload_n hx hb dX5_rationed_139 rfl (lv_at hl 3 rfl) ?_
    refine lv_iload_n hx hb dX5_rationed_140 rfl (lv_at hl 2 rfl) ?_
    obtain ⟨hin, hf⟩ := xguard hf
    refine va_iast hx hb hK hP hD hS 26 0 rfl rfl hin dX5_rationed_141 (fun H locs hP hD hS => ?_)
    rw [xw_s26] at hP hD
    exact t_X5_rationed_142 ⟨hx, hb, hml, hr, hlocks, hown, hno, hG⟩ hP hD hS hK79 (lv_sub hl [0, 1, 2, 3] rfl) hf
noncomputable def g_X5_rationed_122 (K79 : xT → Int32 → Int32 → Option (Int32 × xT)) (K97 : xT → Int32 → Int32 → Int32 → Option (Int32 × xT)) (b : xT) (v1 : Int32) (v2 : Int32) (v3 : Int32) : Option (Int32 × xT) := K97 b v1 v2 (v3 + 1)
set_option maxHeartbeats 4000000 in
set_option maxRecDepth 100000 in
theorem t_X5_rationed_122 {p : Program} {l : Launch} {e : Env} {s : State} {m : MethodId} {args : Array Value} {below : List Frame} {meth : Method} {c : Code} {D : va_G} {q : Nat → Nat} {k : Nat → ClassId} {a b : xT} {o : Nat → Int64} {z : xT} {y : Int32 × xT} (C : xCx p s m meth c cX5_rationed 4 (some .int) RX5 D k) {H : Heap} {locs : List Loc} (hP : va_P D vwCl (xw q k a b o) H) (hD : va_D (va_A (xw q k a z o) s.heap.size) (xw q k a b o)) (hS : va_S (va_A (xw q k a z o) s.heap.size) s.heap H locs) {K79 : xT → Int32 → Int32 → Option (Int32 × xT)} (hK79 : ∀ {b : xT} {v1 v2 : Int32} {ls : Array Slot} {H : Heap} {locs : List Loc}, va_P D vwCl (xw q k a b o) H → va_D (va_A (xw q k a z o) s.heap.size) (xw q k a b o) → va_S (va_A (xw q k a z o) s.heap.size) s.heap H locs → lv_has ls 4 [(0, .ref (q 23)), (1, .int v1), (2, .int v2)] → K79 b v1 v2 = some y → W p l e r_X5_rationed s m args below meth c H locs 0 0 (xMQ below (xQm D q k a z o (.inr (some (.int y.1), a, y.2))) args s 0 0 (va_A (xw q k a z o) s.heap.size)) (F0 m 79 ls [])) {K97 : xT → Int32 → Int32 → Int32 → Option (Int32 × xT)} (hK97 : ∀ {b : xT} {v1 v2 v3 : Int32} {ls : Array Slot} {H : Heap} {locs : List Loc}, va_P D vwCl (xw q k a b o) H → va_D (va_A (xw q k a z o) s.heap.size) (xw q k a b o) → va_S (va_A (xw q k a z o) s.heap.size) s.heap H locs → lv_has ls 4 [(0, .ref (q 23)), (1, .int v1), (2, .int v2), (3, .int v3)] → K97 b v1 v2 v3 = some y → W p l e r_X5_rationed s m args below meth c H locs 0 0 (xMQ below (xQm D q k a z o (.inr (some (.int y.1), a, y.2))) args s 0 0 (va_A (xw q k a z o) s.heap.size)) (F0 m 97 ls [])) {v1 v2 v3 : Int32} {ls : Array Slot} (hl : lv_has ls 4 [(0, .ref (q 23)), (1, .int v1), (2, .int v2), (3, .int v3)]) (hf : g_X5_rationed_122 K79 K97 b v1 v2 v3 = some y) : W p l e r_X5_rationed s m args below meth c H locs 0 0 (xMQ below (xQm D q k a z o (.inr (some (.int y.1), a, y.2))) args s 0 0 (va_A (xw q k a z o) s.heap.size)) (F0 m 122 ls []) := by
  obtain ⟨hx, hb, hml, hr, hlocks, hown, hno, hG⟩ := C
  have hK := hG.1
  have hE := hG.2.1
  have hA : ∀ u, s.heap.size ≤ u → va_A (xw q k a z o) s.heap.size u := fun u h => Or.inr h
  unfold g_X5_rationed_122 at hf
  refine lv_iinc (k := 3) (v := v3 + 1) (lv' := [(3, .int (v3 + 1)), (0, .ref (q 23)), (1, .int v1), (2, .int v2)]) hx hb dX5_rationed_122 hl rfl (xinc (by decide) _) (by decide) rfl (fun ls hl => ?_)
  refine lv_goto hx hb dX5_rationed_125 rfl ?_
  exact hK97 hP hD hS (lv_sub hl [1, 2, 3, 0] rfl) hf
noncomputable def g_X5_rationed_97s (K79 : xT → Int32 → Int32 → Option (Int32 × xT)) (K97 : xT → Int32 → Int32 → Int32 → Option (Int32 × xT)) (b : xT) (v1 : Int32) (v2 : Int32) (v3 : Int32) : Option (Int32 × xT) := (if 240 ≤ v3 then g_X5_rationed_128 K79 b v1 v2 v3 else (if xin v3 240 = true then (if (b.1 0 v3.toNatClampNeg) = 0 then g_X5_rationed_122 K79 K97 b v1 v2 v3 else (if xin v3 240 = true then (if (b.1 2 v3.toNatClampNeg) < 0 then g_X5_rationed_128 K79 b v1 v2 v3 else g_X5_rationed_122 K79 K97 b v1 v2 v3) else none)) else none))
set_option maxHeartbeats 4000000 in
set_option maxRecDepth 100000 in
theorem t_X5_rationed_97s {p : Program} {l : Launch} {e : Env} {s : State} {m : MethodId} {args : Array Value} {below : List Frame} {meth : Method} {c : Code} {D : va_G} {q : Nat → Nat} {k : Nat → ClassId} {a b : xT} {o : Nat → Int64} {z : xT} {y : Int32 × xT} (C : xCx p s m meth c cX5_rationed 4 (some .int) RX5 D k) {H : Heap} {locs : List Loc} (hP : va_P D vwCl (xw q k a b o) H) (hD : va_D (va_A (xw q k a z o) s.heap.size) (xw q k a b o)) (hS : va_S (va_A (xw q k a z o) s.heap.size) s.heap H locs) {K79 : xT → Int32 → Int32 → Option (Int32 × xT)} (hK79 : ∀ {b : xT} {v1 v2 : Int32} {ls : Array Slot} {H : Heap} {locs : List Loc}, va_P D vwCl (xw q k a b o) H → va_D (va_A (xw q k a z o) s.heap.size) (xw q k a b o) → va_S (va_A (xw q k a z o) s.heap.size) s.heap H locs → lv_has ls 4 [(0, .ref (q 23)), (1, .int v1), (2, .int v2)] → K79 b v1 v2 = some y → W p l e r_X5_rationed s m args below meth c H locs 0 0 (xMQ below (xQm D q k a z o (.inr (some (.int y.1), a, y.2))) args s 0 0 (va_A (xw q k a z o) s.heap.size)) (F0 m 79 ls [])) {K97 : xT → Int32 → Int32 → Int32 → Option (Int32 × xT)} (hK97 : ∀ {b : xT} {v1 v2 v3 : Int32} {ls : Array Slot} {H : Heap} {locs : List Loc}, va_P D vwCl (xw q k a b o) H → va_D (va_A (xw q k a z o) s.heap.size) (xw q k a b o) → va_S (va_A (xw q k a z o) s.heap.size) s.heap H locs → lv_has ls 4 [(0, .ref (q 23)), (1, .int v1), (2, .int v2), (3, .int v3)] → K97 b v1 v2 v3 = some y → W p l e r_X5_rationed s m args below meth c H locs 0 0 (xMQ below (xQm D q k a z o (.inr (some (.int y.1), a, y.2))) args s 0 0 (va_A (xw q k a z o) s.heap.size)) (F0 m 97 ls [])) {v1 v2 v3 : Int32} {ls : Array Slot} (hl : lv_has ls 4 [(0, .ref (q 23)), (1, .int v1), (2, .int v2), (3, .int v3)]) (hf : g_X5_rationed_97s K79 K97 b v1 v2 v3 = some y) : W p l e r_X5_rationed s m args below meth c H locs 0 0 (xMQ below (xQm D q k a z o (.inr (some (.int y.1), a, y.2))) args s 0 0 (va_A (xw q k a z o) s.heap.size)) (F0 m 97 ls []) := by
  obtain ⟨hx, hb, hml, hr, hlocks, hown, hno, hG⟩ := C
  have hK := hG.1
  have hE := hG.2.1
  have hA : ∀ u, s.heap.size ≤ u → va_A (xw q k a z o) s.heap.size u := fun u h => Or.inr h
  unfold g_X5_rationed_97s at hf
  refine lv_iload_n hx hb dX5_rationed_97 rfl (lv_at hl 3 rfl) ?_
  refine lv_sipush (v := 240) hx hb dX5_rationed_98 (by decide) ?_
  refine lv_icmp_ge hx hb dX5_rationed_101 rfl (fun hc => ?_) (fun hc => ?_)
  · rw [if_pos hc] at hf
    exact t_X5_rationed_128 ⟨hx, hb, hml, hr, hlocks, hown, hno, hG⟩ hP hD hS hK79 (lv_sub hl [0, 1, 2, 3] rfl) hf
  · rw [if_neg hc] at hf
    refine lv_aload_n hx hb dX5_rationed_104 rfl (lv_at hl 0 rfl) ?_
    refine va_get (D := D) (ci := 5) (v := .ref (q 24)) (C := RX5) (T := TX5) (N := 19) hx hb (hwX5 hE) (fun _ h => h) hown hK hP 23 rfl rfl 1 (by decide) (hE _ fl_X5_7 rfl _) (fun _ h9 => h9) rfl dX5_rationed_105 ?_
    refine lv_iload_n hx hb dX5_rationed_108 rfl (lv_at hl 3 rfl) ?_
    obtain ⟨hin, hf⟩ := xguard hf
    refine va_zald hx hb hK hP 24 1 rfl rfl hin dX5_rationed_109 ?_
    refine lv_if_eq hx hb dX5_rationed_110 rfl (fun hc => ?_) (fun hc => ?_)
    · rw [if_pos hc] at hf
      exact t_X5_rationed_122 ⟨hx, hb, hml, hr, hlocks, hown, hno, hG⟩ hP hD hS hK79 hK97 (lv_sub hl [0, 1, 2, 3] rfl) hf
    · rw [if_neg hc] at hf
      refine lv_aload_n hx hb dX5_rationed_113 rfl (lv_at hl 0 rfl) ?_
      refine va_get (D := D) (ci := 5) (v := .ref (q 26)) (C := RX5) (T := TX5) (N := 19) hx hb (hwX5 hE) (fun _ h => h) hown hK hP 23 rfl rfl 3 (by decide) (hE _ fl_X5_17 rfl _) (fun _ h9 => h9) rfl dX5_rationed_114 ?_
      refine lv_iload_n hx hb dX5_rationed_117 rfl (lv_at hl 3 rfl) ?_
      obtain ⟨hin, hf⟩ := xguard hf
      refine va_iald hx hb hK hP 26 0 rfl rfl hin dX5_rationed_118 ?_
      refine lv_if_lt hx hb dX5_rationed_119 rfl (fun hc => ?_) (fun hc => ?_)
      · rw [if_pos hc] at hf
        exact t_X5_rationed_128 ⟨hx, hb, hml, hr, hlocks, hown, hno, hG⟩ hP hD hS hK79 (lv_sub hl [0, 1, 2, 3] rfl) hf
      · rw [if_neg hc] at hf
        exact t_X5_rationed_122 ⟨hx, hb, hml, hr, hlocks, hown, hno, hG⟩ hP hD hS hK79 hK97 (lv_sub hl [0, 1, 2, 3] rfl) hf
noncomputable def g_X5_rationed_97 (K79 : xT → Int32 → Int32 → Option (Int32 × xT)) : Nat → xT → Int32 → Int32 → Int32 → Option (Int32 × xT) := fun n => Nat.rec (motive := fun _ => xT → Int32 → Int32 → Int32 → Option (Int32 × xT)) (fun _ _ _ _ => none) (fun _ ih => g_X5_rationed_97s K79 ih) n
set_option maxHeartbeats 4000000 in
theorem t_X5_rationed_97 {p : Program} {l : Launch} {e : Env} {s : State} {m : MethodId} {args : Array Value} {below : List Frame} {meth : Method} {c : Code} {D : va_G} {q : Nat → Nat} {k : Nat → ClassId} {a : xT} {o : Nat → Int64} {z : xT} {y : Int32 × xT} (C : xCx p s m meth c cX5_rationed 4 (some .int) RX5 D k) {K79 : xT → Int32 → Int32 → Option (Int32 × xT)} (hK79 : ∀ {b : xT} {v1 v2 : Int32} {ls : Array Slot} {H : Heap} {locs : List Loc}, va_P D vwCl (xw q k a b o) H → va_D (va_A (xw q k a z o) s.heap.size) (xw q k a b o) → va_S (va_A (xw q k a z o) s.heap.size) s.heap H locs → lv_has ls 4 [(0, .ref (q 23)), (1, .int v1), (2, .int v2)] → K79 b v1 v2 = some y → W p l e r_X5_rationed s m args below meth c H locs 0 0 (xMQ below (xQm D q k a z o (.inr (some (.int y.1), a, y.2))) args s 0 0 (va_A (xw q k a z o) s.heap.size)) (F0 m 79 ls [])) (n : Nat) : ∀ {b : xT} {v1 v2 v3 : Int32} {ls : Array Slot} {H : Heap} {locs : List Loc}, va_P D vwCl (xw q k a b o) H → va_D (va_A (xw q k a z o) s.heap.size) (xw q k a b o) → va_S (va_A (xw q k a z o) s.heap.size) s.heap H locs → lv_has ls 4 [(0, .ref (q 23)), (1, .int v1), (2, .int v2), (3, .int v3)] → g_X5_rationed_97 K79 n b v1 v2 v3 = some y → W p l e r_X5_rationed s m args below meth c H locs 0 0 (xMQ below (xQm D q k a z o (.inr (some (.int y.1), a, y.2))) args s 0 0 (va_A (xw q k a z o) s.heap.size)) (F0 m 97 ls []) := by
  induction n with
  | zero =>
    intro _ _ _ _ _ _ _ _ _ _ _ hf
    have h9 : (none : Option (Int32 × xT)) = some y := hf
    cases h9
  | succ n ih =>
    intro _ _ _ _ _ _ _ hP hD hS hl hf
    exact t_X5_rationed_97s C hP hD hS hK79 (K97 := g_X5_rationed_97 K79 n) ih hl hf
noncomputable def g_X5_rationed_90 (K79 : xT → Int32 → Int32 → Option (Int32 × xT)) (b : xT) (v1 : Int32) (v2 : Int32) : Option (Int32 × xT) := (if xin v2 60 = true then g_X5_rationed_97 K79 1000 b v1 v2 (b.1 5 v2.toNatClampNeg) else none)
set_option maxHeartbeats 4000000 in
set_option maxRecDepth 100000 in
theorem t_X5_rationed_90 {p : Program} {l : Launch} {e : Env} {s : State} {m : MethodId} {args : Array Value} {below : List Frame} {meth : Method} {c : Code} {D : va_G} {q : Nat → Nat} {k : Nat → ClassId} {a b : xT} {o : Nat → Int64} {z : xT} {y : Int32 × xT} (C : xCx p s m meth c cX5_rationed 4 (some .int) RX5 D k) {H : Heap} {locs : List Loc} (hP : va_P D vwCl (xw q k a b o) H) (hD : va_D (va_A (xw q k a z o) s.heap.size) (xw q k a b o)) (hS : va_S (va_A (xw q k a z o) s.heap.size) s.heap H locs) {K79 : xT → Int32 → Int32 → Option (Int32 × xT)} (hK79 : ∀ {b : xT} {v1 v2 : Int32} {ls : Array Slot} {H : Heap} {locs : List Loc}, va_P D vwCl (xw q k a b o) H → va_D (va_A (xw q k a z o) s.heap.size) (xw q k a b o) → va_S (va_A (xw q k a z o) s.heap.size) s.heap H locs → lv_has ls 4 [(0, .ref (q 23)), (1, .int v1), (2, .int v2)] → K79 b v1 v2 = some y → W p l e r_X5_rationed s m args below meth c H locs 0 0 (xMQ below (xQm D q k a z o (.inr (some (.int y.1), a, y.2))) args s 0 0 (va_A (xw q k a z o) s.heap.size)) (F0 m 79 ls [])) {v1 v2 : Int32} {ls : Array Slot} (hl : lv_has ls 4 [(0, .ref (q 23)), (1, .int v1), (2, .int v2)]) (hf : g_X5_rationed_90 K79 b v1 v2 = some y) : W p l e r_X5_rationed s m args below meth c H locs 0 0 (xMQ below (xQm D q k a z o (.inr (some (.int y.1), a, y.2))) args s 0 0 (va_A (xw q k a z o) s.heap.size)) (F0 m 90 ls []) := by
  obtain ⟨hx, hb, hml, hr, hlocks, hown, hno, hG⟩ := C
  have hK := hG.1
  have hE := hG.2.1
  have hA : ∀ u, s.heap.size ≤ u → va_A (xw q k a z o) s.heap.size u := fun u h => Or.inr h
  unfold g_X5_rationed_90 at hf
  refine lv_aload_n hx hb dX5_rationed_90 rfl (lv_at hl 0 rfl) ?_
  refine va_get (D := D) (ci := 5) (v := .ref (q 29)) (C := RX5) (T := TX5) (N := 19) hx hb (hwX5 hE) (fun _ h => h) hown hK hP 23 rfl rfl 7 (by decide) (hE _ fl_X5_26 rfl _) (fun _ h9 => h9) rfl dX5_rationed_91 ?_
  refine lv_iload_n hx hb dX5_rationed_94 rfl (lv_at hl 2 rfl) ?_
  obtain ⟨hin, hf⟩ := xguard hf
  refine va_iald hx hb hK hP 29 0 rfl rfl hin dX5_rationed_95 ?_
  refine lv_istore_n (lv' := [(3, .int (b.1 5 v2.toNatClampNeg)), (0, .ref (q 23)), (1, .int v1), (2, .int v2)]) hx hb dX5_rationed_96 rfl hl (by decide) rfl (fun ls hl => ?_)
  exact t_X5_rationed_97 ⟨hx, hb, hml, hr, hlocks, hown, hno, hG⟩ hK79 1000 hP hD hS (lv_sub hl [1, 2, 3, 0] rfl) hf
noncomputable def g_X5_rationed_79s (K79 : xT → Int32 → Int32 → Option (Int32 × xT)) (b : xT) (v1 : Int32) (v2 : Int32) : Option (Int32 × xT) := (if v2 < 0 then some (v1, b) else (if xin v2 60 = true then g_X5_rationed_90 K79 (xs b 9 v2.toNatClampNeg (vp_nar .boolean 1)) v1 v2 else none))
set_option maxHeartbeats 4000000 in
set_option maxRecDepth 100000 in
theorem t_X5_rationed_79s {p : Program} {l : Launch} {e : Env} {s : State} {m : MethodId} {args : Array Value} {below : List Frame} {meth : Method} {c : Code} {D : va_G} {q : Nat → Nat} {k : Nat → ClassId} {a b : xT} {o : Nat → Int64} {z : xT} {y : Int32 × xT} (C : xCx p s m meth c cX5_rationed 4 (some .int) RX5 D k) {H : Heap} {locs : List Loc} (hP : va_P D vwCl (xw q k a b o) H) (hD : va_D (va_A (xw q k a z o) s.heap.size) (xw q k a b o)) (hS : va_S (va_A (xw q k a z o) s.heap.size) s.heap H locs) {K79 : xT → Int32 → Int32 → Option (Int32 × xT)} (hK79 : ∀ {b : xT} {v1 v2 : Int32} {ls : Array Slot} {H : Heap} {locs : List Loc}, va_P D vwCl (xw q k a b o) H → va_D (va_A (xw q k a z o) s.heap.size) (xw q k a b o) → va_S (va_A (xw q k a z o) s.heap.size) s.heap H locs → lv_has ls 4 [(0, .ref (q 23)), (1, .int v1), (2, .int v2)] → K79 b v1 v2 = some y → W p l e r_X5_rationed s m args below meth c H locs 0 0 (xMQ below (xQm D q k a z o (.inr (some (.int y.1), a, y.2))) args s 0 0 (va_A (xw q k a z o) s.heap.size)) (F0 m 79 ls [])) {v1 v2 : Int32} {ls : Array Slot} (hl : lv_has ls 4 [(0, .ref (q 23)), (1, .int v1), (2, .int v2)]) (hf : g_X5_rationed_79s K79 b v1 v2 = some y) : W p l e r_X5_rationed s m args below meth c H locs 0 0 (xMQ below (xQm D q k a z o (.inr (some (.int y.1), a, y.2))) args s 0 0 (va_A (xw q k a z o) s.heap.size)) (F0 m 79 ls []) := by
  obtain ⟨hx, hb, hml, hr, hlocks, hown, hno, hG⟩ := C
  have hK := hG.1
  have hE := hG.2.1
  have hA : ∀ u, s.heap.size ≤ u → va_A (xw q k a z o) s.heap.size u := fun u h => Or.inr h
  unfold g_X5_rationed_79s at hf
  refine lv_iload_n hx hb dX5_rationed_79 rfl (lv_at hl 2 rfl) ?_
  refine lv_if_lt hx hb dX5_rationed_80 rfl (fun hc => ?_) (fun hc => ?_)
  · rw [if_pos hc] at hf
    refine lv_iload_n hx hb dX5_rationed_175 rfl (lv_at hl 1 rfl) ?_
    cases hf
    exact xretm_i hx hb hr hlocks hP hS dX5_rationed_176
  · rw [if_neg hc] at hf
    refine lv_aload_n hx hb dX5_rationed_83 rfl (lv_at hl 0 rfl) ?_
    refine va_get (D := D) (ci := 5) (v := .ref (q 33)) (C := RX5) (T := TX5) (N := 19) hx hb (hwX5 hE) (fun _ h => h) hown hK hP 23 rfl rfl 11 (by decide) (hE _ fl_X5_38 rfl _) (fun _ h9 => h9) rfl dX5_rationed_84 ?_
    refine lv_iload_n hx hb dX5_rationed_87 rfl (lv_at hl 2 rfl) ?_
    refine lv_iconst (v := 1) hx hb dX5_rationed_88 (by decide) ?_
    obtain ⟨hin, hf⟩ := xguard hf
    refine va_zast hx hb hK hP hD hS 33 1 rfl rfl hin dX5_rationed_89 (fun H locs hP hD hS => ?_)
    rw [xw_s33] at hP hD
    exact t_X5_rationed_90 ⟨hx, hb, hml, hr, hlocks, hown, hno, hG⟩ hP hD hS hK79 (lv_sub hl [0, 1, 2] rfl) hf
noncomputable def g_X5_rationed_79  : Nat → xT → Int32 → Int32 → Option (Int32 × xT) := fun n => Nat.rec (motive := fun _ => xT → Int32 → Int32 → Option (Int32 × xT)) (fun _ _ _ => none) (fun _ ih => g_X5_rationed_79s ih) n
set_option maxHeartbeats 4000000 in
theorem t_X5_rationed_79 {p : Program} {l : Launch} {e : Env} {s : State} {m : MethodId} {args : Array Value} {below : List Frame} {meth : Method} {c : Code} {D : va_G} {q : Nat → Nat} {k : Nat → ClassId} {a : xT} {o : Nat → Int64} {z : xT} {y : Int32 × xT} (C : xCx p s m meth c cX5_rationed 4 (some .int) RX5 D k)  (n : Nat) : ∀ {b : xT} {v1 v2 : Int32} {ls : Array Slot} {H : Heap} {locs : List Loc}, va_P D vwCl (xw q k a b o) H → va_D (va_A (xw q k a z o) s.heap.size) (xw q k a b o) → va_S (va_A (xw q k a z o) s.heap.size) s.heap H locs → lv_has ls 4 [(0, .ref (q 23)), (1, .int v1), (2, .int v2)] → g_X5_rationed_79  n b v1 v2 = some y → W p l e r_X5_rationed s m args below meth c H locs 0 0 (xMQ below (xQm D q k a z o (.inr (some (.int y.1), a, y.2))) args s 0 0 (va_A (xw q k a z o) s.heap.size)) (F0 m 79 ls []) := by
  induction n with
  | zero =>
    intro _ _ _ _ _ _ _ _ _ _ hf
    have h9 : (none : Option (Int32 × xT)) = some y := hf
    cases h9
  | succ n ih =>
    intro _ _ _ _ _ _ hP hD hS hl hf
    exact t_X5_rationed_79s C hP hD hS (K79 := g_X5_rationed_79  n) ih hl hf
noncomputable def g_X5_rationed_66 (K51 : xT → Int32 → Option (Int32 × xT)) (b : xT) (v1 : Int32) : Option (Int32 × xT) := K51 b (v1 + 1)
set_option maxHeartbeats 4000000 in
set_option maxRecDepth 100000 in
theorem t_X5_rationed_66 {p : Program} {l : Launch} {e : Env} {s : State} {m : MethodId} {args : Array Value} {below : List Frame} {meth : Method} {c : Code} {D : va_G} {q : Nat → Nat} {k : Nat → ClassId} {a b : xT} {o : Nat → Int64} {z : xT} {y : Int32 × xT} (C : xCx p s m meth c cX5_rationed 4 (some .int) RX5 D k) {H : Heap} {locs : List Loc} (hP : va_P D vwCl (xw q k a b o) H) (hD : va_D (va_A (xw q k a z o) s.heap.size) (xw q k a b o)) (hS : va_S (va_A (xw q k a z o) s.heap.size) s.heap H locs) {K51 : xT → Int32 → Option (Int32 × xT)} (hK51 : ∀ {b : xT} {v1 : Int32} {ls : Array Slot} {H : Heap} {locs : List Loc}, va_P D vwCl (xw q k a b o) H → va_D (va_A (xw q k a z o) s.heap.size) (xw q k a b o) → va_S (va_A (xw q k a z o) s.heap.size) s.heap H locs → lv_has ls 4 [(0, .ref (q 23)), (1, .int v1)] → K51 b v1 = some y → W p l e r_X5_rationed s m args below meth c H locs 0 0 (xMQ below (xQm D q k a z o (.inr (some (.int y.1), a, y.2))) args s 0 0 (va_A (xw q k a z o) s.heap.size)) (F0 m 51 ls [])) {v1 : Int32} {ls : Array Slot} (hl : lv_has ls 4 [(0, .ref (q 23)), (1, .int v1)]) (hf : g_X5_rationed_66 K51 b v1 = some y) : W p l e r_X5_rationed s m args below meth c H locs 0 0 (xMQ below (xQm D q k a z o (.inr (some (.int y.1), a, y.2))) args s 0 0 (va_A (xw q k a z o) s.heap.size)) (F0 m 66 ls []) := by
  obtain ⟨hx, hb, hml, hr, hlocks, hown, hno, hG⟩ := C
  have hK := hG.1
  have hE := hG.2.1
  have hA : ∀ u, s.heap.size ≤ u → va_A (xw q k a z o) s.heap.size u := fun u h => Or.inr h
  unfold g_X5_rationed_66 at hf
  refine lv_iinc (k := 1) (v := v1 + 1) (lv' := [(1, .int (v1 + 1)), (0, .ref (q 23))]) hx hb dX5_rationed_66 hl rfl (xinc (by decide) _) (by decide) rfl (fun ls hl => ?_)
  refine lv_goto hx hb dX5_rationed_69 rfl ?_
  exact hK51 hP hD hS (lv_sub hl [1, 0] rfl) hf
noncomputable def g_X5_rationed_51s (K51 : xT → Int32 → Option (Int32 × xT)) (b : xT) (v1 : Int32) : Option (Int32 × xT) := (if (b.2 1) ≤ v1 then ((f_X5_nextFlight b ).bind fun r75 => g_X5_rationed_79  1000 b 0 r75) else (if xin v1 60 = true then g_X5_rationed_66 K51 (xs b 9 v1.toNatClampNeg (vp_nar .boolean 0)) v1 else none))
set_option maxHeartbeats 4000000 in
set_option maxRecDepth 100000 in
theorem t_X5_rationed_51s {p : Program} {l : Launch} {e : Env} {s : State} {m : MethodId} {args : Array Value} {below : List Frame} {meth : Method} {c : Code} {D : va_G} {q : Nat → Nat} {k : Nat → ClassId} {a b : xT} {o : Nat → Int64} {z : xT} {y : Int32 × xT} (C : xCx p s m meth c cX5_rationed 4 (some .int) RX5 D k) {H : Heap} {locs : List Loc} (hP : va_P D vwCl (xw q k a b o) H) (hD : va_D (va_A (xw q k a z o) s.heap.size) (xw q k a b o)) (hS : va_S (va_A (xw q k a z o) s.heap.size) s.heap H locs) {K51 : xT → Int32 → Option (Int32 × xT)} (hK51 : ∀ {b : xT} {v1 : Int32} {ls : Array Slot} {H : Heap} {locs : List Loc}, va_P D vwCl (xw q k a b o) H → va_D (va_A (xw q k a z o) s.heap.size) (xw q k a b o) → va_S (va_A (xw q k a z o) s.heap.size) s.heap H locs → lv_has ls 4 [(0, .ref (q 23)), (1, .int v1)] → K51 b v1 = some y → W p l e r_X5_rationed s m args below meth c H locs 0 0 (xMQ below (xQm D q k a z o (.inr (some (.int y.1), a, y.2))) args s 0 0 (va_A (xw q k a z o) s.heap.size)) (F0 m 51 ls [])) {v1 : Int32} {ls : Array Slot} (hl : lv_has ls 4 [(0, .ref (q 23)), (1, .int v1)]) (hf : g_X5_rationed_51s K51 b v1 = some y) : W p l e r_X5_rationed s m args below meth c H locs 0 0 (xMQ below (xQm D q k a z o (.inr (some (.int y.1), a, y.2))) args s 0 0 (va_A (xw q k a z o) s.heap.size)) (F0 m 51 ls []) := by
  obtain ⟨hx, hb, hml, hr, hlocks, hown, hno, hG⟩ := C
  have hK := hG.1
  have hE := hG.2.1
  have hA : ∀ u, s.heap.size ≤ u → va_A (xw q k a z o) s.heap.size u := fun u h => Or.inr h
  unfold g_X5_rationed_51s at hf
  refine lv_iload_n hx hb dX5_rationed_51 rfl (lv_at hl 1 rfl) ?_
  refine lv_aload_n hx hb dX5_rationed_52 rfl (lv_at hl 0 rfl) ?_
  refine va_get (D := D) (ci := 5) (v := .int (b.2 1)) (C := RX5) (T := TX5) (N := 19) hx hb (hwX5 hE) (fun _ h => h) hown hK hP 23 rfl rfl 4 (by decide) (hE _ fl_X5_60 rfl _) (fun _ h9 => h9) rfl dX5_rationed_53 ?_
  refine lv_icmp_ge hx hb dX5_rationed_56 rfl (fun hc => ?_) (fun hc => ?_)
  · rw [if_pos hc] at hf
    refine lv_iconst (v := 0) hx hb dX5_rationed_72 (by decide) ?_
    refine lv_istore_n (lv' := [(1, .int 0), (0, .ref (q 23))]) hx hb dX5_rationed_73 rfl hl (by decide) rfl (fun ls hl => ?_)
    refine lv_aload_n hx hb dX5_rationed_74 rfl (lv_at hl 1 rfl) ?_
    obtain ⟨r75, hN, hf⟩ := xbind hf
    refine xgo_r (v := some (.int r75)) (xrunV (C := RX5) (As := []) (rest := []) (xfixm fx_X5_nextFlight hx hb hml hown (by decide) (by decide) (by decide) (by decide)) hE ml_X5_77 wi_X5_nextFlight wz_X5_nextFlight wc_X5_nextFlight wn_X5 (c_X5_nextFlight l D q k a b o  _ hN) (va_recv (q := (RX5, TX5, 19)) (ci := 5) (q0 := 23) hK hP rfl rfl) (xpre hP hD hG) rfl rfl hl.1 rfl (lv_room (Nat.le_of_ble_eq_true rfl)) dX5_rationed_75) ?_
    refine lv_istore_n (lv' := [(2, .int r75), (1, .int 0), (0, .ref (q 23))]) hx hb dX5_rationed_78 rfl hl (by decide) rfl (fun ls hl => ?_)
    exact t_X5_rationed_79 ⟨hx, hb, hml, hr, hlocks, hown, hno, hG⟩  1000 hP hD hS (lv_sub hl [2, 1, 0] rfl) hf
  · rw [if_neg hc] at hf
    refine lv_aload_n hx hb dX5_rationed_59 rfl (lv_at hl 0 rfl) ?_
    refine va_get (D := D) (ci := 5) (v := .ref (q 33)) (C := RX5) (T := TX5) (N := 19) hx hb (hwX5 hE) (fun _ h => h) hown hK hP 23 rfl rfl 11 (by decide) (hE _ fl_X5_38 rfl _) (fun _ h9 => h9) rfl dX5_rationed_60 ?_
    refine lv_iload_n hx hb dX5_rationed_63 rfl (lv_at hl 1 rfl) ?_
    refine lv_iconst (v := 0) hx hb dX5_rationed_64 (by decide) ?_
    obtain ⟨hin, hf⟩ := xguard hf
    refine va_zast hx hb hK hP hD hS 33 1 rfl rfl hin dX5_rationed_65 (fun H locs hP hD hS => ?_)
    rw [xw_s33] at hP hD
    exact t_X5_rationed_66 ⟨hx, hb, hml, hr, hlocks, hown, hno, hG⟩ hP hD hS hK51 (lv_sub hl [0, 1] rfl) hf
noncomputable def g_X5_rationed_51  : Nat → xT → Int32 → Option (Int32 × xT) := fun n => Nat.rec (motive := fun _ => xT → Int32 → Option (Int32 × xT)) (fun _ _ => none) (fun _ ih => g_X5_rationed_51s ih) n
set_option maxHeartbeats 4000000 in
theorem t_X5_rationed_51 {p : Program} {l : Launch} {e : Env} {s : State} {m : MethodId} {args : Array Value} {below : List Frame} {meth : Method} {c : Code} {D : va_G} {q : Nat → Nat} {k : Nat → ClassId} {a : xT} {o : Nat → Int64} {z : xT} {y : Int32 × xT} (C : xCx p s m meth c cX5_rationed 4 (some .int) RX5 D k)  (n : Nat) : ∀ {b : xT} {v1 : Int32} {ls : Array Slot} {H : Heap} {locs : List Loc}, va_P D vwCl (xw q k a b o) H → va_D (va_A (xw q k a z o) s.heap.size) (xw q k a b o) → va_S (va_A (xw q k a z o) s.heap.size) s.heap H locs → lv_has ls 4 [(0, .ref (q 23)), (1, .int v1)] → g_X5_rationed_51  n b v1 = some y → W p l e r_X5_rationed s m args below meth c H locs 0 0 (xMQ below (xQm D q k a z o (.inr (some (.int y.1), a, y.2))) args s 0 0 (va_A (xw q k a z o) s.heap.size)) (F0 m 51 ls []) := by
  induction n with
  | zero =>
    intro _ _ _ _ _ _ _ _ _ hf
    have h9 : (none : Option (Int32 × xT)) = some y := hf
    cases h9
  | succ n ih =>
    intro _ _ _ _ _ hP hD hS hl hf
    exact t_X5_rationed_51s C hP hD hS (K51 := g_X5_rationed_51  n) ih hl hf
noncomputable def g_X5_rationed_43 (K7 : xT → Int32 → Option (Int32 × xT)) (b : xT) (v1 : Int32) : Option (Int32 × xT) := K7 b (v1 + 1)
set_option maxHeartbeats 4000000 in
set_option maxRecDepth 100000 in
theorem t_X5_rationed_43 {p : Program} {l : Launch} {e : Env} {s : State} {m : MethodId} {args : Array Value} {below : List Frame} {meth : Method} {c : Code} {D : va_G} {q : Nat → Nat} {k : Nat → ClassId} {a b : xT} {o : Nat → Int64} {z : xT} {y : Int32 × xT} (C : xCx p s m meth c cX5_rationed 4 (some .int) RX5 D k) {H : Heap} {locs : List Loc} (hP : va_P D vwCl (xw q k a b o) H) (hD : va_D (va_A (xw q k a z o) s.heap.size) (xw q k a b o)) (hS : va_S (va_A (xw q k a z o) s.heap.size) s.heap H locs) {K7 : xT → Int32 → Option (Int32 × xT)} (hK7 : ∀ {b : xT} {v1 : Int32} {ls : Array Slot} {H : Heap} {locs : List Loc}, va_P D vwCl (xw q k a b o) H → va_D (va_A (xw q k a z o) s.heap.size) (xw q k a b o) → va_S (va_A (xw q k a z o) s.heap.size) s.heap H locs → lv_has ls 4 [(0, .ref (q 23)), (1, .int v1)] → K7 b v1 = some y → W p l e r_X5_rationed s m args below meth c H locs 0 0 (xMQ below (xQm D q k a z o (.inr (some (.int y.1), a, y.2))) args s 0 0 (va_A (xw q k a z o) s.heap.size)) (F0 m 7 ls [])) {v1 : Int32} {ls : Array Slot} (hl : lv_has ls 4 [(0, .ref (q 23)), (1, .int v1)]) (hf : g_X5_rationed_43 K7 b v1 = some y) : W p l e r_X5_rationed s m args below meth c H locs 0 0 (xMQ below (xQm D q k a z o (.inr (some (.int y.1), a, y.2))) args s 0 0 (va_A (xw q k a z o) s.heap.size)) (F0 m 43 ls []) := by
  obtain ⟨hx, hb, hml, hr, hlocks, hown, hno, hG⟩ := C
  have hK := hG.1
  have hE := hG.2.1
  have hA : ∀ u, s.heap.size ≤ u → va_A (xw q k a z o) s.heap.size u := fun u h => Or.inr h
  unfold g_X5_rationed_43 at hf
  refine lv_iinc (k := 1) (v := v1 + 1) (lv' := [(1, .int (v1 + 1)), (0, .ref (q 23))]) hx hb dX5_rationed_43 hl rfl (xinc (by decide) _) (by decide) rfl (fun ls hl => ?_)
  refine lv_goto hx hb dX5_rationed_46 rfl ?_
  exact hK7 hP hD hS (lv_sub hl [1, 0] rfl) hf
noncomputable def g_X5_rationed_7s (K7 : xT → Int32 → Option (Int32 × xT)) (b : xT) (v1 : Int32) : Option (Int32 × xT) := (if 240 ≤ v1 then g_X5_rationed_51  1000 b 0 else (if xin v1 240 = true then (if (b.1 0 v1.toNatClampNeg) = 0 then g_X5_rationed_43 K7 b v1 else ((f_X5_isFrozen b v1).bind fun r25 => (if r25 = 0 then ((f_X5_empty b v1).bind fun z33 => (if xin v1 240 = true then g_X5_rationed_43 K7 (xs z33 1 v1.toNatClampNeg (-1)) v1 else none)) else g_X5_rationed_43 K7 b v1))) else none))
set_option maxHeartbeats 4000000 in
set_option maxRecDepth 100000 in
theorem t_X5_rationed_7s {p : Program} {l : Launch} {e : Env} {s : State} {m : MethodId} {args : Array Value} {below : List Frame} {meth : Method} {c : Code} {D : va_G} {q : Nat → Nat} {k : Nat → ClassId} {a b : xT} {o : Nat → Int64} {z : xT} {y : Int32 × xT} (C : xCx p s m meth c cX5_rationed 4 (some .int) RX5 D k) {H : Heap} {locs : List Loc} (hP : va_P D vwCl (xw q k a b o) H) (hD : va_D (va_A (xw q k a z o) s.heap.size) (xw q k a b o)) (hS : va_S (va_A (xw q k a z o) s.heap.size) s.heap H locs) {K7 : xT → Int32 → Option (Int32 × xT)} (hK7 : ∀ {b : xT} {v1 : Int32} {ls : Array Slot} {H : Heap} {locs : List Loc}, va_P D vwCl (xw q k a b o) H → va_D (va_A (xw q k a z o) s.heap.size) (xw q k a b o) → va_S (va_A (xw q k a z o) s.heap.size) s.heap H locs → lv_has ls 4 [(0, .ref (q 23)), (1, .int v1)] → K7 b v1 = some y → W p l e r_X5_rationed s m args below meth c H locs 0 0 (xMQ below (xQm D q k a z o (.inr (some (.int y.1), a, y.2))) args s 0 0 (va_A (xw q k a z o) s.heap.size)) (F0 m 7 ls [])) {v1 : Int32} {ls : Array Slot} (hl : lv_has ls 4 [(0, .ref (q 23)), (1, .int v1)]) (hf : g_X5_rationed_7s K7 b v1 = some y) : W p l e r_X5_rationed s m args below meth c H locs 0 0 (xMQ below (xQm D q k a z o (.inr (some (.int y.1), a, y.2))) args s 0 0 (va_A (xw q k a z o) s.heap.size)) (F0 m 7 ls []) := by
  obtain ⟨hx, hb, hml, hr, hlocks, hown, hno, hG⟩ := C
  have hK := hG.1
  have hE := hG.2.1
  have hA : ∀ u, s.heap.size ≤ u → va_A (xw q k a z o) s.heap.size u := fun u h => Or.inr h
  unfold g_X5_rationed_7s at hf
  refine lv_iload_n hx hb dX5_rationed_7 rfl (lv_at hl 1 rfl) ?_
  refine lv_sipush (v := 240) hx hb dX5_rationed_8 (by decide) ?_
  refine lv_icmp_ge hx hb dX5_rationed_11 rfl (fun hc => ?_) (fun hc => ?_)
  · rw [if_pos hc] at hf
    refine lv_iconst (v := 0) hx hb dX5_rationed_49 (by decide) ?_
    refine lv_istore_n (lv' := [(1, .int 0), (0, .ref (q 23))]) hx hb dX5_rationed_50 rfl hl (by decide) rfl (fun ls hl => ?_)
    exact t_X5_rationed_51 ⟨hx, hb, hml, hr, hlocks, hown, hno, hG⟩  1000 hP hD hS (lv_sub hl [1, 0] rfl) hf
  · rw [if_neg hc] at hf
    refine lv_aload_n hx hb dX5_rationed_14 rfl (lv_at hl 0 rfl) ?_
    refine va_get (D := D) (ci := 5) (v := .ref (q 24)) (C := RX5) (T := TX5) (N := 19) hx hb (hwX5 hE) (fun _ h => h) hown hK hP 23 rfl rfl 1 (by decide) (hE _ fl_X5_7 rfl _) (fun _ h9 => h9) rfl dX5_rationed_15 ?_
    refine lv_iload_n hx hb dX5_rationed_18 rfl (lv_at hl 1 rfl) ?_
    obtain ⟨hin, hf⟩ := xguard hf
    refine va_zald hx hb hK hP 24 1 rfl rfl hin dX5_rationed_19 ?_
    refine lv_if_eq hx hb dX5_rationed_20 rfl (fun hc => ?_) (fun hc => ?_)
    · rw [if_pos hc] at hf
      exact t_X5_rationed_43 ⟨hx, hb, hml, hr, hlocks, hown, hno, hG⟩ hP hD hS hK7 (lv_sub hl [0, 1] rfl) hf
    · rw [if_neg hc] at hf
      refine lv_aload_n hx hb dX5_rationed_23 rfl (lv_at hl 0 rfl) ?_
      refine lv_iload_n hx hb dX5_rationed_24 rfl (lv_at hl 1 rfl) ?_
      obtain ⟨r25, hN, hf⟩ := xbind hf
      refine xgo_r (v := some (.int r25)) (xrunV (C := RX5) (As := [.int v1]) (rest := []) (xfixm fx_X5_isFrozen hx hb hml hown (by decide) (by decide) (by decide) (by decide)) hE ml_X5_70 wi_X5_isFrozen wz_X5_isFrozen wc_X5_isFrozen wn_X5 (c_X5_isFrozen l D q k a b o v1 _ hN) (va_recv (q := (RX5, TX5, 19)) (ci := 5) (q0 := 23) hK hP rfl rfl) (xpre hP hD hG) rfl rfl hl.1 rfl (lv_room (Nat.le_of_ble_eq_true rfl)) dX5_rationed_25) ?_
      refine lv_if_ne hx hb dX5_rationed_28 rfl (fun hc => ?_) (fun hc => ?_)
      · rw [if_neg hc] at hf
        exact t_X5_rationed_43 ⟨hx, hb, hml, hr, hlocks, hown, hno, hG⟩ hP hD hS hK7 (lv_sub hl [0, 1] rfl) hf
      · rw [if_pos hc] at hf
        refine lv_aload_n hx hb dX5_rationed_31 rfl (lv_at hl 0 rfl) ?_
        refine lv_iload_n hx hb dX5_rationed_32 rfl (lv_at hl 1 rfl) ?_
        obtain ⟨z33, hN, hf⟩ := xbind hf
        refine xgo_m (v := none) (a1 := a) (b1 := z33) (xrunV (C := RX5) (As := [.int v1]) (rest := []) (xfixm fx_X5_empty hx hb hml hown (by decide) (by decide) (by decide) (by decide)) hE ml_X5_73 wi_X5_empty wz_X5_empty wc_X5_empty wn_X5 (c_X5_empty l D q k _ a b o v1 _ hN) (va_recv (q := (RX5, TX5, 19)) (ci := 5) (q0 := 23) hK hP rfl rfl) (xprem hP hD hG) rfl rfl hl.1 rfl (lv_room (Nat.le_of_ble_eq_true rfl)) dX5_rationed_33) hD hS hA (fun H locs hP hD hS => ?_)
        refine lv_aload_n hx hb dX5_rationed_36 rfl (lv_at hl 0 rfl) ?_
        refine va_get (D := D) (ci := 5) (v := .ref (q 25)) (C := RX5) (T := TX5) (N := 19) hx hb (hwX5 hE) (fun _ h => h) hown hK hP 23 rfl rfl 2 (by decide) (hE _ fl_X5_13 rfl _) (fun _ h9 => h9) rfl dX5_rationed_37 ?_
        refine lv_iload_n hx hb dX5_rationed_40 rfl (lv_at hl 1 rfl) ?_
        refine lv_iconst (v := -1) hx hb dX5_rationed_41 (by decide) ?_
        obtain ⟨hin, hf⟩ := xguard hf
        refine va_iast hx hb hK hP hD hS 25 0 rfl rfl hin dX5_rationed_42 (fun H locs hP hD hS => ?_)
        rw [xw_s25] at hP hD
        exact t_X5_rationed_43 ⟨hx, hb, hml, hr, hlocks, hown, hno, hG⟩ hP hD hS hK7 (lv_sub hl [0, 1] rfl) hf
noncomputable def g_X5_rationed_7  : Nat → xT → Int32 → Option (Int32 × xT) := fun n => Nat.rec (motive := fun _ => xT → Int32 → Option (Int32 × xT)) (fun _ _ => none) (fun _ ih => g_X5_rationed_7s ih) n
set_option maxHeartbeats 4000000 in
theorem t_X5_rationed_7 {p : Program} {l : Launch} {e : Env} {s : State} {m : MethodId} {args : Array Value} {below : List Frame} {meth : Method} {c : Code} {D : va_G} {q : Nat → Nat} {k : Nat → ClassId} {a : xT} {o : Nat → Int64} {z : xT} {y : Int32 × xT} (C : xCx p s m meth c cX5_rationed 4 (some .int) RX5 D k)  (n : Nat) : ∀ {b : xT} {v1 : Int32} {ls : Array Slot} {H : Heap} {locs : List Loc}, va_P D vwCl (xw q k a b o) H → va_D (va_A (xw q k a z o) s.heap.size) (xw q k a b o) → va_S (va_A (xw q k a z o) s.heap.size) s.heap H locs → lv_has ls 4 [(0, .ref (q 23)), (1, .int v1)] → g_X5_rationed_7  n b v1 = some y → W p l e r_X5_rationed s m args below meth c H locs 0 0 (xMQ below (xQm D q k a z o (.inr (some (.int y.1), a, y.2))) args s 0 0 (va_A (xw q k a z o) s.heap.size)) (F0 m 7 ls []) := by
  induction n with
  | zero =>
    intro _ _ _ _ _ _ _ _ _ hf
    have h9 : (none : Option (Int32 × xT)) = some y := hf
    cases h9
  | succ n ih =>
    intro _ _ _ _ _ hP hD hS hl hf
    exact t_X5_rationed_7s C hP hD hS (K7 := g_X5_rationed_7  n) ih hl hf
noncomputable def g_X5_rationed_5  (b : xT)  : Option (Int32 × xT) := g_X5_rationed_7  1000 b 0
set_option maxHeartbeats 4000000 in
set_option maxRecDepth 100000 in
theorem t_X5_rationed_5 {p : Program} {l : Launch} {e : Env} {s : State} {m : MethodId} {args : Array Value} {below : List Frame} {meth : Method} {c : Code} {D : va_G} {q : Nat → Nat} {k : Nat → ClassId} {a b : xT} {o : Nat → Int64} {z : xT} {y : Int32 × xT} (C : xCx p s m meth c cX5_rationed 4 (some .int) RX5 D k) {H : Heap} {locs : List Loc} (hP : va_P D vwCl (xw q k a b o) H) (hD : va_D (va_A (xw q k a z o) s.heap.size) (xw q k a b o)) (hS : va_S (va_A (xw q k a z o) s.heap.size) s.heap H locs)  {ls : Array Slot} (hl : lv_has ls 4 [(0, .ref (q 23))]) (hf : g_X5_rationed_5  b  = some y) : W p l e r_X5_rationed s m args below meth c H locs 0 0 (xMQ below (xQm D q k a z o (.inr (some (.int y.1), a, y.2))) args s 0 0 (va_A (xw q k a z o) s.heap.size)) (F0 m 5 ls []) := by
  obtain ⟨hx, hb, hml, hr, hlocks, hown, hno, hG⟩ := C
  have hK := hG.1
  have hE := hG.2.1
  have hA : ∀ u, s.heap.size ≤ u → va_A (xw q k a z o) s.heap.size u := fun u h => Or.inr h
  unfold g_X5_rationed_5 at hf
  refine lv_iconst (v := 0) hx hb dX5_rationed_5 (by decide) ?_
  refine lv_istore_n (lv' := [(1, .int 0), (0, .ref (q 23))]) hx hb dX5_rationed_6 rfl hl (by decide) rfl (fun ls hl => ?_)
  exact t_X5_rationed_7 ⟨hx, hb, hml, hr, hlocks, hown, hno, hG⟩  1000 hP hD hS (lv_sub hl [1, 0] rfl) hf
noncomputable def g_X5_rationed_0  (b : xT)  : Option (Int32 × xT) := g_X5_rationed_5  (xn b 3 0) 
set_option maxHeartbeats 4000000 in
set_option maxRecDepth 100000 in
theorem t_X5_rationed_0 {p : Program} {l : Launch} {e : Env} {s : State} {m : MethodId} {args : Array Value} {below : List Frame} {meth : Method} {c : Code} {D : va_G} {q : Nat → Nat} {k : Nat → ClassId} {a b : xT} {o : Nat → Int64} {z : xT} {y : Int32 × xT} (C : xCx p s m meth c cX5_rationed 4 (some .int) RX5 D k) {H : Heap} {locs : List Loc} (hP : va_P D vwCl (xw q k a b o) H) (hD : va_D (va_A (xw q k a z o) s.heap.size) (xw q k a b o)) (hS : va_S (va_A (xw q k a z o) s.heap.size) s.heap H locs)  {ls : Array Slot} (hl : lv_has ls 4 [(0, .ref (q 23))]) (hf : g_X5_rationed_0  b  = some y) : W p l e r_X5_rationed s m args below meth c H locs 0 0 (xMQ below (xQm D q k a z o (.inr (some (.int y.1), a, y.2))) args s 0 0 (va_A (xw q k a z o) s.heap.size)) (F0 m 0 ls []) := by
  obtain ⟨hx, hb, hml, hr, hlocks, hown, hno, hG⟩ := C
  have hK := hG.1
  have hE := hG.2.1
  have hA : ∀ u, s.heap.size ≤ u → va_A (xw q k a z o) s.heap.size u := fun u h => Or.inr h
  unfold g_X5_rationed_0 at hf
  refine lv_aload_n hx hb dX5_rationed_0 rfl (lv_at hl 0 rfl) ?_
  refine lv_iconst (v := 0) hx hb dX5_rationed_1 (by decide) ?_
  refine va_put (D := D) (ci := 5) (v := .int 0) (ty := .int) (C := RX5) (T := TX5) (N := 19) hx hb (hwX5 hE) (fun _ h => h) tyX5 tyX5_ok nmX5 hown hK hP hD hS 23 rfl rfl 17 (by decide) (hE _ fl_X5_63 rfl _) (fun _ h9 => h9) rfl (by decide +kernel) rfl rfl (Nat.le_of_ble_eq_true rfl) dX5_rationed_2 (fun H locs hP hD hS => ?_)
  rw [xw_n23_17] at hP hD
  exact t_X5_rationed_5 ⟨hx, hb, hml, hr, hlocks, hown, hno, hG⟩ hP hD hS  (lv_sub hl [0] rfl) hf
noncomputable def f_X5_rationed (b : xT)  : Option (Int32 × xT) := g_X5_rationed_0 b 
set_option maxHeartbeats 4000000 in
set_option maxRecDepth 100000 in
theorem c_X5_rationed (l : Launch) (D : va_G) (q : Nat → Nat) (k : Nat → ClassId) (sz : Nat) (a b : xT) (o : Nat → Int64)  (y : Int32 × xT) (hf : f_X5_rationed b  = some y) : xMet l yX5_rationed (.code yX5_rationed cX5_rationed 4 (some .int)) r_X5_rationed (xPcm D q k sz a b o [.ref (q 23)]) (xQm D q k a b o (.inr (some (.int y.1), a, y.2))) 0 0 (va_A (xw q k a b o) sz) := by
  refine xMet.ofW (by decide) ?_
  intro p e s m args below meth c hx hb hml hr hlocks hnm hme hno hv
  obtain ⟨rfl, hsz, hP, hD, hG⟩ := hv
  subst hsz
  have hown : s.vm.findClass RX5 = some m.cls := findClass_of_methodNamed hnm
  have hl := lv_entry ([.ref (q 23)]) (n := 4) (Nat.le_of_ble_eq_true rfl)
  rw [lg_entry_eq]
  generalize (lg_sl ([.ref (q 23)]) ++ List.replicate (4 - (lg_sl ([.ref (q 23)])).length) Slot.unset).toArray = ls at hl ⊢
  have hl : lv_has ls 4 [(0, .ref (q 23))] := hl
  have hD := hD.self (sz := s.heap.size)
  exact t_X5_rationed_0 ⟨hx, hb, hml, hr, hlocks, hown, hno, hG⟩ hP hD va_S.rf hl hf
abbrev r_X5_rate : Room := { frames := 3, cells := 0, slots := 0, locals := 66 }
noncomputable def g_X5_rate_155 (K111 : xT → Int32 → Int32 → Int32 → Option (Int32 × xT)) (b : xT) (v1 : Int32) (v2 : Int32) (v3 : Int32) : Option (Int32 × xT) := K111 b v1 v2 (v3 + 1)
set_option maxHeartbeats 4000000 in
set_option maxRecDepth 100000 in
theorem t_X5_rate_155 {p : Program} {l : Launch} {e : Env} {s : State} {m : MethodId} {args : Array Value} {below : List Frame} {meth : Method} {c : Code} {D : va_G} {q : Nat → Nat} {k : Nat → ClassId} {a b : xT} {o : Nat → Int64} {z : xT} {y : Int32 × xT} (C : xCx p s m meth c cX5_rate 5 (some .int) RX5 D k) {H : Heap} {locs : List Loc} (hP : va_P D vwCl (xw q k a b o) H) (hD : va_D (va_A (xw q k a z o) s.heap.size) (xw q k a b o)) (hS : va_S (va_A (xw q k a z o) s.heap.size) s.heap H locs) {K111 : xT → Int32 → Int32 → Int32 → Option (Int32 × xT)} (hK111 : ∀ {b : xT} {v1 v2 v3 : Int32} {ls : Array Slot} {H : Heap} {locs : List Loc}, va_P D vwCl (xw q k a b o) H → va_D (va_A (xw q k a z o) s.heap.size) (xw q k a b o) → va_S (va_A (xw q k a z o) s.heap.size) s.heap H locs → lv_has ls 5 [(0, .ref (q 23)), (1, .int v1), (2, .int v2), (3, .int v3)] → K111 b v1 v2 v3 = some y → W p l e r_X5_rate s m args below meth c H locs 0 0 (xMQ below (xQm D q k a z o (.inr (some (.int y.1), a, y.2))) args s 0 0 (va_A (xw q k a z o) s.heap.size)) (F0 m 111 ls [])) {v1 v2 v3 : Int32} {ls : Array Slot} (hl : lv_has ls 5 [(0, .ref (q 23)), (1, .int v1), (2, .int v2), (3, .int v3)]) (hf : g_X5_rate_155 K111 b v1 v2 v3 = some y) : W p l e r_X5_rate s m args below meth c H locs 0 0 (xMQ below (xQm D q k a z o (.inr (some (.int y.1), a, y.2))) args s 0 0 (va_A (xw q k a z o) s.heap.size)) (F0 m 155 ls []) := by
  obtain ⟨hx, hb, hml, hr, hlocks, hown, hno, hG⟩ := C
  have hK := hG.1
  have hE := hG.2.1
  have hA : ∀ u, s.heap.size ≤ u → va_A (xw q k a z o) s.heap.size u := fun u h => Or.inr h
  unfold g_X5_rate_155 at hf
  refine lv_iinc (k := 3) (v := v3 + 1) (lv' := [(3, .int (v3 + 1)), (0, .ref (q 23)), (1, .int v1), (2, .int v2)]) hx hb dX5_rate_155 hl rfl (xinc (by decide) _) (by decide) rfl (fun ls hl => ?_)
  refine lv_goto hx hb dX5_rate_158 rfl ?_
  exact hK111 hP hD hS (lv_sub hl [1, 2, 3, 0] rfl) hf
noncomputable def g_X5_rate_147 (K111 : xT → Int32 → Int32 → Int32 → Option (Int32 × xT)) (b : xT) (v1 : Int32) (v2 : Int32) (v3 : Int32) (v4 : Int32) : Option (Int32 × xT) := (if xin v3 240 = true then g_X5_rate_155 K111 (xs b 0 v3.toNatClampNeg (vp_nar .boolean v4)) v1 v2 v3 else none)
set_option maxHeartbeats 4000000 in
set_option maxRecDepth 100000 in
theorem t_X5_rate_147 {p : Program} {l : Launch} {e : Env} {s : State} {m : MethodId} {args : Array Value} {below : List Frame} {meth : Method} {c : Code} {D : va_G} {q : Nat → Nat} {k : Nat → ClassId} {a b : xT} {o : Nat → Int64} {z : xT} {y : Int32 × xT} (C : xCx p s m meth c cX5_rate 5 (some .int) RX5 D k) {H : Heap} {locs : List Loc} (hP : va_P D vwCl (xw q k a b o) H) (hD : va_D (va_A (xw q k a z o) s.heap.size) (xw q k a b o)) (hS : va_S (va_A (xw q k a z o) s.heap.size) s.heap H locs) {K111 : xT → Int32 → Int32 → Int32 → Option (Int32 × xT)} (hK111 : ∀ {b : xT} {v1 v2 v3 : Int32} {ls : Array Slot} {H : Heap} {locs : List Loc}, va_P D vwCl (xw q k a b o) H → va_D (va_A (xw q k a z o) s.heap.size) (xw q k a b o) → va_S (va_A (xw q k a z o) s.heap.size) s.heap H locs → lv_has ls 5 [(0, .ref (q 23)), (1, .int v1), (2, .int v2), (3, .int v3)] → K111 b v1 v2 v3 = some y → W p l e r_X5_rate s m args below meth c H locs 0 0 (xMQ below (xQm D q k a z o (.inr (some (.int y.1), a, y.2))) args s 0 0 (va_A (xw q k a z o) s.heap.size)) (F0 m 111 ls [])) {v1 v2 v3 v4 : Int32} {ls : Array Slot} (hl : lv_has ls 5 [(0, .ref (q 23)), (1, .int v1), (2, .int v2), (3, .int v3), (4, .int v4)]) (hf : g_X5_rate_147 K111 b v1 v2 v3 v4 = some y) : W p l e r_X5_rate s m args below meth c H locs 0 0 (xMQ below (xQm D q k a z o (.inr (some (.int y.1), a, y.2))) args s 0 0 (va_A (xw q k a z o) s.heap.size)) (F0 m 147 ls []) := by
  obtain ⟨hx, hb, hml, hr, hlocks, hown, hno, hG⟩ := C
  have hK := hG.1
  have hE := hG.2.1
  have hA : ∀ u, s.heap.size ≤ u → va_A (xw q k a z o) s.heap.size u := fun u h => Or.inr h
  unfold g_X5_rate_147 at hf
  refine lv_aload_n hx hb dX5_rate_147 rfl (lv_at hl 0 rfl) ?_
  refine va_get (D := D) (ci := 5) (v := .ref (q 24)) (C := RX5) (T := TX5) (N := 19) hx hb (hwX5 hE) (fun _ h => h) hown hK hP 23 rfl rfl 1 (by decide) (hE _ fl_X5_7 rfl _) (fun _ h9 => h9) rfl dX5_rate_148 ?_
  refine lv_iload_n hx hb dX5_rate_151 rfl (lv_at hl 3 rfl) ?_
  refine lv_iload hx hb dX5_rate_152 (lv_at hl 4 rfl) ?_
  obtain ⟨hin, hf⟩ := xguard hf
  refine va_zast hx hb hK hP hD hS 24 1 rfl rfl hin dX5_rate_154 (fun H locs hP hD hS => ?_)
  rw [xw_s24] at hP hD
  exact t_X5_rate_155 ⟨hx, hb, hml, hr, hlocks, hown, hno, hG⟩ hP hD hS hK111 (lv_sub hl [0, 1, 2, 3] rfl) hf
noncomputable def g_X5_rate_111s (K111 : xT → Int32 → Int32 → Int32 → Option (Int32 × xT)) (b : xT) (v1 : Int32) (v2 : Int32) (v3 : Int32) : Option (Int32 × xT) := (if ((15 * v1) + 15) ≤ v3 then ((f_X5_rationed b ).bind fun z162 => some (z162.1, z162.2)) else ((f_X5_has b v1 v2 v3).bind fun r125 => (if r125 = 0 then ((f_X5_empty b v3).bind fun z137 => (if xin v3 240 = true then g_X5_rate_147 K111 (xs z137 1 v3.toNatClampNeg (-1)) v1 v2 v3 r125 else none)) else g_X5_rate_147 K111 b v1 v2 v3 r125)))
set_option maxHeartbeats 4000000 in
set_option maxRecDepth 100000 in
theorem t_X5_rate_111s {p : Program} {l : Launch} {e : Env} {s : State} {m : MethodId} {args : Array Value} {below : List Frame} {meth : Method} {c : Code} {D : va_G} {q : Nat → Nat} {k : Nat → ClassId} {a b : xT} {o : Nat → Int64} {z : xT} {y : Int32 × xT} (C : xCx p s m meth c cX5_rate 5 (some .int) RX5 D k) {H : Heap} {locs : List Loc} (hP : va_P D vwCl (xw q k a b o) H) (hD : va_D (va_A (xw q k a z o) s.heap.size) (xw q k a b o)) (hS : va_S (va_A (xw q k a z o) s.heap.size) s.heap H locs) {K111 : xT → Int32 → Int32 → Int32 → Option (Int32 × xT)} (hK111 : ∀ {b : xT} {v1 v2 v3 : Int32} {ls : Array Slot} {H : Heap} {locs : List Loc}, va_P D vwCl (xw q k a b o) H → va_D (va_A (xw q k a z o) s.heap.size) (xw q k a b o) → va_S (va_A (xw q k a z o) s.heap.size) s.heap H locs → lv_has ls 5 [(0, .ref (q 23)), (1, .int v1), (2, .int v2), (3, .int v3)] → K111 b v1 v2 v3 = some y → W p l e r_X5_rate s m args below meth c H locs 0 0 (xMQ below (xQm D q k a z o (.inr (some (.int y.1), a, y.2))) args s 0 0 (va_A (xw q k a z o) s.heap.size)) (F0 m 111 ls [])) {v1 v2 v3 : Int32} {ls : Array Slot} (hl : lv_has ls 5 [(0, .ref (q 23)), (1, .int v1), (2, .int v2), (3, .int v3)]) (hf : g_X5_rate_111s K111 b v1 v2 v3 = some y) : W p l e r_X5_rate s m args below meth c H locs 0 0 (xMQ below (xQm D q k a z o (.inr (some (.int y.1), a, y.2))) args s 0 0 (va_A (xw q k a z o) s.heap.size)) (F0 m 111 ls []) := by
  obtain ⟨hx, hb, hml, hr, hlocks, hown, hno, hG⟩ := C
  have hK := hG.1
  have hE := hG.2.1
  have hA : ∀ u, s.heap.size ≤ u → va_A (xw q k a z o) s.heap.size u := fun u h => Or.inr h
  unfold g_X5_rate_111s at hf
  refine lv_iload_n hx hb dX5_rate_111 rfl (lv_at hl 3 rfl) ?_
  refine lv_bipush (v := 15) hx hb dX5_rate_112 (by decide) ?_
  refine lv_iload_n hx hb dX5_rate_114 rfl (lv_at hl 1 rfl) ?_
  refine lv_imul hx hb dX5_rate_115 ?_
  refine lv_bipush (v := 15) hx hb dX5_rate_116 (by decide) ?_
  refine lv_iadd hx hb dX5_rate_118 ?_
  refine lv_icmp_ge hx hb dX5_rate_119 rfl (fun hc => ?_) (fun hc => ?_)
  · rw [if_pos hc] at hf
    refine lv_aload_n hx hb dX5_rate_161 rfl (lv_at hl 0 rfl) ?_
    obtain ⟨z162, hN, hf⟩ := xbind hf
    refine xgo_m (v := some (.int z162.1)) (a1 := a) (b1 := z162.2) (xrunV (C := RX5) (As := []) (rest := []) (xfixm fx_X5_rationed hx hb hml hown (by decide) (by decide) (by decide) (by decide)) hE ml_X5_81 wi_X5_rationed wz_X5_rationed wc_X5_rationed wn_X5 (c_X5_rationed l D q k _ a b o  _ hN) (va_recv (q := (RX5, TX5, 19)) (ci := 5) (q0 := 23) hK hP rfl rfl) (xprem hP hD hG) rfl rfl hl.1 rfl (lv_room (Nat.le_of_ble_eq_true rfl)) dX5_rate_162) hD hS hA (fun H locs hP hD hS => ?_)
    cases hf
    exact xretm_i hx hb hr hlocks hP hS dX5_rate_165
  · rw [if_neg hc] at hf
    refine lv_iload_n hx hb dX5_rate_122 rfl (lv_at hl 1 rfl) ?_
    refine lv_iload_n hx hb dX5_rate_123 rfl (lv_at hl 2 rfl) ?_
    refine lv_iload_n hx hb dX5_rate_124 rfl (lv_at hl 3 rfl) ?_
    obtain ⟨r125, hN, hf⟩ := xbind hf
    refine xgo_r (v := some (.int r125)) (xrunS (As := [.int v1, .int v2, .int v3]) (rest := []) (xfixm fx_X5_has hx hb hml hown (by decide) (by decide) (by decide) (by decide)) hE ml_X5_88 wt_X5_has wc_X5_has wn_X5 (c_X5_has l D q k a b o v1 v2 v3 _ hN) (xpre hP hD hG) rfl rfl hl.1 rfl (lv_room (Nat.le_of_ble_eq_true rfl)) dX5_rate_125) ?_
    refine lv_istore (lv' := [(4, .int r125), (0, .ref (q 23)), (1, .int v1), (2, .int v2), (3, .int v3)]) hx hb dX5_rate_128 hl (by decide) rfl (fun ls hl => ?_)
    refine lv_iload hx hb dX5_rate_130 (lv_at hl 0 rfl) ?_
    refine lv_if_ne hx hb dX5_rate_132 rfl (fun hc => ?_) (fun hc => ?_)
    · rw [if_neg hc] at hf
      exact t_X5_rate_147 ⟨hx, hb, hml, hr, hlocks, hown, hno, hG⟩ hP hD hS hK111 (lv_sub hl [1, 2, 3, 4, 0] rfl) hf
    · rw [if_pos hc] at hf
      refine lv_aload_n hx hb dX5_rate_135 rfl (lv_at hl 1 rfl) ?_
      refine lv_iload_n hx hb dX5_rate_136 rfl (lv_at hl 4 rfl) ?_
      obtain ⟨z137, hN, hf⟩ := xbind hf
      refine xgo_m (v := none) (a1 := a) (b1 := z137) (xrunV (C := RX5) (As := [.int v3]) (rest := []) (xfixm fx_X5_empty hx hb hml hown (by decide) (by decide) (by decide) (by decide)) hE ml_X5_73 wi_X5_empty wz_X5_empty wc_X5_empty wn_X5 (c_X5_empty l D q k _ a b o v3 _ hN) (va_recv (q := (RX5, TX5, 19)) (ci := 5) (q0 := 23) hK hP rfl rfl) (xprem hP hD hG) rfl rfl hl.1 rfl (lv_room (Nat.le_of_ble_eq_true rfl)) dX5_rate_137) hD hS hA (fun H locs hP hD hS => ?_)
      refine lv_aload_n hx hb dX5_rate_140 rfl (lv_at hl 1 rfl) ?_
      refine va_get (D := D) (ci := 5) (v := .ref (q 25)) (C := RX5) (T := TX5) (N := 19) hx hb (hwX5 hE) (fun _ h => h) hown hK hP 23 rfl rfl 2 (by decide) (hE _ fl_X5_13 rfl _) (fun _ h9 => h9) rfl dX5_rate_141 ?_
      refine lv_iload_n hx hb dX5_rate_144 rfl (lv_at hl 4 rfl) ?_
      refine lv_iconst (v := -1) hx hb dX5_rate_145 (by decide) ?_
      obtain ⟨hin, hf⟩ := xguard hf
      refine va_iast hx hb hK hP hD hS 25 0 rfl rfl hin dX5_rate_146 (fun H locs hP hD hS => ?_)
      rw [xw_s25] at hP hD
      exact t_X5_rate_147 ⟨hx, hb, hml, hr, hlocks, hown, hno, hG⟩ hP hD hS hK111 (lv_sub hl [1, 2, 3, 4, 0] rfl) hf
noncomputable def g_X5_rate_111  : Nat → xT → Int32 → Int32 → Int32 → Option (Int32 × xT) := fun n => Nat.rec (motive := fun _ => xT → Int32 → Int32 → Int32 → Option (Int32 × xT)) (fun _ _ _ _ => none) (fun _ ih => g_X5_rate_111s ih) n
set_option maxHeartbeats 4000000 in
theorem t_X5_rate_111 {p : Program} {l : Launch} {e : Env} {s : State} {m : MethodId} {args : Array Value} {below : List Frame} {meth : Method} {c : Code} {D : va_G} {q : Nat → Nat} {k : Nat → ClassId} {a : xT} {o : Nat → Int64} {z : xT} {y : Int32 × xT} (C : xCx p s m meth c cX5_rate 5 (some .int) RX5 D k)  (n : Nat) : ∀ {b : xT} {v1 v2 v3 : Int32} {ls : Array Slot} {H : Heap} {locs : List Loc}, va_P D vwCl (xw q k a b o) H → va_D (va_A (xw q k a z o) s.heap.size) (xw q k a b o) → va_S (va_A (xw q k a z o) s.heap.size) s.heap H locs → lv_has ls 5 [(0, .ref (q 23)), (1, .int v1), (2, .int v2), (3, .int v3)] → g_X5_rate_111  n b v1 v2 v3 = some y → W p l e r_X5_rate s m args below meth c H locs 0 0 (xMQ below (xQm D q k a z o (.inr (some (.int y.1), a, y.2))) args s 0 0 (va_A (xw q k a z o) s.heap.size)) (F0 m 111 ls []) := by
  induction n with
  | zero =>
    intro _ _ _ _ _ _ _ _ _ _ _ hf
    have h9 : (none : Option (Int32 × xT)) = some y := hf
    cases h9
  | succ n ih =>
    intro _ _ _ _ _ _ _ hP hD hS hl hf
    exact t_X5_rate_111s C hP hD hS (K111 := g_X5_rate_111  n) ih hl hf
noncomputable def g_X5_rate_97  (b : xT) (v1 : Int32) (v2 : Int32) : Option (Int32 × xT) := (if (b.2 0) ≤ 0 then g_X5_rate_111  1000 b v1 v2 (15 * v1) else some (0, b))
set_option maxHeartbeats 4000000 in
set_option maxRecDepth 100000 in
theorem t_X5_rate_97 {p : Program} {l : Launch} {e : Env} {s : State} {m : MethodId} {args : Array Value} {below : List Frame} {meth : Method} {c : Code} {D : va_G} {q : Nat → Nat} {k : Nat → ClassId} {a b : xT} {o : Nat → Int64} {z : xT} {y : Int32 × xT} (C : xCx p s m meth c cX5_rate 5 (some .int) RX5 D k) {H : Heap} {locs : List Loc} (hP : va_P D vwCl (xw q k a b o) H) (hD : va_D (va_A (xw q k a z o) s.heap.size) (xw q k a b o)) (hS : va_S (va_A (xw q k a z o) s.heap.size) s.heap H locs)  {v1 v2 : Int32} {ls : Array Slot} (hl : lv_has ls 5 [(0, .ref (q 23)), (1, .int v1), (2, .int v2)]) (hf : g_X5_rate_97  b v1 v2 = some y) : W p l e r_X5_rate s m args below meth c H locs 0 0 (xMQ below (xQm D q k a z o (.inr (some (.int y.1), a, y.2))) args s 0 0 (va_A (xw q k a z o) s.heap.size)) (F0 m 97 ls []) := by
  obtain ⟨hx, hb, hml, hr, hlocks, hown, hno, hG⟩ := C
  have hK := hG.1
  have hE := hG.2.1
  have hA : ∀ u, s.heap.size ≤ u → va_A (xw q k a z o) s.heap.size u := fun u h => Or.inr h
  unfold g_X5_rate_97 at hf
  refine lv_aload_n hx hb dX5_rate_97 rfl (lv_at hl 0 rfl) ?_
  refine va_get (D := D) (ci := 5) (v := .int (b.2 0)) (C := RX5) (T := TX5) (N := 19) hx hb (hwX5 hE) (fun _ h => h) hown hK hP 23 rfl rfl 0 (by decide) (hE _ fl_X5_56 rfl _) (fun _ h9 => h9) rfl dX5_rate_98 ?_
  refine lv_if_le hx hb dX5_rate_101 rfl (fun hc => ?_) (fun hc => ?_)
  · rw [if_pos hc] at hf
    refine lv_bipush (v := 15) hx hb dX5_rate_106 (by decide) ?_
    refine lv_iload_n hx hb dX5_rate_108 rfl (lv_at hl 1 rfl) ?_
    refine lv_imul hx hb dX5_rate_109 ?_
    refine lv_istore_n (lv' := [(3, .int (15 * v1)), (0, .ref (q 23)), (1, .int v1), (2, .int v2)]) hx hb dX5_rate_110 rfl hl (by decide) rfl (fun ls hl => ?_)
    exact t_X5_rate_111 ⟨hx, hb, hml, hr, hlocks, hown, hno, hG⟩  1000 hP hD hS (lv_sub hl [1, 2, 3, 0] rfl) hf
  · rw [if_neg hc] at hf
    refine lv_iconst (v := 0) hx hb dX5_rate_104 (by decide) ?_
    cases hf
    exact xretm_i hx hb hr hlocks hP hS dX5_rate_105
noncomputable def g_X5_rate_91 (K34 : xT → Int32 → Int32 → Int32 → Option (Int32 × xT)) (b : xT) (v1 : Int32) (v2 : Int32) (v3 : Int32) : Option (Int32 × xT) := K34 b v1 v2 (v3 + 1)
set_option maxHeartbeats 4000000 in
set_option maxRecDepth 100000 in
theorem t_X5_rate_91 {p : Program} {l : Launch} {e : Env} {s : State} {m : MethodId} {args : Array Value} {below : List Frame} {meth : Method} {c : Code} {D : va_G} {q : Nat → Nat} {k : Nat → ClassId} {a b : xT} {o : Nat → Int64} {z : xT} {y : Int32 × xT} (C : xCx p s m meth c cX5_rate 5 (some .int) RX5 D k) {H : Heap} {locs : List Loc} (hP : va_P D vwCl (xw q k a b o) H) (hD : va_D (va_A (xw q k a z o) s.heap.size) (xw q k a b o)) (hS : va_S (va_A (xw q k a z o) s.heap.size) s.heap H locs) {K34 : xT → Int32 → Int32 → Int32 → Option (Int32 × xT)} (hK34 : ∀ {b : xT} {v1 v2 v3 : Int32} {ls : Array Slot} {H : Heap} {locs : List Loc}, va_P D vwCl (xw q k a b o) H → va_D (va_A (xw q k a z o) s.heap.size) (xw q k a b o) → va_S (va_A (xw q k a z o) s.heap.size) s.heap H locs → lv_has ls 5 [(0, .ref (q 23)), (1, .int v1), (2, .int v2), (3, .int v3)] → K34 b v1 v2 v3 = some y → W p l e r_X5_rate s m args below meth c H locs 0 0 (xMQ below (xQm D q k a z o (.inr (some (.int y.1), a, y.2))) args s 0 0 (va_A (xw q k a z o) s.heap.size)) (F0 m 34 ls [])) {v1 v2 v3 : Int32} {ls : Array Slot} (hl : lv_has ls 5 [(0, .ref (q 23)), (1, .int v1), (2, .int v2), (3, .int v3)]) (hf : g_X5_rate_91 K34 b v1 v2 v3 = some y) : W p l e r_X5_rate s m args below meth c H locs 0 0 (xMQ below (xQm D q k a z o (.inr (some (.int y.1), a, y.2))) args s 0 0 (va_A (xw q k a z o) s.heap.size)) (F0 m 91 ls []) := by
  obtain ⟨hx, hb, hml, hr, hlocks, hown, hno, hG⟩ := C
  have hK := hG.1
  have hE := hG.2.1
  have hA : ∀ u, s.heap.size ≤ u → va_A (xw q k a z o) s.heap.size u := fun u h => Or.inr h
  unfold g_X5_rate_91 at hf
  refine lv_iinc (k := 3) (v := v3 + 1) (lv' := [(3, .int (v3 + 1)), (0, .ref (q 23)), (1, .int v1), (2, .int v2)]) hx hb dX5_rate_91 hl rfl (xinc (by decide) _) (by decide) rfl (fun ls hl => ?_)
  refine lv_goto hx hb dX5_rate_94 rfl ?_
  exact hK34 hP hD hS (lv_sub hl [1, 2, 3, 0] rfl) hf
noncomputable def g_X5_rate_88 (K34 : xT → Int32 → Int32 → Int32 → Option (Int32 × xT)) (b : xT) (v1 : Int32) (v2 : Int32) (v3 : Int32) (s1 : Int32) : Option (Int32 × xT) := g_X5_rate_91 K34 (xn b 0 s1) v1 v2 v3
set_option maxHeartbeats 4000000 in
set_option maxRecDepth 100000 in
theorem t_X5_rate_88 {p : Program} {l : Launch} {e : Env} {s : State} {m : MethodId} {args : Array Value} {below : List Frame} {meth : Method} {c : Code} {D : va_G} {q : Nat → Nat} {k : Nat → ClassId} {a b : xT} {o : Nat → Int64} {z : xT} {y : Int32 × xT} (C : xCx p s m meth c cX5_rate 5 (some .int) RX5 D k) {H : Heap} {locs : List Loc} (hP : va_P D vwCl (xw q k a b o) H) (hD : va_D (va_A (xw q k a z o) s.heap.size) (xw q k a b o)) (hS : va_S (va_A (xw q k a z o) s.heap.size) s.heap H locs) {K34 : xT → Int32 → Int32 → Int32 → Option (Int32 × xT)} (hK34 : ∀ {b : xT} {v1 v2 v3 : Int32} {ls : Array Slot} {H : Heap} {locs : List Loc}, va_P D vwCl (xw q k a b o) H → va_D (va_A (xw q k a z o) s.heap.size) (xw q k a b o) → va_S (va_A (xw q k a z o) s.heap.size) s.heap H locs → lv_has ls 5 [(0, .ref (q 23)), (1, .int v1), (2, .int v2), (3, .int v3)] → K34 b v1 v2 v3 = some y → W p l e r_X5_rate s m args below meth c H locs 0 0 (xMQ below (xQm D q k a z o (.inr (some (.int y.1), a, y.2))) args s 0 0 (va_A (xw q k a z o) s.heap.size)) (F0 m 34 ls [])) {v1 v2 v3 s1 : Int32} {ls : Array Slot} (hl : lv_has ls 5 [(0, .ref (q 23)), (1, .int v1), (2, .int v2), (3, .int v3)]) (hf : g_X5_rate_88 K34 b v1 v2 v3 s1 = some y) : W p l e r_X5_rate s m args below meth c H locs 0 0 (xMQ below (xQm D q k a z o (.inr (some (.int y.1), a, y.2))) args s 0 0 (va_A (xw q k a z o) s.heap.size)) (F0 m 88 ls [.int s1, .ref (q 23)]) := by
  obtain ⟨hx, hb, hml, hr, hlocks, hown, hno, hG⟩ := C
  have hK := hG.1
  have hE := hG.2.1
  have hA : ∀ u, s.heap.size ≤ u → va_A (xw q k a z o) s.heap.size u := fun u h => Or.inr h
  unfold g_X5_rate_88 at hf
  refine va_put (D := D) (ci := 5) (v := .int s1) (ty := .int) (C := RX5) (T := TX5) (N := 19) hx hb (hwX5 hE) (fun _ h => h) tyX5 tyX5_ok nmX5 hown hK hP hD hS 23 rfl rfl 0 (by decide) (hE _ fl_X5_56 rfl _) (fun _ h9 => h9) rfl (by decide +kernel) rfl rfl (Nat.le_of_ble_eq_true rfl) dX5_rate_88 (fun H locs hP hD hS => ?_)
  rw [xw_n23_0] at hP hD
  exact t_X5_rate_91 ⟨hx, hb, hml, hr, hlocks, hown, hno, hG⟩ hP hD hS hK34 (lv_sub hl [0, 1, 2, 3] rfl) hf
noncomputable def g_X5_rate_84 (K34 : xT → Int32 → Int32 → Int32 → Option (Int32 × xT)) (b : xT) (v1 : Int32) (v2 : Int32) (v3 : Int32) : Option (Int32 × xT) := g_X5_rate_88 K34 b v1 v2 v3 (b.2 0)
set_option maxHeartbeats 4000000 in
set_option maxRecDepth 100000 in
theorem t_X5_rate_84 {p : Program} {l : Launch} {e : Env} {s : State} {m : MethodId} {args : Array Value} {below : List Frame} {meth : Method} {c : Code} {D : va_G} {q : Nat → Nat} {k : Nat → ClassId} {a b : xT} {o : Nat → Int64} {z : xT} {y : Int32 × xT} (C : xCx p s m meth c cX5_rate 5 (some .int) RX5 D k) {H : Heap} {locs : List Loc} (hP : va_P D vwCl (xw q k a b o) H) (hD : va_D (va_A (xw q k a z o) s.heap.size) (xw q k a b o)) (hS : va_S (va_A (xw q k a z o) s.heap.size) s.heap H locs) {K34 : xT → Int32 → Int32 → Int32 → Option (Int32 × xT)} (hK34 : ∀ {b : xT} {v1 v2 v3 : Int32} {ls : Array Slot} {H : Heap} {locs : List Loc}, va_P D vwCl (xw q k a b o) H → va_D (va_A (xw q k a z o) s.heap.size) (xw q k a b o) → va_S (va_A (xw q k a z o) s.heap.size) s.heap H locs → lv_has ls 5 [(0, .ref (q 23)), (1, .int v1), (2, .int v2), (3, .int v3)] → K34 b v1 v2 v3 = some y → W p l e r_X5_rate s m args below meth c H locs 0 0 (xMQ below (xQm D q k a z o (.inr (some (.int y.1), a, y.2))) args s 0 0 (va_A (xw q k a z o) s.heap.size)) (F0 m 34 ls [])) {v1 v2 v3 : Int32} {ls : Array Slot} (hl : lv_has ls 5 [(0, .ref (q 23)), (1, .int v1), (2, .int v2), (3, .int v3)]) (hf : g_X5_rate_84 K34 b v1 v2 v3 = some y) : W p l e r_X5_rate s m args below meth c H locs 0 0 (xMQ below (xQm D q k a z o (.inr (some (.int y.1), a, y.2))) args s 0 0 (va_A (xw q k a z o) s.heap.size)) (F0 m 84 ls [.ref (q 23)]) := by
  obtain ⟨hx, hb, hml, hr, hlocks, hown, hno, hG⟩ := C
  have hK := hG.1
  have hE := hG.2.1
  have hA : ∀ u, s.heap.size ≤ u → va_A (xw q k a z o) s.heap.size u := fun u h => Or.inr h
  unfold g_X5_rate_84 at hf
  refine lv_aload_n hx hb dX5_rate_84 rfl (lv_at hl 0 rfl) ?_
  refine va_get (D := D) (ci := 5) (v := .int (b.2 0)) (C := RX5) (T := TX5) (N := 19) hx hb (hwX5 hE) (fun _ h => h) hown hK hP 23 rfl rfl 0 (by decide) (hE _ fl_X5_56 rfl _) (fun _ h9 => h9) rfl dX5_rate_85 ?_
  exact t_X5_rate_88 ⟨hx, hb, hml, hr, hlocks, hown, hno, hG⟩ hP hD hS hK34 (lv_sub hl [0, 1, 2, 3] rfl) hf
noncomputable def g_X5_rate_34s (K34 : xT → Int32 → Int32 → Int32 → Option (Int32 × xT)) (b : xT) (v1 : Int32) (v2 : Int32) (v3 : Int32) : Option (Int32 × xT) := (if ((15 * v1) + 15) ≤ v3 then g_X5_rate_97  b v1 v2 else (if (b.2 0) = 1 then g_X5_rate_97  b v1 v2 else (if xin v3 240 = true then (if (b.1 0 v3.toNatClampNeg) = 0 then g_X5_rate_84 K34 b v1 v2 v3 else ((f_X5_isFrozen b v3).bind fun r65 => (if r65 = 0 then g_X5_rate_84 K34 b v1 v2 v3 else ((f_X5_has b v1 v2 v3).bind fun r74 => (if r74 = 0 then g_X5_rate_88 K34 b v1 v2 v3 2 else g_X5_rate_84 K34 b v1 v2 v3))))) else none)))
set_option maxHeartbeats 4000000 in
set_option maxRecDepth 100000 in
theorem t_X5_rate_34s {p : Program} {l : Launch} {e : Env} {s : State} {m : MethodId} {args : Array Value} {below : List Frame} {meth : Method} {c : Code} {D : va_G} {q : Nat → Nat} {k : Nat → ClassId} {a b : xT} {o : Nat → Int64} {z : xT} {y : Int32 × xT} (C : xCx p s m meth c cX5_rate 5 (some .int) RX5 D k) {H : Heap} {locs : List Loc} (hP : va_P D vwCl (xw q k a b o) H) (hD : va_D (va_A (xw q k a z o) s.heap.size) (xw q k a b o)) (hS : va_S (va_A (xw q k a z o) s.heap.size) s.heap H locs) {K34 : xT → Int32 → Int32 → Int32 → Option (Int32 × xT)} (hK34 : ∀ {b : xT} {v1 v2 v3 : Int32} {ls : Array Slot} {H : Heap} {locs : List Loc}, va_P D vwCl (xw q k a b o) H → va_D (va_A (xw q k a z o) s.heap.size) (xw q k a b o) → va_S (va_A (xw q k a z o) s.heap.size) s.heap H locs → lv_has ls 5 [(0, .ref (q 23)), (1, .int v1), (2, .int v2), (3, .int v3)] → K34 b v1 v2 v3 = some y → W p l e r_X5_rate s m args below meth c H locs 0 0 (xMQ below (xQm D q k a z o (.inr (some (.int y.1), a, y.2))) args s 0 0 (va_A (xw q k a z o) s.heap.size)) (F0 m 34 ls [])) {v1 v2 v3 : Int32} {ls : Array Slot} (hl : lv_has ls 5 [(0, .ref (q 23)), (1, .int v1), (2, .int v2), (3, .int v3)]) (hf : g_X5_rate_34s K34 b v1 v2 v3 = some y) : W p l e r_X5_rate s m args below meth c H locs 0 0 (xMQ below (xQm D q k a z o (.inr (some (.int y.1), a, y.2))) args s 0 0 (va_A (xw q k a z o) s.heap.size)) (F0 m 34 ls []) := by
  obtain ⟨hx, hb, hml, hr, hlocks, hown, hno, hG⟩ := C
  have hK := hG.1
  have hE := hG.2.1
  have hA : ∀ u, s.heap.size ≤ u → va_A (xw q k a z o) s.heap.size u := fun u h => Or.inr h
  unfold g_X5_rate_34s at hf
  refine lv_iload_n hx hb dX5_rate_34 rfl (lv_at hl 3 rfl) ?_
  refine lv_bipush (v := 15) hx hb dX5_rate_35 (by decide) ?_
  refine lv_iload_n hx hb dX5_rate_37 rfl (lv_at hl 1 rfl) ?_
  refine lv_imul hx hb dX5_rate_38 ?_
  refine lv_bipush (v := 15) hx hb dX5_rate_39 (by decide) ?_
  refine lv_iadd hx hb dX5_rate_41 ?_
  refine lv_icmp_ge hx hb dX5_rate_42 rfl (fun hc => ?_) (fun hc => ?_)
  · rw [if_pos hc] at hf
    exact t_X5_rate_97 ⟨hx, hb, hml, hr, hlocks, hown, hno, hG⟩ hP hD hS  (lv_sub hl [0, 1, 2] rfl) hf
  · rw [if_neg hc] at hf
    refine lv_aload_n hx hb dX5_rate_45 rfl (lv_at hl 0 rfl) ?_
    refine va_get (D := D) (ci := 5) (v := .int (b.2 0)) (C := RX5) (T := TX5) (N := 19) hx hb (hwX5 hE) (fun _ h => h) hown hK hP 23 rfl rfl 0 (by decide) (hE _ fl_X5_56 rfl _) (fun _ h9 => h9) rfl dX5_rate_46 ?_
    refine lv_iconst (v := 1) hx hb dX5_rate_49 (by decide) ?_
    refine lv_icmp_eq hx hb dX5_rate_50 rfl (fun hc => ?_) (fun hc => ?_)
    · rw [if_pos hc] at hf
      exact t_X5_rate_97 ⟨hx, hb, hml, hr, hlocks, hown, hno, hG⟩ hP hD hS  (lv_sub hl [0, 1, 2] rfl) hf
    · rw [if_neg hc] at hf
      refine lv_aload_n hx hb dX5_rate_53 rfl (lv_at hl 0 rfl) ?_
      refine lv_aload_n hx hb dX5_rate_54 rfl (lv_at hl 0 rfl) ?_
      refine va_get (D := D) (ci := 5) (v := .ref (q 24)) (C := RX5) (T := TX5) (N := 19) hx hb (hwX5 hE) (fun _ h => h) hown hK hP 23 rfl rfl 1 (by decide) (hE _ fl_X5_7 rfl _) (fun _ h9 => h9) rfl dX5_rate_55 ?_
      refine lv_iload_n hx hb dX5_rate_58 rfl (lv_at hl 3 rfl) ?_
      obtain ⟨hin, hf⟩ := xguard hf
      refine va_zald hx hb hK hP 24 1 rfl rfl hin dX5_rate_59 ?_
      refine lv_if_eq hx hb dX5_rate_60 rfl (fun hc => ?_) (fun hc => ?_)
      · rw [if_pos hc] at hf
        exact t_X5_rate_84 ⟨hx, hb, hml, hr, hlocks, hown, hno, hG⟩ hP hD hS hK34 (lv_sub hl [0, 1, 2, 3] rfl) hf
      · rw [if_neg hc] at hf
        refine lv_aload_n hx hb dX5_rate_63 rfl (lv_at hl 0 rfl) ?_
        refine lv_iload_n hx hb dX5_rate_64 rfl (lv_at hl 3 rfl) ?_
        obtain ⟨r65, hN, hf⟩ := xbind hf
        refine xgo_r (v := some (.int r65)) (xrunV (C := RX5) (As := [.int v3]) (rest := [.ref (q 23)]) (xfixm fx_X5_isFrozen hx hb hml hown (by decide) (by decide) (by decide) (by decide)) hE ml_X5_70 wi_X5_isFrozen wz_X5_isFrozen wc_X5_isFrozen wn_X5 (c_X5_isFrozen l D q k a b o v3 _ hN) (va_recv (q := (RX5, TX5, 19)) (ci := 5) (q0 := 23) hK hP rfl rfl) (xpre hP hD hG) rfl rfl hl.1 rfl (lv_room (Nat.le_of_ble_eq_true rfl)) dX5_rate_65) ?_
        refine lv_if_eq hx hb dX5_rate_68 rfl (fun hc => ?_) (fun hc => ?_)
        · rw [if_pos hc] at hf
          exact t_X5_rate_84 ⟨hx, hb, hml, hr, hlocks, hown, hno, hG⟩ hP hD hS hK34 (lv_sub hl [0, 1, 2, 3] rfl) hf
        · rw [if_neg hc] at hf
          refine lv_iload_n hx hb dX5_rate_71 rfl (lv_at hl 1 rfl) ?_
          refine lv_iload_n hx hb dX5_rate_72 rfl (lv_at hl 2 rfl) ?_
          refine lv_iload_n hx hb dX5_rate_73 rfl (lv_at hl 3 rfl) ?_
          obtain ⟨r74, hN, hf⟩ := xbind hf
          refine xgo_r (v := some (.int r74)) (xrunS (As := [.int v1, .int v2, .int v3]) (rest := [.ref (q 23)]) (xfixm fx_X5_has hx hb hml hown (by decide) (by decide) (by decide) (by decide)) hE ml_X5_88 wt_X5_has wc_X5_has wn_X5 (c_X5_has l D q k a b o v1 v2 v3 _ hN) (xpre hP hD hG) rfl rfl hl.1 rfl (lv_room (Nat.le_of_ble_eq_true rfl)) dX5_rate_74) ?_
          refine lv_if_ne hx hb dX5_rate_77 rfl (fun hc => ?_) (fun hc => ?_)
          · rw [if_neg hc] at hf
            exact t_X5_rate_84 ⟨hx, hb, hml, hr, hlocks, hown, hno, hG⟩ hP hD hS hK34 (lv_sub hl [0, 1, 2, 3] rfl) hf
          · rw [if_pos hc] at hf
            refine lv_iconst (v := 2) hx hb dX5_rate_80 (by decide) ?_
            refine lv_goto hx hb dX5_rate_81 rfl ?_
            exact t_X5_rate_88 ⟨hx, hb, hml, hr, hlocks, hown, hno, hG⟩ hP hD hS hK34 (lv_sub hl [0, 1, 2, 3] rfl) hf
noncomputable def g_X5_rate_34  : Nat → xT → Int32 → Int32 → Int32 → Option (Int32 × xT) := fun n => Nat.rec (motive := fun _ => xT → Int32 → Int32 → Int32 → Option (Int32 × xT)) (fun _ _ _ _ => none) (fun _ ih => g_X5_rate_34s ih) n
set_option maxHeartbeats 4000000 in
theorem t_X5_rate_34 {p : Program} {l : Launch} {e : Env} {s : State} {m : MethodId} {args : Array Value} {below : List Frame} {meth : Method} {c : Code} {D : va_G} {q : Nat → Nat} {k : Nat → ClassId} {a : xT} {o : Nat → Int64} {z : xT} {y : Int32 × xT} (C : xCx p s m meth c cX5_rate 5 (some .int) RX5 D k)  (n : Nat) : ∀ {b : xT} {v1 v2 v3 : Int32} {ls : Array Slot} {H : Heap} {locs : List Loc}, va_P D vwCl (xw q k a b o) H → va_D (va_A (xw q k a z o) s.heap.size) (xw q k a b o) → va_S (va_A (xw q k a z o) s.heap.size) s.heap H locs → lv_has ls 5 [(0, .ref (q 23)), (1, .int v1), (2, .int v2), (3, .int v3)] → g_X5_rate_34  n b v1 v2 v3 = some y → W p l e r_X5_rate s m args below meth c H locs 0 0 (xMQ below (xQm D q k a z o (.inr (some (.int y.1), a, y.2))) args s 0 0 (va_A (xw q k a z o) s.heap.size)) (F0 m 34 ls []) := by
  induction n with
  | zero =>
    intro _ _ _ _ _ _ _ _ _ _ _ hf
    have h9 : (none : Option (Int32 × xT)) = some y := hf
    cases h9
  | succ n ih =>
    intro _ _ _ _ _ _ _ hP hD hS hl hf
    exact t_X5_rate_34s C hP hD hS (K34 := g_X5_rate_34  n) ih hl hf
noncomputable def g_X5_rate_29  (b : xT) (v1 : Int32) (v2 : Int32) : Option (Int32 × xT) := g_X5_rate_34  1000 b v1 v2 (15 * v1)
set_option maxHeartbeats 4000000 in
set_option maxRecDepth 100000 in
theorem t_X5_rate_29 {p : Program} {l : Launch} {e : Env} {s : State} {m : MethodId} {args : Array Value} {below : List Frame} {meth : Method} {c : Code} {D : va_G} {q : Nat → Nat} {k : Nat → ClassId} {a b : xT} {o : Nat → Int64} {z : xT} {y : Int32 × xT} (C : xCx p s m meth c cX5_rate 5 (some .int) RX5 D k) {H : Heap} {locs : List Loc} (hP : va_P D vwCl (xw q k a b o) H) (hD : va_D (va_A (xw q k a z o) s.heap.size) (xw q k a b o)) (hS : va_S (va_A (xw q k a z o) s.heap.size) s.heap H locs)  {v1 v2 : Int32} {ls : Array Slot} (hl : lv_has ls 5 [(0, .ref (q 23)), (1, .int v1), (2, .int v2)]) (hf : g_X5_rate_29  b v1 v2 = some y) : W p l e r_X5_rate s m args below meth c H locs 0 0 (xMQ below (xQm D q k a z o (.inr (some (.int y.1), a, y.2))) args s 0 0 (va_A (xw q k a z o) s.heap.size)) (F0 m 29 ls []) := by
  obtain ⟨hx, hb, hml, hr, hlocks, hown, hno, hG⟩ := C
  have hK := hG.1
  have hE := hG.2.1
  have hA : ∀ u, s.heap.size ≤ u → va_A (xw q k a z o) s.heap.size u := fun u h => Or.inr h
  unfold g_X5_rate_29 at hf
  refine lv_bipush (v := 15) hx hb dX5_rate_29 (by decide) ?_
  refine lv_iload_n hx hb dX5_rate_31 rfl (lv_at hl 1 rfl) ?_
  refine lv_imul hx hb dX5_rate_32 ?_
  refine lv_istore_n (lv' := [(3, .int (15 * v1)), (0, .ref (q 23)), (1, .int v1), (2, .int v2)]) hx hb dX5_rate_33 rfl hl (by decide) rfl (fun ls hl => ?_)
  exact t_X5_rate_34 ⟨hx, hb, hml, hr, hlocks, hown, hno, hG⟩  1000 hP hD hS (lv_sub hl [1, 2, 3, 0] rfl) hf
noncomputable def g_X5_rate_26  (b : xT) (v1 : Int32) (v2 : Int32) (s1 : Int32) : Option (Int32 × xT) := g_X5_rate_29  (xn b 0 s1) v1 v2
set_option maxHeartbeats 4000000 in
set_option maxRecDepth 100000 in
theorem t_X5_rate_26 {p : Program} {l : Launch} {e : Env} {s : State} {m : MethodId} {args : Array Value} {below : List Frame} {meth : Method} {c : Code} {D : va_G} {q : Nat → Nat} {k : Nat → ClassId} {a b : xT} {o : Nat → Int64} {z : xT} {y : Int32 × xT} (C : xCx p s m meth c cX5_rate 5 (some .int) RX5 D k) {H : Heap} {locs : List Loc} (hP : va_P D vwCl (xw q k a b o) H) (hD : va_D (va_A (xw q k a z o) s.heap.size) (xw q k a b o)) (hS : va_S (va_A (xw q k a z o) s.heap.size) s.heap H locs)  {v1 v2 s1 : Int32} {ls : Array Slot} (hl : lv_has ls 5 [(0, .ref (q 23)), (1, .int v1), (2, .int v2)]) (hf : g_X5_rate_26  b v1 v2 s1 = some y) : W p l e r_X5_rate s m args below meth c H locs 0 0 (xMQ below (xQm D q k a z o (.inr (some (.int y.1), a, y.2))) args s 0 0 (va_A (xw q k a z o) s.heap.size)) (F0 m 26 ls [.int s1, .ref (q 23)]) := by
  obtain ⟨hx, hb, hml, hr, hlocks, hown, hno, hG⟩ := C
  have hK := hG.1
  have hE := hG.2.1
  have hA : ∀ u, s.heap.size ≤ u → va_A (xw q k a z o) s.heap.size u := fun u h => Or.inr h
  unfold g_X5_rate_26 at hf
  refine va_put (D := D) (ci := 5) (v := .int s1) (ty := .int) (C := RX5) (T := TX5) (N := 19) hx hb (hwX5 hE) (fun _ h => h) tyX5 tyX5_ok nmX5 hown hK hP hD hS 23 rfl rfl 0 (by decide) (hE _ fl_X5_56 rfl _) (fun _ h9 => h9) rfl (by decide +kernel) rfl rfl (Nat.le_of_ble_eq_true rfl) dX5_rate_26 (fun H locs hP hD hS => ?_)
  rw [xw_n23_0] at hP hD
  exact t_X5_rate_29 ⟨hx, hb, hml, hr, hlocks, hown, hno, hG⟩ hP hD hS  (lv_sub hl [0, 1, 2] rfl) hf
noncomputable def g_X5_rate_25  (b : xT) (v1 : Int32) (v2 : Int32) : Option (Int32 × xT) := g_X5_rate_26  b v1 v2 1
set_option maxHeartbeats 4000000 in
set_option maxRecDepth 100000 in
theorem t_X5_rate_25 {p : Program} {l : Launch} {e : Env} {s : State} {m : MethodId} {args : Array Value} {below : List Frame} {meth : Method} {c : Code} {D : va_G} {q : Nat → Nat} {k : Nat → ClassId} {a b : xT} {o : Nat → Int64} {z : xT} {y : Int32 × xT} (C : xCx p s m meth c cX5_rate 5 (some .int) RX5 D k) {H : Heap} {locs : List Loc} (hP : va_P D vwCl (xw q k a b o) H) (hD : va_D (va_A (xw q k a z o) s.heap.size) (xw q k a b o)) (hS : va_S (va_A (xw q k a z o) s.heap.size) s.heap H locs)  {v1 v2 : Int32} {ls : Array Slot} (hl : lv_has ls 5 [(0, .ref (q 23)), (1, .int v1), (2, .int v2)]) (hf : g_X5_rate_25  b v1 v2 = some y) : W p l e r_X5_rate s m args below meth c H locs 0 0 (xMQ below (xQm D q k a z o (.inr (some (.int y.1), a, y.2))) args s 0 0 (va_A (xw q k a z o) s.heap.size)) (F0 m 25 ls [.ref (q 23)]) := by
  obtain ⟨hx, hb, hml, hr, hlocks, hown, hno, hG⟩ := C
  have hK := hG.1
  have hE := hG.2.1
  have hA : ∀ u, s.heap.size ≤ u → va_A (xw q k a z o) s.heap.size u := fun u h => Or.inr h
  unfold g_X5_rate_25 at hf
  refine lv_iconst (v := 1) hx hb dX5_rate_25 (by decide) ?_
  exact t_X5_rate_26 ⟨hx, hb, hml, hr, hlocks, hown, hno, hG⟩ hP hD hS  (lv_sub hl [0, 1, 2] rfl) hf
noncomputable def g_X5_rate_0  (b : xT) (v1 : Int32) (v2 : Int32) : Option (Int32 × xT) := ((f_X5_within b v1 0 15).bind fun r5 => (if r5 = 0 then g_X5_rate_25  b v1 v2 else ((f_X5_within b v2 0 8).bind fun r15 => (if r15 = 0 then g_X5_rate_25  b v1 v2 else g_X5_rate_26  b v1 v2 0))))
set_option maxHeartbeats 4000000 in
set_option maxRecDepth 100000 in
theorem t_X5_rate_0 {p : Program} {l : Launch} {e : Env} {s : State} {m : MethodId} {args : Array Value} {below : List Frame} {meth : Method} {c : Code} {D : va_G} {q : Nat → Nat} {k : Nat → ClassId} {a b : xT} {o : Nat → Int64} {z : xT} {y : Int32 × xT} (C : xCx p s m meth c cX5_rate 5 (some .int) RX5 D k) {H : Heap} {locs : List Loc} (hP : va_P D vwCl (xw q k a b o) H) (hD : va_D (va_A (xw q k a z o) s.heap.size) (xw q k a b o)) (hS : va_S (va_A (xw q k a z o) s.heap.size) s.heap H locs)  {v1 v2 : Int32} {ls : Array Slot} (hl : lv_has ls 5 [(0, .ref (q 23)), (1, .int v1), (2, .int v2)]) (hf : g_X5_rate_0  b v1 v2 = some y) : W p l e r_X5_rate s m args below meth c H locs 0 0 (xMQ below (xQm D q k a z o (.inr (some (.int y.1), a, y.2))) args s 0 0 (va_A (xw q k a z o) s.heap.size)) (F0 m 0 ls []) := by
  obtain ⟨hx, hb, hml, hr, hlocks, hown, hno, hG⟩ := C
  have hK := hG.1
  have hE := hG.2.1
  have hA : ∀ u, s.heap.size ≤ u → va_A (xw q k a z o) s.heap.size u := fun u h => Or.inr h
  unfold g_X5_rate_0 at hf
  refine lv_aload_n hx hb dX5_rate_0 rfl (lv_at hl 0 rfl) ?_
  refine lv_iload_n hx hb dX5_rate_1 rfl (lv_at hl 1 rfl) ?_
  refine lv_iconst (v := 0) hx hb dX5_rate_2 (by decide) ?_
  refine lv_bipush (v := 15) hx hb dX5_rate_3 (by decide) ?_
  obtain ⟨r5, hN, hf⟩ := xbind hf
  refine xgo_r (v := some (.int r5)) (xrunS (As := [.int v1, .int 0, .int 15]) (rest := [.ref (q 23)]) (xfixm fx_X5_within hx hb hml hown (by decide) (by decide) (by decide) (by decide)) hE ml_X5_84 wt_X5_within wc_X5_within wn_X5 (c_X5_within l D q k a b o v1 0 15 _ hN) (xpre hP hD hG) rfl rfl hl.1 rfl (lv_room (Nat.le_of_ble_eq_true rfl)) dX5_rate_5) ?_
  refine lv_if_eq hx hb dX5_rate_8 rfl (fun hc => ?_) (fun hc => ?_)
  · rw [if_pos hc] at hf
    exact t_X5_rate_25 ⟨hx, hb, hml, hr, hlocks, hown, hno, hG⟩ hP hD hS  (lv_sub hl [0, 1, 2] rfl) hf
  · rw [if_neg hc] at hf
    refine lv_iload_n hx hb dX5_rate_11 rfl (lv_at hl 2 rfl) ?_
    refine lv_iconst (v := 0) hx hb dX5_rate_12 (by decide) ?_
    refine lv_bipush (v := 8) hx hb dX5_rate_13 (by decide) ?_
    obtain ⟨r15, hN, hf⟩ := xbind hf
    refine xgo_r (v := some (.int r15)) (xrunS (As := [.int v2, .int 0, .int 8]) (rest := [.ref (q 23)]) (xfixm fx_X5_within hx hb hml hown (by decide) (by decide) (by decide) (by decide)) hE ml_X5_84 wt_X5_within wc_X5_within wn_X5 (c_X5_within l D q k a b o v2 0 8 _ hN) (xpre hP hD hG) rfl rfl hl.1 rfl (lv_room (Nat.le_of_ble_eq_true rfl)) dX5_rate_15) ?_
    refine lv_if_eq hx hb dX5_rate_18 rfl (fun hc => ?_) (fun hc => ?_)
    · rw [if_pos hc] at hf
      exact t_X5_rate_25 ⟨hx, hb, hml, hr, hlocks, hown, hno, hG⟩ hP hD hS  (lv_sub hl [0, 1, 2] rfl) hf
    · rw [if_neg hc] at hf
      refine lv_iconst (v := 0) hx hb dX5_rate_21 (by decide) ?_
      refine lv_goto hx hb dX5_rate_22 rfl ?_
      exact t_X5_rate_26 ⟨hx, hb, hml, hr, hlocks, hown, hno, hG⟩ hP hD hS  (lv_sub hl [0, 1, 2] rfl) hf
noncomputable def f_X5_rate (b : xT) (v1 : Int32) (v2 : Int32) : Option (Int32 × xT) := g_X5_rate_0 b v1 v2
set_option maxHeartbeats 4000000 in
set_option maxRecDepth 100000 in
theorem c_X5_rate (l : Launch) (D : va_G) (q : Nat → Nat) (k : Nat → ClassId) (sz : Nat) (a b : xT) (o : Nat → Int64) (v1 : Int32) (v2 : Int32) (y : Int32 × xT) (hf : f_X5_rate b v1 v2 = some y) : xMet l yX5_rate (.code yX5_rate cX5_rate 5 (some .int)) r_X5_rate (xPcm D q k sz a b o [.ref (q 23), .int v1, .int v2]) (xQm D q k a b o (.inr (some (.int y.1), a, y.2))) 0 0 (va_A (xw q k a b o) sz) := by
  refine xMet.ofW (by decide) ?_
  intro p e s m args below meth c hx hb hml hr hlocks hnm hme hno hv
  obtain ⟨rfl, hsz, hP, hD, hG⟩ := hv
  subst hsz
  have hown : s.vm.findClass RX5 = some m.cls := findClass_of_methodNamed hnm
  have hl := lv_entry ([.ref (q 23), .int v1, .int v2]) (n := 5) (Nat.le_of_ble_eq_true rfl)
  rw [lg_entry_eq]
  generalize (lg_sl ([.ref (q 23), .int v1, .int v2]) ++ List.replicate (5 - (lg_sl ([.ref (q 23), .int v1, .int v2])).length) Slot.unset).toArray = ls at hl ⊢
  have hl : lv_has ls 5 [(0, .ref (q 23)), (1, .int v1), (2, .int v2)] := hl
  have hD := hD.self (sz := s.heap.size)
  exact t_X5_rate_0 ⟨hx, hb, hml, hr, hlocks, hown, hno, hG⟩ hP hD va_S.rf hl hf
