abbrev r_X5_compress : Room := { frames := 3, cells := 0, slots := 0, locals := 70 }
noncomputable def g_X5_compress_7s (K7 : xT → Int32 → Option (Int32 × xT)) (b : xT) (v1 : Int32) : Option (Int32 × xT) := ((f_X5_moves b ).bind fun z8 => (if z8.1 = 0 then some (v1, z8.2) else K7 z8.2 (v1 + 1)))
set_option maxHeartbeats 4000000 in
set_option maxRecDepth 100000 in
theorem t_X5_compress_7s {p : Program} {l : Launch} {e : Env} {s : State} {m : MethodId} {args : Array Value} {below : List Frame} {meth : Method} {c : Code} {D : va_G} {q : Nat → Nat} {k : Nat → ClassId} {a b : xT} {o : Nat → Int64} {z : xT} {y : Int32 × xT} (C : xCx p s m meth c cX5_compress 2 (some .int) RX5 D k) {H : Heap} {locs : List Loc} (hP : va_P D vwCl (xw q k a b o) H) (hD : va_D (va_A (xw q k a z o) s.heap.size) (xw q k a b o)) (hS : va_S (va_A (xw q k a z o) s.heap.size) s.heap H locs) {K7 : xT → Int32 → Option (Int32 × xT)} (hK7 : ∀ {b : xT} {v1 : Int32} {ls : Array Slot} {H : Heap} {locs : List Loc}, va_P D vwCl (xw q k a b o) H → va_D (va_A (xw q k a z o) s.heap.size) (xw q k a b o) → va_S (va_A (xw q k a z o) s.heap.size) s.heap H locs → lv_has ls 2 [(0, .ref (q 23)), (1, .int v1)] → K7 b v1 = some y → W p l e r_X5_compress s m args below meth c H locs 0 0 (xMQ below (xQm D q k a z o (.inr (some (.int y.1), a, y.2))) args s 0 0 (va_A (xw q k a z o) s.heap.size)) (F0 m 7 ls [])) {v1 : Int32} {ls : Array Slot} (hl : lv_has ls 2 [(0, .ref (q 23)), (1, .int v1)]) (hf : g_X5_compress_7s K7 b v1 = some y) : W p l e r_X5_compress s m args below meth c H locs 0 0 (xMQ below (xQm D q k a z o (.inr (some (.int y.1), a, y.2))) args s 0 0 (va_A (xw q k a z o) s.heap.size)) (F0 m 7 ls []) := by
  obtain ⟨hx, hb, hml, hr, hlocks, hown, hno, hG⟩ := C
  have hK := hG.1
  have hE := hG.2.1
  have hA : ∀ u, s.heap.size ≤ u → va_A (xw q k a z o) s.heap.size u := fun u h => Or.inr h
  unfold g_X5_compress_7s at hf
  refine lv_aload_n hx hb dX5_compress_7 rfl (lv_at hl 0 rfl) ?_
  obtain ⟨z8, hN, hf⟩ := xbind hf
  refine xgo_m (v := some (.int z8.1)) (a1 := a) (b1 := z8.2) (xrunV (C := RX5) (As := []) (rest := []) (xfixm fx_X5_moves hx hb hml hown (by decide) (by decide) (by decide) (by decide)) hE ml_X5_129 wi_X5_moves wz_X5_moves wc_X5_moves wn_X5 (c_X5_moves l D q k _ a b o  _ hN) (va_recv (q := (RX5, TX5, 19)) (ci := 5) (q0 := 23) hK hP rfl rfl) (xprem hP hD hG) rfl rfl hl.1 rfl (lv_room (Nat.le_of_ble_eq_true rfl)) dX5_compress_8) hD hS hA (fun H locs hP hD hS => ?_)
  refine lv_if_eq hx hb dX5_compress_11 rfl (fun hc => ?_) (fun hc => ?_)
  · rw [if_pos hc] at hf
    refine lv_iload_n hx hb dX5_compress_20 rfl (lv_at hl 1 rfl) ?_
    cases hf
    exact xretm_i hx hb hr hlocks hP hS dX5_compress_21
  · rw [if_neg hc] at hf
    refine lv_iinc (k := 1) (v := v1 + 1) (lv' := [(1, .int (v1 + 1)), (0, .ref (q 23))]) hx hb dX5_compress_14 hl rfl (xinc (by decide) _) (by decide) rfl (fun ls hl => ?_)
    refine lv_goto hx hb dX5_compress_17 rfl ?_
    exact hK7 hP hD hS (lv_sub hl [1, 0] rfl) hf
noncomputable def g_X5_compress_7  : Nat → xT → Int32 → Option (Int32 × xT) := fun n => Nat.rec (motive := fun _ => xT → Int32 → Option (Int32 × xT)) (fun _ _ => none) (fun _ ih => g_X5_compress_7s ih) n
set_option maxHeartbeats 4000000 in
theorem t_X5_compress_7 {p : Program} {l : Launch} {e : Env} {s : State} {m : MethodId} {args : Array Value} {below : List Frame} {meth : Method} {c : Code} {D : va_G} {q : Nat → Nat} {k : Nat → ClassId} {a : xT} {o : Nat → Int64} {z : xT} {y : Int32 × xT} (C : xCx p s m meth c cX5_compress 2 (some .int) RX5 D k)  (n : Nat) : ∀ {b : xT} {v1 : Int32} {ls : Array Slot} {H : Heap} {locs : List Loc}, va_P D vwCl (xw q k a b o) H → va_D (va_A (xw q k a z o) s.heap.size) (xw q k a b o) → va_S (va_A (xw q k a z o) s.heap.size) s.heap H locs → lv_has ls 2 [(0, .ref (q 23)), (1, .int v1)] → g_X5_compress_7  n b v1 = some y → W p l e r_X5_compress s m args below meth c H locs 0 0 (xMQ below (xQm D q k a z o (.inr (some (.int y.1), a, y.2))) args s 0 0 (va_A (xw q k a z o) s.heap.size)) (F0 m 7 ls []) := by
  induction n with
  | zero =>
    intro _ _ _ _ _ _ _ _ _ hf
    have h9 : (none : Option (Int32 × xT)) = some y := hf
    cases h9
  | succ n ih =>
    intro _ _ _ _ _ hP hD hS hl hf
    exact t_X5_compress_7s C hP hD hS (K7 := g_X5_compress_7  n) ih hl hf
noncomputable def g_X5_compress_5  (b : xT)  : Option (Int32 × xT) := g_X5_compress_7  1000 b 0
set_option maxHeartbeats 4000000 in
set_option maxRecDepth 100000 in
theorem t_X5_compress_5 {p : Program} {l : Launch} {e : Env} {s : State} {m : MethodId} {args : Array Value} {below : List Frame} {meth : Method} {c : Code} {D : va_G} {q : Nat → Nat} {k : Nat → ClassId} {a b : xT} {o : Nat → Int64} {z : xT} {y : Int32 × xT} (C : xCx p s m meth c cX5_compress 2 (some .int) RX5 D k) {H : Heap} {locs : List Loc} (hP : va_P D vwCl (xw q k a b o) H) (hD : va_D (va_A (xw q k a z o) s.heap.size) (xw q k a b o)) (hS : va_S (va_A (xw q k a z o) s.heap.size) s.heap H locs)  {ls : Array Slot} (hl : lv_has ls 2 [(0, .ref (q 23))]) (hf : g_X5_compress_5  b  = some y) : W p l e r_X5_compress s m args below meth c H locs 0 0 (xMQ below (xQm D q k a z o (.inr (some (.int y.1), a, y.2))) args s 0 0 (va_A (xw q k a z o) s.heap.size)) (F0 m 5 ls []) := by
  obtain ⟨hx, hb, hml, hr, hlocks, hown, hno, hG⟩ := C
  have hK := hG.1
  have hE := hG.2.1
  have hA : ∀ u, s.heap.size ≤ u → va_A (xw q k a z o) s.heap.size u := fun u h => Or.inr h
  unfold g_X5_compress_5 at hf
  refine lv_iconst (v := 0) hx hb dX5_compress_5 (by decide) ?_
  refine lv_istore_n (lv' := [(1, .int 0), (0, .ref (q 23))]) hx hb dX5_compress_6 rfl hl (by decide) rfl (fun ls hl => ?_)
  exact t_X5_compress_7 ⟨hx, hb, hml, hr, hlocks, hown, hno, hG⟩  1000 hP hD hS (lv_sub hl [1, 0] rfl) hf
noncomputable def g_X5_compress_0  (b : xT)  : Option (Int32 × xT) := g_X5_compress_5  (xn b 0 0) 
set_option maxHeartbeats 4000000 in
set_option maxRecDepth 100000 in
theorem t_X5_compress_0 {p : Program} {l : Launch} {e : Env} {s : State} {m : MethodId} {args : Array Value} {below : List Frame} {meth : Method} {c : Code} {D : va_G} {q : Nat → Nat} {k : Nat → ClassId} {a b : xT} {o : Nat → Int64} {z : xT} {y : Int32 × xT} (C : xCx p s m meth c cX5_compress 2 (some .int) RX5 D k) {H : Heap} {locs : List Loc} (hP : va_P D vwCl (xw q k a b o) H) (hD : va_D (va_A (xw q k a z o) s.heap.size) (xw q k a b o)) (hS : va_S (va_A (xw q k a z o) s.heap.size) s.heap H locs)  {ls : Array Slot} (hl : lv_has ls 2 [(0, .ref (q 23))]) (hf : g_X5_compress_0  b  = some y) : W p l e r_X5_compress s m args below meth c H locs 0 0 (xMQ below (xQm D q k a z o (.inr (some (.int y.1), a, y.2))) args s 0 0 (va_A (xw q k a z o) s.heap.size)) (F0 m 0 ls []) := by
  obtain ⟨hx, hb, hml, hr, hlocks, hown, hno, hG⟩ := C
  have hK := hG.1
  have hE := hG.2.1
  have hA : ∀ u, s.heap.size ≤ u → va_A (xw q k a z o) s.heap.size u := fun u h => Or.inr h
  unfold g_X5_compress_0 at hf
  refine lv_aload_n hx hb dX5_compress_0 rfl (lv_at hl 0 rfl) ?_
  refine lv_iconst (v := 0) hx hb dX5_compress_1 (by decide) ?_
  refine va_put (D := D) (ci := 5) (v := .int 0) (ty := .int) (C := RX5) (T := TX5) (N := 19) hx hb (hwX5 hE) (fun _ h => h) tyX5 tyX5_ok nmX5 hown hK hP hD hS 23 rfl rfl 0 (by decide) (hE _ fl_X5_56 rfl _) (fun _ h9 => h9) rfl (by decide +kernel) rfl rfl (Nat.le_of_ble_eq_true rfl) dX5_compress_2 (fun H locs hP hD hS => ?_)
  rw [xw_n23_0] at hP hD
  exact t_X5_compress_5 ⟨hx, hb, hml, hr, hlocks, hown, hno, hG⟩ hP hD hS  (lv_sub hl [0] rfl) hf
noncomputable def f_X5_compress (b : xT)  : Option (Int32 × xT) := g_X5_compress_0 b 
set_option maxHeartbeats 4000000 in
set_option maxRecDepth 100000 in
theorem c_X5_compress (l : Launch) (D : va_G) (q : Nat → Nat) (k : Nat → ClassId) (sz : Nat) (a b : xT) (o : Nat → Int64)  (y : Int32 × xT) (hf : f_X5_compress b  = some y) : xMet l yX5_compress (.code yX5_compress cX5_compress 2 (some .int)) r_X5_compress (xPcm D q k sz a b o [.ref (q 23)]) (xQm D q k a b o (.inr (some (.int y.1), a, y.2))) 0 0 (va_A (xw q k a b o) sz) := by
  refine xMet.ofW (by decide) ?_
  intro p e s m args below meth c hx hb hml hr hlocks hnm hme hno hv
  obtain ⟨rfl, hsz, hP, hD, hG⟩ := hv
  subst hsz
  have hown : s.vm.findClass RX5 = some m.cls := findClass_of_methodNamed hnm
  have hl := lv_entry ([.ref (q 23)]) (n := 2) (Nat.le_of_ble_eq_true rfl)
  rw [lg_entry_eq]
  generalize (lg_sl ([.ref (q 23)]) ++ List.replicate (2 - (lg_sl ([.ref (q 23)])).length) Slot.unset).toArray = ls at hl ⊢
  have hl : lv_has ls 2 [(0, .ref (q 23))] := hl
  have hD := hD.self (sz := s.heap.size)
  exact t_X5_compress_0 ⟨hx, hb, hml, hr, hlocks, hown, hno, hG⟩ hP hD va_S.rf hl hf
abbrev r_X5_within : Room := { frames := 0, cells := 0, slots := 0, locals := 0 }
noncomputable def g_X5_within_15  (b : xT) (s0 : Int32) : Option (Int32) := (if xzb s0 = true then some s0 else none)
set_option maxHeartbeats 4000000 in
set_option maxRecDepth 100000 in
theorem t_X5_within_15 {p : Program} {l : Launch} {e : Env} {s : State} {m : MethodId} {args : Array Value} {below : List Frame} {meth : Method} {c : Code} {D : va_G} {q : Nat → Nat} {k : Nat → ClassId} {a b : xT} {o : Nat → Int64} {y : Int32} (C : xCx p s m meth c cX5_within 3 (some .boolean) RX5 D k) (hP : va_P D vwCl (xw q k a b o) s.heap) (hD : va_D (fun _ => True) (xw q k a b o))  {s0 : Int32} {ls : Array Slot} (hl : lv_has ls 3 []) (hf : g_X5_within_15  b s0 = some y) : W p l e r_X5_within s m args below meth c s.heap [] 0 0 (xMQ below (xQr (.inr (some (.int y)))) args s (xmc (.inr (some (.int y)))) (xms (.inr (some (.int y)))) (fun _ => False)) (F0 m 15 ls [.int s0]) := by
  obtain ⟨hx, hb, hml, hr, hlocks, hown, hno, hG⟩ := C
  have hK := hG.1
  have hE := hG.2.1
  unfold g_X5_within_15 at hf
  obtain ⟨hz, hf⟩ := xguz hf
  cases hf
  exact xret_z hx hb hr hz hlocks dX5_within_15
noncomputable def g_X5_within_14  (b : xT)  : Option (Int32) := g_X5_within_15  b 0
set_option maxHeartbeats 4000000 in
set_option maxRecDepth 100000 in
theorem t_X5_within_14 {p : Program} {l : Launch} {e : Env} {s : State} {m : MethodId} {args : Array Value} {below : List Frame} {meth : Method} {c : Code} {D : va_G} {q : Nat → Nat} {k : Nat → ClassId} {a b : xT} {o : Nat → Int64} {y : Int32} (C : xCx p s m meth c cX5_within 3 (some .boolean) RX5 D k) (hP : va_P D vwCl (xw q k a b o) s.heap) (hD : va_D (fun _ => True) (xw q k a b o))  {ls : Array Slot} (hl : lv_has ls 3 []) (hf : g_X5_within_14  b  = some y) : W p l e r_X5_within s m args below meth c s.heap [] 0 0 (xMQ below (xQr (.inr (some (.int y)))) args s (xmc (.inr (some (.int y)))) (xms (.inr (some (.int y)))) (fun _ => False)) (F0 m 14 ls []) := by
  obtain ⟨hx, hb, hml, hr, hlocks, hown, hno, hG⟩ := C
  have hK := hG.1
  have hE := hG.2.1
  unfold g_X5_within_14 at hf
  refine lv_iconst (v := 0) hx hb dX5_within_14 (by decide) ?_
  exact t_X5_within_15 ⟨hx, hb, hml, hr, hlocks, hown, hno, hG⟩ hP hD  (lv_sub hl [] rfl) hf
noncomputable def g_X5_within_0  (b : xT) (v0 : Int32) (v1 : Int32) (v2 : Int32) : Option (Int32) := (if v0 < v1 then g_X5_within_14  b  else (if v2 < v0 then g_X5_within_14  b  else g_X5_within_15  b 1))
set_option maxHeartbeats 4000000 in
set_option maxRecDepth 100000 in
theorem t_X5_within_0 {p : Program} {l : Launch} {e : Env} {s : State} {m : MethodId} {args : Array Value} {below : List Frame} {meth : Method} {c : Code} {D : va_G} {q : Nat → Nat} {k : Nat → ClassId} {a b : xT} {o : Nat → Int64} {y : Int32} (C : xCx p s m meth c cX5_within 3 (some .boolean) RX5 D k) (hP : va_P D vwCl (xw q k a b o) s.heap) (hD : va_D (fun _ => True) (xw q k a b o))  {v0 v1 v2 : Int32} {ls : Array Slot} (hl : lv_has ls 3 [(0, .int v0), (1, .int v1), (2, .int v2)]) (hf : g_X5_within_0  b v0 v1 v2 = some y) : W p l e r_X5_within s m args below meth c s.heap [] 0 0 (xMQ below (xQr (.inr (some (.int y)))) args s (xmc (.inr (some (.int y)))) (xms (.inr (some (.int y)))) (fun _ => False)) (F0 m 0 ls []) := by
  obtain ⟨hx, hb, hml, hr, hlocks, hown, hno, hG⟩ := C
  have hK := hG.1
  have hE := hG.2.1
  unfold g_X5_within_0 at hf
  refine lv_iload_n hx hb dX5_within_0 rfl (lv_at hl 0 rfl) ?_
  refine lv_iload_n hx hb dX5_within_1 rfl (lv_at hl 1 rfl) ?_
  refine lv_icmp_lt hx hb dX5_within_2 rfl (fun hc => ?_) (fun hc => ?_)
  · rw [if_pos hc] at hf
    exact t_X5_within_14 ⟨hx, hb, hml, hr, hlocks, hown, hno, hG⟩ hP hD  (lv_sub hl [] rfl) hf
  · rw [if_neg hc] at hf
    refine lv_iload_n hx hb dX5_within_5 rfl (lv_at hl 0 rfl) ?_
    refine lv_iload_n hx hb dX5_within_6 rfl (lv_at hl 2 rfl) ?_
    refine lv_icmp_gt hx hb dX5_within_7 rfl (fun hc => ?_) (fun hc => ?_)
    · rw [if_pos hc] at hf
      exact t_X5_within_14 ⟨hx, hb, hml, hr, hlocks, hown, hno, hG⟩ hP hD  (lv_sub hl [] rfl) hf
    · rw [if_neg hc] at hf
      refine lv_iconst (v := 1) hx hb dX5_within_10 (by decide) ?_
      refine lv_goto hx hb dX5_within_11 rfl ?_
      exact t_X5_within_15 ⟨hx, hb, hml, hr, hlocks, hown, hno, hG⟩ hP hD  (lv_sub hl [] rfl) hf
noncomputable def f_X5_within (b : xT) (v0 : Int32) (v1 : Int32) (v2 : Int32) : Option (Int32) := g_X5_within_0 b v0 v1 v2
set_option maxHeartbeats 4000000 in
set_option maxRecDepth 100000 in
theorem c_X5_within (l : Launch) (D : va_G) (q : Nat → Nat) (k : Nat → ClassId) (a b : xT) (o : Nat → Int64) (v0 : Int32) (v1 : Int32) (v2 : Int32) (y : Int32) (hf : f_X5_within b v0 v1 v2 = some y) : xMet l yX5_within (.code yX5_within cX5_within 3 (some .boolean)) r_X5_within (xPc D q k a b o [.int v0, .int v1, .int v2]) (xQr (.inr (some (.int y)))) (xmc (.inr (some (.int y)))) (xms (.inr (some (.int y)))) (fun _ => False) := by
  refine xMet.ofW (by decide) ?_
  intro p e s m args below meth c hx hb hml hr hlocks hnm hme hno hv
  obtain ⟨rfl, hP, hD, hG⟩ := hv
  have hown : s.vm.findClass RX5 = some m.cls := findClass_of_methodNamed hnm
  have hl := lv_entry ([.int v0, .int v1, .int v2]) (n := 3) (Nat.le_of_ble_eq_true rfl)
  rw [lg_entry_eq]
  generalize (lg_sl ([.int v0, .int v1, .int v2]) ++ List.replicate (3 - (lg_sl ([.int v0, .int v1, .int v2])).length) Slot.unset).toArray = ls at hl ⊢
  have hl : lv_has ls 3 [(0, .int v0), (1, .int v1), (2, .int v2)] := hl
  exact t_X5_within_0 ⟨hx, hb, hml, hr, hlocks, hown, hno, hG⟩ hP hD hl hf
abbrev r_X5_delay : Room := { frames := 1, cells := 0, slots := 0, locals := 22 }
noncomputable def g_X5_delay_88  (b : xT) (v2 : Int32) : Option (Int32 × xT) := some (v2, b)
set_option maxHeartbeats 4000000 in
set_option maxRecDepth 100000 in
theorem t_X5_delay_88 {p : Program} {l : Launch} {e : Env} {s : State} {m : MethodId} {args : Array Value} {below : List Frame} {meth : Method} {c : Code} {D : va_G} {q : Nat → Nat} {k : Nat → ClassId} {a b : xT} {o : Nat → Int64} {z : xT} {y : Int32 × xT} (C : xCx p s m meth c cX5_delay 4 (some .int) RX5 D k) {H : Heap} {locs : List Loc} (hP : va_P D vwCl (xw q k a b o) H) (hD : va_D (va_A (xw q k a z o) s.heap.size) (xw q k a b o)) (hS : va_S (va_A (xw q k a z o) s.heap.size) s.heap H locs)  {v2 : Int32} {ls : Array Slot} (hl : lv_has ls 4 [(2, .int v2)]) (hf : g_X5_delay_88  b v2 = some y) : W p l e r_X5_delay s m args below meth c H locs 0 0 (xMQ below (xQm D q k a z o (.inr (some (.int y.1), a, y.2))) args s 0 0 (va_A (xw q k a z o) s.heap.size)) (F0 m 88 ls []) := by
  obtain ⟨hx, hb, hml, hr, hlocks, hown, hno, hG⟩ := C
  have hK := hG.1
  have hE := hG.2.1
  have hA : ∀ u, s.heap.size ≤ u → va_A (xw q k a z o) s.heap.size u := fun u h => Or.inr h
  unfold g_X5_delay_88 at hf
  refine lv_iload_n hx hb dX5_delay_88 rfl (lv_at hl 0 rfl) ?_
  cases hf
  exact xretm_i hx hb hr hlocks hP hS dX5_delay_89
noncomputable def g_X5_delay_81 (K23 : xT → Int32 → Int32 → Int32 → Option (Int32 × xT)) (b : xT) (v1 : Int32) (v3 : Int32) (s0 : Int32) : Option (Int32 × xT) := K23 b v1 s0 (v3 + 1)
set_option maxHeartbeats 4000000 in
set_option maxRecDepth 100000 in
theorem t_X5_delay_81 {p : Program} {l : Launch} {e : Env} {s : State} {m : MethodId} {args : Array Value} {below : List Frame} {meth : Method} {c : Code} {D : va_G} {q : Nat → Nat} {k : Nat → ClassId} {a b : xT} {o : Nat → Int64} {z : xT} {y : Int32 × xT} (C : xCx p s m meth c cX5_delay 4 (some .int) RX5 D k) {H : Heap} {locs : List Loc} (hP : va_P D vwCl (xw q k a b o) H) (hD : va_D (va_A (xw q k a z o) s.heap.size) (xw q k a b o)) (hS : va_S (va_A (xw q k a z o) s.heap.size) s.heap H locs) {K23 : xT → Int32 → Int32 → Int32 → Option (Int32 × xT)} (hK23 : ∀ {b : xT} {v1 v2 v3 : Int32} {ls : Array Slot} {H : Heap} {locs : List Loc}, va_P D vwCl (xw q k a b o) H → va_D (va_A (xw q k a z o) s.heap.size) (xw q k a b o) → va_S (va_A (xw q k a z o) s.heap.size) s.heap H locs → lv_has ls 4 [(0, .ref (q 23)), (1, .int v1), (2, .int v2), (3, .int v3)] → K23 b v1 v2 v3 = some y → W p l e r_X5_delay s m args below meth c H locs 0 0 (xMQ below (xQm D q k a z o (.inr (some (.int y.1), a, y.2))) args s 0 0 (va_A (xw q k a z o) s.heap.size)) (F0 m 23 ls [])) {v1 v3 s0 : Int32} {ls : Array Slot} (hl : lv_has ls 4 [(0, .ref (q 23)), (1, .int v1), (3, .int v3)]) (hf : g_X5_delay_81 K23 b v1 v3 s0 = some y) : W p l e r_X5_delay s m args below meth c H locs 0 0 (xMQ below (xQm D q k a z o (.inr (some (.int y.1), a, y.2))) args s 0 0 (va_A (xw q k a z o) s.heap.size)) (F0 m 81 ls [.int s0]) := by
  obtain ⟨hx, hb, hml, hr, hlocks, hown, hno, hG⟩ := C
  have hK := hG.1
  have hE := hG.2.1
  have hA : ∀ u, s.heap.size ≤ u → va_A (xw q k a z o) s.heap.size u := fun u h => Or.inr h
  unfold g_X5_delay_81 at hf
  refine lv_istore_n (lv' := [(2, .int s0), (0, .ref (q 23)), (1, .int v1), (3, .int v3)]) hx hb dX5_delay_81 rfl hl (by decide) rfl (fun ls hl => ?_)
  refine lv_iinc (k := 3) (v := v3 + 1) (lv' := [(3, .int (v3 + 1)), (2, .int s0), (0, .ref (q 23)), (1, .int v1)]) hx hb dX5_delay_82 hl rfl (xinc (by decide) _) (by decide) rfl (fun ls hl => ?_)
  refine lv_goto hx hb dX5_delay_85 rfl ?_
  exact hK23 hP hD hS (lv_sub hl [2, 3, 1, 0] rfl) hf
noncomputable def g_X5_delay_80 (K23 : xT → Int32 → Int32 → Int32 → Option (Int32 × xT)) (b : xT) (v1 : Int32) (v2 : Int32) (v3 : Int32) : Option (Int32 × xT) := g_X5_delay_81 K23 b v1 v3 v2
set_option maxHeartbeats 4000000 in
set_option maxRecDepth 100000 in
theorem t_X5_delay_80 {p : Program} {l : Launch} {e : Env} {s : State} {m : MethodId} {args : Array Value} {below : List Frame} {meth : Method} {c : Code} {D : va_G} {q : Nat → Nat} {k : Nat → ClassId} {a b : xT} {o : Nat → Int64} {z : xT} {y : Int32 × xT} (C : xCx p s m meth c cX5_delay 4 (some .int) RX5 D k) {H : Heap} {locs : List Loc} (hP : va_P D vwCl (xw q k a b o) H) (hD : va_D (va_A (xw q k a z o) s.heap.size) (xw q k a b o)) (hS : va_S (va_A (xw q k a z o) s.heap.size) s.heap H locs) {K23 : xT → Int32 → Int32 → Int32 → Option (Int32 × xT)} (hK23 : ∀ {b : xT} {v1 v2 v3 : Int32} {ls : Array Slot} {H : Heap} {locs : List Loc}, va_P D vwCl (xw q k a b o) H → va_D (va_A (xw q k a z o) s.heap.size) (xw q k a b o) → va_S (va_A (xw q k a z o) s.heap.size) s.heap H locs → lv_has ls 4 [(0, .ref (q 23)), (1, .int v1), (2, .int v2), (3, .int v3)] → K23 b v1 v2 v3 = some y → W p l e r_X5_delay s m args below meth c H locs 0 0 (xMQ below (xQm D q k a z o (.inr (some (.int y.1), a, y.2))) args s 0 0 (va_A (xw q k a z o) s.heap.size)) (F0 m 23 ls [])) {v1 v2 v3 : Int32} {ls : Array Slot} (hl : lv_has ls 4 [(0, .ref (q 23)), (1, .int v1), (2, .int v2), (3, .int v3)]) (hf : g_X5_delay_80 K23 b v1 v2 v3 = some y) : W p l e r_X5_delay s m args below meth c H locs 0 0 (xMQ below (xQm D q k a z o (.inr (some (.int y.1), a, y.2))) args s 0 0 (va_A (xw q k a z o) s.heap.size)) (F0 m 80 ls []) := by
  obtain ⟨hx, hb, hml, hr, hlocks, hown, hno, hG⟩ := C
  have hK := hG.1
  have hE := hG.2.1
  have hA : ∀ u, s.heap.size ≤ u → va_A (xw q k a z o) s.heap.size u := fun u h => Or.inr h
  unfold g_X5_delay_80 at hf
  refine lv_iload_n hx hb dX5_delay_80 rfl (lv_at hl 2 rfl) ?_
  exact t_X5_delay_81 ⟨hx, hb, hml, hr, hlocks, hown, hno, hG⟩ hP hD hS hK23 (lv_sub hl [0, 1, 3] rfl) hf
noncomputable def g_X5_delay_62 (K23 : xT → Int32 → Int32 → Int32 → Option (Int32 × xT)) (b : xT) (v1 : Int32) (v2 : Int32) (v3 : Int32) : Option (Int32 × xT) := (if xin v3 60 = true then (if xin v3 60 = true then g_X5_delay_81 K23 b v1 v3 ((v2 + (b.1 6 v3.toNatClampNeg)) - (b.1 4 v3.toNatClampNeg)) else none) else none)
set_option maxHeartbeats 4000000 in
set_option maxRecDepth 100000 in
theorem t_X5_delay_62 {p : Program} {l : Launch} {e : Env} {s : State} {m : MethodId} {args : Array Value} {below : List Frame} {meth : Method} {c : Code} {D : va_G} {q : Nat → Nat} {k : Nat → ClassId} {a b : xT} {o : Nat → Int64} {z : xT} {y : Int32 × xT} (C : xCx p s m meth c cX5_delay 4 (some .int) RX5 D k) {H : Heap} {locs : List Loc} (hP : va_P D vwCl (xw q k a b o) H) (hD : va_D (va_A (xw q k a z o) s.heap.size) (xw q k a b o)) (hS : va_S (va_A (xw q k a z o) s.heap.size) s.heap H locs) {K23 : xT → Int32 → Int32 → Int32 → Option (Int32 × xT)} (hK23 : ∀ {b : xT} {v1 v2 v3 : Int32} {ls : Array Slot} {H : Heap} {locs : List Loc}, va_P D vwCl (xw q k a b o) H → va_D (va_A (xw q k a z o) s.heap.size) (xw q k a b o) → va_S (va_A (xw q k a z o) s.heap.size) s.heap H locs → lv_has ls 4 [(0, .ref (q 23)), (1, .int v1), (2, .int v2), (3, .int v3)] → K23 b v1 v2 v3 = some y → W p l e r_X5_delay s m args below meth c H locs 0 0 (xMQ below (xQm D q k a z o (.inr (some (.int y.1), a, y.2))) args s 0 0 (va_A (xw q k a z o) s.heap.size)) (F0 m 23 ls [])) {v1 v2 v3 : Int32} {ls : Array Slot} (hl : lv_has ls 4 [(0, .ref (q 23)), (1, .int v1), (2, .int v2), (3, .int v3)]) (hf : g_X5_delay_62 K23 b v1 v2 v3 = some y) : W p l e r_X5_delay s m args below meth c H locs 0 0 (xMQ below (xQm D q k a z o (.inr (some (.int y.1), a, y.2))) args s 0 0 (va_A (xw q k a z o) s.heap.size)) (F0 m 62 ls []) := by
  obtain ⟨hx, hb, hml, hr, hlocks, hown, hno, hG⟩ := C
  have hK := hG.1
  have hE := hG.2.1
  have hA : ∀ u, s.heap.size ≤ u → va_A (xw q k a z o) s.heap.size u := fun u h => Or.inr h
  unfold g_X5_delay_62 at hf
  refine lv_iload_n hx hb dX5_delay_62 rfl (lv_at hl 2 rfl) ?_
  refine lv_aload_n hx hb dX5_delay_63 rfl (lv_at hl 0 rfl) ?_
  refine va_get (D := D) (ci := 5) (v := .ref (q 30)) (C := RX5) (T := TX5) (N := 19) hx hb (hwX5 hE) (fun _ h => h) hown hK hP 23 rfl rfl 8 (by decide) (hE _ fl_X5_29 rfl _) (fun _ h9 => h9) rfl dX5_delay_64 ?_
  refine lv_iload_n hx hb dX5_delay_67 rfl (lv_at hl 3 rfl) ?_
  obtain ⟨hin, hf⟩ := xguard hf
  refine va_iald hx hb hK hP 30 0 rfl rfl hin dX5_delay_68 ?_
  refine lv_iadd hx hb dX5_delay_69 ?_
  refine lv_aload_n hx hb dX5_delay_70 rfl (lv_at hl 0 rfl) ?_
  refine va_get (D := D) (ci := 5) (v := .ref (q 28)) (C := RX5) (T := TX5) (N := 19) hx hb (hwX5 hE) (fun _ h => h) hown hK hP 23 rfl rfl 6 (by decide) (hE _ fl_X5_23 rfl _) (fun _ h9 => h9) rfl dX5_delay_71 ?_
  refine lv_iload_n hx hb dX5_delay_74 rfl (lv_at hl 3 rfl) ?_
  obtain ⟨hin, hf⟩ := xguard hf
  refine va_iald hx hb hK hP 28 0 rfl rfl hin dX5_delay_75 ?_
  refine lv_isub hx hb dX5_delay_76 ?_
  refine lv_goto hx hb dX5_delay_77 rfl ?_
  exact t_X5_delay_81 ⟨hx, hb, hml, hr, hlocks, hown, hno, hG⟩ hP hD hS hK23 (lv_sub hl [0, 1, 3] rfl) hf
noncomputable def g_X5_delay_23s (K23 : xT → Int32 → Int32 → Int32 → Option (Int32 × xT)) (b : xT) (v1 : Int32) (v2 : Int32) (v3 : Int32) : Option (Int32 × xT) := (if (b.2 1) ≤ v3 then g_X5_delay_88  b v2 else (if (b.2 0) = 0 then (if xin v3 60 = true then (if (b.1 6 v3.toNatClampNeg) < 0 then g_X5_delay_80 K23 b v1 v2 v3 else (if v1 = (-1) then g_X5_delay_62 K23 b v1 v2 v3 else (if xin v3 60 = true then (if (b.1 3 v3.toNatClampNeg) = v1 then g_X5_delay_62 K23 b v1 v2 v3 else g_X5_delay_80 K23 b v1 v2 v3) else none))) else none) else g_X5_delay_88  b v2))
set_option maxHeartbeats 4000000 in
set_option maxRecDepth 100000 in
theorem t_X5_delay_23s {p : Program} {l : Launch} {e : Env} {s : State} {m : MethodId} {args : Array Value} {below : List Frame} {meth : Method} {c : Code} {D : va_G} {q : Nat → Nat} {k : Nat → ClassId} {a b : xT} {o : Nat → Int64} {z : xT} {y : Int32 × xT} (C : xCx p s m meth c cX5_delay 4 (some .int) RX5 D k) {H : Heap} {locs : List Loc} (hP : va_P D vwCl (xw q k a b o) H) (hD : va_D (va_A (xw q k a z o) s.heap.size) (xw q k a b o)) (hS : va_S (va_A (xw q k a z o) s.heap.size) s.heap H locs) {K23 : xT → Int32 → Int32 → Int32 → Option (Int32 × xT)} (hK23 : ∀ {b : xT} {v1 v2 v3 : Int32} {ls : Array Slot} {H : Heap} {locs : List Loc}, va_P D vwCl (xw q k a b o) H → va_D (va_A (xw q k a z o) s.heap.size) (xw q k a b o) → va_S (va_A (xw q k a z o) s.heap.size) s.heap H locs → lv_has ls 4 [(0, .ref (q 23)), (1, .int v1), (2, .int v2), (3, .int v3)] → K23 b v1 v2 v3 = some y → W p l e r_X5_delay s m args below meth c H locs 0 0 (xMQ below (xQm D q k a z o (.inr (some (.int y.1), a, y.2))) args s 0 0 (va_A (xw q k a z o) s.heap.size)) (F0 m 23 ls [])) {v1 v2 v3 : Int32} {ls : Array Slot} (hl : lv_has ls 4 [(0, .ref (q 23)), (1, .int v1), (2, .int v2), (3, .int v3)]) (hf : g_X5_delay_23s K23 b v1 v2 v3 = some y) : W p l e r_X5_delay s m args below meth c H locs 0 0 (xMQ below (xQm D q k a z o (.inr (some (.int y.1), a, y.2))) args s 0 0 (va_A (xw q k a z o) s.heap.size)) (F0 m 23 ls []) := by
  obtain ⟨hx, hb, hml, hr, hlocks, hown, hno, hG⟩ := C
  have hK := hG.1
  have hE := hG.2.1
  have hA : ∀ u, s.heap.size ≤ u → va_A (xw q k a z o) s.heap.size u := fun u h => Or.inr h
  unfold g_X5_delay_23s at hf
  refine lv_iload_n hx hb dX5_delay_23 rfl (lv_at hl 3 rfl) ?_
  refine lv_aload_n hx hb dX5_delay_24 rfl (lv_at hl 0 rfl) ?_
  refine va_get (D := D) (ci := 5) (v := .int (b.2 1)) (C := RX5) (T := TX5) (N := 19) hx hb (hwX5 hE) (fun _ h => h) hown hK hP 23 rfl rfl 4 (by decide) (hE _ fl_X5_60 rfl _) (fun _ h9 => h9) rfl dX5_delay_25 ?_
  refine lv_icmp_ge hx hb dX5_delay_28 rfl (fun hc => ?_) (fun hc => ?_)
  · rw [if_pos hc] at hf
    exact t_X5_delay_88 ⟨hx, hb, hml, hr, hlocks, hown, hno, hG⟩ hP hD hS  (lv_sub hl [2] rfl) hf
  · rw [if_neg hc] at hf
    refine lv_aload_n hx hb dX5_delay_31 rfl (lv_at hl 0 rfl) ?_
    refine va_get (D := D) (ci := 5) (v := .int (b.2 0)) (C := RX5) (T := TX5) (N := 19) hx hb (hwX5 hE) (fun _ h => h) hown hK hP 23 rfl rfl 0 (by decide) (hE _ fl_X5_56 rfl _) (fun _ h9 => h9) rfl dX5_delay_32 ?_
    refine lv_if_ne hx hb dX5_delay_35 rfl (fun hc => ?_) (fun hc => ?_)
    · rw [if_neg hc] at hf
      exact t_X5_delay_88 ⟨hx, hb, hml, hr, hlocks, hown, hno, hG⟩ hP hD hS  (lv_sub hl [2] rfl) hf
    · rw [if_pos hc] at hf
      refine lv_aload_n hx hb dX5_delay_38 rfl (lv_at hl 0 rfl) ?_
      refine va_get (D := D) (ci := 5) (v := .ref (q 30)) (C := RX5) (T := TX5) (N := 19) hx hb (hwX5 hE) (fun _ h => h) hown hK hP 23 rfl rfl 8 (by decide) (hE _ fl_X5_29 rfl _) (fun _ h9 => h9) rfl dX5_delay_39 ?_
      refine lv_iload_n hx hb dX5_delay_42 rfl (lv_at hl 3 rfl) ?_
      obtain ⟨hin, hf⟩ := xguard hf
      refine va_iald hx hb hK hP 30 0 rfl rfl hin dX5_delay_43 ?_
      refine lv_if_lt hx hb dX5_delay_44 rfl (fun hc => ?_) (fun hc => ?_)
      · rw [if_pos hc] at hf
        exact t_X5_delay_80 ⟨hx, hb, hml, hr, hlocks, hown, hno, hG⟩ hP hD hS hK23 (lv_sub hl [0, 1, 2, 3] rfl) hf
      · rw [if_neg hc] at hf
        refine lv_iload_n hx hb dX5_delay_47 rfl (lv_at hl 1 rfl) ?_
        refine lv_iconst (v := -1) hx hb dX5_delay_48 (by decide) ?_
        refine lv_icmp_eq hx hb dX5_delay_49 rfl (fun hc => ?_) (fun hc => ?_)
        · rw [if_pos hc] at hf
          exact t_X5_delay_62 ⟨hx, hb, hml, hr, hlocks, hown, hno, hG⟩ hP hD hS hK23 (lv_sub hl [0, 1, 2, 3] rfl) hf
        · rw [if_neg hc] at hf
          refine lv_aload_n hx hb dX5_delay_52 rfl (lv_at hl 0 rfl) ?_
          refine va_get (D := D) (ci := 5) (v := .ref (q 27)) (C := RX5) (T := TX5) (N := 19) hx hb (hwX5 hE) (fun _ h => h) hown hK hP 23 rfl rfl 5 (by decide) (hE _ fl_X5_20 rfl _) (fun _ h9 => h9) rfl dX5_delay_53 ?_
          refine lv_iload_n hx hb dX5_delay_56 rfl (lv_at hl 3 rfl) ?_
          obtain ⟨hin, hf⟩ := xguard hf
          refine va_iald hx hb hK hP 27 0 rfl rfl hin dX5_delay_57 ?_
          refine lv_iload_n hx hb dX5_delay_58 rfl (lv_at hl 1 rfl) ?_
          refine lv_icmp_ne hx hb dX5_delay_59 rfl (fun hc => ?_) (fun hc => ?_)
          · rw [if_neg hc] at hf
            exact t_X5_delay_80 ⟨hx, hb, hml, hr, hlocks, hown, hno, hG⟩ hP hD hS hK23 (lv_sub hl [0, 1, 2, 3] rfl) hf
          · rw [if_pos hc] at hf
            exact t_X5_delay_62 ⟨hx, hb, hml, hr, hlocks, hown, hno, hG⟩ hP hD hS hK23 (lv_sub hl [0, 1, 2, 3] rfl) hf
noncomputable def g_X5_delay_23  : Nat → xT → Int32 → Int32 → Int32 → Option (Int32 × xT) := fun n => Nat.rec (motive := fun _ => xT → Int32 → Int32 → Int32 → Option (Int32 × xT)) (fun _ _ _ _ => none) (fun _ ih => g_X5_delay_23s ih) n
set_option maxHeartbeats 4000000 in
theorem t_X5_delay_23 {p : Program} {l : Launch} {e : Env} {s : State} {m : MethodId} {args : Array Value} {below : List Frame} {meth : Method} {c : Code} {D : va_G} {q : Nat → Nat} {k : Nat → ClassId} {a : xT} {o : Nat → Int64} {z : xT} {y : Int32 × xT} (C : xCx p s m meth c cX5_delay 4 (some .int) RX5 D k)  (n : Nat) : ∀ {b : xT} {v1 v2 v3 : Int32} {ls : Array Slot} {H : Heap} {locs : List Loc}, va_P D vwCl (xw q k a b o) H → va_D (va_A (xw q k a z o) s.heap.size) (xw q k a b o) → va_S (va_A (xw q k a z o) s.heap.size) s.heap H locs → lv_has ls 4 [(0, .ref (q 23)), (1, .int v1), (2, .int v2), (3, .int v3)] → g_X5_delay_23  n b v1 v2 v3 = some y → W p l e r_X5_delay s m args below meth c H locs 0 0 (xMQ below (xQm D q k a z o (.inr (some (.int y.1), a, y.2))) args s 0 0 (va_A (xw q k a z o) s.heap.size)) (F0 m 23 ls []) := by
  induction n with
  | zero =>
    intro _ _ _ _ _ _ _ _ _ _ _ hf
    have h9 : (none : Option (Int32 × xT)) = some y := hf
    cases h9
  | succ n ih =>
    intro _ _ _ _ _ _ _ hP hD hS hl hf
    exact t_X5_delay_23s C hP hD hS (K23 := g_X5_delay_23  n) ih hl hf
noncomputable def g_X5_delay_19  (b : xT) (v1 : Int32) : Option (Int32 × xT) := g_X5_delay_23  1000 b v1 0 0
set_option maxHeartbeats 4000000 in
set_option maxRecDepth 100000 in
theorem t_X5_delay_19 {p : Program} {l : Launch} {e : Env} {s : State} {m : MethodId} {args : Array Value} {below : List Frame} {meth : Method} {c : Code} {D : va_G} {q : Nat → Nat} {k : Nat → ClassId} {a b : xT} {o : Nat → Int64} {z : xT} {y : Int32 × xT} (C : xCx p s m meth c cX5_delay 4 (some .int) RX5 D k) {H : Heap} {locs : List Loc} (hP : va_P D vwCl (xw q k a b o) H) (hD : va_D (va_A (xw q k a z o) s.heap.size) (xw q k a b o)) (hS : va_S (va_A (xw q k a z o) s.heap.size) s.heap H locs)  {v1 : Int32} {ls : Array Slot} (hl : lv_has ls 4 [(0, .ref (q 23)), (1, .int v1)]) (hf : g_X5_delay_19  b v1 = some y) : W p l e r_X5_delay s m args below meth c H locs 0 0 (xMQ below (xQm D q k a z o (.inr (some (.int y.1), a, y.2))) args s 0 0 (va_A (xw q k a z o) s.heap.size)) (F0 m 19 ls []) := by
  obtain ⟨hx, hb, hml, hr, hlocks, hown, hno, hG⟩ := C
  have hK := hG.1
  have hE := hG.2.1
  have hA : ∀ u, s.heap.size ≤ u → va_A (xw q k a z o) s.heap.size u := fun u h => Or.inr h
  unfold g_X5_delay_19 at hf
  refine lv_iconst (v := 0) hx hb dX5_delay_19 (by decide) ?_
  refine lv_istore_n (lv' := [(2, .int 0), (0, .ref (q 23)), (1, .int v1)]) hx hb dX5_delay_20 rfl hl (by decide) rfl (fun ls hl => ?_)
  refine lv_iconst (v := 0) hx hb dX5_delay_21 (by decide) ?_
  refine lv_istore_n (lv' := [(3, .int 0), (2, .int 0), (0, .ref (q 23)), (1, .int v1)]) hx hb dX5_delay_22 rfl hl (by decide) rfl (fun ls hl => ?_)
  exact t_X5_delay_23 ⟨hx, hb, hml, hr, hlocks, hown, hno, hG⟩  1000 hP hD hS (lv_sub hl [2, 3, 1, 0] rfl) hf
noncomputable def g_X5_delay_16  (b : xT) (v1 : Int32) (s1 : Int32) : Option (Int32 × xT) := g_X5_delay_19  (xn b 0 s1) v1
set_option maxHeartbeats 4000000 in
set_option maxRecDepth 100000 in
theorem t_X5_delay_16 {p : Program} {l : Launch} {e : Env} {s : State} {m : MethodId} {args : Array Value} {below : List Frame} {meth : Method} {c : Code} {D : va_G} {q : Nat → Nat} {k : Nat → ClassId} {a b : xT} {o : Nat → Int64} {z : xT} {y : Int32 × xT} (C : xCx p s m meth c cX5_delay 4 (some .int) RX5 D k) {H : Heap} {locs : List Loc} (hP : va_P D vwCl (xw q k a b o) H) (hD : va_D (va_A (xw q k a z o) s.heap.size) (xw q k a b o)) (hS : va_S (va_A (xw q k a z o) s.heap.size) s.heap H locs)  {v1 s1 : Int32} {ls : Array Slot} (hl : lv_has ls 4 [(0, .ref (q 23)), (1, .int v1)]) (hf : g_X5_delay_16  b v1 s1 = some y) : W p l e r_X5_delay s m args below meth c H locs 0 0 (xMQ below (xQm D q k a z o (.inr (some (.int y.1), a, y.2))) args s 0 0 (va_A (xw q k a z o) s.heap.size)) (F0 m 16 ls [.int s1, .ref (q 23)]) := by
  obtain ⟨hx, hb, hml, hr, hlocks, hown, hno, hG⟩ := C
  have hK := hG.1
  have hE := hG.2.1
  have hA : ∀ u, s.heap.size ≤ u → va_A (xw q k a z o) s.heap.size u := fun u h => Or.inr h
  unfold g_X5_delay_16 at hf
  refine va_put (D := D) (ci := 5) (v := .int s1) (ty := .int) (C := RX5) (T := TX5) (N := 19) hx hb (hwX5 hE) (fun _ h => h) tyX5 tyX5_ok nmX5 hown hK hP hD hS 23 rfl rfl 0 (by decide) (hE _ fl_X5_56 rfl _) (fun _ h9 => h9) rfl (by decide +kernel) rfl rfl (Nat.le_of_ble_eq_true rfl) dX5_delay_16 (fun H locs hP hD hS => ?_)
  rw [xw_n23_0] at hP hD
  exact t_X5_delay_19 ⟨hx, hb, hml, hr, hlocks, hown, hno, hG⟩ hP hD hS  (lv_sub hl [0, 1] rfl) hf
noncomputable def g_X5_delay_0  (b : xT) (v1 : Int32) : Option (Int32 × xT) := ((f_X5_within b v1 (-1) 7).bind fun r5 => (if r5 = 0 then g_X5_delay_16  b v1 1 else g_X5_delay_16  b v1 0))
set_option maxHeartbeats 4000000 in
set_option maxRecDepth 100000 in
theorem t_X5_delay_0 {p : Program} {l : Launch} {e : Env} {s : State} {m : MethodId} {args : Array Value} {below : List Frame} {meth : Method} {c : Code} {D : va_G} {q : Nat → Nat} {k : Nat → ClassId} {a b : xT} {o : Nat → Int64} {z : xT} {y : Int32 × xT} (C : xCx p s m meth c cX5_delay 4 (some .int) RX5 D k) {H : Heap} {locs : List Loc} (hP : va_P D vwCl (xw q k a b o) H) (hD : va_D (va_A (xw q k a z o) s.heap.size) (xw q k a b o)) (hS : va_S (va_A (xw q k a z o) s.heap.size) s.heap H locs)  {v1 : Int32} {ls : Array Slot} (hl : lv_has ls 4 [(0, .ref (q 23)), (1, .int v1)]) (hf : g_X5_delay_0  b v1 = some y) : W p l e r_X5_delay s m args below meth c H locs 0 0 (xMQ below (xQm D q k a z o (.inr (some (.int y.1), a, y.2))) args s 0 0 (va_A (xw q k a z o) s.heap.size)) (F0 m 0 ls []) := by
  obtain ⟨hx, hb, hml, hr, hlocks, hown, hno, hG⟩ := C
  have hK := hG.1
  have hE := hG.2.1
  have hA : ∀ u, s.heap.size ≤ u → va_A (xw q k a z o) s.heap.size u := fun u h => Or.inr h
  unfold g_X5_delay_0 at hf
  refine lv_aload_n hx hb dX5_delay_0 rfl (lv_at hl 0 rfl) ?_
  refine lv_iload_n hx hb dX5_delay_1 rfl (lv_at hl 1 rfl) ?_
  refine lv_iconst (v := -1) hx hb dX5_delay_2 (by decide) ?_
  refine lv_bipush (v := 7) hx hb dX5_delay_3 (by decide) ?_
  obtain ⟨r5, hN, hf⟩ := xbind hf
  refine xgo_r (v := some (.int r5)) (xrunS (As := [.int v1, .int (-1), .int 7]) (rest := [.ref (q 23)]) (xfixm fx_X5_within hx hb hml hown (by decide) (by decide) (by decide) (by decide)) hE ml_X5_84 wt_X5_within wc_X5_within wn_X5 (c_X5_within l D q k a b o v1 (-1) 7 _ hN) (xpre hP hD hG) rfl rfl hl.1 rfl (lv_room (Nat.le_of_ble_eq_true rfl)) dX5_delay_5) ?_
  refine lv_if_eq hx hb dX5_delay_8 rfl (fun hc => ?_) (fun hc => ?_)
  · rw [if_pos hc] at hf
    refine lv_iconst (v := 1) hx hb dX5_delay_15 (by decide) ?_
    exact t_X5_delay_16 ⟨hx, hb, hml, hr, hlocks, hown, hno, hG⟩ hP hD hS  (lv_sub hl [0, 1] rfl) hf
  · rw [if_neg hc] at hf
    refine lv_iconst (v := 0) hx hb dX5_delay_11 (by decide) ?_
    refine lv_goto hx hb dX5_delay_12 rfl ?_
    exact t_X5_delay_16 ⟨hx, hb, hml, hr, hlocks, hown, hno, hG⟩ hP hD hS  (lv_sub hl [0, 1] rfl) hf
noncomputable def f_X5_delay (b : xT) (v1 : Int32) : Option (Int32 × xT) := g_X5_delay_0 b v1
set_option maxHeartbeats 4000000 in
set_option maxRecDepth 100000 in
theorem c_X5_delay (l : Launch) (D : va_G) (q : Nat → Nat) (k : Nat → ClassId) (sz : Nat) (a b : xT) (o : Nat → Int64) (v1 : Int32) (y : Int32 × xT) (hf : f_X5_delay b v1 = some y) : xMet l yX5_delay (.code yX5_delay cX5_delay 4 (some .int)) r_X5_delay (xPcm D q k sz a b o [.ref (q 23), .int v1]) (xQm D q k a b o (.inr (some (.int y.1), a, y.2))) 0 0 (va_A (xw q k a b o) sz) := by
  refine xMet.ofW (by decide) ?_
  intro p e s m args below meth c hx hb hml hr hlocks hnm hme hno hv
  obtain ⟨rfl, hsz, hP, hD, hG⟩ := hv
  subst hsz
  have hown : s.vm.findClass RX5 = some m.cls := findClass_of_methodNamed hnm
  have hl := lv_entry ([.ref (q 23), .int v1]) (n := 4) (Nat.le_of_ble_eq_true rfl)
  rw [lg_entry_eq]
  generalize (lg_sl ([.ref (q 23), .int v1]) ++ List.replicate (4 - (lg_sl ([.ref (q 23), .int v1])).length) Slot.unset).toArray = ls at hl ⊢
  have hl : lv_has ls 4 [(0, .ref (q 23)), (1, .int v1)] := hl
  have hD := hD.self (sz := s.heap.size)
  exact t_X5_delay_0 ⟨hx, hb, hml, hr, hlocks, hown, hno, hG⟩ hP hD va_S.rf hl hf
abbrev r_X5_drop : Room := { frames := 0, cells := 0, slots := 0, locals := 0 }
noncomputable def g_X5_drop_44  (b : xT) (v2 : Int32) : Option (Int32 × xT) := (if xzb v2 = true then some (v2, b) else none)
set_option maxHeartbeats 4000000 in
set_option maxRecDepth 100000 in
theorem t_X5_drop_44 {p : Program} {l : Launch} {e : Env} {s : State} {m : MethodId} {args : Array Value} {below : List Frame} {meth : Method} {c : Code} {D : va_G} {q : Nat → Nat} {k : Nat → ClassId} {a b : xT} {o : Nat → Int64} {z : xT} {y : Int32 × xT} (C : xCx p s m meth c cX5_drop 3 (some .boolean) RX5 D k) {H : Heap} {locs : List Loc} (hP : va_P D vwCl (xw q k a b o) H) (hD : va_D (va_A (xw q k a z o) s.heap.size) (xw q k a b o)) (hS : va_S (va_A (xw q k a z o) s.heap.size) s.heap H locs)  {v2 : Int32} {ls : Array Slot} (hl : lv_has ls 3 [(2, .int v2)]) (hf : g_X5_drop_44  b v2 = some y) : W p l e r_X5_drop s m args below meth c H locs 0 0 (xMQ below (xQm D q k a z o (.inr (some (.int y.1), a, y.2))) args s 0 0 (va_A (xw q k a z o) s.heap.size)) (F0 m 44 ls []) := by
  obtain ⟨hx, hb, hml, hr, hlocks, hown, hno, hG⟩ := C
  have hK := hG.1
  have hE := hG.2.1
  have hA : ∀ u, s.heap.size ≤ u → va_A (xw q k a z o) s.heap.size u := fun u h => Or.inr h
  unfold g_X5_drop_44 at hf
  refine lv_iload_n hx hb dX5_drop_44 rfl (lv_at hl 0 rfl) ?_
  obtain ⟨hz, hf⟩ := xguz hf
  cases hf
  exact xretm_z hx hb hr hz hlocks hP hS dX5_drop_45
noncomputable def g_X5_drop_21  (b : xT) (v1 : Int32) : Option (Int32 × xT) := (if (b.2 0) ≤ 0 then (if xin v1 40 = true then (if xin v1 40 = true then g_X5_drop_44  (xs b 13 v1.toNatClampNeg (vp_nar .boolean 0)) (b.1 13 v1.toNatClampNeg) else none) else none) else some (0, b))
set_option maxHeartbeats 4000000 in
set_option maxRecDepth 100000 in
theorem t_X5_drop_21 {p : Program} {l : Launch} {e : Env} {s : State} {m : MethodId} {args : Array Value} {below : List Frame} {meth : Method} {c : Code} {D : va_G} {q : Nat → Nat} {k : Nat → ClassId} {a b : xT} {o : Nat → Int64} {z : xT} {y : Int32 × xT} (C : xCx p s m meth c cX5_drop 3 (some .boolean) RX5 D k) {H : Heap} {locs : List Loc} (hP : va_P D vwCl (xw q k a b o) H) (hD : va_D (va_A (xw q k a z o) s.heap.size) (xw q k a b o)) (hS : va_S (va_A (xw q k a z o) s.heap.size) s.heap H locs)  {v1 : Int32} {ls : Array Slot} (hl : lv_has ls 3 [(0, .ref (q 23)), (1, .int v1)]) (hf : g_X5_drop_21  b v1 = some y) : W p l e r_X5_drop s m args below meth c H locs 0 0 (xMQ below (xQm D q k a z o (.inr (some (.int y.1), a, y.2))) args s 0 0 (va_A (xw q k a z o) s.heap.size)) (F0 m 21 ls []) := by
  obtain ⟨hx, hb, hml, hr, hlocks, hown, hno, hG⟩ := C
  have hK := hG.1
  have hE := hG.2.1
  have hA : ∀ u, s.heap.size ≤ u → va_A (xw q k a z o) s.heap.size u := fun u h => Or.inr h
  unfold g_X5_drop_21 at hf
  refine lv_aload_n hx hb dX5_drop_21 rfl (lv_at hl 0 rfl) ?_
  refine va_get (D := D) (ci := 5) (v := .int (b.2 0)) (C := RX5) (T := TX5) (N := 19) hx hb (hwX5 hE) (fun _ h => h) hown hK hP 23 rfl rfl 0 (by decide) (hE _ fl_X5_56 rfl _) (fun _ h9 => h9) rfl dX5_drop_22 ?_
  refine lv_if_le hx hb dX5_drop_25 rfl (fun hc => ?_) (fun hc => ?_)
  · rw [if_pos hc] at hf
    refine lv_aload_n hx hb dX5_drop_30 rfl (lv_at hl 0 rfl) ?_
    refine va_get (D := D) (ci := 5) (v := .ref (q 37)) (C := RX5) (T := TX5) (N := 19) hx hb (hwX5 hE) (fun _ h => h) hown hK hP 23 rfl rfl 16 (by decide) (hE _ fl_X5_50 rfl _) (fun _ h9 => h9) rfl dX5_drop_31 ?_
    refine lv_iload_n hx hb dX5_drop_34 rfl (lv_at hl 1 rfl) ?_
    obtain ⟨hin, hf⟩ := xguard hf
    refine va_zald hx hb hK hP 37 1 rfl rfl hin dX5_drop_35 ?_
    refine lv_istore_n (lv' := [(2, .int (b.1 13 v1.toNatClampNeg)), (0, .ref (q 23)), (1, .int v1)]) hx hb dX5_drop_36 rfl hl (by decide) rfl (fun ls hl => ?_)
    refine lv_aload_n hx hb dX5_drop_37 rfl (lv_at hl 1 rfl) ?_
    refine va_get (D := D) (ci := 5) (v := .ref (q 37)) (C := RX5) (T := TX5) (N := 19) hx hb (hwX5 hE) (fun _ h => h) hown hK hP 23 rfl rfl 16 (by decide) (hE _ fl_X5_50 rfl _) (fun _ h9 => h9) rfl dX5_drop_38 ?_
    refine lv_iload_n hx hb dX5_drop_41 rfl (lv_at hl 2 rfl) ?_
    refine lv_iconst (v := 0) hx hb dX5_drop_42 (by decide) ?_
    obtain ⟨hin, hf⟩ := xguard hf
    refine va_zast hx hb hK hP hD hS 37 1 rfl rfl hin dX5_drop_43 (fun H locs hP hD hS => ?_)
    rw [xw_s37] at hP hD
    exact t_X5_drop_44 ⟨hx, hb, hml, hr, hlocks, hown, hno, hG⟩ hP hD hS  (lv_sub hl [0] rfl) hf
  · rw [if_neg hc] at hf
    refine lv_iconst (v := 0) hx hb dX5_drop_28 (by decide) ?_
    cases hf
    exact xretm_z hx hb hr xz0 hlocks hP hS dX5_drop_29
noncomputable def g_X5_drop_18  (b : xT) (v1 : Int32) (s1 : Int32) : Option (Int32 × xT) := g_X5_drop_21  (xn b 0 s1) v1
set_option maxHeartbeats 4000000 in
set_option maxRecDepth 100000 in
theorem t_X5_drop_18 {p : Program} {l : Launch} {e : Env} {s : State} {m : MethodId} {args : Array Value} {below : List Frame} {meth : Method} {c : Code} {D : va_G} {q : Nat → Nat} {k : Nat → ClassId} {a b : xT} {o : Nat → Int64} {z : xT} {y : Int32 × xT} (C : xCx p s m meth c cX5_drop 3 (some .boolean) RX5 D k) {H : Heap} {locs : List Loc} (hP : va_P D vwCl (xw q k a b o) H) (hD : va_D (va_A (xw q k a z o) s.heap.size) (xw q k a b o)) (hS : va_S (va_A (xw q k a z o) s.heap.size) s.heap H locs)  {v1 s1 : Int32} {ls : Array Slot} (hl : lv_has ls 3 [(0, .ref (q 23)), (1, .int v1)]) (hf : g_X5_drop_18  b v1 s1 = some y) : W p l e r_X5_drop s m args below meth c H locs 0 0 (xMQ below (xQm D q k a z o (.inr (some (.int y.1), a, y.2))) args s 0 0 (va_A (xw q k a z o) s.heap.size)) (F0 m 18 ls [.int s1, .ref (q 23)]) := by
  obtain ⟨hx, hb, hml, hr, hlocks, hown, hno, hG⟩ := C
  have hK := hG.1
  have hE := hG.2.1
  have hA : ∀ u, s.heap.size ≤ u → va_A (xw q k a z o) s.heap.size u := fun u h => Or.inr h
  unfold g_X5_drop_18 at hf
  refine va_put (D := D) (ci := 5) (v := .int s1) (ty := .int) (C := RX5) (T := TX5) (N := 19) hx hb (hwX5 hE) (fun _ h => h) tyX5 tyX5_ok nmX5 hown hK hP hD hS 23 rfl rfl 0 (by decide) (hE _ fl_X5_56 rfl _) (fun _ h9 => h9) rfl (by decide +kernel) rfl rfl (Nat.le_of_ble_eq_true rfl) dX5_drop_18 (fun H locs hP hD hS => ?_)
  rw [xw_n23_0] at hP hD
  exact t_X5_drop_21 ⟨hx, hb, hml, hr, hlocks, hown, hno, hG⟩ hP hD hS  (lv_sub hl [0, 1] rfl) hf
noncomputable def g_X5_drop_13  (b : xT) (v1 : Int32) : Option (Int32 × xT) := g_X5_drop_18  b v1 1
set_option maxHeartbeats 4000000 in
set_option maxRecDepth 100000 in
theorem t_X5_drop_13 {p : Program} {l : Launch} {e : Env} {s : State} {m : MethodId} {args : Array Value} {below : List Frame} {meth : Method} {c : Code} {D : va_G} {q : Nat → Nat} {k : Nat → ClassId} {a b : xT} {o : Nat → Int64} {z : xT} {y : Int32 × xT} (C : xCx p s m meth c cX5_drop 3 (some .boolean) RX5 D k) {H : Heap} {locs : List Loc} (hP : va_P D vwCl (xw q k a b o) H) (hD : va_D (va_A (xw q k a z o) s.heap.size) (xw q k a b o)) (hS : va_S (va_A (xw q k a z o) s.heap.size) s.heap H locs)  {v1 : Int32} {ls : Array Slot} (hl : lv_has ls 3 [(0, .ref (q 23)), (1, .int v1)]) (hf : g_X5_drop_13  b v1 = some y) : W p l e r_X5_drop s m args below meth c H locs 0 0 (xMQ below (xQm D q k a z o (.inr (some (.int y.1), a, y.2))) args s 0 0 (va_A (xw q k a z o) s.heap.size)) (F0 m 13 ls [.ref (q 23)]) := by
  obtain ⟨hx, hb, hml, hr, hlocks, hown, hno, hG⟩ := C
  have hK := hG.1
  have hE := hG.2.1
  have hA : ∀ u, s.heap.size ≤ u → va_A (xw q k a z o) s.heap.size u := fun u h => Or.inr h
  unfold g_X5_drop_13 at hf
  refine lv_iconst (v := 1) hx hb dX5_drop_13 (by decide) ?_
  refine lv_goto hx hb dX5_drop_14 rfl ?_
  exact t_X5_drop_18 ⟨hx, hb, hml, hr, hlocks, hown, hno, hG⟩ hP hD hS  (lv_sub hl [0, 1] rfl) hf
noncomputable def g_X5_drop_0  (b : xT) (v1 : Int32) : Option (Int32 × xT) := (if v1 < 0 then g_X5_drop_13  b v1 else (if v1 < (b.2 2) then g_X5_drop_18  b v1 0 else g_X5_drop_13  b v1))
set_option maxHeartbeats 4000000 in
set_option maxRecDepth 100000 in
theorem t_X5_drop_0 {p : Program} {l : Launch} {e : Env} {s : State} {m : MethodId} {args : Array Value} {below : List Frame} {meth : Method} {c : Code} {D : va_G} {q : Nat → Nat} {k : Nat → ClassId} {a b : xT} {o : Nat → Int64} {z : xT} {y : Int32 × xT} (C : xCx p s m meth c cX5_drop 3 (some .boolean) RX5 D k) {H : Heap} {locs : List Loc} (hP : va_P D vwCl (xw q k a b o) H) (hD : va_D (va_A (xw q k a z o) s.heap.size) (xw q k a b o)) (hS : va_S (va_A (xw q k a z o) s.heap.size) s.heap H locs)  {v1 : Int32} {ls : Array Slot} (hl : lv_has ls 3 [(0, .ref (q 23)), (1, .int v1)]) (hf : g_X5_drop_0  b v1 = some y) : W p l e r_X5_drop s m args below meth c H locs 0 0 (xMQ below (xQm D q k a z o (.inr (some (.int y.1), a, y.2))) args s 0 0 (va_A (xw q k a z o) s.heap.size)) (F0 m 0 ls []) := by
  obtain ⟨hx, hb, hml, hr, hlocks, hown, hno, hG⟩ := C
  have hK := hG.1
  have hE := hG.2.1
  have hA : ∀ u, s.heap.size ≤ u → va_A (xw q k a z o) s.heap.size u := fun u h => Or.inr h
  unfold g_X5_drop_0 at hf
  refine lv_aload_n hx hb dX5_drop_0 rfl (lv_at hl 0 rfl) ?_
  refine lv_iload_n hx hb dX5_drop_1 rfl (lv_at hl 1 rfl) ?_
  refine lv_if_lt hx hb dX5_drop_2 rfl (fun hc => ?_) (fun hc => ?_)
  · rw [if_pos hc] at hf
    exact t_X5_drop_13 ⟨hx, hb, hml, hr, hlocks, hown, hno, hG⟩ hP hD hS  (lv_sub hl [0, 1] rfl) hf
  · rw [if_neg hc] at hf
    refine lv_iload_n hx hb dX5_drop_5 rfl (lv_at hl 1 rfl) ?_
    refine lv_aload_n hx hb dX5_drop_6 rfl (lv_at hl 0 rfl) ?_
    refine va_get (D := D) (ci := 5) (v := .int (b.2 2)) (C := RX5) (T := TX5) (N := 19) hx hb (hwX5 hE) (fun _ h => h) hown hK hP 23 rfl rfl 12 (by decide) (hE _ fl_X5_108 rfl _) (fun _ h9 => h9) rfl dX5_drop_7 ?_
    refine lv_icmp_lt hx hb dX5_drop_10 rfl (fun hc => ?_) (fun hc => ?_)
    · rw [if_pos hc] at hf
      refine lv_iconst (v := 0) hx hb dX5_drop_17 (by decide) ?_
      exact t_X5_drop_18 ⟨hx, hb, hml, hr, hlocks, hown, hno, hG⟩ hP hD hS  (lv_sub hl [0, 1] rfl) hf
    · rw [if_neg hc] at hf
      exact t_X5_drop_13 ⟨hx, hb, hml, hr, hlocks, hown, hno, hG⟩ hP hD hS  (lv_sub hl [0, 1] rfl) hf
noncomputable def f_X5_drop (b : xT) (v1 : Int32) : Option (Int32 × xT) := g_X5_drop_0 b v1
set_option maxHeartbeats 4000000 in
set_option maxRecDepth 100000 in
theorem c_X5_drop (l : Launch) (D : va_G) (q : Nat → Nat) (k : Nat → ClassId) (sz : Nat) (a b : xT) (o : Nat → Int64) (v1 : Int32) (y : Int32 × xT) (hf : f_X5_drop b v1 = some y) : xMet l yX5_drop (.code yX5_drop cX5_drop 3 (some .boolean)) r_X5_drop (xPcm D q k sz a b o [.ref (q 23), .int v1]) (xQm D q k a b o (.inr (some (.int y.1), a, y.2))) 0 0 (va_A (xw q k a b o) sz) := by
  refine xMet.ofW (by decide) ?_
  intro p e s m args below meth c hx hb hml hr hlocks hnm hme hno hv
  obtain ⟨rfl, hsz, hP, hD, hG⟩ := hv
  subst hsz
  have hown : s.vm.findClass RX5 = some m.cls := findClass_of_methodNamed hnm
  have hl := lv_entry ([.ref (q 23), .int v1]) (n := 3) (Nat.le_of_ble_eq_true rfl)
  rw [lg_entry_eq]
  generalize (lg_sl ([.ref (q 23), .int v1]) ++ List.replicate (3 - (lg_sl ([.ref (q 23), .int v1])).length) Slot.unset).toArray = ls at hl ⊢
  have hl : lv_has ls 3 [(0, .ref (q 23)), (1, .int v1)] := hl
  have hD := hD.self (sz := s.heap.size)
  exact t_X5_drop_0 ⟨hx, hb, hml, hr, hlocks, hown, hno, hG⟩ hP hD va_S.rf hl hf
abbrev r_X5_entry : Room := { frames := 1, cells := 0, slots := 0, locals := 22 }
noncomputable def g_X5_entry_55  (b : xT) (s0 : Int32) : Option (Int32 × xT) := some (s0, b)
set_option maxHeartbeats 4000000 in
set_option maxRecDepth 100000 in
theorem t_X5_entry_55 {p : Program} {l : Launch} {e : Env} {s : State} {m : MethodId} {args : Array Value} {below : List Frame} {meth : Method} {c : Code} {D : va_G} {q : Nat → Nat} {k : Nat → ClassId} {a b : xT} {o : Nat → Int64} {z : xT} {y : Int32 × xT} (C : xCx p s m meth c cX5_entry 3 (some .int) RX5 D k) {H : Heap} {locs : List Loc} (hP : va_P D vwCl (xw q k a b o) H) (hD : va_D (va_A (xw q k a z o) s.heap.size) (xw q k a b o)) (hS : va_S (va_A (xw q k a z o) s.heap.size) s.heap H locs)  {s0 : Int32} {ls : Array Slot} (hl : lv_has ls 3 []) (hf : g_X5_entry_55  b s0 = some y) : W p l e r_X5_entry s m args below meth c H locs 0 0 (xMQ below (xQm D q k a z o (.inr (some (.int y.1), a, y.2))) args s 0 0 (va_A (xw q k a z o) s.heap.size)) (F0 m 55 ls [.int s0]) := by
  obtain ⟨hx, hb, hml, hr, hlocks, hown, hno, hG⟩ := C
  have hK := hG.1
  have hE := hG.2.1
  have hA : ∀ u, s.heap.size ≤ u → va_A (xw q k a z o) s.heap.size u := fun u h => Or.inr h
  unfold g_X5_entry_55 at hf
  cases hf
  exact xretm_i hx hb hr hlocks hP hS dX5_entry_55
noncomputable def g_X5_entry_34  (b : xT) (v1 : Int32) (v2 : Int32) : Option (Int32 × xT) := (if (b.2 0) ≤ 0 then (if xin ((4 * v1) + v2) 800 = true then g_X5_entry_55  b (b.1 14 ((4 * v1) + v2).toNatClampNeg) else none) else g_X5_entry_55  b 0)
set_option maxHeartbeats 4000000 in
set_option maxRecDepth 100000 in
theorem t_X5_entry_34 {p : Program} {l : Launch} {e : Env} {s : State} {m : MethodId} {args : Array Value} {below : List Frame} {meth : Method} {c : Code} {D : va_G} {q : Nat → Nat} {k : Nat → ClassId} {a b : xT} {o : Nat → Int64} {z : xT} {y : Int32 × xT} (C : xCx p s m meth c cX5_entry 3 (some .int) RX5 D k) {H : Heap} {locs : List Loc} (hP : va_P D vwCl (xw q k a b o) H) (hD : va_D (va_A (xw q k a z o) s.heap.size) (xw q k a b o)) (hS : va_S (va_A (xw q k a z o) s.heap.size) s.heap H locs)  {v1 v2 : Int32} {ls : Array Slot} (hl : lv_has ls 3 [(0, .ref (q 23)), (1, .int v1), (2, .int v2)]) (hf : g_X5_entry_34  b v1 v2 = some y) : W p l e r_X5_entry s m args below meth c H locs 0 0 (xMQ below (xQm D q k a z o (.inr (some (.int y.1), a, y.2))) args s 0 0 (va_A (xw q k a z o) s.heap.size)) (F0 m 34 ls []) := by
  obtain ⟨hx, hb, hml, hr, hlocks, hown, hno, hG⟩ := C
  have hK := hG.1
  have hE := hG.2.1
  have hA : ∀ u, s.heap.size ≤ u → va_A (xw q k a z o) s.heap.size u := fun u h => Or.inr h
  unfold g_X5_entry_34 at hf
  refine lv_aload_n hx hb dX5_entry_34 rfl (lv_at hl 0 rfl) ?_
  refine va_get (D := D) (ci := 5) (v := .int (b.2 0)) (C := RX5) (T := TX5) (N := 19) hx hb (hwX5 hE) (fun _ h => h) hown hK hP 23 rfl rfl 0 (by decide) (hE _ fl_X5_56 rfl _) (fun _ h9 => h9) rfl dX5_entry_35 ?_
  refine lv_if_le hx hb dX5_entry_38 rfl (fun hc => ?_) (fun hc => ?_)
  · rw [if_pos hc] at hf
    refine lv_aload_n hx hb dX5_entry_45 rfl (lv_at hl 0 rfl) ?_
    refine va_get (D := D) (ci := 5) (v := .ref (q 38)) (C := RX5) (T := TX5) (N := 19) hx hb (hwX5 hE) (fun _ h => h) hown hK hP 23 rfl rfl 18 (by decide) (hE _ fl_X5_53 rfl _) (fun _ h9 => h9) rfl dX5_entry_46 ?_
    refine lv_iconst (v := 4) hx hb dX5_entry_49 (by decide) ?_
    refine lv_iload_n hx hb dX5_entry_50 rfl (lv_at hl 1 rfl) ?_
    refine lv_imul hx hb dX5_entry_51 ?_
    refine lv_iload_n hx hb dX5_entry_52 rfl (lv_at hl 2 rfl) ?_
    refine lv_iadd hx hb dX5_entry_53 ?_
    obtain ⟨hin, hf⟩ := xguard hf
    refine va_iald hx hb hK hP 38 0 rfl rfl hin dX5_entry_54 ?_
    exact t_X5_entry_55 ⟨hx, hb, hml, hr, hlocks, hown, hno, hG⟩ hP hD hS  (lv_sub hl [] rfl) hf
  · rw [if_neg hc] at hf
    refine lv_iconst (v := 0) hx hb dX5_entry_41 (by decide) ?_
    refine lv_goto hx hb dX5_entry_42 rfl ?_
    exact t_X5_entry_55 ⟨hx, hb, hml, hr, hlocks, hown, hno, hG⟩ hP hD hS  (lv_sub hl [] rfl) hf
noncomputable def g_X5_entry_31  (b : xT) (v1 : Int32) (v2 : Int32) (s1 : Int32) : Option (Int32 × xT) := g_X5_entry_34  (xn b 0 s1) v1 v2
set_option maxHeartbeats 4000000 in
set_option maxRecDepth 100000 in
theorem t_X5_entry_31 {p : Program} {l : Launch} {e : Env} {s : State} {m : MethodId} {args : Array Value} {below : List Frame} {meth : Method} {c : Code} {D : va_G} {q : Nat → Nat} {k : Nat → ClassId} {a b : xT} {o : Nat → Int64} {z : xT} {y : Int32 × xT} (C : xCx p s m meth c cX5_entry 3 (some .int) RX5 D k) {H : Heap} {locs : List Loc} (hP : va_P D vwCl (xw q k a b o) H) (hD : va_D (va_A (xw q k a z o) s.heap.size) (xw q k a b o)) (hS : va_S (va_A (xw q k a z o) s.heap.size) s.heap H locs)  {v1 v2 s1 : Int32} {ls : Array Slot} (hl : lv_has ls 3 [(0, .ref (q 23)), (1, .int v1), (2, .int v2)]) (hf : g_X5_entry_31  b v1 v2 s1 = some y) : W p l e r_X5_entry s m args below meth c H locs 0 0 (xMQ below (xQm D q k a z o (.inr (some (.int y.1), a, y.2))) args s 0 0 (va_A (xw q k a z o) s.heap.size)) (F0 m 31 ls [.int s1, .ref (q 23)]) := by
  obtain ⟨hx, hb, hml, hr, hlocks, hown, hno, hG⟩ := C
  have hK := hG.1
  have hE := hG.2.1
  have hA : ∀ u, s.heap.size ≤ u → va_A (xw q k a z o) s.heap.size u := fun u h => Or.inr h
  unfold g_X5_entry_31 at hf
  refine va_put (D := D) (ci := 5) (v := .int s1) (ty := .int) (C := RX5) (T := TX5) (N := 19) hx hb (hwX5 hE) (fun _ h => h) tyX5 tyX5_ok nmX5 hown hK hP hD hS 23 rfl rfl 0 (by decide) (hE _ fl_X5_56 rfl _) (fun _ h9 => h9) rfl (by decide +kernel) rfl rfl (Nat.le_of_ble_eq_true rfl) dX5_entry_31 (fun H locs hP hD hS => ?_)
  rw [xw_n23_0] at hP hD
  exact t_X5_entry_34 ⟨hx, hb, hml, hr, hlocks, hown, hno, hG⟩ hP hD hS  (lv_sub hl [0, 1, 2] rfl) hf
noncomputable def g_X5_entry_13  (b : xT) (v1 : Int32) (v2 : Int32) : Option (Int32 × xT) := g_X5_entry_31  b v1 v2 1
set_option maxHeartbeats 4000000 in
set_option maxRecDepth 100000 in
theorem t_X5_entry_13 {p : Program} {l : Launch} {e : Env} {s : State} {m : MethodId} {args : Array Value} {below : List Frame} {meth : Method} {c : Code} {D : va_G} {q : Nat → Nat} {k : Nat → ClassId} {a b : xT} {o : Nat → Int64} {z : xT} {y : Int32 × xT} (C : xCx p s m meth c cX5_entry 3 (some .int) RX5 D k) {H : Heap} {locs : List Loc} (hP : va_P D vwCl (xw q k a b o) H) (hD : va_D (va_A (xw q k a z o) s.heap.size) (xw q k a b o)) (hS : va_S (va_A (xw q k a z o) s.heap.size) s.heap H locs)  {v1 v2 : Int32} {ls : Array Slot} (hl : lv_has ls 3 [(0, .ref (q 23)), (1, .int v1), (2, .int v2)]) (hf : g_X5_entry_13  b v1 v2 = some y) : W p l e r_X5_entry s m args below meth c H locs 0 0 (xMQ below (xQm D q k a z o (.inr (some (.int y.1), a, y.2))) args s 0 0 (va_A (xw q k a z o) s.heap.size)) (F0 m 13 ls [.ref (q 23)]) := by
  obtain ⟨hx, hb, hml, hr, hlocks, hown, hno, hG⟩ := C
  have hK := hG.1
  have hE := hG.2.1
  have hA : ∀ u, s.heap.size ≤ u → va_A (xw q k a z o) s.heap.size u := fun u h => Or.inr h
  unfold g_X5_entry_13 at hf
  refine lv_iconst (v := 1) hx hb dX5_entry_13 (by decide) ?_
  refine lv_goto hx hb dX5_entry_14 rfl ?_
  exact t_X5_entry_31 ⟨hx, hb, hml, hr, hlocks, hown, hno, hG⟩ hP hD hS  (lv_sub hl [0, 1, 2] rfl) hf
noncomputable def g_X5_entry_0  (b : xT) (v1 : Int32) (v2 : Int32) : Option (Int32 × xT) := (if v1 < 0 then g_X5_entry_13  b v1 v2 else (if v1 < (b.2 3) then ((f_X5_within b v2 0 3).bind fun r20 => (if r20 = 0 then g_X5_entry_31  b v1 v2 2 else g_X5_entry_31  b v1 v2 0)) else g_X5_entry_13  b v1 v2))
set_option maxHeartbeats 4000000 in
set_option maxRecDepth 100000 in
theorem t_X5_entry_0 {p : Program} {l : Launch} {e : Env} {s : State} {m : MethodId} {args : Array Value} {below : List Frame} {meth : Method} {c : Code} {D : va_G} {q : Nat → Nat} {k : Nat → ClassId} {a b : xT} {o : Nat → Int64} {z : xT} {y : Int32 × xT} (C : xCx p s m meth c cX5_entry 3 (some .int) RX5 D k) {H : Heap} {locs : List Loc} (hP : va_P D vwCl (xw q k a b o) H) (hD : va_D (va_A (xw q k a z o) s.heap.size) (xw q k a b o)) (hS : va_S (va_A (xw q k a z o) s.heap.size) s.heap H locs)  {v1 v2 : Int32} {ls : Array Slot} (hl : lv_has ls 3 [(0, .ref (q 23)), (1, .int v1), (2, .int v2)]) (hf : g_X5_entry_0  b v1 v2 = some y) : W p l e r_X5_entry s m args below meth c H locs 0 0 (xMQ below (xQm D q k a z o (.inr (some (.int y.1), a, y.2))) args s 0 0 (va_A (xw q k a z o) s.heap.size)) (F0 m 0 ls []) := by
  obtain ⟨hx, hb, hml, hr, hlocks, hown, hno, hG⟩ := C
  have hK := hG.1
  have hE := hG.2.1
  have hA : ∀ u, s.heap.size ≤ u → va_A (xw q k a z o) s.heap.size u := fun u h => Or.inr h
  unfold g_X5_entry_0 at hf
  refine lv_aload_n hx hb dX5_entry_0 rfl (lv_at hl 0 rfl) ?_
  refine lv_iload_n hx hb dX5_entry_1 rfl (lv_at hl 1 rfl) ?_
  refine lv_if_lt hx hb dX5_entry_2 rfl (fun hc => ?_) (fun hc => ?_)
  · rw [if_pos hc] at hf
    exact t_X5_entry_13 ⟨hx, hb, hml, hr, hlocks, hown, hno, hG⟩ hP hD hS  (lv_sub hl [0, 1, 2] rfl) hf
  · rw [if_neg hc] at hf
    refine lv_iload_n hx hb dX5_entry_5 rfl (lv_at hl 1 rfl) ?_
    refine lv_aload_n hx hb dX5_entry_6 rfl (lv_at hl 0 rfl) ?_
    refine va_get (D := D) (ci := 5) (v := .int (b.2 3)) (C := RX5) (T := TX5) (N := 19) hx hb (hwX5 hE) (fun _ h => h) hown hK hP 23 rfl rfl 17 (by decide) (hE _ fl_X5_63 rfl _) (fun _ h9 => h9) rfl dX5_entry_7 ?_
    refine lv_icmp_lt hx hb dX5_entry_10 rfl (fun hc => ?_) (fun hc => ?_)
    · rw [if_pos hc] at hf
      refine lv_iload_n hx hb dX5_entry_17 rfl (lv_at hl 2 rfl) ?_
      refine lv_iconst (v := 0) hx hb dX5_entry_18 (by decide) ?_
      refine lv_iconst (v := 3) hx hb dX5_entry_19 (by decide) ?_
      obtain ⟨r20, hN, hf⟩ := xbind hf
      refine xgo_r (v := some (.int r20)) (xrunS (As := [.int v2, .int 0, .int 3]) (rest := [.ref (q 23)]) (xfixm fx_X5_within hx hb hml hown (by decide) (by decide) (by decide) (by decide)) hE ml_X5_84 wt_X5_within wc_X5_within wn_X5 (c_X5_within l D q k a b o v2 0 3 _ hN) (xpre hP hD hG) rfl rfl hl.1 rfl (lv_room (Nat.le_of_ble_eq_true rfl)) dX5_entry_20) ?_
      refine lv_if_ne hx hb dX5_entry_23 rfl (fun hc => ?_) (fun hc => ?_)
      · rw [if_neg hc] at hf
        refine lv_iconst (v := 0) hx hb dX5_entry_30 (by decide) ?_
        exact t_X5_entry_31 ⟨hx, hb, hml, hr, hlocks, hown, hno, hG⟩ hP hD hS  (lv_sub hl [0, 1, 2] rfl) hf
      · rw [if_pos hc] at hf
        refine lv_iconst (v := 2) hx hb dX5_entry_26 (by decide) ?_
        refine lv_goto hx hb dX5_entry_27 rfl ?_
        exact t_X5_entry_31 ⟨hx, hb, hml, hr, hlocks, hown, hno, hG⟩ hP hD hS  (lv_sub hl [0, 1, 2] rfl) hf
    · rw [if_neg hc] at hf
      exact t_X5_entry_13 ⟨hx, hb, hml, hr, hlocks, hown, hno, hG⟩ hP hD hS  (lv_sub hl [0, 1, 2] rfl) hf
noncomputable def f_X5_entry (b : xT) (v1 : Int32) (v2 : Int32) : Option (Int32 × xT) := g_X5_entry_0 b v1 v2
set_option maxHeartbeats 4000000 in
set_option maxRecDepth 100000 in
theorem c_X5_entry (l : Launch) (D : va_G) (q : Nat → Nat) (k : Nat → ClassId) (sz : Nat) (a b : xT) (o : Nat → Int64) (v1 : Int32) (v2 : Int32) (y : Int32 × xT) (hf : f_X5_entry b v1 v2 = some y) : xMet l yX5_entry (.code yX5_entry cX5_entry 3 (some .int)) r_X5_entry (xPcm D q k sz a b o [.ref (q 23), .int v1, .int v2]) (xQm D q k a b o (.inr (some (.int y.1), a, y.2))) 0 0 (va_A (xw q k a b o) sz) := by
  refine xMet.ofW (by decide) ?_
  intro p e s m args below meth c hx hb hml hr hlocks hnm hme hno hv
  obtain ⟨rfl, hsz, hP, hD, hG⟩ := hv
  subst hsz
  have hown : s.vm.findClass RX5 = some m.cls := findClass_of_methodNamed hnm
  have hl := lv_entry ([.ref (q 23), .int v1, .int v2]) (n := 3) (Nat.le_of_ble_eq_true rfl)
  rw [lg_entry_eq]
  generalize (lg_sl ([.ref (q 23), .int v1, .int v2]) ++ List.replicate (3 - (lg_sl ([.ref (q 23), .int v1, .int v2])).length) Slot.unset).toArray = ls at hl ⊢
  have hl : lv_has ls 3 [(0, .ref (q 23)), (1, .int v1), (2, .int v2)] := hl
  have hD := hD.self (sz := s.heap.size)
  exact t_X5_entry_0 ⟨hx, hb, hml, hr, hlocks, hown, hno, hG⟩ hP hD va_S.rf hl hf
abbrev r_X5_exchange : Room := { frames := 1, cells := 0, slots := 0, locals := 22 }
noncomputable def g_X5_exchange_52  (b : xT)  : Option (xT) := some b
set_option maxHeartbeats 4000000 in
set_option maxRecDepth 100000 in
theorem t_X5_exchange_52 {p : Program} {l : Launch} {e : Env} {s : State} {m : MethodId} {args : Array Value} {below : List Frame} {meth : Method} {c : Code} {D : va_G} {q : Nat → Nat} {k : Nat → ClassId} {a b : xT} {o : Nat → Int64} {z : xT} {y : xT} (C : xCx p s m meth c cX5_exchange 5 none RX5 D k) {H : Heap} {locs : List Loc} (hP : va_P D vwCl (xw q k a b o) H) (hD : va_D (va_A (xw q k a z o) s.heap.size) (xw q k a b o)) (hS : va_S (va_A (xw q k a z o) s.heap.size) s.heap H locs)  {ls : Array Slot} (hl : lv_has ls 5 []) (hf : g_X5_exchange_52  b  = some y) : W p l e r_X5_exchange s m args below meth c H locs 0 0 (xMQ below (xQm D q k a z o (.inr (none, a, y))) args s 0 0 (va_A (xw q k a z o) s.heap.size)) (F0 m 52 ls []) := by
  obtain ⟨hx, hb, hml, hr, hlocks, hown, hno, hG⟩ := C
  have hK := hG.1
  have hE := hG.2.1
  have hA : ∀ u, s.heap.size ≤ u → va_A (xw q k a z o) s.heap.size u := fun u h => Or.inr h
  unfold g_X5_exchange_52 at hf
  cases hf
  exact xretm_v hx hb hr hlocks hP hS dX5_exchange_52
noncomputable def g_X5_exchange_44  (b : xT) (v2 : Int32) (v4 : Int32) : Option (xT) := (if xin v2 240 = true then g_X5_exchange_52  (xs b 1 v2.toNatClampNeg v4)  else none)
set_option maxHeartbeats 4000000 in
set_option maxRecDepth 100000 in
theorem t_X5_exchange_44 {p : Program} {l : Launch} {e : Env} {s : State} {m : MethodId} {args : Array Value} {below : List Frame} {meth : Method} {c : Code} {D : va_G} {q : Nat → Nat} {k : Nat → ClassId} {a b : xT} {o : Nat → Int64} {z : xT} {y : xT} (C : xCx p s m meth c cX5_exchange 5 none RX5 D k) {H : Heap} {locs : List Loc} (hP : va_P D vwCl (xw q k a b o) H) (hD : va_D (va_A (xw q k a z o) s.heap.size) (xw q k a b o)) (hS : va_S (va_A (xw q k a z o) s.heap.size) s.heap H locs)  {v2 v4 : Int32} {ls : Array Slot} (hl : lv_has ls 5 [(0, .ref (q 23)), (2, .int v2), (4, .int v4)]) (hf : g_X5_exchange_44  b v2 v4 = some y) : W p l e r_X5_exchange s m args below meth c H locs 0 0 (xMQ below (xQm D q k a z o (.inr (none, a, y))) args s 0 0 (va_A (xw q k a z o) s.heap.size)) (F0 m 44 ls []) := by
  obtain ⟨hx, hb, hml, hr, hlocks, hown, hno, hG⟩ := C
  have hK := hG.1
  have hE := hG.2.1
  have hA : ∀ u, s.heap.size ≤ u → va_A (xw q k a z o) s.heap.size u := fun u h => Or.inr h
  unfold g_X5_exchange_44 at hf
  refine lv_aload_n hx hb dX5_exchange_44 rfl (lv_at hl 0 rfl) ?_
  refine va_get (D := D) (ci := 5) (v := .ref (q 25)) (C := RX5) (T := TX5) (N := 19) hx hb (hwX5 hE) (fun _ h => h) hown hK hP 23 rfl rfl 2 (by decide) (hE _ fl_X5_13 rfl _) (fun _ h9 => h9) rfl dX5_exchange_45 ?_
  refine lv_iload_n hx hb dX5_exchange_48 rfl (lv_at hl 1 rfl) ?_
  refine lv_iload hx hb dX5_exchange_49 (lv_at hl 2 rfl) ?_
  obtain ⟨hin, hf⟩ := xguard hf
  refine va_iast hx hb hK hP hD hS 25 0 rfl rfl hin dX5_exchange_51 (fun H locs hP hD hS => ?_)
  rw [xw_s25] at hP hD
  exact t_X5_exchange_52 ⟨hx, hb, hml, hr, hlocks, hown, hno, hG⟩ hP hD hS  (lv_sub hl [] rfl) hf
noncomputable def g_X5_exchange_0  (b : xT) (v1 : Int32) (v2 : Int32) : Option (xT) := (if xin v1 240 = true then (if xin v1 240 = true then (if xin v2 240 = true then ((f_X5_put b (b.1 2 v2.toNatClampNeg) v1).bind fun z23 => ((f_X5_put z23 (b.1 2 v1.toNatClampNeg) v2).bind fun z29 => (if xin v2 240 = true then (if xin v1 240 = true then g_X5_exchange_44  (xs z29 1 v1.toNatClampNeg (z29.1 1 v2.toNatClampNeg)) v2 (b.1 1 v1.toNatClampNeg) else none) else none))) else none) else none) else none)
set_option maxHeartbeats 4000000 in
set_option maxRecDepth 100000 in
theorem t_X5_exchange_0 {p : Program} {l : Launch} {e : Env} {s : State} {m : MethodId} {args : Array Value} {below : List Frame} {meth : Method} {c : Code} {D : va_G} {q : Nat → Nat} {k : Nat → ClassId} {a b : xT} {o : Nat → Int64} {z : xT} {y : xT} (C : xCx p s m meth c cX5_exchange 5 none RX5 D k) {H : Heap} {locs : List Loc} (hP : va_P D vwCl (xw q k a b o) H) (hD : va_D (va_A (xw q k a z o) s.heap.size) (xw q k a b o)) (hS : va_S (va_A (xw q k a z o) s.heap.size) s.heap H locs)  {v1 v2 : Int32} {ls : Array Slot} (hl : lv_has ls 5 [(0, .ref (q 23)), (1, .int v1), (2, .int v2)]) (hf : g_X5_exchange_0  b v1 v2 = some y) : W p l e r_X5_exchange s m args below meth c H locs 0 0 (xMQ below (xQm D q k a z o (.inr (none, a, y))) args s 0 0 (va_A (xw q k a z o) s.heap.size)) (F0 m 0 ls []) := by
  obtain ⟨hx, hb, hml, hr, hlocks, hown, hno, hG⟩ := C
  have hK := hG.1
  have hE := hG.2.1
  have hA : ∀ u, s.heap.size ≤ u → va_A (xw q k a z o) s.heap.size u := fun u h => Or.inr h
  unfold g_X5_exchange_0 at hf
  refine lv_aload_n hx hb dX5_exchange_0 rfl (lv_at hl 0 rfl) ?_
  refine va_get (D := D) (ci := 5) (v := .ref (q 26)) (C := RX5) (T := TX5) (N := 19) hx hb (hwX5 hE) (fun _ h => h) hown hK hP 23 rfl rfl 3 (by decide) (hE _ fl_X5_17 rfl _) (fun _ h9 => h9) rfl dX5_exchange_1 ?_
  refine lv_iload_n hx hb dX5_exchange_4 rfl (lv_at hl 1 rfl) ?_
  obtain ⟨hin, hf⟩ := xguard hf
  refine va_iald hx hb hK hP 26 0 rfl rfl hin dX5_exchange_5 ?_
  refine lv_istore_n (lv' := [(3, .int (b.1 2 v1.toNatClampNeg)), (0, .ref (q 23)), (1, .int v1), (2, .int v2)]) hx hb dX5_exchange_6 rfl hl (by decide) rfl (fun ls hl => ?_)
  refine lv_aload_n hx hb dX5_exchange_7 rfl (lv_at hl 1 rfl) ?_
  refine va_get (D := D) (ci := 5) (v := .ref (q 25)) (C := RX5) (T := TX5) (N := 19) hx hb (hwX5 hE) (fun _ h => h) hown hK hP 23 rfl rfl 2 (by decide) (hE _ fl_X5_13 rfl _) (fun _ h9 => h9) rfl dX5_exchange_8 ?_
  refine lv_iload_n hx hb dX5_exchange_11 rfl (lv_at hl 2 rfl) ?_
  obtain ⟨hin, hf⟩ := xguard hf
  refine va_iald hx hb hK hP 25 0 rfl rfl hin dX5_exchange_12 ?_
  refine lv_istore (lv' := [(4, .int (b.1 1 v1.toNatClampNeg)), (3, .int (b.1 2 v1.toNatClampNeg)), (0, .ref (q 23)), (1, .int v1), (2, .int v2)]) hx hb dX5_exchange_13 hl (by decide) rfl (fun ls hl => ?_)
  refine lv_aload_n hx hb dX5_exchange_15 rfl (lv_at hl 2 rfl) ?_
  refine lv_aload_n hx hb dX5_exchange_16 rfl (lv_at hl 2 rfl) ?_
  refine va_get (D := D) (ci := 5) (v := .ref (q 26)) (C := RX5) (T := TX5) (N := 19) hx hb (hwX5 hE) (fun _ h => h) hown hK hP 23 rfl rfl 3 (by decide) (hE _ fl_X5_17 rfl _) (fun _ h9 => h9) rfl dX5_exchange_17 ?_
  refine lv_iload_n hx hb dX5_exchange_20 rfl (lv_at hl 4 rfl) ?_
  obtain ⟨hin, hf⟩ := xguard hf
  refine va_iald hx hb hK hP 26 0 rfl rfl hin dX5_exchange_21 ?_
  refine lv_iload_n hx hb dX5_exchange_22 rfl (lv_at hl 3 rfl) ?_
  obtain ⟨z23, hN, hf⟩ := xbind hf
  refine xgo_m (v := none) (a1 := a) (b1 := z23) (xrunV (C := RX5) (As := [.int (b.1 2 v2.toNatClampNeg), .int v1]) (rest := []) (xfixm fx_X5_put hx hb hml hown (by decide) (by decide) (by decide) (by decide)) hE ml_X5_101 wi_X5_put wz_X5_put wc_X5_put wn_X5 (c_X5_put l D q k _ a b o (b.1 2 v2.toNatClampNeg) v1 _ hN) (va_recv (q := (RX5, TX5, 19)) (ci := 5) (q0 := 23) hK hP rfl rfl) (xprem hP hD hG) rfl rfl hl.1 rfl (lv_room (Nat.le_of_ble_eq_true rfl)) dX5_exchange_23) hD hS hA (fun H locs hP hD hS => ?_)
  refine lv_aload_n hx hb dX5_exchange_26 rfl (lv_at hl 2 rfl) ?_
  refine lv_iload_n hx hb dX5_exchange_27 rfl (lv_at hl 1 rfl) ?_
  refine lv_iload_n hx hb dX5_exchange_28 rfl (lv_at hl 4 rfl) ?_
  obtain ⟨z29, hN, hf⟩ := xbind hf
  refine xgo_m (v := none) (a1 := a) (b1 := z29) (xrunV (C := RX5) (As := [.int (b.1 2 v1.toNatClampNeg), .int v2]) (rest := []) (xfixm fx_X5_put hx hb hml hown (by decide) (by decide) (by decide) (by decide)) hE ml_X5_101 wi_X5_put wz_X5_put wc_X5_put wn_X5 (c_X5_put l D q k _ a z23 o (b.1 2 v1.toNatClampNeg) v2 _ hN) (va_recv (q := (RX5, TX5, 19)) (ci := 5) (q0 := 23) hK hP rfl rfl) (xprem hP hD hG) rfl rfl hl.1 rfl (lv_room (Nat.le_of_ble_eq_true rfl)) dX5_exchange_29) hD hS hA (fun H locs hP hD hS => ?_)
  refine lv_aload_n hx hb dX5_exchange_32 rfl (lv_at hl 2 rfl) ?_
  refine va_get (D := D) (ci := 5) (v := .ref (q 25)) (C := RX5) (T := TX5) (N := 19) hx hb (hwX5 hE) (fun _ h => h) hown hK hP 23 rfl rfl 2 (by decide) (hE _ fl_X5_13 rfl _) (fun _ h9 => h9) rfl dX5_exchange_33 ?_
  refine lv_iload_n hx hb dX5_exchange_36 rfl (lv_at hl 3 rfl) ?_
  refine lv_aload_n hx hb dX5_exchange_37 rfl (lv_at hl 2 rfl) ?_
  refine va_get (D := D) (ci := 5) (v := .ref (q 25)) (C := RX5) (T := TX5) (N := 19) hx hb (hwX5 hE) (fun _ h => h) hown hK hP 23 rfl rfl 2 (by decide) (hE _ fl_X5_13 rfl _) (fun _ h9 => h9) rfl dX5_exchange_38 ?_
  refine lv_iload_n hx hb dX5_exchange_41 rfl (lv_at hl 4 rfl) ?_
  obtain ⟨hin, hf⟩ := xguard hf
  refine va_iald hx hb hK hP 25 0 rfl rfl hin dX5_exchange_42 ?_
  obtain ⟨hin, hf⟩ := xguard hf
  refine va_iast hx hb hK hP hD hS 25 0 rfl rfl hin dX5_exchange_43 (fun H locs hP hD hS => ?_)
  rw [xw_s25] at hP hD
  exact t_X5_exchange_44 ⟨hx, hb, hml, hr, hlocks, hown, hno, hG⟩ hP hD hS  (lv_sub hl [2, 4, 0] rfl) hf
noncomputable def f_X5_exchange (b : xT) (v1 : Int32) (v2 : Int32) : Option (xT) := g_X5_exchange_0 b v1 v2
set_option maxHeartbeats 4000000 in
set_option maxRecDepth 100000 in
theorem c_X5_exchange (l : Launch) (D : va_G) (q : Nat → Nat) (k : Nat → ClassId) (sz : Nat) (a b : xT) (o : Nat → Int64) (v1 : Int32) (v2 : Int32) (y : xT) (hf : f_X5_exchange b v1 v2 = some y) : xMet l yX5_exchange (.code yX5_exchange cX5_exchange 5 none) r_X5_exchange (xPcm D q k sz a b o [.ref (q 23), .int v1, .int v2]) (xQm D q k a b o (.inr (none, a, y))) 0 0 (va_A (xw q k a b o) sz) := by
  refine xMet.ofW (by decide) ?_
  intro p e s m args below meth c hx hb hml hr hlocks hnm hme hno hv
  obtain ⟨rfl, hsz, hP, hD, hG⟩ := hv
  subst hsz
  have hown : s.vm.findClass RX5 = some m.cls := findClass_of_methodNamed hnm
  have hl := lv_entry ([.ref (q 23), .int v1, .int v2]) (n := 5) (Nat.le_of_ble_eq_true rfl)
  rw [lg_entry_eq]
  generalize (lg_sl ([.ref (q 23), .int v1, .int v2]) ++ List.replicate (5 - (lg_sl ([.ref (q 23), .int v1, .int v2])).length) Slot.unset).toArray = ls at hl ⊢
  have hl : lv_has ls 5 [(0, .ref (q 23)), (1, .int v1), (2, .int v2)] := hl
  have hD := hD.self (sz := s.heap.size)
  exact t_X5_exchange_0 ⟨hx, hb, hml, hr, hlocks, hown, hno, hG⟩ hP hD va_S.rf hl hf
