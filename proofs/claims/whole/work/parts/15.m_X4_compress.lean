abbrev r_X4_compress : Room := { frames := 3, cells := 0, slots := 0, locals := 68 }
noncomputable def g_X4_compress_31 (K4 : xT → Int32 → Int32 → Option (Int32 × xT)) (a : xT) (v1 : Int32) (v2 : Int32) : Option (Int32 × xT) := K4 a v1 (v2 + 1)
set_option maxHeartbeats 4000000 in
set_option maxRecDepth 100000 in
theorem t_X4_compress_31 {p : Program} {l : Launch} {e : Env} {s : State} {m : MethodId} {args : Array Value} {below : List Frame} {meth : Method} {c : Code} {D : va_G} {q : Nat → Nat} {k : Nat → ClassId} {a b : xT} {o : Nat → Int64} {z : xT} {y : Int32 × xT} (C : xCx p s m meth c cX4_compress 4 (some .int) RX4 D k) {H : Heap} {locs : List Loc} (hP : va_P D vwCl (xw q k a b o) H) (hD : va_D (va_A (xw q k z b o) s.heap.size) (xw q k a b o)) (hS : va_S (va_A (xw q k z b o) s.heap.size) s.heap H locs) {K4 : xT → Int32 → Int32 → Option (Int32 × xT)} (hK4 : ∀ {a : xT} {v1 v2 : Int32} {ls : Array Slot} {H : Heap} {locs : List Loc}, va_P D vwCl (xw q k a b o) H → va_D (va_A (xw q k z b o) s.heap.size) (xw q k a b o) → va_S (va_A (xw q k z b o) s.heap.size) s.heap H locs → lv_has ls 4 [(0, .ref (q 0)), (1, .int v1), (2, .int v2)] → K4 a v1 v2 = some y → W p l e r_X4_compress s m args below meth c H locs 0 0 (xMQ below (xQm D q k z b o (.inr (some (.int y.1), y.2, b))) args s 0 0 (va_A (xw q k z b o) s.heap.size)) (F0 m 4 ls [])) {v1 v2 : Int32} {ls : Array Slot} (hl : lv_has ls 4 [(0, .ref (q 0)), (1, .int v1), (2, .int v2)]) (hf : g_X4_compress_31 K4 a v1 v2 = some y) : W p l e r_X4_compress s m args below meth c H locs 0 0 (xMQ below (xQm D q k z b o (.inr (some (.int y.1), y.2, b))) args s 0 0 (va_A (xw q k z b o) s.heap.size)) (F0 m 31 ls []) := by
  obtain ⟨hx, hb, hml, hr, hlocks, hown, hno, hG⟩ := C
  have hK := hG.1
  have hE := hG.2.1
  have hA : ∀ u, s.heap.size ≤ u → va_A (xw q k z b o) s.heap.size u := fun u h => Or.inr h
  unfold g_X4_compress_31 at hf
  refine lv_iinc (k := 2) (v := v2 + 1) (lv' := [(2, .int (v2 + 1)), (0, .ref (q 0)), (1, .int v1)]) hx hb dX4_compress_31 hl rfl (xinc (by decide) _) (by decide) rfl (fun ls hl => ?_)
  refine lv_goto hx hb dX4_compress_34 rfl ?_
  exact hK4 hP hD hS (lv_sub hl [1, 2, 0] rfl) hf
noncomputable def g_X4_compress_4s (K4 : xT → Int32 → Int32 → Option (Int32 × xT)) (a : xT) (v1 : Int32) (v2 : Int32) : Option (Int32 × xT) := (if 240 ≤ v2 then some (v1, a) else ((f_X4_flightToMoveTo a v2).bind fun r13 => (if r13 = (-1) then g_X4_compress_31 K4 a v1 v2 else ((f_X4_moveForward a r13 v2).bind fun z25 => g_X4_compress_31 K4 z25 (v1 + 1) v2))))
set_option maxHeartbeats 4000000 in
set_option maxRecDepth 100000 in
theorem t_X4_compress_4s {p : Program} {l : Launch} {e : Env} {s : State} {m : MethodId} {args : Array Value} {below : List Frame} {meth : Method} {c : Code} {D : va_G} {q : Nat → Nat} {k : Nat → ClassId} {a b : xT} {o : Nat → Int64} {z : xT} {y : Int32 × xT} (C : xCx p s m meth c cX4_compress 4 (some .int) RX4 D k) {H : Heap} {locs : List Loc} (hP : va_P D vwCl (xw q k a b o) H) (hD : va_D (va_A (xw q k z b o) s.heap.size) (xw q k a b o)) (hS : va_S (va_A (xw q k z b o) s.heap.size) s.heap H locs) {K4 : xT → Int32 → Int32 → Option (Int32 × xT)} (hK4 : ∀ {a : xT} {v1 v2 : Int32} {ls : Array Slot} {H : Heap} {locs : List Loc}, va_P D vwCl (xw q k a b o) H → va_D (va_A (xw q k z b o) s.heap.size) (xw q k a b o) → va_S (va_A (xw q k z b o) s.heap.size) s.heap H locs → lv_has ls 4 [(0, .ref (q 0)), (1, .int v1), (2, .int v2)] → K4 a v1 v2 = some y → W p l e r_X4_compress s m args below meth c H locs 0 0 (xMQ below (xQm D q k z b o (.inr (some (.int y.1), y.2, b))) args s 0 0 (va_A (xw q k z b o) s.heap.size)) (F0 m 4 ls [])) {v1 v2 : Int32} {ls : Array Slot} (hl : lv_has ls 4 [(0, .ref (q 0)), (1, .int v1), (2, .int v2)]) (hf : g_X4_compress_4s K4 a v1 v2 = some y) : W p l e r_X4_compress s m args below meth c H locs 0 0 (xMQ below (xQm D q k z b o (.inr (some (.int y.1), y.2, b))) args s 0 0 (va_A (xw q k z b o) s.heap.size)) (F0 m 4 ls []) := by
  obtain ⟨hx, hb, hml, hr, hlocks, hown, hno, hG⟩ := C
  have hK := hG.1
  have hE := hG.2.1
  have hA : ∀ u, s.heap.size ≤ u → va_A (xw q k z b o) s.heap.size u := fun u h => Or.inr h
  unfold g_X4_compress_4s at hf
  refine lv_iload_n hx hb dX4_compress_4 rfl (lv_at hl 2 rfl) ?_
  refine lv_sipush (v := 240) hx hb dX4_compress_5 (by decide) ?_
  refine lv_icmp_ge hx hb dX4_compress_8 rfl (fun hc => ?_) (fun hc => ?_)
  · rw [if_pos hc] at hf
    refine lv_iload_n hx hb dX4_compress_37 rfl (lv_at hl 1 rfl) ?_
    cases hf
    exact xretm_i hx hb hr hlocks hP hS dX4_compress_38
  · rw [if_neg hc] at hf
    refine lv_aload_n hx hb dX4_compress_11 rfl (lv_at hl 0 rfl) ?_
    refine lv_iload_n hx hb dX4_compress_12 rfl (lv_at hl 2 rfl) ?_
    obtain ⟨r13, hN, hf⟩ := xbind hf
    refine xgo_r (v := some (.int r13)) (xrunV (C := RX4) (As := [.int v2]) (rest := []) (xfixm fx_X4_flightToMoveTo hx hb hml hown (by decide) (by decide) (by decide) (by decide)) hE ml_X4_163 wi_X4_flightToMoveTo wz_X4_flightToMoveTo wc_X4_flightToMoveTo wn_X4 (c_X4_flightToMoveTo l D q k a b o v2 _ hN) (va_recv (q := (RX4, TX4, 4)) (ci := 4) (q0 := 0) hK hP rfl rfl) (xpre hP hD hG) rfl rfl hl.1 rfl (lv_room (Nat.le_of_ble_eq_true rfl)) dX4_compress_13) ?_
    refine lv_istore_n (lv' := [(3, .int r13), (0, .ref (q 0)), (1, .int v1), (2, .int v2)]) hx hb dX4_compress_16 rfl hl (by decide) rfl (fun ls hl => ?_)
    refine lv_iload_n hx hb dX4_compress_17 rfl (lv_at hl 0 rfl) ?_
    refine lv_iconst (v := -1) hx hb dX4_compress_18 (by decide) ?_
    refine lv_icmp_eq hx hb dX4_compress_19 rfl (fun hc => ?_) (fun hc => ?_)
    · rw [if_pos hc] at hf
      exact t_X4_compress_31 ⟨hx, hb, hml, hr, hlocks, hown, hno, hG⟩ hP hD hS hK4 (lv_sub hl [1, 2, 3] rfl) hf
    · rw [if_neg hc] at hf
      refine lv_aload_n hx hb dX4_compress_22 rfl (lv_at hl 1 rfl) ?_
      refine lv_iload_n hx hb dX4_compress_23 rfl (lv_at hl 0 rfl) ?_
      refine lv_iload_n hx hb dX4_compress_24 rfl (lv_at hl 3 rfl) ?_
      obtain ⟨z25, hN, hf⟩ := xbind hf
      refine xgo_m (v := none) (a1 := z25) (b1 := b) (xrunV (C := RX4) (As := [.int r13, .int v2]) (rest := []) (xfixm fx_X4_moveForward hx hb hml hown (by decide) (by decide) (by decide) (by decide)) hE ml_X4_166 wi_X4_moveForward wz_X4_moveForward wc_X4_moveForward wn_X4 (c_X4_moveForward l D q k _ a b o r13 v2 _ hN) (va_recv (q := (RX4, TX4, 4)) (ci := 4) (q0 := 0) hK hP rfl rfl) (xprem hP hD hG) rfl rfl hl.1 rfl (lv_room (Nat.le_of_ble_eq_true rfl)) dX4_compress_25) hD hS hA (fun H locs hP hD hS => ?_)
      refine lv_iinc (k := 2) (v := v1 + 1) (lv' := [(1, .int (v1 + 1)), (3, .int r13), (0, .ref (q 0)), (2, .int v2)]) hx hb dX4_compress_28 hl rfl (xinc (by decide) _) (by decide) rfl (fun ls hl => ?_)
      exact t_X4_compress_31 ⟨hx, hb, hml, hr, hlocks, hown, hno, hG⟩ hP hD hS hK4 (lv_sub hl [2, 0, 3] rfl) hf
noncomputable def g_X4_compress_4  : Nat → xT → Int32 → Int32 → Option (Int32 × xT) := fun n => Nat.rec (motive := fun _ => xT → Int32 → Int32 → Option (Int32 × xT)) (fun _ _ _ => none) (fun _ ih => g_X4_compress_4s ih) n
set_option maxHeartbeats 4000000 in
theorem t_X4_compress_4 {p : Program} {l : Launch} {e : Env} {s : State} {m : MethodId} {args : Array Value} {below : List Frame} {meth : Method} {c : Code} {D : va_G} {q : Nat → Nat} {k : Nat → ClassId} {b : xT} {o : Nat → Int64} {z : xT} {y : Int32 × xT} (C : xCx p s m meth c cX4_compress 4 (some .int) RX4 D k)  (n : Nat) : ∀ {a : xT} {v1 v2 : Int32} {ls : Array Slot} {H : Heap} {locs : List Loc}, va_P D vwCl (xw q k a b o) H → va_D (va_A (xw q k z b o) s.heap.size) (xw q k a b o) → va_S (va_A (xw q k z b o) s.heap.size) s.heap H locs → lv_has ls 4 [(0, .ref (q 0)), (1, .int v1), (2, .int v2)] → g_X4_compress_4  n a v1 v2 = some y → W p l e r_X4_compress s m args below meth c H locs 0 0 (xMQ below (xQm D q k z b o (.inr (some (.int y.1), y.2, b))) args s 0 0 (va_A (xw q k z b o) s.heap.size)) (F0 m 4 ls []) := by
  induction n with
  | zero =>
    intro _ _ _ _ _ _ _ _ _ _ hf
    have h9 : (none : Option (Int32 × xT)) = some y := hf
    cases h9
  | succ n ih =>
    intro _ _ _ _ _ _ hP hD hS hl hf
    exact t_X4_compress_4s C hP hD hS (K4 := g_X4_compress_4  n) ih hl hf
noncomputable def g_X4_compress_0  (a : xT)  : Option (Int32 × xT) := g_X4_compress_4  1000 a 0 0
set_option maxHeartbeats 4000000 in
set_option maxRecDepth 100000 in
theorem t_X4_compress_0 {p : Program} {l : Launch} {e : Env} {s : State} {m : MethodId} {args : Array Value} {below : List Frame} {meth : Method} {c : Code} {D : va_G} {q : Nat → Nat} {k : Nat → ClassId} {a b : xT} {o : Nat → Int64} {z : xT} {y : Int32 × xT} (C : xCx p s m meth c cX4_compress 4 (some .int) RX4 D k) {H : Heap} {locs : List Loc} (hP : va_P D vwCl (xw q k a b o) H) (hD : va_D (va_A (xw q k z b o) s.heap.size) (xw q k a b o)) (hS : va_S (va_A (xw q k z b o) s.heap.size) s.heap H locs)  {ls : Array Slot} (hl : lv_has ls 4 [(0, .ref (q 0))]) (hf : g_X4_compress_0  a  = some y) : W p l e r_X4_compress s m args below meth c H locs 0 0 (xMQ below (xQm D q k z b o (.inr (some (.int y.1), y.2, b))) args s 0 0 (va_A (xw q k z b o) s.heap.size)) (F0 m 0 ls []) := by
  obtain ⟨hx, hb, hml, hr, hlocks, hown, hno, hG⟩ := C
  have hK := hG.1
  have hE := hG.2.1
  have hA : ∀ u, s.heap.size ≤ u → va_A (xw q k z b o) s.heap.size u := fun u h => Or.inr h
  unfold g_X4_compress_0 at hf
  refine lv_iconst (v := 0) hx hb dX4_compress_0 (by decide) ?_
  refine lv_istore_n (lv' := [(1, .int 0), (0, .ref (q 0))]) hx hb dX4_compress_1 rfl hl (by decide) rfl (fun ls hl => ?_)
  refine lv_iconst (v := 0) hx hb dX4_compress_2 (by decide) ?_
  refine lv_istore_n (lv' := [(2, .int 0), (1, .int 0), (0, .ref (q 0))]) hx hb dX4_compress_3 rfl hl (by decide) rfl (fun ls hl => ?_)
  exact t_X4_compress_4 ⟨hx, hb, hml, hr, hlocks, hown, hno, hG⟩  1000 hP hD hS (lv_sub hl [2, 1, 0] rfl) hf
noncomputable def f_X4_compress (a : xT)  : Option (Int32 × xT) := g_X4_compress_0 a 
set_option maxHeartbeats 4000000 in
set_option maxRecDepth 100000 in
theorem c_X4_compress (l : Launch) (D : va_G) (q : Nat → Nat) (k : Nat → ClassId) (sz : Nat) (a b : xT) (o : Nat → Int64)  (y : Int32 × xT) (hf : f_X4_compress a  = some y) : xMet l yX4_compress (.code yX4_compress cX4_compress 4 (some .int)) r_X4_compress (xPcm D q k sz a b o [.ref (q 0)]) (xQm D q k a b o (.inr (some (.int y.1), y.2, b))) 0 0 (va_A (xw q k a b o) sz) := by
  refine xMet.ofW (by decide) ?_
  intro p e s m args below meth c hx hb hml hr hlocks hnm hme hno hv
  obtain ⟨rfl, hsz, hP, hD, hG⟩ := hv
  subst hsz
  have hown : s.vm.findClass RX4 = some m.cls := findClass_of_methodNamed hnm
  have hl := lv_entry ([.ref (q 0)]) (n := 4) (Nat.le_of_ble_eq_true rfl)
  rw [lg_entry_eq]
  generalize (lg_sl ([.ref (q 0)]) ++ List.replicate (4 - (lg_sl ([.ref (q 0)])).length) Slot.unset).toArray = ls at hl ⊢
  have hl : lv_has ls 4 [(0, .ref (q 0))] := hl
  have hD := hD.self (sz := s.heap.size)
  exact t_X4_compress_0 ⟨hx, hb, hml, hr, hlocks, hown, hno, hG⟩ hP hD va_S.rf hl hf
abbrev r_X4_delay : Room := { frames := 8, cells := 1, slots := 6, locals := 132 }
noncomputable def g_X4_delay_85 (K9 : Int32 → Int32 → Int32 → Option (String ⊕ Int32)) (a : xT) (v1 : Int32) (v2 : Int32) (v3 : Int32) : Option (String ⊕ Int32) := K9 v1 v2 (v3 + 1)
set_option maxHeartbeats 4000000 in
set_option maxRecDepth 100000 in
theorem t_X4_delay_85 {p : Program} {l : Launch} {e : Env} {s : State} {m : MethodId} {args : Array Value} {below : List Frame} {meth : Method} {c : Code} {D : va_G} {q : Nat → Nat} {k : Nat → ClassId} {a b : xT} {o : Nat → Int64} {y : String ⊕ Int32} (C : xCx p s m meth c cX4_delay 5 (some .int) RX4 D k) (hl0 : l.stackTraces = false) (hst : xSt s) (hP : va_P D vwCl (xw q k a b o) s.heap) (hD : va_D (fun _ => True) (xw q k a b o)) {K9 : Int32 → Int32 → Int32 → Option (String ⊕ Int32)} (hK9 : ∀ {v1 v2 v3 : Int32} {ls : Array Slot}, lv_has ls 5 [(0, .ref (q 0)), (1, .int v1), (2, .int v2), (3, .int v3)] → K9 v1 v2 v3 = some y → W p l e r_X4_delay s m args below meth c s.heap [] 0 0 (xMQ below (xQr (xri y)) args s (xmc (xri y)) (xms (xri y)) (fun _ => False)) (F0 m 9 ls [])) {v1 v2 v3 : Int32} {ls : Array Slot} (hl : lv_has ls 5 [(0, .ref (q 0)), (1, .int v1), (2, .int v2), (3, .int v3)]) (hf : g_X4_delay_85 K9 a v1 v2 v3 = some y) : W p l e r_X4_delay s m args below meth c s.heap [] 0 0 (xMQ below (xQr (xri y)) args s (xmc (xri y)) (xms (xri y)) (fun _ => False)) (F0 m 85 ls []) := by
  obtain ⟨hx, hb, hml, hr, hlocks, hown, hno, hG⟩ := C
  have hK := hG.1
  have hE := hG.2.1
  unfold g_X4_delay_85 at hf
  refine lv_iinc (k := 3) (v := v3 + 1) (lv' := [(3, .int (v3 + 1)), (0, .ref (q 0)), (1, .int v1), (2, .int v2)]) hx hb dX4_delay_85 hl rfl (xinc (by decide) _) (by decide) rfl (fun ls hl => ?_)
  refine lv_goto hx hb dX4_delay_88 rfl ?_
  exact hK9 (lv_sub hl [1, 2, 3, 0] rfl) hf
noncomputable def g_X4_delay_43 (K9 : Int32 → Int32 → Int32 → Option (String ⊕ Int32)) (a : xT) (v1 : Int32) (v2 : Int32) (v3 : Int32) (s0 : Int32) : Option (String ⊕ Int32) := (if s0 = 0 then g_X4_delay_85 K9 a v1 v2 v3 else (if xin v3 60 = true then (if (a.1 6 v3.toNatClampNeg) = (-1) then g_X4_delay_85 K9 a v1 v2 v3 else (if xin v3 60 = true then (if xin v3 60 = true then g_X4_delay_85 K9 a v1 (v2 + ((a.1 6 v3.toNatClampNeg) - (a.1 4 v3.toNatClampNeg))) v3 else none) else none)) else none))
set_option maxHeartbeats 4000000 in
set_option maxRecDepth 100000 in
theorem t_X4_delay_43 {p : Program} {l : Launch} {e : Env} {s : State} {m : MethodId} {args : Array Value} {below : List Frame} {meth : Method} {c : Code} {D : va_G} {q : Nat → Nat} {k : Nat → ClassId} {a b : xT} {o : Nat → Int64} {y : String ⊕ Int32} (C : xCx p s m meth c cX4_delay 5 (some .int) RX4 D k) (hl0 : l.stackTraces = false) (hst : xSt s) (hP : va_P D vwCl (xw q k a b o) s.heap) (hD : va_D (fun _ => True) (xw q k a b o)) {K9 : Int32 → Int32 → Int32 → Option (String ⊕ Int32)} (hK9 : ∀ {v1 v2 v3 : Int32} {ls : Array Slot}, lv_has ls 5 [(0, .ref (q 0)), (1, .int v1), (2, .int v2), (3, .int v3)] → K9 v1 v2 v3 = some y → W p l e r_X4_delay s m args below meth c s.heap [] 0 0 (xMQ below (xQr (xri y)) args s (xmc (xri y)) (xms (xri y)) (fun _ => False)) (F0 m 9 ls [])) {v1 v2 v3 s0 : Int32} {ls : Array Slot} (hl : lv_has ls 5 [(0, .ref (q 0)), (1, .int v1), (2, .int v2), (3, .int v3)]) (hf : g_X4_delay_43 K9 a v1 v2 v3 s0 = some y) : W p l e r_X4_delay s m args below meth c s.heap [] 0 0 (xMQ below (xQr (xri y)) args s (xmc (xri y)) (xms (xri y)) (fun _ => False)) (F0 m 43 ls [.int s0]) := by
  obtain ⟨hx, hb, hml, hr, hlocks, hown, hno, hG⟩ := C
  have hK := hG.1
  have hE := hG.2.1
  unfold g_X4_delay_43 at hf
  refine lv_istore (lv' := [(4, .int s0), (0, .ref (q 0)), (1, .int v1), (2, .int v2), (3, .int v3)]) hx hb dX4_delay_43 hl (by decide) rfl (fun ls hl => ?_)
  refine lv_iload hx hb dX4_delay_45 (lv_at hl 0 rfl) ?_
  refine lv_if_eq hx hb dX4_delay_47 rfl (fun hc => ?_) (fun hc => ?_)
  · rw [if_pos hc] at hf
    exact t_X4_delay_85 ⟨hx, hb, hml, hr, hlocks, hown, hno, hG⟩ hl0 hst hP hD hK9 (lv_sub hl [1, 2, 3, 4] rfl) hf
  · rw [if_neg hc] at hf
    refine lv_aload_n hx hb dX4_delay_50 rfl (lv_at hl 1 rfl) ?_
    refine va_get (D := D) (ci := 4) (v := .ref (q 2)) (C := RX4) (T := TX4) (N := 4) hx hb (hwX4 hE) (fun _ h => h) hown hK hP 0 rfl rfl 1 (by decide) (hE _ fl_X4_19 rfl _) (fun _ h9 => h9) rfl dX4_delay_51 ?_
    refine va_get (D := D) (ci := 1) (v := .ref (q 11)) (C := RX1) (T := TX1) (N := 8) hx hb (hwX1 hE) (fun _ h => h) hown hK hP 2 rfl rfl 3 (by decide) (hE _ fl_X4_90 rfl _) (fun _ h9 => h9) rfl dX4_delay_54 ?_
    refine lv_iload_n hx hb dX4_delay_57 rfl (lv_at hl 4 rfl) ?_
    obtain ⟨hin, hf⟩ := xguard hf
    refine va_iald hx hb hK hP 11 0 rfl rfl hin dX4_delay_58 ?_
    refine lv_iconst (v := -1) hx hb dX4_delay_59 (by decide) ?_
    refine lv_icmp_eq hx hb dX4_delay_60 rfl (fun hc => ?_) (fun hc => ?_)
    · rw [if_pos hc] at hf
      exact t_X4_delay_85 ⟨hx, hb, hml, hr, hlocks, hown, hno, hG⟩ hl0 hst hP hD hK9 (lv_sub hl [1, 2, 3, 4] rfl) hf
    · rw [if_neg hc] at hf
      refine lv_iload_n hx hb dX4_delay_63 rfl (lv_at hl 3 rfl) ?_
      refine lv_aload_n hx hb dX4_delay_64 rfl (lv_at hl 1 rfl) ?_
      refine va_get (D := D) (ci := 4) (v := .ref (q 2)) (C := RX4) (T := TX4) (N := 4) hx hb (hwX4 hE) (fun _ h => h) hown hK hP 0 rfl rfl 1 (by decide) (hE _ fl_X4_19 rfl _) (fun _ h9 => h9) rfl dX4_delay_65 ?_
      refine va_get (D := D) (ci := 1) (v := .ref (q 11)) (C := RX1) (T := TX1) (N := 8) hx hb (hwX1 hE) (fun _ h => h) hown hK hP 2 rfl rfl 3 (by decide) (hE _ fl_X4_90 rfl _) (fun _ h9 => h9) rfl dX4_delay_68 ?_
      refine lv_iload_n hx hb dX4_delay_71 rfl (lv_at hl 4 rfl) ?_
      obtain ⟨hin, hf⟩ := xguard hf
      refine va_iald hx hb hK hP 11 0 rfl rfl hin dX4_delay_72 ?_
      refine lv_aload_n hx hb dX4_delay_73 rfl (lv_at hl 1 rfl) ?_
      refine va_get (D := D) (ci := 4) (v := .ref (q 2)) (C := RX4) (T := TX4) (N := 4) hx hb (hwX4 hE) (fun _ h => h) hown hK hP 0 rfl rfl 1 (by decide) (hE _ fl_X4_19 rfl _) (fun _ h9 => h9) rfl dX4_delay_74 ?_
      refine va_get (D := D) (ci := 1) (v := .ref (q 9)) (C := RX1) (T := TX1) (N := 8) hx hb (hwX1 hE) (fun _ h => h) hown hK hP 2 rfl rfl 1 (by decide) (hE _ fl_X4_178 rfl _) (fun _ h9 => h9) rfl dX4_delay_77 ?_
      refine lv_iload_n hx hb dX4_delay_80 rfl (lv_at hl 4 rfl) ?_
      obtain ⟨hin, hf⟩ := xguard hf
      refine va_iald hx hb hK hP 9 0 rfl rfl hin dX4_delay_81 ?_
      refine lv_isub hx hb dX4_delay_82 ?_
      refine lv_iadd hx hb dX4_delay_83 ?_
      refine lv_istore_n (lv' := [(2, .int (v2 + ((a.1 6 v3.toNatClampNeg) - (a.1 4 v3.toNatClampNeg)))), (4, .int s0), (0, .ref (q 0)), (1, .int v1), (3, .int v3)]) hx hb dX4_delay_84 rfl hl (by decide) rfl (fun ls hl => ?_)
      exact t_X4_delay_85 ⟨hx, hb, hml, hr, hlocks, hown, hno, hG⟩ hl0 hst hP hD hK9 (lv_sub hl [2, 3, 0, 4] rfl) hf
noncomputable def g_X4_delay_38 (K9 : Int32 → Int32 → Int32 → Option (String ⊕ Int32)) (a : xT) (v1 : Int32) (v2 : Int32) (v3 : Int32) : Option (String ⊕ Int32) := g_X4_delay_43 K9 a v1 v2 v3 1
set_option maxHeartbeats 4000000 in
set_option maxRecDepth 100000 in
theorem t_X4_delay_38 {p : Program} {l : Launch} {e : Env} {s : State} {m : MethodId} {args : Array Value} {below : List Frame} {meth : Method} {c : Code} {D : va_G} {q : Nat → Nat} {k : Nat → ClassId} {a b : xT} {o : Nat → Int64} {y : String ⊕ Int32} (C : xCx p s m meth c cX4_delay 5 (some .int) RX4 D k) (hl0 : l.stackTraces = false) (hst : xSt s) (hP : va_P D vwCl (xw q k a b o) s.heap) (hD : va_D (fun _ => True) (xw q k a b o)) {K9 : Int32 → Int32 → Int32 → Option (String ⊕ Int32)} (hK9 : ∀ {v1 v2 v3 : Int32} {ls : Array Slot}, lv_has ls 5 [(0, .ref (q 0)), (1, .int v1), (2, .int v2), (3, .int v3)] → K9 v1 v2 v3 = some y → W p l e r_X4_delay s m args below meth c s.heap [] 0 0 (xMQ below (xQr (xri y)) args s (xmc (xri y)) (xms (xri y)) (fun _ => False)) (F0 m 9 ls [])) {v1 v2 v3 : Int32} {ls : Array Slot} (hl : lv_has ls 5 [(0, .ref (q 0)), (1, .int v1), (2, .int v2), (3, .int v3)]) (hf : g_X4_delay_38 K9 a v1 v2 v3 = some y) : W p l e r_X4_delay s m args below meth c s.heap [] 0 0 (xMQ below (xQr (xri y)) args s (xmc (xri y)) (xms (xri y)) (fun _ => False)) (F0 m 38 ls []) := by
  obtain ⟨hx, hb, hml, hr, hlocks, hown, hno, hG⟩ := C
  have hK := hG.1
  have hE := hG.2.1
  unfold g_X4_delay_38 at hf
  refine lv_iconst (v := 1) hx hb dX4_delay_38 (by decide) ?_
  refine lv_goto hx hb dX4_delay_39 rfl ?_
  exact t_X4_delay_43 ⟨hx, hb, hml, hr, hlocks, hown, hno, hG⟩ hl0 hst hP hD hK9 (lv_sub hl [0, 1, 2, 3] rfl) hf
noncomputable def g_X4_delay_9s (K9 : Int32 → Int32 → Int32 → Option (String ⊕ Int32)) (a : xT) (v1 : Int32) (v2 : Int32) (v3 : Int32) : Option (String ⊕ Int32) := (if (a.2 0) ≤ v3 then some (.inr v2) else (if v1 = (-1) then g_X4_delay_38 K9 a v1 v2 v3 else (if xin v3 60 = true then (if (a.1 3 v3.toNatClampNeg) = v1 then g_X4_delay_38 K9 a v1 v2 v3 else g_X4_delay_43 K9 a v1 v2 v3 0) else none)))
set_option maxHeartbeats 4000000 in
set_option maxRecDepth 100000 in
theorem t_X4_delay_9s {p : Program} {l : Launch} {e : Env} {s : State} {m : MethodId} {args : Array Value} {below : List Frame} {meth : Method} {c : Code} {D : va_G} {q : Nat → Nat} {k : Nat → ClassId} {a b : xT} {o : Nat → Int64} {y : String ⊕ Int32} (C : xCx p s m meth c cX4_delay 5 (some .int) RX4 D k) (hl0 : l.stackTraces = false) (hst : xSt s) (hP : va_P D vwCl (xw q k a b o) s.heap) (hD : va_D (fun _ => True) (xw q k a b o)) {K9 : Int32 → Int32 → Int32 → Option (String ⊕ Int32)} (hK9 : ∀ {v1 v2 v3 : Int32} {ls : Array Slot}, lv_has ls 5 [(0, .ref (q 0)), (1, .int v1), (2, .int v2), (3, .int v3)] → K9 v1 v2 v3 = some y → W p l e r_X4_delay s m args below meth c s.heap [] 0 0 (xMQ below (xQr (xri y)) args s (xmc (xri y)) (xms (xri y)) (fun _ => False)) (F0 m 9 ls [])) {v1 v2 v3 : Int32} {ls : Array Slot} (hl : lv_has ls 5 [(0, .ref (q 0)), (1, .int v1), (2, .int v2), (3, .int v3)]) (hf : g_X4_delay_9s K9 a v1 v2 v3 = some y) : W p l e r_X4_delay s m args below meth c s.heap [] 0 0 (xMQ below (xQr (xri y)) args s (xmc (xri y)) (xms (xri y)) (fun _ => False)) (F0 m 9 ls []) := by
  obtain ⟨hx, hb, hml, hr, hlocks, hown, hno, hG⟩ := C
  have hK := hG.1
  have hE := hG.2.1
  unfold g_X4_delay_9s at hf
  refine lv_iload_n hx hb dX4_delay_9 rfl (lv_at hl 3 rfl) ?_
  refine lv_aload_n hx hb dX4_delay_10 rfl (lv_at hl 0 rfl) ?_
  refine va_get (D := D) (ci := 4) (v := .ref (q 2)) (C := RX4) (T := TX4) (N := 4) hx hb (hwX4 hE) (fun _ h => h) hown hK hP 0 rfl rfl 1 (by decide) (hE _ fl_X4_19 rfl _) (fun _ h9 => h9) rfl dX4_delay_11 ?_
  refine va_get (D := D) (ci := 1) (v := .int (a.2 0)) (C := RX1) (T := TX1) (N := 8) hx hb (hwX1 hE) (fun _ h => h) hown hK hP 2 rfl rfl 7 (by decide) (hE _ fl_X4_77 rfl _) (fun _ h9 => h9) rfl dX4_delay_14 ?_
  refine lv_icmp_ge hx hb dX4_delay_17 rfl (fun hc => ?_) (fun hc => ?_)
  · rw [if_pos hc] at hf
    refine lv_iload_n hx hb dX4_delay_91 rfl (lv_at hl 2 rfl) ?_
    cases hf
    exact xret_i hx hb hr hlocks dX4_delay_92
  · rw [if_neg hc] at hf
    refine lv_iload_n hx hb dX4_delay_20 rfl (lv_at hl 1 rfl) ?_
    refine lv_iconst (v := -1) hx hb dX4_delay_21 (by decide) ?_
    refine lv_icmp_eq hx hb dX4_delay_22 rfl (fun hc => ?_) (fun hc => ?_)
    · rw [if_pos hc] at hf
      exact t_X4_delay_38 ⟨hx, hb, hml, hr, hlocks, hown, hno, hG⟩ hl0 hst hP hD hK9 (lv_sub hl [0, 1, 2, 3] rfl) hf
    · rw [if_neg hc] at hf
      refine lv_aload_n hx hb dX4_delay_25 rfl (lv_at hl 0 rfl) ?_
      refine va_get (D := D) (ci := 4) (v := .ref (q 2)) (C := RX4) (T := TX4) (N := 4) hx hb (hwX4 hE) (fun _ h => h) hown hK hP 0 rfl rfl 1 (by decide) (hE _ fl_X4_19 rfl _) (fun _ h9 => h9) rfl dX4_delay_26 ?_
      refine va_get (D := D) (ci := 1) (v := .ref (q 8)) (C := RX1) (T := TX1) (N := 8) hx hb (hwX1 hE) (fun _ h => h) hown hK hP 2 rfl rfl 0 (by decide) (hE _ fl_X4_124 rfl _) (fun _ h9 => h9) rfl dX4_delay_29 ?_
      refine lv_iload_n hx hb dX4_delay_32 rfl (lv_at hl 3 rfl) ?_
      obtain ⟨hin, hf⟩ := xguard hf
      refine va_iald hx hb hK hP 8 0 rfl rfl hin dX4_delay_33 ?_
      refine lv_iload_n hx hb dX4_delay_34 rfl (lv_at hl 1 rfl) ?_
      refine lv_icmp_ne hx hb dX4_delay_35 rfl (fun hc => ?_) (fun hc => ?_)
      · rw [if_neg hc] at hf
        refine lv_iconst (v := 0) hx hb dX4_delay_42 (by decide) ?_
        exact t_X4_delay_43 ⟨hx, hb, hml, hr, hlocks, hown, hno, hG⟩ hl0 hst hP hD hK9 (lv_sub hl [0, 1, 2, 3] rfl) hf
      · rw [if_pos hc] at hf
        exact t_X4_delay_38 ⟨hx, hb, hml, hr, hlocks, hown, hno, hG⟩ hl0 hst hP hD hK9 (lv_sub hl [0, 1, 2, 3] rfl) hf
noncomputable def g_X4_delay_9  (a : xT) : Nat → Int32 → Int32 → Int32 → Option (String ⊕ Int32) := fun n => Nat.rec (motive := fun _ => Int32 → Int32 → Int32 → Option (String ⊕ Int32)) (fun _ _ _ => none) (fun _ ih => g_X4_delay_9s ih a) n
set_option maxHeartbeats 4000000 in
theorem t_X4_delay_9 {p : Program} {l : Launch} {e : Env} {s : State} {m : MethodId} {args : Array Value} {below : List Frame} {meth : Method} {c : Code} {D : va_G} {q : Nat → Nat} {k : Nat → ClassId} {a b : xT} {o : Nat → Int64} {y : String ⊕ Int32} (C : xCx p s m meth c cX4_delay 5 (some .int) RX4 D k) (hl0 : l.stackTraces = false) (hst : xSt s) (hP : va_P D vwCl (xw q k a b o) s.heap) (hD : va_D (fun _ => True) (xw q k a b o))  (n : Nat) : ∀ {v1 v2 v3 : Int32} {ls : Array Slot}, lv_has ls 5 [(0, .ref (q 0)), (1, .int v1), (2, .int v2), (3, .int v3)] → g_X4_delay_9  a n v1 v2 v3 = some y → W p l e r_X4_delay s m args below meth c s.heap [] 0 0 (xMQ below (xQr (xri y)) args s (xmc (xri y)) (xms (xri y)) (fun _ => False)) (F0 m 9 ls []) := by
  induction n with
  | zero =>
    intro _ _ _ _ _ hf
    have h9 : (none : Option (String ⊕ Int32)) = some y := hf
    cases h9
  | succ n ih =>
    intro _ _ _ _ hl hf
    exact t_X4_delay_9s C hl0 hst hP hD (K9 := g_X4_delay_9  a n) ih hl hf
noncomputable def g_X4_delay_0  (a : xT) (v1 : Int32) : Option (String ⊕ Int32) := ((f_X4_checkAirlineOrNone a v1).bind fun r => Option.elim r (g_X4_delay_9  a 1000 v1 0 0) (fun E => some (.inl E)))
set_option maxHeartbeats 4000000 in
set_option maxRecDepth 100000 in
theorem t_X4_delay_0 {p : Program} {l : Launch} {e : Env} {s : State} {m : MethodId} {args : Array Value} {below : List Frame} {meth : Method} {c : Code} {D : va_G} {q : Nat → Nat} {k : Nat → ClassId} {a b : xT} {o : Nat → Int64} {y : String ⊕ Int32} (C : xCx p s m meth c cX4_delay 5 (some .int) RX4 D k) (hl0 : l.stackTraces = false) (hst : xSt s) (hP : va_P D vwCl (xw q k a b o) s.heap) (hD : va_D (fun _ => True) (xw q k a b o))  {v1 : Int32} {ls : Array Slot} (hl : lv_has ls 5 [(0, .ref (q 0)), (1, .int v1)]) (hf : g_X4_delay_0  a v1 = some y) : W p l e r_X4_delay s m args below meth c s.heap [] 0 0 (xMQ below (xQr (xri y)) args s (xmc (xri y)) (xms (xri y)) (fun _ => False)) (F0 m 0 ls []) := by
  obtain ⟨hx, hb, hml, hr, hlocks, hown, hno, hG⟩ := C
  have hK := hG.1
  have hE := hG.2.1
  unfold g_X4_delay_0 at hf
  refine lv_aload_n hx hb dX4_delay_0 rfl (lv_at hl 0 rfl) ?_
  refine lv_iload_n hx hb dX4_delay_1 rfl (lv_at hl 1 rfl) ?_
  obtain ⟨r2, hN, hf⟩ := xbind hf
  cases r2 with
  | some E =>
    replace hf : some (.inl E) = some y := hf
    cases hf
    exact xgo_t (xrunV (C := RX4) (As := [.int v1]) (rest := []) (xfixm fx_X4_checkAirlineOrNone hx hb hml hown (by decide) (by decide) (by decide) (by decide)) hE ml_X4_175 wi_X4_checkAirlineOrNone wz_X4_checkAirlineOrNone wc_X4_checkAirlineOrNone wn_X4 (c_X4_checkAirlineOrNone l hl0 D q k a b o v1 _ hN) (va_recv (q := (RX4, TX4, 4)) (ci := 4) (q0 := 0) hK hP rfl rfl) (xpreT hP hD hG hst) rfl rfl hl.1 rfl (lv_room (Nat.le_of_ble_eq_true rfl)) dX4_delay_2) (fun u H1 ce h1 h2 h3 h4 h5 => xout hno hlocks (fun u t h => ⟨u, rfl, h⟩) h1 h2 h3 h4 h5)
  | none =>
    replace hf : g_X4_delay_9  a 1000 v1 0 0 = some y := hf
    refine xgo_r (v := none) (xrunV (C := RX4) (As := [.int v1]) (rest := []) (xfixm fx_X4_checkAirlineOrNone hx hb hml hown (by decide) (by decide) (by decide) (by decide)) hE ml_X4_175 wi_X4_checkAirlineOrNone wz_X4_checkAirlineOrNone wc_X4_checkAirlineOrNone wn_X4 (c_X4_checkAirlineOrNone l hl0 D q k a b o v1 _ hN) (va_recv (q := (RX4, TX4, 4)) (ci := 4) (q0 := 0) hK hP rfl rfl) (xpreT hP hD hG hst) rfl rfl hl.1 rfl (lv_room (Nat.le_of_ble_eq_true rfl)) dX4_delay_2) ?_
    refine lv_iconst (v := 0) hx hb dX4_delay_5 (by decide) ?_
    refine lv_istore_n (lv' := [(2, .int 0), (0, .ref (q 0)), (1, .int v1)]) hx hb dX4_delay_6 rfl hl (by decide) rfl (fun ls hl => ?_)
    refine lv_iconst (v := 0) hx hb dX4_delay_7 (by decide) ?_
    refine lv_istore_n (lv' := [(3, .int 0), (2, .int 0), (0, .ref (q 0)), (1, .int v1)]) hx hb dX4_delay_8 rfl hl (by decide) rfl (fun ls hl => ?_)
    exact t_X4_delay_9 ⟨hx, hb, hml, hr, hlocks, hown, hno, hG⟩ hl0 hst hP hD  1000 (lv_sub hl [2, 3, 1, 0] rfl) hf
noncomputable def f_X4_delay (a : xT) (v1 : Int32) : Option (String ⊕ Int32) := g_X4_delay_0 a v1
set_option maxHeartbeats 4000000 in
set_option maxRecDepth 100000 in
theorem c_X4_delay (l : Launch) (hl0 : l.stackTraces = false) (D : va_G) (q : Nat → Nat) (k : Nat → ClassId) (a b : xT) (o : Nat → Int64) (v1 : Int32) (y : String ⊕ Int32) (hf : f_X4_delay a v1 = some y) : xMet l yX4_delay (.code yX4_delay cX4_delay 5 (some .int)) r_X4_delay (xPcT D q k a b o [.ref (q 0), .int v1]) (xQr (xri y)) (xmc (xri y)) (xms (xri y)) (fun _ => False) := by
  refine xMet.ofW (by decide) ?_
  intro p e s m args below meth c hx hb hml hr hlocks hnm hme hno hv
  obtain ⟨rfl, hP, hD, hG, hst⟩ := hv
  have hown : s.vm.findClass RX4 = some m.cls := findClass_of_methodNamed hnm
  have hl := lv_entry ([.ref (q 0), .int v1]) (n := 5) (Nat.le_of_ble_eq_true rfl)
  rw [lg_entry_eq]
  generalize (lg_sl ([.ref (q 0), .int v1]) ++ List.replicate (5 - (lg_sl ([.ref (q 0), .int v1])).length) Slot.unset).toArray = ls at hl ⊢
  have hl : lv_has ls 5 [(0, .ref (q 0)), (1, .int v1)] := hl
  exact t_X4_delay_0 ⟨hx, hb, hml, hr, hlocks, hown, hno, hG⟩ hl0 hst hP hD hl hf
abbrev r_X4_drop : Room := { frames := 6, cells := 1, slots := 6, locals := 90 }
noncomputable def g_X4_drop_15  (z : xT)  : Option (String ⊕ (Int32 × xT)) := some (.inl "java/lang/IllegalArgumentException")
set_option maxHeartbeats 4000000 in
set_option maxRecDepth 100000 in
theorem t_X4_drop_15 {p : Program} {l : Launch} {e : Env} {s : State} {m : MethodId} {args : Array Value} {below : List Frame} {meth : Method} {c : Code} {D : va_G} {q : Nat → Nat} {k : Nat → ClassId} {b : xT} {o : Nat → Int64} {z : xT} {y : String ⊕ (Int32 × xT)} (C : xCx p s m meth c cX4_drop 3 (some .boolean) RX4 D k) (hl0 : l.stackTraces = false) (hst : xSt s) (hP : va_P D vwCl (xw q k z b o) s.heap) (hD : va_D (va_A (xw q k z b o) s.heap.size) (xw q k z b o))  {ls : Array Slot} (hl : lv_has ls 3 []) (hf : g_X4_drop_15  z  = some y) : W p l e r_X4_drop s m args below meth c s.heap [] 0 0 (xMQ below (xQm D q k z b o (Sum.map id (fun z => (some (.int z.1), z.2, b)) y)) args s (xmm (Sum.map id (fun z => (some (.int z.1), z.2, b)) y)) (xmn (Sum.map id (fun z => (some (.int z.1), z.2, b)) y)) (xfr q k z b o s.heap.size (Sum.map id (fun z => (some (.int z.1), z.2, b)) y))) (F0 m 15 ls []) := by
  obtain ⟨hx, hb, hml, hr, hlocks, hown, hno, hG⟩ := C
  have hK := hG.1
  have hE := hG.2.1
  have hS : va_S (va_A (xw q k z b o) s.heap.size) s.heap s.heap [] := va_S.rf
  have hA : ∀ u, s.heap.size ≤ u → va_A (xw q k z b o) s.heap.size u := fun u h => Or.inr h
  unfold g_X4_drop_15 at hf
  cases hf
  obtain ⟨sa, hsa⟩ := hG.2.2 (RX4, 150, "no such offer") (by decide +kernel)
  exact xthrow (own := RX4) (cls := "java/lang/IllegalArgumentException") (text := "no such offer") (names := ["java/lang/RuntimeException", "java/lang/Exception"]) (ik := 37) (is := 150) (ic := 41) (sa := sa) hx hb hl0 hown hE hst (by decide +kernel) (by decide +kernel) tw_X4_41 kl_X4_37 wn_IllegalArgumentException hsa hno hlocks (hl.1.trans hml.symm) dX4_drop_15 dX4_drop_18 dX4_drop_19 dX4_drop_21 dX4_drop_24 (by decide) (by decide) (by decide) (by decide) (fun u t h => ⟨u, rfl, h⟩)
noncomputable def g_X4_drop_45  (a : xT) (v2 : Int32) : Option (String ⊕ (Int32 × xT)) := (if xzb v2 = true then some (.inr (v2, a)) else none)
set_option maxHeartbeats 4000000 in
set_option maxRecDepth 100000 in
theorem t_X4_drop_45 {p : Program} {l : Launch} {e : Env} {s : State} {m : MethodId} {args : Array Value} {below : List Frame} {meth : Method} {c : Code} {D : va_G} {q : Nat → Nat} {k : Nat → ClassId} {a b : xT} {o : Nat → Int64} {z : xT} {y : String ⊕ (Int32 × xT)} (C : xCx p s m meth c cX4_drop 3 (some .boolean) RX4 D k) (hl0 : l.stackTraces = false) (hst : xSt s) {H : Heap} {locs : List Loc} (hP : va_P D vwCl (xw q k a b o) H) (hD : va_D (va_A (xw q k z b o) s.heap.size) (xw q k a b o)) (hS : va_S (va_A (xw q k z b o) s.heap.size) s.heap H locs)  {v2 : Int32} {ls : Array Slot} (hl : lv_has ls 3 [(2, .int v2)]) (hf : g_X4_drop_45  a v2 = some y) : W p l e r_X4_drop s m args below meth c H locs 0 0 (xMQ below (xQm D q k z b o (Sum.map id (fun z => (some (.int z.1), z.2, b)) y)) args s (xmm (Sum.map id (fun z => (some (.int z.1), z.2, b)) y)) (xmn (Sum.map id (fun z => (some (.int z.1), z.2, b)) y)) (xfr q k z b o s.heap.size (Sum.map id (fun z => (some (.int z.1), z.2, b)) y))) (F0 m 45 ls []) := by
  obtain ⟨hx, hb, hml, hr, hlocks, hown, hno, hG⟩ := C
  have hK := hG.1
  have hE := hG.2.1
  have hA : ∀ u, s.heap.size ≤ u → va_A (xw q k z b o) s.heap.size u := fun u h => Or.inr h
  unfold g_X4_drop_45 at hf
  refine lv_iload_n hx hb dX4_drop_45 rfl (lv_at hl 0 rfl) ?_
  obtain ⟨hz, hf⟩ := xguz hf
  cases hf
  exact xretm_z hx hb hr hz hlocks hP hS dX4_drop_46
noncomputable def g_X4_drop_0  (z : xT) (v1 : Int32) : Option (String ⊕ (Int32 × xT)) := (if v1 < 0 then g_X4_drop_15  z  else (if v1 < (z.2 1) then (if xin v1 40 = true then (if xin v1 40 = true then g_X4_drop_45  (xs z 13 v1.toNatClampNeg (vp_nar .boolean 0)) (z.1 13 v1.toNatClampNeg) else none) else none) else g_X4_drop_15  z ))
set_option maxHeartbeats 4000000 in
set_option maxRecDepth 100000 in
theorem t_X4_drop_0 {p : Program} {l : Launch} {e : Env} {s : State} {m : MethodId} {args : Array Value} {below : List Frame} {meth : Method} {c : Code} {D : va_G} {q : Nat → Nat} {k : Nat → ClassId} {b : xT} {o : Nat → Int64} {z : xT} {y : String ⊕ (Int32 × xT)} (C : xCx p s m meth c cX4_drop 3 (some .boolean) RX4 D k) (hl0 : l.stackTraces = false) (hst : xSt s) (hP : va_P D vwCl (xw q k z b o) s.heap) (hD : va_D (va_A (xw q k z b o) s.heap.size) (xw q k z b o))  {v1 : Int32} {ls : Array Slot} (hl : lv_has ls 3 [(0, .ref (q 0)), (1, .int v1)]) (hf : g_X4_drop_0  z v1 = some y) : W p l e r_X4_drop s m args below meth c s.heap [] 0 0 (xMQ below (xQm D q k z b o (Sum.map id (fun z => (some (.int z.1), z.2, b)) y)) args s (xmm (Sum.map id (fun z => (some (.int z.1), z.2, b)) y)) (xmn (Sum.map id (fun z => (some (.int z.1), z.2, b)) y)) (xfr q k z b o s.heap.size (Sum.map id (fun z => (some (.int z.1), z.2, b)) y))) (F0 m 0 ls []) := by
  obtain ⟨hx, hb, hml, hr, hlocks, hown, hno, hG⟩ := C
  have hK := hG.1
  have hE := hG.2.1
  have hS : va_S (va_A (xw q k z b o) s.heap.size) s.heap s.heap [] := va_S.rf
  have hA : ∀ u, s.heap.size ≤ u → va_A (xw q k z b o) s.heap.size u := fun u h => Or.inr h
  unfold g_X4_drop_0 at hf
  refine lv_iload_n hx hb dX4_drop_0 rfl (lv_at hl 1 rfl) ?_
  refine lv_if_lt hx hb dX4_drop_1 rfl (fun hc => ?_) (fun hc => ?_)
  · rw [if_pos hc] at hf
    exact t_X4_drop_15 ⟨hx, hb, hml, hr, hlocks, hown, hno, hG⟩ hl0 hst hP hD  (lv_sub hl [] rfl) hf
  · rw [if_neg hc] at hf
    refine lv_iload_n hx hb dX4_drop_4 rfl (lv_at hl 1 rfl) ?_
    refine lv_aload_n hx hb dX4_drop_5 rfl (lv_at hl 0 rfl) ?_
    refine va_get (D := D) (ci := 4) (v := .ref (q 3)) (C := RX4) (T := TX4) (N := 4) hx hb (hwX4 hE) (fun _ h => h) hown hK hP 0 rfl rfl 2 (by decide) (hE _ fl_X4_26 rfl _) (fun _ h9 => h9) rfl dX4_drop_6 ?_
    refine va_get (D := D) (ci := 2) (v := .int (z.2 1)) (C := RX2) (T := TX2) (N := 5) hx hb (hwX2 hE) (fun _ h => h) hown hK hP 3 rfl rfl 4 (by decide) (hE _ fl_X4_146 rfl _) (fun _ h9 => h9) rfl dX4_drop_9 ?_
    refine lv_icmp_lt hx hb dX4_drop_12 rfl (fun hc => ?_) (fun hc => ?_)
    · rw [if_pos hc] at hf
      refine lv_aload_n hx hb dX4_drop_25 rfl (lv_at hl 0 rfl) ?_
      refine va_get (D := D) (ci := 4) (v := .ref (q 3)) (C := RX4) (T := TX4) (N := 4) hx hb (hwX4 hE) (fun _ h => h) hown hK hP 0 rfl rfl 2 (by decide) (hE _ fl_X4_26 rfl _) (fun _ h9 => h9) rfl dX4_drop_26 ?_
      refine va_get (D := D) (ci := 2) (v := .ref (q 18)) (C := RX2) (T := TX2) (N := 5) hx hb (hwX2 hE) (fun _ h => h) hown hK hP 3 rfl rfl 3 (by decide) (hE _ fl_X4_152 rfl _) (fun _ h9 => h9) rfl dX4_drop_29 ?_
      refine lv_iload_n hx hb dX4_drop_32 rfl (lv_at hl 1 rfl) ?_
      obtain ⟨hin, hf⟩ := xguard hf
      refine va_zald hx hb hK hP 18 1 rfl rfl hin dX4_drop_33 ?_
      refine lv_istore_n (lv' := [(2, .int (z.1 13 v1.toNatClampNeg)), (0, .ref (q 0)), (1, .int v1)]) hx hb dX4_drop_34 rfl hl (by decide) rfl (fun ls hl => ?_)
      refine lv_aload_n hx hb dX4_drop_35 rfl (lv_at hl 1 rfl) ?_
      refine va_get (D := D) (ci := 4) (v := .ref (q 3)) (C := RX4) (T := TX4) (N := 4) hx hb (hwX4 hE) (fun _ h => h) hown hK hP 0 rfl rfl 2 (by decide) (hE _ fl_X4_26 rfl _) (fun _ h9 => h9) rfl dX4_drop_36 ?_
      refine va_get (D := D) (ci := 2) (v := .ref (q 18)) (C := RX2) (T := TX2) (N := 5) hx hb (hwX2 hE) (fun _ h => h) hown hK hP 3 rfl rfl 3 (by decide) (hE _ fl_X4_152 rfl _) (fun _ h9 => h9) rfl dX4_drop_39 ?_
      refine lv_iload_n hx hb dX4_drop_42 rfl (lv_at hl 2 rfl) ?_
      refine lv_iconst (v := 0) hx hb dX4_drop_43 (by decide) ?_
      obtain ⟨hin, hf⟩ := xguard hf
      refine va_zast hx hb hK hP hD hS 18 1 rfl rfl hin dX4_drop_44 (fun H locs hP hD hS => ?_)
      rw [xw_s18] at hP hD
      exact t_X4_drop_45 ⟨hx, hb, hml, hr, hlocks, hown, hno, hG⟩ hl0 hst hP hD hS  (lv_sub hl [0] rfl) hf
    · rw [if_neg hc] at hf
      exact t_X4_drop_15 ⟨hx, hb, hml, hr, hlocks, hown, hno, hG⟩ hl0 hst hP hD  (lv_sub hl [] rfl) hf
noncomputable def f_X4_drop (a : xT) (v1 : Int32) : Option (String ⊕ (Int32 × xT)) := g_X4_drop_0 a v1
set_option maxHeartbeats 4000000 in
set_option maxRecDepth 100000 in
theorem c_X4_drop (l : Launch) (hl0 : l.stackTraces = false) (D : va_G) (q : Nat → Nat) (k : Nat → ClassId) (sz : Nat) (a b : xT) (o : Nat → Int64) (v1 : Int32) (y : String ⊕ (Int32 × xT)) (hf : f_X4_drop a v1 = some y) : xMet l yX4_drop (.code yX4_drop cX4_drop 3 (some .boolean)) r_X4_drop (xPcTm D q k sz a b o [.ref (q 0), .int v1]) (xQm D q k a b o (Sum.map id (fun z => (some (.int z.1), z.2, b)) y)) (xmm (Sum.map id (fun z => (some (.int z.1), z.2, b)) y)) (xmn (Sum.map id (fun z => (some (.int z.1), z.2, b)) y)) (xfr q k a b o sz (Sum.map id (fun z => (some (.int z.1), z.2, b)) y)) := by
  refine xMet.ofW (by decide) ?_
  intro p e s m args below meth c hx hb hml hr hlocks hnm hme hno hv
  obtain ⟨rfl, hsz, hP, hD, hG, hst⟩ := hv
  subst hsz
  have hown : s.vm.findClass RX4 = some m.cls := findClass_of_methodNamed hnm
  have hl := lv_entry ([.ref (q 0), .int v1]) (n := 3) (Nat.le_of_ble_eq_true rfl)
  rw [lg_entry_eq]
  generalize (lg_sl ([.ref (q 0), .int v1]) ++ List.replicate (3 - (lg_sl ([.ref (q 0), .int v1])).length) Slot.unset).toArray = ls at hl ⊢
  have hl : lv_has ls 3 [(0, .ref (q 0)), (1, .int v1)] := hl
  have hD := hD.self (sz := s.heap.size)
  exact t_X4_drop_0 ⟨hx, hb, hml, hr, hlocks, hown, hno, hG⟩ hl0 hst hP hD hl hf
abbrev r_X4_entry : Room := { frames := 6, cells := 1, slots := 6, locals := 90 }
noncomputable def g_X4_entry_15  (a : xT)  : Option (String ⊕ Int32) := some (.inl "java/lang/IndexOutOfBoundsException")
set_option maxHeartbeats 4000000 in
set_option maxRecDepth 100000 in
theorem t_X4_entry_15 {p : Program} {l : Launch} {e : Env} {s : State} {m : MethodId} {args : Array Value} {below : List Frame} {meth : Method} {c : Code} {D : va_G} {q : Nat → Nat} {k : Nat → ClassId} {a b : xT} {o : Nat → Int64} {y : String ⊕ Int32} (C : xCx p s m meth c cX4_entry 3 (some .int) RX4 D k) (hl0 : l.stackTraces = false) (hst : xSt s) (hP : va_P D vwCl (xw q k a b o) s.heap) (hD : va_D (fun _ => True) (xw q k a b o))  {ls : Array Slot} (hl : lv_has ls 3 []) (hf : g_X4_entry_15  a  = some y) : W p l e r_X4_entry s m args below meth c s.heap [] 0 0 (xMQ below (xQr (xri y)) args s (xmc (xri y)) (xms (xri y)) (fun _ => False)) (F0 m 15 ls []) := by
  obtain ⟨hx, hb, hml, hr, hlocks, hown, hno, hG⟩ := C
  have hK := hG.1
  have hE := hG.2.1
  unfold g_X4_entry_15 at hf
  cases hf
  obtain ⟨sa, hsa⟩ := hG.2.2 (RX4, 187, "no such entry") (by decide +kernel)
  exact xthrow (own := RX4) (cls := "java/lang/IndexOutOfBoundsException") (text := "no such entry") (names := ["java/lang/RuntimeException", "java/lang/Exception"]) (ik := 185) (is := 187) (ic := 189) (sa := sa) hx hb hl0 hown hE hst (by decide +kernel) (by decide +kernel) tw_X4_189 kl_X4_185 wn_IndexOutOfBoundsException hsa hno hlocks (hl.1.trans hml.symm) dX4_entry_15 dX4_entry_18 dX4_entry_19 dX4_entry_21 dX4_entry_24 (by decide) (by decide) (by decide) (by decide) (fun u t h => ⟨u, rfl, h⟩)
noncomputable def g_X4_entry_0  (a : xT) (v1 : Int32) (v2 : Int32) : Option (String ⊕ Int32) := (if v1 < 0 then g_X4_entry_15  a  else (if v1 < (a.2 2) then (if v2 = 0 then (if xin v1 200 = true then some (.inr (a.1 14 v1.toNatClampNeg)) else none) else (if v2 = 1 then (if xin v1 200 = true then some (.inr (a.1 15 v1.toNatClampNeg)) else none) else (if v2 = 2 then (if xin v1 200 = true then some (.inr (a.1 16 v1.toNatClampNeg)) else none) else (if v2 = 3 then (if xin v1 200 = true then some (.inr (a.1 17 v1.toNatClampNeg)) else none) else some (.inl "java/lang/IllegalArgumentException"))))) else g_X4_entry_15  a ))
set_option maxHeartbeats 4000000 in
set_option maxRecDepth 100000 in
theorem t_X4_entry_0 {p : Program} {l : Launch} {e : Env} {s : State} {m : MethodId} {args : Array Value} {below : List Frame} {meth : Method} {c : Code} {D : va_G} {q : Nat → Nat} {k : Nat → ClassId} {a b : xT} {o : Nat → Int64} {y : String ⊕ Int32} (C : xCx p s m meth c cX4_entry 3 (some .int) RX4 D k) (hl0 : l.stackTraces = false) (hst : xSt s) (hP : va_P D vwCl (xw q k a b o) s.heap) (hD : va_D (fun _ => True) (xw q k a b o))  {v1 v2 : Int32} {ls : Array Slot} (hl : lv_has ls 3 [(0, .ref (q 0)), (1, .int v1), (2, .int v2)]) (hf : g_X4_entry_0  a v1 v2 = some y) : W p l e r_X4_entry s m args below meth c s.heap [] 0 0 (xMQ below (xQr (xri y)) args s (xmc (xri y)) (xms (xri y)) (fun _ => False)) (F0 m 0 ls []) := by
  obtain ⟨hx, hb, hml, hr, hlocks, hown, hno, hG⟩ := C
  have hK := hG.1
  have hE := hG.2.1
  unfold g_X4_entry_0 at hf
  refine lv_iload_n hx hb dX4_entry_0 rfl (lv_at hl 1 rfl) ?_
  refine lv_if_lt hx hb dX4_entry_1 rfl (fun hc => ?_) (fun hc => ?_)
  · rw [if_pos hc] at hf
    exact t_X4_entry_15 ⟨hx, hb, hml, hr, hlocks, hown, hno, hG⟩ hl0 hst hP hD  (lv_sub hl [] rfl) hf
  · rw [if_neg hc] at hf
    refine lv_iload_n hx hb dX4_entry_4 rfl (lv_at hl 1 rfl) ?_
    refine lv_aload_n hx hb dX4_entry_5 rfl (lv_at hl 0 rfl) ?_
    refine va_get (D := D) (ci := 4) (v := .ref (q 4)) (C := RX4) (T := TX4) (N := 4) hx hb (hwX4 hE) (fun _ h => h) hown hK hP 0 rfl rfl 3 (by decide) (hE _ fl_X4_33 rfl _) (fun _ h9 => h9) rfl dX4_entry_6 ?_
    refine va_get (D := D) (ci := 0) (v := .int (a.2 2)) (C := RX0) (T := TX0) (N := 5) hx hb (hwX0 hE) (fun _ h => h) hown hK hP 4 rfl rfl 4 (by decide) (hE _ fl_X4_184 rfl _) (fun _ h9 => h9) rfl dX4_entry_9 ?_
    refine lv_icmp_lt hx hb dX4_entry_12 rfl (fun hc => ?_) (fun hc => ?_)
    · rw [if_pos hc] at hf
      refine lv_iload_n hx hb dX4_entry_25 rfl (lv_at hl 2 rfl) ?_
      by_cases hc0 : v2 = 0
      · rw [if_pos hc0] at hf
        refine lv_tableIn (off := 30) hx hb dX4_entry_26 (by rw [hc0]; decide) (by rw [hc0]; decide) (by rw [hc0]; rfl) rfl ?_
        refine lv_aload_n hx hb dX4_entry_56 rfl (lv_at hl 0 rfl) ?_
        refine va_get (D := D) (ci := 4) (v := .ref (q 4)) (C := RX4) (T := TX4) (N := 4) hx hb (hwX4 hE) (fun _ h => h) hown hK hP 0 rfl rfl 3 (by decide) (hE _ fl_X4_33 rfl _) (fun _ h9 => h9) rfl dX4_entry_57 ?_
        refine va_get (D := D) (ci := 0) (v := .ref (q 19)) (C := RX0) (T := TX0) (N := 5) hx hb (hwX0 hE) (fun _ h => h) hown hK hP 4 rfl rfl 0 (by decide) (hE _ fl_X4_190 rfl _) (fun _ h9 => h9) rfl dX4_entry_60 ?_
        refine lv_iload_n hx hb dX4_entry_63 rfl (lv_at hl 1 rfl) ?_
        obtain ⟨hin, hf⟩ := xguard hf
        refine va_iald hx hb hK hP 19 0 rfl rfl hin dX4_entry_64 ?_
        cases hf
        exact xret_i hx hb hr hlocks dX4_entry_65
      · rw [if_neg hc0] at hf
        by_cases hc1 : v2 = 1
        · rw [if_pos hc1] at hf
          refine lv_tableIn (off := 40) hx hb dX4_entry_26 (by rw [hc1]; decide) (by rw [hc1]; decide) (by rw [hc1]; rfl) rfl ?_
          refine lv_aload_n hx hb dX4_entry_66 rfl (lv_at hl 0 rfl) ?_
          refine va_get (D := D) (ci := 4) (v := .ref (q 4)) (C := RX4) (T := TX4) (N := 4) hx hb (hwX4 hE) (fun _ h => h) hown hK hP 0 rfl rfl 3 (by decide) (hE _ fl_X4_33 rfl _) (fun _ h9 => h9) rfl dX4_entry_67 ?_
          refine va_get (D := D) (ci := 0) (v := .ref (q 20)) (C := RX0) (T := TX0) (N := 5) hx hb (hwX0 hE) (fun _ h => h) hown hK hP 4 rfl rfl 1 (by decide) (hE _ fl_X4_193 rfl _) (fun _ h9 => h9) rfl dX4_entry_70 ?_
          refine lv_iload_n hx hb dX4_entry_73 rfl (lv_at hl 1 rfl) ?_
          obtain ⟨hin, hf⟩ := xguard hf
          refine va_iald hx hb hK hP 20 0 rfl rfl hin dX4_entry_74 ?_
          cases hf
          exact xret_i hx hb hr hlocks dX4_entry_75
        · rw [if_neg hc1] at hf
          by_cases hc2 : v2 = 2
          · rw [if_pos hc2] at hf
            refine lv_tableIn (off := 50) hx hb dX4_entry_26 (by rw [hc2]; decide) (by rw [hc2]; decide) (by rw [hc2]; rfl) rfl ?_
            refine lv_aload_n hx hb dX4_entry_76 rfl (lv_at hl 0 rfl) ?_
            refine va_get (D := D) (ci := 4) (v := .ref (q 4)) (C := RX4) (T := TX4) (N := 4) hx hb (hwX4 hE) (fun _ h => h) hown hK hP 0 rfl rfl 3 (by decide) (hE _ fl_X4_33 rfl _) (fun _ h9 => h9) rfl dX4_entry_77 ?_
            refine va_get (D := D) (ci := 0) (v := .ref (q 21)) (C := RX0) (T := TX0) (N := 5) hx hb (hwX0 hE) (fun _ h => h) hown hK hP 4 rfl rfl 2 (by decide) (hE _ fl_X4_194 rfl _) (fun _ h9 => h9) rfl dX4_entry_80 ?_
            refine lv_iload_n hx hb dX4_entry_83 rfl (lv_at hl 1 rfl) ?_
            obtain ⟨hin, hf⟩ := xguard hf
            refine va_iald hx hb hK hP 21 0 rfl rfl hin dX4_entry_84 ?_
            cases hf
            exact xret_i hx hb hr hlocks dX4_entry_85
          · rw [if_neg hc2] at hf
            by_cases hc3 : v2 = 3
            · rw [if_pos hc3] at hf
              refine lv_tableIn (off := 60) hx hb dX4_entry_26 (by rw [hc3]; decide) (by rw [hc3]; decide) (by rw [hc3]; rfl) rfl ?_
              refine lv_aload_n hx hb dX4_entry_86 rfl (lv_at hl 0 rfl) ?_
              refine va_get (D := D) (ci := 4) (v := .ref (q 4)) (C := RX4) (T := TX4) (N := 4) hx hb (hwX4 hE) (fun _ h => h) hown hK hP 0 rfl rfl 3 (by decide) (hE _ fl_X4_33 rfl _) (fun _ h9 => h9) rfl dX4_entry_87 ?_
              refine va_get (D := D) (ci := 0) (v := .ref (q 22)) (C := RX0) (T := TX0) (N := 5) hx hb (hwX0 hE) (fun _ h => h) hown hK hP 4 rfl rfl 3 (by decide) (hE _ fl_X4_197 rfl _) (fun _ h9 => h9) rfl dX4_entry_90 ?_
              refine lv_iload_n hx hb dX4_entry_93 rfl (lv_at hl 1 rfl) ?_
              obtain ⟨hin, hf⟩ := xguard hf
              refine va_iald hx hb hK hP 22 0 rfl rfl hin dX4_entry_94 ?_
              cases hf
              exact xret_i hx hb hr hlocks dX4_entry_95
            · rw [if_neg hc3] at hf
              refine lv_tableOut hx hb dX4_entry_26 (xswo hc0 hc1 hc2 hc3) rfl ?_
              cases hf
              obtain ⟨sa, hsa⟩ := hG.2.2 (RX4, 200, "an entry has no such part") (by decide +kernel)
              exact xthrow (own := RX4) (cls := "java/lang/IllegalArgumentException") (text := "an entry has no such part") (names := ["java/lang/RuntimeException", "java/lang/Exception"]) (ik := 37) (is := 200) (ic := 41) (sa := sa) hx hb hl0 hown hE hst (by decide +kernel) (by decide +kernel) tw_X4_41 kl_X4_37 wn_IllegalArgumentException hsa hno hlocks (hl.1.trans hml.symm) dX4_entry_96 dX4_entry_99 dX4_entry_100 dX4_entry_102 dX4_entry_105 (by decide) (by decide) (by decide) (by decide) (fun u t h => ⟨u, rfl, h⟩)
    · rw [if_neg hc] at hf
      exact t_X4_entry_15 ⟨hx, hb, hml, hr, hlocks, hown, hno, hG⟩ hl0 hst hP hD  (lv_sub hl [] rfl) hf
noncomputable def f_X4_entry (a : xT) (v1 : Int32) (v2 : Int32) : Option (String ⊕ Int32) := g_X4_entry_0 a v1 v2
set_option maxHeartbeats 4000000 in
set_option maxRecDepth 100000 in
theorem c_X4_entry (l : Launch) (hl0 : l.stackTraces = false) (D : va_G) (q : Nat → Nat) (k : Nat → ClassId) (a b : xT) (o : Nat → Int64) (v1 : Int32) (v2 : Int32) (y : String ⊕ Int32) (hf : f_X4_entry a v1 v2 = some y) : xMet l yX4_entry (.code yX4_entry cX4_entry 3 (some .int)) r_X4_entry (xPcT D q k a b o [.ref (q 0), .int v1, .int v2]) (xQr (xri y)) (xmc (xri y)) (xms (xri y)) (fun _ => False) := by
  refine xMet.ofW (by decide) ?_
  intro p e s m args below meth c hx hb hml hr hlocks hnm hme hno hv
  obtain ⟨rfl, hP, hD, hG, hst⟩ := hv
  have hown : s.vm.findClass RX4 = some m.cls := findClass_of_methodNamed hnm
  have hl := lv_entry ([.ref (q 0), .int v1, .int v2]) (n := 3) (Nat.le_of_ble_eq_true rfl)
  rw [lg_entry_eq]
  generalize (lg_sl ([.ref (q 0), .int v1, .int v2]) ++ List.replicate (3 - (lg_sl ([.ref (q 0), .int v1, .int v2])).length) Slot.unset).toArray = ls at hl ⊢
  have hl : lv_has ls 3 [(0, .ref (q 0)), (1, .int v1), (2, .int v2)] := hl
  exact t_X4_entry_0 ⟨hx, hb, hml, hr, hlocks, hown, hno, hG⟩ hl0 hst hP hD hl hf
abbrev r_X4_flight : Room := { frames := 7, cells := 1, slots := 6, locals := 111 }
noncomputable def g_X4_flight_16  (z : xT)  : Option (String ⊕ (Int32 × xT)) := some (.inl "java/lang/IllegalArgumentException")
set_option maxHeartbeats 4000000 in
set_option maxRecDepth 100000 in
theorem t_X4_flight_16 {p : Program} {l : Launch} {e : Env} {s : State} {m : MethodId} {args : Array Value} {below : List Frame} {meth : Method} {c : Code} {D : va_G} {q : Nat → Nat} {k : Nat → ClassId} {b : xT} {o : Nat → Int64} {z : xT} {y : String ⊕ (Int32 × xT)} (C : xCx p s m meth c cX4_flight 4 (some .int) RX4 D k) (hl0 : l.stackTraces = false) (hst : xSt s) (hP : va_P D vwCl (xw q k z b o) s.heap) (hD : va_D (va_A (xw q k z b o) s.heap.size) (xw q k z b o))  {ls : Array Slot} (hl : lv_has ls 4 []) (hf : g_X4_flight_16  z  = some y) : W p l e r_X4_flight s m args below meth c s.heap [] 0 0 (xMQ below (xQm D q k z b o (Sum.map id (fun z => (some (.int z.1), z.2, b)) y)) args s (xmm (Sum.map id (fun z => (some (.int z.1), z.2, b)) y)) (xmn (Sum.map id (fun z => (some (.int z.1), z.2, b)) y)) (xfr q k z b o s.heap.size (Sum.map id (fun z => (some (.int z.1), z.2, b)) y))) (F0 m 16 ls []) := by
  obtain ⟨hx, hb, hml, hr, hlocks, hown, hno, hG⟩ := C
  have hK := hG.1
  have hE := hG.2.1
  have hS : va_S (va_A (xw q k z b o) s.heap.size) s.heap s.heap [] := va_S.rf
  have hA : ∀ u, s.heap.size ≤ u → va_A (xw q k z b o) s.heap.size u := fun u h => Or.inr h
  unfold g_X4_flight_16 at hf
  cases hf
  obtain ⟨sa, hsa⟩ := hG.2.2 (RX4, 67, "scheduled for no minute of the time") (by decide +kernel)
  exact xthrow (own := RX4) (cls := "java/lang/IllegalArgumentException") (text := "scheduled for no minute of the time") (names := ["java/lang/RuntimeException", "java/lang/Exception"]) (ik := 37) (is := 67) (ic := 41) (sa := sa) hx hb hl0 hown hE hst (by decide +kernel) (by decide +kernel) tw_X4_41 kl_X4_37 wn_IllegalArgumentException hsa hno hlocks (hl.1.trans hml.symm) dX4_flight_16 dX4_flight_19 dX4_flight_20 dX4_flight_22 dX4_flight_25 (by decide) (by decide) (by decide) (by decide) (fun u t h => ⟨u, rfl, h⟩)
noncomputable def g_X4_flight_45  (z : xT)  : Option (String ⊕ (Int32 × xT)) := some (.inl "java/lang/IllegalArgumentException")
set_option maxHeartbeats 4000000 in
set_option maxRecDepth 100000 in
theorem t_X4_flight_45 {p : Program} {l : Launch} {e : Env} {s : State} {m : MethodId} {args : Array Value} {below : List Frame} {meth : Method} {c : Code} {D : va_G} {q : Nat → Nat} {k : Nat → ClassId} {b : xT} {o : Nat → Int64} {z : xT} {y : String ⊕ (Int32 × xT)} (C : xCx p s m meth c cX4_flight 4 (some .int) RX4 D k) (hl0 : l.stackTraces = false) (hst : xSt s) (hP : va_P D vwCl (xw q k z b o) s.heap) (hD : va_D (va_A (xw q k z b o) s.heap.size) (xw q k z b o))  {ls : Array Slot} (hl : lv_has ls 4 []) (hf : g_X4_flight_45  z  = some y) : W p l e r_X4_flight s m args below meth c s.heap [] 0 0 (xMQ below (xQm D q k z b o (Sum.map id (fun z => (some (.int z.1), z.2, b)) y)) args s (xmm (Sum.map id (fun z => (some (.int z.1), z.2, b)) y)) (xmn (Sum.map id (fun z => (some (.int z.1), z.2, b)) y)) (xfr q k z b o s.heap.size (Sum.map id (fun z => (some (.int z.1), z.2, b)) y))) (F0 m 45 ls []) := by
  obtain ⟨hx, hb, hml, hr, hlocks, hown, hno, hG⟩ := C
  have hK := hG.1
  have hE := hG.2.1
  have hS : va_S (va_A (xw q k z b o) s.heap.size) s.heap s.heap [] := va_S.rf
  have hA : ∀ u, s.heap.size ≤ u → va_A (xw q k z b o) s.heap.size u := fun u h => Or.inr h
  unfold g_X4_flight_45 at hf
  cases hf
  obtain ⟨sa, hsa⟩ := hG.2.2 (RX4, 75, "earliest minute out of bounds") (by decide +kernel)
  exact xthrow (own := RX4) (cls := "java/lang/IllegalArgumentException") (text := "earliest minute out of bounds") (names := ["java/lang/RuntimeException", "java/lang/Exception"]) (ik := 37) (is := 75) (ic := 41) (sa := sa) hx hb hl0 hown hE hst (by decide +kernel) (by decide +kernel) tw_X4_41 kl_X4_37 wn_IllegalArgumentException hsa hno hlocks (hl.1.trans hml.symm) dX4_flight_45 dX4_flight_48 dX4_flight_49 dX4_flight_51 dX4_flight_54 (by decide) (by decide) (by decide) (by decide) (fun u t h => ⟨u, rfl, h⟩)
noncomputable def g_X4_flight_0  (z : xT) (v1 : Int32) (v2 : Int32) (v3 : Int32) : Option (String ⊕ (Int32 × xT)) := ((f_X4_checkAirline z v1).bind fun r => Option.elim r ((if v2 < 0 then g_X4_flight_16  z  else (if v2 < 240 then (if v3 < (if 0 < (v2 - 15) then (v2 - 15) else 0) then g_X4_flight_45  z  else (if v3 ≤ 300 then (if (z.2 0) < 60 then ((f_X1_add z v1 v2 v3).bind fun z84 => some (.inr (z84.1, z84.2))) else some (.inl "java/lang/IllegalStateException")) else g_X4_flight_45  z )) else g_X4_flight_16  z ))) (fun E => some (.inl E)))
set_option maxHeartbeats 4000000 in
set_option maxRecDepth 100000 in
theorem t_X4_flight_0 {p : Program} {l : Launch} {e : Env} {s : State} {m : MethodId} {args : Array Value} {below : List Frame} {meth : Method} {c : Code} {D : va_G} {q : Nat → Nat} {k : Nat → ClassId} {b : xT} {o : Nat → Int64} {z : xT} {y : String ⊕ (Int32 × xT)} (C : xCx p s m meth c cX4_flight 4 (some .int) RX4 D k) (hl0 : l.stackTraces = false) (hst : xSt s) (hP : va_P D vwCl (xw q k z b o) s.heap) (hD : va_D (va_A (xw q k z b o) s.heap.size) (xw q k z b o))  {v1 v2 v3 : Int32} {ls : Array Slot} (hl : lv_has ls 4 [(0, .ref (q 0)), (1, .int v1), (2, .int v2), (3, .int v3)]) (hf : g_X4_flight_0  z v1 v2 v3 = some y) : W p l e r_X4_flight s m args below meth c s.heap [] 0 0 (xMQ below (xQm D q k z b o (Sum.map id (fun z => (some (.int z.1), z.2, b)) y)) args s (xmm (Sum.map id (fun z => (some (.int z.1), z.2, b)) y)) (xmn (Sum.map id (fun z => (some (.int z.1), z.2, b)) y)) (xfr q k z b o s.heap.size (Sum.map id (fun z => (some (.int z.1), z.2, b)) y))) (F0 m 0 ls []) := by
  obtain ⟨hx, hb, hml, hr, hlocks, hown, hno, hG⟩ := C
  have hK := hG.1
  have hE := hG.2.1
  have hS : va_S (va_A (xw q k z b o) s.heap.size) s.heap s.heap [] := va_S.rf
  have hA : ∀ u, s.heap.size ≤ u → va_A (xw q k z b o) s.heap.size u := fun u h => Or.inr h
  unfold g_X4_flight_0 at hf
  refine lv_aload_n hx hb dX4_flight_0 rfl (lv_at hl 0 rfl) ?_
  refine lv_iload_n hx hb dX4_flight_1 rfl (lv_at hl 1 rfl) ?_
  obtain ⟨r2, hN, hf⟩ := xbind hf
  cases r2 with
  | some E =>
    replace hf : some (.inl E) = some y := hf
    cases hf
    exact xgo_t (xrunV (C := RX4) (As := [.int v1]) (rest := []) (xfixm fx_X4_checkAirline hx hb hml hown (by decide) (by decide) (by decide) (by decide)) hE ml_X4_63 wi_X4_checkAirline wz_X4_checkAirline wc_X4_checkAirline wn_X4 (c_X4_checkAirline l hl0 D q k z b o v1 _ hN) (va_recv (q := (RX4, TX4, 4)) (ci := 4) (q0 := 0) hK hP rfl rfl) (xpreT hP hD hG hst) rfl rfl hl.1 rfl (lv_room (Nat.le_of_ble_eq_true rfl)) dX4_flight_2) (fun u H1 ce h1 h2 h3 h4 h5 => xout hno hlocks (fun u t h => ⟨u, rfl, h⟩) h1 h2 h3 h4 h5)
  | none =>
    replace hf : (if v2 < 0 then g_X4_flight_16  z  else (if v2 < 240 then (if v3 < (if 0 < (v2 - 15) then (v2 - 15) else 0) then g_X4_flight_45  z  else (if v3 ≤ 300 then (if (z.2 0) < 60 then ((f_X1_add z v1 v2 v3).bind fun z84 => some (.inr (z84.1, z84.2))) else some (.inl "java/lang/IllegalStateException")) else g_X4_flight_45  z )) else g_X4_flight_16  z )) = some y := hf
    refine xgo_r (v := none) (xrunV (C := RX4) (As := [.int v1]) (rest := []) (xfixm fx_X4_checkAirline hx hb hml hown (by decide) (by decide) (by decide) (by decide)) hE ml_X4_63 wi_X4_checkAirline wz_X4_checkAirline wc_X4_checkAirline wn_X4 (c_X4_checkAirline l hl0 D q k z b o v1 _ hN) (va_recv (q := (RX4, TX4, 4)) (ci := 4) (q0 := 0) hK hP rfl rfl) (xpreT hP hD hG hst) rfl rfl hl.1 rfl (lv_room (Nat.le_of_ble_eq_true rfl)) dX4_flight_2) ?_
    refine lv_iload_n hx hb dX4_flight_5 rfl (lv_at hl 2 rfl) ?_
    refine lv_if_lt hx hb dX4_flight_6 rfl (fun hc => ?_) (fun hc => ?_)
    · rw [if_pos hc] at hf
      exact t_X4_flight_16 ⟨hx, hb, hml, hr, hlocks, hown, hno, hG⟩ hl0 hst hP hD  (lv_sub hl [] rfl) hf
    · rw [if_neg hc] at hf
      refine lv_iload_n hx hb dX4_flight_9 rfl (lv_at hl 2 rfl) ?_
      refine lv_sipush (v := 240) hx hb dX4_flight_10 (by decide) ?_
      refine lv_icmp_lt hx hb dX4_flight_13 rfl (fun hc => ?_) (fun hc => ?_)
      · rw [if_pos hc] at hf
        refine lv_iload_n hx hb dX4_flight_26 rfl (lv_at hl 3 rfl) ?_
        refine lv_iconst (v := 0) hx hb dX4_flight_27 (by decide) ?_
        refine lv_iload_n hx hb dX4_flight_28 rfl (lv_at hl 2 rfl) ?_
        refine lv_bipush (v := 15) hx hb dX4_flight_29 (by decide) ?_
        refine lv_isub hx hb dX4_flight_31 ?_
        refine va_mmax hx hb (hml.trans hl.1.symm) hown (hE _ ml_X4_69 rfl _) (hE _ wt_Mmax rfl _) (hE _ wn_Mmax rfl _) (hE _ wc_Mmax rfl _) (by decide) (Nat.le_of_ble_eq_true rfl) (by decide) (by decide) dX4_flight_32 ?_
        refine lv_icmp_lt hx hb dX4_flight_35 rfl (fun hc => ?_) (fun hc => ?_)
        · rw [if_pos hc] at hf
          exact t_X4_flight_45 ⟨hx, hb, hml, hr, hlocks, hown, hno, hG⟩ hl0 hst hP hD  (lv_sub hl [] rfl) hf
        · rw [if_neg hc] at hf
          refine lv_iload_n hx hb dX4_flight_38 rfl (lv_at hl 3 rfl) ?_
          refine lv_sipush (v := 300) hx hb dX4_flight_39 (by decide) ?_
          refine lv_icmp_le hx hb dX4_flight_42 rfl (fun hc => ?_) (fun hc => ?_)
          · rw [if_pos hc] at hf
            refine lv_aload_n hx hb dX4_flight_55 rfl (lv_at hl 0 rfl) ?_
            refine va_get (D := D) (ci := 4) (v := .ref (q 2)) (C := RX4) (T := TX4) (N := 4) hx hb (hwX4 hE) (fun _ h => h) hown hK hP 0 rfl rfl 1 (by decide) (hE _ fl_X4_19 rfl _) (fun _ h9 => h9) rfl dX4_flight_56 ?_
            refine va_get (D := D) (ci := 1) (v := .int (z.2 0)) (C := RX1) (T := TX1) (N := 8) hx hb (hwX1 hE) (fun _ h => h) hown hK hP 2 rfl rfl 7 (by decide) (hE _ fl_X4_77 rfl _) (fun _ h9 => h9) rfl dX4_flight_59 ?_
            refine lv_bipush (v := 60) hx hb dX4_flight_62 (by decide) ?_
            refine lv_icmp_lt hx hb dX4_flight_64 rfl (fun hc => ?_) (fun hc => ?_)
            · rw [if_pos hc] at hf
              refine lv_aload_n hx hb dX4_flight_77 rfl (lv_at hl 0 rfl) ?_
              refine va_get (D := D) (ci := 4) (v := .ref (q 2)) (C := RX4) (T := TX4) (N := 4) hx hb (hwX4 hE) (fun _ h => h) hown hK hP 0 rfl rfl 1 (by decide) (hE _ fl_X4_19 rfl _) (fun _ h9 => h9) rfl dX4_flight_78 ?_
              refine lv_iload_n hx hb dX4_flight_81 rfl (lv_at hl 1 rfl) ?_
              refine lv_iload_n hx hb dX4_flight_82 rfl (lv_at hl 2 rfl) ?_
              refine lv_iload_n hx hb dX4_flight_83 rfl (lv_at hl 3 rfl) ?_
              obtain ⟨z84, hN, hf⟩ := xbind hf
              refine xgo_m (v := some (.int z84.1)) (a1 := z84.2) (b1 := b) (xrunV (C := RX1) (As := [.int v1, .int v2, .int v3]) (rest := []) (xfixm fx_X1_add hx hb hml hown (by decide) (by decide) (by decide) (by decide)) hE ml_X4_83 wi_X1_add wz_X1_add wc_X1_add wn_X1 (c_X1_add l D q k _ z b o v1 v2 v3 _ hN) (va_recv (q := (RX1, TX1, 8)) (ci := 1) (q0 := 2) hK hP rfl rfl) (xprem hP hD hG) rfl rfl hl.1 rfl (lv_room (Nat.le_of_ble_eq_true rfl)) dX4_flight_84) hD hS hA (fun H locs hP hD hS => ?_)
              cases hf
              exact xretm_i hx hb hr hlocks hP hS dX4_flight_87
            · rw [if_neg hc] at hf
              cases hf
              obtain ⟨sa, hsa⟩ := hG.2.2 (RX4, 81, "no room for a flight") (by decide +kernel)
              exact xthrow (own := RX4) (cls := "java/lang/IllegalStateException") (text := "no room for a flight") (names := ["java/lang/RuntimeException", "java/lang/Exception"]) (ik := 50) (is := 81) (ic := 54) (sa := sa) hx hb hl0 hown hE hst (by decide +kernel) (by decide +kernel) tw_X4_54 kl_X4_50 wn_IllegalStateException hsa hno hlocks (hl.1.trans hml.symm) dX4_flight_67 dX4_flight_70 dX4_flight_71 dX4_flight_73 dX4_flight_76 (by decide) (by decide) (by decide) (by decide) (fun u t h => ⟨u, rfl, h⟩)
          · rw [if_neg hc] at hf
            exact t_X4_flight_45 ⟨hx, hb, hml, hr, hlocks, hown, hno, hG⟩ hl0 hst hP hD  (lv_sub hl [] rfl) hf
      · rw [if_neg hc] at hf
        exact t_X4_flight_16 ⟨hx, hb, hml, hr, hlocks, hown, hno, hG⟩ hl0 hst hP hD  (lv_sub hl [] rfl) hf
noncomputable def f_X4_flight (a : xT) (v1 : Int32) (v2 : Int32) (v3 : Int32) : Option (String ⊕ (Int32 × xT)) := g_X4_flight_0 a v1 v2 v3
set_option maxHeartbeats 4000000 in
set_option maxRecDepth 100000 in
theorem c_X4_flight (l : Launch) (hl0 : l.stackTraces = false) (D : va_G) (q : Nat → Nat) (k : Nat → ClassId) (sz : Nat) (a b : xT) (o : Nat → Int64) (v1 : Int32) (v2 : Int32) (v3 : Int32) (y : String ⊕ (Int32 × xT)) (hf : f_X4_flight a v1 v2 v3 = some y) : xMet l yX4_flight (.code yX4_flight cX4_flight 4 (some .int)) r_X4_flight (xPcTm D q k sz a b o [.ref (q 0), .int v1, .int v2, .int v3]) (xQm D q k a b o (Sum.map id (fun z => (some (.int z.1), z.2, b)) y)) (xmm (Sum.map id (fun z => (some (.int z.1), z.2, b)) y)) (xmn (Sum.map id (fun z => (some (.int z.1), z.2, b)) y)) (xfr q k a b o sz (Sum.map id (fun z => (some (.int z.1), z.2, b)) y)) := by
  refine xMet.ofW (by decide) ?_
  intro p e s m args below meth c hx hb hml hr hlocks hnm hme hno hv
  obtain ⟨rfl, hsz, hP, hD, hG, hst⟩ := hv
  subst hsz
  have hown : s.vm.findClass RX4 = some m.cls := findClass_of_methodNamed hnm
  have hl := lv_entry ([.ref (q 0), .int v1, .int v2, .int v3]) (n := 4) (Nat.le_of_ble_eq_true rfl)
  rw [lg_entry_eq]
  generalize (lg_sl ([.ref (q 0), .int v1, .int v2, .int v3]) ++ List.replicate (4 - (lg_sl ([.ref (q 0), .int v1, .int v2, .int v3])).length) Slot.unset).toArray = ls at hl ⊢
  have hl : lv_has ls 4 [(0, .ref (q 0)), (1, .int v1), (2, .int v2), (3, .int v3)] := hl
  have hD := hD.self (sz := s.heap.size)
  exact t_X4_flight_0 ⟨hx, hb, hml, hr, hlocks, hown, hno, hG⟩ hl0 hst hP hD hl hf
