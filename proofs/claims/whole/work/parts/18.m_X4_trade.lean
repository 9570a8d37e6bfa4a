abbrev r_X4_trade : Room := { frames := 5, cells := 0, slots := 0, locals := 114 }
noncomputable def g_X4_trade_31 (K4 : xT → Int32 → Int32 → Option (Int32 × xT)) (a : xT) (v1 : Int32) (v2 : Int32) : Option (Int32 × xT) := K4 a v1 (v2 + 1)
set_option maxHeartbeats 4000000 in
set_option maxRecDepth 100000 in
theorem t_X4_trade_31 {p : Program} {l : Launch} {e : Env} {s : State} {m : MethodId} {args : Array Value} {below : List Frame} {meth : Method} {c : Code} {D : va_G} {q : Nat → Nat} {k : Nat → ClassId} {a b : xT} {o : Nat → Int64} {z : xT} {y : Int32 × xT} (C : xCx p s m meth c cX4_trade 3 (some .int) RX4 D k) {H : Heap} {locs : List Loc} (hP : va_P D vwCl (xw q k a b o) H) (hD : va_D (va_A (xw q k z b o) s.heap.size) (xw q k a b o)) (hS : va_S (va_A (xw q k z b o) s.heap.size) s.heap H locs) {K4 : xT → Int32 → Int32 → Option (Int32 × xT)} (hK4 : ∀ {a : xT} {v1 v2 : Int32} {ls : Array Slot} {H : Heap} {locs : List Loc}, va_P D vwCl (xw q k a b o) H → va_D (va_A (xw q k z b o) s.heap.size) (xw q k a b o) → va_S (va_A (xw q k z b o) s.heap.size) s.heap H locs → lv_has ls 3 [(0, .ref (q 0)), (1, .int v1), (2, .int v2)] → K4 a v1 v2 = some y → W p l e r_X4_trade s m args below meth c H locs 0 0 (xMQ below (xQm D q k z b o (.inr (some (.int y.1), y.2, b))) args s 0 0 (va_A (xw q k z b o) s.heap.size)) (F0 m 4 ls [])) {v1 v2 : Int32} {ls : Array Slot} (hl : lv_has ls 3 [(0, .ref (q 0)), (1, .int v1), (2, .int v2)]) (hf : g_X4_trade_31 K4 a v1 v2 = some y) : W p l e r_X4_trade s m args below meth c H locs 0 0 (xMQ below (xQm D q k z b o (.inr (some (.int y.1), y.2, b))) args s 0 0 (va_A (xw q k z b o) s.heap.size)) (F0 m 31 ls []) := by
  obtain ⟨hx, hb, hml, hr, hlocks, hown, hno, hG⟩ := C
  have hK := hG.1
  have hE := hG.2.1
  have hA : ∀ u, s.heap.size ≤ u → va_A (xw q k z b o) s.heap.size u := fun u h => Or.inr h
  unfold g_X4_trade_31 at hf
  refine lv_iinc (k := 2) (v := v2 + 1) (lv' := [(2, .int (v2 + 1)), (0, .ref (q 0)), (1, .int v1)]) hx hb dX4_trade_31 hl rfl (xinc (by decide) _) (by decide) rfl (fun ls hl => ?_)
  refine lv_goto hx hb dX4_trade_34 rfl ?_
  exact hK4 hP hD hS (lv_sub hl [1, 2, 0] rfl) hf
noncomputable def g_X4_trade_4s (K4 : xT → Int32 → Int32 → Option (Int32 × xT)) (a : xT) (v1 : Int32) (v2 : Int32) : Option (Int32 × xT) := (if (a.2 1) ≤ v2 then some (v1, a) else ((f_X4_isGood a v2).bind fun r17 => (if r17 = 0 then g_X4_trade_31 K4 a v1 v2 else ((f_X4_carryOutIfPossible a v2).bind fun z26 => g_X4_trade_31 K4 z26.2 (v1 + z26.1) v2))))
set_option maxHeartbeats 4000000 in
set_option maxRecDepth 100000 in
theorem t_X4_trade_4s {p : Program} {l : Launch} {e : Env} {s : State} {m : MethodId} {args : Array Value} {below : List Frame} {meth : Method} {c : Code} {D : va_G} {q : Nat → Nat} {k : Nat → ClassId} {a b : xT} {o : Nat → Int64} {z : xT} {y : Int32 × xT} (C : xCx p s m meth c cX4_trade 3 (some .int) RX4 D k) {H : Heap} {locs : List Loc} (hP : va_P D vwCl (xw q k a b o) H) (hD : va_D (va_A (xw q k z b o) s.heap.size) (xw q k a b o)) (hS : va_S (va_A (xw q k z b o) s.heap.size) s.heap H locs) {K4 : xT → Int32 → Int32 → Option (Int32 × xT)} (hK4 : ∀ {a : xT} {v1 v2 : Int32} {ls : Array Slot} {H : Heap} {locs : List Loc}, va_P D vwCl (xw q k a b o) H → va_D (va_A (xw q k z b o) s.heap.size) (xw q k a b o) → va_S (va_A (xw q k z b o) s.heap.size) s.heap H locs → lv_has ls 3 [(0, .ref (q 0)), (1, .int v1), (2, .int v2)] → K4 a v1 v2 = some y → W p l e r_X4_trade s m args below meth c H locs 0 0 (xMQ below (xQm D q k z b o (.inr (some (.int y.1), y.2, b))) args s 0 0 (va_A (xw q k z b o) s.heap.size)) (F0 m 4 ls [])) {v1 v2 : Int32} {ls : Array Slot} (hl : lv_has ls 3 [(0, .ref (q 0)), (1, .int v1), (2, .int v2)]) (hf : g_X4_trade_4s K4 a v1 v2 = some y) : W p l e r_X4_trade s m args below meth c H locs 0 0 (xMQ below (xQm D q k z b o (.inr (some (.int y.1), y.2, b))) args s 0 0 (va_A (xw q k z b o) s.heap.size)) (F0 m 4 ls []) := by
  obtain ⟨hx, hb, hml, hr, hlocks, hown, hno, hG⟩ := C
  have hK := hG.1
  have hE := hG.2.1
  have hA : ∀ u, s.heap.size ≤ u → va_A (xw q k z b o) s.heap.size u := fun u h => Or.inr h
  unfold g_X4_trade_4s at hf
  refine lv_iload_n hx hb dX4_trade_4 rfl (lv_at hl 2 rfl) ?_
  refine lv_aload_n hx hb dX4_trade_5 rfl (lv_at hl 0 rfl) ?_
  refine va_get (D := D) (ci := 4) (v := .ref (q 3)) (C := RX4) (T := TX4) (N := 4) hx hb (hwX4 hE) (fun _ h => h) hown hK hP 0 rfl rfl 2 (by decide) (hE _ fl_X4_26 rfl _) (fun _ h9 => h9) rfl dX4_trade_6 ?_
  refine va_get (D := D) (ci := 2) (v := .int (a.2 1)) (C := RX2) (T := TX2) (N := 5) hx hb (hwX2 hE) (fun _ h => h) hown hK hP 3 rfl rfl 4 (by decide) (hE _ fl_X4_146 rfl _) (fun _ h9 => h9) rfl dX4_trade_9 ?_
  refine lv_icmp_ge hx hb dX4_trade_12 rfl (fun hc => ?_) (fun hc => ?_)
  · rw [if_pos hc] at hf
    refine lv_iload_n hx hb dX4_trade_37 rfl (lv_at hl 1 rfl) ?_
    cases hf
    exact xretm_i hx hb hr hlocks hP hS dX4_trade_38
  · rw [if_neg hc] at hf
    refine lv_aload_n hx hb dX4_trade_15 rfl (lv_at hl 0 rfl) ?_
    refine lv_iload_n hx hb dX4_trade_16 rfl (lv_at hl 2 rfl) ?_
    obtain ⟨r17, hN, hf⟩ := xbind hf
    refine xgo_r (v := some (.int r17)) (xrunV (C := RX4) (As := [.int v2]) (rest := []) (xfixm fx_X4_isGood hx hb hml hown (by decide) (by decide) (by decide) (by decide)) hE ml_X4_155 wi_X4_isGood wz_X4_isGood wc_X4_isGood wn_X4 (c_X4_isGood l D q k a b o v2 _ hN) (va_recv (q := (RX4, TX4, 4)) (ci := 4) (q0 := 0) hK hP rfl rfl) (xpre hP hD hG) rfl rfl hl.1 rfl (lv_room (Nat.le_of_ble_eq_true rfl)) dX4_trade_17) ?_
    refine lv_if_eq hx hb dX4_trade_20 rfl (fun hc => ?_) (fun hc => ?_)
    · rw [if_pos hc] at hf
      exact t_X4_trade_31 ⟨hx, hb, hml, hr, hlocks, hown, hno, hG⟩ hP hD hS hK4 (lv_sub hl [0, 1, 2] rfl) hf
    · rw [if_neg hc] at hf
      refine lv_iload_n hx hb dX4_trade_23 rfl (lv_at hl 1 rfl) ?_
      refine lv_aload_n hx hb dX4_trade_24 rfl (lv_at hl 0 rfl) ?_
      refine lv_iload_n hx hb dX4_trade_25 rfl (lv_at hl 2 rfl) ?_
      obtain ⟨z26, hN, hf⟩ := xbind hf
      refine xgo_m (v := some (.int z26.1)) (a1 := z26.2) (b1 := b) (xrunV (C := RX4) (As := [.int v2]) (rest := [.int v1]) (xfixm fx_X4_carryOutIfPossible hx hb hml hown (by decide) (by decide) (by decide) (by decide)) hE ml_X4_159 wi_X4_carryOutIfPossible wz_X4_carryOutIfPossible wc_X4_carryOutIfPossible wn_X4 (c_X4_carryOutIfPossible l D q k _ a b o v2 _ hN) (va_recv (q := (RX4, TX4, 4)) (ci := 4) (q0 := 0) hK hP rfl rfl) (xprem hP hD hG) rfl rfl hl.1 rfl (lv_room (Nat.le_of_ble_eq_true rfl)) dX4_trade_26) hD hS hA (fun H locs hP hD hS => ?_)
      refine lv_iadd hx hb dX4_trade_29 ?_
      refine lv_istore_n (lv' := [(1, .int (v1 + z26.1)), (0, .ref (q 0)), (2, .int v2)]) hx hb dX4_trade_30 rfl hl (by decide) rfl (fun ls hl => ?_)
      exact t_X4_trade_31 ⟨hx, hb, hml, hr, hlocks, hown, hno, hG⟩ hP hD hS hK4 (lv_sub hl [1, 0, 2] rfl) hf
noncomputable def g_X4_trade_4  : Nat → xT → Int32 → Int32 → Option (Int32 × xT) := fun n => Nat.rec (motive := fun _ => xT → Int32 → Int32 → Option (Int32 × xT)) (fun _ _ _ => none) (fun _ ih => g_X4_trade_4s ih) n
set_option maxHeartbeats 4000000 in
theorem t_X4_trade_4 {p : Program} {l : Launch} {e : Env} {s : State} {m : MethodId} {args : Array Value} {below : List Frame} {meth : Method} {c : Code} {D : va_G} {q : Nat → Nat} {k : Nat → ClassId} {b : xT} {o : Nat → Int64} {z : xT} {y : Int32 × xT} (C : xCx p s m meth c cX4_trade 3 (some .int) RX4 D k)  (n : Nat) : ∀ {a : xT} {v1 v2 : Int32} {ls : Array Slot} {H : Heap} {locs : List Loc}, va_P D vwCl (xw q k a b o) H → va_D (va_A (xw q k z b o) s.heap.size) (xw q k a b o) → va_S (va_A (xw q k z b o) s.heap.size) s.heap H locs → lv_has ls 3 [(0, .ref (q 0)), (1, .int v1), (2, .int v2)] → g_X4_trade_4  n a v1 v2 = some y → W p l e r_X4_trade s m args below meth c H locs 0 0 (xMQ below (xQm D q k z b o (.inr (some (.int y.1), y.2, b))) args s 0 0 (va_A (xw q k z b o) s.heap.size)) (F0 m 4 ls []) := by
  induction n with
  | zero =>
    intro _ _ _ _ _ _ _ _ _ _ hf
    have h9 : (none : Option (Int32 × xT)) = some y := hf
    cases h9
  | succ n ih =>
    intro _ _ _ _ _ _ hP hD hS hl hf
    exact t_X4_trade_4s C hP hD hS (K4 := g_X4_trade_4  n) ih hl hf
noncomputable def g_X4_trade_0  (a : xT)  : Option (Int32 × xT) := g_X4_trade_4  1000 a 0 0
set_option maxHeartbeats 4000000 in
set_option maxRecDepth 100000 in
theorem t_X4_trade_0 {p : Program} {l : Launch} {e : Env} {s : State} {m : MethodId} {args : Array Value} {below : List Frame} {meth : Method} {c : Code} {D : va_G} {q : Nat → Nat} {k : Nat → ClassId} {a b : xT} {o : Nat → Int64} {z : xT} {y : Int32 × xT} (C : xCx p s m meth c cX4_trade 3 (some .int) RX4 D k) {H : Heap} {locs : List Loc} (hP : va_P D vwCl (xw q k a b o) H) (hD : va_D (va_A (xw q k z b o) s.heap.size) (xw q k a b o)) (hS : va_S (va_A (xw q k z b o) s.heap.size) s.heap H locs)  {ls : Array Slot} (hl : lv_has ls 3 [(0, .ref (q 0))]) (hf : g_X4_trade_0  a  = some y) : W p l e r_X4_trade s m args below meth c H locs 0 0 (xMQ below (xQm D q k z b o (.inr (some (.int y.1), y.2, b))) args s 0 0 (va_A (xw q k z b o) s.heap.size)) (F0 m 0 ls []) := by
  obtain ⟨hx, hb, hml, hr, hlocks, hown, hno, hG⟩ := C
  have hK := hG.1
  have hE := hG.2.1
  have hA : ∀ u, s.heap.size ≤ u → va_A (xw q k z b o) s.heap.size u := fun u h => Or.inr h
  unfold g_X4_trade_0 at hf
  refine lv_iconst (v := 0) hx hb dX4_trade_0 (by decide) ?_
  refine lv_istore_n (lv' := [(1, .int 0), (0, .ref (q 0))]) hx hb dX4_trade_1 rfl hl (by decide) rfl (fun ls hl => ?_)
  refine lv_iconst (v := 0) hx hb dX4_trade_2 (by decide) ?_
  refine lv_istore_n (lv' := [(2, .int 0), (1, .int 0), (0, .ref (q 0))]) hx hb dX4_trade_3 rfl hl (by decide) rfl (fun ls hl => ?_)
  exact t_X4_trade_4 ⟨hx, hb, hml, hr, hlocks, hown, hno, hG⟩  1000 hP hD hS (lv_sub hl [2, 1, 0] rfl) hf
noncomputable def f_X4_trade (a : xT)  : Option (Int32 × xT) := g_X4_trade_0 a 
set_option maxHeartbeats 4000000 in
set_option maxRecDepth 100000 in
theorem c_X4_trade (l : Launch) (D : va_G) (q : Nat → Nat) (k : Nat → ClassId) (sz : Nat) (a b : xT) (o : Nat → Int64)  (y : Int32 × xT) (hf : f_X4_trade a  = some y) : xMet l yX4_trade (.code yX4_trade cX4_trade 3 (some .int)) r_X4_trade (xPcm D q k sz a b o [.ref (q 0)]) (xQm D q k a b o (.inr (some (.int y.1), y.2, b))) 0 0 (va_A (xw q k a b o) sz) := by
  refine xMet.ofW (by decide) ?_
  intro p e s m args below meth c hx hb hml hr hlocks hnm hme hno hv
  obtain ⟨rfl, hsz, hP, hD, hG⟩ := hv
  subst hsz
  have hown : s.vm.findClass RX4 = some m.cls := findClass_of_methodNamed hnm
  have hl := lv_entry ([.ref (q 0)]) (n := 3) (Nat.le_of_ble_eq_true rfl)
  rw [lg_entry_eq]
  generalize (lg_sl ([.ref (q 0)]) ++ List.replicate (3 - (lg_sl ([.ref (q 0)])).length) Slot.unset).toArray = ls at hl ⊢
  have hl : lv_has ls 3 [(0, .ref (q 0))] := hl
  have hD := hD.self (sz := s.heap.size)
  exact t_X4_trade_0 ⟨hx, hb, hml, hr, hlocks, hown, hno, hG⟩ hP hD va_S.rf hl hf
abbrev r_X5_isFlight : Room := { frames := 0, cells := 0, slots := 0, locals := 0 }
noncomputable def g_X5_isFlight_17  (b : xT) (s0 : Int32) : Option (Int32) := (if xzb s0 = true then some s0 else none)
set_option maxHeartbeats 4000000 in
set_option maxRecDepth 100000 in
theorem t_X5_isFlight_17 {p : Program} {l : Launch} {e : Env} {s : State} {m : MethodId} {args : Array Value} {below : List Frame} {meth : Method} {c : Code} {D : va_G} {q : Nat → Nat} {k : Nat → ClassId} {a b : xT} {o : Nat → Int64} {y : Int32} (C : xCx p s m meth c cX5_isFlight 2 (some .boolean) RX5 D k) (hP : va_P D vwCl (xw q k a b o) s.heap) (hD : va_D (fun _ => True) (xw q k a b o))  {s0 : Int32} {ls : Array Slot} (hl : lv_has ls 2 []) (hf : g_X5_isFlight_17  b s0 = some y) : W p l e r_X5_isFlight s m args below meth c s.heap [] 0 0 (xMQ below (xQr (.inr (some (.int y)))) args s (xmc (.inr (some (.int y)))) (xms (.inr (some (.int y)))) (fun _ => False)) (F0 m 17 ls [.int s0]) := by
  obtain ⟨hx, hb, hml, hr, hlocks, hown, hno, hG⟩ := C
  have hK := hG.1
  have hE := hG.2.1
  unfold g_X5_isFlight_17 at hf
  obtain ⟨hz, hf⟩ := xguz hf
  cases hf
  exact xret_z hx hb hr hz hlocks dX5_isFlight_17
noncomputable def g_X5_isFlight_16  (b : xT)  : Option (Int32) := g_X5_isFlight_17  b 0
set_option maxHeartbeats 4000000 in
set_option maxRecDepth 100000 in
theorem t_X5_isFlight_16 {p : Program} {l : Launch} {e : Env} {s : State} {m : MethodId} {args : Array Value} {below : List Frame} {meth : Method} {c : Code} {D : va_G} {q : Nat → Nat} {k : Nat → ClassId} {a b : xT} {o : Nat → Int64} {y : Int32} (C : xCx p s m meth c cX5_isFlight 2 (some .boolean) RX5 D k) (hP : va_P D vwCl (xw q k a b o) s.heap) (hD : va_D (fun _ => True) (xw q k a b o))  {ls : Array Slot} (hl : lv_has ls 2 []) (hf : g_X5_isFlight_16  b  = some y) : W p l e r_X5_isFlight s m args below meth c s.heap [] 0 0 (xMQ below (xQr (.inr (some (.int y)))) args s (xmc (.inr (some (.int y)))) (xms (.inr (some (.int y)))) (fun _ => False)) (F0 m 16 ls []) := by
  obtain ⟨hx, hb, hml, hr, hlocks, hown, hno, hG⟩ := C
  have hK := hG.1
  have hE := hG.2.1
  unfold g_X5_isFlight_16 at hf
  refine lv_iconst (v := 0) hx hb dX5_isFlight_16 (by decide) ?_
  exact t_X5_isFlight_17 ⟨hx, hb, hml, hr, hlocks, hown, hno, hG⟩ hP hD  (lv_sub hl [] rfl) hf
noncomputable def g_X5_isFlight_0  (b : xT) (v1 : Int32) : Option (Int32) := (if v1 < 0 then g_X5_isFlight_16  b  else (if (b.2 1) ≤ v1 then g_X5_isFlight_16  b  else g_X5_isFlight_17  b 1))
set_option maxHeartbeats 4000000 in
set_option maxRecDepth 100000 in
theorem t_X5_isFlight_0 {p : Program} {l : Launch} {e : Env} {s : State} {m : MethodId} {args : Array Value} {below : List Frame} {meth : Method} {c : Code} {D : va_G} {q : Nat → Nat} {k : Nat → ClassId} {a b : xT} {o : Nat → Int64} {y : Int32} (C : xCx p s m meth c cX5_isFlight 2 (some .boolean) RX5 D k) (hP : va_P D vwCl (xw q k a b o) s.heap) (hD : va_D (fun _ => True) (xw q k a b o))  {v1 : Int32} {ls : Array Slot} (hl : lv_has ls 2 [(0, .ref (q 23)), (1, .int v1)]) (hf : g_X5_isFlight_0  b v1 = some y) : W p l e r_X5_isFlight s m args below meth c s.heap [] 0 0 (xMQ below (xQr (.inr (some (.int y)))) args s (xmc (.inr (some (.int y)))) (xms (.inr (some (.int y)))) (fun _ => False)) (F0 m 0 ls []) := by
  obtain ⟨hx, hb, hml, hr, hlocks, hown, hno, hG⟩ := C
  have hK := hG.1
  have hE := hG.2.1
  unfold g_X5_isFlight_0 at hf
  refine lv_iload_n hx hb dX5_isFlight_0 rfl (lv_at hl 1 rfl) ?_
  refine lv_if_lt hx hb dX5_isFlight_1 rfl (fun hc => ?_) (fun hc => ?_)
  · rw [if_pos hc] at hf
    exact t_X5_isFlight_16 ⟨hx, hb, hml, hr, hlocks, hown, hno, hG⟩ hP hD  (lv_sub hl [] rfl) hf
  · rw [if_neg hc] at hf
    refine lv_iload_n hx hb dX5_isFlight_4 rfl (lv_at hl 1 rfl) ?_
    refine lv_aload_n hx hb dX5_isFlight_5 rfl (lv_at hl 0 rfl) ?_
    refine va_get (D := D) (ci := 5) (v := .int (b.2 1)) (C := RX5) (T := TX5) (N := 19) hx hb (hwX5 hE) (fun _ h => h) hown hK hP 23 rfl rfl 4 (by decide) (hE _ fl_X5_60 rfl _) (fun _ h9 => h9) rfl dX5_isFlight_6 ?_
    refine lv_icmp_ge hx hb dX5_isFlight_9 rfl (fun hc => ?_) (fun hc => ?_)
    · rw [if_pos hc] at hf
      exact t_X5_isFlight_16 ⟨hx, hb, hml, hr, hlocks, hown, hno, hG⟩ hP hD  (lv_sub hl [] rfl) hf
    · rw [if_neg hc] at hf
      refine lv_iconst (v := 1) hx hb dX5_isFlight_12 (by decide) ?_
      refine lv_goto hx hb dX5_isFlight_13 rfl ?_
      exact t_X5_isFlight_17 ⟨hx, hb, hml, hr, hlocks, hown, hno, hG⟩ hP hD  (lv_sub hl [] rfl) hf
noncomputable def f_X5_isFlight (b : xT) (v1 : Int32) : Option (Int32) := g_X5_isFlight_0 b v1
set_option maxHeartbeats 4000000 in
set_option maxRecDepth 100000 in
theorem c_X5_isFlight (l : Launch) (D : va_G) (q : Nat → Nat) (k : Nat → ClassId) (a b : xT) (o : Nat → Int64) (v1 : Int32) (y : Int32) (hf : f_X5_isFlight b v1 = some y) : xMet l yX5_isFlight (.code yX5_isFlight cX5_isFlight 2 (some .boolean)) r_X5_isFlight (xPc D q k a b o [.ref (q 23), .int v1]) (xQr (.inr (some (.int y)))) (xmc (.inr (some (.int y)))) (xms (.inr (some (.int y)))) (fun _ => False) := by
  refine xMet.ofW (by decide) ?_
  intro p e s m args below meth c hx hb hml hr hlocks hnm hme hno hv
  obtain ⟨rfl, hP, hD, hG⟩ := hv
  have hown : s.vm.findClass RX5 = some m.cls := findClass_of_methodNamed hnm
  have hl := lv_entry ([.ref (q 23), .int v1]) (n := 2) (Nat.le_of_ble_eq_true rfl)
  rw [lg_entry_eq]
  generalize (lg_sl ([.ref (q 23), .int v1]) ++ List.replicate (2 - (lg_sl ([.ref (q 23), .int v1])).length) Slot.unset).toArray = ls at hl ⊢
  have hl : lv_has ls 2 [(0, .ref (q 23)), (1, .int v1)] := hl
  exact t_X5_isFlight_0 ⟨hx, hb, hml, hr, hlocks, hown, hno, hG⟩ hP hD hl hf
abbrev r_X5_airborne : Room := { frames := 1, cells := 0, slots := 0, locals := 21 }
noncomputable def g_X5_airborne_53  (b : xT)  : Option (xT) := some b
set_option maxHeartbeats 4000000 in
set_option maxRecDepth 100000 in
theorem t_X5_airborne_53 {p : Program} {l : Launch} {e : Env} {s : State} {m : MethodId} {args : Array Value} {below : List Frame} {meth : Method} {c : Code} {D : va_G} {q : Nat → Nat} {k : Nat → ClassId} {a b : xT} {o : Nat → Int64} {z : xT} {y : xT} (C : xCx p s m meth c cX5_airborne 2 none RX5 D k) {H : Heap} {locs : List Loc} (hP : va_P D vwCl (xw q k a b o) H) (hD : va_D (va_A (xw q k a z o) s.heap.size) (xw q k a b o)) (hS : va_S (va_A (xw q k a z o) s.heap.size) s.heap H locs)  {ls : Array Slot} (hl : lv_has ls 2 []) (hf : g_X5_airborne_53  b  = some y) : W p l e r_X5_airborne s m args below meth c H locs 0 0 (xMQ below (xQm D q k a z o (.inr (none, a, y))) args s 0 0 (va_A (xw q k a z o) s.heap.size)) (F0 m 53 ls []) := by
  obtain ⟨hx, hb, hml, hr, hlocks, hown, hno, hG⟩ := C
  have hK := hG.1
  have hE := hG.2.1
  have hA : ∀ u, s.heap.size ≤ u → va_A (xw q k a z o) s.heap.size u := fun u h => Or.inr h
  unfold g_X5_airborne_53 at hf
  cases hf
  exact xretm_v hx hb hr hlocks hP hS dX5_airborne_53
noncomputable def g_X5_airborne_39  (b : xT) (v1 : Int32) : Option (xT) := (if (b.2 0) = 0 then (if xin v1 60 = true then g_X5_airborne_53  (xs b 8 v1.toNatClampNeg (vp_nar .boolean 1))  else none) else g_X5_airborne_53  b )
set_option maxHeartbeats 4000000 in
set_option maxRecDepth 100000 in
theorem t_X5_airborne_39 {p : Program} {l : Launch} {e : Env} {s : State} {m : MethodId} {args : Array Value} {below : List Frame} {meth : Method} {c : Code} {D : va_G} {q : Nat → Nat} {k : Nat → ClassId} {a b : xT} {o : Nat → Int64} {z : xT} {y : xT} (C : xCx p s m meth c cX5_airborne 2 none RX5 D k) {H : Heap} {locs : List Loc} (hP : va_P D vwCl (xw q k a b o) H) (hD : va_D (va_A (xw q k a z o) s.heap.size) (xw q k a b o)) (hS : va_S (va_A (xw q k a z o) s.heap.size) s.heap H locs)  {v1 : Int32} {ls : Array Slot} (hl : lv_has ls 2 [(0, .ref (q 23)), (1, .int v1)]) (hf : g_X5_airborne_39  b v1 = some y) : W p l e r_X5_airborne s m args below meth c H locs 0 0 (xMQ below (xQm D q k a z o (.inr (none, a, y))) args s 0 0 (va_A (xw q k a z o) s.heap.size)) (F0 m 39 ls []) := by
  obtain ⟨hx, hb, hml, hr, hlocks, hown, hno, hG⟩ := C
  have hK := hG.1
  have hE := hG.2.1
  have hA : ∀ u, s.heap.size ≤ u → va_A (xw q k a z o) s.heap.size u := fun u h => Or.inr h
  unfold g_X5_airborne_39 at hf
  refine lv_aload_n hx hb dX5_airborne_39 rfl (lv_at hl 0 rfl) ?_
  refine va_get (D := D) (ci := 5) (v := .int (b.2 0)) (C := RX5) (T := TX5) (N := 19) hx hb (hwX5 hE) (fun _ h => h) hown hK hP 23 rfl rfl 0 (by decide) (hE _ fl_X5_56 rfl _) (fun _ h9 => h9) rfl dX5_airborne_40 ?_
  refine lv_if_ne hx hb dX5_airborne_43 rfl (fun hc => ?_) (fun hc => ?_)
  · rw [if_neg hc] at hf
    exact t_X5_airborne_53 ⟨hx, hb, hml, hr, hlocks, hown, hno, hG⟩ hP hD hS  (lv_sub hl [] rfl) hf
  · rw [if_pos hc] at hf
    refine lv_aload_n hx hb dX5_airborne_46 rfl (lv_at hl 0 rfl) ?_
    refine va_get (D := D) (ci := 5) (v := .ref (q 32)) (C := RX5) (T := TX5) (N := 19) hx hb (hwX5 hE) (fun _ h => h) hown hK hP 23 rfl rfl 10 (by decide) (hE _ fl_X5_35 rfl _) (fun _ h9 => h9) rfl dX5_airborne_47 ?_
    refine lv_iload_n hx hb dX5_airborne_50 rfl (lv_at hl 1 rfl) ?_
    refine lv_iconst (v := 1) hx hb dX5_airborne_51 (by decide) ?_
    obtain ⟨hin, hf⟩ := xguard hf
    refine va_zast hx hb hK hP hD hS 32 1 rfl rfl hin dX5_airborne_52 (fun H locs hP hD hS => ?_)
    rw [xw_s32] at hP hD
    exact t_X5_airborne_53 ⟨hx, hb, hml, hr, hlocks, hown, hno, hG⟩ hP hD hS  (lv_sub hl [] rfl) hf
noncomputable def g_X5_airborne_36  (b : xT) (v1 : Int32) (s1 : Int32) : Option (xT) := g_X5_airborne_39  (xn b 0 s1) v1
set_option maxHeartbeats 4000000 in
set_option maxRecDepth 100000 in
theorem t_X5_airborne_36 {p : Program} {l : Launch} {e : Env} {s : State} {m : MethodId} {args : Array Value} {below : List Frame} {meth : Method} {c : Code} {D : va_G} {q : Nat → Nat} {k : Nat → ClassId} {a b : xT} {o : Nat → Int64} {z : xT} {y : xT} (C : xCx p s m meth c cX5_airborne 2 none RX5 D k) {H : Heap} {locs : List Loc} (hP : va_P D vwCl (xw q k a b o) H) (hD : va_D (va_A (xw q k a z o) s.heap.size) (xw q k a b o)) (hS : va_S (va_A (xw q k a z o) s.heap.size) s.heap H locs)  {v1 s1 : Int32} {ls : Array Slot} (hl : lv_has ls 2 [(0, .ref (q 23)), (1, .int v1)]) (hf : g_X5_airborne_36  b v1 s1 = some y) : W p l e r_X5_airborne s m args below meth c H locs 0 0 (xMQ below (xQm D q k a z o (.inr (none, a, y))) args s 0 0 (va_A (xw q k a z o) s.heap.size)) (F0 m 36 ls [.int s1, .ref (q 23)]) := by
  obtain ⟨hx, hb, hml, hr, hlocks, hown, hno, hG⟩ := C
  have hK := hG.1
  have hE := hG.2.1
  have hA : ∀ u, s.heap.size ≤ u → va_A (xw q k a z o) s.heap.size u := fun u h => Or.inr h
  unfold g_X5_airborne_36 at hf
  refine va_put (D := D) (ci := 5) (v := .int s1) (ty := .int) (C := RX5) (T := TX5) (N := 19) hx hb (hwX5 hE) (fun _ h => h) tyX5 tyX5_ok nmX5 hown hK hP hD hS 23 rfl rfl 0 (by decide) (hE _ fl_X5_56 rfl _) (fun _ h9 => h9) rfl (by decide +kernel) rfl rfl (Nat.le_of_ble_eq_true rfl) dX5_airborne_36 (fun H locs hP hD hS => ?_)
  rw [xw_n23_0] at hP hD
  exact t_X5_airborne_39 ⟨hx, hb, hml, hr, hlocks, hown, hno, hG⟩ hP hD hS  (lv_sub hl [0, 1] rfl) hf
noncomputable def g_X5_airborne_31  (b : xT) (v1 : Int32) : Option (xT) := g_X5_airborne_36  b v1 2
set_option maxHeartbeats 4000000 in
set_option maxRecDepth 100000 in
theorem t_X5_airborne_31 {p : Program} {l : Launch} {e : Env} {s : State} {m : MethodId} {args : Array Value} {below : List Frame} {meth : Method} {c : Code} {D : va_G} {q : Nat → Nat} {k : Nat → ClassId} {a b : xT} {o : Nat → Int64} {z : xT} {y : xT} (C : xCx p s m meth c cX5_airborne 2 none RX5 D k) {H : Heap} {locs : List Loc} (hP : va_P D vwCl (xw q k a b o) H) (hD : va_D (va_A (xw q k a z o) s.heap.size) (xw q k a b o)) (hS : va_S (va_A (xw q k a z o) s.heap.size) s.heap H locs)  {v1 : Int32} {ls : Array Slot} (hl : lv_has ls 2 [(0, .ref (q 23)), (1, .int v1)]) (hf : g_X5_airborne_31  b v1 = some y) : W p l e r_X5_airborne s m args below meth c H locs 0 0 (xMQ below (xQm D q k a z o (.inr (none, a, y))) args s 0 0 (va_A (xw q k a z o) s.heap.size)) (F0 m 31 ls [.ref (q 23)]) := by
  obtain ⟨hx, hb, hml, hr, hlocks, hown, hno, hG⟩ := C
  have hK := hG.1
  have hE := hG.2.1
  have hA : ∀ u, s.heap.size ≤ u → va_A (xw q k a z o) s.heap.size u := fun u h => Or.inr h
  unfold g_X5_airborne_31 at hf
  refine lv_iconst (v := 2) hx hb dX5_airborne_31 (by decide) ?_
  refine lv_goto hx hb dX5_airborne_32 rfl ?_
  exact t_X5_airborne_36 ⟨hx, hb, hml, hr, hlocks, hown, hno, hG⟩ hP hD hS  (lv_sub hl [0, 1] rfl) hf
noncomputable def g_X5_airborne_0  (b : xT) (v1 : Int32) : Option (xT) := ((f_X5_isFlight b v1).bind fun r3 => (if r3 = 0 then g_X5_airborne_36  b v1 1 else (if xin v1 60 = true then (if (b.1 8 v1.toNatClampNeg) = 0 then (if xin v1 60 = true then (if 0 ≤ (b.1 6 v1.toNatClampNeg) then g_X5_airborne_36  b v1 0 else g_X5_airborne_31  b v1) else none) else g_X5_airborne_31  b v1) else none)))
set_option maxHeartbeats 4000000 in
set_option maxRecDepth 100000 in
theorem t_X5_airborne_0 {p : Program} {l : Launch} {e : Env} {s : State} {m : MethodId} {args : Array Value} {below : List Frame} {meth : Method} {c : Code} {D : va_G} {q : Nat → Nat} {k : Nat → ClassId} {a b : xT} {o : Nat → Int64} {z : xT} {y : xT} (C : xCx p s m meth c cX5_airborne 2 none RX5 D k) {H : Heap} {locs : List Loc} (hP : va_P D vwCl (xw q k a b o) H) (hD : va_D (va_A (xw q k a z o) s.heap.size) (xw q k a b o)) (hS : va_S (va_A (xw q k a z o) s.heap.size) s.heap H locs)  {v1 : Int32} {ls : Array Slot} (hl : lv_has ls 2 [(0, .ref (q 23)), (1, .int v1)]) (hf : g_X5_airborne_0  b v1 = some y) : W p l e r_X5_airborne s m args below meth c H locs 0 0 (xMQ below (xQm D q k a z o (.inr (none, a, y))) args s 0 0 (va_A (xw q k a z o) s.heap.size)) (F0 m 0 ls []) := by
  obtain ⟨hx, hb, hml, hr, hlocks, hown, hno, hG⟩ := C
  have hK := hG.1
  have hE := hG.2.1
  have hA : ∀ u, s.heap.size ≤ u → va_A (xw q k a z o) s.heap.size u := fun u h => Or.inr h
  unfold g_X5_airborne_0 at hf
  refine lv_aload_n hx hb dX5_airborne_0 rfl (lv_at hl 0 rfl) ?_
  refine lv_aload_n hx hb dX5_airborne_1 rfl (lv_at hl 0 rfl) ?_
  refine lv_iload_n hx hb dX5_airborne_2 rfl (lv_at hl 1 rfl) ?_
  obtain ⟨r3, hN, hf⟩ := xbind hf
  refine xgo_r (v := some (.int r3)) (xrunV (C := RX5) (As := [.int v1]) (rest := [.ref (q 23)]) (xfixm fx_X5_isFlight hx hb hml hown (by decide) (by decide) (by decide) (by decide)) hE ml_X5_91 wi_X5_isFlight wz_X5_isFlight wc_X5_isFlight wn_X5 (c_X5_isFlight l D q k a b o v1 _ hN) (va_recv (q := (RX5, TX5, 19)) (ci := 5) (q0 := 23) hK hP rfl rfl) (xpre hP hD hG) rfl rfl hl.1 rfl (lv_room (Nat.le_of_ble_eq_true rfl)) dX5_airborne_3) ?_
  refine lv_if_ne hx hb dX5_airborne_6 rfl (fun hc => ?_) (fun hc => ?_)
  · rw [if_neg hc] at hf
    refine lv_aload_n hx hb dX5_airborne_13 rfl (lv_at hl 0 rfl) ?_
    refine va_get (D := D) (ci := 5) (v := .ref (q 32)) (C := RX5) (T := TX5) (N := 19) hx hb (hwX5 hE) (fun _ h => h) hown hK hP 23 rfl rfl 10 (by decide) (hE _ fl_X5_35 rfl _) (fun _ h9 => h9) rfl dX5_airborne_14 ?_
    refine lv_iload_n hx hb dX5_airborne_17 rfl (lv_at hl 1 rfl) ?_
    obtain ⟨hin, hf⟩ := xguard hf
    refine va_zald hx hb hK hP 32 1 rfl rfl hin dX5_airborne_18 ?_
    refine lv_if_ne hx hb dX5_airborne_19 rfl (fun hc => ?_) (fun hc => ?_)
    · rw [if_neg hc] at hf
      exact t_X5_airborne_31 ⟨hx, hb, hml, hr, hlocks, hown, hno, hG⟩ hP hD hS  (lv_sub hl [0, 1] rfl) hf
    · rw [if_pos hc] at hf
      refine lv_aload_n hx hb dX5_airborne_22 rfl (lv_at hl 0 rfl) ?_
      refine va_get (D := D) (ci := 5) (v := .ref (q 30)) (C := RX5) (T := TX5) (N := 19) hx hb (hwX5 hE) (fun _ h => h) hown hK hP 23 rfl rfl 8 (by decide) (hE _ fl_X5_29 rfl _) (fun _ h9 => h9) rfl dX5_airborne_23 ?_
      refine lv_iload_n hx hb dX5_airborne_26 rfl (lv_at hl 1 rfl) ?_
      obtain ⟨hin, hf⟩ := xguard hf
      refine va_iald hx hb hK hP 30 0 rfl rfl hin dX5_airborne_27 ?_
      refine lv_if_ge hx hb dX5_airborne_28 rfl (fun hc => ?_) (fun hc => ?_)
      · rw [if_pos hc] at hf
        refine lv_iconst (v := 0) hx hb dX5_airborne_35 (by decide) ?_
        exact t_X5_airborne_36 ⟨hx, hb, hml, hr, hlocks, hown, hno, hG⟩ hP hD hS  (lv_sub hl [0, 1] rfl) hf
      · rw [if_neg hc] at hf
        exact t_X5_airborne_31 ⟨hx, hb, hml, hr, hlocks, hown, hno, hG⟩ hP hD hS  (lv_sub hl [0, 1] rfl) hf
  · rw [if_pos hc] at hf
    refine lv_iconst (v := 1) hx hb dX5_airborne_9 (by decide) ?_
    refine lv_goto hx hb dX5_airborne_10 rfl ?_
    exact t_X5_airborne_36 ⟨hx, hb, hml, hr, hlocks, hown, hno, hG⟩ hP hD hS  (lv_sub hl [0, 1] rfl) hf
noncomputable def f_X5_airborne (b : xT) (v1 : Int32) : Option (xT) := g_X5_airborne_0 b v1
set_option maxHeartbeats 4000000 in
set_option maxRecDepth 100000 in
theorem c_X5_airborne (l : Launch) (D : va_G) (q : Nat → Nat) (k : Nat → ClassId) (sz : Nat) (a b : xT) (o : Nat → Int64) (v1 : Int32) (y : xT) (hf : f_X5_airborne b v1 = some y) : xMet l yX5_airborne (.code yX5_airborne cX5_airborne 2 none) r_X5_airborne (xPcm D q k sz a b o [.ref (q 23), .int v1]) (xQm D q k a b o (.inr (none, a, y))) 0 0 (va_A (xw q k a b o) sz) := by
  refine xMet.ofW (by decide) ?_
  intro p e s m args below meth c hx hb hml hr hlocks hnm hme hno hv
  obtain ⟨rfl, hsz, hP, hD, hG⟩ := hv
  subst hsz
  have hown : s.vm.findClass RX5 = some m.cls := findClass_of_methodNamed hnm
  have hl := lv_entry ([.ref (q 23), .int v1]) (n := 2) (Nat.le_of_ble_eq_true rfl)
  rw [lg_entry_eq]
  generalize (lg_sl ([.ref (q 23), .int v1]) ++ List.replicate (2 - (lg_sl ([.ref (q 23), .int v1])).length) Slot.unset).toArray = ls at hl ⊢
  have hl : lv_has ls 2 [(0, .ref (q 23)), (1, .int v1)] := hl
  have hD := hD.self (sz := s.heap.size)
  exact t_X5_airborne_0 ⟨hx, hb, hml, hr, hlocks, hown, hno, hG⟩ hP hD va_S.rf hl hf
abbrev r_X5_isLoose : Room := { frames := 0, cells := 0, slots := 0, locals := 0 }
noncomputable def g_X5_isLoose_23  (b : xT) (s0 : Int32) : Option (Int32) := (if xzb s0 = true then some s0 else none)
set_option maxHeartbeats 4000000 in
set_option maxRecDepth 100000 in
theorem t_X5_isLoose_23 {p : Program} {l : Launch} {e : Env} {s : State} {m : MethodId} {args : Array Value} {below : List Frame} {meth : Method} {c : Code} {D : va_G} {q : Nat → Nat} {k : Nat → ClassId} {a b : xT} {o : Nat → Int64} {y : Int32} (C : xCx p s m meth c cX5_isLoose 2 (some .boolean) RX5 D k) (hP : va_P D vwCl (xw q k a b o) s.heap) (hD : va_D (fun _ => True) (xw q k a b o))  {s0 : Int32} {ls : Array Slot} (hl : lv_has ls 2 []) (hf : g_X5_isLoose_23  b s0 = some y) : W p l e r_X5_isLoose s m args below meth c s.heap [] 0 0 (xMQ below (xQr (.inr (some (.int y)))) args s (xmc (.inr (some (.int y)))) (xms (.inr (some (.int y)))) (fun _ => False)) (F0 m 23 ls [.int s0]) := by
  obtain ⟨hx, hb, hml, hr, hlocks, hown, hno, hG⟩ := C
  have hK := hG.1
  have hE := hG.2.1
  unfold g_X5_isLoose_23 at hf
  obtain ⟨hz, hf⟩ := xguz hf
  cases hf
  exact xret_z hx hb hr hz hlocks dX5_isLoose_23
noncomputable def g_X5_isLoose_22  (b : xT)  : Option (Int32) := g_X5_isLoose_23  b 0
set_option maxHeartbeats 4000000 in
set_option maxRecDepth 100000 in
theorem t_X5_isLoose_22 {p : Program} {l : Launch} {e : Env} {s : State} {m : MethodId} {args : Array Value} {below : List Frame} {meth : Method} {c : Code} {D : va_G} {q : Nat → Nat} {k : Nat → ClassId} {a b : xT} {o : Nat → Int64} {y : Int32} (C : xCx p s m meth c cX5_isLoose 2 (some .boolean) RX5 D k) (hP : va_P D vwCl (xw q k a b o) s.heap) (hD : va_D (fun _ => True) (xw q k a b o))  {ls : Array Slot} (hl : lv_has ls 2 []) (hf : g_X5_isLoose_22  b  = some y) : W p l e r_X5_isLoose s m args below meth c s.heap [] 0 0 (xMQ below (xQr (.inr (some (.int y)))) args s (xmc (.inr (some (.int y)))) (xms (.inr (some (.int y)))) (fun _ => False)) (F0 m 22 ls []) := by
  obtain ⟨hx, hb, hml, hr, hlocks, hown, hno, hG⟩ := C
  have hK := hG.1
  have hE := hG.2.1
  unfold g_X5_isLoose_22 at hf
  refine lv_iconst (v := 0) hx hb dX5_isLoose_22 (by decide) ?_
  exact t_X5_isLoose_23 ⟨hx, hb, hml, hr, hlocks, hown, hno, hG⟩ hP hD  (lv_sub hl [] rfl) hf
noncomputable def g_X5_isLoose_0  (b : xT) (v1 : Int32) : Option (Int32) := (if xin v1 60 = true then (if (b.1 7 v1.toNatClampNeg) = 0 then (if xin v1 60 = true then (if (b.1 8 v1.toNatClampNeg) = 0 then g_X5_isLoose_23  b 1 else g_X5_isLoose_22  b ) else none) else g_X5_isLoose_22  b ) else none)
set_option maxHeartbeats 4000000 in
set_option maxRecDepth 100000 in
theorem t_X5_isLoose_0 {p : Program} {l : Launch} {e : Env} {s : State} {m : MethodId} {args : Array Value} {below : List Frame} {meth : Method} {c : Code} {D : va_G} {q : Nat → Nat} {k : Nat → ClassId} {a b : xT} {o : Nat → Int64} {y : Int32} (C : xCx p s m meth c cX5_isLoose 2 (some .boolean) RX5 D k) (hP : va_P D vwCl (xw q k a b o) s.heap) (hD : va_D (fun _ => True) (xw q k a b o))  {v1 : Int32} {ls : Array Slot} (hl : lv_has ls 2 [(0, .ref (q 23)), (1, .int v1)]) (hf : g_X5_isLoose_0  b v1 = some y) : W p l e r_X5_isLoose s m args below meth c s.heap [] 0 0 (xMQ below (xQr (.inr (some (.int y)))) args s (xmc (.inr (some (.int y)))) (xms (.inr (some (.int y)))) (fun _ => False)) (F0 m 0 ls []) := by
  obtain ⟨hx, hb, hml, hr, hlocks, hown, hno, hG⟩ := C
  have hK := hG.1
  have hE := hG.2.1
  unfold g_X5_isLoose_0 at hf
  refine lv_aload_n hx hb dX5_isLoose_0 rfl (lv_at hl 0 rfl) ?_
  refine va_get (D := D) (ci := 5) (v := .ref (q 31)) (C := RX5) (T := TX5) (N := 19) hx hb (hwX5 hE) (fun _ h => h) hown hK hP 23 rfl rfl 9 (by decide) (hE _ fl_X5_32 rfl _) (fun _ h9 => h9) rfl dX5_isLoose_1 ?_
  refine lv_iload_n hx hb dX5_isLoose_4 rfl (lv_at hl 1 rfl) ?_
  obtain ⟨hin, hf⟩ := xguard hf
  refine va_zald hx hb hK hP 31 1 rfl rfl hin dX5_isLoose_5 ?_
  refine lv_if_ne hx hb dX5_isLoose_6 rfl (fun hc => ?_) (fun hc => ?_)
  · rw [if_neg hc] at hf
    exact t_X5_isLoose_22 ⟨hx, hb, hml, hr, hlocks, hown, hno, hG⟩ hP hD  (lv_sub hl [] rfl) hf
  · rw [if_pos hc] at hf
    refine lv_aload_n hx hb dX5_isLoose_9 rfl (lv_at hl 0 rfl) ?_
    refine va_get (D := D) (ci := 5) (v := .ref (q 32)) (C := RX5) (T := TX5) (N := 19) hx hb (hwX5 hE) (fun _ h => h) hown hK hP 23 rfl rfl 10 (by decide) (hE _ fl_X5_35 rfl _) (fun _ h9 => h9) rfl dX5_isLoose_10 ?_
    refine lv_iload_n hx hb dX5_isLoose_13 rfl (lv_at hl 1 rfl) ?_
    obtain ⟨hin, hf⟩ := xguard hf
    refine va_zald hx hb hK hP 32 1 rfl rfl hin dX5_isLoose_14 ?_
    refine lv_if_ne hx hb dX5_isLoose_15 rfl (fun hc => ?_) (fun hc => ?_)
    · rw [if_neg hc] at hf
      exact t_X5_isLoose_22 ⟨hx, hb, hml, hr, hlocks, hown, hno, hG⟩ hP hD  (lv_sub hl [] rfl) hf
    · rw [if_pos hc] at hf
      refine lv_iconst (v := 1) hx hb dX5_isLoose_18 (by decide) ?_
      refine lv_goto hx hb dX5_isLoose_19 rfl ?_
      exact t_X5_isLoose_23 ⟨hx, hb, hml, hr, hlocks, hown, hno, hG⟩ hP hD  (lv_sub hl [] rfl) hf
noncomputable def f_X5_isLoose (b : xT) (v1 : Int32) : Option (Int32) := g_X5_isLoose_0 b v1
set_option maxHeartbeats 4000000 in
set_option maxRecDepth 100000 in
theorem c_X5_isLoose (l : Launch) (D : va_G) (q : Nat → Nat) (k : Nat → ClassId) (a b : xT) (o : Nat → Int64) (v1 : Int32) (y : Int32) (hf : f_X5_isLoose b v1 = some y) : xMet l yX5_isLoose (.code yX5_isLoose cX5_isLoose 2 (some .boolean)) r_X5_isLoose (xPc D q k a b o [.ref (q 23), .int v1]) (xQr (.inr (some (.int y)))) (xmc (.inr (some (.int y)))) (xms (.inr (some (.int y)))) (fun _ => False) := by
  refine xMet.ofW (by decide) ?_
  intro p e s m args below meth c hx hb hml hr hlocks hnm hme hno hv
  obtain ⟨rfl, hP, hD, hG⟩ := hv
  have hown : s.vm.findClass RX5 = some m.cls := findClass_of_methodNamed hnm
  have hl := lv_entry ([.ref (q 23), .int v1]) (n := 2) (Nat.le_of_ble_eq_true rfl)
  rw [lg_entry_eq]
  generalize (lg_sl ([.ref (q 23), .int v1]) ++ List.replicate (2 - (lg_sl ([.ref (q 23), .int v1])).length) Slot.unset).toArray = ls at hl ⊢
  have hl : lv_has ls 2 [(0, .ref (q 23)), (1, .int v1)] := hl
  exact t_X5_isLoose_0 ⟨hx, hb, hml, hr, hlocks, hown, hno, hG⟩ hP hD hl hf
abbrev r_X5_empty : Room := { frames := 0, cells := 0, slots := 0, locals := 0 }
noncomputable def g_X5_empty_28  (b : xT)  : Option (xT) := some b
set_option maxHeartbeats 4000000 in
set_option maxRecDepth 100000 in
theorem t_X5_empty_28 {p : Program} {l : Launch} {e : Env} {s : State} {m : MethodId} {args : Array Value} {below : List Frame} {meth : Method} {c : Code} {D : va_G} {q : Nat → Nat} {k : Nat → ClassId} {a b : xT} {o : Nat → Int64} {z : xT} {y : xT} (C : xCx p s m meth c cX5_empty 2 none RX5 D k) {H : Heap} {locs : List Loc} (hP : va_P D vwCl (xw q k a b o) H) (hD : va_D (va_A (xw q k a z o) s.heap.size) (xw q k a b o)) (hS : va_S (va_A (xw q k a z o) s.heap.size) s.heap H locs)  {ls : Array Slot} (hl : lv_has ls 2 []) (hf : g_X5_empty_28  b  = some y) : W p l e r_X5_empty s m args below meth c H locs 0 0 (xMQ below (xQm D q k a z o (.inr (none, a, y))) args s 0 0 (va_A (xw q k a z o) s.heap.size)) (F0 m 28 ls []) := by
  obtain ⟨hx, hb, hml, hr, hlocks, hown, hno, hG⟩ := C
  have hK := hG.1
  have hE := hG.2.1
  have hA : ∀ u, s.heap.size ≤ u → va_A (xw q k a z o) s.heap.size u := fun u h => Or.inr h
  unfold g_X5_empty_28 at hf
  cases hf
  exact xretm_v hx hb hr hlocks hP hS dX5_empty_28
noncomputable def g_X5_empty_21  (b : xT) (v1 : Int32) : Option (xT) := (if xin v1 240 = true then g_X5_empty_28  (xs b 2 v1.toNatClampNeg (-1))  else none)
set_option maxHeartbeats 4000000 in
set_option maxRecDepth 100000 in
theorem t_X5_empty_21 {p : Program} {l : Launch} {e : Env} {s : State} {m : MethodId} {args : Array Value} {below : List Frame} {meth : Method} {c : Code} {D : va_G} {q : Nat → Nat} {k : Nat → ClassId} {a b : xT} {o : Nat → Int64} {z : xT} {y : xT} (C : xCx p s m meth c cX5_empty 2 none RX5 D k) {H : Heap} {locs : List Loc} (hP : va_P D vwCl (xw q k a b o) H) (hD : va_D (va_A (xw q k a z o) s.heap.size) (xw q k a b o)) (hS : va_S (va_A (xw q k a z o) s.heap.size) s.heap H locs)  {v1 : Int32} {ls : Array Slot} (hl : lv_has ls 2 [(0, .ref (q 23)), (1, .int v1)]) (hf : g_X5_empty_21  b v1 = some y) : W p l e r_X5_empty s m args below meth c H locs 0 0 (xMQ below (xQm D q k a z o (.inr (none, a, y))) args s 0 0 (va_A (xw q k a z o) s.heap.size)) (F0 m 21 ls []) := by
  obtain ⟨hx, hb, hml, hr, hlocks, hown, hno, hG⟩ := C
  have hK := hG.1
  have hE := hG.2.1
  have hA : ∀ u, s.heap.size ≤ u → va_A (xw q k a z o) s.heap.size u := fun u h => Or.inr h
  unfold g_X5_empty_21 at hf
  refine lv_aload_n hx hb dX5_empty_21 rfl (lv_at hl 0 rfl) ?_
  refine va_get (D := D) (ci := 5) (v := .ref (q 26)) (C := RX5) (T := TX5) (N := 19) hx hb (hwX5 hE) (fun _ h => h) hown hK hP 23 rfl rfl 3 (by decide) (hE _ fl_X5_17 rfl _) (fun _ h9 => h9) rfl dX5_empty_22 ?_
  refine lv_iload_n hx hb dX5_empty_25 rfl (lv_at hl 1 rfl) ?_
  refine lv_iconst (v := -1) hx hb dX5_empty_26 (by decide) ?_
  obtain ⟨hin, hf⟩ := xguard hf
  refine va_iast hx hb hK hP hD hS 26 0 rfl rfl hin dX5_empty_27 (fun H locs hP hD hS => ?_)
  rw [xw_s26] at hP hD
  exact t_X5_empty_28 ⟨hx, hb, hml, hr, hlocks, hown, hno, hG⟩ hP hD hS  (lv_sub hl [] rfl) hf
noncomputable def g_X5_empty_0  (b : xT) (v1 : Int32) : Option (xT) := (if xin v1 240 = true then (if (b.1 2 v1.toNatClampNeg) < 0 then g_X5_empty_21  b v1 else (if xin v1 240 = true then (if xin (b.1 2 v1.toNatClampNeg) 60 = true then g_X5_empty_21  (xs b 6 (b.1 2 v1.toNatClampNeg).toNatClampNeg (-1)) v1 else none) else none)) else none)
set_option maxHeartbeats 4000000 in
set_option maxRecDepth 100000 in
theorem t_X5_empty_0 {p : Program} {l : Launch} {e : Env} {s : State} {m : MethodId} {args : Array Value} {below : List Frame} {meth : Method} {c : Code} {D : va_G} {q : Nat → Nat} {k : Nat → ClassId} {a b : xT} {o : Nat → Int64} {z : xT} {y : xT} (C : xCx p s m meth c cX5_empty 2 none RX5 D k) {H : Heap} {locs : List Loc} (hP : va_P D vwCl (xw q k a b o) H) (hD : va_D (va_A (xw q k a z o) s.heap.size) (xw q k a b o)) (hS : va_S (va_A (xw q k a z o) s.heap.size) s.heap H locs)  {v1 : Int32} {ls : Array Slot} (hl : lv_has ls 2 [(0, .ref (q 23)), (1, .int v1)]) (hf : g_X5_empty_0  b v1 = some y) : W p l e r_X5_empty s m args below meth c H locs 0 0 (xMQ below (xQm D q k a z o (.inr (none, a, y))) args s 0 0 (va_A (xw q k a z o) s.heap.size)) (F0 m 0 ls []) := by
  obtain ⟨hx, hb, hml, hr, hlocks, hown, hno, hG⟩ := C
  have hK := hG.1
  have hE := hG.2.1
  have hA : ∀ u, s.heap.size ≤ u → va_A (xw q k a z o) s.heap.size u := fun u h => Or.inr h
  unfold g_X5_empty_0 at hf
  refine lv_aload_n hx hb dX5_empty_0 rfl (lv_at hl 0 rfl) ?_
  refine va_get (D := D) (ci := 5) (v := .ref (q 26)) (C := RX5) (T := TX5) (N := 19) hx hb (hwX5 hE) (fun _ h => h) hown hK hP 23 rfl rfl 3 (by decide) (hE _ fl_X5_17 rfl _) (fun _ h9 => h9) rfl dX5_empty_1 ?_
  refine lv_iload_n hx hb dX5_empty_4 rfl (lv_at hl 1 rfl) ?_
  obtain ⟨hin, hf⟩ := xguard hf
  refine va_iald hx hb hK hP 26 0 rfl rfl hin dX5_empty_5 ?_
  refine lv_if_lt hx hb dX5_empty_6 rfl (fun hc => ?_) (fun hc => ?_)
  · rw [if_pos hc] at hf
    exact t_X5_empty_21 ⟨hx, hb, hml, hr, hlocks, hown, hno, hG⟩ hP hD hS  (lv_sub hl [0, 1] rfl) hf
  · rw [if_neg hc] at hf
    refine lv_aload_n hx hb dX5_empty_9 rfl (lv_at hl 0 rfl) ?_
    refine va_get (D := D) (ci := 5) (v := .ref (q 30)) (C := RX5) (T := TX5) (N := 19) hx hb (hwX5 hE) (fun _ h => h) hown hK hP 23 rfl rfl 8 (by decide) (hE _ fl_X5_29 rfl _) (fun _ h9 => h9) rfl dX5_empty_10 ?_
    refine lv_aload_n hx hb dX5_empty_13 rfl (lv_at hl 0 rfl) ?_
    refine va_get (D := D) (ci := 5) (v := .ref (q 26)) (C := RX5) (T := TX5) (N := 19) hx hb (hwX5 hE) (fun _ h => h) hown hK hP 23 rfl rfl 3 (by decide) (hE _ fl_X5_17 rfl _) (fun _ h9 => h9) rfl dX5_empty_14 ?_
    refine lv_iload_n hx hb dX5_empty_17 rfl (lv_at hl 1 rfl) ?_
    obtain ⟨hin, hf⟩ := xguard hf
    refine va_iald hx hb hK hP 26 0 rfl rfl hin dX5_empty_18 ?_
    refine lv_iconst (v := -1) hx hb dX5_empty_19 (by decide) ?_
    obtain ⟨hin, hf⟩ := xguard hf
    refine va_iast hx hb hK hP hD hS 30 0 rfl rfl hin dX5_empty_20 (fun H locs hP hD hS => ?_)
    rw [xw_s30] at hP hD
    exact t_X5_empty_21 ⟨hx, hb, hml, hr, hlocks, hown, hno, hG⟩ hP hD hS  (lv_sub hl [0, 1] rfl) hf
noncomputable def f_X5_empty (b : xT) (v1 : Int32) : Option (xT) := g_X5_empty_0 b v1
set_option maxHeartbeats 4000000 in
set_option maxRecDepth 100000 in
theorem c_X5_empty (l : Launch) (D : va_G) (q : Nat → Nat) (k : Nat → ClassId) (sz : Nat) (a b : xT) (o : Nat → Int64) (v1 : Int32) (y : xT) (hf : f_X5_empty b v1 = some y) : xMet l yX5_empty (.code yX5_empty cX5_empty 2 none) r_X5_empty (xPcm D q k sz a b o [.ref (q 23), .int v1]) (xQm D q k a b o (.inr (none, a, y))) 0 0 (va_A (xw q k a b o) sz) := by
  refine xMet.ofW (by decide) ?_
  intro p e s m args below meth c hx hb hml hr hlocks hnm hme hno hv
  obtain ⟨rfl, hsz, hP, hD, hG⟩ := hv
  subst hsz
  have hown : s.vm.findClass RX5 = some m.cls := findClass_of_methodNamed hnm
  have hl := lv_entry ([.ref (q 23), .int v1]) (n := 2) (Nat.le_of_ble_eq_true rfl)
  rw [lg_entry_eq]
  generalize (lg_sl ([.ref (q 23), .int v1]) ++ List.replicate (2 - (lg_sl ([.ref (q 23), .int v1])).length) Slot.unset).toArray = ls at hl ⊢
  have hl : lv_has ls 2 [(0, .ref (q 23)), (1, .int v1)] := hl
  have hD := hD.self (sz := s.heap.size)
  exact t_X5_empty_0 ⟨hx, hb, hml, hr, hlocks, hown, hno, hG⟩ hP hD va_S.rf hl hf
abbrev r_X5_note : Room := { frames := 0, cells := 0, slots := 0, locals := 0 }
noncomputable def g_X5_note_75  (b : xT)  : Option (xT) := some b
set_option maxHeartbeats 4000000 in
set_option maxRecDepth 100000 in
theorem t_X5_note_75 {p : Program} {l : Launch} {e : Env} {s : State} {m : MethodId} {args : Array Value} {below : List Frame} {meth : Method} {c : Code} {D : va_G} {q : Nat → Nat} {k : Nat → ClassId} {a b : xT} {o : Nat → Int64} {z : xT} {y : xT} (C : xCx p s m meth c cX5_note 5 none RX5 D k) {H : Heap} {locs : List Loc} (hP : va_P D vwCl (xw q k a b o) H) (hD : va_D (va_A (xw q k a z o) s.heap.size) (xw q k a b o)) (hS : va_S (va_A (xw q k a z o) s.heap.size) s.heap H locs)  {ls : Array Slot} (hl : lv_has ls 5 []) (hf : g_X5_note_75  b  = some y) : W p l e r_X5_note s m args below meth c H locs 0 0 (xMQ below (xQm D q k a z o (.inr (none, a, y))) args s 0 0 (va_A (xw q k a z o) s.heap.size)) (F0 m 75 ls []) := by
  obtain ⟨hx, hb, hml, hr, hlocks, hown, hno, hG⟩ := C
  have hK := hG.1
  have hE := hG.2.1
  have hA : ∀ u, s.heap.size ≤ u → va_A (xw q k a z o) s.heap.size u := fun u h => Or.inr h
  unfold g_X5_note_75 at hf
  cases hf
  exact xretm_v hx hb hr hlocks hP hS dX5_note_75
noncomputable def g_X5_note_65  (b : xT)  : Option (xT) := g_X5_note_75  (xn b 3 ((b.2 3) + 1)) 
set_option maxHeartbeats 4000000 in
set_option maxRecDepth 100000 in
theorem t_X5_note_65 {p : Program} {l : Launch} {e : Env} {s : State} {m : MethodId} {args : Array Value} {below : List Frame} {meth : Method} {c : Code} {D : va_G} {q : Nat → Nat} {k : Nat → ClassId} {a b : xT} {o : Nat → Int64} {z : xT} {y : xT} (C : xCx p s m meth c cX5_note 5 none RX5 D k) {H : Heap} {locs : List Loc} (hP : va_P D vwCl (xw q k a b o) H) (hD : va_D (va_A (xw q k a z o) s.heap.size) (xw q k a b o)) (hS : va_S (va_A (xw q k a z o) s.heap.size) s.heap H locs)  {ls : Array Slot} (hl : lv_has ls 5 [(0, .ref (q 23))]) (hf : g_X5_note_65  b  = some y) : W p l e r_X5_note s m args below meth c H locs 0 0 (xMQ below (xQm D q k a z o (.inr (none, a, y))) args s 0 0 (va_A (xw q k a z o) s.heap.size)) (F0 m 65 ls []) := by
  obtain ⟨hx, hb, hml, hr, hlocks, hown, hno, hG⟩ := C
  have hK := hG.1
  have hE := hG.2.1
  have hA : ∀ u, s.heap.size ≤ u → va_A (xw q k a z o) s.heap.size u := fun u h => Or.inr h
  unfold g_X5_note_65 at hf
  refine lv_aload_n hx hb dX5_note_65 rfl (lv_at hl 0 rfl) ?_
  refine lv_dup hx hb dX5_note_66 rfl ?_
  refine va_get (D := D) (ci := 5) (v := .int (b.2 3)) (C := RX5) (T := TX5) (N := 19) hx hb (hwX5 hE) (fun _ h => h) hown hK hP 23 rfl rfl 17 (by decide) (hE _ fl_X5_63 rfl _) (fun _ h9 => h9) rfl dX5_note_67 ?_
  refine lv_iconst (v := 1) hx hb dX5_note_70 (by decide) ?_
  refine lv_iadd hx hb dX5_note_71 ?_
  refine va_put (D := D) (ci := 5) (v := .int ((b.2 3) + 1)) (ty := .int) (C := RX5) (T := TX5) (N := 19) hx hb (hwX5 hE) (fun _ h => h) tyX5 tyX5_ok nmX5 hown hK hP hD hS 23 rfl rfl 17 (by decide) (hE _ fl_X5_63 rfl _) (fun _ h9 => h9) rfl (by decide +kernel) rfl rfl (Nat.le_of_ble_eq_true rfl) dX5_note_72 (fun H locs hP hD hS => ?_)
  rw [xw_n23_17] at hP hD
  exact t_X5_note_75 ⟨hx, hb, hml, hr, hlocks, hown, hno, hG⟩ hP hD hS  (lv_sub hl [] rfl) hf
noncomputable def g_X5_note_50  (b : xT) (v4 : Int32) : Option (xT) := (if xin ((4 * (b.2 3)) + 3) 800 = true then g_X5_note_65  (xs b 14 ((4 * (b.2 3)) + 3).toNatClampNeg v4)  else none)
set_option maxHeartbeats 4000000 in
set_option maxRecDepth 100000 in
theorem t_X5_note_50 {p : Program} {l : Launch} {e : Env} {s : State} {m : MethodId} {args : Array Value} {below : List Frame} {meth : Method} {c : Code} {D : va_G} {q : Nat → Nat} {k : Nat → ClassId} {a b : xT} {o : Nat → Int64} {z : xT} {y : xT} (C : xCx p s m meth c cX5_note 5 none RX5 D k) {H : Heap} {locs : List Loc} (hP : va_P D vwCl (xw q k a b o) H) (hD : va_D (va_A (xw q k a z o) s.heap.size) (xw q k a b o)) (hS : va_S (va_A (xw q k a z o) s.heap.size) s.heap H locs)  {v4 : Int32} {ls : Array Slot} (hl : lv_has ls 5 [(0, .ref (q 23)), (4, .int v4)]) (hf : g_X5_note_50  b v4 = some y) : W p l e r_X5_note s m args below meth c H locs 0 0 (xMQ below (xQm D q k a z o (.inr (none, a, y))) args s 0 0 (va_A (xw q k a z o) s.heap.size)) (F0 m 50 ls []) := by
  obtain ⟨hx, hb, hml, hr, hlocks, hown, hno, hG⟩ := C
  have hK := hG.1
  have hE := hG.2.1
  have hA : ∀ u, s.heap.size ≤ u → va_A (xw q k a z o) s.heap.size u := fun u h => Or.inr h
  unfold g_X5_note_50 at hf
  refine lv_aload_n hx hb dX5_note_50 rfl (lv_at hl 0 rfl) ?_
  refine va_get (D := D) (ci := 5) (v := .ref (q 38)) (C := RX5) (T := TX5) (N := 19) hx hb (hwX5 hE) (fun _ h => h) hown hK hP 23 rfl rfl 18 (by decide) (hE _ fl_X5_53 rfl _) (fun _ h9 => h9) rfl dX5_note_51 ?_
  refine lv_iconst (v := 4) hx hb dX5_note_54 (by decide) ?_
  refine lv_aload_n hx hb dX5_note_55 rfl (lv_at hl 0 rfl) ?_
  refine va_get (D := D) (ci := 5) (v := .int (b.2 3)) (C := RX5) (T := TX5) (N := 19) hx hb (hwX5 hE) (fun _ h => h) hown hK hP 23 rfl rfl 17 (by decide) (hE _ fl_X5_63 rfl _) (fun _ h9 => h9) rfl dX5_note_56 ?_
  refine lv_imul hx hb dX5_note_59 ?_
  refine lv_iconst (v := 3) hx hb dX5_note_60 (by decide) ?_
  refine lv_iadd hx hb dX5_note_61 ?_
  refine lv_iload hx hb dX5_note_62 (lv_at hl 1 rfl) ?_
  obtain ⟨hin, hf⟩ := xguard hf
  refine va_iast hx hb hK hP hD hS 38 0 rfl rfl hin dX5_note_64 (fun H locs hP hD hS => ?_)
  rw [xw_s38] at hP hD
  exact t_X5_note_65 ⟨hx, hb, hml, hr, hlocks, hown, hno, hG⟩ hP hD hS  (lv_sub hl [0] rfl) hf
noncomputable def g_X5_note_36  (b : xT) (v3 : Int32) (v4 : Int32) : Option (xT) := (if xin ((4 * (b.2 3)) + 2) 800 = true then g_X5_note_50  (xs b 14 ((4 * (b.2 3)) + 2).toNatClampNeg v3) v4 else none)
set_option maxHeartbeats 4000000 in
set_option maxRecDepth 100000 in
theorem t_X5_note_36 {p : Program} {l : Launch} {e : Env} {s : State} {m : MethodId} {args : Array Value} {below : List Frame} {meth : Method} {c : Code} {D : va_G} {q : Nat → Nat} {k : Nat → ClassId} {a b : xT} {o : Nat → Int64} {z : xT} {y : xT} (C : xCx p s m meth c cX5_note 5 none RX5 D k) {H : Heap} {locs : List Loc} (hP : va_P D vwCl (xw q k a b o) H) (hD : va_D (va_A (xw q k a z o) s.heap.size) (xw q k a b o)) (hS : va_S (va_A (xw q k a z o) s.heap.size) s.heap H locs)  {v3 v4 : Int32} {ls : Array Slot} (hl : lv_has ls 5 [(0, .ref (q 23)), (3, .int v3), (4, .int v4)]) (hf : g_X5_note_36  b v3 v4 = some y) : W p l e r_X5_note s m args below meth c H locs 0 0 (xMQ below (xQm D q k a z o (.inr (none, a, y))) args s 0 0 (va_A (xw q k a z o) s.heap.size)) (F0 m 36 ls []) := by
  obtain ⟨hx, hb, hml, hr, hlocks, hown, hno, hG⟩ := C
  have hK := hG.1
  have hE := hG.2.1
  have hA : ∀ u, s.heap.size ≤ u → va_A (xw q k a z o) s.heap.size u := fun u h => Or.inr h
  unfold g_X5_note_36 at hf
  refine lv_aload_n hx hb dX5_note_36 rfl (lv_at hl 0 rfl) ?_
  refine va_get (D := D) (ci := 5) (v := .ref (q 38)) (C := RX5) (T := TX5) (N := 19) hx hb (hwX5 hE) (fun _ h => h) hown hK hP 23 rfl rfl 18 (by decide) (hE _ fl_X5_53 rfl _) (fun _ h9 => h9) rfl dX5_note_37 ?_
  refine lv_iconst (v := 4) hx hb dX5_note_40 (by decide) ?_
  refine lv_aload_n hx hb dX5_note_41 rfl (lv_at hl 0 rfl) ?_
  refine va_get (D := D) (ci := 5) (v := .int (b.2 3)) (C := RX5) (T := TX5) (N := 19) hx hb (hwX5 hE) (fun _ h => h) hown hK hP 23 rfl rfl 17 (by decide) (hE _ fl_X5_63 rfl _) (fun _ h9 => h9) rfl dX5_note_42 ?_
  refine lv_imul hx hb dX5_note_45 ?_
  refine lv_iconst (v := 2) hx hb dX5_note_46 (by decide) ?_
  refine lv_iadd hx hb dX5_note_47 ?_
  refine lv_iload_n hx hb dX5_note_48 rfl (lv_at hl 1 rfl) ?_
  obtain ⟨hin, hf⟩ := xguard hf
  refine va_iast hx hb hK hP hD hS 38 0 rfl rfl hin dX5_note_49 (fun H locs hP hD hS => ?_)
  rw [xw_s38] at hP hD
  exact t_X5_note_50 ⟨hx, hb, hml, hr, hlocks, hown, hno, hG⟩ hP hD hS  (lv_sub hl [0, 2] rfl) hf
noncomputable def g_X5_note_22  (b : xT) (v2 : Int32) (v3 : Int32) (v4 : Int32) : Option (xT) := (if xin ((4 * (b.2 3)) + 1) 800 = true then g_X5_note_36  (xs b 14 ((4 * (b.2 3)) + 1).toNatClampNeg v2) v3 v4 else none)
set_option maxHeartbeats 4000000 in
set_option maxRecDepth 100000 in
theorem t_X5_note_22 {p : Program} {l : Launch} {e : Env} {s : State} {m : MethodId} {args : Array Value} {below : List Frame} {meth : Method} {c : Code} {D : va_G} {q : Nat → Nat} {k : Nat → ClassId} {a b : xT} {o : Nat → Int64} {z : xT} {y : xT} (C : xCx p s m meth c cX5_note 5 none RX5 D k) {H : Heap} {locs : List Loc} (hP : va_P D vwCl (xw q k a b o) H) (hD : va_D (va_A (xw q k a z o) s.heap.size) (xw q k a b o)) (hS : va_S (va_A (xw q k a z o) s.heap.size) s.heap H locs)  {v2 v3 v4 : Int32} {ls : Array Slot} (hl : lv_has ls 5 [(0, .ref (q 23)), (2, .int v2), (3, .int v3), (4, .int v4)]) (hf : g_X5_note_22  b v2 v3 v4 = some y) : W p l e r_X5_note s m args below meth c H locs 0 0 (xMQ below (xQm D q k a z o (.inr (none, a, y))) args s 0 0 (va_A (xw q k a z o) s.heap.size)) (F0 m 22 ls []) := by
  obtain ⟨hx, hb, hml, hr, hlocks, hown, hno, hG⟩ := C
  have hK := hG.1
  have hE := hG.2.1
  have hA : ∀ u, s.heap.size ≤ u → va_A (xw q k a z o) s.heap.size u := fun u h => Or.inr h
  unfold g_X5_note_22 at hf
  refine lv_aload_n hx hb dX5_note_22 rfl (lv_at hl 0 rfl) ?_
  refine va_get (D := D) (ci := 5) (v := .ref (q 38)) (C := RX5) (T := TX5) (N := 19) hx hb (hwX5 hE) (fun _ h => h) hown hK hP 23 rfl rfl 18 (by decide) (hE _ fl_X5_53 rfl _) (fun _ h9 => h9) rfl dX5_note_23 ?_
  refine lv_iconst (v := 4) hx hb dX5_note_26 (by decide) ?_
  refine lv_aload_n hx hb dX5_note_27 rfl (lv_at hl 0 rfl) ?_
  refine va_get (D := D) (ci := 5) (v := .int (b.2 3)) (C := RX5) (T := TX5) (N := 19) hx hb (hwX5 hE) (fun _ h => h) hown hK hP 23 rfl rfl 17 (by decide) (hE _ fl_X5_63 rfl _) (fun _ h9 => h9) rfl dX5_note_28 ?_
  refine lv_imul hx hb dX5_note_31 ?_
  refine lv_iconst (v := 1) hx hb dX5_note_32 (by decide) ?_
  refine lv_iadd hx hb dX5_note_33 ?_
  refine lv_iload_n hx hb dX5_note_34 rfl (lv_at hl 1 rfl) ?_
  obtain ⟨hin, hf⟩ := xguard hf
  refine va_iast hx hb hK hP hD hS 38 0 rfl rfl hin dX5_note_35 (fun H locs hP hD hS => ?_)
  rw [xw_s38] at hP hD
  exact t_X5_note_36 ⟨hx, hb, hml, hr, hlocks, hown, hno, hG⟩ hP hD hS  (lv_sub hl [0, 2, 3] rfl) hf
noncomputable def g_X5_note_0  (b : xT) (v1 : Int32) (v2 : Int32) (v3 : Int32) (v4 : Int32) : Option (xT) := (if 200 ≤ (b.2 3) then g_X5_note_75  b  else (if xin (4 * (b.2 3)) 800 = true then g_X5_note_22  (xs b 14 (4 * (b.2 3)).toNatClampNeg v1) v2 v3 v4 else none))
set_option maxHeartbeats 4000000 in
set_option maxRecDepth 100000 in
theorem t_X5_note_0 {p : Program} {l : Launch} {e : Env} {s : State} {m : MethodId} {args : Array Value} {below : List Frame} {meth : Method} {c : Code} {D : va_G} {q : Nat → Nat} {k : Nat → ClassId} {a b : xT} {o : Nat → Int64} {z : xT} {y : xT} (C : xCx p s m meth c cX5_note 5 none RX5 D k) {H : Heap} {locs : List Loc} (hP : va_P D vwCl (xw q k a b o) H) (hD : va_D (va_A (xw q k a z o) s.heap.size) (xw q k a b o)) (hS : va_S (va_A (xw q k a z o) s.heap.size) s.heap H locs)  {v1 v2 v3 v4 : Int32} {ls : Array Slot} (hl : lv_has ls 5 [(0, .ref (q 23)), (1, .int v1), (2, .int v2), (3, .int v3), (4, .int v4)]) (hf : g_X5_note_0  b v1 v2 v3 v4 = some y) : W p l e r_X5_note s m args below meth c H locs 0 0 (xMQ below (xQm D q k a z o (.inr (none, a, y))) args s 0 0 (va_A (xw q k a z o) s.heap.size)) (F0 m 0 ls []) := by
  obtain ⟨hx, hb, hml, hr, hlocks, hown, hno, hG⟩ := C
  have hK := hG.1
  have hE := hG.2.1
  have hA : ∀ u, s.heap.size ≤ u → va_A (xw q k a z o) s.heap.size u := fun u h => Or.inr h
  unfold g_X5_note_0 at hf
  refine lv_aload_n hx hb dX5_note_0 rfl (lv_at hl 0 rfl) ?_
  refine va_get (D := D) (ci := 5) (v := .int (b.2 3)) (C := RX5) (T := TX5) (N := 19) hx hb (hwX5 hE) (fun _ h => h) hown hK hP 23 rfl rfl 17 (by decide) (hE _ fl_X5_63 rfl _) (fun _ h9 => h9) rfl dX5_note_1 ?_
  refine lv_sipush (v := 200) hx hb dX5_note_4 (by decide) ?_
  refine lv_icmp_ge hx hb dX5_note_7 rfl (fun hc => ?_) (fun hc => ?_)
  · rw [if_pos hc] at hf
    exact t_X5_note_75 ⟨hx, hb, hml, hr, hlocks, hown, hno, hG⟩ hP hD hS  (lv_sub hl [] rfl) hf
  · rw [if_neg hc] at hf
    refine lv_aload_n hx hb dX5_note_10 rfl (lv_at hl 0 rfl) ?_
    refine va_get (D := D) (ci := 5) (v := .ref (q 38)) (C := RX5) (T := TX5) (N := 19) hx hb (hwX5 hE) (fun _ h => h) hown hK hP 23 rfl rfl 18 (by decide) (hE _ fl_X5_53 rfl _) (fun _ h9 => h9) rfl dX5_note_11 ?_
    refine lv_iconst (v := 4) hx hb dX5_note_14 (by decide) ?_
    refine lv_aload_n hx hb dX5_note_15 rfl (lv_at hl 0 rfl) ?_
    refine va_get (D := D) (ci := 5) (v := .int (b.2 3)) (C := RX5) (T := TX5) (N := 19) hx hb (hwX5 hE) (fun _ h => h) hown hK hP 23 rfl rfl 17 (by decide) (hE _ fl_X5_63 rfl _) (fun _ h9 => h9) rfl dX5_note_16 ?_
    refine lv_imul hx hb dX5_note_19 ?_
    refine lv_iload_n hx hb dX5_note_20 rfl (lv_at hl 1 rfl) ?_
    obtain ⟨hin, hf⟩ := xguard hf
    refine va_iast hx hb hK hP hD hS 38 0 rfl rfl hin dX5_note_21 (fun H locs hP hD hS => ?_)
    rw [xw_s38] at hP hD
    exact t_X5_note_22 ⟨hx, hb, hml, hr, hlocks, hown, hno, hG⟩ hP hD hS  (lv_sub hl [0, 2, 3, 4] rfl) hf
noncomputable def f_X5_note (b : xT) (v1 : Int32) (v2 : Int32) (v3 : Int32) (v4 : Int32) : Option (xT) := g_X5_note_0 b v1 v2 v3 v4
set_option maxHeartbeats 4000000 in
set_option maxRecDepth 100000 in
theorem c_X5_note (l : Launch) (D : va_G) (q : Nat → Nat) (k : Nat → ClassId) (sz : Nat) (a b : xT) (o : Nat → Int64) (v1 : Int32) (v2 : Int32) (v3 : Int32) (v4 : Int32) (y : xT) (hf : f_X5_note b v1 v2 v3 v4 = some y) : xMet l yX5_note (.code yX5_note cX5_note 5 none) r_X5_note (xPcm D q k sz a b o [.ref (q 23), .int v1, .int v2, .int v3, .int v4]) (xQm D q k a b o (.inr (none, a, y))) 0 0 (va_A (xw q k a b o) sz) := by
  refine xMet.ofW (by decide) ?_
  intro p e s m args below meth c hx hb hml hr hlocks hnm hme hno hv
  obtain ⟨rfl, hsz, hP, hD, hG⟩ := hv
  subst hsz
  have hown : s.vm.findClass RX5 = some m.cls := findClass_of_methodNamed hnm
  have hl := lv_entry ([.ref (q 23), .int v1, .int v2, .int v3, .int v4]) (n := 5) (Nat.le_of_ble_eq_true rfl)
  rw [lg_entry_eq]
  generalize (lg_sl ([.ref (q 23), .int v1, .int v2, .int v3, .int v4]) ++ List.replicate (5 - (lg_sl ([.ref (q 23), .int v1, .int v2, .int v3, .int v4])).length) Slot.unset).toArray = ls at hl ⊢
  have hl : lv_has ls 5 [(0, .ref (q 23)), (1, .int v1), (2, .int v2), (3, .int v3), (4, .int v4)] := hl
  have hD := hD.self (sz := s.heap.size)
  exact t_X5_note_0 ⟨hx, hb, hml, hr, hlocks, hown, hno, hG⟩ hP hD va_S.rf hl hf
abbrev r_X5_cancel : Room := { frames := 1, cells := 0, slots := 0, locals := 24 }
noncomputable def g_X5_cancel_45  (b : xT) (v1 : Int32) : Option (Int32 × xT) := (if xin v1 60 = true then (if 0 ≤ (b.1 6 v1.toNatClampNeg) then ((f_X5_empty b (b.1 6 v1.toNatClampNeg)).bind fun z60 => ((f_X5_note z60 5 v1 (b.1 6 v1.toNatClampNeg) (-1)).bind fun z68 => some (1, z68))) else some (0, b)) else none)
set_option maxHeartbeats 4000000 in
set_option maxRecDepth 100000 in
theorem t_X5_cancel_45 {p : Program} {l : Launch} {e : Env} {s : State} {m : MethodId} {args : Array Value} {below : List Frame} {meth : Method} {c : Code} {D : va_G} {q : Nat → Nat} {k : Nat → ClassId} {a b : xT} {o : Nat → Int64} {z : xT} {y : Int32 × xT} (C : xCx p s m meth c cX5_cancel 3 (some .boolean) RX5 D k) {H : Heap} {locs : List Loc} (hP : va_P D vwCl (xw q k a b o) H) (hD : va_D (va_A (xw q k a z o) s.heap.size) (xw q k a b o)) (hS : va_S (va_A (xw q k a z o) s.heap.size) s.heap H locs)  {v1 : Int32} {ls : Array Slot} (hl : lv_has ls 3 [(0, .ref (q 23)), (1, .int v1)]) (hf : g_X5_cancel_45  b v1 = some y) : W p l e r_X5_cancel s m args below meth c H locs 0 0 (xMQ below (xQm D q k a z o (.inr (some (.int y.1), a, y.2))) args s 0 0 (va_A (xw q k a z o) s.heap.size)) (F0 m 45 ls []) := by
  obtain ⟨hx, hb, hml, hr, hlocks, hown, hno, hG⟩ := C
  have hK := hG.1
  have hE := hG.2.1
  have hA : ∀ u, s.heap.size ≤ u → va_A (xw q k a z o) s.heap.size u := fun u h => Or.inr h
  unfold g_X5_cancel_45 at hf
  refine lv_aload_n hx hb dX5_cancel_45 rfl (lv_at hl 0 rfl) ?_
  refine va_get (D := D) (ci := 5) (v := .ref (q 30)) (C := RX5) (T := TX5) (N := 19) hx hb (hwX5 hE) (fun _ h => h) hown hK hP 23 rfl rfl 8 (by decide) (hE _ fl_X5_29 rfl _) (fun _ h9 => h9) rfl dX5_cancel_46 ?_
  refine lv_iload_n hx hb dX5_cancel_49 rfl (lv_at hl 1 rfl) ?_
  obtain ⟨hin, hf⟩ := xguard hf
  refine va_iald hx hb hK hP 30 0 rfl rfl hin dX5_cancel_50 ?_
  refine lv_istore_n (lv' := [(2, .int (b.1 6 v1.toNatClampNeg)), (0, .ref (q 23)), (1, .int v1)]) hx hb dX5_cancel_51 rfl hl (by decide) rfl (fun ls hl => ?_)
  refine lv_iload_n hx hb dX5_cancel_52 rfl (lv_at hl 0 rfl) ?_
  refine lv_if_ge hx hb dX5_cancel_53 rfl (fun hc => ?_) (fun hc => ?_)
  · rw [if_pos hc] at hf
    refine lv_aload_n hx hb dX5_cancel_58 rfl (lv_at hl 1 rfl) ?_
    refine lv_iload_n hx hb dX5_cancel_59 rfl (lv_at hl 0 rfl) ?_
    obtain ⟨z60, hN, hf⟩ := xbind hf
    refine xgo_m (v := none) (a1 := a) (b1 := z60) (xrunV (C := RX5) (As := [.int (b.1 6 v1.toNatClampNeg)]) (rest := []) (xfixm fx_X5_empty hx hb hml hown (by decide) (by decide) (by decide) (by decide)) hE ml_X5_73 wi_X5_empty wz_X5_empty wc_X5_empty wn_X5 (c_X5_empty l D q k _ a b o (b.1 6 v1.toNatClampNeg) _ hN) (va_recv (q := (RX5, TX5, 19)) (ci := 5) (q0 := 23) hK hP rfl rfl) (xprem hP hD hG) rfl rfl hl.1 rfl (lv_room (Nat.le_of_ble_eq_true rfl)) dX5_cancel_60) hD hS hA (fun H locs hP hD hS => ?_)
    refine lv_aload_n hx hb dX5_cancel_63 rfl (lv_at hl 1 rfl) ?_
    refine lv_iconst (v := 5) hx hb dX5_cancel_64 (by decide) ?_
    refine lv_iload_n hx hb dX5_cancel_65 rfl (lv_at hl 2 rfl) ?_
    refine lv_iload_n hx hb dX5_cancel_66 rfl (lv_at hl 0 rfl) ?_
    refine lv_iconst (v := -1) hx hb dX5_cancel_67 (by decide) ?_
    obtain ⟨z68, hN, hf⟩ := xbind hf
    refine xgo_m (v := none) (a1 := a) (b1 := z68) (xrunV (C := RX5) (As := [.int 5, .int v1, .int (b.1 6 v1.toNatClampNeg), .int (-1)]) (rest := []) (xfixm fx_X5_note hx hb hml hown (by decide) (by decide) (by decide) (by decide)) hE ml_X5_97 wi_X5_note wz_X5_note wc_X5_note wn_X5 (c_X5_note l D q k _ a z60 o 5 v1 (b.1 6 v1.toNatClampNeg) (-1) _ hN) (va_recv (q := (RX5, TX5, 19)) (ci := 5) (q0 := 23) hK hP rfl rfl) (xprem hP hD hG) rfl rfl hl.1 rfl (lv_room (Nat.le_of_ble_eq_true rfl)) dX5_cancel_68) hD hS hA (fun H locs hP hD hS => ?_)
    refine lv_iconst (v := 1) hx hb dX5_cancel_71 (by decide) ?_
    cases hf
    exact xretm_z hx hb hr xz1 hlocks hP hS dX5_cancel_72
  · rw [if_neg hc] at hf
    refine lv_iconst (v := 0) hx hb dX5_cancel_56 (by decide) ?_
    cases hf
    exact xretm_z hx hb hr xz0 hlocks hP hS dX5_cancel_57
noncomputable def g_X5_cancel_29  (b : xT) (v1 : Int32) : Option (Int32 × xT) := (if (b.2 0) ≤ 0 then (if xin v1 60 = true then g_X5_cancel_45  (xs b 7 v1.toNatClampNeg (vp_nar .boolean 1)) v1 else none) else some (0, b))
set_option maxHeartbeats 4000000 in
set_option maxRecDepth 100000 in
theorem t_X5_cancel_29 {p : Program} {l : Launch} {e : Env} {s : State} {m : MethodId} {args : Array Value} {below : List Frame} {meth : Method} {c : Code} {D : va_G} {q : Nat → Nat} {k : Nat → ClassId} {a b : xT} {o : Nat → Int64} {z : xT} {y : Int32 × xT} (C : xCx p s m meth c cX5_cancel 3 (some .boolean) RX5 D k) {H : Heap} {locs : List Loc} (hP : va_P D vwCl (xw q k a b o) H) (hD : va_D (va_A (xw q k a z o) s.heap.size) (xw q k a b o)) (hS : va_S (va_A (xw q k a z o) s.heap.size) s.heap H locs)  {v1 : Int32} {ls : Array Slot} (hl : lv_has ls 3 [(0, .ref (q 23)), (1, .int v1)]) (hf : g_X5_cancel_29  b v1 = some y) : W p l e r_X5_cancel s m args below meth c H locs 0 0 (xMQ below (xQm D q k a z o (.inr (some (.int y.1), a, y.2))) args s 0 0 (va_A (xw q k a z o) s.heap.size)) (F0 m 29 ls []) := by
  obtain ⟨hx, hb, hml, hr, hlocks, hown, hno, hG⟩ := C
  have hK := hG.1
  have hE := hG.2.1
  have hA : ∀ u, s.heap.size ≤ u → va_A (xw q k a z o) s.heap.size u := fun u h => Or.inr h
  unfold g_X5_cancel_29 at hf
  refine lv_aload_n hx hb dX5_cancel_29 rfl (lv_at hl 0 rfl) ?_
  refine va_get (D := D) (ci := 5) (v := .int (b.2 0)) (C := RX5) (T := TX5) (N := 19) hx hb (hwX5 hE) (fun _ h => h) hown hK hP 23 rfl rfl 0 (by decide) (hE _ fl_X5_56 rfl _) (fun _ h9 => h9) rfl dX5_cancel_30 ?_
  refine lv_if_le hx hb dX5_cancel_33 rfl (fun hc => ?_) (fun hc => ?_)
  · rw [if_pos hc] at hf
    refine lv_aload_n hx hb dX5_cancel_38 rfl (lv_at hl 0 rfl) ?_
    refine va_get (D := D) (ci := 5) (v := .ref (q 31)) (C := RX5) (T := TX5) (N := 19) hx hb (hwX5 hE) (fun _ h => h) hown hK hP 23 rfl rfl 9 (by decide) (hE _ fl_X5_32 rfl _) (fun _ h9 => h9) rfl dX5_cancel_39 ?_
    refine lv_iload_n hx hb dX5_cancel_42 rfl (lv_at hl 1 rfl) ?_
    refine lv_iconst (v := 1) hx hb dX5_cancel_43 (by decide) ?_
    obtain ⟨hin, hf⟩ := xguard hf
    refine va_zast hx hb hK hP hD hS 31 1 rfl rfl hin dX5_cancel_44 (fun H locs hP hD hS => ?_)
    rw [xw_s31] at hP hD
    exact t_X5_cancel_45 ⟨hx, hb, hml, hr, hlocks, hown, hno, hG⟩ hP hD hS  (lv_sub hl [0, 1] rfl) hf
  · rw [if_neg hc] at hf
    refine lv_iconst (v := 0) hx hb dX5_cancel_36 (by decide) ?_
    cases hf
    exact xretm_z hx hb hr xz0 hlocks hP hS dX5_cancel_37
noncomputable def g_X5_cancel_26  (b : xT) (v1 : Int32) (s1 : Int32) : Option (Int32 × xT) := g_X5_cancel_29  (xn b 0 s1) v1
set_option maxHeartbeats 4000000 in
set_option maxRecDepth 100000 in
theorem t_X5_cancel_26 {p : Program} {l : Launch} {e : Env} {s : State} {m : MethodId} {args : Array Value} {below : List Frame} {meth : Method} {c : Code} {D : va_G} {q : Nat → Nat} {k : Nat → ClassId} {a b : xT} {o : Nat → Int64} {z : xT} {y : Int32 × xT} (C : xCx p s m meth c cX5_cancel 3 (some .boolean) RX5 D k) {H : Heap} {locs : List Loc} (hP : va_P D vwCl (xw q k a b o) H) (hD : va_D (va_A (xw q k a z o) s.heap.size) (xw q k a b o)) (hS : va_S (va_A (xw q k a z o) s.heap.size) s.heap H locs)  {v1 s1 : Int32} {ls : Array Slot} (hl : lv_has ls 3 [(0, .ref (q 23)), (1, .int v1)]) (hf : g_X5_cancel_26  b v1 s1 = some y) : W p l e r_X5_cancel s m args below meth c H locs 0 0 (xMQ below (xQm D q k a z o (.inr (some (.int y.1), a, y.2))) args s 0 0 (va_A (xw q k a z o) s.heap.size)) (F0 m 26 ls [.int s1, .ref (q 23)]) := by
  obtain ⟨hx, hb, hml, hr, hlocks, hown, hno, hG⟩ := C
  have hK := hG.1
  have hE := hG.2.1
  have hA : ∀ u, s.heap.size ≤ u → va_A (xw q k a z o) s.heap.size u := fun u h => Or.inr h
  unfold g_X5_cancel_26 at hf
  refine va_put (D := D) (ci := 5) (v := .int s1) (ty := .int) (C := RX5) (T := TX5) (N := 19) hx hb (hwX5 hE) (fun _ h => h) tyX5 tyX5_ok nmX5 hown hK hP hD hS 23 rfl rfl 0 (by decide) (hE _ fl_X5_56 rfl _) (fun _ h9 => h9) rfl (by decide +kernel) rfl rfl (Nat.le_of_ble_eq_true rfl) dX5_cancel_26 (fun H locs hP hD hS => ?_)
  rw [xw_n23_0] at hP hD
  exact t_X5_cancel_29 ⟨hx, hb, hml, hr, hlocks, hown, hno, hG⟩ hP hD hS  (lv_sub hl [0, 1] rfl) hf
noncomputable def g_X5_cancel_0  (b : xT) (v1 : Int32) : Option (Int32 × xT) := ((f_X5_isFlight b v1).bind fun r3 => (if r3 = 0 then g_X5_cancel_26  b v1 1 else ((f_X5_isLoose b v1).bind fun r15 => (if r15 = 0 then g_X5_cancel_26  b v1 2 else g_X5_cancel_26  b v1 0))))
set_option maxHeartbeats 4000000 in
set_option maxRecDepth 100000 in
theorem t_X5_cancel_0 {p : Program} {l : Launch} {e : Env} {s : State} {m : MethodId} {args : Array Value} {below : List Frame} {meth : Method} {c : Code} {D : va_G} {q : Nat → Nat} {k : Nat → ClassId} {a b : xT} {o : Nat → Int64} {z : xT} {y : Int32 × xT} (C : xCx p s m meth c cX5_cancel 3 (some .boolean) RX5 D k) {H : Heap} {locs : List Loc} (hP : va_P D vwCl (xw q k a b o) H) (hD : va_D (va_A (xw q k a z o) s.heap.size) (xw q k a b o)) (hS : va_S (va_A (xw q k a z o) s.heap.size) s.heap H locs)  {v1 : Int32} {ls : Array Slot} (hl : lv_has ls 3 [(0, .ref (q 23)), (1, .int v1)]) (hf : g_X5_cancel_0  b v1 = some y) : W p l e r_X5_cancel s m args below meth c H locs 0 0 (xMQ below (xQm D q k a z o (.inr (some (.int y.1), a, y.2))) args s 0 0 (va_A (xw q k a z o) s.heap.size)) (F0 m 0 ls []) := by
  obtain ⟨hx, hb, hml, hr, hlocks, hown, hno, hG⟩ := C
  have hK := hG.1
  have hE := hG.2.1
  have hA : ∀ u, s.heap.size ≤ u → va_A (xw q k a z o) s.heap.size u := fun u h => Or.inr h
  unfold g_X5_cancel_0 at hf
  refine lv_aload_n hx hb dX5_cancel_0 rfl (lv_at hl 0 rfl) ?_
  refine lv_aload_n hx hb dX5_cancel_1 rfl (lv_at hl 0 rfl) ?_
  refine lv_iload_n hx hb dX5_cancel_2 rfl (lv_at hl 1 rfl) ?_
  obtain ⟨r3, hN, hf⟩ := xbind hf
  refine xgo_r (v := some (.int r3)) (xrunV (C := RX5) (As := [.int v1]) (rest := [.ref (q 23)]) (xfixm fx_X5_isFlight hx hb hml hown (by decide) (by decide) (by decide) (by decide)) hE ml_X5_91 wi_X5_isFlight wz_X5_isFlight wc_X5_isFlight wn_X5 (c_X5_isFlight l D q k a b o v1 _ hN) (va_recv (q := (RX5, TX5, 19)) (ci := 5) (q0 := 23) hK hP rfl rfl) (xpre hP hD hG) rfl rfl hl.1 rfl (lv_room (Nat.le_of_ble_eq_true rfl)) dX5_cancel_3) ?_
  refine lv_if_ne hx hb dX5_cancel_6 rfl (fun hc => ?_) (fun hc => ?_)
  · rw [if_neg hc] at hf
    refine lv_aload_n hx hb dX5_cancel_13 rfl (lv_at hl 0 rfl) ?_
    refine lv_iload_n hx hb dX5_cancel_14 rfl (lv_at hl 1 rfl) ?_
    obtain ⟨r15, hN, hf⟩ := xbind hf
    refine xgo_r (v := some (.int r15)) (xrunV (C := RX5) (As := [.int v1]) (rest := [.ref (q 23)]) (xfixm fx_X5_isLoose hx hb hml hown (by decide) (by decide) (by decide) (by decide)) hE ml_X5_66 wi_X5_isLoose wz_X5_isLoose wc_X5_isLoose wn_X5 (c_X5_isLoose l D q k a b o v1 _ hN) (va_recv (q := (RX5, TX5, 19)) (ci := 5) (q0 := 23) hK hP rfl rfl) (xpre hP hD hG) rfl rfl hl.1 rfl (lv_room (Nat.le_of_ble_eq_true rfl)) dX5_cancel_15) ?_
    refine lv_if_ne hx hb dX5_cancel_18 rfl (fun hc => ?_) (fun hc => ?_)
    · rw [if_neg hc] at hf
      refine lv_iconst (v := 0) hx hb dX5_cancel_25 (by decide) ?_
      exact t_X5_cancel_26 ⟨hx, hb, hml, hr, hlocks, hown, hno, hG⟩ hP hD hS  (lv_sub hl [0, 1] rfl) hf
    · rw [if_pos hc] at hf
      refine lv_iconst (v := 2) hx hb dX5_cancel_21 (by decide) ?_
      refine lv_goto hx hb dX5_cancel_22 rfl ?_
      exact t_X5_cancel_26 ⟨hx, hb, hml, hr, hlocks, hown, hno, hG⟩ hP hD hS  (lv_sub hl [0, 1] rfl) hf
  · rw [if_pos hc] at hf
    refine lv_iconst (v := 1) hx hb dX5_cancel_9 (by decide) ?_
    refine lv_goto hx hb dX5_cancel_10 rfl ?_
    exact t_X5_cancel_26 ⟨hx, hb, hml, hr, hlocks, hown, hno, hG⟩ hP hD hS  (lv_sub hl [0, 1] rfl) hf
noncomputable def f_X5_cancel (b : xT) (v1 : Int32) : Option (Int32 × xT) := g_X5_cancel_0 b v1
set_option maxHeartbeats 4000000 in
set_option maxRecDepth 100000 in
theorem c_X5_cancel (l : Launch) (D : va_G) (q : Nat → Nat) (k : Nat → ClassId) (sz : Nat) (a b : xT) (o : Nat → Int64) (v1 : Int32) (y : Int32 × xT) (hf : f_X5_cancel b v1 = some y) : xMet l yX5_cancel (.code yX5_cancel cX5_cancel 3 (some .boolean)) r_X5_cancel (xPcm D q k sz a b o [.ref (q 23), .int v1]) (xQm D q k a b o (.inr (some (.int y.1), a, y.2))) 0 0 (va_A (xw q k a b o) sz) := by
  refine xMet.ofW (by decide) ?_
  intro p e s m args below meth c hx hb hml hr hlocks hnm hme hno hv
  obtain ⟨rfl, hsz, hP, hD, hG⟩ := hv
  subst hsz
  have hown : s.vm.findClass RX5 = some m.cls := findClass_of_methodNamed hnm
  have hl := lv_entry ([.ref (q 23), .int v1]) (n := 3) (Nat.le_of_ble_eq_true rfl)
  rw [lg_entry_eq]
  generalize (lg_sl ([.ref (q 23), .int v1]) ++ List.replicate (3 - (lg_sl ([.ref (q 23), .int v1])).length) Slot.unset).toArray = ls at hl ⊢
  have hl : lv_has ls 3 [(0, .ref (q 23)), (1, .int v1)] := hl
  have hD := hD.self (sz := s.heap.size)
  exact t_X5_cancel_0 ⟨hx, hb, hml, hr, hlocks, hown, hno, hG⟩ hP hD va_S.rf hl hf
