abbrev r_X4_flightIn : Room := { frames := 7, cells := 1, slots := 6, locals := 111 }
noncomputable def g_X4_flightIn_0  (a : xT) (v1 : Int32) : Option (String ⊕ Int32) := ((f_X4_checkSlot a v1).bind fun r => Option.elim r ((if xin v1 240 = true then some (.inr (a.1 2 v1.toNatClampNeg)) else none)) (fun E => some (.inl E)))
set_option maxHeartbeats 4000000 in
set_option maxRecDepth 100000 in
theorem t_X4_flightIn_0 {p : Program} {l : Launch} {e : Env} {s : State} {m : MethodId} {args : Array Value} {below : List Frame} {meth : Method} {c : Code} {D : va_G} {q : Nat → Nat} {k : Nat → ClassId} {a b : xT} {o : Nat → Int64} {y : String ⊕ Int32} (C : xCx p s m meth c cX4_flightIn 2 (some .int) RX4 D k) (hl0 : l.stackTraces = false) (hst : xSt s) (hP : va_P D vwCl (xw q k a b o) s.heap) (hD : va_D (fun _ => True) (xw q k a b o))  {v1 : Int32} {ls : Array Slot} (hl : lv_has ls 2 [(0, .ref (q 0)), (1, .int v1)]) (hf : g_X4_flightIn_0  a v1 = some y) : W p l e r_X4_flightIn s m args below meth c s.heap [] 0 0 (xMQ below (xQr (xri y)) args s (xmc (xri y)) (xms (xri y)) (fun _ => False)) (F0 m 0 ls []) := by
  obtain ⟨hx, hb, hml, hr, hlocks, hown, hno, hG⟩ := C
  have hK := hG.1
  have hE := hG.2.1
  unfold g_X4_flightIn_0 at hf
  refine lv_aload_n hx hb dX4_flightIn_0 rfl (lv_at hl 0 rfl) ?_
  refine lv_iload_n hx hb dX4_flightIn_1 rfl (lv_at hl 1 rfl) ?_
  obtain ⟨r2, hN, hf⟩ := xbind hf
  cases r2 with
  | some E =>
    replace hf : some (.inl E) = some y := hf
    cases hf
    exact xgo_t (xrunV (C := RX4) (As := [.int v1]) (rest := []) (xfixm fx_X4_checkSlot hx hb hml hown (by decide) (by decide) (by decide) (by decide)) hE ml_X4_94 wi_X4_checkSlot wz_X4_checkSlot wc_X4_checkSlot wn_X4 (c_X4_checkSlot l hl0 D q k a b o v1 _ hN) (va_recv (q := (RX4, TX4, 4)) (ci := 4) (q0 := 0) hK hP rfl rfl) (xpreT hP hD hG hst) rfl rfl hl.1 rfl (lv_room (Nat.le_of_ble_eq_true rfl)) dX4_flightIn_2) (fun u H1 ce h1 h2 h3 h4 h5 => xout hno hlocks (fun u t h => ⟨u, rfl, h⟩) h1 h2 h3 h4 h5)
  | none =>
    replace hf : (if xin v1 240 = true then some (.inr (a.1 2 v1.toNatClampNeg)) else none) = some y := hf
    refine xgo_r (v := none) (xrunV (C := RX4) (As := [.int v1]) (rest := []) (xfixm fx_X4_checkSlot hx hb hml hown (by decide) (by decide) (by decide) (by decide)) hE ml_X4_94 wi_X4_checkSlot wz_X4_checkSlot wc_X4_checkSlot wn_X4 (c_X4_checkSlot l hl0 D q k a b o v1 _ hN) (va_recv (q := (RX4, TX4, 4)) (ci := 4) (q0 := 0) hK hP rfl rfl) (xpreT hP hD hG hst) rfl rfl hl.1 rfl (lv_room (Nat.le_of_ble_eq_true rfl)) dX4_flightIn_2) ?_
    refine lv_aload_n hx hb dX4_flightIn_5 rfl (lv_at hl 0 rfl) ?_
    refine va_get (D := D) (ci := 4) (v := .ref (q 1)) (C := RX4) (T := TX4) (N := 4) hx hb (hwX4 hE) (fun _ h => h) hown hK hP 0 rfl rfl 0 (by decide) (hE _ fl_X4_12 rfl _) (fun _ h9 => h9) rfl dX4_flightIn_6 ?_
    refine va_get (D := D) (ci := 3) (v := .ref (q 7)) (C := RX3) (T := TX3) (N := 3) hx hb (hwX3 hE) (fun _ h => h) hown hK hP 1 rfl rfl 2 (by decide) (hE _ fl_X4_100 rfl _) (fun _ h9 => h9) rfl dX4_flightIn_9 ?_
    refine lv_iload_n hx hb dX4_flightIn_12 rfl (lv_at hl 1 rfl) ?_
    obtain ⟨hin, hf⟩ := xguard hf
    refine va_iald hx hb hK hP 7 0 rfl rfl hin dX4_flightIn_13 ?_
    cases hf
    exact xret_i hx hb hr hlocks dX4_flightIn_14
noncomputable def f_X4_flightIn (a : xT) (v1 : Int32) : Option (String ⊕ Int32) := g_X4_flightIn_0 a v1
set_option maxHeartbeats 4000000 in
set_option maxRecDepth 100000 in
theorem c_X4_flightIn (l : Launch) (hl0 : l.stackTraces = false) (D : va_G) (q : Nat → Nat) (k : Nat → ClassId) (a b : xT) (o : Nat → Int64) (v1 : Int32) (y : String ⊕ Int32) (hf : f_X4_flightIn a v1 = some y) : xMet l yX4_flightIn (.code yX4_flightIn cX4_flightIn 2 (some .int)) r_X4_flightIn (xPcT D q k a b o [.ref (q 0), .int v1]) (xQr (xri y)) (xmc (xri y)) (xms (xri y)) (fun _ => False) := by
  refine xMet.ofW (by decide) ?_
  intro p e s m args below meth c hx hb hml hr hlocks hnm hme hno hv
  obtain ⟨rfl, hP, hD, hG, hst⟩ := hv
  have hown : s.vm.findClass RX4 = some m.cls := findClass_of_methodNamed hnm
  have hl := lv_entry ([.ref (q 0), .int v1]) (n := 2) (Nat.le_of_ble_eq_true rfl)
  rw [lg_entry_eq]
  generalize (lg_sl ([.ref (q 0), .int v1]) ++ List.replicate (2 - (lg_sl ([.ref (q 0), .int v1])).length) Slot.unset).toArray = ls at hl ⊢
  have hl : lv_has ls 2 [(0, .ref (q 0)), (1, .int v1)] := hl
  exact t_X4_flightIn_0 ⟨hx, hb, hml, hr, hlocks, hown, hno, hG⟩ hl0 hst hP hD hl hf
abbrev r_X4_flightsThatCouldMoveTo : Room := { frames := 2, cells := 0, slots := 0, locals := 44 }
noncomputable def g_X4_flightsThatCouldMoveTo_40 (K4 : Int32 → Int32 → Int32 → Option (Int32)) (a : xT) (v1 : Int32) (v2 : Int32) (v3 : Int32) : Option (Int32) := K4 v1 v2 (v3 + 1)
set_option maxHeartbeats 4000000 in
set_option maxRecDepth 100000 in
theorem t_X4_flightsThatCouldMoveTo_40 {p : Program} {l : Launch} {e : Env} {s : State} {m : MethodId} {args : Array Value} {below : List Frame} {meth : Method} {c : Code} {D : va_G} {q : Nat → Nat} {k : Nat → ClassId} {a b : xT} {o : Nat → Int64} {y : Int32} (C : xCx p s m meth c cX4_flightsThatCouldMoveTo 4 (some .int) RX4 D k) (hP : va_P D vwCl (xw q k a b o) s.heap) (hD : va_D (fun _ => True) (xw q k a b o)) {K4 : Int32 → Int32 → Int32 → Option (Int32)} (hK4 : ∀ {v1 v2 v3 : Int32} {ls : Array Slot}, lv_has ls 4 [(0, .ref (q 0)), (1, .int v1), (2, .int v2), (3, .int v3)] → K4 v1 v2 v3 = some y → W p l e r_X4_flightsThatCouldMoveTo s m args below meth c s.heap [] 0 0 (xMQ below (xQr (.inr (some (.int y)))) args s (xmc (.inr (some (.int y)))) (xms (.inr (some (.int y)))) (fun _ => False)) (F0 m 4 ls [])) {v1 v2 v3 : Int32} {ls : Array Slot} (hl : lv_has ls 4 [(0, .ref (q 0)), (1, .int v1), (2, .int v2), (3, .int v3)]) (hf : g_X4_flightsThatCouldMoveTo_40 K4 a v1 v2 v3 = some y) : W p l e r_X4_flightsThatCouldMoveTo s m args below meth c s.heap [] 0 0 (xMQ below (xQr (.inr (some (.int y)))) args s (xmc (.inr (some (.int y)))) (xms (.inr (some (.int y)))) (fun _ => False)) (F0 m 40 ls []) := by
  obtain ⟨hx, hb, hml, hr, hlocks, hown, hno, hG⟩ := C
  have hK := hG.1
  have hE := hG.2.1
  unfold g_X4_flightsThatCouldMoveTo_40 at hf
  refine lv_iinc (k := 3) (v := v3 + 1) (lv' := [(3, .int (v3 + 1)), (0, .ref (q 0)), (1, .int v1), (2, .int v2)]) hx hb dX4_flightsThatCouldMoveTo_40 hl rfl (xinc (by decide) _) (by decide) rfl (fun ls hl => ?_)
  refine lv_goto hx hb dX4_flightsThatCouldMoveTo_43 rfl ?_
  exact hK4 (lv_sub hl [1, 2, 3, 0] rfl) hf
noncomputable def g_X4_flightsThatCouldMoveTo_4s (K4 : Int32 → Int32 → Int32 → Option (Int32)) (a : xT) (v1 : Int32) (v2 : Int32) (v3 : Int32) : Option (Int32) := (if (a.2 0) ≤ v3 then some v2 else (if xin v3 60 = true then (if (a.1 6 v3.toNatClampNeg) ≤ v1 then g_X4_flightsThatCouldMoveTo_40 K4 a v1 v2 v3 else ((f_X4_couldMove a v3 v1).bind fun r31 => (if r31 = 0 then g_X4_flightsThatCouldMoveTo_40 K4 a v1 v2 v3 else g_X4_flightsThatCouldMoveTo_40 K4 a v1 (v2 + 1) v3))) else none))
set_option maxHeartbeats 4000000 in
set_option maxRecDepth 100000 in
theorem t_X4_flightsThatCouldMoveTo_4s {p : Program} {l : Launch} {e : Env} {s : State} {m : MethodId} {args : Array Value} {below : List Frame} {meth : Method} {c : Code} {D : va_G} {q : Nat → Nat} {k : Nat → ClassId} {a b : xT} {o : Nat → Int64} {y : Int32} (C : xCx p s m meth c cX4_flightsThatCouldMoveTo 4 (some .int) RX4 D k) (hP : va_P D vwCl (xw q k a b o) s.heap) (hD : va_D (fun _ => True) (xw q k a b o)) {K4 : Int32 → Int32 → Int32 → Option (Int32)} (hK4 : ∀ {v1 v2 v3 : Int32} {ls : Array Slot}, lv_has ls 4 [(0, .ref (q 0)), (1, .int v1), (2, .int v2), (3, .int v3)] → K4 v1 v2 v3 = some y → W p l e r_X4_flightsThatCouldMoveTo s m args below meth c s.heap [] 0 0 (xMQ below (xQr (.inr (some (.int y)))) args s (xmc (.inr (some (.int y)))) (xms (.inr (some (.int y)))) (fun _ => False)) (F0 m 4 ls [])) {v1 v2 v3 : Int32} {ls : Array Slot} (hl : lv_has ls 4 [(0, .ref (q 0)), (1, .int v1), (2, .int v2), (3, .int v3)]) (hf : g_X4_flightsThatCouldMoveTo_4s K4 a v1 v2 v3 = some y) : W p l e r_X4_flightsThatCouldMoveTo s m args below meth c s.heap [] 0 0 (xMQ below (xQr (.inr (some (.int y)))) args s (xmc (.inr (some (.int y)))) (xms (.inr (some (.int y)))) (fun _ => False)) (F0 m 4 ls []) := by
  obtain ⟨hx, hb, hml, hr, hlocks, hown, hno, hG⟩ := C
  have hK := hG.1
  have hE := hG.2.1
  unfold g_X4_flightsThatCouldMoveTo_4s at hf
  refine lv_iload_n hx hb dX4_flightsThatCouldMoveTo_4 rfl (lv_at hl 3 rfl) ?_
  refine lv_aload_n hx hb dX4_flightsThatCouldMoveTo_5 rfl (lv_at hl 0 rfl) ?_
  refine va_get (D := D) (ci := 4) (v := .ref (q 2)) (C := RX4) (T := TX4) (N := 4) hx hb (hwX4 hE) (fun _ h => h) hown hK hP 0 rfl rfl 1 (by decide) (hE _ fl_X4_19 rfl _) (fun _ h9 => h9) rfl dX4_flightsThatCouldMoveTo_6 ?_
  refine va_get (D := D) (ci := 1) (v := .int (a.2 0)) (C := RX1) (T := TX1) (N := 8) hx hb (hwX1 hE) (fun _ h => h) hown hK hP 2 rfl rfl 7 (by decide) (hE _ fl_X4_77 rfl _) (fun _ h9 => h9) rfl dX4_flightsThatCouldMoveTo_9 ?_
  refine lv_icmp_ge hx hb dX4_flightsThatCouldMoveTo_12 rfl (fun hc => ?_) (fun hc => ?_)
  · rw [if_pos hc] at hf
    refine lv_iload_n hx hb dX4_flightsThatCouldMoveTo_46 rfl (lv_at hl 2 rfl) ?_
    cases hf
    exact xret_i hx hb hr hlocks dX4_flightsThatCouldMoveTo_47
  · rw [if_neg hc] at hf
    refine lv_aload_n hx hb dX4_flightsThatCouldMoveTo_15 rfl (lv_at hl 0 rfl) ?_
    refine va_get (D := D) (ci := 4) (v := .ref (q 2)) (C := RX4) (T := TX4) (N := 4) hx hb (hwX4 hE) (fun _ h => h) hown hK hP 0 rfl rfl 1 (by decide) (hE _ fl_X4_19 rfl _) (fun _ h9 => h9) rfl dX4_flightsThatCouldMoveTo_16 ?_
    refine va_get (D := D) (ci := 1) (v := .ref (q 11)) (C := RX1) (T := TX1) (N := 8) hx hb (hwX1 hE) (fun _ h => h) hown hK hP 2 rfl rfl 3 (by decide) (hE _ fl_X4_90 rfl _) (fun _ h9 => h9) rfl dX4_flightsThatCouldMoveTo_19 ?_
    refine lv_iload_n hx hb dX4_flightsThatCouldMoveTo_22 rfl (lv_at hl 3 rfl) ?_
    obtain ⟨hin, hf⟩ := xguard hf
    refine va_iald hx hb hK hP 11 0 rfl rfl hin dX4_flightsThatCouldMoveTo_23 ?_
    refine lv_iload_n hx hb dX4_flightsThatCouldMoveTo_24 rfl (lv_at hl 1 rfl) ?_
    refine lv_icmp_le hx hb dX4_flightsThatCouldMoveTo_25 rfl (fun hc => ?_) (fun hc => ?_)
    · rw [if_pos hc] at hf
      exact t_X4_flightsThatCouldMoveTo_40 ⟨hx, hb, hml, hr, hlocks, hown, hno, hG⟩ hP hD hK4 (lv_sub hl [0, 1, 2, 3] rfl) hf
    · rw [if_neg hc] at hf
      refine lv_aload_n hx hb dX4_flightsThatCouldMoveTo_28 rfl (lv_at hl 0 rfl) ?_
      refine lv_iload_n hx hb dX4_flightsThatCouldMoveTo_29 rfl (lv_at hl 3 rfl) ?_
      refine lv_iload_n hx hb dX4_flightsThatCouldMoveTo_30 rfl (lv_at hl 1 rfl) ?_
      obtain ⟨r31, hN, hf⟩ := xbind hf
      refine xgo_r (v := some (.int r31)) (xrunV (C := RX4) (As := [.int v3, .int v1]) (rest := []) (xfixm fx_X4_couldMove hx hb hml hown (by decide) (by decide) (by decide) (by decide)) hE ml_X4_131 wi_X4_couldMove wz_X4_couldMove wc_X4_couldMove wn_X4 (c_X4_couldMove l D q k a b o v3 v1 _ hN) (va_recv (q := (RX4, TX4, 4)) (ci := 4) (q0 := 0) hK hP rfl rfl) (xpre hP hD hG) rfl rfl hl.1 rfl (lv_room (Nat.le_of_ble_eq_true rfl)) dX4_flightsThatCouldMoveTo_31) ?_
      refine lv_if_eq hx hb dX4_flightsThatCouldMoveTo_34 rfl (fun hc => ?_) (fun hc => ?_)
      · rw [if_pos hc] at hf
        exact t_X4_flightsThatCouldMoveTo_40 ⟨hx, hb, hml, hr, hlocks, hown, hno, hG⟩ hP hD hK4 (lv_sub hl [0, 1, 2, 3] rfl) hf
      · rw [if_neg hc] at hf
        refine lv_iinc (k := 2) (v := v2 + 1) (lv' := [(2, .int (v2 + 1)), (0, .ref (q 0)), (1, .int v1), (3, .int v3)]) hx hb dX4_flightsThatCouldMoveTo_37 hl rfl (xinc (by decide) _) (by decide) rfl (fun ls hl => ?_)
        exact t_X4_flightsThatCouldMoveTo_40 ⟨hx, hb, hml, hr, hlocks, hown, hno, hG⟩ hP hD hK4 (lv_sub hl [1, 2, 0, 3] rfl) hf
noncomputable def g_X4_flightsThatCouldMoveTo_4  (a : xT) : Nat → Int32 → Int32 → Int32 → Option (Int32) := fun n => Nat.rec (motive := fun _ => Int32 → Int32 → Int32 → Option (Int32)) (fun _ _ _ => none) (fun _ ih => g_X4_flightsThatCouldMoveTo_4s ih a) n
set_option maxHeartbeats 4000000 in
theorem t_X4_flightsThatCouldMoveTo_4 {p : Program} {l : Launch} {e : Env} {s : State} {m : MethodId} {args : Array Value} {below : List Frame} {meth : Method} {c : Code} {D : va_G} {q : Nat → Nat} {k : Nat → ClassId} {a b : xT} {o : Nat → Int64} {y : Int32} (C : xCx p s m meth c cX4_flightsThatCouldMoveTo 4 (some .int) RX4 D k) (hP : va_P D vwCl (xw q k a b o) s.heap) (hD : va_D (fun _ => True) (xw q k a b o))  (n : Nat) : ∀ {v1 v2 v3 : Int32} {ls : Array Slot}, lv_has ls 4 [(0, .ref (q 0)), (1, .int v1), (2, .int v2), (3, .int v3)] → g_X4_flightsThatCouldMoveTo_4  a n v1 v2 v3 = some y → W p l e r_X4_flightsThatCouldMoveTo s m args below meth c s.heap [] 0 0 (xMQ below (xQr (.inr (some (.int y)))) args s (xmc (.inr (some (.int y)))) (xms (.inr (some (.int y)))) (fun _ => False)) (F0 m 4 ls []) := by
  induction n with
  | zero =>
    intro _ _ _ _ _ hf
    have h9 : (none : Option (Int32)) = some y := hf
    cases h9
  | succ n ih =>
    intro _ _ _ _ hl hf
    exact t_X4_flightsThatCouldMoveTo_4s C hP hD (K4 := g_X4_flightsThatCouldMoveTo_4  a n) ih hl hf
noncomputable def g_X4_flightsThatCouldMoveTo_0  (a : xT) (v1 : Int32) : Option (Int32) := g_X4_flightsThatCouldMoveTo_4  a 1000 v1 0 0
set_option maxHeartbeats 4000000 in
set_option maxRecDepth 100000 in
theorem t_X4_flightsThatCouldMoveTo_0 {p : Program} {l : Launch} {e : Env} {s : State} {m : MethodId} {args : Array Value} {below : List Frame} {meth : Method} {c : Code} {D : va_G} {q : Nat → Nat} {k : Nat → ClassId} {a b : xT} {o : Nat → Int64} {y : Int32} (C : xCx p s m meth c cX4_flightsThatCouldMoveTo 4 (some .int) RX4 D k) (hP : va_P D vwCl (xw q k a b o) s.heap) (hD : va_D (fun _ => True) (xw q k a b o))  {v1 : Int32} {ls : Array Slot} (hl : lv_has ls 4 [(0, .ref (q 0)), (1, .int v1)]) (hf : g_X4_flightsThatCouldMoveTo_0  a v1 = some y) : W p l e r_X4_flightsThatCouldMoveTo s m args below meth c s.heap [] 0 0 (xMQ below (xQr (.inr (some (.int y)))) args s (xmc (.inr (some (.int y)))) (xms (.inr (some (.int y)))) (fun _ => False)) (F0 m 0 ls []) := by
  obtain ⟨hx, hb, hml, hr, hlocks, hown, hno, hG⟩ := C
  have hK := hG.1
  have hE := hG.2.1
  unfold g_X4_flightsThatCouldMoveTo_0 at hf
  refine lv_iconst (v := 0) hx hb dX4_flightsThatCouldMoveTo_0 (by decide) ?_
  refine lv_istore_n (lv' := [(2, .int 0), (0, .ref (q 0)), (1, .int v1)]) hx hb dX4_flightsThatCouldMoveTo_1 rfl hl (by decide) rfl (fun ls hl => ?_)
  refine lv_iconst (v := 0) hx hb dX4_flightsThatCouldMoveTo_2 (by decide) ?_
  refine lv_istore_n (lv' := [(3, .int 0), (2, .int 0), (0, .ref (q 0)), (1, .int v1)]) hx hb dX4_flightsThatCouldMoveTo_3 rfl hl (by decide) rfl (fun ls hl => ?_)
  exact t_X4_flightsThatCouldMoveTo_4 ⟨hx, hb, hml, hr, hlocks, hown, hno, hG⟩ hP hD  1000 (lv_sub hl [2, 3, 1, 0] rfl) hf
noncomputable def f_X4_flightsThatCouldMoveTo (a : xT) (v1 : Int32) : Option (Int32) := g_X4_flightsThatCouldMoveTo_0 a v1
set_option maxHeartbeats 4000000 in
set_option maxRecDepth 100000 in
theorem c_X4_flightsThatCouldMoveTo (l : Launch) (D : va_G) (q : Nat → Nat) (k : Nat → ClassId) (a b : xT) (o : Nat → Int64) (v1 : Int32) (y : Int32) (hf : f_X4_flightsThatCouldMoveTo a v1 = some y) : xMet l yX4_flightsThatCouldMoveTo (.code yX4_flightsThatCouldMoveTo cX4_flightsThatCouldMoveTo 4 (some .int)) r_X4_flightsThatCouldMoveTo (xPc D q k a b o [.ref (q 0), .int v1]) (xQr (.inr (some (.int y)))) (xmc (.inr (some (.int y)))) (xms (.inr (some (.int y)))) (fun _ => False) := by
  refine xMet.ofW (by decide) ?_
  intro p e s m args below meth c hx hb hml hr hlocks hnm hme hno hv
  obtain ⟨rfl, hP, hD, hG⟩ := hv
  have hown : s.vm.findClass RX4 = some m.cls := findClass_of_methodNamed hnm
  have hl := lv_entry ([.ref (q 0), .int v1]) (n := 4) (Nat.le_of_ble_eq_true rfl)
  rw [lg_entry_eq]
  generalize (lg_sl ([.ref (q 0), .int v1]) ++ List.replicate (4 - (lg_sl ([.ref (q 0), .int v1])).length) Slot.unset).toArray = ls at hl ⊢
  have hl : lv_has ls 4 [(0, .ref (q 0)), (1, .int v1)] := hl
  exact t_X4_flightsThatCouldMoveTo_0 ⟨hx, hb, hml, hr, hlocks, hown, hno, hG⟩ hP hD hl hf
abbrev r_X4_gaps : Room := { frames := 3, cells := 0, slots := 0, locals := 67 }
noncomputable def g_X4_gaps_30 (K4 : Int32 → Int32 → Option (Int32)) (a : xT) (v1 : Int32) (v2 : Int32) : Option (Int32) := K4 v1 (v2 + 1)
set_option maxHeartbeats 4000000 in
set_option maxRecDepth 100000 in
theorem t_X4_gaps_30 {p : Program} {l : Launch} {e : Env} {s : State} {m : MethodId} {args : Array Value} {below : List Frame} {meth : Method} {c : Code} {D : va_G} {q : Nat → Nat} {k : Nat → ClassId} {a b : xT} {o : Nat → Int64} {y : Int32} (C : xCx p s m meth c cX4_gaps 3 (some .int) RX4 D k) (hP : va_P D vwCl (xw q k a b o) s.heap) (hD : va_D (fun _ => True) (xw q k a b o)) {K4 : Int32 → Int32 → Option (Int32)} (hK4 : ∀ {v1 v2 : Int32} {ls : Array Slot}, lv_has ls 3 [(0, .ref (q 0)), (1, .int v1), (2, .int v2)] → K4 v1 v2 = some y → W p l e r_X4_gaps s m args below meth c s.heap [] 0 0 (xMQ below (xQr (.inr (some (.int y)))) args s (xmc (.inr (some (.int y)))) (xms (.inr (some (.int y)))) (fun _ => False)) (F0 m 4 ls [])) {v1 v2 : Int32} {ls : Array Slot} (hl : lv_has ls 3 [(0, .ref (q 0)), (1, .int v1), (2, .int v2)]) (hf : g_X4_gaps_30 K4 a v1 v2 = some y) : W p l e r_X4_gaps s m args below meth c s.heap [] 0 0 (xMQ below (xQr (.inr (some (.int y)))) args s (xmc (.inr (some (.int y)))) (xms (.inr (some (.int y)))) (fun _ => False)) (F0 m 30 ls []) := by
  obtain ⟨hx, hb, hml, hr, hlocks, hown, hno, hG⟩ := C
  have hK := hG.1
  have hE := hG.2.1
  unfold g_X4_gaps_30 at hf
  refine lv_iinc (k := 2) (v := v2 + 1) (lv' := [(2, .int (v2 + 1)), (0, .ref (q 0)), (1, .int v1)]) hx hb dX4_gaps_30 hl rfl (xinc (by decide) _) (by decide) rfl (fun ls hl => ?_)
  refine lv_goto hx hb dX4_gaps_33 rfl ?_
  exact hK4 (lv_sub hl [1, 2, 0] rfl) hf
noncomputable def g_X4_gaps_4s (K4 : Int32 → Int32 → Option (Int32)) (a : xT) (v1 : Int32) (v2 : Int32) : Option (Int32) := (if 240 ≤ v2 then some v1 else ((f_X3_isEmpty a v2).bind fun r16 => (if r16 = 0 then g_X4_gaps_30 K4 a v1 v2 else ((f_X4_flightsThatCouldMoveTo a v2).bind fun r25 => g_X4_gaps_30 K4 a (v1 + r25) v2))))
set_option maxHeartbeats 4000000 in
set_option maxRecDepth 100000 in
theorem t_X4_gaps_4s {p : Program} {l : Launch} {e : Env} {s : State} {m : MethodId} {args : Array Value} {below : List Frame} {meth : Method} {c : Code} {D : va_G} {q : Nat → Nat} {k : Nat → ClassId} {a b : xT} {o : Nat → Int64} {y : Int32} (C : xCx p s m meth c cX4_gaps 3 (some .int) RX4 D k) (hP : va_P D vwCl (xw q k a b o) s.heap) (hD : va_D (fun _ => True) (xw q k a b o)) {K4 : Int32 → Int32 → Option (Int32)} (hK4 : ∀ {v1 v2 : Int32} {ls : Array Slot}, lv_has ls 3 [(0, .ref (q 0)), (1, .int v1), (2, .int v2)] → K4 v1 v2 = some y → W p l e r_X4_gaps s m args below meth c s.heap [] 0 0 (xMQ below (xQr (.inr (some (.int y)))) args s (xmc (.inr (some (.int y)))) (xms (.inr (some (.int y)))) (fun _ => False)) (F0 m 4 ls [])) {v1 v2 : Int32} {ls : Array Slot} (hl : lv_has ls 3 [(0, .ref (q 0)), (1, .int v1), (2, .int v2)]) (hf : g_X4_gaps_4s K4 a v1 v2 = some y) : W p l e r_X4_gaps s m args below meth c s.heap [] 0 0 (xMQ below (xQr (.inr (some (.int y)))) args s (xmc (.inr (some (.int y)))) (xms (.inr (some (.int y)))) (fun _ => False)) (F0 m 4 ls []) := by
  obtain ⟨hx, hb, hml, hr, hlocks, hown, hno, hG⟩ := C
  have hK := hG.1
  have hE := hG.2.1
  unfold g_X4_gaps_4s at hf
  refine lv_iload_n hx hb dX4_gaps_4 rfl (lv_at hl 2 rfl) ?_
  refine lv_sipush (v := 240) hx hb dX4_gaps_5 (by decide) ?_
  refine lv_icmp_ge hx hb dX4_gaps_8 rfl (fun hc => ?_) (fun hc => ?_)
  · rw [if_pos hc] at hf
    refine lv_iload_n hx hb dX4_gaps_36 rfl (lv_at hl 1 rfl) ?_
    cases hf
    exact xret_i hx hb hr hlocks dX4_gaps_37
  · rw [if_neg hc] at hf
    refine lv_aload_n hx hb dX4_gaps_11 rfl (lv_at hl 0 rfl) ?_
    refine va_get (D := D) (ci := 4) (v := .ref (q 1)) (C := RX4) (T := TX4) (N := 4) hx hb (hwX4 hE) (fun _ h => h) hown hK hP 0 rfl rfl 0 (by decide) (hE _ fl_X4_12 rfl _) (fun _ h9 => h9) rfl dX4_gaps_12 ?_
    refine lv_iload_n hx hb dX4_gaps_15 rfl (lv_at hl 2 rfl) ?_
    obtain ⟨r16, hN, hf⟩ := xbind hf
    refine xgo_r (v := some (.int r16)) (xrunV (C := RX3) (As := [.int v2]) (rest := []) (xfixm fx_X3_isEmpty hx hb hml hown (by decide) (by decide) (by decide) (by decide)) hE ml_X4_169 wi_X3_isEmpty wz_X3_isEmpty wc_X3_isEmpty wn_X3 (c_X3_isEmpty l D q k a b o v2 _ hN) (va_recv (q := (RX3, TX3, 3)) (ci := 3) (q0 := 1) hK hP rfl rfl) (xpre hP hD hG) rfl rfl hl.1 rfl (lv_room (Nat.le_of_ble_eq_true rfl)) dX4_gaps_16) ?_
    refine lv_if_eq hx hb dX4_gaps_19 rfl (fun hc => ?_) (fun hc => ?_)
    · rw [if_pos hc] at hf
      exact t_X4_gaps_30 ⟨hx, hb, hml, hr, hlocks, hown, hno, hG⟩ hP hD hK4 (lv_sub hl [0, 1, 2] rfl) hf
    · rw [if_neg hc] at hf
      refine lv_iload_n hx hb dX4_gaps_22 rfl (lv_at hl 1 rfl) ?_
      refine lv_aload_n hx hb dX4_gaps_23 rfl (lv_at hl 0 rfl) ?_
      refine lv_iload_n hx hb dX4_gaps_24 rfl (lv_at hl 2 rfl) ?_
      obtain ⟨r25, hN, hf⟩ := xbind hf
      refine xgo_r (v := some (.int r25)) (xrunV (C := RX4) (As := [.int v2]) (rest := [.int v1]) (xfixm fx_X4_flightsThatCouldMoveTo hx hb hml hown (by decide) (by decide) (by decide) (by decide)) hE ml_X4_172 wi_X4_flightsThatCouldMoveTo wz_X4_flightsThatCouldMoveTo wc_X4_flightsThatCouldMoveTo wn_X4 (c_X4_flightsThatCouldMoveTo l D q k a b o v2 _ hN) (va_recv (q := (RX4, TX4, 4)) (ci := 4) (q0 := 0) hK hP rfl rfl) (xpre hP hD hG) rfl rfl hl.1 rfl (lv_room (Nat.le_of_ble_eq_true rfl)) dX4_gaps_25) ?_
      refine lv_iadd hx hb dX4_gaps_28 ?_
      refine lv_istore_n (lv' := [(1, .int (v1 + r25)), (0, .ref (q 0)), (2, .int v2)]) hx hb dX4_gaps_29 rfl hl (by decide) rfl (fun ls hl => ?_)
      exact t_X4_gaps_30 ⟨hx, hb, hml, hr, hlocks, hown, hno, hG⟩ hP hD hK4 (lv_sub hl [1, 0, 2] rfl) hf
noncomputable def g_X4_gaps_4  (a : xT) : Nat → Int32 → Int32 → Option (Int32) := fun n => Nat.rec (motive := fun _ => Int32 → Int32 → Option (Int32)) (fun _ _ => none) (fun _ ih => g_X4_gaps_4s ih a) n
set_option maxHeartbeats 4000000 in
theorem t_X4_gaps_4 {p : Program} {l : Launch} {e : Env} {s : State} {m : MethodId} {args : Array Value} {below : List Frame} {meth : Method} {c : Code} {D : va_G} {q : Nat → Nat} {k : Nat → ClassId} {a b : xT} {o : Nat → Int64} {y : Int32} (C : xCx p s m meth c cX4_gaps 3 (some .int) RX4 D k) (hP : va_P D vwCl (xw q k a b o) s.heap) (hD : va_D (fun _ => True) (xw q k a b o))  (n : Nat) : ∀ {v1 v2 : Int32} {ls : Array Slot}, lv_has ls 3 [(0, .ref (q 0)), (1, .int v1), (2, .int v2)] → g_X4_gaps_4  a n v1 v2 = some y → W p l e r_X4_gaps s m args below meth c s.heap [] 0 0 (xMQ below (xQr (.inr (some (.int y)))) args s (xmc (.inr (some (.int y)))) (xms (.inr (some (.int y)))) (fun _ => False)) (F0 m 4 ls []) := by
  induction n with
  | zero =>
    intro _ _ _ _ hf
    have h9 : (none : Option (Int32)) = some y := hf
    cases h9
  | succ n ih =>
    intro _ _ _ hl hf
    exact t_X4_gaps_4s C hP hD (K4 := g_X4_gaps_4  a n) ih hl hf
noncomputable def g_X4_gaps_0  (a : xT)  : Option (Int32) := g_X4_gaps_4  a 1000 0 0
set_option maxHeartbeats 4000000 in
set_option maxRecDepth 100000 in
theorem t_X4_gaps_0 {p : Program} {l : Launch} {e : Env} {s : State} {m : MethodId} {args : Array Value} {below : List Frame} {meth : Method} {c : Code} {D : va_G} {q : Nat → Nat} {k : Nat → ClassId} {a b : xT} {o : Nat → Int64} {y : Int32} (C : xCx p s m meth c cX4_gaps 3 (some .int) RX4 D k) (hP : va_P D vwCl (xw q k a b o) s.heap) (hD : va_D (fun _ => True) (xw q k a b o))  {ls : Array Slot} (hl : lv_has ls 3 [(0, .ref (q 0))]) (hf : g_X4_gaps_0  a  = some y) : W p l e r_X4_gaps s m args below meth c s.heap [] 0 0 (xMQ below (xQr (.inr (some (.int y)))) args s (xmc (.inr (some (.int y)))) (xms (.inr (some (.int y)))) (fun _ => False)) (F0 m 0 ls []) := by
  obtain ⟨hx, hb, hml, hr, hlocks, hown, hno, hG⟩ := C
  have hK := hG.1
  have hE := hG.2.1
  unfold g_X4_gaps_0 at hf
  refine lv_iconst (v := 0) hx hb dX4_gaps_0 (by decide) ?_
  refine lv_istore_n (lv' := [(1, .int 0), (0, .ref (q 0))]) hx hb dX4_gaps_1 rfl hl (by decide) rfl (fun ls hl => ?_)
  refine lv_iconst (v := 0) hx hb dX4_gaps_2 (by decide) ?_
  refine lv_istore_n (lv' := [(2, .int 0), (1, .int 0), (0, .ref (q 0))]) hx hb dX4_gaps_3 rfl hl (by decide) rfl (fun ls hl => ?_)
  exact t_X4_gaps_4 ⟨hx, hb, hml, hr, hlocks, hown, hno, hG⟩ hP hD  1000 (lv_sub hl [2, 1, 0] rfl) hf
noncomputable def f_X4_gaps (a : xT)  : Option (Int32) := g_X4_gaps_0 a 
set_option maxHeartbeats 4000000 in
set_option maxRecDepth 100000 in
theorem c_X4_gaps (l : Launch) (D : va_G) (q : Nat → Nat) (k : Nat → ClassId) (a b : xT) (o : Nat → Int64)  (y : Int32) (hf : f_X4_gaps a  = some y) : xMet l yX4_gaps (.code yX4_gaps cX4_gaps 3 (some .int)) r_X4_gaps (xPc D q k a b o [.ref (q 0)]) (xQr (.inr (some (.int y)))) (xmc (.inr (some (.int y)))) (xms (.inr (some (.int y)))) (fun _ => False) := by
  refine xMet.ofW (by decide) ?_
  intro p e s m args below meth c hx hb hml hr hlocks hnm hme hno hv
  obtain ⟨rfl, hP, hD, hG⟩ := hv
  have hown : s.vm.findClass RX4 = some m.cls := findClass_of_methodNamed hnm
  have hl := lv_entry ([.ref (q 0)]) (n := 3) (Nat.le_of_ble_eq_true rfl)
  rw [lg_entry_eq]
  generalize (lg_sl ([.ref (q 0)]) ++ List.replicate (3 - (lg_sl ([.ref (q 0)])).length) Slot.unset).toArray = ls at hl ⊢
  have hl : lv_has ls 3 [(0, .ref (q 0))] := hl
  exact t_X4_gaps_0 ⟨hx, hb, hml, hr, hlocks, hown, hno, hG⟩ hP hD hl hf
abbrev r_X4_later : Room := { frames := 7, cells := 1, slots := 6, locals := 111 }
noncomputable def g_X4_later_25  (z : xT)  : Option (String ⊕ (Int32 × xT)) := some (.inl "java/lang/IllegalArgumentException")
set_option maxHeartbeats 4000000 in
set_option maxRecDepth 100000 in
theorem t_X4_later_25 {p : Program} {l : Launch} {e : Env} {s : State} {m : MethodId} {args : Array Value} {below : List Frame} {meth : Method} {c : Code} {D : va_G} {q : Nat → Nat} {k : Nat → ClassId} {b : xT} {o : Nat → Int64} {z : xT} {y : String ⊕ (Int32 × xT)} (C : xCx p s m meth c cX4_later 3 (some .boolean) RX4 D k) (hl0 : l.stackTraces = false) (hst : xSt s) (hP : va_P D vwCl (xw q k z b o) s.heap) (hD : va_D (va_A (xw q k z b o) s.heap.size) (xw q k z b o))  {ls : Array Slot} (hl : lv_has ls 3 []) (hf : g_X4_later_25  z  = some y) : W p l e r_X4_later s m args below meth c s.heap [] 0 0 (xMQ below (xQm D q k z b o (Sum.map id (fun z => (some (.int z.1), z.2, b)) y)) args s (xmm (Sum.map id (fun z => (some (.int z.1), z.2, b)) y)) (xmn (Sum.map id (fun z => (some (.int z.1), z.2, b)) y)) (xfr q k z b o s.heap.size (Sum.map id (fun z => (some (.int z.1), z.2, b)) y))) (F0 m 25 ls []) := by
  obtain ⟨hx, hb, hml, hr, hlocks, hown, hno, hG⟩ := C
  have hK := hG.1
  have hE := hG.2.1
  have hS : va_S (va_A (xw q k z b o) s.heap.size) s.heap s.heap [] := va_S.rf
  have hA : ∀ u, s.heap.size ≤ u → va_A (xw q k z b o) s.heap.size u := fun u h => Or.inr h
  unfold g_X4_later_25 at hf
  cases hf
  obtain ⟨sa, hsa⟩ := hG.2.2 (RX4, 75, "earliest minute out of bounds") (by decide +kernel)
  exact xthrow (own := RX4) (cls := "java/lang/IllegalArgumentException") (text := "earliest minute out of bounds") (names := ["java/lang/RuntimeException", "java/lang/Exception"]) (ik := 37) (is := 75) (ic := 41) (sa := sa) hx hb hl0 hown hE hst (by decide +kernel) (by decide +kernel) tw_X4_41 kl_X4_37 wn_IllegalArgumentException hsa hno hlocks (hl.1.trans hml.symm) dX4_later_25 dX4_later_28 dX4_later_29 dX4_later_31 dX4_later_34 (by decide) (by decide) (by decide) (by decide) (fun u t h => ⟨u, rfl, h⟩)
noncomputable def g_X4_later_83  (a : xT)  : Option (String ⊕ (Int32 × xT)) := some (.inr (0, a))
set_option maxHeartbeats 4000000 in
set_option maxRecDepth 100000 in
theorem t_X4_later_83 {p : Program} {l : Launch} {e : Env} {s : State} {m : MethodId} {args : Array Value} {below : List Frame} {meth : Method} {c : Code} {D : va_G} {q : Nat → Nat} {k : Nat → ClassId} {a b : xT} {o : Nat → Int64} {z : xT} {y : String ⊕ (Int32 × xT)} (C : xCx p s m meth c cX4_later 3 (some .boolean) RX4 D k) (hl0 : l.stackTraces = false) (hst : xSt s) {H : Heap} {locs : List Loc} (hP : va_P D vwCl (xw q k a b o) H) (hD : va_D (va_A (xw q k z b o) s.heap.size) (xw q k a b o)) (hS : va_S (va_A (xw q k z b o) s.heap.size) s.heap H locs)  {ls : Array Slot} (hl : lv_has ls 3 []) (hf : g_X4_later_83  a  = some y) : W p l e r_X4_later s m args below meth c H locs 0 0 (xMQ below (xQm D q k z b o (Sum.map id (fun z => (some (.int z.1), z.2, b)) y)) args s (xmm (Sum.map id (fun z => (some (.int z.1), z.2, b)) y)) (xmn (Sum.map id (fun z => (some (.int z.1), z.2, b)) y)) (xfr q k z b o s.heap.size (Sum.map id (fun z => (some (.int z.1), z.2, b)) y))) (F0 m 83 ls []) := by
  obtain ⟨hx, hb, hml, hr, hlocks, hown, hno, hG⟩ := C
  have hK := hG.1
  have hE := hG.2.1
  have hA : ∀ u, s.heap.size ≤ u → va_A (xw q k z b o) s.heap.size u := fun u h => Or.inr h
  unfold g_X4_later_83 at hf
  refine lv_iconst (v := 0) hx hb dX4_later_83 (by decide) ?_
  cases hf
  exact xretm_z hx hb hr xz0 hlocks hP hS dX4_later_84
noncomputable def g_X4_later_50  (a : xT) (v1 : Int32) : Option (String ⊕ (Int32 × xT)) := (if xin v1 60 = true then (if (a.1 6 v1.toNatClampNeg) = (-1) then g_X4_later_83  a  else (if xin v1 60 = true then ((f_X1_canUse a v1 (a.1 6 v1.toNatClampNeg)).bind fun r77 => (if r77 = 0 then ((f_X4_takeOut a v1 4).bind fun z88 => some (.inr (1, z88))) else g_X4_later_83  a )) else none)) else none)
set_option maxHeartbeats 4000000 in
set_option maxRecDepth 100000 in
theorem t_X4_later_50 {p : Program} {l : Launch} {e : Env} {s : State} {m : MethodId} {args : Array Value} {below : List Frame} {meth : Method} {c : Code} {D : va_G} {q : Nat → Nat} {k : Nat → ClassId} {a b : xT} {o : Nat → Int64} {z : xT} {y : String ⊕ (Int32 × xT)} (C : xCx p s m meth c cX4_later 3 (some .boolean) RX4 D k) (hl0 : l.stackTraces = false) (hst : xSt s) {H : Heap} {locs : List Loc} (hP : va_P D vwCl (xw q k a b o) H) (hD : va_D (va_A (xw q k z b o) s.heap.size) (xw q k a b o)) (hS : va_S (va_A (xw q k z b o) s.heap.size) s.heap H locs)  {v1 : Int32} {ls : Array Slot} (hl : lv_has ls 3 [(0, .ref (q 0)), (1, .int v1)]) (hf : g_X4_later_50  a v1 = some y) : W p l e r_X4_later s m args below meth c H locs 0 0 (xMQ below (xQm D q k z b o (Sum.map id (fun z => (some (.int z.1), z.2, b)) y)) args s (xmm (Sum.map id (fun z => (some (.int z.1), z.2, b)) y)) (xmn (Sum.map id (fun z => (some (.int z.1), z.2, b)) y)) (xfr q k z b o s.heap.size (Sum.map id (fun z => (some (.int z.1), z.2, b)) y))) (F0 m 50 ls []) := by
  obtain ⟨hx, hb, hml, hr, hlocks, hown, hno, hG⟩ := C
  have hK := hG.1
  have hE := hG.2.1
  have hA : ∀ u, s.heap.size ≤ u → va_A (xw q k z b o) s.heap.size u := fun u h => Or.inr h
  unfold g_X4_later_50 at hf
  refine lv_aload_n hx hb dX4_later_50 rfl (lv_at hl 0 rfl) ?_
  refine va_get (D := D) (ci := 4) (v := .ref (q 2)) (C := RX4) (T := TX4) (N := 4) hx hb (hwX4 hE) (fun _ h => h) hown hK hP 0 rfl rfl 1 (by decide) (hE _ fl_X4_19 rfl _) (fun _ h9 => h9) rfl dX4_later_51 ?_
  refine va_get (D := D) (ci := 1) (v := .ref (q 11)) (C := RX1) (T := TX1) (N := 8) hx hb (hwX1 hE) (fun _ h => h) hown hK hP 2 rfl rfl 3 (by decide) (hE _ fl_X4_90 rfl _) (fun _ h9 => h9) rfl dX4_later_54 ?_
  refine lv_iload_n hx hb dX4_later_57 rfl (lv_at hl 1 rfl) ?_
  obtain ⟨hin, hf⟩ := xguard hf
  refine va_iald hx hb hK hP 11 0 rfl rfl hin dX4_later_58 ?_
  refine lv_iconst (v := -1) hx hb dX4_later_59 (by decide) ?_
  refine lv_icmp_eq hx hb dX4_later_60 rfl (fun hc => ?_) (fun hc => ?_)
  · rw [if_pos hc] at hf
    exact t_X4_later_83 ⟨hx, hb, hml, hr, hlocks, hown, hno, hG⟩ hl0 hst hP hD hS  (lv_sub hl [] rfl) hf
  · rw [if_neg hc] at hf
    refine lv_aload_n hx hb dX4_later_63 rfl (lv_at hl 0 rfl) ?_
    refine va_get (D := D) (ci := 4) (v := .ref (q 2)) (C := RX4) (T := TX4) (N := 4) hx hb (hwX4 hE) (fun _ h => h) hown hK hP 0 rfl rfl 1 (by decide) (hE _ fl_X4_19 rfl _) (fun _ h9 => h9) rfl dX4_later_64 ?_
    refine lv_iload_n hx hb dX4_later_67 rfl (lv_at hl 1 rfl) ?_
    refine lv_aload_n hx hb dX4_later_68 rfl (lv_at hl 0 rfl) ?_
    refine va_get (D := D) (ci := 4) (v := .ref (q 2)) (C := RX4) (T := TX4) (N := 4) hx hb (hwX4 hE) (fun _ h => h) hown hK hP 0 rfl rfl 1 (by decide) (hE _ fl_X4_19 rfl _) (fun _ h9 => h9) rfl dX4_later_69 ?_
    refine va_get (D := D) (ci := 1) (v := .ref (q 11)) (C := RX1) (T := TX1) (N := 8) hx hb (hwX1 hE) (fun _ h => h) hown hK hP 2 rfl rfl 3 (by decide) (hE _ fl_X4_90 rfl _) (fun _ h9 => h9) rfl dX4_later_72 ?_
    refine lv_iload_n hx hb dX4_later_75 rfl (lv_at hl 1 rfl) ?_
    obtain ⟨hin, hf⟩ := xguard hf
    refine va_iald hx hb hK hP 11 0 rfl rfl hin dX4_later_76 ?_
    obtain ⟨r77, hN, hf⟩ := xbind hf
    refine xgo_r (v := some (.int r77)) (xrunV (C := RX1) (As := [.int v1, .int (a.1 6 v1.toNatClampNeg)]) (rest := []) (xfixm fx_X1_canUse hx hb hml hown (by decide) (by decide) (by decide) (by decide)) hE ml_X4_109 wi_X1_canUse wz_X1_canUse wc_X1_canUse wn_X1 (c_X1_canUse l D q k a b o v1 (a.1 6 v1.toNatClampNeg) _ hN) (va_recv (q := (RX1, TX1, 8)) (ci := 1) (q0 := 2) hK hP rfl rfl) (xpre hP hD hG) rfl rfl hl.1 rfl (lv_room (Nat.le_of_ble_eq_true rfl)) dX4_later_77) ?_
    refine lv_if_eq hx hb dX4_later_80 rfl (fun hc => ?_) (fun hc => ?_)
    · rw [if_pos hc] at hf
      refine lv_aload_n hx hb dX4_later_85 rfl (lv_at hl 0 rfl) ?_
      refine lv_iload_n hx hb dX4_later_86 rfl (lv_at hl 1 rfl) ?_
      refine lv_iconst (v := 4) hx hb dX4_later_87 (by decide) ?_
      obtain ⟨z88, hN, hf⟩ := xbind hf
      refine xgo_m (v := none) (a1 := z88) (b1 := b) (xrunV (C := RX4) (As := [.int v1, .int 4]) (rest := []) (xfixm fx_X4_takeOut hx hb hml hown (by decide) (by decide) (by decide) (by decide)) hE ml_X4_112 wi_X4_takeOut wz_X4_takeOut wc_X4_takeOut wn_X4 (c_X4_takeOut l D q k _ a b o v1 4 _ hN) (va_recv (q := (RX4, TX4, 4)) (ci := 4) (q0 := 0) hK hP rfl rfl) (xprem hP hD hG) rfl rfl hl.1 rfl (lv_room (Nat.le_of_ble_eq_true rfl)) dX4_later_88) hD hS hA (fun H locs hP hD hS => ?_)
      refine lv_iconst (v := 1) hx hb dX4_later_91 (by decide) ?_
      cases hf
      exact xretm_z hx hb hr xz1 hlocks hP hS dX4_later_92
    · rw [if_neg hc] at hf
      exact t_X4_later_83 ⟨hx, hb, hml, hr, hlocks, hown, hno, hG⟩ hl0 hst hP hD hS  (lv_sub hl [] rfl) hf
noncomputable def g_X4_later_0  (z : xT) (v1 : Int32) (v2 : Int32) : Option (String ⊕ (Int32 × xT)) := ((f_X4_checkFlight z v1).bind fun r => Option.elim r ((if xin v1 60 = true then (if v2 < (z.1 5 v1.toNatClampNeg) then g_X4_later_25  z  else (if v2 ≤ 300 then ((f_X4_checkPlannable z v1).bind fun r => Option.elim r ((if xin v1 60 = true then g_X4_later_50  (xs z 5 v1.toNatClampNeg v2) v1 else none)) (fun E => some (.inl E))) else g_X4_later_25  z )) else none)) (fun E => some (.inl E)))
set_option maxHeartbeats 4000000 in
set_option maxRecDepth 100000 in
theorem t_X4_later_0 {p : Program} {l : Launch} {e : Env} {s : State} {m : MethodId} {args : Array Value} {below : List Frame} {meth : Method} {c : Code} {D : va_G} {q : Nat → Nat} {k : Nat → ClassId} {b : xT} {o : Nat → Int64} {z : xT} {y : String ⊕ (Int32 × xT)} (C : xCx p s m meth c cX4_later 3 (some .boolean) RX4 D k) (hl0 : l.stackTraces = false) (hst : xSt s) (hP : va_P D vwCl (xw q k z b o) s.heap) (hD : va_D (va_A (xw q k z b o) s.heap.size) (xw q k z b o))  {v1 v2 : Int32} {ls : Array Slot} (hl : lv_has ls 3 [(0, .ref (q 0)), (1, .int v1), (2, .int v2)]) (hf : g_X4_later_0  z v1 v2 = some y) : W p l e r_X4_later s m args below meth c s.heap [] 0 0 (xMQ below (xQm D q k z b o (Sum.map id (fun z => (some (.int z.1), z.2, b)) y)) args s (xmm (Sum.map id (fun z => (some (.int z.1), z.2, b)) y)) (xmn (Sum.map id (fun z => (some (.int z.1), z.2, b)) y)) (xfr q k z b o s.heap.size (Sum.map id (fun z => (some (.int z.1), z.2, b)) y))) (F0 m 0 ls []) := by
  obtain ⟨hx, hb, hml, hr, hlocks, hown, hno, hG⟩ := C
  have hK := hG.1
  have hE := hG.2.1
  have hS : va_S (va_A (xw q k z b o) s.heap.size) s.heap s.heap [] := va_S.rf
  have hA : ∀ u, s.heap.size ≤ u → va_A (xw q k z b o) s.heap.size u := fun u h => Or.inr h
  unfold g_X4_later_0 at hf
  refine lv_aload_n hx hb dX4_later_0 rfl (lv_at hl 0 rfl) ?_
  refine lv_iload_n hx hb dX4_later_1 rfl (lv_at hl 1 rfl) ?_
  obtain ⟨r2, hN, hf⟩ := xbind hf
  cases r2 with
  | some E =>
    replace hf : some (.inl E) = some y := hf
    cases hf
    exact xgo_t (xrunV (C := RX4) (As := [.int v1]) (rest := []) (xfixm fx_X4_checkFlight hx hb hml hown (by decide) (by decide) (by decide) (by decide)) hE ml_X4_87 wi_X4_checkFlight wz_X4_checkFlight wc_X4_checkFlight wn_X4 (c_X4_checkFlight l hl0 D q k z b o v1 _ hN) (va_recv (q := (RX4, TX4, 4)) (ci := 4) (q0 := 0) hK hP rfl rfl) (xpreT hP hD hG hst) rfl rfl hl.1 rfl (lv_room (Nat.le_of_ble_eq_true rfl)) dX4_later_2) (fun u H1 ce h1 h2 h3 h4 h5 => xout hno hlocks (fun u t h => ⟨u, rfl, h⟩) h1 h2 h3 h4 h5)
  | none =>
    replace hf : (if xin v1 60 = true then (if v2 < (z.1 5 v1.toNatClampNeg) then g_X4_later_25  z  else (if v2 ≤ 300 then ((f_X4_checkPlannable z v1).bind fun r => Option.elim r ((if xin v1 60 = true then g_X4_later_50  (xs z 5 v1.toNatClampNeg v2) v1 else none)) (fun E => some (.inl E))) else g_X4_later_25  z )) else none) = some y := hf
    refine xgo_r (v := none) (xrunV (C := RX4) (As := [.int v1]) (rest := []) (xfixm fx_X4_checkFlight hx hb hml hown (by decide) (by decide) (by decide) (by decide)) hE ml_X4_87 wi_X4_checkFlight wz_X4_checkFlight wc_X4_checkFlight wn_X4 (c_X4_checkFlight l hl0 D q k z b o v1 _ hN) (va_recv (q := (RX4, TX4, 4)) (ci := 4) (q0 := 0) hK hP rfl rfl) (xpreT hP hD hG hst) rfl rfl hl.1 rfl (lv_room (Nat.le_of_ble_eq_true rfl)) dX4_later_2) ?_
    refine lv_iload_n hx hb dX4_later_5 rfl (lv_at hl 2 rfl) ?_
    refine lv_aload_n hx hb dX4_later_6 rfl (lv_at hl 0 rfl) ?_
    refine va_get (D := D) (ci := 4) (v := .ref (q 2)) (C := RX4) (T := TX4) (N := 4) hx hb (hwX4 hE) (fun _ h => h) hown hK hP 0 rfl rfl 1 (by decide) (hE _ fl_X4_19 rfl _) (fun _ h9 => h9) rfl dX4_later_7 ?_
    refine va_get (D := D) (ci := 1) (v := .ref (q 10)) (C := RX1) (T := TX1) (N := 8) hx hb (hwX1 hE) (fun _ h => h) hown hK hP 2 rfl rfl 2 (by decide) (hE _ fl_X4_103 rfl _) (fun _ h9 => h9) rfl dX4_later_10 ?_
    refine lv_iload_n hx hb dX4_later_13 rfl (lv_at hl 1 rfl) ?_
    obtain ⟨hin, hf⟩ := xguard hf
    refine va_iald hx hb hK hP 10 0 rfl rfl hin dX4_later_14 ?_
    refine lv_icmp_lt hx hb dX4_later_15 rfl (fun hc => ?_) (fun hc => ?_)
    · rw [if_pos hc] at hf
      exact t_X4_later_25 ⟨hx, hb, hml, hr, hlocks, hown, hno, hG⟩ hl0 hst hP hD  (lv_sub hl [] rfl) hf
    · rw [if_neg hc] at hf
      refine lv_iload_n hx hb dX4_later_18 rfl (lv_at hl 2 rfl) ?_
      refine lv_sipush (v := 300) hx hb dX4_later_19 (by decide) ?_
      refine lv_icmp_le hx hb dX4_later_22 rfl (fun hc => ?_) (fun hc => ?_)
      · rw [if_pos hc] at hf
        refine lv_aload_n hx hb dX4_later_35 rfl (lv_at hl 0 rfl) ?_
        refine lv_iload_n hx hb dX4_later_36 rfl (lv_at hl 1 rfl) ?_
        obtain ⟨r37, hN, hf⟩ := xbind hf
        cases r37 with
        | some E =>
          replace hf : some (.inl E) = some y := hf
          cases hf
          exact xgo_t (xrunV (C := RX4) (As := [.int v1]) (rest := []) (xfixm fx_X4_checkPlannable hx hb hml hown (by decide) (by decide) (by decide) (by decide)) hE ml_X4_106 wi_X4_checkPlannable wz_X4_checkPlannable wc_X4_checkPlannable wn_X4 (c_X4_checkPlannable l hl0 D q k z b o v1 _ hN) (va_recv (q := (RX4, TX4, 4)) (ci := 4) (q0 := 0) hK hP rfl rfl) (xpreT hP hD hG hst) rfl rfl hl.1 rfl (lv_room (Nat.le_of_ble_eq_true rfl)) dX4_later_37) (fun u H1 ce h1 h2 h3 h4 h5 => xout hno hlocks (fun u t h => ⟨u, rfl, h⟩) h1 h2 h3 h4 h5)
        | none =>
          replace hf : (if xin v1 60 = true then g_X4_later_50  (xs z 5 v1.toNatClampNeg v2) v1 else none) = some y := hf
          refine xgo_r (v := none) (xrunV (C := RX4) (As := [.int v1]) (rest := []) (xfixm fx_X4_checkPlannable hx hb hml hown (by decide) (by decide) (by decide) (by decide)) hE ml_X4_106 wi_X4_checkPlannable wz_X4_checkPlannable wc_X4_checkPlannable wn_X4 (c_X4_checkPlannable l hl0 D q k z b o v1 _ hN) (va_recv (q := (RX4, TX4, 4)) (ci := 4) (q0 := 0) hK hP rfl rfl) (xpreT hP hD hG hst) rfl rfl hl.1 rfl (lv_room (Nat.le_of_ble_eq_true rfl)) dX4_later_37) ?_
          refine lv_aload_n hx hb dX4_later_40 rfl (lv_at hl 0 rfl) ?_
          refine va_get (D := D) (ci := 4) (v := .ref (q 2)) (C := RX4) (T := TX4) (N := 4) hx hb (hwX4 hE) (fun _ h => h) hown hK hP 0 rfl rfl 1 (by decide) (hE _ fl_X4_19 rfl _) (fun _ h9 => h9) rfl dX4_later_41 ?_
          refine va_get (D := D) (ci := 1) (v := .ref (q 10)) (C := RX1) (T := TX1) (N := 8) hx hb (hwX1 hE) (fun _ h => h) hown hK hP 2 rfl rfl 2 (by decide) (hE _ fl_X4_103 rfl _) (fun _ h9 => h9) rfl dX4_later_44 ?_
          refine lv_iload_n hx hb dX4_later_47 rfl (lv_at hl 1 rfl) ?_
          refine lv_iload_n hx hb dX4_later_48 rfl (lv_at hl 2 rfl) ?_
          obtain ⟨hin, hf⟩ := xguard hf
          refine va_iast hx hb hK hP hD hS 10 0 rfl rfl hin dX4_later_49 (fun H locs hP hD hS => ?_)
          rw [xw_s10] at hP hD
          exact t_X4_later_50 ⟨hx, hb, hml, hr, hlocks, hown, hno, hG⟩ hl0 hst hP hD hS  (lv_sub hl [0, 1] rfl) hf
      · rw [if_neg hc] at hf
        exact t_X4_later_25 ⟨hx, hb, hml, hr, hlocks, hown, hno, hG⟩ hl0 hst hP hD  (lv_sub hl [] rfl) hf
noncomputable def f_X4_later (a : xT) (v1 : Int32) (v2 : Int32) : Option (String ⊕ (Int32 × xT)) := g_X4_later_0 a v1 v2
set_option maxHeartbeats 4000000 in
set_option maxRecDepth 100000 in
theorem c_X4_later (l : Launch) (hl0 : l.stackTraces = false) (D : va_G) (q : Nat → Nat) (k : Nat → ClassId) (sz : Nat) (a b : xT) (o : Nat → Int64) (v1 : Int32) (v2 : Int32) (y : String ⊕ (Int32 × xT)) (hf : f_X4_later a v1 v2 = some y) : xMet l yX4_later (.code yX4_later cX4_later 3 (some .boolean)) r_X4_later (xPcTm D q k sz a b o [.ref (q 0), .int v1, .int v2]) (xQm D q k a b o (Sum.map id (fun z => (some (.int z.1), z.2, b)) y)) (xmm (Sum.map id (fun z => (some (.int z.1), z.2, b)) y)) (xmn (Sum.map id (fun z => (some (.int z.1), z.2, b)) y)) (xfr q k a b o sz (Sum.map id (fun z => (some (.int z.1), z.2, b)) y)) := by
  refine xMet.ofW (by decide) ?_
  intro p e s m args below meth c hx hb hml hr hlocks hnm hme hno hv
  obtain ⟨rfl, hsz, hP, hD, hG, hst⟩ := hv
  subst hsz
  have hown : s.vm.findClass RX4 = some m.cls := findClass_of_methodNamed hnm
  have hl := lv_entry ([.ref (q 0), .int v1, .int v2]) (n := 3) (Nat.le_of_ble_eq_true rfl)
  rw [lg_entry_eq]
  generalize (lg_sl ([.ref (q 0), .int v1, .int v2]) ++ List.replicate (3 - (lg_sl ([.ref (q 0), .int v1, .int v2])).length) Slot.unset).toArray = ls at hl ⊢
  have hl : lv_has ls 3 [(0, .ref (q 0)), (1, .int v1), (2, .int v2)] := hl
  have hD := hD.self (sz := s.heap.size)
  exact t_X4_later_0 ⟨hx, hb, hml, hr, hlocks, hown, hno, hG⟩ hl0 hst hP hD hl hf
abbrev r_X4_log : Room := { frames := 0, cells := 0, slots := 0, locals := 0 }
noncomputable def g_X4_log_0  (a : xT)  : Option (Int32) := some (a.2 2)
set_option maxHeartbeats 4000000 in
set_option maxRecDepth 100000 in
theorem t_X4_log_0 {p : Program} {l : Launch} {e : Env} {s : State} {m : MethodId} {args : Array Value} {below : List Frame} {meth : Method} {c : Code} {D : va_G} {q : Nat → Nat} {k : Nat → ClassId} {a b : xT} {o : Nat → Int64} {y : Int32} (C : xCx p s m meth c cX4_log 1 (some .int) RX4 D k) (hP : va_P D vwCl (xw q k a b o) s.heap) (hD : va_D (fun _ => True) (xw q k a b o))  {ls : Array Slot} (hl : lv_has ls 1 [(0, .ref (q 0))]) (hf : g_X4_log_0  a  = some y) : W p l e r_X4_log s m args below meth c s.heap [] 0 0 (xMQ below (xQr (.inr (some (.int y)))) args s (xmc (.inr (some (.int y)))) (xms (.inr (some (.int y)))) (fun _ => False)) (F0 m 0 ls []) := by
  obtain ⟨hx, hb, hml, hr, hlocks, hown, hno, hG⟩ := C
  have hK := hG.1
  have hE := hG.2.1
  unfold g_X4_log_0 at hf
  refine lv_aload_n hx hb dX4_log_0 rfl (lv_at hl 0 rfl) ?_
  refine va_get (D := D) (ci := 4) (v := .ref (q 4)) (C := RX4) (T := TX4) (N := 4) hx hb (hwX4 hE) (fun _ h => h) hown hK hP 0 rfl rfl 3 (by decide) (hE _ fl_X4_33 rfl _) (fun _ h9 => h9) rfl dX4_log_1 ?_
  refine va_get (D := D) (ci := 0) (v := .int (a.2 2)) (C := RX0) (T := TX0) (N := 5) hx hb (hwX0 hE) (fun _ h => h) hown hK hP 4 rfl rfl 4 (by decide) (hE _ fl_X4_184 rfl _) (fun _ h9 => h9) rfl dX4_log_4 ?_
  cases hf
  exact xret_i hx hb hr hlocks dX4_log_7
noncomputable def f_X4_log (a : xT)  : Option (Int32) := g_X4_log_0 a 
set_option maxHeartbeats 4000000 in
set_option maxRecDepth 100000 in
theorem c_X4_log (l : Launch) (D : va_G) (q : Nat → Nat) (k : Nat → ClassId) (a b : xT) (o : Nat → Int64)  (y : Int32) (hf : f_X4_log a  = some y) : xMet l yX4_log (.code yX4_log cX4_log 1 (some .int)) r_X4_log (xPc D q k a b o [.ref (q 0)]) (xQr (.inr (some (.int y)))) (xmc (.inr (some (.int y)))) (xms (.inr (some (.int y)))) (fun _ => False) := by
  refine xMet.ofW (by decide) ?_
  intro p e s m args below meth c hx hb hml hr hlocks hnm hme hno hv
  obtain ⟨rfl, hP, hD, hG⟩ := hv
  have hown : s.vm.findClass RX4 = some m.cls := findClass_of_methodNamed hnm
  have hl := lv_entry ([.ref (q 0)]) (n := 1) (Nat.le_of_ble_eq_true rfl)
  rw [lg_entry_eq]
  generalize (lg_sl ([.ref (q 0)]) ++ List.replicate (1 - (lg_sl ([.ref (q 0)])).length) Slot.unset).toArray = ls at hl ⊢
  have hl : lv_has ls 1 [(0, .ref (q 0))] := hl
  exact t_X4_log_0 ⟨hx, hb, hml, hr, hlocks, hown, hno, hG⟩ hP hD hl hf
abbrev r_X4_losesFrozenSlot : Room := { frames := 1, cells := 0, slots := 0, locals := 22 }
noncomputable def g_X4_losesFrozenSlot_37 (K8 : Int32 → Int32 → Int32 → Option (Int32)) (a : xT) (v2 : Int32) (v3 : Int32) (v4 : Int32) : Option (Int32) := K8 v2 v3 (v4 + 1)
set_option maxHeartbeats 4000000 in
set_option maxRecDepth 100000 in
theorem t_X4_losesFrozenSlot_37 {p : Program} {l : Launch} {e : Env} {s : State} {m : MethodId} {args : Array Value} {below : List Frame} {meth : Method} {c : Code} {D : va_G} {q : Nat → Nat} {k : Nat → ClassId} {a b : xT} {o : Nat → Int64} {y : Int32} (C : xCx p s m meth c cX4_losesFrozenSlot 5 (some .boolean) RX4 D k) (hP : va_P D vwCl (xw q k a b o) s.heap) (hD : va_D (fun _ => True) (xw q k a b o)) {K8 : Int32 → Int32 → Int32 → Option (Int32)} (hK8 : ∀ {v2 v3 v4 : Int32} {ls : Array Slot}, lv_has ls 5 [(0, .ref (q 0)), (2, .int v2), (3, .int v3), (4, .int v4)] → K8 v2 v3 v4 = some y → W p l e r_X4_losesFrozenSlot s m args below meth c s.heap [] 0 0 (xMQ below (xQr (.inr (some (.int y)))) args s (xmc (.inr (some (.int y)))) (xms (.inr (some (.int y)))) (fun _ => False)) (F0 m 8 ls [])) {v2 v3 v4 : Int32} {ls : Array Slot} (hl : lv_has ls 5 [(0, .ref (q 0)), (2, .int v2), (3, .int v3), (4, .int v4)]) (hf : g_X4_losesFrozenSlot_37 K8 a v2 v3 v4 = some y) : W p l e r_X4_losesFrozenSlot s m args below meth c s.heap [] 0 0 (xMQ below (xQr (.inr (some (.int y)))) args s (xmc (.inr (some (.int y)))) (xms (.inr (some (.int y)))) (fun _ => False)) (F0 m 37 ls []) := by
  obtain ⟨hx, hb, hml, hr, hlocks, hown, hno, hG⟩ := C
  have hK := hG.1
  have hE := hG.2.1
  unfold g_X4_losesFrozenSlot_37 at hf
  refine lv_iinc (k := 3) (v := v4 + 1) (lv' := [(4, .int (v4 + 1)), (0, .ref (q 0)), (2, .int v2), (3, .int v3)]) hx hb dX4_losesFrozenSlot_37 hl rfl (xinc (by decide) _) (by decide) rfl (fun ls hl => ?_)
  refine lv_goto hx hb dX4_losesFrozenSlot_40 rfl ?_
  exact hK8 (lv_sub hl [1, 2, 3, 0] rfl) hf
noncomputable def g_X4_losesFrozenSlot_8s (K8 : Int32 → Int32 → Int32 → Option (Int32)) (a : xT) (v2 : Int32) (v3 : Int32) (v4 : Int32) : Option (Int32) := (if 15 ≤ v4 then some 0 else ((f_X4_isFrozen a (v3 + v4)).bind fun r20 => (if r20 = 0 then g_X4_losesFrozenSlot_37 K8 a v2 v3 v4 else ((f_X3_isOffsetAtRate a v4 v2).bind fun r29 => (if r29 = 0 then some 1 else g_X4_losesFrozenSlot_37 K8 a v2 v3 v4)))))
set_option maxHeartbeats 4000000 in
set_option maxRecDepth 100000 in
theorem t_X4_losesFrozenSlot_8s {p : Program} {l : Launch} {e : Env} {s : State} {m : MethodId} {args : Array Value} {below : List Frame} {meth : Method} {c : Code} {D : va_G} {q : Nat → Nat} {k : Nat → ClassId} {a b : xT} {o : Nat → Int64} {y : Int32} (C : xCx p s m meth c cX4_losesFrozenSlot 5 (some .boolean) RX4 D k) (hP : va_P D vwCl (xw q k a b o) s.heap) (hD : va_D (fun _ => True) (xw q k a b o)) {K8 : Int32 → Int32 → Int32 → Option (Int32)} (hK8 : ∀ {v2 v3 v4 : Int32} {ls : Array Slot}, lv_has ls 5 [(0, .ref (q 0)), (2, .int v2), (3, .int v3), (4, .int v4)] → K8 v2 v3 v4 = some y → W p l e r_X4_losesFrozenSlot s m args below meth c s.heap [] 0 0 (xMQ below (xQr (.inr (some (.int y)))) args s (xmc (.inr (some (.int y)))) (xms (.inr (some (.int y)))) (fun _ => False)) (F0 m 8 ls [])) {v2 v3 v4 : Int32} {ls : Array Slot} (hl : lv_has ls 5 [(0, .ref (q 0)), (2, .int v2), (3, .int v3), (4, .int v4)]) (hf : g_X4_losesFrozenSlot_8s K8 a v2 v3 v4 = some y) : W p l e r_X4_losesFrozenSlot s m args below meth c s.heap [] 0 0 (xMQ below (xQr (.inr (some (.int y)))) args s (xmc (.inr (some (.int y)))) (xms (.inr (some (.int y)))) (fun _ => False)) (F0 m 8 ls []) := by
  obtain ⟨hx, hb, hml, hr, hlocks, hown, hno, hG⟩ := C
  have hK := hG.1
  have hE := hG.2.1
  unfold g_X4_losesFrozenSlot_8s at hf
  refine lv_iload hx hb dX4_losesFrozenSlot_8 (lv_at hl 3 rfl) ?_
  refine lv_bipush (v := 15) hx hb dX4_losesFrozenSlot_10 (by decide) ?_
  refine lv_icmp_ge hx hb dX4_losesFrozenSlot_12 rfl (fun hc => ?_) (fun hc => ?_)
  · rw [if_pos hc] at hf
    refine lv_iconst (v := 0) hx hb dX4_losesFrozenSlot_43 (by decide) ?_
    cases hf
    exact xret_z hx hb hr xz0 hlocks dX4_losesFrozenSlot_44
  · rw [if_neg hc] at hf
    refine lv_aload_n hx hb dX4_losesFrozenSlot_15 rfl (lv_at hl 0 rfl) ?_
    refine lv_iload_n hx hb dX4_losesFrozenSlot_16 rfl (lv_at hl 2 rfl) ?_
    refine lv_iload hx hb dX4_losesFrozenSlot_17 (lv_at hl 3 rfl) ?_
    refine lv_iadd hx hb dX4_losesFrozenSlot_19 ?_
    obtain ⟨r20, hN, hf⟩ := xbind hf
    refine xgo_r (v := some (.int r20)) (xrunV (C := RX4) (As := [.int (v3 + v4)]) (rest := []) (xfixm fx_X4_isFrozen hx hb hml hown (by decide) (by decide) (by decide) (by decide)) hE ml_X4_219 wi_X4_isFrozen wz_X4_isFrozen wc_X4_isFrozen wn_X4 (c_X4_isFrozen l D q k a b o (v3 + v4) _ hN) (va_recv (q := (RX4, TX4, 4)) (ci := 4) (q0 := 0) hK hP rfl rfl) (xpre hP hD hG) rfl rfl hl.1 rfl (lv_room (Nat.le_of_ble_eq_true rfl)) dX4_losesFrozenSlot_20) ?_
    refine lv_if_eq hx hb dX4_losesFrozenSlot_23 rfl (fun hc => ?_) (fun hc => ?_)
    · rw [if_pos hc] at hf
      exact t_X4_losesFrozenSlot_37 ⟨hx, hb, hml, hr, hlocks, hown, hno, hG⟩ hP hD hK8 (lv_sub hl [0, 1, 2, 3] rfl) hf
    · rw [if_neg hc] at hf
      refine lv_iload hx hb dX4_losesFrozenSlot_26 (lv_at hl 3 rfl) ?_
      refine lv_iload_n hx hb dX4_losesFrozenSlot_28 rfl (lv_at hl 1 rfl) ?_
      obtain ⟨r29, hN, hf⟩ := xbind hf
      refine xgo_r (v := some (.int r29)) (xrunS (As := [.int v4, .int v2]) (rest := []) (xfixm fx_X3_isOffsetAtRate hx hb hml hown (by decide) (by decide) (by decide) (by decide)) hE ml_X4_222 wt_X3_isOffsetAtRate wc_X3_isOffsetAtRate wn_X3 (c_X3_isOffsetAtRate l D q k a b o v4 v2 _ hN) (xpre hP hD hG) rfl rfl hl.1 rfl (lv_room (Nat.le_of_ble_eq_true rfl)) dX4_losesFrozenSlot_29) ?_
      refine lv_if_ne hx hb dX4_losesFrozenSlot_32 rfl (fun hc => ?_) (fun hc => ?_)
      · rw [if_neg hc] at hf
        exact t_X4_losesFrozenSlot_37 ⟨hx, hb, hml, hr, hlocks, hown, hno, hG⟩ hP hD hK8 (lv_sub hl [0, 1, 2, 3] rfl) hf
      · rw [if_pos hc] at hf
        refine lv_iconst (v := 1) hx hb dX4_losesFrozenSlot_35 (by decide) ?_
        cases hf
        exact xret_z hx hb hr xz1 hlocks dX4_losesFrozenSlot_36
noncomputable def g_X4_losesFrozenSlot_8  (a : xT) : Nat → Int32 → Int32 → Int32 → Option (Int32) := fun n => Nat.rec (motive := fun _ => Int32 → Int32 → Int32 → Option (Int32)) (fun _ _ _ => none) (fun _ ih => g_X4_losesFrozenSlot_8s ih a) n
set_option maxHeartbeats 4000000 in
theorem t_X4_losesFrozenSlot_8 {p : Program} {l : Launch} {e : Env} {s : State} {m : MethodId} {args : Array Value} {below : List Frame} {meth : Method} {c : Code} {D : va_G} {q : Nat → Nat} {k : Nat → ClassId} {a b : xT} {o : Nat → Int64} {y : Int32} (C : xCx p s m meth c cX4_losesFrozenSlot 5 (some .boolean) RX4 D k) (hP : va_P D vwCl (xw q k a b o) s.heap) (hD : va_D (fun _ => True) (xw q k a b o))  (n : Nat) : ∀ {v2 v3 v4 : Int32} {ls : Array Slot}, lv_has ls 5 [(0, .ref (q 0)), (2, .int v2), (3, .int v3), (4, .int v4)] → g_X4_losesFrozenSlot_8  a n v2 v3 v4 = some y → W p l e r_X4_losesFrozenSlot s m args below meth c s.heap [] 0 0 (xMQ below (xQr (.inr (some (.int y)))) args s (xmc (.inr (some (.int y)))) (xms (.inr (some (.int y)))) (fun _ => False)) (F0 m 8 ls []) := by
  induction n with
  | zero =>
    intro _ _ _ _ _ hf
    have h9 : (none : Option (Int32)) = some y := hf
    cases h9
  | succ n ih =>
    intro _ _ _ _ hl hf
    exact t_X4_losesFrozenSlot_8s C hP hD (K8 := g_X4_losesFrozenSlot_8  a n) ih hl hf
noncomputable def g_X4_losesFrozenSlot_0  (a : xT) (v1 : Int32) (v2 : Int32) : Option (Int32) := g_X4_losesFrozenSlot_8  a 1000 v2 (v1 * 15) 0
set_option maxHeartbeats 4000000 in
set_option maxRecDepth 100000 in
theorem t_X4_losesFrozenSlot_0 {p : Program} {l : Launch} {e : Env} {s : State} {m : MethodId} {args : Array Value} {below : List Frame} {meth : Method} {c : Code} {D : va_G} {q : Nat → Nat} {k : Nat → ClassId} {a b : xT} {o : Nat → Int64} {y : Int32} (C : xCx p s m meth c cX4_losesFrozenSlot 5 (some .boolean) RX4 D k) (hP : va_P D vwCl (xw q k a b o) s.heap) (hD : va_D (fun _ => True) (xw q k a b o))  {v1 v2 : Int32} {ls : Array Slot} (hl : lv_has ls 5 [(0, .ref (q 0)), (1, .int v1), (2, .int v2)]) (hf : g_X4_losesFrozenSlot_0  a v1 v2 = some y) : W p l e r_X4_losesFrozenSlot s m args below meth c s.heap [] 0 0 (xMQ below (xQr (.inr (some (.int y)))) args s (xmc (.inr (some (.int y)))) (xms (.inr (some (.int y)))) (fun _ => False)) (F0 m 0 ls []) := by
  obtain ⟨hx, hb, hml, hr, hlocks, hown, hno, hG⟩ := C
  have hK := hG.1
  have hE := hG.2.1
  unfold g_X4_losesFrozenSlot_0 at hf
  refine lv_iload_n hx hb dX4_losesFrozenSlot_0 rfl (lv_at hl 1 rfl) ?_
  refine lv_bipush (v := 15) hx hb dX4_losesFrozenSlot_1 (by decide) ?_
  refine lv_imul hx hb dX4_losesFrozenSlot_3 ?_
  refine lv_istore_n (lv' := [(3, .int (v1 * 15)), (0, .ref (q 0)), (1, .int v1), (2, .int v2)]) hx hb dX4_losesFrozenSlot_4 rfl hl (by decide) rfl (fun ls hl => ?_)
  refine lv_iconst (v := 0) hx hb dX4_losesFrozenSlot_5 (by decide) ?_
  refine lv_istore (lv' := [(4, .int 0), (3, .int (v1 * 15)), (0, .ref (q 0)), (1, .int v1), (2, .int v2)]) hx hb dX4_losesFrozenSlot_6 hl (by decide) rfl (fun ls hl => ?_)
  exact t_X4_losesFrozenSlot_8 ⟨hx, hb, hml, hr, hlocks, hown, hno, hG⟩ hP hD  1000 (lv_sub hl [2, 4, 1, 0] rfl) hf
noncomputable def f_X4_losesFrozenSlot (a : xT) (v1 : Int32) (v2 : Int32) : Option (Int32) := g_X4_losesFrozenSlot_0 a v1 v2
set_option maxHeartbeats 4000000 in
set_option maxRecDepth 100000 in
theorem c_X4_losesFrozenSlot (l : Launch) (D : va_G) (q : Nat → Nat) (k : Nat → ClassId) (a b : xT) (o : Nat → Int64) (v1 : Int32) (v2 : Int32) (y : Int32) (hf : f_X4_losesFrozenSlot a v1 v2 = some y) : xMet l yX4_losesFrozenSlot (.code yX4_losesFrozenSlot cX4_losesFrozenSlot 5 (some .boolean)) r_X4_losesFrozenSlot (xPc D q k a b o [.ref (q 0), .int v1, .int v2]) (xQr (.inr (some (.int y)))) (xmc (.inr (some (.int y)))) (xms (.inr (some (.int y)))) (fun _ => False) := by
  refine xMet.ofW (by decide) ?_
  intro p e s m args below meth c hx hb hml hr hlocks hnm hme hno hv
  obtain ⟨rfl, hP, hD, hG⟩ := hv
  have hown : s.vm.findClass RX4 = some m.cls := findClass_of_methodNamed hnm
  have hl := lv_entry ([.ref (q 0), .int v1, .int v2]) (n := 5) (Nat.le_of_ble_eq_true rfl)
  rw [lg_entry_eq]
  generalize (lg_sl ([.ref (q 0), .int v1, .int v2]) ++ List.replicate (5 - (lg_sl ([.ref (q 0), .int v1, .int v2])).length) Slot.unset).toArray = ls at hl ⊢
  have hl : lv_has ls 5 [(0, .ref (q 0)), (1, .int v1), (2, .int v2)] := hl
  exact t_X4_losesFrozenSlot_0 ⟨hx, hb, hml, hr, hlocks, hown, hno, hG⟩ hP hD hl hf
abbrev r_X4_offer : Room := { frames := 7, cells := 1, slots := 6, locals := 111 }
noncomputable def g_X4_offer_0  (z : xT) (v1 : Int32) (v2 : Int32) (v3 : Int32) : Option (String ⊕ (Int32 × xT)) := ((f_X4_checkAirline z v1).bind fun r => Option.elim r ((if v2 = v3 then some (.inl "java/lang/IllegalArgumentException") else ((f_X4_checkSlot z v2).bind fun r => Option.elim r (((f_X4_checkSlot z v3).bind fun r => Option.elim r ((if xin v2 240 = true then (if (z.1 1 v2.toNatClampNeg) = v1 then (if (z.2 1) < 40 then ((f_X2_add z v1 v2 v3).bind fun z82 => some (.inr (z82.1, z82.2))) else some (.inl "java/lang/IllegalStateException")) else some (.inl "java/lang/IllegalStateException")) else none)) (fun E => some (.inl E)))) (fun E => some (.inl E))))) (fun E => some (.inl E)))
set_option maxHeartbeats 4000000 in
set_option maxRecDepth 100000 in
theorem t_X4_offer_0 {p : Program} {l : Launch} {e : Env} {s : State} {m : MethodId} {args : Array Value} {below : List Frame} {meth : Method} {c : Code} {D : va_G} {q : Nat → Nat} {k : Nat → ClassId} {b : xT} {o : Nat → Int64} {z : xT} {y : String ⊕ (Int32 × xT)} (C : xCx p s m meth c cX4_offer 4 (some .int) RX4 D k) (hl0 : l.stackTraces = false) (hst : xSt s) (hP : va_P D vwCl (xw q k z b o) s.heap) (hD : va_D (va_A (xw q k z b o) s.heap.size) (xw q k z b o))  {v1 v2 v3 : Int32} {ls : Array Slot} (hl : lv_has ls 4 [(0, .ref (q 0)), (1, .int v1), (2, .int v2), (3, .int v3)]) (hf : g_X4_offer_0  z v1 v2 v3 = some y) : W p l e r_X4_offer s m args below meth c s.heap [] 0 0 (xMQ below (xQm D q k z b o (Sum.map id (fun z => (some (.int z.1), z.2, b)) y)) args s (xmm (Sum.map id (fun z => (some (.int z.1), z.2, b)) y)) (xmn (Sum.map id (fun z => (some (.int z.1), z.2, b)) y)) (xfr q k z b o s.heap.size (Sum.map id (fun z => (some (.int z.1), z.2, b)) y))) (F0 m 0 ls []) := by
  obtain ⟨hx, hb, hml, hr, hlocks, hown, hno, hG⟩ := C
  have hK := hG.1
  have hE := hG.2.1
  have hS : va_S (va_A (xw q k z b o) s.heap.size) s.heap s.heap [] := va_S.rf
  have hA : ∀ u, s.heap.size ≤ u → va_A (xw q k z b o) s.heap.size u := fun u h => Or.inr h
  unfold g_X4_offer_0 at hf
  refine lv_aload_n hx hb dX4_offer_0 rfl (lv_at hl 0 rfl) ?_
  refine lv_iload_n hx hb dX4_offer_1 rfl (lv_at hl 1 rfl) ?_
  obtain ⟨r2, hN, hf⟩ := xbind hf
  cases r2 with
  | some E =>
    replace hf : some (.inl E) = some y := hf
    cases hf
    exact xgo_t (xrunV (C := RX4) (As := [.int v1]) (rest := []) (xfixm fx_X4_checkAirline hx hb hml hown (by decide) (by decide) (by decide) (by decide)) hE ml_X4_63 wi_X4_checkAirline wz_X4_checkAirline wc_X4_checkAirline wn_X4 (c_X4_checkAirline l hl0 D q k z b o v1 _ hN) (va_recv (q := (RX4, TX4, 4)) (ci := 4) (q0 := 0) hK hP rfl rfl) (xpreT hP hD hG hst) rfl rfl hl.1 rfl (lv_room (Nat.le_of_ble_eq_true rfl)) dX4_offer_2) (fun u H1 ce h1 h2 h3 h4 h5 => xout hno hlocks (fun u t h => ⟨u, rfl, h⟩) h1 h2 h3 h4 h5)
  | none =>
    replace hf : (if v2 = v3 then some (.inl "java/lang/IllegalArgumentException") else ((f_X4_checkSlot z v2).bind fun r => Option.elim r (((f_X4_checkSlot z v3).bind fun r => Option.elim r ((if xin v2 240 = true then (if (z.1 1 v2.toNatClampNeg) = v1 then (if (z.2 1) < 40 then ((f_X2_add z v1 v2 v3).bind fun z82 => some (.inr (z82.1, z82.2))) else some (.inl "java/lang/IllegalStateException")) else some (.inl "java/lang/IllegalStateException")) else none)) (fun E => some (.inl E)))) (fun E => some (.inl E)))) = some y := hf
    refine xgo_r (v := none) (xrunV (C := RX4) (As := [.int v1]) (rest := []) (xfixm fx_X4_checkAirline hx hb hml hown (by decide) (by decide) (by decide) (by decide)) hE ml_X4_63 wi_X4_checkAirline wz_X4_checkAirline wc_X4_checkAirline wn_X4 (c_X4_checkAirline l hl0 D q k z b o v1 _ hN) (va_recv (q := (RX4, TX4, 4)) (ci := 4) (q0 := 0) hK hP rfl rfl) (xpreT hP hD hG hst) rfl rfl hl.1 rfl (lv_room (Nat.le_of_ble_eq_true rfl)) dX4_offer_2) ?_
    refine lv_iload_n hx hb dX4_offer_5 rfl (lv_at hl 2 rfl) ?_
    refine lv_iload_n hx hb dX4_offer_6 rfl (lv_at hl 3 rfl) ?_
    refine lv_icmp_ne hx hb dX4_offer_7 rfl (fun hc => ?_) (fun hc => ?_)
    · rw [if_neg hc] at hf
      refine lv_aload_n hx hb dX4_offer_20 rfl (lv_at hl 0 rfl) ?_
      refine lv_iload_n hx hb dX4_offer_21 rfl (lv_at hl 2 rfl) ?_
      obtain ⟨r22, hN, hf⟩ := xbind hf
      cases r22 with
      | some E =>
        replace hf : some (.inl E) = some y := hf
        cases hf
        exact xgo_t (xrunV (C := RX4) (As := [.int v2]) (rest := []) (xfixm fx_X4_checkSlot hx hb hml hown (by decide) (by decide) (by decide) (by decide)) hE ml_X4_94 wi_X4_checkSlot wz_X4_checkSlot wc_X4_checkSlot wn_X4 (c_X4_checkSlot l hl0 D q k z b o v2 _ hN) (va_recv (q := (RX4, TX4, 4)) (ci := 4) (q0 := 0) hK hP rfl rfl) (xpreT hP hD hG hst) rfl rfl hl.1 rfl (lv_room (Nat.le_of_ble_eq_true rfl)) dX4_offer_22) (fun u H1 ce h1 h2 h3 h4 h5 => xout hno hlocks (fun u t h => ⟨u, rfl, h⟩) h1 h2 h3 h4 h5)
      | none =>
        replace hf : ((f_X4_checkSlot z v3).bind fun r => Option.elim r ((if xin v2 240 = true then (if (z.1 1 v2.toNatClampNeg) = v1 then (if (z.2 1) < 40 then ((f_X2_add z v1 v2 v3).bind fun z82 => some (.inr (z82.1, z82.2))) else some (.inl "java/lang/IllegalStateException")) else some (.inl "java/lang/IllegalStateException")) else none)) (fun E => some (.inl E))) = some y := hf
        refine xgo_r (v := none) (xrunV (C := RX4) (As := [.int v2]) (rest := []) (xfixm fx_X4_checkSlot hx hb hml hown (by decide) (by decide) (by decide) (by decide)) hE ml_X4_94 wi_X4_checkSlot wz_X4_checkSlot wc_X4_checkSlot wn_X4 (c_X4_checkSlot l hl0 D q k z b o v2 _ hN) (va_recv (q := (RX4, TX4, 4)) (ci := 4) (q0 := 0) hK hP rfl rfl) (xpreT hP hD hG hst) rfl rfl hl.1 rfl (lv_room (Nat.le_of_ble_eq_true rfl)) dX4_offer_22) ?_
        refine lv_aload_n hx hb dX4_offer_25 rfl (lv_at hl 0 rfl) ?_
        refine lv_iload_n hx hb dX4_offer_26 rfl (lv_at hl 3 rfl) ?_
        obtain ⟨r27, hN, hf⟩ := xbind hf
        cases r27 with
        | some E =>
          replace hf : some (.inl E) = some y := hf
          cases hf
          exact xgo_t (xrunV (C := RX4) (As := [.int v3]) (rest := []) (xfixm fx_X4_checkSlot hx hb hml hown (by decide) (by decide) (by decide) (by decide)) hE ml_X4_94 wi_X4_checkSlot wz_X4_checkSlot wc_X4_checkSlot wn_X4 (c_X4_checkSlot l hl0 D q k z b o v3 _ hN) (va_recv (q := (RX4, TX4, 4)) (ci := 4) (q0 := 0) hK hP rfl rfl) (xpreT hP hD hG hst) rfl rfl hl.1 rfl (lv_room (Nat.le_of_ble_eq_true rfl)) dX4_offer_27) (fun u H1 ce h1 h2 h3 h4 h5 => xout hno hlocks (fun u t h => ⟨u, rfl, h⟩) h1 h2 h3 h4 h5)
        | none =>
          replace hf : (if xin v2 240 = true then (if (z.1 1 v2.toNatClampNeg) = v1 then (if (z.2 1) < 40 then ((f_X2_add z v1 v2 v3).bind fun z82 => some (.inr (z82.1, z82.2))) else some (.inl "java/lang/IllegalStateException")) else some (.inl "java/lang/IllegalStateException")) else none) = some y := hf
          refine xgo_r (v := none) (xrunV (C := RX4) (As := [.int v3]) (rest := []) (xfixm fx_X4_checkSlot hx hb hml hown (by decide) (by decide) (by decide) (by decide)) hE ml_X4_94 wi_X4_checkSlot wz_X4_checkSlot wc_X4_checkSlot wn_X4 (c_X4_checkSlot l hl0 D q k z b o v3 _ hN) (va_recv (q := (RX4, TX4, 4)) (ci := 4) (q0 := 0) hK hP rfl rfl) (xpreT hP hD hG hst) rfl rfl hl.1 rfl (lv_room (Nat.le_of_ble_eq_true rfl)) dX4_offer_27) ?_
          refine lv_aload_n hx hb dX4_offer_30 rfl (lv_at hl 0 rfl) ?_
          refine va_get (D := D) (ci := 4) (v := .ref (q 1)) (C := RX4) (T := TX4) (N := 4) hx hb (hwX4 hE) (fun _ h => h) hown hK hP 0 rfl rfl 0 (by decide) (hE _ fl_X4_12 rfl _) (fun _ h9 => h9) rfl dX4_offer_31 ?_
          refine va_get (D := D) (ci := 3) (v := .ref (q 6)) (C := RX3) (T := TX3) (N := 3) hx hb (hwX3 hE) (fun _ h => h) hown hK hP 1 rfl rfl 1 (by decide) (hE _ fl_X4_97 rfl _) (fun _ h9 => h9) rfl dX4_offer_34 ?_
          refine lv_iload_n hx hb dX4_offer_37 rfl (lv_at hl 2 rfl) ?_
          obtain ⟨hin, hf⟩ := xguard hf
          refine va_iald hx hb hK hP 6 0 rfl rfl hin dX4_offer_38 ?_
          refine lv_iload_n hx hb dX4_offer_39 rfl (lv_at hl 1 rfl) ?_
          refine lv_icmp_eq hx hb dX4_offer_40 rfl (fun hc => ?_) (fun hc => ?_)
          · rw [if_pos hc] at hf
            refine lv_aload_n hx hb dX4_offer_53 rfl (lv_at hl 0 rfl) ?_
            refine va_get (D := D) (ci := 4) (v := .ref (q 3)) (C := RX4) (T := TX4) (N := 4) hx hb (hwX4 hE) (fun _ h => h) hown hK hP 0 rfl rfl 2 (by decide) (hE _ fl_X4_26 rfl _) (fun _ h9 => h9) rfl dX4_offer_54 ?_
            refine va_get (D := D) (ci := 2) (v := .int (z.2 1)) (C := RX2) (T := TX2) (N := 5) hx hb (hwX2 hE) (fun _ h => h) hown hK hP 3 rfl rfl 4 (by decide) (hE _ fl_X4_146 rfl _) (fun _ h9 => h9) rfl dX4_offer_57 ?_
            refine lv_bipush (v := 40) hx hb dX4_offer_60 (by decide) ?_
            refine lv_icmp_lt hx hb dX4_offer_62 rfl (fun hc => ?_) (fun hc => ?_)
            · rw [if_pos hc] at hf
              refine lv_aload_n hx hb dX4_offer_75 rfl (lv_at hl 0 rfl) ?_
              refine va_get (D := D) (ci := 4) (v := .ref (q 3)) (C := RX4) (T := TX4) (N := 4) hx hb (hwX4 hE) (fun _ h => h) hown hK hP 0 rfl rfl 2 (by decide) (hE _ fl_X4_26 rfl _) (fun _ h9 => h9) rfl dX4_offer_76 ?_
              refine lv_iload_n hx hb dX4_offer_79 rfl (lv_at hl 1 rfl) ?_
              refine lv_iload_n hx hb dX4_offer_80 rfl (lv_at hl 2 rfl) ?_
              refine lv_iload_n hx hb dX4_offer_81 rfl (lv_at hl 3 rfl) ?_
              obtain ⟨z82, hN, hf⟩ := xbind hf
              refine xgo_m (v := some (.int z82.1)) (a1 := z82.2) (b1 := b) (xrunV (C := RX2) (As := [.int v1, .int v2, .int v3]) (rest := []) (xfixm fx_X2_add hx hb hml hown (by decide) (by decide) (by decide) (by decide)) hE ml_X4_149 wi_X2_add wz_X2_add wc_X2_add wn_X2 (c_X2_add l D q k _ z b o v1 v2 v3 _ hN) (va_recv (q := (RX2, TX2, 5)) (ci := 2) (q0 := 3) hK hP rfl rfl) (xprem hP hD hG) rfl rfl hl.1 rfl (lv_room (Nat.le_of_ble_eq_true rfl)) dX4_offer_82) hD hS hA (fun H locs hP hD hS => ?_)
              cases hf
              exact xretm_i hx hb hr hlocks hP hS dX4_offer_85
            · rw [if_neg hc] at hf
              cases hf
              obtain ⟨sa, hsa⟩ := hG.2.2 (RX4, 147, "no room for an offer") (by decide +kernel)
              exact xthrow (own := RX4) (cls := "java/lang/IllegalStateException") (text := "no room for an offer") (names := ["java/lang/RuntimeException", "java/lang/Exception"]) (ik := 50) (is := 147) (ic := 54) (sa := sa) hx hb hl0 hown hE hst (by decide +kernel) (by decide +kernel) tw_X4_54 kl_X4_50 wn_IllegalStateException hsa hno hlocks (hl.1.trans hml.symm) dX4_offer_65 dX4_offer_68 dX4_offer_69 dX4_offer_71 dX4_offer_74 (by decide) (by decide) (by decide) (by decide) (fun u t h => ⟨u, rfl, h⟩)
          · rw [if_neg hc] at hf
            cases hf
            obtain ⟨sa, hsa⟩ := hG.2.2 (RX4, 144, "the airline does not own what it gives") (by decide +kernel)
            exact xthrow (own := RX4) (cls := "java/lang/IllegalStateException") (text := "the airline does not own what it gives") (names := ["java/lang/RuntimeException", "java/lang/Exception"]) (ik := 50) (is := 144) (ic := 54) (sa := sa) hx hb hl0 hown hE hst (by decide +kernel) (by decide +kernel) tw_X4_54 kl_X4_50 wn_IllegalStateException hsa hno hlocks (hl.1.trans hml.symm) dX4_offer_43 dX4_offer_46 dX4_offer_47 dX4_offer_49 dX4_offer_52 (by decide) (by decide) (by decide) (by decide) (fun u t h => ⟨u, rfl, h⟩)
    · rw [if_pos hc] at hf
      cases hf
      obtain ⟨sa, hsa⟩ := hG.2.2 (RX4, 142, "give and want are the same") (by decide +kernel)
      exact xthrow (own := RX4) (cls := "java/lang/IllegalArgumentException") (text := "give and want are the same") (names := ["java/lang/RuntimeException", "java/lang/Exception"]) (ik := 37) (is := 142) (ic := 41) (sa := sa) hx hb hl0 hown hE hst (by decide +kernel) (by decide +kernel) tw_X4_41 kl_X4_37 wn_IllegalArgumentException hsa hno hlocks (hl.1.trans hml.symm) dX4_offer_10 dX4_offer_13 dX4_offer_14 dX4_offer_16 dX4_offer_19 (by decide) (by decide) (by decide) (by decide) (fun u t h => ⟨u, rfl, h⟩)
noncomputable def f_X4_offer (a : xT) (v1 : Int32) (v2 : Int32) (v3 : Int32) : Option (String ⊕ (Int32 × xT)) := g_X4_offer_0 a v1 v2 v3
set_option maxHeartbeats 4000000 in
set_option maxRecDepth 100000 in
theorem c_X4_offer (l : Launch) (hl0 : l.stackTraces = false) (D : va_G) (q : Nat → Nat) (k : Nat → ClassId) (sz : Nat) (a b : xT) (o : Nat → Int64) (v1 : Int32) (v2 : Int32) (v3 : Int32) (y : String ⊕ (Int32 × xT)) (hf : f_X4_offer a v1 v2 v3 = some y) : xMet l yX4_offer (.code yX4_offer cX4_offer 4 (some .int)) r_X4_offer (xPcTm D q k sz a b o [.ref (q 0), .int v1, .int v2, .int v3]) (xQm D q k a b o (Sum.map id (fun z => (some (.int z.1), z.2, b)) y)) (xmm (Sum.map id (fun z => (some (.int z.1), z.2, b)) y)) (xmn (Sum.map id (fun z => (some (.int z.1), z.2, b)) y)) (xfr q k a b o sz (Sum.map id (fun z => (some (.int z.1), z.2, b)) y)) := by
  refine xMet.ofW (by decide) ?_
  intro p e s m args below meth c hx hb hml hr hlocks hnm hme hno hv
  obtain ⟨rfl, hsz, hP, hD, hG, hst⟩ := hv
  subst hsz
  have hown : s.vm.findClass RX4 = some m.cls := findClass_of_methodNamed hnm
  have hl := lv_entry ([.ref (q 0), .int v1, .int v2, .int v3]) (n := 4) (Nat.le_of_ble_eq_true rfl)
  rw [lg_entry_eq]
  generalize (lg_sl ([.ref (q 0), .int v1, .int v2, .int v3]) ++ List.replicate (4 - (lg_sl ([.ref (q 0), .int v1, .int v2, .int v3])).length) Slot.unset).toArray = ls at hl ⊢
  have hl : lv_has ls 4 [(0, .ref (q 0)), (1, .int v1), (2, .int v2), (3, .int v3)] := hl
  have hD := hD.self (sz := s.heap.size)
  exact t_X4_offer_0 ⟨hx, hb, hml, hr, hlocks, hown, hno, hG⟩ hl0 hst hP hD hl hf
