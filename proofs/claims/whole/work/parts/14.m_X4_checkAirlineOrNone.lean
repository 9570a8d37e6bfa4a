abbrev r_X4_checkAirlineOrNone : Room := { frames := 7, cells := 1, slots := 6, locals := 111 }
noncomputable def g_X4_checkAirlineOrNone_10  (a : xT)  : Option (Option String) := some none
set_option maxHeartbeats 4000000 in
set_option maxRecDepth 100000 in
theorem t_X4_checkAirlineOrNone_10 {p : Program} {l : Launch} {e : Env} {s : State} {m : MethodId} {args : Array Value} {below : List Frame} {meth : Method} {c : Code} {D : va_G} {q : Nat → Nat} {k : Nat → ClassId} {a b : xT} {o : Nat → Int64} {y : Option String} (C : xCx p s m meth c cX4_checkAirlineOrNone 2 none RX4 D k) (hl0 : l.stackTraces = false) (hst : xSt s) (hP : va_P D vwCl (xw q k a b o) s.heap) (hD : va_D (fun _ => True) (xw q k a b o))  {ls : Array Slot} (hl : lv_has ls 2 []) (hf : g_X4_checkAirlineOrNone_10  a  = some y) : W p l e r_X4_checkAirlineOrNone s m args below meth c s.heap [] 0 0 (xMQ below (xQr (xck y)) args s (xmc (xck y)) (xms (xck y)) (fun _ => False)) (F0 m 10 ls []) := by
  obtain ⟨hx, hb, hml, hr, hlocks, hown, hno, hG⟩ := C
  have hK := hG.1
  have hE := hG.2.1
  unfold g_X4_checkAirlineOrNone_10 at hf
  cases hf
  exact xret_v hx hb hr hlocks dX4_checkAirlineOrNone_10
noncomputable def g_X4_checkAirlineOrNone_0  (a : xT) (v1 : Int32) : Option (Option String) := (if v1 = (-1) then g_X4_checkAirlineOrNone_10  a  else ((f_X4_checkAirline a v1).bind fun r => Option.elim r (g_X4_checkAirlineOrNone_10  a ) (fun E => some (some E))))
set_option maxHeartbeats 4000000 in
set_option maxRecDepth 100000 in
theorem t_X4_checkAirlineOrNone_0 {p : Program} {l : Launch} {e : Env} {s : State} {m : MethodId} {args : Array Value} {below : List Frame} {meth : Method} {c : Code} {D : va_G} {q : Nat → Nat} {k : Nat → ClassId} {a b : xT} {o : Nat → Int64} {y : Option String} (C : xCx p s m meth c cX4_checkAirlineOrNone 2 none RX4 D k) (hl0 : l.stackTraces = false) (hst : xSt s) (hP : va_P D vwCl (xw q k a b o) s.heap) (hD : va_D (fun _ => True) (xw q k a b o))  {v1 : Int32} {ls : Array Slot} (hl : lv_has ls 2 [(0, .ref (q 0)), (1, .int v1)]) (hf : g_X4_checkAirlineOrNone_0  a v1 = some y) : W p l e r_X4_checkAirlineOrNone s m args below meth c s.heap [] 0 0 (xMQ below (xQr (xck y)) args s (xmc (xck y)) (xms (xck y)) (fun _ => False)) (F0 m 0 ls []) := by
  obtain ⟨hx, hb, hml, hr, hlocks, hown, hno, hG⟩ := C
  have hK := hG.1
  have hE := hG.2.1
  unfold g_X4_checkAirlineOrNone_0 at hf
  refine lv_iload_n hx hb dX4_checkAirlineOrNone_0 rfl (lv_at hl 1 rfl) ?_
  refine lv_iconst (v := -1) hx hb dX4_checkAirlineOrNone_1 (by decide) ?_
  refine lv_icmp_eq hx hb dX4_checkAirlineOrNone_2 rfl (fun hc => ?_) (fun hc => ?_)
  · rw [if_pos hc] at hf
    exact t_X4_checkAirlineOrNone_10 ⟨hx, hb, hml, hr, hlocks, hown, hno, hG⟩ hl0 hst hP hD  (lv_sub hl [] rfl) hf
  · rw [if_neg hc] at hf
    refine lv_aload_n hx hb dX4_checkAirlineOrNone_5 rfl (lv_at hl 0 rfl) ?_
    refine lv_iload_n hx hb dX4_checkAirlineOrNone_6 rfl (lv_at hl 1 rfl) ?_
    obtain ⟨r7, hN, hf⟩ := xbind hf
    cases r7 with
    | some E =>
      replace hf : some (some E) = some y := hf
      cases hf
      exact xgo_t (xrunV (C := RX4) (As := [.int v1]) (rest := []) (xfixm fx_X4_checkAirline hx hb hml hown (by decide) (by decide) (by decide) (by decide)) hE ml_X4_63 wi_X4_checkAirline wz_X4_checkAirline wc_X4_checkAirline wn_X4 (c_X4_checkAirline l hl0 D q k a b o v1 _ hN) (va_recv (q := (RX4, TX4, 4)) (ci := 4) (q0 := 0) hK hP rfl rfl) (xpreT hP hD hG hst) rfl rfl hl.1 rfl (lv_room (Nat.le_of_ble_eq_true rfl)) dX4_checkAirlineOrNone_7) (fun u H1 ce h1 h2 h3 h4 h5 => xout hno hlocks (fun u t h => ⟨u, rfl, h⟩) h1 h2 h3 h4 h5)
    | none =>
      replace hf : g_X4_checkAirlineOrNone_10  a  = some y := hf
      refine xgo_r (v := none) (xrunV (C := RX4) (As := [.int v1]) (rest := []) (xfixm fx_X4_checkAirline hx hb hml hown (by decide) (by decide) (by decide) (by decide)) hE ml_X4_63 wi_X4_checkAirline wz_X4_checkAirline wc_X4_checkAirline wn_X4 (c_X4_checkAirline l hl0 D q k a b o v1 _ hN) (va_recv (q := (RX4, TX4, 4)) (ci := 4) (q0 := 0) hK hP rfl rfl) (xpreT hP hD hG hst) rfl rfl hl.1 rfl (lv_room (Nat.le_of_ble_eq_true rfl)) dX4_checkAirlineOrNone_7) ?_
      exact t_X4_checkAirlineOrNone_10 ⟨hx, hb, hml, hr, hlocks, hown, hno, hG⟩ hl0 hst hP hD  (lv_sub hl [] rfl) hf
noncomputable def f_X4_checkAirlineOrNone (a : xT) (v1 : Int32) : Option (Option String) := g_X4_checkAirlineOrNone_0 a v1
set_option maxHeartbeats 4000000 in
set_option maxRecDepth 100000 in
theorem c_X4_checkAirlineOrNone (l : Launch) (hl0 : l.stackTraces = false) (D : va_G) (q : Nat → Nat) (k : Nat → ClassId) (a b : xT) (o : Nat → Int64) (v1 : Int32) (y : Option String) (hf : f_X4_checkAirlineOrNone a v1 = some y) : xMet l yX4_checkAirlineOrNone (.code yX4_checkAirlineOrNone cX4_checkAirlineOrNone 2 none) r_X4_checkAirlineOrNone (xPcT D q k a b o [.ref (q 0), .int v1]) (xQr (xck y)) (xmc (xck y)) (xms (xck y)) (fun _ => False) := by
  refine xMet.ofW (by decide) ?_
  intro p e s m args below meth c hx hb hml hr hlocks hnm hme hno hv
  obtain ⟨rfl, hP, hD, hG, hst⟩ := hv
  have hown : s.vm.findClass RX4 = some m.cls := findClass_of_methodNamed hnm
  have hl := lv_entry ([.ref (q 0), .int v1]) (n := 2) (Nat.le_of_ble_eq_true rfl)
  rw [lg_entry_eq]
  generalize (lg_sl ([.ref (q 0), .int v1]) ++ List.replicate (2 - (lg_sl ([.ref (q 0), .int v1])).length) Slot.unset).toArray = ls at hl ⊢
  have hl : lv_has ls 2 [(0, .ref (q 0)), (1, .int v1)] := hl
  exact t_X4_checkAirlineOrNone_0 ⟨hx, hb, hml, hr, hlocks, hown, hno, hG⟩ hl0 hst hP hD hl hf
abbrev r_X4_checkSlot : Room := { frames := 6, cells := 1, slots := 6, locals := 90 }
noncomputable def g_X4_checkSlot_0  (a : xT) (v1 : Int32) : Option (Option String) := ((f_X3_isSlot a v1).bind fun r5 => (if r5 = 0 then some (some "java/util/NoSuchElementException") else some none))
set_option maxHeartbeats 4000000 in
set_option maxRecDepth 100000 in
theorem t_X4_checkSlot_0 {p : Program} {l : Launch} {e : Env} {s : State} {m : MethodId} {args : Array Value} {below : List Frame} {meth : Method} {c : Code} {D : va_G} {q : Nat → Nat} {k : Nat → ClassId} {a b : xT} {o : Nat → Int64} {y : Option String} (C : xCx p s m meth c cX4_checkSlot 2 none RX4 D k) (hl0 : l.stackTraces = false) (hst : xSt s) (hP : va_P D vwCl (xw q k a b o) s.heap) (hD : va_D (fun _ => True) (xw q k a b o))  {v1 : Int32} {ls : Array Slot} (hl : lv_has ls 2 [(0, .ref (q 0)), (1, .int v1)]) (hf : g_X4_checkSlot_0  a v1 = some y) : W p l e r_X4_checkSlot s m args below meth c s.heap [] 0 0 (xMQ below (xQr (xck y)) args s (xmc (xck y)) (xms (xck y)) (fun _ => False)) (F0 m 0 ls []) := by
  obtain ⟨hx, hb, hml, hr, hlocks, hown, hno, hG⟩ := C
  have hK := hG.1
  have hE := hG.2.1
  unfold g_X4_checkSlot_0 at hf
  refine lv_aload_n hx hb dX4_checkSlot_0 rfl (lv_at hl 0 rfl) ?_
  refine va_get (D := D) (ci := 4) (v := .ref (q 1)) (C := RX4) (T := TX4) (N := 4) hx hb (hwX4 hE) (fun _ h => h) hown hK hP 0 rfl rfl 0 (by decide) (hE _ fl_X4_12 rfl _) (fun _ h9 => h9) rfl dX4_checkSlot_1 ?_
  refine lv_iload_n hx hb dX4_checkSlot_4 rfl (lv_at hl 1 rfl) ?_
  obtain ⟨r5, hN, hf⟩ := xbind hf
  refine xgo_r (v := some (.int r5)) (xrunV (C := RX3) (As := [.int v1]) (rest := []) (xfixm fx_X3_isSlot hx hb hml hown (by decide) (by decide) (by decide) (by decide)) hE ml_X4_206 wi_X3_isSlot wz_X3_isSlot wc_X3_isSlot wn_X3 (c_X3_isSlot l D q k a b o v1 _ hN) (va_recv (q := (RX3, TX3, 3)) (ci := 3) (q0 := 1) hK hP rfl rfl) (xpre hP hD hG) rfl rfl hl.1 rfl (lv_room (Nat.le_of_ble_eq_true rfl)) dX4_checkSlot_5) ?_
  refine lv_if_ne hx hb dX4_checkSlot_8 rfl (fun hc => ?_) (fun hc => ?_)
  · rw [if_neg hc] at hf
    cases hf
    exact xret_v hx hb hr hlocks dX4_checkSlot_21
  · rw [if_pos hc] at hf
    cases hf
    obtain ⟨sa, hsa⟩ := hG.2.2 (RX4, 211, "no slot at that minute") (by decide +kernel)
    exact xthrowN (own := RX4) (cls := "java/util/NoSuchElementException") (Y1 := "java/lang/RuntimeException") (text := "no slot at that minute") (names := ["java/lang/Exception"]) (ik := 209) (is := 211) (ic := 213) (ix := 13) (bytes := prog_17_method_4_code) (sa := sa) hx hb hl0 hown hE hst (by decide +kernel) (by decide +kernel) (by decide +kernel) (by decide +kernel) (by decide +kernel) (by decide +kernel) (by decide +kernel) tw_X4_213 kl_X4_209 wn_NoSuchElementException hsa hno hlocks (hl.1.trans hml.symm) dX4_checkSlot_11 dX4_checkSlot_14 dX4_checkSlot_15 dX4_checkSlot_17 dX4_checkSlot_20 (by decide) (by decide) (by decide) (by decide) (fun u t h => ⟨u, rfl, h⟩)
noncomputable def f_X4_checkSlot (a : xT) (v1 : Int32) : Option (Option String) := g_X4_checkSlot_0 a v1
set_option maxHeartbeats 4000000 in
set_option maxRecDepth 100000 in
theorem c_X4_checkSlot (l : Launch) (hl0 : l.stackTraces = false) (D : va_G) (q : Nat → Nat) (k : Nat → ClassId) (a b : xT) (o : Nat → Int64) (v1 : Int32) (y : Option String) (hf : f_X4_checkSlot a v1 = some y) : xMet l yX4_checkSlot (.code yX4_checkSlot cX4_checkSlot 2 none) r_X4_checkSlot (xPcT D q k a b o [.ref (q 0), .int v1]) (xQr (xck y)) (xmc (xck y)) (xms (xck y)) (fun _ => False) := by
  refine xMet.ofW (by decide) ?_
  intro p e s m args below meth c hx hb hml hr hlocks hnm hme hno hv
  obtain ⟨rfl, hP, hD, hG, hst⟩ := hv
  have hown : s.vm.findClass RX4 = some m.cls := findClass_of_methodNamed hnm
  have hl := lv_entry ([.ref (q 0), .int v1]) (n := 2) (Nat.le_of_ble_eq_true rfl)
  rw [lg_entry_eq]
  generalize (lg_sl ([.ref (q 0), .int v1]) ++ List.replicate (2 - (lg_sl ([.ref (q 0), .int v1])).length) Slot.unset).toArray = ls at hl ⊢
  have hl : lv_has ls 2 [(0, .ref (q 0)), (1, .int v1)] := hl
  exact t_X4_checkSlot_0 ⟨hx, hb, hml, hr, hlocks, hown, hno, hG⟩ hl0 hst hP hD hl hf
abbrev r_X4_clearWhatIsNotFrozen : Room := { frames := 1, cells := 0, slots := 0, locals := 22 }
noncomputable def g_X4_clearWhatIsNotFrozen_78 (K45 : xT → Int32 → Option (xT)) (a : xT) (v1 : Int32) : Option (xT) := K45 a (v1 + 1)
set_option maxHeartbeats 4000000 in
set_option maxRecDepth 100000 in
theorem t_X4_clearWhatIsNotFrozen_78 {p : Program} {l : Launch} {e : Env} {s : State} {m : MethodId} {args : Array Value} {below : List Frame} {meth : Method} {c : Code} {D : va_G} {q : Nat → Nat} {k : Nat → ClassId} {a b : xT} {o : Nat → Int64} {z : xT} {y : xT} (C : xCx p s m meth c cX4_clearWhatIsNotFrozen 2 none RX4 D k) {H : Heap} {locs : List Loc} (hP : va_P D vwCl (xw q k a b o) H) (hD : va_D (va_A (xw q k z b o) s.heap.size) (xw q k a b o)) (hS : va_S (va_A (xw q k z b o) s.heap.size) s.heap H locs) {K45 : xT → Int32 → Option (xT)} (hK45 : ∀ {a : xT} {v1 : Int32} {ls : Array Slot} {H : Heap} {locs : List Loc}, va_P D vwCl (xw q k a b o) H → va_D (va_A (xw q k z b o) s.heap.size) (xw q k a b o) → va_S (va_A (xw q k z b o) s.heap.size) s.heap H locs → lv_has ls 2 [(0, .ref (q 0)), (1, .int v1)] → K45 a v1 = some y → W p l e r_X4_clearWhatIsNotFrozen s m args below meth c H locs 0 0 (xMQ below (xQm D q k z b o (.inr (none, y, b))) args s 0 0 (va_A (xw q k z b o) s.heap.size)) (F0 m 45 ls [])) {v1 : Int32} {ls : Array Slot} (hl : lv_has ls 2 [(0, .ref (q 0)), (1, .int v1)]) (hf : g_X4_clearWhatIsNotFrozen_78 K45 a v1 = some y) : W p l e r_X4_clearWhatIsNotFrozen s m args below meth c H locs 0 0 (xMQ below (xQm D q k z b o (.inr (none, y, b))) args s 0 0 (va_A (xw q k z b o) s.heap.size)) (F0 m 78 ls []) := by
  obtain ⟨hx, hb, hml, hr, hlocks, hown, hno, hG⟩ := C
  have hK := hG.1
  have hE := hG.2.1
  have hA : ∀ u, s.heap.size ≤ u → va_A (xw q k z b o) s.heap.size u := fun u h => Or.inr h
  unfold g_X4_clearWhatIsNotFrozen_78 at hf
  refine lv_iinc (k := 1) (v := v1 + 1) (lv' := [(1, .int (v1 + 1)), (0, .ref (q 0))]) hx hb dX4_clearWhatIsNotFrozen_78 hl rfl (xinc (by decide) _) (by decide) rfl (fun ls hl => ?_)
  refine lv_goto hx hb dX4_clearWhatIsNotFrozen_81 rfl ?_
  exact hK45 hP hD hS (lv_sub hl [1, 0] rfl) hf
noncomputable def g_X4_clearWhatIsNotFrozen_45s (K45 : xT → Int32 → Option (xT)) (a : xT) (v1 : Int32) : Option (xT) := (if (a.2 0) ≤ v1 then some a else (if xin v1 60 = true then (if (a.1 8 v1.toNatClampNeg) = 0 then (if xin v1 60 = true then g_X4_clearWhatIsNotFrozen_78 K45 (xs a 6 v1.toNatClampNeg (-1)) v1 else none) else g_X4_clearWhatIsNotFrozen_78 K45 a v1) else none))
set_option maxHeartbeats 4000000 in
set_option maxRecDepth 100000 in
theorem t_X4_clearWhatIsNotFrozen_45s {p : Program} {l : Launch} {e : Env} {s : State} {m : MethodId} {args : Array Value} {below : List Frame} {meth : Method} {c : Code} {D : va_G} {q : Nat → Nat} {k : Nat → ClassId} {a b : xT} {o : Nat → Int64} {z : xT} {y : xT} (C : xCx p s m meth c cX4_clearWhatIsNotFrozen 2 none RX4 D k) {H : Heap} {locs : List Loc} (hP : va_P D vwCl (xw q k a b o) H) (hD : va_D (va_A (xw q k z b o) s.heap.size) (xw q k a b o)) (hS : va_S (va_A (xw q k z b o) s.heap.size) s.heap H locs) {K45 : xT → Int32 → Option (xT)} (hK45 : ∀ {a : xT} {v1 : Int32} {ls : Array Slot} {H : Heap} {locs : List Loc}, va_P D vwCl (xw q k a b o) H → va_D (va_A (xw q k z b o) s.heap.size) (xw q k a b o) → va_S (va_A (xw q k z b o) s.heap.size) s.heap H locs → lv_has ls 2 [(0, .ref (q 0)), (1, .int v1)] → K45 a v1 = some y → W p l e r_X4_clearWhatIsNotFrozen s m args below meth c H locs 0 0 (xMQ below (xQm D q k z b o (.inr (none, y, b))) args s 0 0 (va_A (xw q k z b o) s.heap.size)) (F0 m 45 ls [])) {v1 : Int32} {ls : Array Slot} (hl : lv_has ls 2 [(0, .ref (q 0)), (1, .int v1)]) (hf : g_X4_clearWhatIsNotFrozen_45s K45 a v1 = some y) : W p l e r_X4_clearWhatIsNotFrozen s m args below meth c H locs 0 0 (xMQ below (xQm D q k z b o (.inr (none, y, b))) args s 0 0 (va_A (xw q k z b o) s.heap.size)) (F0 m 45 ls []) := by
  obtain ⟨hx, hb, hml, hr, hlocks, hown, hno, hG⟩ := C
  have hK := hG.1
  have hE := hG.2.1
  have hA : ∀ u, s.heap.size ≤ u → va_A (xw q k z b o) s.heap.size u := fun u h => Or.inr h
  unfold g_X4_clearWhatIsNotFrozen_45s at hf
  refine lv_iload_n hx hb dX4_clearWhatIsNotFrozen_45 rfl (lv_at hl 1 rfl) ?_
  refine lv_aload_n hx hb dX4_clearWhatIsNotFrozen_46 rfl (lv_at hl 0 rfl) ?_
  refine va_get (D := D) (ci := 4) (v := .ref (q 2)) (C := RX4) (T := TX4) (N := 4) hx hb (hwX4 hE) (fun _ h => h) hown hK hP 0 rfl rfl 1 (by decide) (hE _ fl_X4_19 rfl _) (fun _ h9 => h9) rfl dX4_clearWhatIsNotFrozen_47 ?_
  refine va_get (D := D) (ci := 1) (v := .int (a.2 0)) (C := RX1) (T := TX1) (N := 8) hx hb (hwX1 hE) (fun _ h => h) hown hK hP 2 rfl rfl 7 (by decide) (hE _ fl_X4_77 rfl _) (fun _ h9 => h9) rfl dX4_clearWhatIsNotFrozen_50 ?_
  refine lv_icmp_ge hx hb dX4_clearWhatIsNotFrozen_53 rfl (fun hc => ?_) (fun hc => ?_)
  · rw [if_pos hc] at hf
    cases hf
    exact xretm_v hx hb hr hlocks hP hS dX4_clearWhatIsNotFrozen_84
  · rw [if_neg hc] at hf
    refine lv_aload_n hx hb dX4_clearWhatIsNotFrozen_56 rfl (lv_at hl 0 rfl) ?_
    refine va_get (D := D) (ci := 4) (v := .ref (q 2)) (C := RX4) (T := TX4) (N := 4) hx hb (hwX4 hE) (fun _ h => h) hown hK hP 0 rfl rfl 1 (by decide) (hE _ fl_X4_19 rfl _) (fun _ h9 => h9) rfl dX4_clearWhatIsNotFrozen_57 ?_
    refine va_get (D := D) (ci := 1) (v := .ref (q 13)) (C := RX1) (T := TX1) (N := 8) hx hb (hwX1 hE) (fun _ h => h) hown hK hP 2 rfl rfl 5 (by decide) (hE _ fl_X4_119 rfl _) (fun _ h9 => h9) rfl dX4_clearWhatIsNotFrozen_60 ?_
    refine lv_iload_n hx hb dX4_clearWhatIsNotFrozen_63 rfl (lv_at hl 1 rfl) ?_
    obtain ⟨hin, hf⟩ := xguard hf
    refine va_zald hx hb hK hP 13 1 rfl rfl hin dX4_clearWhatIsNotFrozen_64 ?_
    refine lv_if_ne hx hb dX4_clearWhatIsNotFrozen_65 rfl (fun hc => ?_) (fun hc => ?_)
    · rw [if_neg hc] at hf
      exact t_X4_clearWhatIsNotFrozen_78 ⟨hx, hb, hml, hr, hlocks, hown, hno, hG⟩ hP hD hS hK45 (lv_sub hl [0, 1] rfl) hf
    · rw [if_pos hc] at hf
      refine lv_aload_n hx hb dX4_clearWhatIsNotFrozen_68 rfl (lv_at hl 0 rfl) ?_
      refine va_get (D := D) (ci := 4) (v := .ref (q 2)) (C := RX4) (T := TX4) (N := 4) hx hb (hwX4 hE) (fun _ h => h) hown hK hP 0 rfl rfl 1 (by decide) (hE _ fl_X4_19 rfl _) (fun _ h9 => h9) rfl dX4_clearWhatIsNotFrozen_69 ?_
      refine va_get (D := D) (ci := 1) (v := .ref (q 11)) (C := RX1) (T := TX1) (N := 8) hx hb (hwX1 hE) (fun _ h => h) hown hK hP 2 rfl rfl 3 (by decide) (hE _ fl_X4_90 rfl _) (fun _ h9 => h9) rfl dX4_clearWhatIsNotFrozen_72 ?_
      refine lv_iload_n hx hb dX4_clearWhatIsNotFrozen_75 rfl (lv_at hl 1 rfl) ?_
      refine lv_iconst (v := -1) hx hb dX4_clearWhatIsNotFrozen_76 (by decide) ?_
      obtain ⟨hin, hf⟩ := xguard hf
      refine va_iast hx hb hK hP hD hS 11 0 rfl rfl hin dX4_clearWhatIsNotFrozen_77 (fun H locs hP hD hS => ?_)
      rw [xw_s11] at hP hD
      exact t_X4_clearWhatIsNotFrozen_78 ⟨hx, hb, hml, hr, hlocks, hown, hno, hG⟩ hP hD hS hK45 (lv_sub hl [0, 1] rfl) hf
noncomputable def g_X4_clearWhatIsNotFrozen_45  : Nat → xT → Int32 → Option (xT) := fun n => Nat.rec (motive := fun _ => xT → Int32 → Option (xT)) (fun _ _ => none) (fun _ ih => g_X4_clearWhatIsNotFrozen_45s ih) n
set_option maxHeartbeats 4000000 in
theorem t_X4_clearWhatIsNotFrozen_45 {p : Program} {l : Launch} {e : Env} {s : State} {m : MethodId} {args : Array Value} {below : List Frame} {meth : Method} {c : Code} {D : va_G} {q : Nat → Nat} {k : Nat → ClassId} {b : xT} {o : Nat → Int64} {z : xT} {y : xT} (C : xCx p s m meth c cX4_clearWhatIsNotFrozen 2 none RX4 D k)  (n : Nat) : ∀ {a : xT} {v1 : Int32} {ls : Array Slot} {H : Heap} {locs : List Loc}, va_P D vwCl (xw q k a b o) H → va_D (va_A (xw q k z b o) s.heap.size) (xw q k a b o) → va_S (va_A (xw q k z b o) s.heap.size) s.heap H locs → lv_has ls 2 [(0, .ref (q 0)), (1, .int v1)] → g_X4_clearWhatIsNotFrozen_45  n a v1 = some y → W p l e r_X4_clearWhatIsNotFrozen s m args below meth c H locs 0 0 (xMQ below (xQm D q k z b o (.inr (none, y, b))) args s 0 0 (va_A (xw q k z b o) s.heap.size)) (F0 m 45 ls []) := by
  induction n with
  | zero =>
    intro _ _ _ _ _ _ _ _ _ hf
    have h9 : (none : Option (xT)) = some y := hf
    cases h9
  | succ n ih =>
    intro _ _ _ _ _ hP hD hS hl hf
    exact t_X4_clearWhatIsNotFrozen_45s C hP hD hS (K45 := g_X4_clearWhatIsNotFrozen_45  n) ih hl hf
noncomputable def g_X4_clearWhatIsNotFrozen_37 (K2 : xT → Int32 → Option (xT)) (a : xT) (v1 : Int32) : Option (xT) := K2 a (v1 + 1)
set_option maxHeartbeats 4000000 in
set_option maxRecDepth 100000 in
theorem t_X4_clearWhatIsNotFrozen_37 {p : Program} {l : Launch} {e : Env} {s : State} {m : MethodId} {args : Array Value} {below : List Frame} {meth : Method} {c : Code} {D : va_G} {q : Nat → Nat} {k : Nat → ClassId} {a b : xT} {o : Nat → Int64} {z : xT} {y : xT} (C : xCx p s m meth c cX4_clearWhatIsNotFrozen 2 none RX4 D k) {H : Heap} {locs : List Loc} (hP : va_P D vwCl (xw q k a b o) H) (hD : va_D (va_A (xw q k z b o) s.heap.size) (xw q k a b o)) (hS : va_S (va_A (xw q k z b o) s.heap.size) s.heap H locs) {K2 : xT → Int32 → Option (xT)} (hK2 : ∀ {a : xT} {v1 : Int32} {ls : Array Slot} {H : Heap} {locs : List Loc}, va_P D vwCl (xw q k a b o) H → va_D (va_A (xw q k z b o) s.heap.size) (xw q k a b o) → va_S (va_A (xw q k z b o) s.heap.size) s.heap H locs → lv_has ls 2 [(0, .ref (q 0)), (1, .int v1)] → K2 a v1 = some y → W p l e r_X4_clearWhatIsNotFrozen s m args below meth c H locs 0 0 (xMQ below (xQm D q k z b o (.inr (none, y, b))) args s 0 0 (va_A (xw q k z b o) s.heap.size)) (F0 m 2 ls [])) {v1 : Int32} {ls : Array Slot} (hl : lv_has ls 2 [(0, .ref (q 0)), (1, .int v1)]) (hf : g_X4_clearWhatIsNotFrozen_37 K2 a v1 = some y) : W p l e r_X4_clearWhatIsNotFrozen s m args below meth c H locs 0 0 (xMQ below (xQm D q k z b o (.inr (none, y, b))) args s 0 0 (va_A (xw q k z b o) s.heap.size)) (F0 m 37 ls []) := by
  obtain ⟨hx, hb, hml, hr, hlocks, hown, hno, hG⟩ := C
  have hK := hG.1
  have hE := hG.2.1
  have hA : ∀ u, s.heap.size ≤ u → va_A (xw q k z b o) s.heap.size u := fun u h => Or.inr h
  unfold g_X4_clearWhatIsNotFrozen_37 at hf
  refine lv_iinc (k := 1) (v := v1 + 1) (lv' := [(1, .int (v1 + 1)), (0, .ref (q 0))]) hx hb dX4_clearWhatIsNotFrozen_37 hl rfl (xinc (by decide) _) (by decide) rfl (fun ls hl => ?_)
  refine lv_goto hx hb dX4_clearWhatIsNotFrozen_40 rfl ?_
  exact hK2 hP hD hS (lv_sub hl [1, 0] rfl) hf
noncomputable def g_X4_clearWhatIsNotFrozen_27 (K2 : xT → Int32 → Option (xT)) (a : xT) (v1 : Int32) : Option (xT) := (if xin v1 240 = true then g_X4_clearWhatIsNotFrozen_37 K2 (xs a 1 v1.toNatClampNeg (-1)) v1 else none)
set_option maxHeartbeats 4000000 in
set_option maxRecDepth 100000 in
theorem t_X4_clearWhatIsNotFrozen_27 {p : Program} {l : Launch} {e : Env} {s : State} {m : MethodId} {args : Array Value} {below : List Frame} {meth : Method} {c : Code} {D : va_G} {q : Nat → Nat} {k : Nat → ClassId} {a b : xT} {o : Nat → Int64} {z : xT} {y : xT} (C : xCx p s m meth c cX4_clearWhatIsNotFrozen 2 none RX4 D k) {H : Heap} {locs : List Loc} (hP : va_P D vwCl (xw q k a b o) H) (hD : va_D (va_A (xw q k z b o) s.heap.size) (xw q k a b o)) (hS : va_S (va_A (xw q k z b o) s.heap.size) s.heap H locs) {K2 : xT → Int32 → Option (xT)} (hK2 : ∀ {a : xT} {v1 : Int32} {ls : Array Slot} {H : Heap} {locs : List Loc}, va_P D vwCl (xw q k a b o) H → va_D (va_A (xw q k z b o) s.heap.size) (xw q k a b o) → va_S (va_A (xw q k z b o) s.heap.size) s.heap H locs → lv_has ls 2 [(0, .ref (q 0)), (1, .int v1)] → K2 a v1 = some y → W p l e r_X4_clearWhatIsNotFrozen s m args below meth c H locs 0 0 (xMQ below (xQm D q k z b o (.inr (none, y, b))) args s 0 0 (va_A (xw q k z b o) s.heap.size)) (F0 m 2 ls [])) {v1 : Int32} {ls : Array Slot} (hl : lv_has ls 2 [(0, .ref (q 0)), (1, .int v1)]) (hf : g_X4_clearWhatIsNotFrozen_27 K2 a v1 = some y) : W p l e r_X4_clearWhatIsNotFrozen s m args below meth c H locs 0 0 (xMQ below (xQm D q k z b o (.inr (none, y, b))) args s 0 0 (va_A (xw q k z b o) s.heap.size)) (F0 m 27 ls []) := by
  obtain ⟨hx, hb, hml, hr, hlocks, hown, hno, hG⟩ := C
  have hK := hG.1
  have hE := hG.2.1
  have hA : ∀ u, s.heap.size ≤ u → va_A (xw q k z b o) s.heap.size u := fun u h => Or.inr h
  unfold g_X4_clearWhatIsNotFrozen_27 at hf
  refine lv_aload_n hx hb dX4_clearWhatIsNotFrozen_27 rfl (lv_at hl 0 rfl) ?_
  refine va_get (D := D) (ci := 4) (v := .ref (q 1)) (C := RX4) (T := TX4) (N := 4) hx hb (hwX4 hE) (fun _ h => h) hown hK hP 0 rfl rfl 0 (by decide) (hE _ fl_X4_12 rfl _) (fun _ h9 => h9) rfl dX4_clearWhatIsNotFrozen_28 ?_
  refine va_get (D := D) (ci := 3) (v := .ref (q 6)) (C := RX3) (T := TX3) (N := 3) hx hb (hwX3 hE) (fun _ h => h) hown hK hP 1 rfl rfl 1 (by decide) (hE _ fl_X4_97 rfl _) (fun _ h9 => h9) rfl dX4_clearWhatIsNotFrozen_31 ?_
  refine lv_iload_n hx hb dX4_clearWhatIsNotFrozen_34 rfl (lv_at hl 1 rfl) ?_
  refine lv_iconst (v := -1) hx hb dX4_clearWhatIsNotFrozen_35 (by decide) ?_
  obtain ⟨hin, hf⟩ := xguard hf
  refine va_iast hx hb hK hP hD hS 6 0 rfl rfl hin dX4_clearWhatIsNotFrozen_36 (fun H locs hP hD hS => ?_)
  rw [xw_s6] at hP hD
  exact t_X4_clearWhatIsNotFrozen_37 ⟨hx, hb, hml, hr, hlocks, hown, hno, hG⟩ hP hD hS hK2 (lv_sub hl [0, 1] rfl) hf
noncomputable def g_X4_clearWhatIsNotFrozen_2s (K2 : xT → Int32 → Option (xT)) (a : xT) (v1 : Int32) : Option (xT) := (if 240 ≤ v1 then g_X4_clearWhatIsNotFrozen_45  1000 a 0 else ((f_X4_isFrozen a v1).bind fun r11 => (if r11 = 0 then (if xin v1 240 = true then g_X4_clearWhatIsNotFrozen_27 K2 (xs a 2 v1.toNatClampNeg (-1)) v1 else none) else g_X4_clearWhatIsNotFrozen_37 K2 a v1)))
set_option maxHeartbeats 4000000 in
set_option maxRecDepth 100000 in
theorem t_X4_clearWhatIsNotFrozen_2s {p : Program} {l : Launch} {e : Env} {s : State} {m : MethodId} {args : Array Value} {below : List Frame} {meth : Method} {c : Code} {D : va_G} {q : Nat → Nat} {k : Nat → ClassId} {a b : xT} {o : Nat → Int64} {z : xT} {y : xT} (C : xCx p s m meth c cX4_clearWhatIsNotFrozen 2 none RX4 D k) {H : Heap} {locs : List Loc} (hP : va_P D vwCl (xw q k a b o) H) (hD : va_D (va_A (xw q k z b o) s.heap.size) (xw q k a b o)) (hS : va_S (va_A (xw q k z b o) s.heap.size) s.heap H locs) {K2 : xT → Int32 → Option (xT)} (hK2 : ∀ {a : xT} {v1 : Int32} {ls : Array Slot} {H : Heap} {locs : List Loc}, va_P D vwCl (xw q k a b o) H → va_D (va_A (xw q k z b o) s.heap.size) (xw q k a b o) → va_S (va_A (xw q k z b o) s.heap.size) s.heap H locs → lv_has ls 2 [(0, .ref (q 0)), (1, .int v1)] → K2 a v1 = some y → W p l e r_X4_clearWhatIsNotFrozen s m args below meth c H locs 0 0 (xMQ below (xQm D q k z b o (.inr (none, y, b))) args s 0 0 (va_A (xw q k z b o) s.heap.size)) (F0 m 2 ls [])) {v1 : Int32} {ls : Array Slot} (hl : lv_has ls 2 [(0, .ref (q 0)), (1, .int v1)]) (hf : g_X4_clearWhatIsNotFrozen_2s K2 a v1 = some y) : W p l e r_X4_clearWhatIsNotFrozen s m args below meth c H locs 0 0 (xMQ below (xQm D q k z b o (.inr (none, y, b))) args s 0 0 (va_A (xw q k z b o) s.heap.size)) (F0 m 2 ls []) := by
  obtain ⟨hx, hb, hml, hr, hlocks, hown, hno, hG⟩ := C
  have hK := hG.1
  have hE := hG.2.1
  have hA : ∀ u, s.heap.size ≤ u → va_A (xw q k z b o) s.heap.size u := fun u h => Or.inr h
  unfold g_X4_clearWhatIsNotFrozen_2s at hf
  refine lv_iload_n hx hb dX4_clearWhatIsNotFrozen_2 rfl (lv_at hl 1 rfl) ?_
  refine lv_sipush (v := 240) hx hb dX4_clearWhatIsNotFrozen_3 (by decide) ?_
  refine lv_icmp_ge hx hb dX4_clearWhatIsNotFrozen_6 rfl (fun hc => ?_) (fun hc => ?_)
  · rw [if_pos hc] at hf
    refine lv_iconst (v := 0) hx hb dX4_clearWhatIsNotFrozen_43 (by decide) ?_
    refine lv_istore_n (lv' := [(1, .int 0), (0, .ref (q 0))]) hx hb dX4_clearWhatIsNotFrozen_44 rfl hl (by decide) rfl (fun ls hl => ?_)
    exact t_X4_clearWhatIsNotFrozen_45 ⟨hx, hb, hml, hr, hlocks, hown, hno, hG⟩  1000 hP hD hS (lv_sub hl [1, 0] rfl) hf
  · rw [if_neg hc] at hf
    refine lv_aload_n hx hb dX4_clearWhatIsNotFrozen_9 rfl (lv_at hl 0 rfl) ?_
    refine lv_iload_n hx hb dX4_clearWhatIsNotFrozen_10 rfl (lv_at hl 1 rfl) ?_
    obtain ⟨r11, hN, hf⟩ := xbind hf
    refine xgo_r (v := some (.int r11)) (xrunV (C := RX4) (As := [.int v1]) (rest := []) (xfixm fx_X4_isFrozen hx hb hml hown (by decide) (by decide) (by decide) (by decide)) hE ml_X4_219 wi_X4_isFrozen wz_X4_isFrozen wc_X4_isFrozen wn_X4 (c_X4_isFrozen l D q k a b o v1 _ hN) (va_recv (q := (RX4, TX4, 4)) (ci := 4) (q0 := 0) hK hP rfl rfl) (xpre hP hD hG) rfl rfl hl.1 rfl (lv_room (Nat.le_of_ble_eq_true rfl)) dX4_clearWhatIsNotFrozen_11) ?_
    refine lv_if_ne hx hb dX4_clearWhatIsNotFrozen_14 rfl (fun hc => ?_) (fun hc => ?_)
    · rw [if_neg hc] at hf
      exact t_X4_clearWhatIsNotFrozen_37 ⟨hx, hb, hml, hr, hlocks, hown, hno, hG⟩ hP hD hS hK2 (lv_sub hl [0, 1] rfl) hf
    · rw [if_pos hc] at hf
      refine lv_aload_n hx hb dX4_clearWhatIsNotFrozen_17 rfl (lv_at hl 0 rfl) ?_
      refine va_get (D := D) (ci := 4) (v := .ref (q 1)) (C := RX4) (T := TX4) (N := 4) hx hb (hwX4 hE) (fun _ h => h) hown hK hP 0 rfl rfl 0 (by decide) (hE _ fl_X4_12 rfl _) (fun _ h9 => h9) rfl dX4_clearWhatIsNotFrozen_18 ?_
      refine va_get (D := D) (ci := 3) (v := .ref (q 7)) (C := RX3) (T := TX3) (N := 3) hx hb (hwX3 hE) (fun _ h => h) hown hK hP 1 rfl rfl 2 (by decide) (hE _ fl_X4_100 rfl _) (fun _ h9 => h9) rfl dX4_clearWhatIsNotFrozen_21 ?_
      refine lv_iload_n hx hb dX4_clearWhatIsNotFrozen_24 rfl (lv_at hl 1 rfl) ?_
      refine lv_iconst (v := -1) hx hb dX4_clearWhatIsNotFrozen_25 (by decide) ?_
      obtain ⟨hin, hf⟩ := xguard hf
      refine va_iast hx hb hK hP hD hS 7 0 rfl rfl hin dX4_clearWhatIsNotFrozen_26 (fun H locs hP hD hS => ?_)
      rw [xw_s7] at hP hD
      exact t_X4_clearWhatIsNotFrozen_27 ⟨hx, hb, hml, hr, hlocks, hown, hno, hG⟩ hP hD hS hK2 (lv_sub hl [0, 1] rfl) hf
noncomputable def g_X4_clearWhatIsNotFrozen_2  : Nat → xT → Int32 → Option (xT) := fun n => Nat.rec (motive := fun _ => xT → Int32 → Option (xT)) (fun _ _ => none) (fun _ ih => g_X4_clearWhatIsNotFrozen_2s ih) n
set_option maxHeartbeats 4000000 in
theorem t_X4_clearWhatIsNotFrozen_2 {p : Program} {l : Launch} {e : Env} {s : State} {m : MethodId} {args : Array Value} {below : List Frame} {meth : Method} {c : Code} {D : va_G} {q : Nat → Nat} {k : Nat → ClassId} {b : xT} {o : Nat → Int64} {z : xT} {y : xT} (C : xCx p s m meth c cX4_clearWhatIsNotFrozen 2 none RX4 D k)  (n : Nat) : ∀ {a : xT} {v1 : Int32} {ls : Array Slot} {H : Heap} {locs : List Loc}, va_P D vwCl (xw q k a b o) H → va_D (va_A (xw q k z b o) s.heap.size) (xw q k a b o) → va_S (va_A (xw q k z b o) s.heap.size) s.heap H locs → lv_has ls 2 [(0, .ref (q 0)), (1, .int v1)] → g_X4_clearWhatIsNotFrozen_2  n a v1 = some y → W p l e r_X4_clearWhatIsNotFrozen s m args below meth c H locs 0 0 (xMQ below (xQm D q k z b o (.inr (none, y, b))) args s 0 0 (va_A (xw q k z b o) s.heap.size)) (F0 m 2 ls []) := by
  induction n with
  | zero =>
    intro _ _ _ _ _ _ _ _ _ hf
    have h9 : (none : Option (xT)) = some y := hf
    cases h9
  | succ n ih =>
    intro _ _ _ _ _ hP hD hS hl hf
    exact t_X4_clearWhatIsNotFrozen_2s C hP hD hS (K2 := g_X4_clearWhatIsNotFrozen_2  n) ih hl hf
noncomputable def g_X4_clearWhatIsNotFrozen_0  (a : xT)  : Option (xT) := g_X4_clearWhatIsNotFrozen_2  1000 a 0
set_option maxHeartbeats 4000000 in
set_option maxRecDepth 100000 in
theorem t_X4_clearWhatIsNotFrozen_0 {p : Program} {l : Launch} {e : Env} {s : State} {m : MethodId} {args : Array Value} {below : List Frame} {meth : Method} {c : Code} {D : va_G} {q : Nat → Nat} {k : Nat → ClassId} {a b : xT} {o : Nat → Int64} {z : xT} {y : xT} (C : xCx p s m meth c cX4_clearWhatIsNotFrozen 2 none RX4 D k) {H : Heap} {locs : List Loc} (hP : va_P D vwCl (xw q k a b o) H) (hD : va_D (va_A (xw q k z b o) s.heap.size) (xw q k a b o)) (hS : va_S (va_A (xw q k z b o) s.heap.size) s.heap H locs)  {ls : Array Slot} (hl : lv_has ls 2 [(0, .ref (q 0))]) (hf : g_X4_clearWhatIsNotFrozen_0  a  = some y) : W p l e r_X4_clearWhatIsNotFrozen s m args below meth c H locs 0 0 (xMQ below (xQm D q k z b o (.inr (none, y, b))) args s 0 0 (va_A (xw q k z b o) s.heap.size)) (F0 m 0 ls []) := by
  obtain ⟨hx, hb, hml, hr, hlocks, hown, hno, hG⟩ := C
  have hK := hG.1
  have hE := hG.2.1
  have hA : ∀ u, s.heap.size ≤ u → va_A (xw q k z b o) s.heap.size u := fun u h => Or.inr h
  unfold g_X4_clearWhatIsNotFrozen_0 at hf
  refine lv_iconst (v := 0) hx hb dX4_clearWhatIsNotFrozen_0 (by decide) ?_
  refine lv_istore_n (lv' := [(1, .int 0), (0, .ref (q 0))]) hx hb dX4_clearWhatIsNotFrozen_1 rfl hl (by decide) rfl (fun ls hl => ?_)
  exact t_X4_clearWhatIsNotFrozen_2 ⟨hx, hb, hml, hr, hlocks, hown, hno, hG⟩  1000 hP hD hS (lv_sub hl [1, 0] rfl) hf
noncomputable def f_X4_clearWhatIsNotFrozen (a : xT)  : Option (xT) := g_X4_clearWhatIsNotFrozen_0 a 
set_option maxHeartbeats 4000000 in
set_option maxRecDepth 100000 in
theorem c_X4_clearWhatIsNotFrozen (l : Launch) (D : va_G) (q : Nat → Nat) (k : Nat → ClassId) (sz : Nat) (a b : xT) (o : Nat → Int64)  (y : xT) (hf : f_X4_clearWhatIsNotFrozen a  = some y) : xMet l yX4_clearWhatIsNotFrozen (.code yX4_clearWhatIsNotFrozen cX4_clearWhatIsNotFrozen 2 none) r_X4_clearWhatIsNotFrozen (xPcm D q k sz a b o [.ref (q 0)]) (xQm D q k a b o (.inr (none, y, b))) 0 0 (va_A (xw q k a b o) sz) := by
  refine xMet.ofW (by decide) ?_
  intro p e s m args below meth c hx hb hml hr hlocks hnm hme hno hv
  obtain ⟨rfl, hsz, hP, hD, hG⟩ := hv
  subst hsz
  have hown : s.vm.findClass RX4 = some m.cls := findClass_of_methodNamed hnm
  have hl := lv_entry ([.ref (q 0)]) (n := 2) (Nat.le_of_ble_eq_true rfl)
  rw [lg_entry_eq]
  generalize (lg_sl ([.ref (q 0)]) ++ List.replicate (2 - (lg_sl ([.ref (q 0)])).length) Slot.unset).toArray = ls at hl ⊢
  have hl : lv_has ls 2 [(0, .ref (q 0))] := hl
  have hD := hD.self (sz := s.heap.size)
  exact t_X4_clearWhatIsNotFrozen_0 ⟨hx, hb, hml, hr, hlocks, hown, hno, hG⟩ hP hD va_S.rf hl hf
abbrev r_X4_couldMove : Room := { frames := 1, cells := 0, slots := 0, locals := 22 }
noncomputable def g_X4_couldMove_29  (a : xT) (s0 : Int32) : Option (Int32) := (if xzb s0 = true then some s0 else none)
set_option maxHeartbeats 4000000 in
set_option maxRecDepth 100000 in
theorem t_X4_couldMove_29 {p : Program} {l : Launch} {e : Env} {s : State} {m : MethodId} {args : Array Value} {below : List Frame} {meth : Method} {c : Code} {D : va_G} {q : Nat → Nat} {k : Nat → ClassId} {a b : xT} {o : Nat → Int64} {y : Int32} (C : xCx p s m meth c cX4_couldMove 3 (some .boolean) RX4 D k) (hP : va_P D vwCl (xw q k a b o) s.heap) (hD : va_D (fun _ => True) (xw q k a b o))  {s0 : Int32} {ls : Array Slot} (hl : lv_has ls 3 []) (hf : g_X4_couldMove_29  a s0 = some y) : W p l e r_X4_couldMove s m args below meth c s.heap [] 0 0 (xMQ below (xQr (.inr (some (.int y)))) args s (xmc (.inr (some (.int y)))) (xms (.inr (some (.int y)))) (fun _ => False)) (F0 m 29 ls [.int s0]) := by
  obtain ⟨hx, hb, hml, hr, hlocks, hown, hno, hG⟩ := C
  have hK := hG.1
  have hE := hG.2.1
  unfold g_X4_couldMove_29 at hf
  obtain ⟨hz, hf⟩ := xguz hf
  cases hf
  exact xret_z hx hb hr hz hlocks dX4_couldMove_29
noncomputable def g_X4_couldMove_28  (a : xT)  : Option (Int32) := g_X4_couldMove_29  a 0
set_option maxHeartbeats 4000000 in
set_option maxRecDepth 100000 in
theorem t_X4_couldMove_28 {p : Program} {l : Launch} {e : Env} {s : State} {m : MethodId} {args : Array Value} {below : List Frame} {meth : Method} {c : Code} {D : va_G} {q : Nat → Nat} {k : Nat → ClassId} {a b : xT} {o : Nat → Int64} {y : Int32} (C : xCx p s m meth c cX4_couldMove 3 (some .boolean) RX4 D k) (hP : va_P D vwCl (xw q k a b o) s.heap) (hD : va_D (fun _ => True) (xw q k a b o))  {ls : Array Slot} (hl : lv_has ls 3 []) (hf : g_X4_couldMove_28  a  = some y) : W p l e r_X4_couldMove s m args below meth c s.heap [] 0 0 (xMQ below (xQr (.inr (some (.int y)))) args s (xmc (.inr (some (.int y)))) (xms (.inr (some (.int y)))) (fun _ => False)) (F0 m 28 ls []) := by
  obtain ⟨hx, hb, hml, hr, hlocks, hown, hno, hG⟩ := C
  have hK := hG.1
  have hE := hG.2.1
  unfold g_X4_couldMove_28 at hf
  refine lv_iconst (v := 0) hx hb dX4_couldMove_28 (by decide) ?_
  exact t_X4_couldMove_29 ⟨hx, hb, hml, hr, hlocks, hown, hno, hG⟩ hP hD  (lv_sub hl [] rfl) hf
noncomputable def g_X4_couldMove_0  (a : xT) (v1 : Int32) (v2 : Int32) : Option (Int32) := (if xin v1 60 = true then (if (a.1 8 v1.toNatClampNeg) = 0 then ((f_X1_canUse a v1 v2).bind fun r18 => (if r18 = 0 then g_X4_couldMove_28  a  else g_X4_couldMove_29  a 1)) else g_X4_couldMove_28  a ) else none)
set_option maxHeartbeats 4000000 in
set_option maxRecDepth 100000 in
theorem t_X4_couldMove_0 {p : Program} {l : Launch} {e : Env} {s : State} {m : MethodId} {args : Array Value} {below : List Frame} {meth : Method} {c : Code} {D : va_G} {q : Nat → Nat} {k : Nat → ClassId} {a b : xT} {o : Nat → Int64} {y : Int32} (C : xCx p s m meth c cX4_couldMove 3 (some .boolean) RX4 D k) (hP : va_P D vwCl (xw q k a b o) s.heap) (hD : va_D (fun _ => True) (xw q k a b o))  {v1 v2 : Int32} {ls : Array Slot} (hl : lv_has ls 3 [(0, .ref (q 0)), (1, .int v1), (2, .int v2)]) (hf : g_X4_couldMove_0  a v1 v2 = some y) : W p l e r_X4_couldMove s m args below meth c s.heap [] 0 0 (xMQ below (xQr (.inr (some (.int y)))) args s (xmc (.inr (some (.int y)))) (xms (.inr (some (.int y)))) (fun _ => False)) (F0 m 0 ls []) := by
  obtain ⟨hx, hb, hml, hr, hlocks, hown, hno, hG⟩ := C
  have hK := hG.1
  have hE := hG.2.1
  unfold g_X4_couldMove_0 at hf
  refine lv_aload_n hx hb dX4_couldMove_0 rfl (lv_at hl 0 rfl) ?_
  refine va_get (D := D) (ci := 4) (v := .ref (q 2)) (C := RX4) (T := TX4) (N := 4) hx hb (hwX4 hE) (fun _ h => h) hown hK hP 0 rfl rfl 1 (by decide) (hE _ fl_X4_19 rfl _) (fun _ h9 => h9) rfl dX4_couldMove_1 ?_
  refine va_get (D := D) (ci := 1) (v := .ref (q 13)) (C := RX1) (T := TX1) (N := 8) hx hb (hwX1 hE) (fun _ h => h) hown hK hP 2 rfl rfl 5 (by decide) (hE _ fl_X4_119 rfl _) (fun _ h9 => h9) rfl dX4_couldMove_4 ?_
  refine lv_iload_n hx hb dX4_couldMove_7 rfl (lv_at hl 1 rfl) ?_
  obtain ⟨hin, hf⟩ := xguard hf
  refine va_zald hx hb hK hP 13 1 rfl rfl hin dX4_couldMove_8 ?_
  refine lv_if_ne hx hb dX4_couldMove_9 rfl (fun hc => ?_) (fun hc => ?_)
  · rw [if_neg hc] at hf
    exact t_X4_couldMove_28 ⟨hx, hb, hml, hr, hlocks, hown, hno, hG⟩ hP hD  (lv_sub hl [] rfl) hf
  · rw [if_pos hc] at hf
    refine lv_aload_n hx hb dX4_couldMove_12 rfl (lv_at hl 0 rfl) ?_
    refine va_get (D := D) (ci := 4) (v := .ref (q 2)) (C := RX4) (T := TX4) (N := 4) hx hb (hwX4 hE) (fun _ h => h) hown hK hP 0 rfl rfl 1 (by decide) (hE _ fl_X4_19 rfl _) (fun _ h9 => h9) rfl dX4_couldMove_13 ?_
    refine lv_iload_n hx hb dX4_couldMove_16 rfl (lv_at hl 1 rfl) ?_
    refine lv_iload_n hx hb dX4_couldMove_17 rfl (lv_at hl 2 rfl) ?_
    obtain ⟨r18, hN, hf⟩ := xbind hf
    refine xgo_r (v := some (.int r18)) (xrunV (C := RX1) (As := [.int v1, .int v2]) (rest := []) (xfixm fx_X1_canUse hx hb hml hown (by decide) (by decide) (by decide) (by decide)) hE ml_X4_109 wi_X1_canUse wz_X1_canUse wc_X1_canUse wn_X1 (c_X1_canUse l D q k a b o v1 v2 _ hN) (va_recv (q := (RX1, TX1, 8)) (ci := 1) (q0 := 2) hK hP rfl rfl) (xpre hP hD hG) rfl rfl hl.1 rfl (lv_room (Nat.le_of_ble_eq_true rfl)) dX4_couldMove_18) ?_
    refine lv_if_eq hx hb dX4_couldMove_21 rfl (fun hc => ?_) (fun hc => ?_)
    · rw [if_pos hc] at hf
      exact t_X4_couldMove_28 ⟨hx, hb, hml, hr, hlocks, hown, hno, hG⟩ hP hD  (lv_sub hl [] rfl) hf
    · rw [if_neg hc] at hf
      refine lv_iconst (v := 1) hx hb dX4_couldMove_24 (by decide) ?_
      refine lv_goto hx hb dX4_couldMove_25 rfl ?_
      exact t_X4_couldMove_29 ⟨hx, hb, hml, hr, hlocks, hown, hno, hG⟩ hP hD  (lv_sub hl [] rfl) hf
noncomputable def f_X4_couldMove (a : xT) (v1 : Int32) (v2 : Int32) : Option (Int32) := g_X4_couldMove_0 a v1 v2
set_option maxHeartbeats 4000000 in
set_option maxRecDepth 100000 in
theorem c_X4_couldMove (l : Launch) (D : va_G) (q : Nat → Nat) (k : Nat → ClassId) (a b : xT) (o : Nat → Int64) (v1 : Int32) (v2 : Int32) (y : Int32) (hf : f_X4_couldMove a v1 v2 = some y) : xMet l yX4_couldMove (.code yX4_couldMove cX4_couldMove 3 (some .boolean)) r_X4_couldMove (xPc D q k a b o [.ref (q 0), .int v1, .int v2]) (xQr (.inr (some (.int y)))) (xmc (.inr (some (.int y)))) (xms (.inr (some (.int y)))) (fun _ => False) := by
  refine xMet.ofW (by decide) ?_
  intro p e s m args below meth c hx hb hml hr hlocks hnm hme hno hv
  obtain ⟨rfl, hP, hD, hG⟩ := hv
  have hown : s.vm.findClass RX4 = some m.cls := findClass_of_methodNamed hnm
  have hl := lv_entry ([.ref (q 0), .int v1, .int v2]) (n := 3) (Nat.le_of_ble_eq_true rfl)
  rw [lg_entry_eq]
  generalize (lg_sl ([.ref (q 0), .int v1, .int v2]) ++ List.replicate (3 - (lg_sl ([.ref (q 0), .int v1, .int v2])).length) Slot.unset).toArray = ls at hl ⊢
  have hl : lv_has ls 3 [(0, .ref (q 0)), (1, .int v1), (2, .int v2)] := hl
  exact t_X4_couldMove_0 ⟨hx, hb, hml, hr, hlocks, hown, hno, hG⟩ hP hD hl hf
abbrev r_X4_flightToMoveTo : Room := { frames := 2, cells := 0, slots := 0, locals := 44 }
noncomputable def g_X4_flightToMoveTo_86 (K19 : Int32 → Int32 → Int32 → Option (Int32)) (a : xT) (v1 : Int32) (v2 : Int32) (v3 : Int32) : Option (Int32) := K19 v1 v2 (v3 + 1)
set_option maxHeartbeats 4000000 in
set_option maxRecDepth 100000 in
theorem t_X4_flightToMoveTo_86 {p : Program} {l : Launch} {e : Env} {s : State} {m : MethodId} {args : Array Value} {below : List Frame} {meth : Method} {c : Code} {D : va_G} {q : Nat → Nat} {k : Nat → ClassId} {a b : xT} {o : Nat → Int64} {y : Int32} (C : xCx p s m meth c cX4_flightToMoveTo 5 (some .int) RX4 D k) (hP : va_P D vwCl (xw q k a b o) s.heap) (hD : va_D (fun _ => True) (xw q k a b o)) {K19 : Int32 → Int32 → Int32 → Option (Int32)} (hK19 : ∀ {v1 v2 v3 : Int32} {ls : Array Slot}, lv_has ls 5 [(0, .ref (q 0)), (1, .int v1), (2, .int v2), (3, .int v3)] → K19 v1 v2 v3 = some y → W p l e r_X4_flightToMoveTo s m args below meth c s.heap [] 0 0 (xMQ below (xQr (.inr (some (.int y)))) args s (xmc (.inr (some (.int y)))) (xms (.inr (some (.int y)))) (fun _ => False)) (F0 m 19 ls [])) {v1 v2 v3 : Int32} {ls : Array Slot} (hl : lv_has ls 5 [(0, .ref (q 0)), (1, .int v1), (2, .int v2), (3, .int v3)]) (hf : g_X4_flightToMoveTo_86 K19 a v1 v2 v3 = some y) : W p l e r_X4_flightToMoveTo s m args below meth c s.heap [] 0 0 (xMQ below (xQr (.inr (some (.int y)))) args s (xmc (.inr (some (.int y)))) (xms (.inr (some (.int y)))) (fun _ => False)) (F0 m 86 ls []) := by
  obtain ⟨hx, hb, hml, hr, hlocks, hown, hno, hG⟩ := C
  have hK := hG.1
  have hE := hG.2.1
  unfold g_X4_flightToMoveTo_86 at hf
  refine lv_iinc (k := 3) (v := v3 + 1) (lv' := [(3, .int (v3 + 1)), (0, .ref (q 0)), (1, .int v1), (2, .int v2)]) hx hb dX4_flightToMoveTo_86 hl rfl (xinc (by decide) _) (by decide) rfl (fun ls hl => ?_)
  refine lv_goto hx hb dX4_flightToMoveTo_89 rfl ?_
  exact hK19 (lv_sub hl [1, 2, 3, 0] rfl) hf
noncomputable def g_X4_flightToMoveTo_19s (K19 : Int32 → Int32 → Int32 → Option (Int32)) (a : xT) (v1 : Int32) (v2 : Int32) (v3 : Int32) : Option (Int32) := (if 240 ≤ v3 then some v2 else (if xin v3 240 = true then (if (a.1 2 v3.toNatClampNeg) = (-1) then g_X4_flightToMoveTo_86 K19 a v1 v2 v3 else ((f_X4_couldMove a (a.1 2 v3.toNatClampNeg) v1).bind fun r47 => (if r47 = 0 then g_X4_flightToMoveTo_86 K19 a v1 v2 v3 else (if xin (a.1 2 v3.toNatClampNeg) 60 = true then (if xin v1 240 = true then (if (a.1 3 (a.1 2 v3.toNatClampNeg).toNatClampNeg) = (a.1 1 v1.toNatClampNeg) then some (a.1 2 v3.toNatClampNeg) else (if v2 = (-1) then g_X4_flightToMoveTo_86 K19 a v1 (a.1 2 v3.toNatClampNeg) v3 else g_X4_flightToMoveTo_86 K19 a v1 v2 v3)) else none) else none)))) else none))
set_option maxHeartbeats 4000000 in
set_option maxRecDepth 100000 in
theorem t_X4_flightToMoveTo_19s {p : Program} {l : Launch} {e : Env} {s : State} {m : MethodId} {args : Array Value} {below : List Frame} {meth : Method} {c : Code} {D : va_G} {q : Nat → Nat} {k : Nat → ClassId} {a b : xT} {o : Nat → Int64} {y : Int32} (C : xCx p s m meth c cX4_flightToMoveTo 5 (some .int) RX4 D k) (hP : va_P D vwCl (xw q k a b o) s.heap) (hD : va_D (fun _ => True) (xw q k a b o)) {K19 : Int32 → Int32 → Int32 → Option (Int32)} (hK19 : ∀ {v1 v2 v3 : Int32} {ls : Array Slot}, lv_has ls 5 [(0, .ref (q 0)), (1, .int v1), (2, .int v2), (3, .int v3)] → K19 v1 v2 v3 = some y → W p l e r_X4_flightToMoveTo s m args below meth c s.heap [] 0 0 (xMQ below (xQr (.inr (some (.int y)))) args s (xmc (.inr (some (.int y)))) (xms (.inr (some (.int y)))) (fun _ => False)) (F0 m 19 ls [])) {v1 v2 v3 : Int32} {ls : Array Slot} (hl : lv_has ls 5 [(0, .ref (q 0)), (1, .int v1), (2, .int v2), (3, .int v3)]) (hf : g_X4_flightToMoveTo_19s K19 a v1 v2 v3 = some y) : W p l e r_X4_flightToMoveTo s m args below meth c s.heap [] 0 0 (xMQ below (xQr (.inr (some (.int y)))) args s (xmc (.inr (some (.int y)))) (xms (.inr (some (.int y)))) (fun _ => False)) (F0 m 19 ls []) := by
  obtain ⟨hx, hb, hml, hr, hlocks, hown, hno, hG⟩ := C
  have hK := hG.1
  have hE := hG.2.1
  unfold g_X4_flightToMoveTo_19s at hf
  refine lv_iload_n hx hb dX4_flightToMoveTo_19 rfl (lv_at hl 3 rfl) ?_
  refine lv_sipush (v := 240) hx hb dX4_flightToMoveTo_20 (by decide) ?_
  refine lv_icmp_ge hx hb dX4_flightToMoveTo_23 rfl (fun hc => ?_) (fun hc => ?_)
  · rw [if_pos hc] at hf
    refine lv_iload_n hx hb dX4_flightToMoveTo_92 rfl (lv_at hl 2 rfl) ?_
    cases hf
    exact xret_i hx hb hr hlocks dX4_flightToMoveTo_93
  · rw [if_neg hc] at hf
    refine lv_aload_n hx hb dX4_flightToMoveTo_26 rfl (lv_at hl 0 rfl) ?_
    refine va_get (D := D) (ci := 4) (v := .ref (q 1)) (C := RX4) (T := TX4) (N := 4) hx hb (hwX4 hE) (fun _ h => h) hown hK hP 0 rfl rfl 0 (by decide) (hE _ fl_X4_12 rfl _) (fun _ h9 => h9) rfl dX4_flightToMoveTo_27 ?_
    refine va_get (D := D) (ci := 3) (v := .ref (q 7)) (C := RX3) (T := TX3) (N := 3) hx hb (hwX3 hE) (fun _ h => h) hown hK hP 1 rfl rfl 2 (by decide) (hE _ fl_X4_100 rfl _) (fun _ h9 => h9) rfl dX4_flightToMoveTo_30 ?_
    refine lv_iload_n hx hb dX4_flightToMoveTo_33 rfl (lv_at hl 3 rfl) ?_
    obtain ⟨hin, hf⟩ := xguard hf
    refine va_iald hx hb hK hP 7 0 rfl rfl hin dX4_flightToMoveTo_34 ?_
    refine lv_istore (lv' := [(4, .int (a.1 2 v3.toNatClampNeg)), (0, .ref (q 0)), (1, .int v1), (2, .int v2), (3, .int v3)]) hx hb dX4_flightToMoveTo_35 hl (by decide) rfl (fun ls hl => ?_)
    refine lv_iload hx hb dX4_flightToMoveTo_37 (lv_at hl 0 rfl) ?_
    refine lv_iconst (v := -1) hx hb dX4_flightToMoveTo_39 (by decide) ?_
    refine lv_icmp_eq hx hb dX4_flightToMoveTo_40 rfl (fun hc => ?_) (fun hc => ?_)
    · rw [if_pos hc] at hf
      exact t_X4_flightToMoveTo_86 ⟨hx, hb, hml, hr, hlocks, hown, hno, hG⟩ hP hD hK19 (lv_sub hl [1, 2, 3, 4] rfl) hf
    · rw [if_neg hc] at hf
      refine lv_aload_n hx hb dX4_flightToMoveTo_43 rfl (lv_at hl 1 rfl) ?_
      refine lv_iload hx hb dX4_flightToMoveTo_44 (lv_at hl 0 rfl) ?_
      refine lv_iload_n hx hb dX4_flightToMoveTo_46 rfl (lv_at hl 2 rfl) ?_
      obtain ⟨r47, hN, hf⟩ := xbind hf
      refine xgo_r (v := some (.int r47)) (xrunV (C := RX4) (As := [.int (a.1 2 v3.toNatClampNeg), .int v1]) (rest := []) (xfixm fx_X4_couldMove hx hb hml hown (by decide) (by decide) (by decide) (by decide)) hE ml_X4_131 wi_X4_couldMove wz_X4_couldMove wc_X4_couldMove wn_X4 (c_X4_couldMove l D q k a b o (a.1 2 v3.toNatClampNeg) v1 _ hN) (va_recv (q := (RX4, TX4, 4)) (ci := 4) (q0 := 0) hK hP rfl rfl) (xpre hP hD hG) rfl rfl hl.1 rfl (lv_room (Nat.le_of_ble_eq_true rfl)) dX4_flightToMoveTo_47) ?_
      refine lv_if_eq hx hb dX4_flightToMoveTo_50 rfl (fun hc => ?_) (fun hc => ?_)
      · rw [if_pos hc] at hf
        exact t_X4_flightToMoveTo_86 ⟨hx, hb, hml, hr, hlocks, hown, hno, hG⟩ hP hD hK19 (lv_sub hl [1, 2, 3, 4] rfl) hf
      · rw [if_neg hc] at hf
        refine lv_aload_n hx hb dX4_flightToMoveTo_53 rfl (lv_at hl 1 rfl) ?_
        refine va_get (D := D) (ci := 4) (v := .ref (q 2)) (C := RX4) (T := TX4) (N := 4) hx hb (hwX4 hE) (fun _ h => h) hown hK hP 0 rfl rfl 1 (by decide) (hE _ fl_X4_19 rfl _) (fun _ h9 => h9) rfl dX4_flightToMoveTo_54 ?_
        refine va_get (D := D) (ci := 1) (v := .ref (q 8)) (C := RX1) (T := TX1) (N := 8) hx hb (hwX1 hE) (fun _ h => h) hown hK hP 2 rfl rfl 0 (by decide) (hE _ fl_X4_124 rfl _) (fun _ h9 => h9) rfl dX4_flightToMoveTo_57 ?_
        refine lv_iload hx hb dX4_flightToMoveTo_60 (lv_at hl 0 rfl) ?_
        obtain ⟨hin, hf⟩ := xguard hf
        refine va_iald hx hb hK hP 8 0 rfl rfl hin dX4_flightToMoveTo_62 ?_
        refine lv_aload_n hx hb dX4_flightToMoveTo_63 rfl (lv_at hl 1 rfl) ?_
        refine va_get (D := D) (ci := 4) (v := .ref (q 1)) (C := RX4) (T := TX4) (N := 4) hx hb (hwX4 hE) (fun _ h => h) hown hK hP 0 rfl rfl 0 (by decide) (hE _ fl_X4_12 rfl _) (fun _ h9 => h9) rfl dX4_flightToMoveTo_64 ?_
        refine va_get (D := D) (ci := 3) (v := .ref (q 6)) (C := RX3) (T := TX3) (N := 3) hx hb (hwX3 hE) (fun _ h => h) hown hK hP 1 rfl rfl 1 (by decide) (hE _ fl_X4_97 rfl _) (fun _ h9 => h9) rfl dX4_flightToMoveTo_67 ?_
        refine lv_iload_n hx hb dX4_flightToMoveTo_70 rfl (lv_at hl 2 rfl) ?_
        obtain ⟨hin, hf⟩ := xguard hf
        refine va_iald hx hb hK hP 6 0 rfl rfl hin dX4_flightToMoveTo_71 ?_
        refine lv_icmp_ne hx hb dX4_flightToMoveTo_72 rfl (fun hc => ?_) (fun hc => ?_)
        · rw [if_neg hc] at hf
          refine lv_iload_n hx hb dX4_flightToMoveTo_78 rfl (lv_at hl 3 rfl) ?_
          refine lv_iconst (v := -1) hx hb dX4_flightToMoveTo_79 (by decide) ?_
          refine lv_icmp_ne hx hb dX4_flightToMoveTo_80 rfl (fun hc => ?_) (fun hc => ?_)
          · rw [if_neg hc] at hf
            exact t_X4_flightToMoveTo_86 ⟨hx, hb, hml, hr, hlocks, hown, hno, hG⟩ hP hD hK19 (lv_sub hl [1, 2, 3, 4] rfl) hf
          · rw [if_pos hc] at hf
            refine lv_iload hx hb dX4_flightToMoveTo_83 (lv_at hl 0 rfl) ?_
            refine lv_istore_n (lv' := [(2, .int (a.1 2 v3.toNatClampNeg)), (4, .int (a.1 2 v3.toNatClampNeg)), (0, .ref (q 0)), (1, .int v1), (3, .int v3)]) hx hb dX4_flightToMoveTo_85 rfl hl (by decide) rfl (fun ls hl => ?_)
            exact t_X4_flightToMoveTo_86 ⟨hx, hb, hml, hr, hlocks, hown, hno, hG⟩ hP hD hK19 (lv_sub hl [2, 3, 0, 4] rfl) hf
        · rw [if_pos hc] at hf
          refine lv_iload hx hb dX4_flightToMoveTo_75 (lv_at hl 0 rfl) ?_
          cases hf
          exact xret_i hx hb hr hlocks dX4_flightToMoveTo_77
noncomputable def g_X4_flightToMoveTo_19  (a : xT) : Nat → Int32 → Int32 → Int32 → Option (Int32) := fun n => Nat.rec (motive := fun _ => Int32 → Int32 → Int32 → Option (Int32)) (fun _ _ _ => none) (fun _ ih => g_X4_flightToMoveTo_19s ih a) n
set_option maxHeartbeats 4000000 in
theorem t_X4_flightToMoveTo_19 {p : Program} {l : Launch} {e : Env} {s : State} {m : MethodId} {args : Array Value} {below : List Frame} {meth : Method} {c : Code} {D : va_G} {q : Nat → Nat} {k : Nat → ClassId} {a b : xT} {o : Nat → Int64} {y : Int32} (C : xCx p s m meth c cX4_flightToMoveTo 5 (some .int) RX4 D k) (hP : va_P D vwCl (xw q k a b o) s.heap) (hD : va_D (fun _ => True) (xw q k a b o))  (n : Nat) : ∀ {v1 v2 v3 : Int32} {ls : Array Slot}, lv_has ls 5 [(0, .ref (q 0)), (1, .int v1), (2, .int v2), (3, .int v3)] → g_X4_flightToMoveTo_19  a n v1 v2 v3 = some y → W p l e r_X4_flightToMoveTo s m args below meth c s.heap [] 0 0 (xMQ below (xQr (.inr (some (.int y)))) args s (xmc (.inr (some (.int y)))) (xms (.inr (some (.int y)))) (fun _ => False)) (F0 m 19 ls []) := by
  induction n with
  | zero =>
    intro _ _ _ _ _ hf
    have h9 : (none : Option (Int32)) = some y := hf
    cases h9
  | succ n ih =>
    intro _ _ _ _ hl hf
    exact t_X4_flightToMoveTo_19s C hP hD (K19 := g_X4_flightToMoveTo_19  a n) ih hl hf
noncomputable def g_X4_flightToMoveTo_0  (a : xT) (v1 : Int32) : Option (Int32) := ((f_X3_isEmpty a v1).bind fun r5 => (if r5 = 0 then some (-1) else g_X4_flightToMoveTo_19  a 1000 v1 (-1) (v1 + 1)))
set_option maxHeartbeats 4000000 in
set_option maxRecDepth 100000 in
theorem t_X4_flightToMoveTo_0 {p : Program} {l : Launch} {e : Env} {s : State} {m : MethodId} {args : Array Value} {below : List Frame} {meth : Method} {c : Code} {D : va_G} {q : Nat → Nat} {k : Nat → ClassId} {a b : xT} {o : Nat → Int64} {y : Int32} (C : xCx p s m meth c cX4_flightToMoveTo 5 (some .int) RX4 D k) (hP : va_P D vwCl (xw q k a b o) s.heap) (hD : va_D (fun _ => True) (xw q k a b o))  {v1 : Int32} {ls : Array Slot} (hl : lv_has ls 5 [(0, .ref (q 0)), (1, .int v1)]) (hf : g_X4_flightToMoveTo_0  a v1 = some y) : W p l e r_X4_flightToMoveTo s m args below meth c s.heap [] 0 0 (xMQ below (xQr (.inr (some (.int y)))) args s (xmc (.inr (some (.int y)))) (xms (.inr (some (.int y)))) (fun _ => False)) (F0 m 0 ls []) := by
  obtain ⟨hx, hb, hml, hr, hlocks, hown, hno, hG⟩ := C
  have hK := hG.1
  have hE := hG.2.1
  unfold g_X4_flightToMoveTo_0 at hf
  refine lv_aload_n hx hb dX4_flightToMoveTo_0 rfl (lv_at hl 0 rfl) ?_
  refine va_get (D := D) (ci := 4) (v := .ref (q 1)) (C := RX4) (T := TX4) (N := 4) hx hb (hwX4 hE) (fun _ h => h) hown hK hP 0 rfl rfl 0 (by decide) (hE _ fl_X4_12 rfl _) (fun _ h9 => h9) rfl dX4_flightToMoveTo_1 ?_
  refine lv_iload_n hx hb dX4_flightToMoveTo_4 rfl (lv_at hl 1 rfl) ?_
  obtain ⟨r5, hN, hf⟩ := xbind hf
  refine xgo_r (v := some (.int r5)) (xrunV (C := RX3) (As := [.int v1]) (rest := []) (xfixm fx_X3_isEmpty hx hb hml hown (by decide) (by decide) (by decide) (by decide)) hE ml_X4_169 wi_X3_isEmpty wz_X3_isEmpty wc_X3_isEmpty wn_X3 (c_X3_isEmpty l D q k a b o v1 _ hN) (va_recv (q := (RX3, TX3, 3)) (ci := 3) (q0 := 1) hK hP rfl rfl) (xpre hP hD hG) rfl rfl hl.1 rfl (lv_room (Nat.le_of_ble_eq_true rfl)) dX4_flightToMoveTo_5) ?_
  refine lv_if_ne hx hb dX4_flightToMoveTo_8 rfl (fun hc => ?_) (fun hc => ?_)
  · rw [if_neg hc] at hf
    refine lv_iconst (v := -1) hx hb dX4_flightToMoveTo_13 (by decide) ?_
    refine lv_istore_n (lv' := [(2, .int (-1)), (0, .ref (q 0)), (1, .int v1)]) hx hb dX4_flightToMoveTo_14 rfl hl (by decide) rfl (fun ls hl => ?_)
    refine lv_iload_n hx hb dX4_flightToMoveTo_15 rfl (lv_at hl 2 rfl) ?_
    refine lv_iconst (v := 1) hx hb dX4_flightToMoveTo_16 (by decide) ?_
    refine lv_iadd hx hb dX4_flightToMoveTo_17 ?_
    refine lv_istore_n (lv' := [(3, .int (v1 + 1)), (2, .int (-1)), (0, .ref (q 0)), (1, .int v1)]) hx hb dX4_flightToMoveTo_18 rfl hl (by decide) rfl (fun ls hl => ?_)
    exact t_X4_flightToMoveTo_19 ⟨hx, hb, hml, hr, hlocks, hown, hno, hG⟩ hP hD  1000 (lv_sub hl [2, 3, 1, 0] rfl) hf
  · rw [if_pos hc] at hf
    refine lv_iconst (v := -1) hx hb dX4_flightToMoveTo_11 (by decide) ?_
    cases hf
    exact xret_i hx hb hr hlocks dX4_flightToMoveTo_12
noncomputable def f_X4_flightToMoveTo (a : xT) (v1 : Int32) : Option (Int32) := g_X4_flightToMoveTo_0 a v1
set_option maxHeartbeats 4000000 in
set_option maxRecDepth 100000 in
theorem c_X4_flightToMoveTo (l : Launch) (D : va_G) (q : Nat → Nat) (k : Nat → ClassId) (a b : xT) (o : Nat → Int64) (v1 : Int32) (y : Int32) (hf : f_X4_flightToMoveTo a v1 = some y) : xMet l yX4_flightToMoveTo (.code yX4_flightToMoveTo cX4_flightToMoveTo 5 (some .int)) r_X4_flightToMoveTo (xPc D q k a b o [.ref (q 0), .int v1]) (xQr (.inr (some (.int y)))) (xmc (.inr (some (.int y)))) (xms (.inr (some (.int y)))) (fun _ => False) := by
  refine xMet.ofW (by decide) ?_
  intro p e s m args below meth c hx hb hml hr hlocks hnm hme hno hv
  obtain ⟨rfl, hP, hD, hG⟩ := hv
  have hown : s.vm.findClass RX4 = some m.cls := findClass_of_methodNamed hnm
  have hl := lv_entry ([.ref (q 0), .int v1]) (n := 5) (Nat.le_of_ble_eq_true rfl)
  rw [lg_entry_eq]
  generalize (lg_sl ([.ref (q 0), .int v1]) ++ List.replicate (5 - (lg_sl ([.ref (q 0), .int v1])).length) Slot.unset).toArray = ls at hl ⊢
  have hl : lv_has ls 5 [(0, .ref (q 0)), (1, .int v1)] := hl
  exact t_X4_flightToMoveTo_0 ⟨hx, hb, hml, hr, hlocks, hown, hno, hG⟩ hP hD hl hf
abbrev r_X4_moveForward : Room := { frames := 1, cells := 0, slots := 0, locals := 24 }
noncomputable def g_X4_moveForward_73  (a : xT) (v1 : Int32) (v2 : Int32) (v3 : Int32) : Option (xT) := ((f_X0_add a 3 v1 v3 v2).bind fun z81 => some z81)
set_option maxHeartbeats 4000000 in
set_option maxRecDepth 100000 in
theorem t_X4_moveForward_73 {p : Program} {l : Launch} {e : Env} {s : State} {m : MethodId} {args : Array Value} {below : List Frame} {meth : Method} {c : Code} {D : va_G} {q : Nat → Nat} {k : Nat → ClassId} {a b : xT} {o : Nat → Int64} {z : xT} {y : xT} (C : xCx p s m meth c cX4_moveForward 6 none RX4 D k) {H : Heap} {locs : List Loc} (hP : va_P D vwCl (xw q k a b o) H) (hD : va_D (va_A (xw q k z b o) s.heap.size) (xw q k a b o)) (hS : va_S (va_A (xw q k z b o) s.heap.size) s.heap H locs)  {v1 v2 v3 : Int32} {ls : Array Slot} (hl : lv_has ls 6 [(0, .ref (q 0)), (1, .int v1), (2, .int v2), (3, .int v3)]) (hf : g_X4_moveForward_73  a v1 v2 v3 = some y) : W p l e r_X4_moveForward s m args below meth c H locs 0 0 (xMQ below (xQm D q k z b o (.inr (none, y, b))) args s 0 0 (va_A (xw q k z b o) s.heap.size)) (F0 m 73 ls []) := by
  obtain ⟨hx, hb, hml, hr, hlocks, hown, hno, hG⟩ := C
  have hK := hG.1
  have hE := hG.2.1
  have hA : ∀ u, s.heap.size ≤ u → va_A (xw q k z b o) s.heap.size u := fun u h => Or.inr h
  unfold g_X4_moveForward_73 at hf
  refine lv_aload_n hx hb dX4_moveForward_73 rfl (lv_at hl 0 rfl) ?_
  refine va_get (D := D) (ci := 4) (v := .ref (q 4)) (C := RX4) (T := TX4) (N := 4) hx hb (hwX4 hE) (fun _ h => h) hown hK hP 0 rfl rfl 3 (by decide) (hE _ fl_X4_33 rfl _) (fun _ h9 => h9) rfl dX4_moveForward_74 ?_
  refine lv_iconst (v := 3) hx hb dX4_moveForward_77 (by decide) ?_
  refine lv_iload_n hx hb dX4_moveForward_78 rfl (lv_at hl 1 rfl) ?_
  refine lv_iload_n hx hb dX4_moveForward_79 rfl (lv_at hl 3 rfl) ?_
  refine lv_iload_n hx hb dX4_moveForward_80 rfl (lv_at hl 2 rfl) ?_
  obtain ⟨z81, hN, hf⟩ := xbind hf
  refine xgo_m (v := none) (a1 := z81) (b1 := b) (xrunV (C := RX0) (As := [.int 3, .int v1, .int v3, .int v2]) (rest := []) (xfixm fx_X0_add hx hb hml hown (by decide) (by decide) (by decide) (by decide)) hE ml_X4_139 wi_X0_add wz_X0_add wc_X0_add wn_X0 (c_X0_add l D q k _ a b o 3 v1 v3 v2 _ hN) (va_recv (q := (RX0, TX0, 5)) (ci := 0) (q0 := 4) hK hP rfl rfl) (xprem hP hD hG) rfl rfl hl.1 rfl (lv_room (Nat.le_of_ble_eq_true rfl)) dX4_moveForward_81) hD hS hA (fun H locs hP hD hS => ?_)
  cases hf
  exact xretm_v hx hb hr hlocks hP hS dX4_moveForward_84
noncomputable def g_X4_moveForward_62  (a : xT) (v1 : Int32) (v2 : Int32) (v3 : Int32) (v4 : Int32) : Option (xT) := (if xin v2 240 = true then g_X4_moveForward_73  (xs a 1 v2.toNatClampNeg v4) v1 v2 v3 else none)
set_option maxHeartbeats 4000000 in
set_option maxRecDepth 100000 in
theorem t_X4_moveForward_62 {p : Program} {l : Launch} {e : Env} {s : State} {m : MethodId} {args : Array Value} {below : List Frame} {meth : Method} {c : Code} {D : va_G} {q : Nat → Nat} {k : Nat → ClassId} {a b : xT} {o : Nat → Int64} {z : xT} {y : xT} (C : xCx p s m meth c cX4_moveForward 6 none RX4 D k) {H : Heap} {locs : List Loc} (hP : va_P D vwCl (xw q k a b o) H) (hD : va_D (va_A (xw q k z b o) s.heap.size) (xw q k a b o)) (hS : va_S (va_A (xw q k z b o) s.heap.size) s.heap H locs)  {v1 v2 v3 v4 : Int32} {ls : Array Slot} (hl : lv_has ls 6 [(0, .ref (q 0)), (1, .int v1), (2, .int v2), (3, .int v3), (4, .int v4)]) (hf : g_X4_moveForward_62  a v1 v2 v3 v4 = some y) : W p l e r_X4_moveForward s m args below meth c H locs 0 0 (xMQ below (xQm D q k z b o (.inr (none, y, b))) args s 0 0 (va_A (xw q k z b o) s.heap.size)) (F0 m 62 ls []) := by
  obtain ⟨hx, hb, hml, hr, hlocks, hown, hno, hG⟩ := C
  have hK := hG.1
  have hE := hG.2.1
  have hA : ∀ u, s.heap.size ≤ u → va_A (xw q k z b o) s.heap.size u := fun u h => Or.inr h
  unfold g_X4_moveForward_62 at hf
  refine lv_aload_n hx hb dX4_moveForward_62 rfl (lv_at hl 0 rfl) ?_
  refine va_get (D := D) (ci := 4) (v := .ref (q 1)) (C := RX4) (T := TX4) (N := 4) hx hb (hwX4 hE) (fun _ h => h) hown hK hP 0 rfl rfl 0 (by decide) (hE _ fl_X4_12 rfl _) (fun _ h9 => h9) rfl dX4_moveForward_63 ?_
  refine va_get (D := D) (ci := 3) (v := .ref (q 6)) (C := RX3) (T := TX3) (N := 3) hx hb (hwX3 hE) (fun _ h => h) hown hK hP 1 rfl rfl 1 (by decide) (hE _ fl_X4_97 rfl _) (fun _ h9 => h9) rfl dX4_moveForward_66 ?_
  refine lv_iload_n hx hb dX4_moveForward_69 rfl (lv_at hl 2 rfl) ?_
  refine lv_iload hx hb dX4_moveForward_70 (lv_at hl 4 rfl) ?_
  obtain ⟨hin, hf⟩ := xguard hf
  refine va_iast hx hb hK hP hD hS 6 0 rfl rfl hin dX4_moveForward_72 (fun H locs hP hD hS => ?_)
  rw [xw_s6] at hP hD
  exact t_X4_moveForward_73 ⟨hx, hb, hml, hr, hlocks, hown, hno, hG⟩ hP hD hS  (lv_sub hl [0, 1, 2, 3] rfl) hf
noncomputable def g_X4_moveForward_0  (a : xT) (v1 : Int32) (v2 : Int32) : Option (xT) := (if xin v1 60 = true then ((f_X4_putIn a (a.1 6 v1.toNatClampNeg) (-1)).bind fun z13 => ((f_X4_putIn z13 v2 v1).bind fun z19 => (if xin v1 60 = true then (if xin v2 240 = true then (if (z19.1 1 v2.toNatClampNeg) = (z19.1 3 v1.toNatClampNeg) then g_X4_moveForward_62  z19 v1 v2 (a.1 6 v1.toNatClampNeg) (z19.1 3 v1.toNatClampNeg) else (if xin (a.1 6 v1.toNatClampNeg) 240 = true then g_X4_moveForward_62  (xs z19 1 (a.1 6 v1.toNatClampNeg).toNatClampNeg (z19.1 1 v2.toNatClampNeg)) v1 v2 (a.1 6 v1.toNatClampNeg) (z19.1 3 v1.toNatClampNeg) else none)) else none) else none))) else none)
set_option maxHeartbeats 4000000 in
set_option maxRecDepth 100000 in
theorem t_X4_moveForward_0 {p : Program} {l : Launch} {e : Env} {s : State} {m : MethodId} {args : Array Value} {below : List Frame} {meth : Method} {c : Code} {D : va_G} {q : Nat → Nat} {k : Nat → ClassId} {a b : xT} {o : Nat → Int64} {z : xT} {y : xT} (C : xCx p s m meth c cX4_moveForward 6 none RX4 D k) {H : Heap} {locs : List Loc} (hP : va_P D vwCl (xw q k a b o) H) (hD : va_D (va_A (xw q k z b o) s.heap.size) (xw q k a b o)) (hS : va_S (va_A (xw q k z b o) s.heap.size) s.heap H locs)  {v1 v2 : Int32} {ls : Array Slot} (hl : lv_has ls 6 [(0, .ref (q 0)), (1, .int v1), (2, .int v2)]) (hf : g_X4_moveForward_0  a v1 v2 = some y) : W p l e r_X4_moveForward s m args below meth c H locs 0 0 (xMQ below (xQm D q k z b o (.inr (none, y, b))) args s 0 0 (va_A (xw q k z b o) s.heap.size)) (F0 m 0 ls []) := by
  obtain ⟨hx, hb, hml, hr, hlocks, hown, hno, hG⟩ := C
  have hK := hG.1
  have hE := hG.2.1
  have hA : ∀ u, s.heap.size ≤ u → va_A (xw q k z b o) s.heap.size u := fun u h => Or.inr h
  unfold g_X4_moveForward_0 at hf
  refine lv_aload_n hx hb dX4_moveForward_0 rfl (lv_at hl 0 rfl) ?_
  refine va_get (D := D) (ci := 4) (v := .ref (q 2)) (C := RX4) (T := TX4) (N := 4) hx hb (hwX4 hE) (fun _ h => h) hown hK hP 0 rfl rfl 1 (by decide) (hE _ fl_X4_19 rfl _) (fun _ h9 => h9) rfl dX4_moveForward_1 ?_
  refine va_get (D := D) (ci := 1) (v := .ref (q 11)) (C := RX1) (T := TX1) (N := 8) hx hb (hwX1 hE) (fun _ h => h) hown hK hP 2 rfl rfl 3 (by decide) (hE _ fl_X4_90 rfl _) (fun _ h9 => h9) rfl dX4_moveForward_4 ?_
  refine lv_iload_n hx hb dX4_moveForward_7 rfl (lv_at hl 1 rfl) ?_
  obtain ⟨hin, hf⟩ := xguard hf
  refine va_iald hx hb hK hP 11 0 rfl rfl hin dX4_moveForward_8 ?_
  refine lv_istore_n (lv' := [(3, .int (a.1 6 v1.toNatClampNeg)), (0, .ref (q 0)), (1, .int v1), (2, .int v2)]) hx hb dX4_moveForward_9 rfl hl (by decide) rfl (fun ls hl => ?_)
  refine lv_aload_n hx hb dX4_moveForward_10 rfl (lv_at hl 1 rfl) ?_
  refine lv_iload_n hx hb dX4_moveForward_11 rfl (lv_at hl 0 rfl) ?_
  refine lv_iconst (v := -1) hx hb dX4_moveForward_12 (by decide) ?_
  obtain ⟨z13, hN, hf⟩ := xbind hf
  refine xgo_m (v := none) (a1 := z13) (b1 := b) (xrunV (C := RX4) (As := [.int (a.1 6 v1.toNatClampNeg), .int (-1)]) (rest := []) (xfixm fx_X4_putIn hx hb hml hown (by decide) (by decide) (by decide) (by decide)) hE ml_X4_136 wi_X4_putIn wz_X4_putIn wc_X4_putIn wn_X4 (c_X4_putIn l D q k _ a b o (a.1 6 v1.toNatClampNeg) (-1) _ hN) (va_recv (q := (RX4, TX4, 4)) (ci := 4) (q0 := 0) hK hP rfl rfl) (xprem hP hD hG) rfl rfl hl.1 rfl (lv_room (Nat.le_of_ble_eq_true rfl)) dX4_moveForward_13) hD hS hA (fun H locs hP hD hS => ?_)
  refine lv_aload_n hx hb dX4_moveForward_16 rfl (lv_at hl 1 rfl) ?_
  refine lv_iload_n hx hb dX4_moveForward_17 rfl (lv_at hl 3 rfl) ?_
  refine lv_iload_n hx hb dX4_moveForward_18 rfl (lv_at hl 2 rfl) ?_
  obtain ⟨z19, hN, hf⟩ := xbind hf
  refine xgo_m (v := none) (a1 := z19) (b1 := b) (xrunV (C := RX4) (As := [.int v2, .int v1]) (rest := []) (xfixm fx_X4_putIn hx hb hml hown (by decide) (by decide) (by decide) (by decide)) hE ml_X4_136 wi_X4_putIn wz_X4_putIn wc_X4_putIn wn_X4 (c_X4_putIn l D q k _ z13 b o v2 v1 _ hN) (va_recv (q := (RX4, TX4, 4)) (ci := 4) (q0 := 0) hK hP rfl rfl) (xprem hP hD hG) rfl rfl hl.1 rfl (lv_room (Nat.le_of_ble_eq_true rfl)) dX4_moveForward_19) hD hS hA (fun H locs hP hD hS => ?_)
  refine lv_aload_n hx hb dX4_moveForward_22 rfl (lv_at hl 1 rfl) ?_
  refine va_get (D := D) (ci := 4) (v := .ref (q 2)) (C := RX4) (T := TX4) (N := 4) hx hb (hwX4 hE) (fun _ h => h) hown hK hP 0 rfl rfl 1 (by decide) (hE _ fl_X4_19 rfl _) (fun _ h9 => h9) rfl dX4_moveForward_23 ?_
  refine va_get (D := D) (ci := 1) (v := .ref (q 8)) (C := RX1) (T := TX1) (N := 8) hx hb (hwX1 hE) (fun _ h => h) hown hK hP 2 rfl rfl 0 (by decide) (hE _ fl_X4_124 rfl _) (fun _ h9 => h9) rfl dX4_moveForward_26 ?_
  refine lv_iload_n hx hb dX4_moveForward_29 rfl (lv_at hl 2 rfl) ?_
  obtain ⟨hin, hf⟩ := xguard hf
  refine va_iald hx hb hK hP 8 0 rfl rfl hin dX4_moveForward_30 ?_
  refine lv_istore (lv' := [(4, .int (z19.1 3 v1.toNatClampNeg)), (3, .int (a.1 6 v1.toNatClampNeg)), (0, .ref (q 0)), (1, .int v1), (2, .int v2)]) hx hb dX4_moveForward_31 hl (by decide) rfl (fun ls hl => ?_)
  refine lv_aload_n hx hb dX4_moveForward_33 rfl (lv_at hl 2 rfl) ?_
  refine va_get (D := D) (ci := 4) (v := .ref (q 1)) (C := RX4) (T := TX4) (N := 4) hx hb (hwX4 hE) (fun _ h => h) hown hK hP 0 rfl rfl 0 (by decide) (hE _ fl_X4_12 rfl _) (fun _ h9 => h9) rfl dX4_moveForward_34 ?_
  refine va_get (D := D) (ci := 3) (v := .ref (q 6)) (C := RX3) (T := TX3) (N := 3) hx hb (hwX3 hE) (fun _ h => h) hown hK hP 1 rfl rfl 1 (by decide) (hE _ fl_X4_97 rfl _) (fun _ h9 => h9) rfl dX4_moveForward_37 ?_
  refine lv_iload_n hx hb dX4_moveForward_40 rfl (lv_at hl 4 rfl) ?_
  obtain ⟨hin, hf⟩ := xguard hf
  refine va_iald hx hb hK hP 6 0 rfl rfl hin dX4_moveForward_41 ?_
  refine lv_istore (lv' := [(5, .int (z19.1 1 v2.toNatClampNeg)), (4, .int (z19.1 3 v1.toNatClampNeg)), (3, .int (a.1 6 v1.toNatClampNeg)), (0, .ref (q 0)), (1, .int v1), (2, .int v2)]) hx hb dX4_moveForward_42 hl (by decide) rfl (fun ls hl => ?_)
  refine lv_iload hx hb dX4_moveForward_44 (lv_at hl 0 rfl) ?_
  refine lv_iload hx hb dX4_moveForward_46 (lv_at hl 1 rfl) ?_
  refine lv_icmp_eq hx hb dX4_moveForward_48 rfl (fun hc => ?_) (fun hc => ?_)
  · rw [if_pos hc] at hf
    exact t_X4_moveForward_62 ⟨hx, hb, hml, hr, hlocks, hown, hno, hG⟩ hP hD hS  (lv_sub hl [3, 4, 5, 2, 1] rfl) hf
  · rw [if_neg hc] at hf
    refine lv_aload_n hx hb dX4_moveForward_51 rfl (lv_at hl 3 rfl) ?_
    refine va_get (D := D) (ci := 4) (v := .ref (q 1)) (C := RX4) (T := TX4) (N := 4) hx hb (hwX4 hE) (fun _ h => h) hown hK hP 0 rfl rfl 0 (by decide) (hE _ fl_X4_12 rfl _) (fun _ h9 => h9) rfl dX4_moveForward_52 ?_
    refine va_get (D := D) (ci := 3) (v := .ref (q 6)) (C := RX3) (T := TX3) (N := 3) hx hb (hwX3 hE) (fun _ h => h) hown hK hP 1 rfl rfl 1 (by decide) (hE _ fl_X4_97 rfl _) (fun _ h9 => h9) rfl dX4_moveForward_55 ?_
    refine lv_iload_n hx hb dX4_moveForward_58 rfl (lv_at hl 2 rfl) ?_
    refine lv_iload hx hb dX4_moveForward_59 (lv_at hl 0 rfl) ?_
    obtain ⟨hin, hf⟩ := xguard hf
    refine va_iast hx hb hK hP hD hS 6 0 rfl rfl hin dX4_moveForward_61 (fun H locs hP hD hS => ?_)
    rw [xw_s6] at hP hD
    exact t_X4_moveForward_62 ⟨hx, hb, hml, hr, hlocks, hown, hno, hG⟩ hP hD hS  (lv_sub hl [3, 4, 5, 2, 1] rfl) hf
noncomputable def f_X4_moveForward (a : xT) (v1 : Int32) (v2 : Int32) : Option (xT) := g_X4_moveForward_0 a v1 v2
set_option maxHeartbeats 4000000 in
set_option maxRecDepth 100000 in
theorem c_X4_moveForward (l : Launch) (D : va_G) (q : Nat → Nat) (k : Nat → ClassId) (sz : Nat) (a b : xT) (o : Nat → Int64) (v1 : Int32) (v2 : Int32) (y : xT) (hf : f_X4_moveForward a v1 v2 = some y) : xMet l yX4_moveForward (.code yX4_moveForward cX4_moveForward 6 none) r_X4_moveForward (xPcm D q k sz a b o [.ref (q 0), .int v1, .int v2]) (xQm D q k a b o (.inr (none, y, b))) 0 0 (va_A (xw q k a b o) sz) := by
  refine xMet.ofW (by decide) ?_
  intro p e s m args below meth c hx hb hml hr hlocks hnm hme hno hv
  obtain ⟨rfl, hsz, hP, hD, hG⟩ := hv
  subst hsz
  have hown : s.vm.findClass RX4 = some m.cls := findClass_of_methodNamed hnm
  have hl := lv_entry ([.ref (q 0), .int v1, .int v2]) (n := 6) (Nat.le_of_ble_eq_true rfl)
  rw [lg_entry_eq]
  generalize (lg_sl ([.ref (q 0), .int v1, .int v2]) ++ List.replicate (6 - (lg_sl ([.ref (q 0), .int v1, .int v2])).length) Slot.unset).toArray = ls at hl ⊢
  have hl : lv_has ls 6 [(0, .ref (q 0)), (1, .int v1), (2, .int v2)] := hl
  have hD := hD.self (sz := s.heap.size)
  exact t_X4_moveForward_0 ⟨hx, hb, hml, hr, hlocks, hown, hno, hG⟩ hP hD va_S.rf hl hf
