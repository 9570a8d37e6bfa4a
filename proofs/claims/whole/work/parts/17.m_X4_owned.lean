abbrev r_X4_owned : Room := { frames := 8, cells := 1, slots := 6, locals := 132 }
noncomputable def g_X4_owned_0  (a : xT) (v1 : Int32) : Option (String ⊕ Int32) := ((f_X4_checkAirlineOrNone a v1).bind fun r => Option.elim r (((f_X3_countWithOwner a v1).bind fun r10 => some (.inr r10))) (fun E => some (.inl E)))
set_option maxHeartbeats 4000000 in
set_option maxRecDepth 100000 in
theorem t_X4_owned_0 {p : Program} {l : Launch} {e : Env} {s : State} {m : MethodId} {args : Array Value} {below : List Frame} {meth : Method} {c : Code} {D : va_G} {q : Nat → Nat} {k : Nat → ClassId} {a b : xT} {o : Nat → Int64} {y : String ⊕ Int32} (C : xCx p s m meth c cX4_owned 2 (some .int) RX4 D k) (hl0 : l.stackTraces = false) (hst : xSt s) (hP : va_P D vwCl (xw q k a b o) s.heap) (hD : va_D (fun _ => True) (xw q k a b o))  {v1 : Int32} {ls : Array Slot} (hl : lv_has ls 2 [(0, .ref (q 0)), (1, .int v1)]) (hf : g_X4_owned_0  a v1 = some y) : W p l e r_X4_owned s m args below meth c s.heap [] 0 0 (xMQ below (xQr (xri y)) args s (xmc (xri y)) (xms (xri y)) (fun _ => False)) (F0 m 0 ls []) := by
  obtain ⟨hx, hb, hml, hr, hlocks, hown, hno, hG⟩ := C
  have hK := hG.1
  have hE := hG.2.1
  unfold g_X4_owned_0 at hf
  refine lv_aload_n hx hb dX4_owned_0 rfl (lv_at hl 0 rfl) ?_
  refine lv_iload_n hx hb dX4_owned_1 rfl (lv_at hl 1 rfl) ?_
  obtain ⟨r2, hN, hf⟩ := xbind hf
  cases r2 with
  | some E =>
    replace hf : some (.inl E) = some y := hf
    cases hf
    exact xgo_t (xrunV (C := RX4) (As := [.int v1]) (rest := []) (xfixm fx_X4_checkAirlineOrNone hx hb hml hown (by decide) (by decide) (by decide) (by decide)) hE ml_X4_175 wi_X4_checkAirlineOrNone wz_X4_checkAirlineOrNone wc_X4_checkAirlineOrNone wn_X4 (c_X4_checkAirlineOrNone l hl0 D q k a b o v1 _ hN) (va_recv (q := (RX4, TX4, 4)) (ci := 4) (q0 := 0) hK hP rfl rfl) (xpreT hP hD hG hst) rfl rfl hl.1 rfl (lv_room (Nat.le_of_ble_eq_true rfl)) dX4_owned_2) (fun u H1 ce h1 h2 h3 h4 h5 => xout hno hlocks (fun u t h => ⟨u, rfl, h⟩) h1 h2 h3 h4 h5)
  | none =>
    replace hf : ((f_X3_countWithOwner a v1).bind fun r10 => some (.inr r10)) = some y := hf
    refine xgo_r (v := none) (xrunV (C := RX4) (As := [.int v1]) (rest := []) (xfixm fx_X4_checkAirlineOrNone hx hb hml hown (by decide) (by decide) (by decide) (by decide)) hE ml_X4_175 wi_X4_checkAirlineOrNone wz_X4_checkAirlineOrNone wc_X4_checkAirlineOrNone wn_X4 (c_X4_checkAirlineOrNone l hl0 D q k a b o v1 _ hN) (va_recv (q := (RX4, TX4, 4)) (ci := 4) (q0 := 0) hK hP rfl rfl) (xpreT hP hD hG hst) rfl rfl hl.1 rfl (lv_room (Nat.le_of_ble_eq_true rfl)) dX4_owned_2) ?_
    refine lv_aload_n hx hb dX4_owned_5 rfl (lv_at hl 0 rfl) ?_
    refine va_get (D := D) (ci := 4) (v := .ref (q 1)) (C := RX4) (T := TX4) (N := 4) hx hb (hwX4 hE) (fun _ h => h) hown hK hP 0 rfl rfl 0 (by decide) (hE _ fl_X4_12 rfl _) (fun _ h9 => h9) rfl dX4_owned_6 ?_
    refine lv_iload_n hx hb dX4_owned_9 rfl (lv_at hl 1 rfl) ?_
    obtain ⟨r10, hN, hf⟩ := xbind hf
    refine xgo_r (v := some (.int r10)) (xrunV (C := RX3) (As := [.int v1]) (rest := []) (xfixm fx_X3_countWithOwner hx hb hml hown (by decide) (by decide) (by decide) (by decide)) hE ml_X4_181 wi_X3_countWithOwner wz_X3_countWithOwner wc_X3_countWithOwner wn_X3 (c_X3_countWithOwner l D q k a b o v1 _ hN) (va_recv (q := (RX3, TX3, 3)) (ci := 3) (q0 := 1) hK hP rfl rfl) (xpre hP hD hG) rfl rfl hl.1 rfl (lv_room (Nat.le_of_ble_eq_true rfl)) dX4_owned_10) ?_
    cases hf
    exact xret_i hx hb hr hlocks dX4_owned_13
noncomputable def f_X4_owned (a : xT) (v1 : Int32) : Option (String ⊕ Int32) := g_X4_owned_0 a v1
set_option maxHeartbeats 4000000 in
set_option maxRecDepth 100000 in
theorem c_X4_owned (l : Launch) (hl0 : l.stackTraces = false) (D : va_G) (q : Nat → Nat) (k : Nat → ClassId) (a b : xT) (o : Nat → Int64) (v1 : Int32) (y : String ⊕ Int32) (hf : f_X4_owned a v1 = some y) : xMet l yX4_owned (.code yX4_owned cX4_owned 2 (some .int)) r_X4_owned (xPcT D q k a b o [.ref (q 0), .int v1]) (xQr (xri y)) (xmc (xri y)) (xms (xri y)) (fun _ => False) := by
  refine xMet.ofW (by decide) ?_
  intro p e s m args below meth c hx hb hml hr hlocks hnm hme hno hv
  obtain ⟨rfl, hP, hD, hG, hst⟩ := hv
  have hown : s.vm.findClass RX4 = some m.cls := findClass_of_methodNamed hnm
  have hl := lv_entry ([.ref (q 0), .int v1]) (n := 2) (Nat.le_of_ble_eq_true rfl)
  rw [lg_entry_eq]
  generalize (lg_sl ([.ref (q 0), .int v1]) ++ List.replicate (2 - (lg_sl ([.ref (q 0), .int v1])).length) Slot.unset).toArray = ls at hl ⊢
  have hl : lv_has ls 2 [(0, .ref (q 0)), (1, .int v1)] := hl
  exact t_X4_owned_0 ⟨hx, hb, hml, hr, hlocks, hown, hno, hG⟩ hl0 hst hP hD hl hf
abbrev r_X4_ownerOf : Room := { frames := 7, cells := 1, slots := 6, locals := 111 }
noncomputable def g_X4_ownerOf_0  (a : xT) (v1 : Int32) : Option (String ⊕ Int32) := ((f_X4_checkSlot a v1).bind fun r => Option.elim r ((if xin v1 240 = true then some (.inr (a.1 1 v1.toNatClampNeg)) else none)) (fun E => some (.inl E)))
set_option maxHeartbeats 4000000 in
set_option maxRecDepth 100000 in
theorem t_X4_ownerOf_0 {p : Program} {l : Launch} {e : Env} {s : State} {m : MethodId} {args : Array Value} {below : List Frame} {meth : Method} {c : Code} {D : va_G} {q : Nat → Nat} {k : Nat → ClassId} {a b : xT} {o : Nat → Int64} {y : String ⊕ Int32} (C : xCx p s m meth c cX4_ownerOf 2 (some .int) RX4 D k) (hl0 : l.stackTraces = false) (hst : xSt s) (hP : va_P D vwCl (xw q k a b o) s.heap) (hD : va_D (fun _ => True) (xw q k a b o))  {v1 : Int32} {ls : Array Slot} (hl : lv_has ls 2 [(0, .ref (q 0)), (1, .int v1)]) (hf : g_X4_ownerOf_0  a v1 = some y) : W p l e r_X4_ownerOf s m args below meth c s.heap [] 0 0 (xMQ below (xQr (xri y)) args s (xmc (xri y)) (xms (xri y)) (fun _ => False)) (F0 m 0 ls []) := by
  obtain ⟨hx, hb, hml, hr, hlocks, hown, hno, hG⟩ := C
  have hK := hG.1
  have hE := hG.2.1
  unfold g_X4_ownerOf_0 at hf
  refine lv_aload_n hx hb dX4_ownerOf_0 rfl (lv_at hl 0 rfl) ?_
  refine lv_iload_n hx hb dX4_ownerOf_1 rfl (lv_at hl 1 rfl) ?_
  obtain ⟨r2, hN, hf⟩ := xbind hf
  cases r2 with
  | some E =>
    replace hf : some (.inl E) = some y := hf
    cases hf
    exact xgo_t (xrunV (C := RX4) (As := [.int v1]) (rest := []) (xfixm fx_X4_checkSlot hx hb hml hown (by decide) (by decide) (by decide) (by decide)) hE ml_X4_94 wi_X4_checkSlot wz_X4_checkSlot wc_X4_checkSlot wn_X4 (c_X4_checkSlot l hl0 D q k a b o v1 _ hN) (va_recv (q := (RX4, TX4, 4)) (ci := 4) (q0 := 0) hK hP rfl rfl) (xpreT hP hD hG hst) rfl rfl hl.1 rfl (lv_room (Nat.le_of_ble_eq_true rfl)) dX4_ownerOf_2) (fun u H1 ce h1 h2 h3 h4 h5 => xout hno hlocks (fun u t h => ⟨u, rfl, h⟩) h1 h2 h3 h4 h5)
  | none =>
    replace hf : (if xin v1 240 = true then some (.inr (a.1 1 v1.toNatClampNeg)) else none) = some y := hf
    refine xgo_r (v := none) (xrunV (C := RX4) (As := [.int v1]) (rest := []) (xfixm fx_X4_checkSlot hx hb hml hown (by decide) (by decide) (by decide) (by decide)) hE ml_X4_94 wi_X4_checkSlot wz_X4_checkSlot wc_X4_checkSlot wn_X4 (c_X4_checkSlot l hl0 D q k a b o v1 _ hN) (va_recv (q := (RX4, TX4, 4)) (ci := 4) (q0 := 0) hK hP rfl rfl) (xpreT hP hD hG hst) rfl rfl hl.1 rfl (lv_room (Nat.le_of_ble_eq_true rfl)) dX4_ownerOf_2) ?_
    refine lv_aload_n hx hb dX4_ownerOf_5 rfl (lv_at hl 0 rfl) ?_
    refine va_get (D := D) (ci := 4) (v := .ref (q 1)) (C := RX4) (T := TX4) (N := 4) hx hb (hwX4 hE) (fun _ h => h) hown hK hP 0 rfl rfl 0 (by decide) (hE _ fl_X4_12 rfl _) (fun _ h9 => h9) rfl dX4_ownerOf_6 ?_
    refine va_get (D := D) (ci := 3) (v := .ref (q 6)) (C := RX3) (T := TX3) (N := 3) hx hb (hwX3 hE) (fun _ h => h) hown hK hP 1 rfl rfl 1 (by decide) (hE _ fl_X4_97 rfl _) (fun _ h9 => h9) rfl dX4_ownerOf_9 ?_
    refine lv_iload_n hx hb dX4_ownerOf_12 rfl (lv_at hl 1 rfl) ?_
    obtain ⟨hin, hf⟩ := xguard hf
    refine va_iald hx hb hK hP 6 0 rfl rfl hin dX4_ownerOf_13 ?_
    cases hf
    exact xret_i hx hb hr hlocks dX4_ownerOf_14
noncomputable def f_X4_ownerOf (a : xT) (v1 : Int32) : Option (String ⊕ Int32) := g_X4_ownerOf_0 a v1
set_option maxHeartbeats 4000000 in
set_option maxRecDepth 100000 in
theorem c_X4_ownerOf (l : Launch) (hl0 : l.stackTraces = false) (D : va_G) (q : Nat → Nat) (k : Nat → ClassId) (a b : xT) (o : Nat → Int64) (v1 : Int32) (y : String ⊕ Int32) (hf : f_X4_ownerOf a v1 = some y) : xMet l yX4_ownerOf (.code yX4_ownerOf cX4_ownerOf 2 (some .int)) r_X4_ownerOf (xPcT D q k a b o [.ref (q 0), .int v1]) (xQr (xri y)) (xmc (xri y)) (xms (xri y)) (fun _ => False) := by
  refine xMet.ofW (by decide) ?_
  intro p e s m args below meth c hx hb hml hr hlocks hnm hme hno hv
  obtain ⟨rfl, hP, hD, hG, hst⟩ := hv
  have hown : s.vm.findClass RX4 = some m.cls := findClass_of_methodNamed hnm
  have hl := lv_entry ([.ref (q 0), .int v1]) (n := 2) (Nat.le_of_ble_eq_true rfl)
  rw [lg_entry_eq]
  generalize (lg_sl ([.ref (q 0), .int v1]) ++ List.replicate (2 - (lg_sl ([.ref (q 0), .int v1])).length) Slot.unset).toArray = ls at hl ⊢
  have hl : lv_has ls 2 [(0, .ref (q 0)), (1, .int v1)] := hl
  exact t_X4_ownerOf_0 ⟨hx, hb, hml, hr, hlocks, hown, hno, hG⟩ hl0 hst hP hD hl hf
abbrev r_X4_putInFirstSlot : Room := { frames := 2, cells := 0, slots := 0, locals := 42 }
noncomputable def g_X4_putInFirstSlot_52  (a : xT)  : Option (Int32 × xT) := some (1, a)
set_option maxHeartbeats 4000000 in
set_option maxRecDepth 100000 in
theorem t_X4_putInFirstSlot_52 {p : Program} {l : Launch} {e : Env} {s : State} {m : MethodId} {args : Array Value} {below : List Frame} {meth : Method} {c : Code} {D : va_G} {q : Nat → Nat} {k : Nat → ClassId} {a b : xT} {o : Nat → Int64} {z : xT} {y : Int32 × xT} (C : xCx p s m meth c cX4_putInFirstSlot 3 (some .boolean) RX4 D k) {H : Heap} {locs : List Loc} (hP : va_P D vwCl (xw q k a b o) H) (hD : va_D (va_A (xw q k z b o) s.heap.size) (xw q k a b o)) (hS : va_S (va_A (xw q k z b o) s.heap.size) s.heap H locs)  {ls : Array Slot} (hl : lv_has ls 3 []) (hf : g_X4_putInFirstSlot_52  a  = some y) : W p l e r_X4_putInFirstSlot s m args below meth c H locs 0 0 (xMQ below (xQm D q k z b o (.inr (some (.int y.1), y.2, b))) args s 0 0 (va_A (xw q k z b o) s.heap.size)) (F0 m 52 ls []) := by
  obtain ⟨hx, hb, hml, hr, hlocks, hown, hno, hG⟩ := C
  have hK := hG.1
  have hE := hG.2.1
  have hA : ∀ u, s.heap.size ≤ u → va_A (xw q k z b o) s.heap.size u := fun u h => Or.inr h
  unfold g_X4_putInFirstSlot_52 at hf
  refine lv_iconst (v := 1) hx hb dX4_putInFirstSlot_52 (by decide) ?_
  cases hf
  exact xretm_z hx hb hr xz1 hlocks hP hS dX4_putInFirstSlot_53
noncomputable def g_X4_putInFirstSlot_10s (K10 : xT → Int32 → Int32 → Option (Int32 × xT)) (a : xT) (v1 : Int32) (v2 : Int32) : Option (Int32 × xT) := (if 240 ≤ v2 then some (0, a) else ((f_X3_isEmpty a v2).bind fun r22 => (if r22 = 0 then K10 a v1 (v2 + 1) else ((f_X4_putIn a v2 v1).bind fun z31 => (if xin v1 60 = true then (if xin v2 240 = true then g_X4_putInFirstSlot_52  (xs z31 1 v2.toNatClampNeg (z31.1 3 v1.toNatClampNeg))  else none) else none)))))
set_option maxHeartbeats 4000000 in
set_option maxRecDepth 100000 in
theorem t_X4_putInFirstSlot_10s {p : Program} {l : Launch} {e : Env} {s : State} {m : MethodId} {args : Array Value} {below : List Frame} {meth : Method} {c : Code} {D : va_G} {q : Nat → Nat} {k : Nat → ClassId} {a b : xT} {o : Nat → Int64} {z : xT} {y : Int32 × xT} (C : xCx p s m meth c cX4_putInFirstSlot 3 (some .boolean) RX4 D k) {H : Heap} {locs : List Loc} (hP : va_P D vwCl (xw q k a b o) H) (hD : va_D (va_A (xw q k z b o) s.heap.size) (xw q k a b o)) (hS : va_S (va_A (xw q k z b o) s.heap.size) s.heap H locs) {K10 : xT → Int32 → Int32 → Option (Int32 × xT)} (hK10 : ∀ {a : xT} {v1 v2 : Int32} {ls : Array Slot} {H : Heap} {locs : List Loc}, va_P D vwCl (xw q k a b o) H → va_D (va_A (xw q k z b o) s.heap.size) (xw q k a b o) → va_S (va_A (xw q k z b o) s.heap.size) s.heap H locs → lv_has ls 3 [(0, .ref (q 0)), (1, .int v1), (2, .int v2)] → K10 a v1 v2 = some y → W p l e r_X4_putInFirstSlot s m args below meth c H locs 0 0 (xMQ below (xQm D q k z b o (.inr (some (.int y.1), y.2, b))) args s 0 0 (va_A (xw q k z b o) s.heap.size)) (F0 m 10 ls [])) {v1 v2 : Int32} {ls : Array Slot} (hl : lv_has ls 3 [(0, .ref (q 0)), (1, .int v1), (2, .int v2)]) (hf : g_X4_putInFirstSlot_10s K10 a v1 v2 = some y) : W p l e r_X4_putInFirstSlot s m args below meth c H locs 0 0 (xMQ below (xQm D q k z b o (.inr (some (.int y.1), y.2, b))) args s 0 0 (va_A (xw q k z b o) s.heap.size)) (F0 m 10 ls []) := by
  obtain ⟨hx, hb, hml, hr, hlocks, hown, hno, hG⟩ := C
  have hK := hG.1
  have hE := hG.2.1
  have hA : ∀ u, s.heap.size ≤ u → va_A (xw q k z b o) s.heap.size u := fun u h => Or.inr h
  unfold g_X4_putInFirstSlot_10s at hf
  refine lv_iload_n hx hb dX4_putInFirstSlot_10 rfl (lv_at hl 2 rfl) ?_
  refine lv_sipush (v := 240) hx hb dX4_putInFirstSlot_11 (by decide) ?_
  refine lv_icmp_ge hx hb dX4_putInFirstSlot_14 rfl (fun hc => ?_) (fun hc => ?_)
  · rw [if_pos hc] at hf
    refine lv_iconst (v := 0) hx hb dX4_putInFirstSlot_60 (by decide) ?_
    cases hf
    exact xretm_z hx hb hr xz0 hlocks hP hS dX4_putInFirstSlot_61
  · rw [if_neg hc] at hf
    refine lv_aload_n hx hb dX4_putInFirstSlot_17 rfl (lv_at hl 0 rfl) ?_
    refine va_get (D := D) (ci := 4) (v := .ref (q 1)) (C := RX4) (T := TX4) (N := 4) hx hb (hwX4 hE) (fun _ h => h) hown hK hP 0 rfl rfl 0 (by decide) (hE _ fl_X4_12 rfl _) (fun _ h9 => h9) rfl dX4_putInFirstSlot_18 ?_
    refine lv_iload_n hx hb dX4_putInFirstSlot_21 rfl (lv_at hl 2 rfl) ?_
    obtain ⟨r22, hN, hf⟩ := xbind hf
    refine xgo_r (v := some (.int r22)) (xrunV (C := RX3) (As := [.int v2]) (rest := []) (xfixm fx_X3_isEmpty hx hb hml hown (by decide) (by decide) (by decide) (by decide)) hE ml_X4_169 wi_X3_isEmpty wz_X3_isEmpty wc_X3_isEmpty wn_X3 (c_X3_isEmpty l D q k a b o v2 _ hN) (va_recv (q := (RX3, TX3, 3)) (ci := 3) (q0 := 1) hK hP rfl rfl) (xpre hP hD hG) rfl rfl hl.1 rfl (lv_room (Nat.le_of_ble_eq_true rfl)) dX4_putInFirstSlot_22) ?_
    refine lv_if_eq hx hb dX4_putInFirstSlot_25 rfl (fun hc => ?_) (fun hc => ?_)
    · rw [if_pos hc] at hf
      refine lv_iinc (k := 2) (v := v2 + 1) (lv' := [(2, .int (v2 + 1)), (0, .ref (q 0)), (1, .int v1)]) hx hb dX4_putInFirstSlot_54 hl rfl (xinc (by decide) _) (by decide) rfl (fun ls hl => ?_)
      refine lv_goto hx hb dX4_putInFirstSlot_57 rfl ?_
      exact hK10 hP hD hS (lv_sub hl [1, 2, 0] rfl) hf
    · rw [if_neg hc] at hf
      refine lv_aload_n hx hb dX4_putInFirstSlot_28 rfl (lv_at hl 0 rfl) ?_
      refine lv_iload_n hx hb dX4_putInFirstSlot_29 rfl (lv_at hl 2 rfl) ?_
      refine lv_iload_n hx hb dX4_putInFirstSlot_30 rfl (lv_at hl 1 rfl) ?_
      obtain ⟨z31, hN, hf⟩ := xbind hf
      refine xgo_m (v := none) (a1 := z31) (b1 := b) (xrunV (C := RX4) (As := [.int v2, .int v1]) (rest := []) (xfixm fx_X4_putIn hx hb hml hown (by decide) (by decide) (by decide) (by decide)) hE ml_X4_136 wi_X4_putIn wz_X4_putIn wc_X4_putIn wn_X4 (c_X4_putIn l D q k _ a b o v2 v1 _ hN) (va_recv (q := (RX4, TX4, 4)) (ci := 4) (q0 := 0) hK hP rfl rfl) (xprem hP hD hG) rfl rfl hl.1 rfl (lv_room (Nat.le_of_ble_eq_true rfl)) dX4_putInFirstSlot_31) hD hS hA (fun H locs hP hD hS => ?_)
      refine lv_aload_n hx hb dX4_putInFirstSlot_34 rfl (lv_at hl 0 rfl) ?_
      refine va_get (D := D) (ci := 4) (v := .ref (q 1)) (C := RX4) (T := TX4) (N := 4) hx hb (hwX4 hE) (fun _ h => h) hown hK hP 0 rfl rfl 0 (by decide) (hE _ fl_X4_12 rfl _) (fun _ h9 => h9) rfl dX4_putInFirstSlot_35 ?_
      refine va_get (D := D) (ci := 3) (v := .ref (q 6)) (C := RX3) (T := TX3) (N := 3) hx hb (hwX3 hE) (fun _ h => h) hown hK hP 1 rfl rfl 1 (by decide) (hE _ fl_X4_97 rfl _) (fun _ h9 => h9) rfl dX4_putInFirstSlot_38 ?_
      refine lv_iload_n hx hb dX4_putInFirstSlot_41 rfl (lv_at hl 2 rfl) ?_
      refine lv_aload_n hx hb dX4_putInFirstSlot_42 rfl (lv_at hl 0 rfl) ?_
      refine va_get (D := D) (ci := 4) (v := .ref (q 2)) (C := RX4) (T := TX4) (N := 4) hx hb (hwX4 hE) (fun _ h => h) hown hK hP 0 rfl rfl 1 (by decide) (hE _ fl_X4_19 rfl _) (fun _ h9 => h9) rfl dX4_putInFirstSlot_43 ?_
      refine va_get (D := D) (ci := 1) (v := .ref (q 8)) (C := RX1) (T := TX1) (N := 8) hx hb (hwX1 hE) (fun _ h => h) hown hK hP 2 rfl rfl 0 (by decide) (hE _ fl_X4_124 rfl _) (fun _ h9 => h9) rfl dX4_putInFirstSlot_46 ?_
      refine lv_iload_n hx hb dX4_putInFirstSlot_49 rfl (lv_at hl 1 rfl) ?_
      obtain ⟨hin, hf⟩ := xguard hf
      refine va_iald hx hb hK hP 8 0 rfl rfl hin dX4_putInFirstSlot_50 ?_
      obtain ⟨hin, hf⟩ := xguard hf
      refine va_iast hx hb hK hP hD hS 6 0 rfl rfl hin dX4_putInFirstSlot_51 (fun H locs hP hD hS => ?_)
      rw [xw_s6] at hP hD
      exact t_X4_putInFirstSlot_52 ⟨hx, hb, hml, hr, hlocks, hown, hno, hG⟩ hP hD hS  (lv_sub hl [] rfl) hf
noncomputable def g_X4_putInFirstSlot_10  : Nat → xT → Int32 → Int32 → Option (Int32 × xT) := fun n => Nat.rec (motive := fun _ => xT → Int32 → Int32 → Option (Int32 × xT)) (fun _ _ _ => none) (fun _ ih => g_X4_putInFirstSlot_10s ih) n
set_option maxHeartbeats 4000000 in
theorem t_X4_putInFirstSlot_10 {p : Program} {l : Launch} {e : Env} {s : State} {m : MethodId} {args : Array Value} {below : List Frame} {meth : Method} {c : Code} {D : va_G} {q : Nat → Nat} {k : Nat → ClassId} {b : xT} {o : Nat → Int64} {z : xT} {y : Int32 × xT} (C : xCx p s m meth c cX4_putInFirstSlot 3 (some .boolean) RX4 D k)  (n : Nat) : ∀ {a : xT} {v1 v2 : Int32} {ls : Array Slot} {H : Heap} {locs : List Loc}, va_P D vwCl (xw q k a b o) H → va_D (va_A (xw q k z b o) s.heap.size) (xw q k a b o) → va_S (va_A (xw q k z b o) s.heap.size) s.heap H locs → lv_has ls 3 [(0, .ref (q 0)), (1, .int v1), (2, .int v2)] → g_X4_putInFirstSlot_10  n a v1 v2 = some y → W p l e r_X4_putInFirstSlot s m args below meth c H locs 0 0 (xMQ below (xQm D q k z b o (.inr (some (.int y.1), y.2, b))) args s 0 0 (va_A (xw q k z b o) s.heap.size)) (F0 m 10 ls []) := by
  induction n with
  | zero =>
    intro _ _ _ _ _ _ _ _ _ _ hf
    have h9 : (none : Option (Int32 × xT)) = some y := hf
    cases h9
  | succ n ih =>
    intro _ _ _ _ _ _ hP hD hS hl hf
    exact t_X4_putInFirstSlot_10s C hP hD hS (K10 := g_X4_putInFirstSlot_10  n) ih hl hf
noncomputable def g_X4_putInFirstSlot_0  (a : xT) (v1 : Int32) : Option (Int32 × xT) := (if xin v1 60 = true then g_X4_putInFirstSlot_10  1000 a v1 (a.1 5 v1.toNatClampNeg) else none)
set_option maxHeartbeats 4000000 in
set_option maxRecDepth 100000 in
theorem t_X4_putInFirstSlot_0 {p : Program} {l : Launch} {e : Env} {s : State} {m : MethodId} {args : Array Value} {below : List Frame} {meth : Method} {c : Code} {D : va_G} {q : Nat → Nat} {k : Nat → ClassId} {a b : xT} {o : Nat → Int64} {z : xT} {y : Int32 × xT} (C : xCx p s m meth c cX4_putInFirstSlot 3 (some .boolean) RX4 D k) {H : Heap} {locs : List Loc} (hP : va_P D vwCl (xw q k a b o) H) (hD : va_D (va_A (xw q k z b o) s.heap.size) (xw q k a b o)) (hS : va_S (va_A (xw q k z b o) s.heap.size) s.heap H locs)  {v1 : Int32} {ls : Array Slot} (hl : lv_has ls 3 [(0, .ref (q 0)), (1, .int v1)]) (hf : g_X4_putInFirstSlot_0  a v1 = some y) : W p l e r_X4_putInFirstSlot s m args below meth c H locs 0 0 (xMQ below (xQm D q k z b o (.inr (some (.int y.1), y.2, b))) args s 0 0 (va_A (xw q k z b o) s.heap.size)) (F0 m 0 ls []) := by
  obtain ⟨hx, hb, hml, hr, hlocks, hown, hno, hG⟩ := C
  have hK := hG.1
  have hE := hG.2.1
  have hA : ∀ u, s.heap.size ≤ u → va_A (xw q k z b o) s.heap.size u := fun u h => Or.inr h
  unfold g_X4_putInFirstSlot_0 at hf
  refine lv_aload_n hx hb dX4_putInFirstSlot_0 rfl (lv_at hl 0 rfl) ?_
  refine va_get (D := D) (ci := 4) (v := .ref (q 2)) (C := RX4) (T := TX4) (N := 4) hx hb (hwX4 hE) (fun _ h => h) hown hK hP 0 rfl rfl 1 (by decide) (hE _ fl_X4_19 rfl _) (fun _ h9 => h9) rfl dX4_putInFirstSlot_1 ?_
  refine va_get (D := D) (ci := 1) (v := .ref (q 10)) (C := RX1) (T := TX1) (N := 8) hx hb (hwX1 hE) (fun _ h => h) hown hK hP 2 rfl rfl 2 (by decide) (hE _ fl_X4_103 rfl _) (fun _ h9 => h9) rfl dX4_putInFirstSlot_4 ?_
  refine lv_iload_n hx hb dX4_putInFirstSlot_7 rfl (lv_at hl 1 rfl) ?_
  obtain ⟨hin, hf⟩ := xguard hf
  refine va_iald hx hb hK hP 10 0 rfl rfl hin dX4_putInFirstSlot_8 ?_
  refine lv_istore_n (lv' := [(2, .int (a.1 5 v1.toNatClampNeg)), (0, .ref (q 0)), (1, .int v1)]) hx hb dX4_putInFirstSlot_9 rfl hl (by decide) rfl (fun ls hl => ?_)
  exact t_X4_putInFirstSlot_10 ⟨hx, hb, hml, hr, hlocks, hown, hno, hG⟩  1000 hP hD hS (lv_sub hl [1, 2, 0] rfl) hf
noncomputable def f_X4_putInFirstSlot (a : xT) (v1 : Int32) : Option (Int32 × xT) := g_X4_putInFirstSlot_0 a v1
set_option maxHeartbeats 4000000 in
set_option maxRecDepth 100000 in
theorem c_X4_putInFirstSlot (l : Launch) (D : va_G) (q : Nat → Nat) (k : Nat → ClassId) (sz : Nat) (a b : xT) (o : Nat → Int64) (v1 : Int32) (y : Int32 × xT) (hf : f_X4_putInFirstSlot a v1 = some y) : xMet l yX4_putInFirstSlot (.code yX4_putInFirstSlot cX4_putInFirstSlot 3 (some .boolean)) r_X4_putInFirstSlot (xPcm D q k sz a b o [.ref (q 0), .int v1]) (xQm D q k a b o (.inr (some (.int y.1), y.2, b))) 0 0 (va_A (xw q k a b o) sz) := by
  refine xMet.ofW (by decide) ?_
  intro p e s m args below meth c hx hb hml hr hlocks hnm hme hno hv
  obtain ⟨rfl, hsz, hP, hD, hG⟩ := hv
  subst hsz
  have hown : s.vm.findClass RX4 = some m.cls := findClass_of_methodNamed hnm
  have hl := lv_entry ([.ref (q 0), .int v1]) (n := 3) (Nat.le_of_ble_eq_true rfl)
  rw [lg_entry_eq]
  generalize (lg_sl ([.ref (q 0), .int v1]) ++ List.replicate (3 - (lg_sl ([.ref (q 0), .int v1])).length) Slot.unset).toArray = ls at hl ⊢
  have hl : lv_has ls 3 [(0, .ref (q 0)), (1, .int v1)] := hl
  have hD := hD.self (sz := s.heap.size)
  exact t_X4_putInFirstSlot_0 ⟨hx, hb, hml, hr, hlocks, hown, hno, hG⟩ hP hD va_S.rf hl hf
abbrev r_X4_rationAll : Room := { frames := 3, cells := 0, slots := 0, locals := 64 }
noncomputable def g_X4_rationAll_58 (K15 : xT → Int32 → Int32 → Option (Int32 × xT)) (a : xT) (v1 : Int32) (v2 : Int32) : Option (Int32 × xT) := K15 a v1 (v2 + 1)
set_option maxHeartbeats 4000000 in
set_option maxRecDepth 100000 in
theorem t_X4_rationAll_58 {p : Program} {l : Launch} {e : Env} {s : State} {m : MethodId} {args : Array Value} {below : List Frame} {meth : Method} {c : Code} {D : va_G} {q : Nat → Nat} {k : Nat → ClassId} {a b : xT} {o : Nat → Int64} {z : xT} {y : Int32 × xT} (C : xCx p s m meth c cX4_rationAll 4 (some .int) RX4 D k) {H : Heap} {locs : List Loc} (hP : va_P D vwCl (xw q k a b o) H) (hD : va_D (va_A (xw q k z b o) s.heap.size) (xw q k a b o)) (hS : va_S (va_A (xw q k z b o) s.heap.size) s.heap H locs) {K15 : xT → Int32 → Int32 → Option (Int32 × xT)} (hK15 : ∀ {a : xT} {v1 v2 : Int32} {ls : Array Slot} {H : Heap} {locs : List Loc}, va_P D vwCl (xw q k a b o) H → va_D (va_A (xw q k z b o) s.heap.size) (xw q k a b o) → va_S (va_A (xw q k z b o) s.heap.size) s.heap H locs → lv_has ls 4 [(0, .ref (q 0)), (1, .int v1), (2, .int v2)] → K15 a v1 v2 = some y → W p l e r_X4_rationAll s m args below meth c H locs 0 0 (xMQ below (xQm D q k z b o (.inr (some (.int y.1), y.2, b))) args s 0 0 (va_A (xw q k z b o) s.heap.size)) (F0 m 15 ls [])) {v1 v2 : Int32} {ls : Array Slot} (hl : lv_has ls 4 [(0, .ref (q 0)), (1, .int v1), (2, .int v2)]) (hf : g_X4_rationAll_58 K15 a v1 v2 = some y) : W p l e r_X4_rationAll s m args below meth c H locs 0 0 (xMQ below (xQm D q k z b o (.inr (some (.int y.1), y.2, b))) args s 0 0 (va_A (xw q k z b o) s.heap.size)) (F0 m 58 ls []) := by
  obtain ⟨hx, hb, hml, hr, hlocks, hown, hno, hG⟩ := C
  have hK := hG.1
  have hE := hG.2.1
  have hA : ∀ u, s.heap.size ≤ u → va_A (xw q k z b o) s.heap.size u := fun u h => Or.inr h
  unfold g_X4_rationAll_58 at hf
  refine lv_iinc (k := 2) (v := v2 + 1) (lv' := [(2, .int (v2 + 1)), (0, .ref (q 0)), (1, .int v1)]) hx hb dX4_rationAll_58 hl rfl (xinc (by decide) _) (by decide) rfl (fun ls hl => ?_)
  refine lv_goto hx hb dX4_rationAll_61 rfl ?_
  exact hK15 hP hD hS (lv_sub hl [1, 2, 0] rfl) hf
noncomputable def g_X4_rationAll_15s (K15 : xT → Int32 → Int32 → Option (Int32 × xT)) (a : xT) (v1 : Int32) (v2 : Int32) : Option (Int32 × xT) := (if (a.2 0) ≤ v2 then some (v1, a) else (if xin v2 60 = true then ((f_X1_isPlannable a (a.1 9 v2.toNatClampNeg)).bind fun r41 => (if r41 = 0 then g_X4_rationAll_58 K15 a v1 v2 else ((f_X4_putInFirstSlot a (a.1 9 v2.toNatClampNeg)).bind fun z49 => (if z49.1 = 0 then g_X4_rationAll_58 K15 z49.2 (v1 + 1) v2 else g_X4_rationAll_58 K15 z49.2 v1 v2)))) else none))
set_option maxHeartbeats 4000000 in
set_option maxRecDepth 100000 in
theorem t_X4_rationAll_15s {p : Program} {l : Launch} {e : Env} {s : State} {m : MethodId} {args : Array Value} {below : List Frame} {meth : Method} {c : Code} {D : va_G} {q : Nat → Nat} {k : Nat → ClassId} {a b : xT} {o : Nat → Int64} {z : xT} {y : Int32 × xT} (C : xCx p s m meth c cX4_rationAll 4 (some .int) RX4 D k) {H : Heap} {locs : List Loc} (hP : va_P D vwCl (xw q k a b o) H) (hD : va_D (va_A (xw q k z b o) s.heap.size) (xw q k a b o)) (hS : va_S (va_A (xw q k z b o) s.heap.size) s.heap H locs) {K15 : xT → Int32 → Int32 → Option (Int32 × xT)} (hK15 : ∀ {a : xT} {v1 v2 : Int32} {ls : Array Slot} {H : Heap} {locs : List Loc}, va_P D vwCl (xw q k a b o) H → va_D (va_A (xw q k z b o) s.heap.size) (xw q k a b o) → va_S (va_A (xw q k z b o) s.heap.size) s.heap H locs → lv_has ls 4 [(0, .ref (q 0)), (1, .int v1), (2, .int v2)] → K15 a v1 v2 = some y → W p l e r_X4_rationAll s m args below meth c H locs 0 0 (xMQ below (xQm D q k z b o (.inr (some (.int y.1), y.2, b))) args s 0 0 (va_A (xw q k z b o) s.heap.size)) (F0 m 15 ls [])) {v1 v2 : Int32} {ls : Array Slot} (hl : lv_has ls 4 [(0, .ref (q 0)), (1, .int v1), (2, .int v2)]) (hf : g_X4_rationAll_15s K15 a v1 v2 = some y) : W p l e r_X4_rationAll s m args below meth c H locs 0 0 (xMQ below (xQm D q k z b o (.inr (some (.int y.1), y.2, b))) args s 0 0 (va_A (xw q k z b o) s.heap.size)) (F0 m 15 ls []) := by
  obtain ⟨hx, hb, hml, hr, hlocks, hown, hno, hG⟩ := C
  have hK := hG.1
  have hE := hG.2.1
  have hA : ∀ u, s.heap.size ≤ u → va_A (xw q k z b o) s.heap.size u := fun u h => Or.inr h
  unfold g_X4_rationAll_15s at hf
  refine lv_iload_n hx hb dX4_rationAll_15 rfl (lv_at hl 2 rfl) ?_
  refine lv_aload_n hx hb dX4_rationAll_16 rfl (lv_at hl 0 rfl) ?_
  refine va_get (D := D) (ci := 4) (v := .ref (q 2)) (C := RX4) (T := TX4) (N := 4) hx hb (hwX4 hE) (fun _ h => h) hown hK hP 0 rfl rfl 1 (by decide) (hE _ fl_X4_19 rfl _) (fun _ h9 => h9) rfl dX4_rationAll_17 ?_
  refine va_get (D := D) (ci := 1) (v := .int (a.2 0)) (C := RX1) (T := TX1) (N := 8) hx hb (hwX1 hE) (fun _ h => h) hown hK hP 2 rfl rfl 7 (by decide) (hE _ fl_X4_77 rfl _) (fun _ h9 => h9) rfl dX4_rationAll_20 ?_
  refine lv_icmp_ge hx hb dX4_rationAll_23 rfl (fun hc => ?_) (fun hc => ?_)
  · rw [if_pos hc] at hf
    refine lv_iload_n hx hb dX4_rationAll_64 rfl (lv_at hl 1 rfl) ?_
    cases hf
    exact xretm_i hx hb hr hlocks hP hS dX4_rationAll_65
  · rw [if_neg hc] at hf
    refine lv_aload_n hx hb dX4_rationAll_26 rfl (lv_at hl 0 rfl) ?_
    refine va_get (D := D) (ci := 4) (v := .ref (q 2)) (C := RX4) (T := TX4) (N := 4) hx hb (hwX4 hE) (fun _ h => h) hown hK hP 0 rfl rfl 1 (by decide) (hE _ fl_X4_19 rfl _) (fun _ h9 => h9) rfl dX4_rationAll_27 ?_
    refine va_get (D := D) (ci := 1) (v := .ref (q 14)) (C := RX1) (T := TX1) (N := 8) hx hb (hwX1 hE) (fun _ h => h) hown hK hP 2 rfl rfl 6 (by decide) (hE _ fl_X4_231 rfl _) (fun _ h9 => h9) rfl dX4_rationAll_30 ?_
    refine lv_iload_n hx hb dX4_rationAll_33 rfl (lv_at hl 2 rfl) ?_
    obtain ⟨hin, hf⟩ := xguard hf
    refine va_iald hx hb hK hP 14 0 rfl rfl hin dX4_rationAll_34 ?_
    refine lv_istore_n (lv' := [(3, .int (a.1 9 v2.toNatClampNeg)), (0, .ref (q 0)), (1, .int v1), (2, .int v2)]) hx hb dX4_rationAll_35 rfl hl (by decide) rfl (fun ls hl => ?_)
    refine lv_aload_n hx hb dX4_rationAll_36 rfl (lv_at hl 1 rfl) ?_
    refine va_get (D := D) (ci := 4) (v := .ref (q 2)) (C := RX4) (T := TX4) (N := 4) hx hb (hwX4 hE) (fun _ h => h) hown hK hP 0 rfl rfl 1 (by decide) (hE _ fl_X4_19 rfl _) (fun _ h9 => h9) rfl dX4_rationAll_37 ?_
    refine lv_iload_n hx hb dX4_rationAll_40 rfl (lv_at hl 0 rfl) ?_
    obtain ⟨r41, hN, hf⟩ := xbind hf
    refine xgo_r (v := some (.int r41)) (xrunV (C := RX1) (As := [.int (a.1 9 v2.toNatClampNeg)]) (rest := []) (xfixm fx_X1_isPlannable hx hb hml hown (by decide) (by decide) (by decide) (by decide)) hE ml_X4_214 wi_X1_isPlannable wz_X1_isPlannable wc_X1_isPlannable wn_X1 (c_X1_isPlannable l D q k a b o (a.1 9 v2.toNatClampNeg) _ hN) (va_recv (q := (RX1, TX1, 8)) (ci := 1) (q0 := 2) hK hP rfl rfl) (xpre hP hD hG) rfl rfl hl.1 rfl (lv_room (Nat.le_of_ble_eq_true rfl)) dX4_rationAll_41) ?_
    refine lv_if_eq hx hb dX4_rationAll_44 rfl (fun hc => ?_) (fun hc => ?_)
    · rw [if_pos hc] at hf
      exact t_X4_rationAll_58 ⟨hx, hb, hml, hr, hlocks, hown, hno, hG⟩ hP hD hS hK15 (lv_sub hl [1, 2, 3] rfl) hf
    · rw [if_neg hc] at hf
      refine lv_aload_n hx hb dX4_rationAll_47 rfl (lv_at hl 1 rfl) ?_
      refine lv_iload_n hx hb dX4_rationAll_48 rfl (lv_at hl 0 rfl) ?_
      obtain ⟨z49, hN, hf⟩ := xbind hf
      refine xgo_m (v := some (.int z49.1)) (a1 := z49.2) (b1 := b) (xrunV (C := RX4) (As := [.int (a.1 9 v2.toNatClampNeg)]) (rest := []) (xfixm fx_X4_putInFirstSlot hx hb hml hown (by decide) (by decide) (by decide) (by decide)) hE ml_X4_234 wi_X4_putInFirstSlot wz_X4_putInFirstSlot wc_X4_putInFirstSlot wn_X4 (c_X4_putInFirstSlot l D q k _ a b o (a.1 9 v2.toNatClampNeg) _ hN) (va_recv (q := (RX4, TX4, 4)) (ci := 4) (q0 := 0) hK hP rfl rfl) (xprem hP hD hG) rfl rfl hl.1 rfl (lv_room (Nat.le_of_ble_eq_true rfl)) dX4_rationAll_49) hD hS hA (fun H locs hP hD hS => ?_)
      refine lv_if_ne hx hb dX4_rationAll_52 rfl (fun hc => ?_) (fun hc => ?_)
      · rw [if_neg hc] at hf
        exact t_X4_rationAll_58 ⟨hx, hb, hml, hr, hlocks, hown, hno, hG⟩ hP hD hS hK15 (lv_sub hl [1, 2, 3] rfl) hf
      · rw [if_pos hc] at hf
        refine lv_iinc (k := 2) (v := v1 + 1) (lv' := [(1, .int (v1 + 1)), (3, .int (a.1 9 v2.toNatClampNeg)), (0, .ref (q 0)), (2, .int v2)]) hx hb dX4_rationAll_55 hl rfl (xinc (by decide) _) (by decide) rfl (fun ls hl => ?_)
        exact t_X4_rationAll_58 ⟨hx, hb, hml, hr, hlocks, hown, hno, hG⟩ hP hD hS hK15 (lv_sub hl [2, 0, 3] rfl) hf
noncomputable def g_X4_rationAll_15  : Nat → xT → Int32 → Int32 → Option (Int32 × xT) := fun n => Nat.rec (motive := fun _ => xT → Int32 → Int32 → Option (Int32 × xT)) (fun _ _ _ => none) (fun _ ih => g_X4_rationAll_15s ih) n
set_option maxHeartbeats 4000000 in
theorem t_X4_rationAll_15 {p : Program} {l : Launch} {e : Env} {s : State} {m : MethodId} {args : Array Value} {below : List Frame} {meth : Method} {c : Code} {D : va_G} {q : Nat → Nat} {k : Nat → ClassId} {b : xT} {o : Nat → Int64} {z : xT} {y : Int32 × xT} (C : xCx p s m meth c cX4_rationAll 4 (some .int) RX4 D k)  (n : Nat) : ∀ {a : xT} {v1 v2 : Int32} {ls : Array Slot} {H : Heap} {locs : List Loc}, va_P D vwCl (xw q k a b o) H → va_D (va_A (xw q k z b o) s.heap.size) (xw q k a b o) → va_S (va_A (xw q k z b o) s.heap.size) s.heap H locs → lv_has ls 4 [(0, .ref (q 0)), (1, .int v1), (2, .int v2)] → g_X4_rationAll_15  n a v1 v2 = some y → W p l e r_X4_rationAll s m args below meth c H locs 0 0 (xMQ below (xQm D q k z b o (.inr (some (.int y.1), y.2, b))) args s 0 0 (va_A (xw q k z b o) s.heap.size)) (F0 m 15 ls []) := by
  induction n with
  | zero =>
    intro _ _ _ _ _ _ _ _ _ _ hf
    have h9 : (none : Option (Int32 × xT)) = some y := hf
    cases h9
  | succ n ih =>
    intro _ _ _ _ _ _ hP hD hS hl hf
    exact t_X4_rationAll_15s C hP hD hS (K15 := g_X4_rationAll_15  n) ih hl hf
noncomputable def g_X4_rationAll_0  (a : xT)  : Option (Int32 × xT) := ((f_X4_clearWhatIsNotFrozen a ).bind fun z1 => ((f_X0_clear z1 ).bind fun z8 => g_X4_rationAll_15  1000 z8 0 0))
set_option maxHeartbeats 4000000 in
set_option maxRecDepth 100000 in
theorem t_X4_rationAll_0 {p : Program} {l : Launch} {e : Env} {s : State} {m : MethodId} {args : Array Value} {below : List Frame} {meth : Method} {c : Code} {D : va_G} {q : Nat → Nat} {k : Nat → ClassId} {a b : xT} {o : Nat → Int64} {z : xT} {y : Int32 × xT} (C : xCx p s m meth c cX4_rationAll 4 (some .int) RX4 D k) {H : Heap} {locs : List Loc} (hP : va_P D vwCl (xw q k a b o) H) (hD : va_D (va_A (xw q k z b o) s.heap.size) (xw q k a b o)) (hS : va_S (va_A (xw q k z b o) s.heap.size) s.heap H locs)  {ls : Array Slot} (hl : lv_has ls 4 [(0, .ref (q 0))]) (hf : g_X4_rationAll_0  a  = some y) : W p l e r_X4_rationAll s m args below meth c H locs 0 0 (xMQ below (xQm D q k z b o (.inr (some (.int y.1), y.2, b))) args s 0 0 (va_A (xw q k z b o) s.heap.size)) (F0 m 0 ls []) := by
  obtain ⟨hx, hb, hml, hr, hlocks, hown, hno, hG⟩ := C
  have hK := hG.1
  have hE := hG.2.1
  have hA : ∀ u, s.heap.size ≤ u → va_A (xw q k z b o) s.heap.size u := fun u h => Or.inr h
  unfold g_X4_rationAll_0 at hf
  refine lv_aload_n hx hb dX4_rationAll_0 rfl (lv_at hl 0 rfl) ?_
  obtain ⟨z1, hN, hf⟩ := xbind hf
  refine xgo_m (v := none) (a1 := z1) (b1 := b) (xrunV (C := RX4) (As := []) (rest := []) (xfixm fx_X4_clearWhatIsNotFrozen hx hb hml hown (by decide) (by decide) (by decide) (by decide)) hE ml_X4_225 wi_X4_clearWhatIsNotFrozen wz_X4_clearWhatIsNotFrozen wc_X4_clearWhatIsNotFrozen wn_X4 (c_X4_clearWhatIsNotFrozen l D q k _ a b o  _ hN) (va_recv (q := (RX4, TX4, 4)) (ci := 4) (q0 := 0) hK hP rfl rfl) (xprem hP hD hG) rfl rfl hl.1 rfl (lv_room (Nat.le_of_ble_eq_true rfl)) dX4_rationAll_1) hD hS hA (fun H locs hP hD hS => ?_)
  refine lv_aload_n hx hb dX4_rationAll_4 rfl (lv_at hl 0 rfl) ?_
  refine va_get (D := D) (ci := 4) (v := .ref (q 4)) (C := RX4) (T := TX4) (N := 4) hx hb (hwX4 hE) (fun _ h => h) hown hK hP 0 rfl rfl 3 (by decide) (hE _ fl_X4_33 rfl _) (fun _ h9 => h9) rfl dX4_rationAll_5 ?_
  obtain ⟨z8, hN, hf⟩ := xbind hf
  refine xgo_m (v := none) (a1 := z8) (b1 := b) (xrunV (C := RX0) (As := []) (rest := []) (xfixm fx_X0_clear hx hb hml hown (by decide) (by decide) (by decide) (by decide)) hE ml_X4_228 wi_X0_clear wz_X0_clear wc_X0_clear wn_X0 (c_X0_clear l D q k _ z1 b o  _ hN) (va_recv (q := (RX0, TX0, 5)) (ci := 0) (q0 := 4) hK hP rfl rfl) (xprem hP hD hG) rfl rfl hl.1 rfl (lv_room (Nat.le_of_ble_eq_true rfl)) dX4_rationAll_8) hD hS hA (fun H locs hP hD hS => ?_)
  refine lv_iconst (v := 0) hx hb dX4_rationAll_11 (by decide) ?_
  refine lv_istore_n (lv' := [(1, .int 0), (0, .ref (q 0))]) hx hb dX4_rationAll_12 rfl hl (by decide) rfl (fun ls hl => ?_)
  refine lv_iconst (v := 0) hx hb dX4_rationAll_13 (by decide) ?_
  refine lv_istore_n (lv' := [(2, .int 0), (1, .int 0), (0, .ref (q 0))]) hx hb dX4_rationAll_14 rfl hl (by decide) rfl (fun ls hl => ?_)
  exact t_X4_rationAll_15 ⟨hx, hb, hml, hr, hlocks, hown, hno, hG⟩  1000 hP hD hS (lv_sub hl [2, 1, 0] rfl) hf
noncomputable def f_X4_rationAll (a : xT)  : Option (Int32 × xT) := g_X4_rationAll_0 a 
set_option maxHeartbeats 4000000 in
set_option maxRecDepth 100000 in
theorem c_X4_rationAll (l : Launch) (D : va_G) (q : Nat → Nat) (k : Nat → ClassId) (sz : Nat) (a b : xT) (o : Nat → Int64)  (y : Int32 × xT) (hf : f_X4_rationAll a  = some y) : xMet l yX4_rationAll (.code yX4_rationAll cX4_rationAll 4 (some .int)) r_X4_rationAll (xPcm D q k sz a b o [.ref (q 0)]) (xQm D q k a b o (.inr (some (.int y.1), y.2, b))) 0 0 (va_A (xw q k a b o) sz) := by
  refine xMet.ofW (by decide) ?_
  intro p e s m args below meth c hx hb hml hr hlocks hnm hme hno hv
  obtain ⟨rfl, hsz, hP, hD, hG⟩ := hv
  subst hsz
  have hown : s.vm.findClass RX4 = some m.cls := findClass_of_methodNamed hnm
  have hl := lv_entry ([.ref (q 0)]) (n := 4) (Nat.le_of_ble_eq_true rfl)
  rw [lg_entry_eq]
  generalize (lg_sl ([.ref (q 0)]) ++ List.replicate (4 - (lg_sl ([.ref (q 0)])).length) Slot.unset).toArray = ls at hl ⊢
  have hl : lv_has ls 4 [(0, .ref (q 0))] := hl
  have hD := hD.self (sz := s.heap.size)
  exact t_X4_rationAll_0 ⟨hx, hb, hml, hr, hlocks, hown, hno, hG⟩ hP hD va_S.rf hl hf
abbrev r_X4_rate : Room := { frames := 6, cells := 1, slots := 6, locals := 90 }
noncomputable def g_X4_rate_10  (z : xT)  : Option (String ⊕ (Int32 × xT)) := some (.inl "java/lang/IllegalArgumentException")
set_option maxHeartbeats 4000000 in
set_option maxRecDepth 100000 in
theorem t_X4_rate_10 {p : Program} {l : Launch} {e : Env} {s : State} {m : MethodId} {args : Array Value} {below : List Frame} {meth : Method} {c : Code} {D : va_G} {q : Nat → Nat} {k : Nat → ClassId} {b : xT} {o : Nat → Int64} {z : xT} {y : String ⊕ (Int32 × xT)} (C : xCx p s m meth c cX4_rate 3 (some .int) RX4 D k) (hl0 : l.stackTraces = false) (hst : xSt s) (hP : va_P D vwCl (xw q k z b o) s.heap) (hD : va_D (va_A (xw q k z b o) s.heap.size) (xw q k z b o))  {ls : Array Slot} (hl : lv_has ls 3 []) (hf : g_X4_rate_10  z  = some y) : W p l e r_X4_rate s m args below meth c s.heap [] 0 0 (xMQ below (xQm D q k z b o (Sum.map id (fun z => (some (.int z.1), z.2, b)) y)) args s (xmm (Sum.map id (fun z => (some (.int z.1), z.2, b)) y)) (xmn (Sum.map id (fun z => (some (.int z.1), z.2, b)) y)) (xfr q k z b o s.heap.size (Sum.map id (fun z => (some (.int z.1), z.2, b)) y))) (F0 m 10 ls []) := by
  obtain ⟨hx, hb, hml, hr, hlocks, hown, hno, hG⟩ := C
  have hK := hG.1
  have hE := hG.2.1
  have hS : va_S (va_A (xw q k z b o) s.heap.size) s.heap s.heap [] := va_S.rf
  have hA : ∀ u, s.heap.size ≤ u → va_A (xw q k z b o) s.heap.size u := fun u h => Or.inr h
  unfold g_X4_rate_10 at hf
  cases hf
  obtain ⟨sa, hsa⟩ := hG.2.2 (RX4, 39, "no such quarter") (by decide +kernel)
  exact xthrow (own := RX4) (cls := "java/lang/IllegalArgumentException") (text := "no such quarter") (names := ["java/lang/RuntimeException", "java/lang/Exception"]) (ik := 37) (is := 39) (ic := 41) (sa := sa) hx hb hl0 hown hE hst (by decide +kernel) (by decide +kernel) tw_X4_41 kl_X4_37 wn_IllegalArgumentException hsa hno hlocks (hl.1.trans hml.symm) dX4_rate_10 dX4_rate_13 dX4_rate_14 dX4_rate_16 dX4_rate_19 (by decide) (by decide) (by decide) (by decide) (fun u t h => ⟨u, rfl, h⟩)
noncomputable def g_X4_rate_30  (z : xT)  : Option (String ⊕ (Int32 × xT)) := some (.inl "java/lang/IllegalArgumentException")
set_option maxHeartbeats 4000000 in
set_option maxRecDepth 100000 in
theorem t_X4_rate_30 {p : Program} {l : Launch} {e : Env} {s : State} {m : MethodId} {args : Array Value} {below : List Frame} {meth : Method} {c : Code} {D : va_G} {q : Nat → Nat} {k : Nat → ClassId} {b : xT} {o : Nat → Int64} {z : xT} {y : String ⊕ (Int32 × xT)} (C : xCx p s m meth c cX4_rate 3 (some .int) RX4 D k) (hl0 : l.stackTraces = false) (hst : xSt s) (hP : va_P D vwCl (xw q k z b o) s.heap) (hD : va_D (va_A (xw q k z b o) s.heap.size) (xw q k z b o))  {ls : Array Slot} (hl : lv_has ls 3 []) (hf : g_X4_rate_30  z  = some y) : W p l e r_X4_rate s m args below meth c s.heap [] 0 0 (xMQ below (xQm D q k z b o (Sum.map id (fun z => (some (.int z.1), z.2, b)) y)) args s (xmm (Sum.map id (fun z => (some (.int z.1), z.2, b)) y)) (xmn (Sum.map id (fun z => (some (.int z.1), z.2, b)) y)) (xfr q k z b o s.heap.size (Sum.map id (fun z => (some (.int z.1), z.2, b)) y))) (F0 m 30 ls []) := by
  obtain ⟨hx, hb, hml, hr, hlocks, hown, hno, hG⟩ := C
  have hK := hG.1
  have hE := hG.2.1
  have hS : va_S (va_A (xw q k z b o) s.heap.size) s.heap s.heap [] := va_S.rf
  have hA : ∀ u, s.heap.size ≤ u → va_A (xw q k z b o) s.heap.size u := fun u h => Or.inr h
  unfold g_X4_rate_30 at hf
  cases hf
  obtain ⟨sa, hsa⟩ := hG.2.2 (RX4, 44, "no such rate") (by decide +kernel)
  exact xthrow (own := RX4) (cls := "java/lang/IllegalArgumentException") (text := "no such rate") (names := ["java/lang/RuntimeException", "java/lang/Exception"]) (ik := 37) (is := 44) (ic := 41) (sa := sa) hx hb hl0 hown hE hst (by decide +kernel) (by decide +kernel) tw_X4_41 kl_X4_37 wn_IllegalArgumentException hsa hno hlocks (hl.1.trans hml.symm) dX4_rate_30 dX4_rate_33 dX4_rate_34 dX4_rate_36 dX4_rate_39 (by decide) (by decide) (by decide) (by decide) (fun u t h => ⟨u, rfl, h⟩)
noncomputable def g_X4_rate_0  (z : xT) (v1 : Int32) (v2 : Int32) : Option (String ⊕ (Int32 × xT)) := (if v1 < 0 then g_X4_rate_10  z  else (if v1 < 16 then (if v2 < 0 then g_X4_rate_30  z  else (if v2 ≤ 8 then ((f_X4_losesFrozenSlot z v1 v2).bind fun r43 => (if r43 = 0 then ((f_X3_setRate z v1 v2).bind fun z65 => ((f_X4_rationAll z65 ).bind fun z69 => some (.inr (z69.1, z69.2)))) else some (.inl "java/lang/IllegalStateException"))) else g_X4_rate_30  z )) else g_X4_rate_10  z ))
set_option maxHeartbeats 4000000 in
set_option maxRecDepth 100000 in
theorem t_X4_rate_0 {p : Program} {l : Launch} {e : Env} {s : State} {m : MethodId} {args : Array Value} {below : List Frame} {meth : Method} {c : Code} {D : va_G} {q : Nat → Nat} {k : Nat → ClassId} {b : xT} {o : Nat → Int64} {z : xT} {y : String ⊕ (Int32 × xT)} (C : xCx p s m meth c cX4_rate 3 (some .int) RX4 D k) (hl0 : l.stackTraces = false) (hst : xSt s) (hP : va_P D vwCl (xw q k z b o) s.heap) (hD : va_D (va_A (xw q k z b o) s.heap.size) (xw q k z b o))  {v1 v2 : Int32} {ls : Array Slot} (hl : lv_has ls 3 [(0, .ref (q 0)), (1, .int v1), (2, .int v2)]) (hf : g_X4_rate_0  z v1 v2 = some y) : W p l e r_X4_rate s m args below meth c s.heap [] 0 0 (xMQ below (xQm D q k z b o (Sum.map id (fun z => (some (.int z.1), z.2, b)) y)) args s (xmm (Sum.map id (fun z => (some (.int z.1), z.2, b)) y)) (xmn (Sum.map id (fun z => (some (.int z.1), z.2, b)) y)) (xfr q k z b o s.heap.size (Sum.map id (fun z => (some (.int z.1), z.2, b)) y))) (F0 m 0 ls []) := by
  obtain ⟨hx, hb, hml, hr, hlocks, hown, hno, hG⟩ := C
  have hK := hG.1
  have hE := hG.2.1
  have hS : va_S (va_A (xw q k z b o) s.heap.size) s.heap s.heap [] := va_S.rf
  have hA : ∀ u, s.heap.size ≤ u → va_A (xw q k z b o) s.heap.size u := fun u h => Or.inr h
  unfold g_X4_rate_0 at hf
  refine lv_iload_n hx hb dX4_rate_0 rfl (lv_at hl 1 rfl) ?_
  refine lv_if_lt hx hb dX4_rate_1 rfl (fun hc => ?_) (fun hc => ?_)
  · rw [if_pos hc] at hf
    exact t_X4_rate_10 ⟨hx, hb, hml, hr, hlocks, hown, hno, hG⟩ hl0 hst hP hD  (lv_sub hl [] rfl) hf
  · rw [if_neg hc] at hf
    refine lv_iload_n hx hb dX4_rate_4 rfl (lv_at hl 1 rfl) ?_
    refine lv_bipush (v := 16) hx hb dX4_rate_5 (by decide) ?_
    refine lv_icmp_lt hx hb dX4_rate_7 rfl (fun hc => ?_) (fun hc => ?_)
    · rw [if_pos hc] at hf
      refine lv_iload_n hx hb dX4_rate_20 rfl (lv_at hl 2 rfl) ?_
      refine lv_if_lt hx hb dX4_rate_21 rfl (fun hc => ?_) (fun hc => ?_)
      · rw [if_pos hc] at hf
        exact t_X4_rate_30 ⟨hx, hb, hml, hr, hlocks, hown, hno, hG⟩ hl0 hst hP hD  (lv_sub hl [] rfl) hf
      · rw [if_neg hc] at hf
        refine lv_iload_n hx hb dX4_rate_24 rfl (lv_at hl 2 rfl) ?_
        refine lv_bipush (v := 8) hx hb dX4_rate_25 (by decide) ?_
        refine lv_icmp_le hx hb dX4_rate_27 rfl (fun hc => ?_) (fun hc => ?_)
        · rw [if_pos hc] at hf
          refine lv_aload_n hx hb dX4_rate_40 rfl (lv_at hl 0 rfl) ?_
          refine lv_iload_n hx hb dX4_rate_41 rfl (lv_at hl 1 rfl) ?_
          refine lv_iload_n hx hb dX4_rate_42 rfl (lv_at hl 2 rfl) ?_
          obtain ⟨r43, hN, hf⟩ := xbind hf
          refine xgo_r (v := some (.int r43)) (xrunV (C := RX4) (As := [.int v1, .int v2]) (rest := []) (xfixm fx_X4_losesFrozenSlot hx hb hml hown (by decide) (by decide) (by decide) (by decide)) hE ml_X4_46 wi_X4_losesFrozenSlot wz_X4_losesFrozenSlot wc_X4_losesFrozenSlot wn_X4 (c_X4_losesFrozenSlot l D q k z b o v1 v2 _ hN) (va_recv (q := (RX4, TX4, 4)) (ci := 4) (q0 := 0) hK hP rfl rfl) (xpre hP hD hG) rfl rfl hl.1 rfl (lv_room (Nat.le_of_ble_eq_true rfl)) dX4_rate_43) ?_
          refine lv_if_eq hx hb dX4_rate_46 rfl (fun hc => ?_) (fun hc => ?_)
          · rw [if_pos hc] at hf
            refine lv_aload_n hx hb dX4_rate_59 rfl (lv_at hl 0 rfl) ?_
            refine va_get (D := D) (ci := 4) (v := .ref (q 1)) (C := RX4) (T := TX4) (N := 4) hx hb (hwX4 hE) (fun _ h => h) hown hK hP 0 rfl rfl 0 (by decide) (hE _ fl_X4_12 rfl _) (fun _ h9 => h9) rfl dX4_rate_60 ?_
            refine lv_iload_n hx hb dX4_rate_63 rfl (lv_at hl 1 rfl) ?_
            refine lv_iload_n hx hb dX4_rate_64 rfl (lv_at hl 2 rfl) ?_
            obtain ⟨z65, hN, hf⟩ := xbind hf
            refine xgo_m (v := none) (a1 := z65) (b1 := b) (xrunV (C := RX3) (As := [.int v1, .int v2]) (rest := []) (xfixm fx_X3_setRate hx hb hml hown (by decide) (by decide) (by decide) (by decide)) hE ml_X4_55 wi_X3_setRate wz_X3_setRate wc_X3_setRate wn_X3 (c_X3_setRate l D q k _ z b o v1 v2 _ hN) (va_recv (q := (RX3, TX3, 3)) (ci := 3) (q0 := 1) hK hP rfl rfl) (xprem hP hD hG) rfl rfl hl.1 rfl (lv_room (Nat.le_of_ble_eq_true rfl)) dX4_rate_65) hD hS hA (fun H locs hP hD hS => ?_)
            refine lv_aload_n hx hb dX4_rate_68 rfl (lv_at hl 0 rfl) ?_
            obtain ⟨z69, hN, hf⟩ := xbind hf
            refine xgo_m (v := some (.int z69.1)) (a1 := z69.2) (b1 := b) (xrunV (C := RX4) (As := []) (rest := []) (xfixm fx_X4_rationAll hx hb hml hown (by decide) (by decide) (by decide) (by decide)) hE ml_X4_59 wi_X4_rationAll wz_X4_rationAll wc_X4_rationAll wn_X4 (c_X4_rationAll l D q k _ z65 b o  _ hN) (va_recv (q := (RX4, TX4, 4)) (ci := 4) (q0 := 0) hK hP rfl rfl) (xprem hP hD hG) rfl rfl hl.1 rfl (lv_room (Nat.le_of_ble_eq_true rfl)) dX4_rate_69) hD hS hA (fun H locs hP hD hS => ?_)
            cases hf
            exact xretm_i hx hb hr hlocks hP hS dX4_rate_72
          · rw [if_neg hc] at hf
            cases hf
            obtain ⟨sa, hsa⟩ := hG.2.2 (RX4, 52, "a frozen slot would be none any more") (by decide +kernel)
            exact xthrow (own := RX4) (cls := "java/lang/IllegalStateException") (text := "a frozen slot would be none any more") (names := ["java/lang/RuntimeException", "java/lang/Exception"]) (ik := 50) (is := 52) (ic := 54) (sa := sa) hx hb hl0 hown hE hst (by decide +kernel) (by decide +kernel) tw_X4_54 kl_X4_50 wn_IllegalStateException hsa hno hlocks (hl.1.trans hml.symm) dX4_rate_49 dX4_rate_52 dX4_rate_53 dX4_rate_55 dX4_rate_58 (by decide) (by decide) (by decide) (by decide) (fun u t h => ⟨u, rfl, h⟩)
        · rw [if_neg hc] at hf
          exact t_X4_rate_30 ⟨hx, hb, hml, hr, hlocks, hown, hno, hG⟩ hl0 hst hP hD  (lv_sub hl [] rfl) hf
    · rw [if_neg hc] at hf
      exact t_X4_rate_10 ⟨hx, hb, hml, hr, hlocks, hown, hno, hG⟩ hl0 hst hP hD  (lv_sub hl [] rfl) hf
noncomputable def f_X4_rate (a : xT) (v1 : Int32) (v2 : Int32) : Option (String ⊕ (Int32 × xT)) := g_X4_rate_0 a v1 v2
set_option maxHeartbeats 4000000 in
set_option maxRecDepth 100000 in
theorem c_X4_rate (l : Launch) (hl0 : l.stackTraces = false) (D : va_G) (q : Nat → Nat) (k : Nat → ClassId) (sz : Nat) (a b : xT) (o : Nat → Int64) (v1 : Int32) (v2 : Int32) (y : String ⊕ (Int32 × xT)) (hf : f_X4_rate a v1 v2 = some y) : xMet l yX4_rate (.code yX4_rate cX4_rate 3 (some .int)) r_X4_rate (xPcTm D q k sz a b o [.ref (q 0), .int v1, .int v2]) (xQm D q k a b o (Sum.map id (fun z => (some (.int z.1), z.2, b)) y)) (xmm (Sum.map id (fun z => (some (.int z.1), z.2, b)) y)) (xmn (Sum.map id (fun z => (some (.int z.1), z.2, b)) y)) (xfr q k a b o sz (Sum.map id (fun z => (some (.int z.1), z.2, b)) y)) := by
  refine xMet.ofW (by decide) ?_
  intro p e s m args below meth c hx hb hml hr hlocks hnm hme hno hv
  obtain ⟨rfl, hsz, hP, hD, hG, hst⟩ := hv
  subst hsz
  have hown : s.vm.findClass RX4 = some m.cls := findClass_of_methodNamed hnm
  have hl := lv_entry ([.ref (q 0), .int v1, .int v2]) (n := 3) (Nat.le_of_ble_eq_true rfl)
  rw [lg_entry_eq]
  generalize (lg_sl ([.ref (q 0), .int v1, .int v2]) ++ List.replicate (3 - (lg_sl ([.ref (q 0), .int v1, .int v2])).length) Slot.unset).toArray = ls at hl ⊢
  have hl : lv_has ls 3 [(0, .ref (q 0)), (1, .int v1), (2, .int v2)] := hl
  have hD := hD.self (sz := s.heap.size)
  exact t_X4_rate_0 ⟨hx, hb, hml, hr, hlocks, hown, hno, hG⟩ hl0 hst hP hD hl hf
abbrev r_X4_ration : Room := { frames := 4, cells := 0, slots := 0, locals := 87 }
noncomputable def g_X4_ration_0  (a : xT)  : Option (Int32 × xT) := ((f_X4_rationAll a ).bind fun z1 => some (z1.1, z1.2))
set_option maxHeartbeats 4000000 in
set_option maxRecDepth 100000 in
theorem t_X4_ration_0 {p : Program} {l : Launch} {e : Env} {s : State} {m : MethodId} {args : Array Value} {below : List Frame} {meth : Method} {c : Code} {D : va_G} {q : Nat → Nat} {k : Nat → ClassId} {a b : xT} {o : Nat → Int64} {z : xT} {y : Int32 × xT} (C : xCx p s m meth c cX4_ration 1 (some .int) RX4 D k) {H : Heap} {locs : List Loc} (hP : va_P D vwCl (xw q k a b o) H) (hD : va_D (va_A (xw q k z b o) s.heap.size) (xw q k a b o)) (hS : va_S (va_A (xw q k z b o) s.heap.size) s.heap H locs)  {ls : Array Slot} (hl : lv_has ls 1 [(0, .ref (q 0))]) (hf : g_X4_ration_0  a  = some y) : W p l e r_X4_ration s m args below meth c H locs 0 0 (xMQ below (xQm D q k z b o (.inr (some (.int y.1), y.2, b))) args s 0 0 (va_A (xw q k z b o) s.heap.size)) (F0 m 0 ls []) := by
  obtain ⟨hx, hb, hml, hr, hlocks, hown, hno, hG⟩ := C
  have hK := hG.1
  have hE := hG.2.1
  have hA : ∀ u, s.heap.size ≤ u → va_A (xw q k z b o) s.heap.size u := fun u h => Or.inr h
  unfold g_X4_ration_0 at hf
  refine lv_aload_n hx hb dX4_ration_0 rfl (lv_at hl 0 rfl) ?_
  obtain ⟨z1, hN, hf⟩ := xbind hf
  refine xgo_m (v := some (.int z1.1)) (a1 := z1.2) (b1 := b) (xrunV (C := RX4) (As := []) (rest := []) (xfixm fx_X4_rationAll hx hb hml hown (by decide) (by decide) (by decide) (by decide)) hE ml_X4_59 wi_X4_rationAll wz_X4_rationAll wc_X4_rationAll wn_X4 (c_X4_rationAll l D q k _ a b o  _ hN) (va_recv (q := (RX4, TX4, 4)) (ci := 4) (q0 := 0) hK hP rfl rfl) (xprem hP hD hG) rfl rfl hl.1 rfl (lv_room (Nat.le_of_ble_eq_true rfl)) dX4_ration_1) hD hS hA (fun H locs hP hD hS => ?_)
  cases hf
  exact xretm_i hx hb hr hlocks hP hS dX4_ration_4
noncomputable def f_X4_ration (a : xT)  : Option (Int32 × xT) := g_X4_ration_0 a 
set_option maxHeartbeats 4000000 in
set_option maxRecDepth 100000 in
theorem c_X4_ration (l : Launch) (D : va_G) (q : Nat → Nat) (k : Nat → ClassId) (sz : Nat) (a b : xT) (o : Nat → Int64)  (y : Int32 × xT) (hf : f_X4_ration a  = some y) : xMet l yX4_ration (.code yX4_ration cX4_ration 1 (some .int)) r_X4_ration (xPcm D q k sz a b o [.ref (q 0)]) (xQm D q k a b o (.inr (some (.int y.1), y.2, b))) 0 0 (va_A (xw q k a b o) sz) := by
  refine xMet.ofW (by decide) ?_
  intro p e s m args below meth c hx hb hml hr hlocks hnm hme hno hv
  obtain ⟨rfl, hsz, hP, hD, hG⟩ := hv
  subst hsz
  have hown : s.vm.findClass RX4 = some m.cls := findClass_of_methodNamed hnm
  have hl := lv_entry ([.ref (q 0)]) (n := 1) (Nat.le_of_ble_eq_true rfl)
  rw [lg_entry_eq]
  generalize (lg_sl ([.ref (q 0)]) ++ List.replicate (1 - (lg_sl ([.ref (q 0)])).length) Slot.unset).toArray = ls at hl ⊢
  have hl : lv_has ls 1 [(0, .ref (q 0))] := hl
  have hD := hD.self (sz := s.heap.size)
  exact t_X4_ration_0 ⟨hx, hb, hml, hr, hlocks, hown, hno, hG⟩ hP hD va_S.rf hl hf
abbrev r_X4_slotOf : Room := { frames := 7, cells := 1, slots := 6, locals := 111 }
noncomputable def g_X4_slotOf_0  (a : xT) (v1 : Int32) : Option (String ⊕ Int32) := ((f_X4_checkFlight a v1).bind fun r => Option.elim r ((if xin v1 60 = true then some (.inr (a.1 6 v1.toNatClampNeg)) else none)) (fun E => some (.inl E)))
set_option maxHeartbeats 4000000 in
set_option maxRecDepth 100000 in
theorem t_X4_slotOf_0 {p : Program} {l : Launch} {e : Env} {s : State} {m : MethodId} {args : Array Value} {below : List Frame} {meth : Method} {c : Code} {D : va_G} {q : Nat → Nat} {k : Nat → ClassId} {a b : xT} {o : Nat → Int64} {y : String ⊕ Int32} (C : xCx p s m meth c cX4_slotOf 2 (some .int) RX4 D k) (hl0 : l.stackTraces = false) (hst : xSt s) (hP : va_P D vwCl (xw q k a b o) s.heap) (hD : va_D (fun _ => True) (xw q k a b o))  {v1 : Int32} {ls : Array Slot} (hl : lv_has ls 2 [(0, .ref (q 0)), (1, .int v1)]) (hf : g_X4_slotOf_0  a v1 = some y) : W p l e r_X4_slotOf s m args below meth c s.heap [] 0 0 (xMQ below (xQr (xri y)) args s (xmc (xri y)) (xms (xri y)) (fun _ => False)) (F0 m 0 ls []) := by
  obtain ⟨hx, hb, hml, hr, hlocks, hown, hno, hG⟩ := C
  have hK := hG.1
  have hE := hG.2.1
  unfold g_X4_slotOf_0 at hf
  refine lv_aload_n hx hb dX4_slotOf_0 rfl (lv_at hl 0 rfl) ?_
  refine lv_iload_n hx hb dX4_slotOf_1 rfl (lv_at hl 1 rfl) ?_
  obtain ⟨r2, hN, hf⟩ := xbind hf
  cases r2 with
  | some E =>
    replace hf : some (.inl E) = some y := hf
    cases hf
    exact xgo_t (xrunV (C := RX4) (As := [.int v1]) (rest := []) (xfixm fx_X4_checkFlight hx hb hml hown (by decide) (by decide) (by decide) (by decide)) hE ml_X4_87 wi_X4_checkFlight wz_X4_checkFlight wc_X4_checkFlight wn_X4 (c_X4_checkFlight l hl0 D q k a b o v1 _ hN) (va_recv (q := (RX4, TX4, 4)) (ci := 4) (q0 := 0) hK hP rfl rfl) (xpreT hP hD hG hst) rfl rfl hl.1 rfl (lv_room (Nat.le_of_ble_eq_true rfl)) dX4_slotOf_2) (fun u H1 ce h1 h2 h3 h4 h5 => xout hno hlocks (fun u t h => ⟨u, rfl, h⟩) h1 h2 h3 h4 h5)
  | none =>
    replace hf : (if xin v1 60 = true then some (.inr (a.1 6 v1.toNatClampNeg)) else none) = some y := hf
    refine xgo_r (v := none) (xrunV (C := RX4) (As := [.int v1]) (rest := []) (xfixm fx_X4_checkFlight hx hb hml hown (by decide) (by decide) (by decide) (by decide)) hE ml_X4_87 wi_X4_checkFlight wz_X4_checkFlight wc_X4_checkFlight wn_X4 (c_X4_checkFlight l hl0 D q k a b o v1 _ hN) (va_recv (q := (RX4, TX4, 4)) (ci := 4) (q0 := 0) hK hP rfl rfl) (xpreT hP hD hG hst) rfl rfl hl.1 rfl (lv_room (Nat.le_of_ble_eq_true rfl)) dX4_slotOf_2) ?_
    refine lv_aload_n hx hb dX4_slotOf_5 rfl (lv_at hl 0 rfl) ?_
    refine va_get (D := D) (ci := 4) (v := .ref (q 2)) (C := RX4) (T := TX4) (N := 4) hx hb (hwX4 hE) (fun _ h => h) hown hK hP 0 rfl rfl 1 (by decide) (hE _ fl_X4_19 rfl _) (fun _ h9 => h9) rfl dX4_slotOf_6 ?_
    refine va_get (D := D) (ci := 1) (v := .ref (q 11)) (C := RX1) (T := TX1) (N := 8) hx hb (hwX1 hE) (fun _ h => h) hown hK hP 2 rfl rfl 3 (by decide) (hE _ fl_X4_90 rfl _) (fun _ h9 => h9) rfl dX4_slotOf_9 ?_
    refine lv_iload_n hx hb dX4_slotOf_12 rfl (lv_at hl 1 rfl) ?_
    obtain ⟨hin, hf⟩ := xguard hf
    refine va_iald hx hb hK hP 11 0 rfl rfl hin dX4_slotOf_13 ?_
    cases hf
    exact xret_i hx hb hr hlocks dX4_slotOf_14
noncomputable def f_X4_slotOf (a : xT) (v1 : Int32) : Option (String ⊕ Int32) := g_X4_slotOf_0 a v1
set_option maxHeartbeats 4000000 in
set_option maxRecDepth 100000 in
theorem c_X4_slotOf (l : Launch) (hl0 : l.stackTraces = false) (D : va_G) (q : Nat → Nat) (k : Nat → ClassId) (a b : xT) (o : Nat → Int64) (v1 : Int32) (y : String ⊕ Int32) (hf : f_X4_slotOf a v1 = some y) : xMet l yX4_slotOf (.code yX4_slotOf cX4_slotOf 2 (some .int)) r_X4_slotOf (xPcT D q k a b o [.ref (q 0), .int v1]) (xQr (xri y)) (xmc (xri y)) (xms (xri y)) (fun _ => False) := by
  refine xMet.ofW (by decide) ?_
  intro p e s m args below meth c hx hb hml hr hlocks hnm hme hno hv
  obtain ⟨rfl, hP, hD, hG, hst⟩ := hv
  have hown : s.vm.findClass RX4 = some m.cls := findClass_of_methodNamed hnm
  have hl := lv_entry ([.ref (q 0), .int v1]) (n := 2) (Nat.le_of_ble_eq_true rfl)
  rw [lg_entry_eq]
  generalize (lg_sl ([.ref (q 0), .int v1]) ++ List.replicate (2 - (lg_sl ([.ref (q 0), .int v1])).length) Slot.unset).toArray = ls at hl ⊢
  have hl : lv_has ls 2 [(0, .ref (q 0)), (1, .int v1)] := hl
  exact t_X4_slotOf_0 ⟨hx, hb, hml, hr, hlocks, hown, hno, hG⟩ hl0 hst hP hD hl hf
abbrev r_X4_swap : Room := { frames := 7, cells := 1, slots := 6, locals := 111 }
noncomputable def g_X4_swap_36  (z : xT)  : Option (String ⊕ (xT)) := some (.inl "java/lang/IllegalArgumentException")
set_option maxHeartbeats 4000000 in
set_option maxRecDepth 100000 in
theorem t_X4_swap_36 {p : Program} {l : Launch} {e : Env} {s : State} {m : MethodId} {args : Array Value} {below : List Frame} {meth : Method} {c : Code} {D : va_G} {q : Nat → Nat} {k : Nat → ClassId} {b : xT} {o : Nat → Int64} {z : xT} {y : String ⊕ (xT)} (C : xCx p s m meth c cX4_swap 5 none RX4 D k) (hl0 : l.stackTraces = false) (hst : xSt s) (hP : va_P D vwCl (xw q k z b o) s.heap) (hD : va_D (va_A (xw q k z b o) s.heap.size) (xw q k z b o))  {ls : Array Slot} (hl : lv_has ls 5 []) (hf : g_X4_swap_36  z  = some y) : W p l e r_X4_swap s m args below meth c s.heap [] 0 0 (xMQ below (xQm D q k z b o (Sum.map id (fun z => (none, z, b)) y)) args s (xmm (Sum.map id (fun z => (none, z, b)) y)) (xmn (Sum.map id (fun z => (none, z, b)) y)) (xfr q k z b o s.heap.size (Sum.map id (fun z => (none, z, b)) y))) (F0 m 36 ls []) := by
  obtain ⟨hx, hb, hml, hr, hlocks, hown, hno, hG⟩ := C
  have hK := hG.1
  have hE := hG.2.1
  have hS : va_S (va_A (xw q k z b o) s.heap.size) s.heap s.heap [] := va_S.rf
  have hA : ∀ u, s.heap.size ≤ u → va_A (xw q k z b o) s.heap.size u := fun u h => Or.inr h
  unfold g_X4_swap_36 at hf
  cases hf
  obtain ⟨sa, hsa⟩ := hG.2.2 (RX4, 127, "not two flights of one airline") (by decide +kernel)
  exact xthrow (own := RX4) (cls := "java/lang/IllegalArgumentException") (text := "not two flights of one airline") (names := ["java/lang/RuntimeException", "java/lang/Exception"]) (ik := 37) (is := 127) (ic := 41) (sa := sa) hx hb hl0 hown hE hst (by decide +kernel) (by decide +kernel) tw_X4_41 kl_X4_37 wn_IllegalArgumentException hsa hno hlocks (hl.1.trans hml.symm) dX4_swap_36 dX4_swap_39 dX4_swap_40 dX4_swap_42 dX4_swap_45 (by decide) (by decide) (by decide) (by decide) (fun u t h => ⟨u, rfl, h⟩)
noncomputable def g_X4_swap_78  (z : xT)  : Option (String ⊕ (xT)) := some (.inl "java/lang/IllegalStateException")
set_option maxHeartbeats 4000000 in
set_option maxRecDepth 100000 in
theorem t_X4_swap_78 {p : Program} {l : Launch} {e : Env} {s : State} {m : MethodId} {args : Array Value} {below : List Frame} {meth : Method} {c : Code} {D : va_G} {q : Nat → Nat} {k : Nat → ClassId} {b : xT} {o : Nat → Int64} {z : xT} {y : String ⊕ (xT)} (C : xCx p s m meth c cX4_swap 5 none RX4 D k) (hl0 : l.stackTraces = false) (hst : xSt s) (hP : va_P D vwCl (xw q k z b o) s.heap) (hD : va_D (va_A (xw q k z b o) s.heap.size) (xw q k z b o))  {ls : Array Slot} (hl : lv_has ls 5 []) (hf : g_X4_swap_78  z  = some y) : W p l e r_X4_swap s m args below meth c s.heap [] 0 0 (xMQ below (xQm D q k z b o (Sum.map id (fun z => (none, z, b)) y)) args s (xmm (Sum.map id (fun z => (none, z, b)) y)) (xmn (Sum.map id (fun z => (none, z, b)) y)) (xfr q k z b o s.heap.size (Sum.map id (fun z => (none, z, b)) y))) (F0 m 78 ls []) := by
  obtain ⟨hx, hb, hml, hr, hlocks, hown, hno, hG⟩ := C
  have hK := hG.1
  have hE := hG.2.1
  have hS : va_S (va_A (xw q k z b o) s.heap.size) s.heap s.heap [] := va_S.rf
  have hA : ∀ u, s.heap.size ≤ u → va_A (xw q k z b o) s.heap.size u := fun u h => Or.inr h
  unfold g_X4_swap_78 at hf
  cases hf
  obtain ⟨sa, hsa⟩ := hG.2.2 (RX4, 129, "one of them is in no slot") (by decide +kernel)
  exact xthrow (own := RX4) (cls := "java/lang/IllegalStateException") (text := "one of them is in no slot") (names := ["java/lang/RuntimeException", "java/lang/Exception"]) (ik := 50) (is := 129) (ic := 54) (sa := sa) hx hb hl0 hown hE hst (by decide +kernel) (by decide +kernel) tw_X4_54 kl_X4_50 wn_IllegalStateException hsa hno hlocks (hl.1.trans hml.symm) dX4_swap_78 dX4_swap_81 dX4_swap_82 dX4_swap_84 dX4_swap_87 (by decide) (by decide) (by decide) (by decide) (fun u t h => ⟨u, rfl, h⟩)
noncomputable def g_X4_swap_107  (z : xT)  : Option (String ⊕ (xT)) := some (.inl "java/lang/IllegalStateException")
set_option maxHeartbeats 4000000 in
set_option maxRecDepth 100000 in
theorem t_X4_swap_107 {p : Program} {l : Launch} {e : Env} {s : State} {m : MethodId} {args : Array Value} {below : List Frame} {meth : Method} {c : Code} {D : va_G} {q : Nat → Nat} {k : Nat → ClassId} {b : xT} {o : Nat → Int64} {z : xT} {y : String ⊕ (xT)} (C : xCx p s m meth c cX4_swap 5 none RX4 D k) (hl0 : l.stackTraces = false) (hst : xSt s) (hP : va_P D vwCl (xw q k z b o) s.heap) (hD : va_D (va_A (xw q k z b o) s.heap.size) (xw q k z b o))  {ls : Array Slot} (hl : lv_has ls 5 []) (hf : g_X4_swap_107  z  = some y) : W p l e r_X4_swap s m args below meth c s.heap [] 0 0 (xMQ below (xQm D q k z b o (Sum.map id (fun z => (none, z, b)) y)) args s (xmm (Sum.map id (fun z => (none, z, b)) y)) (xmn (Sum.map id (fun z => (none, z, b)) y)) (xfr q k z b o s.heap.size (Sum.map id (fun z => (none, z, b)) y))) (F0 m 107 ls []) := by
  obtain ⟨hx, hb, hml, hr, hlocks, hown, hno, hG⟩ := C
  have hK := hG.1
  have hE := hG.2.1
  have hS : va_S (va_A (xw q k z b o) s.heap.size) s.heap s.heap [] := va_S.rf
  have hA : ∀ u, s.heap.size ≤ u → va_A (xw q k z b o) s.heap.size u := fun u h => Or.inr h
  unfold g_X4_swap_107 at hf
  cases hf
  obtain ⟨sa, hsa⟩ := hG.2.2 (RX4, 134, "one of them is airborne or cannot use the other's slot") (by decide +kernel)
  exact xthrow (own := RX4) (cls := "java/lang/IllegalStateException") (text := "one of them is airborne or cannot use the other's slot") (names := ["java/lang/RuntimeException", "java/lang/Exception"]) (ik := 50) (is := 134) (ic := 54) (sa := sa) hx hb hl0 hown hE hst (by decide +kernel) (by decide +kernel) tw_X4_54 kl_X4_50 wn_IllegalStateException hsa hno hlocks (hl.1.trans hml.symm) dX4_swap_107 dX4_swap_110 dX4_swap_111 dX4_swap_113 dX4_swap_116 (by decide) (by decide) (by decide) (by decide) (fun u t h => ⟨u, rfl, h⟩)
noncomputable def g_X4_swap_0  (z : xT) (v1 : Int32) (v2 : Int32) : Option (String ⊕ (xT)) := ((f_X4_checkFlight z v1).bind fun r => Option.elim r (((f_X4_checkFlight z v2).bind fun r => Option.elim r ((if v1 = v2 then g_X4_swap_36  z  else (if xin v1 60 = true then (if xin v2 60 = true then (if (z.1 3 v1.toNatClampNeg) = (z.1 3 v2.toNatClampNeg) then (if xin v1 60 = true then (if xin v2 60 = true then (if (z.1 6 v1.toNatClampNeg) = (-1) then g_X4_swap_78  z  else (if (z.1 6 v2.toNatClampNeg) = (-1) then g_X4_swap_78  z  else ((f_X4_couldMove z v1 (z.1 6 v2.toNatClampNeg)).bind fun r92 => (if r92 = 0 then g_X4_swap_107  z  else ((f_X4_couldMove z v2 (z.1 6 v1.toNatClampNeg)).bind fun r101 => (if r101 = 0 then g_X4_swap_107  z  else ((f_X4_putIn z (z.1 6 v2.toNatClampNeg) v1).bind fun z121 => ((f_X4_putIn z121 (z.1 6 v1.toNatClampNeg) v2).bind fun z127 => ((f_X0_add z127 1 v1 (z.1 6 v1.toNatClampNeg) (z.1 6 v2.toNatClampNeg)).bind fun z139 => some (.inr z139)))))))))) else none) else none) else g_X4_swap_36  z ) else none) else none))) (fun E => some (.inl E)))) (fun E => some (.inl E)))
set_option maxHeartbeats 4000000 in
set_option maxRecDepth 100000 in
theorem t_X4_swap_0 {p : Program} {l : Launch} {e : Env} {s : State} {m : MethodId} {args : Array Value} {below : List Frame} {meth : Method} {c : Code} {D : va_G} {q : Nat → Nat} {k : Nat → ClassId} {b : xT} {o : Nat → Int64} {z : xT} {y : String ⊕ (xT)} (C : xCx p s m meth c cX4_swap 5 none RX4 D k) (hl0 : l.stackTraces = false) (hst : xSt s) (hP : va_P D vwCl (xw q k z b o) s.heap) (hD : va_D (va_A (xw q k z b o) s.heap.size) (xw q k z b o))  {v1 v2 : Int32} {ls : Array Slot} (hl : lv_has ls 5 [(0, .ref (q 0)), (1, .int v1), (2, .int v2)]) (hf : g_X4_swap_0  z v1 v2 = some y) : W p l e r_X4_swap s m args below meth c s.heap [] 0 0 (xMQ below (xQm D q k z b o (Sum.map id (fun z => (none, z, b)) y)) args s (xmm (Sum.map id (fun z => (none, z, b)) y)) (xmn (Sum.map id (fun z => (none, z, b)) y)) (xfr q k z b o s.heap.size (Sum.map id (fun z => (none, z, b)) y))) (F0 m 0 ls []) := by
  obtain ⟨hx, hb, hml, hr, hlocks, hown, hno, hG⟩ := C
  have hK := hG.1
  have hE := hG.2.1
  have hS : va_S (va_A (xw q k z b o) s.heap.size) s.heap s.heap [] := va_S.rf
  have hA : ∀ u, s.heap.size ≤ u → va_A (xw q k z b o) s.heap.size u := fun u h => Or.inr h
  unfold g_X4_swap_0 at hf
  refine lv_aload_n hx hb dX4_swap_0 rfl (lv_at hl 0 rfl) ?_
  refine lv_iload_n hx hb dX4_swap_1 rfl (lv_at hl 1 rfl) ?_
  obtain ⟨r2, hN, hf⟩ := xbind hf
  cases r2 with
  | some E =>
    replace hf : some (.inl E) = some y := hf
    cases hf
    exact xgo_t (xrunV (C := RX4) (As := [.int v1]) (rest := []) (xfixm fx_X4_checkFlight hx hb hml hown (by decide) (by decide) (by decide) (by decide)) hE ml_X4_87 wi_X4_checkFlight wz_X4_checkFlight wc_X4_checkFlight wn_X4 (c_X4_checkFlight l hl0 D q k z b o v1 _ hN) (va_recv (q := (RX4, TX4, 4)) (ci := 4) (q0 := 0) hK hP rfl rfl) (xpreT hP hD hG hst) rfl rfl hl.1 rfl (lv_room (Nat.le_of_ble_eq_true rfl)) dX4_swap_2) (fun u H1 ce h1 h2 h3 h4 h5 => xout hno hlocks (fun u t h => ⟨u, rfl, h⟩) h1 h2 h3 h4 h5)
  | none =>
    replace hf : ((f_X4_checkFlight z v2).bind fun r => Option.elim r ((if v1 = v2 then g_X4_swap_36  z  else (if xin v1 60 = true then (if xin v2 60 = true then (if (z.1 3 v1.toNatClampNeg) = (z.1 3 v2.toNatClampNeg) then (if xin v1 60 = true then (if xin v2 60 = true then (if (z.1 6 v1.toNatClampNeg) = (-1) then g_X4_swap_78  z  else (if (z.1 6 v2.toNatClampNeg) = (-1) then g_X4_swap_78  z  else ((f_X4_couldMove z v1 (z.1 6 v2.toNatClampNeg)).bind fun r92 => (if r92 = 0 then g_X4_swap_107  z  else ((f_X4_couldMove z v2 (z.1 6 v1.toNatClampNeg)).bind fun r101 => (if r101 = 0 then g_X4_swap_107  z  else ((f_X4_putIn z (z.1 6 v2.toNatClampNeg) v1).bind fun z121 => ((f_X4_putIn z121 (z.1 6 v1.toNatClampNeg) v2).bind fun z127 => ((f_X0_add z127 1 v1 (z.1 6 v1.toNatClampNeg) (z.1 6 v2.toNatClampNeg)).bind fun z139 => some (.inr z139)))))))))) else none) else none) else g_X4_swap_36  z ) else none) else none))) (fun E => some (.inl E))) = some y := hf
    refine xgo_r (v := none) (xrunV (C := RX4) (As := [.int v1]) (rest := []) (xfixm fx_X4_checkFlight hx hb hml hown (by decide) (by decide) (by decide) (by decide)) hE ml_X4_87 wi_X4_checkFlight wz_X4_checkFlight wc_X4_checkFlight wn_X4 (c_X4_checkFlight l hl0 D q k z b o v1 _ hN) (va_recv (q := (RX4, TX4, 4)) (ci := 4) (q0 := 0) hK hP rfl rfl) (xpreT hP hD hG hst) rfl rfl hl.1 rfl (lv_room (Nat.le_of_ble_eq_true rfl)) dX4_swap_2) ?_
    refine lv_aload_n hx hb dX4_swap_5 rfl (lv_at hl 0 rfl) ?_
    refine lv_iload_n hx hb dX4_swap_6 rfl (lv_at hl 2 rfl) ?_
    obtain ⟨r7, hN, hf⟩ := xbind hf
    cases r7 with
    | some E =>
      replace hf : some (.inl E) = some y := hf
      cases hf
      exact xgo_t (xrunV (C := RX4) (As := [.int v2]) (rest := []) (xfixm fx_X4_checkFlight hx hb hml hown (by decide) (by decide) (by decide) (by decide)) hE ml_X4_87 wi_X4_checkFlight wz_X4_checkFlight wc_X4_checkFlight wn_X4 (c_X4_checkFlight l hl0 D q k z b o v2 _ hN) (va_recv (q := (RX4, TX4, 4)) (ci := 4) (q0 := 0) hK hP rfl rfl) (xpreT hP hD hG hst) rfl rfl hl.1 rfl (lv_room (Nat.le_of_ble_eq_true rfl)) dX4_swap_7) (fun u H1 ce h1 h2 h3 h4 h5 => xout hno hlocks (fun u t h => ⟨u, rfl, h⟩) h1 h2 h3 h4 h5)
    | none =>
      replace hf : (if v1 = v2 then g_X4_swap_36  z  else (if xin v1 60 = true then (if xin v2 60 = true then (if (z.1 3 v1.toNatClampNeg) = (z.1 3 v2.toNatClampNeg) then (if xin v1 60 = true then (if xin v2 60 = true then (if (z.1 6 v1.toNatClampNeg) = (-1) then g_X4_swap_78  z  else (if (z.1 6 v2.toNatClampNeg) = (-1) then g_X4_swap_78  z  else ((f_X4_couldMove z v1 (z.1 6 v2.toNatClampNeg)).bind fun r92 => (if r92 = 0 then g_X4_swap_107  z  else ((f_X4_couldMove z v2 (z.1 6 v1.toNatClampNeg)).bind fun r101 => (if r101 = 0 then g_X4_swap_107  z  else ((f_X4_putIn z (z.1 6 v2.toNatClampNeg) v1).bind fun z121 => ((f_X4_putIn z121 (z.1 6 v1.toNatClampNeg) v2).bind fun z127 => ((f_X0_add z127 1 v1 (z.1 6 v1.toNatClampNeg) (z.1 6 v2.toNatClampNeg)).bind fun z139 => some (.inr z139)))))))))) else none) else none) else g_X4_swap_36  z ) else none) else none)) = some y := hf
      refine xgo_r (v := none) (xrunV (C := RX4) (As := [.int v2]) (rest := []) (xfixm fx_X4_checkFlight hx hb hml hown (by decide) (by decide) (by decide) (by decide)) hE ml_X4_87 wi_X4_checkFlight wz_X4_checkFlight wc_X4_checkFlight wn_X4 (c_X4_checkFlight l hl0 D q k z b o v2 _ hN) (va_recv (q := (RX4, TX4, 4)) (ci := 4) (q0 := 0) hK hP rfl rfl) (xpreT hP hD hG hst) rfl rfl hl.1 rfl (lv_room (Nat.le_of_ble_eq_true rfl)) dX4_swap_7) ?_
      refine lv_iload_n hx hb dX4_swap_10 rfl (lv_at hl 1 rfl) ?_
      refine lv_iload_n hx hb dX4_swap_11 rfl (lv_at hl 2 rfl) ?_
      refine lv_icmp_eq hx hb dX4_swap_12 rfl (fun hc => ?_) (fun hc => ?_)
      · rw [if_pos hc] at hf
        exact t_X4_swap_36 ⟨hx, hb, hml, hr, hlocks, hown, hno, hG⟩ hl0 hst hP hD  (lv_sub hl [] rfl) hf
      · rw [if_neg hc] at hf
        refine lv_aload_n hx hb dX4_swap_15 rfl (lv_at hl 0 rfl) ?_
        refine va_get (D := D) (ci := 4) (v := .ref (q 2)) (C := RX4) (T := TX4) (N := 4) hx hb (hwX4 hE) (fun _ h => h) hown hK hP 0 rfl rfl 1 (by decide) (hE _ fl_X4_19 rfl _) (fun _ h9 => h9) rfl dX4_swap_16 ?_
        refine va_get (D := D) (ci := 1) (v := .ref (q 8)) (C := RX1) (T := TX1) (N := 8) hx hb (hwX1 hE) (fun _ h => h) hown hK hP 2 rfl rfl 0 (by decide) (hE _ fl_X4_124 rfl _) (fun _ h9 => h9) rfl dX4_swap_19 ?_
        refine lv_iload_n hx hb dX4_swap_22 rfl (lv_at hl 1 rfl) ?_
        obtain ⟨hin, hf⟩ := xguard hf
        refine va_iald hx hb hK hP 8 0 rfl rfl hin dX4_swap_23 ?_
        refine lv_aload_n hx hb dX4_swap_24 rfl (lv_at hl 0 rfl) ?_
        refine va_get (D := D) (ci := 4) (v := .ref (q 2)) (C := RX4) (T := TX4) (N := 4) hx hb (hwX4 hE) (fun _ h => h) hown hK hP 0 rfl rfl 1 (by decide) (hE _ fl_X4_19 rfl _) (fun _ h9 => h9) rfl dX4_swap_25 ?_
        refine va_get (D := D) (ci := 1) (v := .ref (q 8)) (C := RX1) (T := TX1) (N := 8) hx hb (hwX1 hE) (fun _ h => h) hown hK hP 2 rfl rfl 0 (by decide) (hE _ fl_X4_124 rfl _) (fun _ h9 => h9) rfl dX4_swap_28 ?_
        refine lv_iload_n hx hb dX4_swap_31 rfl (lv_at hl 2 rfl) ?_
        obtain ⟨hin, hf⟩ := xguard hf
        refine va_iald hx hb hK hP 8 0 rfl rfl hin dX4_swap_32 ?_
        refine lv_icmp_eq hx hb dX4_swap_33 rfl (fun hc => ?_) (fun hc => ?_)
        · rw [if_pos hc] at hf
          refine lv_aload_n hx hb dX4_swap_46 rfl (lv_at hl 0 rfl) ?_
          refine va_get (D := D) (ci := 4) (v := .ref (q 2)) (C := RX4) (T := TX4) (N := 4) hx hb (hwX4 hE) (fun _ h => h) hown hK hP 0 rfl rfl 1 (by decide) (hE _ fl_X4_19 rfl _) (fun _ h9 => h9) rfl dX4_swap_47 ?_
          refine va_get (D := D) (ci := 1) (v := .ref (q 11)) (C := RX1) (T := TX1) (N := 8) hx hb (hwX1 hE) (fun _ h => h) hown hK hP 2 rfl rfl 3 (by decide) (hE _ fl_X4_90 rfl _) (fun _ h9 => h9) rfl dX4_swap_50 ?_
          refine lv_iload_n hx hb dX4_swap_53 rfl (lv_at hl 1 rfl) ?_
          obtain ⟨hin, hf⟩ := xguard hf
          refine va_iald hx hb hK hP 11 0 rfl rfl hin dX4_swap_54 ?_
          refine lv_istore_n (lv' := [(3, .int (z.1 6 v1.toNatClampNeg)), (0, .ref (q 0)), (1, .int v1), (2, .int v2)]) hx hb dX4_swap_55 rfl hl (by decide) rfl (fun ls hl => ?_)
          refine lv_aload_n hx hb dX4_swap_56 rfl (lv_at hl 1 rfl) ?_
          refine va_get (D := D) (ci := 4) (v := .ref (q 2)) (C := RX4) (T := TX4) (N := 4) hx hb (hwX4 hE) (fun _ h => h) hown hK hP 0 rfl rfl 1 (by decide) (hE _ fl_X4_19 rfl _) (fun _ h9 => h9) rfl dX4_swap_57 ?_
          refine va_get (D := D) (ci := 1) (v := .ref (q 11)) (C := RX1) (T := TX1) (N := 8) hx hb (hwX1 hE) (fun _ h => h) hown hK hP 2 rfl rfl 3 (by decide) (hE _ fl_X4_90 rfl _) (fun _ h9 => h9) rfl dX4_swap_60 ?_
          refine lv_iload_n hx hb dX4_swap_63 rfl (lv_at hl 3 rfl) ?_
          obtain ⟨hin, hf⟩ := xguard hf
          refine va_iald hx hb hK hP 11 0 rfl rfl hin dX4_swap_64 ?_
          refine lv_istore (lv' := [(4, .int (z.1 6 v2.toNatClampNeg)), (3, .int (z.1 6 v1.toNatClampNeg)), (0, .ref (q 0)), (1, .int v1), (2, .int v2)]) hx hb dX4_swap_65 hl (by decide) rfl (fun ls hl => ?_)
          refine lv_iload_n hx hb dX4_swap_67 rfl (lv_at hl 1 rfl) ?_
          refine lv_iconst (v := -1) hx hb dX4_swap_68 (by decide) ?_
          refine lv_icmp_eq hx hb dX4_swap_69 rfl (fun hc => ?_) (fun hc => ?_)
          · rw [if_pos hc] at hf
            exact t_X4_swap_78 ⟨hx, hb, hml, hr, hlocks, hown, hno, hG⟩ hl0 hst hP hD  (lv_sub hl [] rfl) hf
          · rw [if_neg hc] at hf
            refine lv_iload hx hb dX4_swap_72 (lv_at hl 0 rfl) ?_
            refine lv_iconst (v := -1) hx hb dX4_swap_74 (by decide) ?_
            refine lv_icmp_ne hx hb dX4_swap_75 rfl (fun hc => ?_) (fun hc => ?_)
            · rw [if_neg hc] at hf
              refine lv_aload_n hx hb dX4_swap_88 rfl (lv_at hl 2 rfl) ?_
              refine lv_iload_n hx hb dX4_swap_89 rfl (lv_at hl 3 rfl) ?_
              refine lv_iload hx hb dX4_swap_90 (lv_at hl 0 rfl) ?_
              obtain ⟨r92, hN, hf⟩ := xbind hf
              refine xgo_r (v := some (.int r92)) (xrunV (C := RX4) (As := [.int v1, .int (z.1 6 v2.toNatClampNeg)]) (rest := []) (xfixm fx_X4_couldMove hx hb hml hown (by decide) (by decide) (by decide) (by decide)) hE ml_X4_131 wi_X4_couldMove wz_X4_couldMove wc_X4_couldMove wn_X4 (c_X4_couldMove l D q k z b o v1 (z.1 6 v2.toNatClampNeg) _ hN) (va_recv (q := (RX4, TX4, 4)) (ci := 4) (q0 := 0) hK hP rfl rfl) (xpre hP hD hG) rfl rfl hl.1 rfl (lv_room (Nat.le_of_ble_eq_true rfl)) dX4_swap_92) ?_
              refine lv_if_eq hx hb dX4_swap_95 rfl (fun hc => ?_) (fun hc => ?_)
              · rw [if_pos hc] at hf
                exact t_X4_swap_107 ⟨hx, hb, hml, hr, hlocks, hown, hno, hG⟩ hl0 hst hP hD  (lv_sub hl [] rfl) hf
              · rw [if_neg hc] at hf
                refine lv_aload_n hx hb dX4_swap_98 rfl (lv_at hl 2 rfl) ?_
                refine lv_iload_n hx hb dX4_swap_99 rfl (lv_at hl 4 rfl) ?_
                refine lv_iload_n hx hb dX4_swap_100 rfl (lv_at hl 1 rfl) ?_
                obtain ⟨r101, hN, hf⟩ := xbind hf
                refine xgo_r (v := some (.int r101)) (xrunV (C := RX4) (As := [.int v2, .int (z.1 6 v1.toNatClampNeg)]) (rest := []) (xfixm fx_X4_couldMove hx hb hml hown (by decide) (by decide) (by decide) (by decide)) hE ml_X4_131 wi_X4_couldMove wz_X4_couldMove wc_X4_couldMove wn_X4 (c_X4_couldMove l D q k z b o v2 (z.1 6 v1.toNatClampNeg) _ hN) (va_recv (q := (RX4, TX4, 4)) (ci := 4) (q0 := 0) hK hP rfl rfl) (xpre hP hD hG) rfl rfl hl.1 rfl (lv_room (Nat.le_of_ble_eq_true rfl)) dX4_swap_101) ?_
                refine lv_if_ne hx hb dX4_swap_104 rfl (fun hc => ?_) (fun hc => ?_)
                · rw [if_neg hc] at hf
                  refine lv_aload_n hx hb dX4_swap_117 rfl (lv_at hl 2 rfl) ?_
                  refine lv_iload hx hb dX4_swap_118 (lv_at hl 0 rfl) ?_
                  refine lv_iload_n hx hb dX4_swap_120 rfl (lv_at hl 3 rfl) ?_
                  obtain ⟨z121, hN, hf⟩ := xbind hf
                  refine xgo_m (v := none) (a1 := z121) (b1 := b) (xrunV (C := RX4) (As := [.int (z.1 6 v2.toNatClampNeg), .int v1]) (rest := []) (xfixm fx_X4_putIn hx hb hml hown (by decide) (by decide) (by decide) (by decide)) hE ml_X4_136 wi_X4_putIn wz_X4_putIn wc_X4_putIn wn_X4 (c_X4_putIn l D q k _ z b o (z.1 6 v2.toNatClampNeg) v1 _ hN) (va_recv (q := (RX4, TX4, 4)) (ci := 4) (q0 := 0) hK hP rfl rfl) (xprem hP hD hG) rfl rfl hl.1 rfl (lv_room (Nat.le_of_ble_eq_true rfl)) dX4_swap_121) hD hS hA (fun H locs hP hD hS => ?_)
                  refine lv_aload_n hx hb dX4_swap_124 rfl (lv_at hl 2 rfl) ?_
                  refine lv_iload_n hx hb dX4_swap_125 rfl (lv_at hl 1 rfl) ?_
                  refine lv_iload_n hx hb dX4_swap_126 rfl (lv_at hl 4 rfl) ?_
                  obtain ⟨z127, hN, hf⟩ := xbind hf
                  refine xgo_m (v := none) (a1 := z127) (b1 := b) (xrunV (C := RX4) (As := [.int (z.1 6 v1.toNatClampNeg), .int v2]) (rest := []) (xfixm fx_X4_putIn hx hb hml hown (by decide) (by decide) (by decide) (by decide)) hE ml_X4_136 wi_X4_putIn wz_X4_putIn wc_X4_putIn wn_X4 (c_X4_putIn l D q k _ z121 b o (z.1 6 v1.toNatClampNeg) v2 _ hN) (va_recv (q := (RX4, TX4, 4)) (ci := 4) (q0 := 0) hK hP rfl rfl) (xprem hP hD hG) rfl rfl hl.1 rfl (lv_room (Nat.le_of_ble_eq_true rfl)) dX4_swap_127) hD hS hA (fun H locs hP hD hS => ?_)
                  refine lv_aload_n hx hb dX4_swap_130 rfl (lv_at hl 2 rfl) ?_
                  refine va_get (D := D) (ci := 4) (v := .ref (q 4)) (C := RX4) (T := TX4) (N := 4) hx hb (hwX4 hE) (fun _ h => h) hown hK hP 0 rfl rfl 3 (by decide) (hE _ fl_X4_33 rfl _) (fun _ h9 => h9) rfl dX4_swap_131 ?_
                  refine lv_iconst (v := 1) hx hb dX4_swap_134 (by decide) ?_
                  refine lv_iload_n hx hb dX4_swap_135 rfl (lv_at hl 3 rfl) ?_
                  refine lv_iload_n hx hb dX4_swap_136 rfl (lv_at hl 1 rfl) ?_
                  refine lv_iload hx hb dX4_swap_137 (lv_at hl 0 rfl) ?_
                  obtain ⟨z139, hN, hf⟩ := xbind hf
                  refine xgo_m (v := none) (a1 := z139) (b1 := b) (xrunV (C := RX0) (As := [.int 1, .int v1, .int (z.1 6 v1.toNatClampNeg), .int (z.1 6 v2.toNatClampNeg)]) (rest := []) (xfixm fx_X0_add hx hb hml hown (by decide) (by decide) (by decide) (by decide)) hE ml_X4_139 wi_X0_add wz_X0_add wc_X0_add wn_X0 (c_X0_add l D q k _ z127 b o 1 v1 (z.1 6 v1.toNatClampNeg) (z.1 6 v2.toNatClampNeg) _ hN) (va_recv (q := (RX0, TX0, 5)) (ci := 0) (q0 := 4) hK hP rfl rfl) (xprem hP hD hG) rfl rfl hl.1 rfl (lv_room (Nat.le_of_ble_eq_true rfl)) dX4_swap_139) hD hS hA (fun H locs hP hD hS => ?_)
                  cases hf
                  exact xretm_v hx hb hr hlocks hP hS dX4_swap_142
                · rw [if_pos hc] at hf
                  exact t_X4_swap_107 ⟨hx, hb, hml, hr, hlocks, hown, hno, hG⟩ hl0 hst hP hD  (lv_sub hl [] rfl) hf
            · rw [if_pos hc] at hf
              exact t_X4_swap_78 ⟨hx, hb, hml, hr, hlocks, hown, hno, hG⟩ hl0 hst hP hD  (lv_sub hl [] rfl) hf
        · rw [if_neg hc] at hf
          exact t_X4_swap_36 ⟨hx, hb, hml, hr, hlocks, hown, hno, hG⟩ hl0 hst hP hD  (lv_sub hl [] rfl) hf
noncomputable def f_X4_swap (a : xT) (v1 : Int32) (v2 : Int32) : Option (String ⊕ (xT)) := g_X4_swap_0 a v1 v2
set_option maxHeartbeats 4000000 in
set_option maxRecDepth 100000 in
theorem c_X4_swap (l : Launch) (hl0 : l.stackTraces = false) (D : va_G) (q : Nat → Nat) (k : Nat → ClassId) (sz : Nat) (a b : xT) (o : Nat → Int64) (v1 : Int32) (v2 : Int32) (y : String ⊕ (xT)) (hf : f_X4_swap a v1 v2 = some y) : xMet l yX4_swap (.code yX4_swap cX4_swap 5 none) r_X4_swap (xPcTm D q k sz a b o [.ref (q 0), .int v1, .int v2]) (xQm D q k a b o (Sum.map id (fun z => (none, z, b)) y)) (xmm (Sum.map id (fun z => (none, z, b)) y)) (xmn (Sum.map id (fun z => (none, z, b)) y)) (xfr q k a b o sz (Sum.map id (fun z => (none, z, b)) y)) := by
  refine xMet.ofW (by decide) ?_
  intro p e s m args below meth c hx hb hml hr hlocks hnm hme hno hv
  obtain ⟨rfl, hsz, hP, hD, hG, hst⟩ := hv
  subst hsz
  have hown : s.vm.findClass RX4 = some m.cls := findClass_of_methodNamed hnm
  have hl := lv_entry ([.ref (q 0), .int v1, .int v2]) (n := 5) (Nat.le_of_ble_eq_true rfl)
  rw [lg_entry_eq]
  generalize (lg_sl ([.ref (q 0), .int v1, .int v2]) ++ List.replicate (5 - (lg_sl ([.ref (q 0), .int v1, .int v2])).length) Slot.unset).toArray = ls at hl ⊢
  have hl : lv_has ls 5 [(0, .ref (q 0)), (1, .int v1), (2, .int v2)] := hl
  have hD := hD.self (sz := s.heap.size)
  exact t_X4_swap_0 ⟨hx, hb, hml, hr, hlocks, hown, hno, hG⟩ hl0 hst hP hD hl hf
