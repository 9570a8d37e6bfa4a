abbrev r_X5_close : Room := { frames := 1, cells := 0, slots := 0, locals := 24 }
noncomputable def g_X5_close_7  (b : xT) (v1 : Int32) : Option (xT) := (if xin v1 40 = true then (if xin (b.1 11 v1.toNatClampNeg) 240 = true then (if xin v1 40 = true then (if xin v1 40 = true then ((f_X5_note b 2 (b.1 2 (b.1 11 v1.toNatClampNeg).toNatClampNeg) (b.1 11 v1.toNatClampNeg) (b.1 12 v1.toNatClampNeg)).bind fun z32 => some z32) else none) else none) else none) else none)
set_option maxHeartbeats 4000000 in
set_option maxRecDepth 100000 in
theorem t_X5_close_7 {p : Program} {l : Launch} {e : Env} {s : State} {m : MethodId} {args : Array Value} {below : List Frame} {meth : Method} {c : Code} {D : va_G} {q : Nat → Nat} {k : Nat → ClassId} {a b : xT} {o : Nat → Int64} {z : xT} {y : xT} (C : xCx p s m meth c cX5_close 2 none RX5 D k) {H : Heap} {locs : List Loc} (hP : va_P D vwCl (xw q k a b o) H) (hD : va_D (va_A (xw q k a z o) s.heap.size) (xw q k a b o)) (hS : va_S (va_A (xw q k a z o) s.heap.size) s.heap H locs)  {v1 : Int32} {ls : Array Slot} (hl : lv_has ls 2 [(0, .ref (q 23)), (1, .int v1)]) (hf : g_X5_close_7  b v1 = some y) : W p l e r_X5_close s m args below meth c H locs 0 0 (xMQ below (xQm D q k a z o (.inr (none, a, y))) args s 0 0 (va_A (xw q k a z o) s.heap.size)) (F0 m 7 ls []) := by
  obtain ⟨hx, hb, hml, hr, hlocks, hown, hno, hG⟩ := C
  have hK := hG.1
  have hE := hG.2.1
  have hA : ∀ u, s.heap.size ≤ u → va_A (xw q k a z o) s.heap.size u := fun u h => Or.inr h
  unfold g_X5_close_7 at hf
  refine lv_aload_n hx hb dX5_close_7 rfl (lv_at hl 0 rfl) ?_
  refine lv_iconst (v := 2) hx hb dX5_close_8 (by decide) ?_
  refine lv_aload_n hx hb dX5_close_9 rfl (lv_at hl 0 rfl) ?_
  refine va_get (D := D) (ci := 5) (v := .ref (q 26)) (C := RX5) (T := TX5) (N := 19) hx hb (hwX5 hE) (fun _ h => h) hown hK hP 23 rfl rfl 3 (by decide) (hE _ fl_X5_17 rfl _) (fun _ h9 => h9) rfl dX5_close_10 ?_
  refine lv_aload_n hx hb dX5_close_13 rfl (lv_at hl 0 rfl) ?_
  refine va_get (D := D) (ci := 5) (v := .ref (q 35)) (C := RX5) (T := TX5) (N := 19) hx hb (hwX5 hE) (fun _ h => h) hown hK hP 23 rfl rfl 14 (by decide) (hE _ fl_X5_44 rfl _) (fun _ h9 => h9) rfl dX5_close_14 ?_
  refine lv_iload_n hx hb dX5_close_17 rfl (lv_at hl 1 rfl) ?_
  obtain ⟨hin, hf⟩ := xguard hf
  refine va_iald hx hb hK hP 35 0 rfl rfl hin dX5_close_18 ?_
  obtain ⟨hin, hf⟩ := xguard hf
  refine va_iald hx hb hK hP 26 0 rfl rfl hin dX5_close_19 ?_
  refine lv_aload_n hx hb dX5_close_20 rfl (lv_at hl 0 rfl) ?_
  refine va_get (D := D) (ci := 5) (v := .ref (q 35)) (C := RX5) (T := TX5) (N := 19) hx hb (hwX5 hE) (fun _ h => h) hown hK hP 23 rfl rfl 14 (by decide) (hE _ fl_X5_44 rfl _) (fun _ h9 => h9) rfl dX5_close_21 ?_
  refine lv_iload_n hx hb dX5_close_24 rfl (lv_at hl 1 rfl) ?_
  obtain ⟨hin, hf⟩ := xguard hf
  refine va_iald hx hb hK hP 35 0 rfl rfl hin dX5_close_25 ?_
  refine lv_aload_n hx hb dX5_close_26 rfl (lv_at hl 0 rfl) ?_
  refine va_get (D := D) (ci := 5) (v := .ref (q 36)) (C := RX5) (T := TX5) (N := 19) hx hb (hwX5 hE) (fun _ h => h) hown hK hP 23 rfl rfl 15 (by decide) (hE _ fl_X5_47 rfl _) (fun _ h9 => h9) rfl dX5_close_27 ?_
  refine lv_iload_n hx hb dX5_close_30 rfl (lv_at hl 1 rfl) ?_
  obtain ⟨hin, hf⟩ := xguard hf
  refine va_iald hx hb hK hP 36 0 rfl rfl hin dX5_close_31 ?_
  obtain ⟨z32, hN, hf⟩ := xbind hf
  refine xgo_m (v := none) (a1 := a) (b1 := z32) (xrunV (C := RX5) (As := [.int 2, .int (b.1 2 (b.1 11 v1.toNatClampNeg).toNatClampNeg), .int (b.1 11 v1.toNatClampNeg), .int (b.1 12 v1.toNatClampNeg)]) (rest := []) (xfixm fx_X5_note hx hb hml hown (by decide) (by decide) (by decide) (by decide)) hE ml_X5_97 wi_X5_note wz_X5_note wc_X5_note wn_X5 (c_X5_note l D q k _ a b o 2 (b.1 2 (b.1 11 v1.toNatClampNeg).toNatClampNeg) (b.1 11 v1.toNatClampNeg) (b.1 12 v1.toNatClampNeg) _ hN) (va_recv (q := (RX5, TX5, 19)) (ci := 5) (q0 := 23) hK hP rfl rfl) (xprem hP hD hG) rfl rfl hl.1 rfl (lv_room (Nat.le_of_ble_eq_true rfl)) dX5_close_32) hD hS hA (fun H locs hP hD hS => ?_)
  cases hf
  exact xretm_v hx hb hr hlocks hP hS dX5_close_35
noncomputable def g_X5_close_0  (b : xT) (v1 : Int32) : Option (xT) := (if xin v1 40 = true then g_X5_close_7  (xs b 13 v1.toNatClampNeg (vp_nar .boolean 0)) v1 else none)
set_option maxHeartbeats 4000000 in
set_option maxRecDepth 100000 in
theorem t_X5_close_0 {p : Program} {l : Launch} {e : Env} {s : State} {m : MethodId} {args : Array Value} {below : List Frame} {meth : Method} {c : Code} {D : va_G} {q : Nat → Nat} {k : Nat → ClassId} {a b : xT} {o : Nat → Int64} {z : xT} {y : xT} (C : xCx p s m meth c cX5_close 2 none RX5 D k) {H : Heap} {locs : List Loc} (hP : va_P D vwCl (xw q k a b o) H) (hD : va_D (va_A (xw q k a z o) s.heap.size) (xw q k a b o)) (hS : va_S (va_A (xw q k a z o) s.heap.size) s.heap H locs)  {v1 : Int32} {ls : Array Slot} (hl : lv_has ls 2 [(0, .ref (q 23)), (1, .int v1)]) (hf : g_X5_close_0  b v1 = some y) : W p l e r_X5_close s m args below meth c H locs 0 0 (xMQ below (xQm D q k a z o (.inr (none, a, y))) args s 0 0 (va_A (xw q k a z o) s.heap.size)) (F0 m 0 ls []) := by
  obtain ⟨hx, hb, hml, hr, hlocks, hown, hno, hG⟩ := C
  have hK := hG.1
  have hE := hG.2.1
  have hA : ∀ u, s.heap.size ≤ u → va_A (xw q k a z o) s.heap.size u := fun u h => Or.inr h
  unfold g_X5_close_0 at hf
  refine lv_aload_n hx hb dX5_close_0 rfl (lv_at hl 0 rfl) ?_
  refine va_get (D := D) (ci := 5) (v := .ref (q 37)) (C := RX5) (T := TX5) (N := 19) hx hb (hwX5 hE) (fun _ h => h) hown hK hP 23 rfl rfl 16 (by decide) (hE _ fl_X5_50 rfl _) (fun _ h9 => h9) rfl dX5_close_1 ?_
  refine lv_iload_n hx hb dX5_close_4 rfl (lv_at hl 1 rfl) ?_
  refine lv_iconst (v := 0) hx hb dX5_close_5 (by decide) ?_
  obtain ⟨hin, hf⟩ := xguard hf
  refine va_zast hx hb hK hP hD hS 37 1 rfl rfl hin dX5_close_6 (fun H locs hP hD hS => ?_)
  rw [xw_s37] at hP hD
  exact t_X5_close_7 ⟨hx, hb, hml, hr, hlocks, hown, hno, hG⟩ hP hD hS  (lv_sub hl [0, 1] rfl) hf
noncomputable def f_X5_close (b : xT) (v1 : Int32) : Option (xT) := g_X5_close_0 b v1
set_option maxHeartbeats 4000000 in
set_option maxRecDepth 100000 in
theorem c_X5_close (l : Launch) (D : va_G) (q : Nat → Nat) (k : Nat → ClassId) (sz : Nat) (a b : xT) (o : Nat → Int64) (v1 : Int32) (y : xT) (hf : f_X5_close b v1 = some y) : xMet l yX5_close (.code yX5_close cX5_close 2 none) r_X5_close (xPcm D q k sz a b o [.ref (q 23), .int v1]) (xQm D q k a b o (.inr (none, a, y))) 0 0 (va_A (xw q k a b o) sz) := by
  refine xMet.ofW (by decide) ?_
  intro p e s m args below meth c hx hb hml hr hlocks hnm hme hno hv
  obtain ⟨rfl, hsz, hP, hD, hG⟩ := hv
  subst hsz
  have hown : s.vm.findClass RX5 = some m.cls := findClass_of_methodNamed hnm
  have hl := lv_entry ([.ref (q 23), .int v1]) (n := 2) (Nat.le_of_ble_eq_true rfl)
  rw [lg_entry_eq]
  generalize (lg_sl ([.ref (q 23), .int v1]) ++ List.replicate (2 - (lg_sl ([.ref (q 23), .int v1])).length) Slot.unset).toArray = ls at hl ⊢
  have hl : lv_has ls 2 [(0, .ref (q 23)), (1, .int v1)] := hl
  have hD := hD.self (sz := s.heap.size)
  exact t_X5_close_0 ⟨hx, hb, hml, hr, hlocks, hown, hno, hG⟩ hP hD va_S.rf hl hf
abbrev r_X5_isGap : Room := { frames := 0, cells := 0, slots := 0, locals := 0 }
noncomputable def g_X5_isGap_52  (b : xT) (s0 : Int32) : Option (Int32) := (if xzb s0 = true then some s0 else none)
set_option maxHeartbeats 4000000 in
set_option maxRecDepth 100000 in
theorem t_X5_isGap_52 {p : Program} {l : Launch} {e : Env} {s : State} {m : MethodId} {args : Array Value} {below : List Frame} {meth : Method} {c : Code} {D : va_G} {q : Nat → Nat} {k : Nat → ClassId} {a b : xT} {o : Nat → Int64} {y : Int32} (C : xCx p s m meth c cX5_isGap 3 (some .boolean) RX5 D k) (hP : va_P D vwCl (xw q k a b o) s.heap) (hD : va_D (fun _ => True) (xw q k a b o))  {s0 : Int32} {ls : Array Slot} (hl : lv_has ls 3 []) (hf : g_X5_isGap_52  b s0 = some y) : W p l e r_X5_isGap s m args below meth c s.heap [] 0 0 (xMQ below (xQr (.inr (some (.int y)))) args s (xmc (.inr (some (.int y)))) (xms (.inr (some (.int y)))) (fun _ => False)) (F0 m 52 ls [.int s0]) := by
  obtain ⟨hx, hb, hml, hr, hlocks, hown, hno, hG⟩ := C
  have hK := hG.1
  have hE := hG.2.1
  unfold g_X5_isGap_52 at hf
  obtain ⟨hz, hf⟩ := xguz hf
  cases hf
  exact xret_z hx hb hr hz hlocks dX5_isGap_52
noncomputable def g_X5_isGap_51  (b : xT)  : Option (Int32) := g_X5_isGap_52  b 0
set_option maxHeartbeats 4000000 in
set_option maxRecDepth 100000 in
theorem t_X5_isGap_51 {p : Program} {l : Launch} {e : Env} {s : State} {m : MethodId} {args : Array Value} {below : List Frame} {meth : Method} {c : Code} {D : va_G} {q : Nat → Nat} {k : Nat → ClassId} {a b : xT} {o : Nat → Int64} {y : Int32} (C : xCx p s m meth c cX5_isGap 3 (some .boolean) RX5 D k) (hP : va_P D vwCl (xw q k a b o) s.heap) (hD : va_D (fun _ => True) (xw q k a b o))  {ls : Array Slot} (hl : lv_has ls 3 []) (hf : g_X5_isGap_51  b  = some y) : W p l e r_X5_isGap s m args below meth c s.heap [] 0 0 (xMQ below (xQr (.inr (some (.int y)))) args s (xmc (.inr (some (.int y)))) (xms (.inr (some (.int y)))) (fun _ => False)) (F0 m 51 ls []) := by
  obtain ⟨hx, hb, hml, hr, hlocks, hown, hno, hG⟩ := C
  have hK := hG.1
  have hE := hG.2.1
  unfold g_X5_isGap_51 at hf
  refine lv_iconst (v := 0) hx hb dX5_isGap_51 (by decide) ?_
  exact t_X5_isGap_52 ⟨hx, hb, hml, hr, hlocks, hown, hno, hG⟩ hP hD  (lv_sub hl [] rfl) hf
noncomputable def g_X5_isGap_0  (b : xT) (v1 : Int32) (v2 : Int32) : Option (Int32) := (if xin v1 240 = true then (if (b.1 0 v1.toNatClampNeg) = 0 then g_X5_isGap_51  b  else (if xin v1 240 = true then (if 0 ≤ (b.1 2 v1.toNatClampNeg) then g_X5_isGap_51  b  else (if xin v2 60 = true then (if (b.1 6 v2.toNatClampNeg) ≤ v1 then g_X5_isGap_51  b  else (if xin v2 60 = true then (if (b.1 8 v2.toNatClampNeg) = 0 then (if xin v2 60 = true then (if v1 < (b.1 5 v2.toNatClampNeg) then g_X5_isGap_51  b  else g_X5_isGap_52  b 1) else none) else g_X5_isGap_51  b ) else none)) else none)) else none)) else none)
set_option maxHeartbeats 4000000 in
set_option maxRecDepth 100000 in
theorem t_X5_isGap_0 {p : Program} {l : Launch} {e : Env} {s : State} {m : MethodId} {args : Array Value} {below : List Frame} {meth : Method} {c : Code} {D : va_G} {q : Nat → Nat} {k : Nat → ClassId} {a b : xT} {o : Nat → Int64} {y : Int32} (C : xCx p s m meth c cX5_isGap 3 (some .boolean) RX5 D k) (hP : va_P D vwCl (xw q k a b o) s.heap) (hD : va_D (fun _ => True) (xw q k a b o))  {v1 v2 : Int32} {ls : Array Slot} (hl : lv_has ls 3 [(0, .ref (q 23)), (1, .int v1), (2, .int v2)]) (hf : g_X5_isGap_0  b v1 v2 = some y) : W p l e r_X5_isGap s m args below meth c s.heap [] 0 0 (xMQ below (xQr (.inr (some (.int y)))) args s (xmc (.inr (some (.int y)))) (xms (.inr (some (.int y)))) (fun _ => False)) (F0 m 0 ls []) := by
  obtain ⟨hx, hb, hml, hr, hlocks, hown, hno, hG⟩ := C
  have hK := hG.1
  have hE := hG.2.1
  unfold g_X5_isGap_0 at hf
  refine lv_aload_n hx hb dX5_isGap_0 rfl (lv_at hl 0 rfl) ?_
  refine va_get (D := D) (ci := 5) (v := .ref (q 24)) (C := RX5) (T := TX5) (N := 19) hx hb (hwX5 hE) (fun _ h => h) hown hK hP 23 rfl rfl 1 (by decide) (hE _ fl_X5_7 rfl _) (fun _ h9 => h9) rfl dX5_isGap_1 ?_
  refine lv_iload_n hx hb dX5_isGap_4 rfl (lv_at hl 1 rfl) ?_
  obtain ⟨hin, hf⟩ := xguard hf
  refine va_zald hx hb hK hP 24 1 rfl rfl hin dX5_isGap_5 ?_
  refine lv_if_eq hx hb dX5_isGap_6 rfl (fun hc => ?_) (fun hc => ?_)
  · rw [if_pos hc] at hf
    exact t_X5_isGap_51 ⟨hx, hb, hml, hr, hlocks, hown, hno, hG⟩ hP hD  (lv_sub hl [] rfl) hf
  · rw [if_neg hc] at hf
    refine lv_aload_n hx hb dX5_isGap_9 rfl (lv_at hl 0 rfl) ?_
    refine va_get (D := D) (ci := 5) (v := .ref (q 26)) (C := RX5) (T := TX5) (N := 19) hx hb (hwX5 hE) (fun _ h => h) hown hK hP 23 rfl rfl 3 (by decide) (hE _ fl_X5_17 rfl _) (fun _ h9 => h9) rfl dX5_isGap_10 ?_
    refine lv_iload_n hx hb dX5_isGap_13 rfl (lv_at hl 1 rfl) ?_
    obtain ⟨hin, hf⟩ := xguard hf
    refine va_iald hx hb hK hP 26 0 rfl rfl hin dX5_isGap_14 ?_
    refine lv_if_ge hx hb dX5_isGap_15 rfl (fun hc => ?_) (fun hc => ?_)
    · rw [if_pos hc] at hf
      exact t_X5_isGap_51 ⟨hx, hb, hml, hr, hlocks, hown, hno, hG⟩ hP hD  (lv_sub hl [] rfl) hf
    · rw [if_neg hc] at hf
      refine lv_aload_n hx hb dX5_isGap_18 rfl (lv_at hl 0 rfl) ?_
      refine va_get (D := D) (ci := 5) (v := .ref (q 30)) (C := RX5) (T := TX5) (N := 19) hx hb (hwX5 hE) (fun _ h => h) hown hK hP 23 rfl rfl 8 (by decide) (hE _ fl_X5_29 rfl _) (fun _ h9 => h9) rfl dX5_isGap_19 ?_
      refine lv_iload_n hx hb dX5_isGap_22 rfl (lv_at hl 2 rfl) ?_
      obtain ⟨hin, hf⟩ := xguard hf
      refine va_iald hx hb hK hP 30 0 rfl rfl hin dX5_isGap_23 ?_
      refine lv_iload_n hx hb dX5_isGap_24 rfl (lv_at hl 1 rfl) ?_
      refine lv_icmp_le hx hb dX5_isGap_25 rfl (fun hc => ?_) (fun hc => ?_)
      · rw [if_pos hc] at hf
        exact t_X5_isGap_51 ⟨hx, hb, hml, hr, hlocks, hown, hno, hG⟩ hP hD  (lv_sub hl [] rfl) hf
      · rw [if_neg hc] at hf
        refine lv_aload_n hx hb dX5_isGap_28 rfl (lv_at hl 0 rfl) ?_
        refine va_get (D := D) (ci := 5) (v := .ref (q 32)) (C := RX5) (T := TX5) (N := 19) hx hb (hwX5 hE) (fun _ h => h) hown hK hP 23 rfl rfl 10 (by decide) (hE _ fl_X5_35 rfl _) (fun _ h9 => h9) rfl dX5_isGap_29 ?_
        refine lv_iload_n hx hb dX5_isGap_32 rfl (lv_at hl 2 rfl) ?_
        obtain ⟨hin, hf⟩ := xguard hf
        refine va_zald hx hb hK hP 32 1 rfl rfl hin dX5_isGap_33 ?_
        refine lv_if_ne hx hb dX5_isGap_34 rfl (fun hc => ?_) (fun hc => ?_)
        · rw [if_neg hc] at hf
          exact t_X5_isGap_51 ⟨hx, hb, hml, hr, hlocks, hown, hno, hG⟩ hP hD  (lv_sub hl [] rfl) hf
        · rw [if_pos hc] at hf
          refine lv_iload_n hx hb dX5_isGap_37 rfl (lv_at hl 1 rfl) ?_
          refine lv_aload_n hx hb dX5_isGap_38 rfl (lv_at hl 0 rfl) ?_
          refine va_get (D := D) (ci := 5) (v := .ref (q 29)) (C := RX5) (T := TX5) (N := 19) hx hb (hwX5 hE) (fun _ h => h) hown hK hP 23 rfl rfl 7 (by decide) (hE _ fl_X5_26 rfl _) (fun _ h9 => h9) rfl dX5_isGap_39 ?_
          refine lv_iload_n hx hb dX5_isGap_42 rfl (lv_at hl 2 rfl) ?_
          obtain ⟨hin, hf⟩ := xguard hf
          refine va_iald hx hb hK hP 29 0 rfl rfl hin dX5_isGap_43 ?_
          refine lv_icmp_lt hx hb dX5_isGap_44 rfl (fun hc => ?_) (fun hc => ?_)
          · rw [if_pos hc] at hf
            exact t_X5_isGap_51 ⟨hx, hb, hml, hr, hlocks, hown, hno, hG⟩ hP hD  (lv_sub hl [] rfl) hf
          · rw [if_neg hc] at hf
            refine lv_iconst (v := 1) hx hb dX5_isGap_47 (by decide) ?_
            refine lv_goto hx hb dX5_isGap_48 rfl ?_
            exact t_X5_isGap_52 ⟨hx, hb, hml, hr, hlocks, hown, hno, hG⟩ hP hD  (lv_sub hl [] rfl) hf
noncomputable def f_X5_isGap (b : xT) (v1 : Int32) (v2 : Int32) : Option (Int32) := g_X5_isGap_0 b v1 v2
set_option maxHeartbeats 4000000 in
set_option maxRecDepth 100000 in
theorem c_X5_isGap (l : Launch) (D : va_G) (q : Nat → Nat) (k : Nat → ClassId) (a b : xT) (o : Nat → Int64) (v1 : Int32) (v2 : Int32) (y : Int32) (hf : f_X5_isGap b v1 v2 = some y) : xMet l yX5_isGap (.code yX5_isGap cX5_isGap 3 (some .boolean)) r_X5_isGap (xPc D q k a b o [.ref (q 23), .int v1, .int v2]) (xQr (.inr (some (.int y)))) (xmc (.inr (some (.int y)))) (xms (.inr (some (.int y)))) (fun _ => False) := by
  refine xMet.ofW (by decide) ?_
  intro p e s m args below meth c hx hb hml hr hlocks hnm hme hno hv
  obtain ⟨rfl, hP, hD, hG⟩ := hv
  have hown : s.vm.findClass RX5 = some m.cls := findClass_of_methodNamed hnm
  have hl := lv_entry ([.ref (q 23), .int v1, .int v2]) (n := 3) (Nat.le_of_ble_eq_true rfl)
  rw [lg_entry_eq]
  generalize (lg_sl ([.ref (q 23), .int v1, .int v2]) ++ List.replicate (3 - (lg_sl ([.ref (q 23), .int v1, .int v2])).length) Slot.unset).toArray = ls at hl ⊢
  have hl : lv_has ls 3 [(0, .ref (q 23)), (1, .int v1), (2, .int v2)] := hl
  exact t_X5_isGap_0 ⟨hx, hb, hml, hr, hlocks, hown, hno, hG⟩ hP hD hl hf
abbrev r_X5_follower : Room := { frames := 1, cells := 0, slots := 0, locals := 22 }
noncomputable def g_X5_follower_78 (K5 : Int32 → Int32 → Int32 → Int32 → Option (Int32)) (b : xT) (v1 : Int32) (v2 : Int32) (v4 : Int32) (s0 : Int32) : Option (Int32) := K5 v1 v2 s0 (v4 + 1)
set_option maxHeartbeats 4000000 in
set_option maxRecDepth 100000 in
theorem t_X5_follower_78 {p : Program} {l : Launch} {e : Env} {s : State} {m : MethodId} {args : Array Value} {below : List Frame} {meth : Method} {c : Code} {D : va_G} {q : Nat → Nat} {k : Nat → ClassId} {a b : xT} {o : Nat → Int64} {y : Int32} (C : xCx p s m meth c cX5_follower 6 (some .int) RX5 D k) (hP : va_P D vwCl (xw q k a b o) s.heap) (hD : va_D (fun _ => True) (xw q k a b o)) {K5 : Int32 → Int32 → Int32 → Int32 → Option (Int32)} (hK5 : ∀ {v1 v2 v3 v4 : Int32} {ls : Array Slot}, lv_has ls 6 [(0, .ref (q 23)), (1, .int v1), (2, .int v2), (3, .int v3), (4, .int v4)] → K5 v1 v2 v3 v4 = some y → W p l e r_X5_follower s m args below meth c s.heap [] 0 0 (xMQ below (xQr (.inr (some (.int y)))) args s (xmc (.inr (some (.int y)))) (xms (.inr (some (.int y)))) (fun _ => False)) (F0 m 5 ls [])) {v1 v2 v4 s0 : Int32} {ls : Array Slot} (hl : lv_has ls 6 [(0, .ref (q 23)), (1, .int v1), (2, .int v2), (4, .int v4)]) (hf : g_X5_follower_78 K5 b v1 v2 v4 s0 = some y) : W p l e r_X5_follower s m args below meth c s.heap [] 0 0 (xMQ below (xQr (.inr (some (.int y)))) args s (xmc (.inr (some (.int y)))) (xms (.inr (some (.int y)))) (fun _ => False)) (F0 m 78 ls [.int s0]) := by
  obtain ⟨hx, hb, hml, hr, hlocks, hown, hno, hG⟩ := C
  have hK := hG.1
  have hE := hG.2.1
  unfold g_X5_follower_78 at hf
  refine lv_istore_n (lv' := [(3, .int s0), (0, .ref (q 23)), (1, .int v1), (2, .int v2), (4, .int v4)]) hx hb dX5_follower_78 rfl hl (by decide) rfl (fun ls hl => ?_)
  refine lv_iinc (k := 4) (v := v4 + 1) (lv' := [(4, .int (v4 + 1)), (3, .int s0), (0, .ref (q 23)), (1, .int v1), (2, .int v2)]) hx hb dX5_follower_79 hl rfl (xinc (by decide) _) (by decide) rfl (fun ls hl => ?_)
  refine lv_goto hx hb dX5_follower_82 rfl ?_
  exact hK5 (lv_sub hl [2, 3, 4, 1, 0] rfl) hf
noncomputable def g_X5_follower_77 (K5 : Int32 → Int32 → Int32 → Int32 → Option (Int32)) (b : xT) (v1 : Int32) (v2 : Int32) (v3 : Int32) (v4 : Int32) : Option (Int32) := g_X5_follower_78 K5 b v1 v2 v4 v3
set_option maxHeartbeats 4000000 in
set_option maxRecDepth 100000 in
theorem t_X5_follower_77 {p : Program} {l : Launch} {e : Env} {s : State} {m : MethodId} {args : Array Value} {below : List Frame} {meth : Method} {c : Code} {D : va_G} {q : Nat → Nat} {k : Nat → ClassId} {a b : xT} {o : Nat → Int64} {y : Int32} (C : xCx p s m meth c cX5_follower 6 (some .int) RX5 D k) (hP : va_P D vwCl (xw q k a b o) s.heap) (hD : va_D (fun _ => True) (xw q k a b o)) {K5 : Int32 → Int32 → Int32 → Int32 → Option (Int32)} (hK5 : ∀ {v1 v2 v3 v4 : Int32} {ls : Array Slot}, lv_has ls 6 [(0, .ref (q 23)), (1, .int v1), (2, .int v2), (3, .int v3), (4, .int v4)] → K5 v1 v2 v3 v4 = some y → W p l e r_X5_follower s m args below meth c s.heap [] 0 0 (xMQ below (xQr (.inr (some (.int y)))) args s (xmc (.inr (some (.int y)))) (xms (.inr (some (.int y)))) (fun _ => False)) (F0 m 5 ls [])) {v1 v2 v3 v4 : Int32} {ls : Array Slot} (hl : lv_has ls 6 [(0, .ref (q 23)), (1, .int v1), (2, .int v2), (3, .int v3), (4, .int v4)]) (hf : g_X5_follower_77 K5 b v1 v2 v3 v4 = some y) : W p l e r_X5_follower s m args below meth c s.heap [] 0 0 (xMQ below (xQr (.inr (some (.int y)))) args s (xmc (.inr (some (.int y)))) (xms (.inr (some (.int y)))) (fun _ => False)) (F0 m 77 ls []) := by
  obtain ⟨hx, hb, hml, hr, hlocks, hown, hno, hG⟩ := C
  have hK := hG.1
  have hE := hG.2.1
  unfold g_X5_follower_77 at hf
  refine lv_iload_n hx hb dX5_follower_77 rfl (lv_at hl 3 rfl) ?_
  exact t_X5_follower_78 ⟨hx, hb, hml, hr, hlocks, hown, hno, hG⟩ hP hD hK5 (lv_sub hl [0, 1, 2, 4] rfl) hf
noncomputable def g_X5_follower_72 (K5 : Int32 → Int32 → Int32 → Int32 → Option (Int32)) (b : xT) (v1 : Int32) (v2 : Int32) (v4 : Int32) : Option (Int32) := g_X5_follower_78 K5 b v1 v2 v4 v4
set_option maxHeartbeats 4000000 in
set_option maxRecDepth 100000 in
theorem t_X5_follower_72 {p : Program} {l : Launch} {e : Env} {s : State} {m : MethodId} {args : Array Value} {below : List Frame} {meth : Method} {c : Code} {D : va_G} {q : Nat → Nat} {k : Nat → ClassId} {a b : xT} {o : Nat → Int64} {y : Int32} (C : xCx p s m meth c cX5_follower 6 (some .int) RX5 D k) (hP : va_P D vwCl (xw q k a b o) s.heap) (hD : va_D (fun _ => True) (xw q k a b o)) {K5 : Int32 → Int32 → Int32 → Int32 → Option (Int32)} (hK5 : ∀ {v1 v2 v3 v4 : Int32} {ls : Array Slot}, lv_has ls 6 [(0, .ref (q 23)), (1, .int v1), (2, .int v2), (3, .int v3), (4, .int v4)] → K5 v1 v2 v3 v4 = some y → W p l e r_X5_follower s m args below meth c s.heap [] 0 0 (xMQ below (xQr (.inr (some (.int y)))) args s (xmc (.inr (some (.int y)))) (xms (.inr (some (.int y)))) (fun _ => False)) (F0 m 5 ls [])) {v1 v2 v4 : Int32} {ls : Array Slot} (hl : lv_has ls 6 [(0, .ref (q 23)), (1, .int v1), (2, .int v2), (4, .int v4)]) (hf : g_X5_follower_72 K5 b v1 v2 v4 = some y) : W p l e r_X5_follower s m args below meth c s.heap [] 0 0 (xMQ below (xQr (.inr (some (.int y)))) args s (xmc (.inr (some (.int y)))) (xms (.inr (some (.int y)))) (fun _ => False)) (F0 m 72 ls []) := by
  obtain ⟨hx, hb, hml, hr, hlocks, hown, hno, hG⟩ := C
  have hK := hG.1
  have hE := hG.2.1
  unfold g_X5_follower_72 at hf
  refine lv_iload hx hb dX5_follower_72 (lv_at hl 3 rfl) ?_
  refine lv_goto hx hb dX5_follower_74 rfl ?_
  exact t_X5_follower_78 ⟨hx, hb, hml, hr, hlocks, hown, hno, hG⟩ hP hD hK5 (lv_sub hl [0, 1, 2, 3] rfl) hf
noncomputable def g_X5_follower_45 (K5 : Int32 → Int32 → Int32 → Int32 → Option (Int32)) (b : xT) (v1 : Int32) (v2 : Int32) (v3 : Int32) (v4 : Int32) (s0 : Int32) : Option (Int32) := (if s0 = 0 then g_X5_follower_77 K5 b v1 v2 v3 v4 else (if v3 < 0 then g_X5_follower_72 K5 b v1 v2 v4 else (if xin v4 60 = true then (if xin v3 60 = true then (if (b.1 6 v3.toNatClampNeg) ≤ (b.1 6 v4.toNatClampNeg) then g_X5_follower_77 K5 b v1 v2 v3 v4 else g_X5_follower_72 K5 b v1 v2 v4) else none) else none)))
set_option maxHeartbeats 4000000 in
set_option maxRecDepth 100000 in
theorem t_X5_follower_45 {p : Program} {l : Launch} {e : Env} {s : State} {m : MethodId} {args : Array Value} {below : List Frame} {meth : Method} {c : Code} {D : va_G} {q : Nat → Nat} {k : Nat → ClassId} {a b : xT} {o : Nat → Int64} {y : Int32} (C : xCx p s m meth c cX5_follower 6 (some .int) RX5 D k) (hP : va_P D vwCl (xw q k a b o) s.heap) (hD : va_D (fun _ => True) (xw q k a b o)) {K5 : Int32 → Int32 → Int32 → Int32 → Option (Int32)} (hK5 : ∀ {v1 v2 v3 v4 : Int32} {ls : Array Slot}, lv_has ls 6 [(0, .ref (q 23)), (1, .int v1), (2, .int v2), (3, .int v3), (4, .int v4)] → K5 v1 v2 v3 v4 = some y → W p l e r_X5_follower s m args below meth c s.heap [] 0 0 (xMQ below (xQr (.inr (some (.int y)))) args s (xmc (.inr (some (.int y)))) (xms (.inr (some (.int y)))) (fun _ => False)) (F0 m 5 ls [])) {v1 v2 v3 v4 s0 : Int32} {ls : Array Slot} (hl : lv_has ls 6 [(0, .ref (q 23)), (1, .int v1), (2, .int v2), (3, .int v3), (4, .int v4)]) (hf : g_X5_follower_45 K5 b v1 v2 v3 v4 s0 = some y) : W p l e r_X5_follower s m args below meth c s.heap [] 0 0 (xMQ below (xQr (.inr (some (.int y)))) args s (xmc (.inr (some (.int y)))) (xms (.inr (some (.int y)))) (fun _ => False)) (F0 m 45 ls [.int s0]) := by
  obtain ⟨hx, hb, hml, hr, hlocks, hown, hno, hG⟩ := C
  have hK := hG.1
  have hE := hG.2.1
  unfold g_X5_follower_45 at hf
  refine lv_istore (lv' := [(5, .int s0), (0, .ref (q 23)), (1, .int v1), (2, .int v2), (3, .int v3), (4, .int v4)]) hx hb dX5_follower_45 hl (by decide) rfl (fun ls hl => ?_)
  refine lv_iload hx hb dX5_follower_47 (lv_at hl 0 rfl) ?_
  refine lv_if_eq hx hb dX5_follower_49 rfl (fun hc => ?_) (fun hc => ?_)
  · rw [if_pos hc] at hf
    exact t_X5_follower_77 ⟨hx, hb, hml, hr, hlocks, hown, hno, hG⟩ hP hD hK5 (lv_sub hl [1, 2, 3, 4, 5] rfl) hf
  · rw [if_neg hc] at hf
    refine lv_iload_n hx hb dX5_follower_52 rfl (lv_at hl 4 rfl) ?_
    refine lv_if_lt hx hb dX5_follower_53 rfl (fun hc => ?_) (fun hc => ?_)
    · rw [if_pos hc] at hf
      exact t_X5_follower_72 ⟨hx, hb, hml, hr, hlocks, hown, hno, hG⟩ hP hD hK5 (lv_sub hl [1, 2, 3, 5] rfl) hf
    · rw [if_neg hc] at hf
      refine lv_aload_n hx hb dX5_follower_56 rfl (lv_at hl 1 rfl) ?_
      refine va_get (D := D) (ci := 5) (v := .ref (q 30)) (C := RX5) (T := TX5) (N := 19) hx hb (hwX5 hE) (fun _ h => h) hown hK hP 23 rfl rfl 8 (by decide) (hE _ fl_X5_29 rfl _) (fun _ h9 => h9) rfl dX5_follower_57 ?_
      refine lv_iload hx hb dX5_follower_60 (lv_at hl 5 rfl) ?_
      obtain ⟨hin, hf⟩ := xguard hf
      refine va_iald hx hb hK hP 30 0 rfl rfl hin dX5_follower_62 ?_
      refine lv_aload_n hx hb dX5_follower_63 rfl (lv_at hl 1 rfl) ?_
      refine va_get (D := D) (ci := 5) (v := .ref (q 30)) (C := RX5) (T := TX5) (N := 19) hx hb (hwX5 hE) (fun _ h => h) hown hK hP 23 rfl rfl 8 (by decide) (hE _ fl_X5_29 rfl _) (fun _ h9 => h9) rfl dX5_follower_64 ?_
      refine lv_iload_n hx hb dX5_follower_67 rfl (lv_at hl 4 rfl) ?_
      obtain ⟨hin, hf⟩ := xguard hf
      refine va_iald hx hb hK hP 30 0 rfl rfl hin dX5_follower_68 ?_
      refine lv_icmp_ge hx hb dX5_follower_69 rfl (fun hc => ?_) (fun hc => ?_)
      · rw [if_pos hc] at hf
        exact t_X5_follower_77 ⟨hx, hb, hml, hr, hlocks, hown, hno, hG⟩ hP hD hK5 (lv_sub hl [1, 2, 3, 4, 5] rfl) hf
      · rw [if_neg hc] at hf
        exact t_X5_follower_72 ⟨hx, hb, hml, hr, hlocks, hown, hno, hG⟩ hP hD hK5 (lv_sub hl [1, 2, 3, 5] rfl) hf
noncomputable def g_X5_follower_44 (K5 : Int32 → Int32 → Int32 → Int32 → Option (Int32)) (b : xT) (v1 : Int32) (v2 : Int32) (v3 : Int32) (v4 : Int32) : Option (Int32) := g_X5_follower_45 K5 b v1 v2 v3 v4 0
set_option maxHeartbeats 4000000 in
set_option maxRecDepth 100000 in
theorem t_X5_follower_44 {p : Program} {l : Launch} {e : Env} {s : State} {m : MethodId} {args : Array Value} {below : List Frame} {meth : Method} {c : Code} {D : va_G} {q : Nat → Nat} {k : Nat → ClassId} {a b : xT} {o : Nat → Int64} {y : Int32} (C : xCx p s m meth c cX5_follower 6 (some .int) RX5 D k) (hP : va_P D vwCl (xw q k a b o) s.heap) (hD : va_D (fun _ => True) (xw q k a b o)) {K5 : Int32 → Int32 → Int32 → Int32 → Option (Int32)} (hK5 : ∀ {v1 v2 v3 v4 : Int32} {ls : Array Slot}, lv_has ls 6 [(0, .ref (q 23)), (1, .int v1), (2, .int v2), (3, .int v3), (4, .int v4)] → K5 v1 v2 v3 v4 = some y → W p l e r_X5_follower s m args below meth c s.heap [] 0 0 (xMQ below (xQr (.inr (some (.int y)))) args s (xmc (.inr (some (.int y)))) (xms (.inr (some (.int y)))) (fun _ => False)) (F0 m 5 ls [])) {v1 v2 v3 v4 : Int32} {ls : Array Slot} (hl : lv_has ls 6 [(0, .ref (q 23)), (1, .int v1), (2, .int v2), (3, .int v3), (4, .int v4)]) (hf : g_X5_follower_44 K5 b v1 v2 v3 v4 = some y) : W p l e r_X5_follower s m args below meth c s.heap [] 0 0 (xMQ below (xQr (.inr (some (.int y)))) args s (xmc (.inr (some (.int y)))) (xms (.inr (some (.int y)))) (fun _ => False)) (F0 m 44 ls []) := by
  obtain ⟨hx, hb, hml, hr, hlocks, hown, hno, hG⟩ := C
  have hK := hG.1
  have hE := hG.2.1
  unfold g_X5_follower_44 at hf
  refine lv_iconst (v := 0) hx hb dX5_follower_44 (by decide) ?_
  exact t_X5_follower_45 ⟨hx, hb, hml, hr, hlocks, hown, hno, hG⟩ hP hD hK5 (lv_sub hl [0, 1, 2, 3, 4] rfl) hf
noncomputable def g_X5_follower_40 (K5 : Int32 → Int32 → Int32 → Int32 → Option (Int32)) (b : xT) (v1 : Int32) (v2 : Int32) (v3 : Int32) (v4 : Int32) : Option (Int32) := g_X5_follower_45 K5 b v1 v2 v3 v4 1
set_option maxHeartbeats 4000000 in
set_option maxRecDepth 100000 in
theorem t_X5_follower_40 {p : Program} {l : Launch} {e : Env} {s : State} {m : MethodId} {args : Array Value} {below : List Frame} {meth : Method} {c : Code} {D : va_G} {q : Nat → Nat} {k : Nat → ClassId} {a b : xT} {o : Nat → Int64} {y : Int32} (C : xCx p s m meth c cX5_follower 6 (some .int) RX5 D k) (hP : va_P D vwCl (xw q k a b o) s.heap) (hD : va_D (fun _ => True) (xw q k a b o)) {K5 : Int32 → Int32 → Int32 → Int32 → Option (Int32)} (hK5 : ∀ {v1 v2 v3 v4 : Int32} {ls : Array Slot}, lv_has ls 6 [(0, .ref (q 23)), (1, .int v1), (2, .int v2), (3, .int v3), (4, .int v4)] → K5 v1 v2 v3 v4 = some y → W p l e r_X5_follower s m args below meth c s.heap [] 0 0 (xMQ below (xQr (.inr (some (.int y)))) args s (xmc (.inr (some (.int y)))) (xms (.inr (some (.int y)))) (fun _ => False)) (F0 m 5 ls [])) {v1 v2 v3 v4 : Int32} {ls : Array Slot} (hl : lv_has ls 6 [(0, .ref (q 23)), (1, .int v1), (2, .int v2), (3, .int v3), (4, .int v4)]) (hf : g_X5_follower_40 K5 b v1 v2 v3 v4 = some y) : W p l e r_X5_follower s m args below meth c s.heap [] 0 0 (xMQ below (xQr (.inr (some (.int y)))) args s (xmc (.inr (some (.int y)))) (xms (.inr (some (.int y)))) (fun _ => False)) (F0 m 40 ls []) := by
  obtain ⟨hx, hb, hml, hr, hlocks, hown, hno, hG⟩ := C
  have hK := hG.1
  have hE := hG.2.1
  unfold g_X5_follower_40 at hf
  refine lv_iconst (v := 1) hx hb dX5_follower_40 (by decide) ?_
  refine lv_goto hx hb dX5_follower_41 rfl ?_
  exact t_X5_follower_45 ⟨hx, hb, hml, hr, hlocks, hown, hno, hG⟩ hP hD hK5 (lv_sub hl [0, 1, 2, 3, 4] rfl) hf
noncomputable def g_X5_follower_5s (K5 : Int32 → Int32 → Int32 → Int32 → Option (Int32)) (b : xT) (v1 : Int32) (v2 : Int32) (v3 : Int32) (v4 : Int32) : Option (Int32) := (if (b.2 1) ≤ v4 then some v3 else ((f_X5_isGap b v1 v4).bind fun r18 => (if r18 = 0 then g_X5_follower_44 K5 b v1 v2 v3 v4 else (if v2 = (-1) then g_X5_follower_40 K5 b v1 v2 v3 v4 else (if xin v4 60 = true then (if (b.1 3 v4.toNatClampNeg) = v2 then g_X5_follower_40 K5 b v1 v2 v3 v4 else g_X5_follower_44 K5 b v1 v2 v3 v4) else none)))))
set_option maxHeartbeats 4000000 in
set_option maxRecDepth 100000 in
theorem t_X5_follower_5s {p : Program} {l : Launch} {e : Env} {s : State} {m : MethodId} {args : Array Value} {below : List Frame} {meth : Method} {c : Code} {D : va_G} {q : Nat → Nat} {k : Nat → ClassId} {a b : xT} {o : Nat → Int64} {y : Int32} (C : xCx p s m meth c cX5_follower 6 (some .int) RX5 D k) (hP : va_P D vwCl (xw q k a b o) s.heap) (hD : va_D (fun _ => True) (xw q k a b o)) {K5 : Int32 → Int32 → Int32 → Int32 → Option (Int32)} (hK5 : ∀ {v1 v2 v3 v4 : Int32} {ls : Array Slot}, lv_has ls 6 [(0, .ref (q 23)), (1, .int v1), (2, .int v2), (3, .int v3), (4, .int v4)] → K5 v1 v2 v3 v4 = some y → W p l e r_X5_follower s m args below meth c s.heap [] 0 0 (xMQ below (xQr (.inr (some (.int y)))) args s (xmc (.inr (some (.int y)))) (xms (.inr (some (.int y)))) (fun _ => False)) (F0 m 5 ls [])) {v1 v2 v3 v4 : Int32} {ls : Array Slot} (hl : lv_has ls 6 [(0, .ref (q 23)), (1, .int v1), (2, .int v2), (3, .int v3), (4, .int v4)]) (hf : g_X5_follower_5s K5 b v1 v2 v3 v4 = some y) : W p l e r_X5_follower s m args below meth c s.heap [] 0 0 (xMQ below (xQr (.inr (some (.int y)))) args s (xmc (.inr (some (.int y)))) (xms (.inr (some (.int y)))) (fun _ => False)) (F0 m 5 ls []) := by
  obtain ⟨hx, hb, hml, hr, hlocks, hown, hno, hG⟩ := C
  have hK := hG.1
  have hE := hG.2.1
  unfold g_X5_follower_5s at hf
  refine lv_iload hx hb dX5_follower_5 (lv_at hl 4 rfl) ?_
  refine lv_aload_n hx hb dX5_follower_7 rfl (lv_at hl 0 rfl) ?_
  refine va_get (D := D) (ci := 5) (v := .int (b.2 1)) (C := RX5) (T := TX5) (N := 19) hx hb (hwX5 hE) (fun _ h => h) hown hK hP 23 rfl rfl 4 (by decide) (hE _ fl_X5_60 rfl _) (fun _ h9 => h9) rfl dX5_follower_8 ?_
  refine lv_icmp_ge hx hb dX5_follower_11 rfl (fun hc => ?_) (fun hc => ?_)
  · rw [if_pos hc] at hf
    refine lv_iload_n hx hb dX5_follower_85 rfl (lv_at hl 3 rfl) ?_
    cases hf
    exact xret_i hx hb hr hlocks dX5_follower_86
  · rw [if_neg hc] at hf
    refine lv_aload_n hx hb dX5_follower_14 rfl (lv_at hl 0 rfl) ?_
    refine lv_iload_n hx hb dX5_follower_15 rfl (lv_at hl 1 rfl) ?_
    refine lv_iload hx hb dX5_follower_16 (lv_at hl 4 rfl) ?_
    obtain ⟨r18, hN, hf⟩ := xbind hf
    refine xgo_r (v := some (.int r18)) (xrunV (C := RX5) (As := [.int v1, .int v4]) (rest := []) (xfixm fx_X5_isGap hx hb hml hown (by decide) (by decide) (by decide) (by decide)) hE ml_X5_121 wi_X5_isGap wz_X5_isGap wc_X5_isGap wn_X5 (c_X5_isGap l D q k a b o v1 v4 _ hN) (va_recv (q := (RX5, TX5, 19)) (ci := 5) (q0 := 23) hK hP rfl rfl) (xpre hP hD hG) rfl rfl hl.1 rfl (lv_room (Nat.le_of_ble_eq_true rfl)) dX5_follower_18) ?_
    refine lv_if_eq hx hb dX5_follower_21 rfl (fun hc => ?_) (fun hc => ?_)
    · rw [if_pos hc] at hf
      exact t_X5_follower_44 ⟨hx, hb, hml, hr, hlocks, hown, hno, hG⟩ hP hD hK5 (lv_sub hl [0, 1, 2, 3, 4] rfl) hf
    · rw [if_neg hc] at hf
      refine lv_iload_n hx hb dX5_follower_24 rfl (lv_at hl 2 rfl) ?_
      refine lv_iconst (v := -1) hx hb dX5_follower_25 (by decide) ?_
      refine lv_icmp_eq hx hb dX5_follower_26 rfl (fun hc => ?_) (fun hc => ?_)
      · rw [if_pos hc] at hf
        exact t_X5_follower_40 ⟨hx, hb, hml, hr, hlocks, hown, hno, hG⟩ hP hD hK5 (lv_sub hl [0, 1, 2, 3, 4] rfl) hf
      · rw [if_neg hc] at hf
        refine lv_aload_n hx hb dX5_follower_29 rfl (lv_at hl 0 rfl) ?_
        refine va_get (D := D) (ci := 5) (v := .ref (q 27)) (C := RX5) (T := TX5) (N := 19) hx hb (hwX5 hE) (fun _ h => h) hown hK hP 23 rfl rfl 5 (by decide) (hE _ fl_X5_20 rfl _) (fun _ h9 => h9) rfl dX5_follower_30 ?_
        refine lv_iload hx hb dX5_follower_33 (lv_at hl 4 rfl) ?_
        obtain ⟨hin, hf⟩ := xguard hf
        refine va_iald hx hb hK hP 27 0 rfl rfl hin dX5_follower_35 ?_
        refine lv_iload_n hx hb dX5_follower_36 rfl (lv_at hl 2 rfl) ?_
        refine lv_icmp_ne hx hb dX5_follower_37 rfl (fun hc => ?_) (fun hc => ?_)
        · rw [if_neg hc] at hf
          exact t_X5_follower_44 ⟨hx, hb, hml, hr, hlocks, hown, hno, hG⟩ hP hD hK5 (lv_sub hl [0, 1, 2, 3, 4] rfl) hf
        · rw [if_pos hc] at hf
          exact t_X5_follower_40 ⟨hx, hb, hml, hr, hlocks, hown, hno, hG⟩ hP hD hK5 (lv_sub hl [0, 1, 2, 3, 4] rfl) hf
noncomputable def g_X5_follower_5  (b : xT) : Nat → Int32 → Int32 → Int32 → Int32 → Option (Int32) := fun n => Nat.rec (motive := fun _ => Int32 → Int32 → Int32 → Int32 → Option (Int32)) (fun _ _ _ _ => none) (fun _ ih => g_X5_follower_5s ih b) n
set_option maxHeartbeats 4000000 in
theorem t_X5_follower_5 {p : Program} {l : Launch} {e : Env} {s : State} {m : MethodId} {args : Array Value} {below : List Frame} {meth : Method} {c : Code} {D : va_G} {q : Nat → Nat} {k : Nat → ClassId} {a b : xT} {o : Nat → Int64} {y : Int32} (C : xCx p s m meth c cX5_follower 6 (some .int) RX5 D k) (hP : va_P D vwCl (xw q k a b o) s.heap) (hD : va_D (fun _ => True) (xw q k a b o))  (n : Nat) : ∀ {v1 v2 v3 v4 : Int32} {ls : Array Slot}, lv_has ls 6 [(0, .ref (q 23)), (1, .int v1), (2, .int v2), (3, .int v3), (4, .int v4)] → g_X5_follower_5  b n v1 v2 v3 v4 = some y → W p l e r_X5_follower s m args below meth c s.heap [] 0 0 (xMQ below (xQr (.inr (some (.int y)))) args s (xmc (.inr (some (.int y)))) (xms (.inr (some (.int y)))) (fun _ => False)) (F0 m 5 ls []) := by
  induction n with
  | zero =>
    intro _ _ _ _ _ _ hf
    have h9 : (none : Option (Int32)) = some y := hf
    cases h9
  | succ n ih =>
    intro _ _ _ _ _ hl hf
    exact t_X5_follower_5s C hP hD (K5 := g_X5_follower_5  b n) ih hl hf
noncomputable def g_X5_follower_0  (b : xT) (v1 : Int32) (v2 : Int32) : Option (Int32) := g_X5_follower_5  b 1000 v1 v2 (-1) 0
set_option maxHeartbeats 4000000 in
set_option maxRecDepth 100000 in
theorem t_X5_follower_0 {p : Program} {l : Launch} {e : Env} {s : State} {m : MethodId} {args : Array Value} {below : List Frame} {meth : Method} {c : Code} {D : va_G} {q : Nat → Nat} {k : Nat → ClassId} {a b : xT} {o : Nat → Int64} {y : Int32} (C : xCx p s m meth c cX5_follower 6 (some .int) RX5 D k) (hP : va_P D vwCl (xw q k a b o) s.heap) (hD : va_D (fun _ => True) (xw q k a b o))  {v1 v2 : Int32} {ls : Array Slot} (hl : lv_has ls 6 [(0, .ref (q 23)), (1, .int v1), (2, .int v2)]) (hf : g_X5_follower_0  b v1 v2 = some y) : W p l e r_X5_follower s m args below meth c s.heap [] 0 0 (xMQ below (xQr (.inr (some (.int y)))) args s (xmc (.inr (some (.int y)))) (xms (.inr (some (.int y)))) (fun _ => False)) (F0 m 0 ls []) := by
  obtain ⟨hx, hb, hml, hr, hlocks, hown, hno, hG⟩ := C
  have hK := hG.1
  have hE := hG.2.1
  unfold g_X5_follower_0 at hf
  refine lv_iconst (v := -1) hx hb dX5_follower_0 (by decide) ?_
  refine lv_istore_n (lv' := [(3, .int (-1)), (0, .ref (q 23)), (1, .int v1), (2, .int v2)]) hx hb dX5_follower_1 rfl hl (by decide) rfl (fun ls hl => ?_)
  refine lv_iconst (v := 0) hx hb dX5_follower_2 (by decide) ?_
  refine lv_istore (lv' := [(4, .int 0), (3, .int (-1)), (0, .ref (q 23)), (1, .int v1), (2, .int v2)]) hx hb dX5_follower_3 hl (by decide) rfl (fun ls hl => ?_)
  exact t_X5_follower_5 ⟨hx, hb, hml, hr, hlocks, hown, hno, hG⟩ hP hD  1000 (lv_sub hl [2, 3, 4, 1, 0] rfl) hf
noncomputable def f_X5_follower (b : xT) (v1 : Int32) (v2 : Int32) : Option (Int32) := g_X5_follower_0 b v1 v2
set_option maxHeartbeats 4000000 in
set_option maxRecDepth 100000 in
theorem c_X5_follower (l : Launch) (D : va_G) (q : Nat → Nat) (k : Nat → ClassId) (a b : xT) (o : Nat → Int64) (v1 : Int32) (v2 : Int32) (y : Int32) (hf : f_X5_follower b v1 v2 = some y) : xMet l yX5_follower (.code yX5_follower cX5_follower 6 (some .int)) r_X5_follower (xPc D q k a b o [.ref (q 23), .int v1, .int v2]) (xQr (.inr (some (.int y)))) (xmc (.inr (some (.int y)))) (xms (.inr (some (.int y)))) (fun _ => False) := by
  refine xMet.ofW (by decide) ?_
  intro p e s m args below meth c hx hb hml hr hlocks hnm hme hno hv
  obtain ⟨rfl, hP, hD, hG⟩ := hv
  have hown : s.vm.findClass RX5 = some m.cls := findClass_of_methodNamed hnm
  have hl := lv_entry ([.ref (q 23), .int v1, .int v2]) (n := 6) (Nat.le_of_ble_eq_true rfl)
  rw [lg_entry_eq]
  generalize (lg_sl ([.ref (q 23), .int v1, .int v2]) ++ List.replicate (6 - (lg_sl ([.ref (q 23), .int v1, .int v2])).length) Slot.unset).toArray = ls at hl ⊢
  have hl : lv_has ls 6 [(0, .ref (q 23)), (1, .int v1), (2, .int v2)] := hl
  exact t_X5_follower_0 ⟨hx, hb, hml, hr, hlocks, hown, hno, hG⟩ hP hD hl hf
abbrev r_X5_put : Room := { frames := 0, cells := 0, slots := 0, locals := 0 }
noncomputable def g_X5_put_18  (b : xT)  : Option (xT) := some b
set_option maxHeartbeats 4000000 in
set_option maxRecDepth 100000 in
theorem t_X5_put_18 {p : Program} {l : Launch} {e : Env} {s : State} {m : MethodId} {args : Array Value} {below : List Frame} {meth : Method} {c : Code} {D : va_G} {q : Nat → Nat} {k : Nat → ClassId} {a b : xT} {o : Nat → Int64} {z : xT} {y : xT} (C : xCx p s m meth c cX5_put 3 none RX5 D k) {H : Heap} {locs : List Loc} (hP : va_P D vwCl (xw q k a b o) H) (hD : va_D (va_A (xw q k a z o) s.heap.size) (xw q k a b o)) (hS : va_S (va_A (xw q k a z o) s.heap.size) s.heap H locs)  {ls : Array Slot} (hl : lv_has ls 3 []) (hf : g_X5_put_18  b  = some y) : W p l e r_X5_put s m args below meth c H locs 0 0 (xMQ below (xQm D q k a z o (.inr (none, a, y))) args s 0 0 (va_A (xw q k a z o) s.heap.size)) (F0 m 18 ls []) := by
  obtain ⟨hx, hb, hml, hr, hlocks, hown, hno, hG⟩ := C
  have hK := hG.1
  have hE := hG.2.1
  have hA : ∀ u, s.heap.size ≤ u → va_A (xw q k a z o) s.heap.size u := fun u h => Or.inr h
  unfold g_X5_put_18 at hf
  cases hf
  exact xretm_v hx hb hr hlocks hP hS dX5_put_18
noncomputable def g_X5_put_7  (b : xT) (v1 : Int32) (v2 : Int32) : Option (xT) := (if v1 < 0 then g_X5_put_18  b  else (if xin v1 60 = true then g_X5_put_18  (xs b 6 v1.toNatClampNeg v2)  else none))
set_option maxHeartbeats 4000000 in
set_option maxRecDepth 100000 in
theorem t_X5_put_7 {p : Program} {l : Launch} {e : Env} {s : State} {m : MethodId} {args : Array Value} {below : List Frame} {meth : Method} {c : Code} {D : va_G} {q : Nat → Nat} {k : Nat → ClassId} {a b : xT} {o : Nat → Int64} {z : xT} {y : xT} (C : xCx p s m meth c cX5_put 3 none RX5 D k) {H : Heap} {locs : List Loc} (hP : va_P D vwCl (xw q k a b o) H) (hD : va_D (va_A (xw q k a z o) s.heap.size) (xw q k a b o)) (hS : va_S (va_A (xw q k a z o) s.heap.size) s.heap H locs)  {v1 v2 : Int32} {ls : Array Slot} (hl : lv_has ls 3 [(0, .ref (q 23)), (1, .int v1), (2, .int v2)]) (hf : g_X5_put_7  b v1 v2 = some y) : W p l e r_X5_put s m args below meth c H locs 0 0 (xMQ below (xQm D q k a z o (.inr (none, a, y))) args s 0 0 (va_A (xw q k a z o) s.heap.size)) (F0 m 7 ls []) := by
  obtain ⟨hx, hb, hml, hr, hlocks, hown, hno, hG⟩ := C
  have hK := hG.1
  have hE := hG.2.1
  have hA : ∀ u, s.heap.size ≤ u → va_A (xw q k a z o) s.heap.size u := fun u h => Or.inr h
  unfold g_X5_put_7 at hf
  refine lv_iload_n hx hb dX5_put_7 rfl (lv_at hl 1 rfl) ?_
  refine lv_if_lt hx hb dX5_put_8 rfl (fun hc => ?_) (fun hc => ?_)
  · rw [if_pos hc] at hf
    exact t_X5_put_18 ⟨hx, hb, hml, hr, hlocks, hown, hno, hG⟩ hP hD hS  (lv_sub hl [] rfl) hf
  · rw [if_neg hc] at hf
    refine lv_aload_n hx hb dX5_put_11 rfl (lv_at hl 0 rfl) ?_
    refine va_get (D := D) (ci := 5) (v := .ref (q 30)) (C := RX5) (T := TX5) (N := 19) hx hb (hwX5 hE) (fun _ h => h) hown hK hP 23 rfl rfl 8 (by decide) (hE _ fl_X5_29 rfl _) (fun _ h9 => h9) rfl dX5_put_12 ?_
    refine lv_iload_n hx hb dX5_put_15 rfl (lv_at hl 1 rfl) ?_
    refine lv_iload_n hx hb dX5_put_16 rfl (lv_at hl 2 rfl) ?_
    obtain ⟨hin, hf⟩ := xguard hf
    refine va_iast hx hb hK hP hD hS 30 0 rfl rfl hin dX5_put_17 (fun H locs hP hD hS => ?_)
    rw [xw_s30] at hP hD
    exact t_X5_put_18 ⟨hx, hb, hml, hr, hlocks, hown, hno, hG⟩ hP hD hS  (lv_sub hl [] rfl) hf
noncomputable def g_X5_put_0  (b : xT) (v1 : Int32) (v2 : Int32) : Option (xT) := (if xin v2 240 = true then g_X5_put_7  (xs b 2 v2.toNatClampNeg v1) v1 v2 else none)
set_option maxHeartbeats 4000000 in
set_option maxRecDepth 100000 in
theorem t_X5_put_0 {p : Program} {l : Launch} {e : Env} {s : State} {m : MethodId} {args : Array Value} {below : List Frame} {meth : Method} {c : Code} {D : va_G} {q : Nat → Nat} {k : Nat → ClassId} {a b : xT} {o : Nat → Int64} {z : xT} {y : xT} (C : xCx p s m meth c cX5_put 3 none RX5 D k) {H : Heap} {locs : List Loc} (hP : va_P D vwCl (xw q k a b o) H) (hD : va_D (va_A (xw q k a z o) s.heap.size) (xw q k a b o)) (hS : va_S (va_A (xw q k a z o) s.heap.size) s.heap H locs)  {v1 v2 : Int32} {ls : Array Slot} (hl : lv_has ls 3 [(0, .ref (q 23)), (1, .int v1), (2, .int v2)]) (hf : g_X5_put_0  b v1 v2 = some y) : W p l e r_X5_put s m args below meth c H locs 0 0 (xMQ below (xQm D q k a z o (.inr (none, a, y))) args s 0 0 (va_A (xw q k a z o) s.heap.size)) (F0 m 0 ls []) := by
  obtain ⟨hx, hb, hml, hr, hlocks, hown, hno, hG⟩ := C
  have hK := hG.1
  have hE := hG.2.1
  have hA : ∀ u, s.heap.size ≤ u → va_A (xw q k a z o) s.heap.size u := fun u h => Or.inr h
  unfold g_X5_put_0 at hf
  refine lv_aload_n hx hb dX5_put_0 rfl (lv_at hl 0 rfl) ?_
  refine va_get (D := D) (ci := 5) (v := .ref (q 26)) (C := RX5) (T := TX5) (N := 19) hx hb (hwX5 hE) (fun _ h => h) hown hK hP 23 rfl rfl 3 (by decide) (hE _ fl_X5_17 rfl _) (fun _ h9 => h9) rfl dX5_put_1 ?_
  refine lv_iload_n hx hb dX5_put_4 rfl (lv_at hl 2 rfl) ?_
  refine lv_iload_n hx hb dX5_put_5 rfl (lv_at hl 1 rfl) ?_
  obtain ⟨hin, hf⟩ := xguard hf
  refine va_iast hx hb hK hP hD hS 26 0 rfl rfl hin dX5_put_6 (fun H locs hP hD hS => ?_)
  rw [xw_s26] at hP hD
  exact t_X5_put_7 ⟨hx, hb, hml, hr, hlocks, hown, hno, hG⟩ hP hD hS  (lv_sub hl [0, 1, 2] rfl) hf
noncomputable def f_X5_put (b : xT) (v1 : Int32) (v2 : Int32) : Option (xT) := g_X5_put_0 b v1 v2
set_option maxHeartbeats 4000000 in
set_option maxRecDepth 100000 in
theorem c_X5_put (l : Launch) (D : va_G) (q : Nat → Nat) (k : Nat → ClassId) (sz : Nat) (a b : xT) (o : Nat → Int64) (v1 : Int32) (v2 : Int32) (y : xT) (hf : f_X5_put b v1 v2 = some y) : xMet l yX5_put (.code yX5_put cX5_put 3 none) r_X5_put (xPcm D q k sz a b o [.ref (q 23), .int v1, .int v2]) (xQm D q k a b o (.inr (none, a, y))) 0 0 (va_A (xw q k a b o) sz) := by
  refine xMet.ofW (by decide) ?_
  intro p e s m args below meth c hx hb hml hr hlocks hnm hme hno hv
  obtain ⟨rfl, hsz, hP, hD, hG⟩ := hv
  subst hsz
  have hown : s.vm.findClass RX5 = some m.cls := findClass_of_methodNamed hnm
  have hl := lv_entry ([.ref (q 23), .int v1, .int v2]) (n := 3) (Nat.le_of_ble_eq_true rfl)
  rw [lg_entry_eq]
  generalize (lg_sl ([.ref (q 23), .int v1, .int v2]) ++ List.replicate (3 - (lg_sl ([.ref (q 23), .int v1, .int v2])).length) Slot.unset).toArray = ls at hl ⊢
  have hl : lv_has ls 3 [(0, .ref (q 23)), (1, .int v1), (2, .int v2)] := hl
  have hD := hD.self (sz := s.heap.size)
  exact t_X5_put_0 ⟨hx, hb, hml, hr, hlocks, hown, hno, hG⟩ hP hD va_S.rf hl hf
abbrev r_X5_moves : Room := { frames := 2, cells := 0, slots := 0, locals := 47 }
noncomputable def g_X5_moves_125  (b : xT) (v1 : Int32) (v2 : Int32) (v3 : Int32) : Option (Int32 × xT) := ((f_X5_put b v2 v1).bind fun z128 => ((f_X5_note z128 3 v2 v3 v1).bind fun z136 => some (1, z136)))
set_option maxHeartbeats 4000000 in
set_option maxRecDepth 100000 in
theorem t_X5_moves_125 {p : Program} {l : Launch} {e : Env} {s : State} {m : MethodId} {args : Array Value} {below : List Frame} {meth : Method} {c : Code} {D : va_G} {q : Nat → Nat} {k : Nat → ClassId} {a b : xT} {o : Nat → Int64} {z : xT} {y : Int32 × xT} (C : xCx p s m meth c cX5_moves 4 (some .boolean) RX5 D k) {H : Heap} {locs : List Loc} (hP : va_P D vwCl (xw q k a b o) H) (hD : va_D (va_A (xw q k a z o) s.heap.size) (xw q k a b o)) (hS : va_S (va_A (xw q k a z o) s.heap.size) s.heap H locs)  {v1 v2 v3 : Int32} {ls : Array Slot} (hl : lv_has ls 4 [(0, .ref (q 23)), (1, .int v1), (2, .int v2), (3, .int v3)]) (hf : g_X5_moves_125  b v1 v2 v3 = some y) : W p l e r_X5_moves s m args below meth c H locs 0 0 (xMQ below (xQm D q k a z o (.inr (some (.int y.1), a, y.2))) args s 0 0 (va_A (xw q k a z o) s.heap.size)) (F0 m 125 ls []) := by
  obtain ⟨hx, hb, hml, hr, hlocks, hown, hno, hG⟩ := C
  have hK := hG.1
  have hE := hG.2.1
  have hA : ∀ u, s.heap.size ≤ u → va_A (xw q k a z o) s.heap.size u := fun u h => Or.inr h
  unfold g_X5_moves_125 at hf
  refine lv_aload_n hx hb dX5_moves_125 rfl (lv_at hl 0 rfl) ?_
  refine lv_iload_n hx hb dX5_moves_126 rfl (lv_at hl 2 rfl) ?_
  refine lv_iload_n hx hb dX5_moves_127 rfl (lv_at hl 1 rfl) ?_
  obtain ⟨z128, hN, hf⟩ := xbind hf
  refine xgo_m (v := none) (a1 := a) (b1 := z128) (xrunV (C := RX5) (As := [.int v2, .int v1]) (rest := []) (xfixm fx_X5_put hx hb hml hown (by decide) (by decide) (by decide) (by decide)) hE ml_X5_101 wi_X5_put wz_X5_put wc_X5_put wn_X5 (c_X5_put l D q k _ a b o v2 v1 _ hN) (va_recv (q := (RX5, TX5, 19)) (ci := 5) (q0 := 23) hK hP rfl rfl) (xprem hP hD hG) rfl rfl hl.1 rfl (lv_room (Nat.le_of_ble_eq_true rfl)) dX5_moves_128) hD hS hA (fun H locs hP hD hS => ?_)
  refine lv_aload_n hx hb dX5_moves_131 rfl (lv_at hl 0 rfl) ?_
  refine lv_iconst (v := 3) hx hb dX5_moves_132 (by decide) ?_
  refine lv_iload_n hx hb dX5_moves_133 rfl (lv_at hl 2 rfl) ?_
  refine lv_iload_n hx hb dX5_moves_134 rfl (lv_at hl 3 rfl) ?_
  refine lv_iload_n hx hb dX5_moves_135 rfl (lv_at hl 1 rfl) ?_
  obtain ⟨z136, hN, hf⟩ := xbind hf
  refine xgo_m (v := none) (a1 := a) (b1 := z136) (xrunV (C := RX5) (As := [.int 3, .int v2, .int v3, .int v1]) (rest := []) (xfixm fx_X5_note hx hb hml hown (by decide) (by decide) (by decide) (by decide)) hE ml_X5_97 wi_X5_note wz_X5_note wc_X5_note wn_X5 (c_X5_note l D q k _ a z128 o 3 v2 v3 v1 _ hN) (va_recv (q := (RX5, TX5, 19)) (ci := 5) (q0 := 23) hK hP rfl rfl) (xprem hP hD hG) rfl rfl hl.1 rfl (lv_room (Nat.le_of_ble_eq_true rfl)) dX5_moves_136) hD hS hA (fun H locs hP hD hS => ?_)
  refine lv_iconst (v := 1) hx hb dX5_moves_139 (by decide) ?_
  cases hf
  exact xretm_z hx hb hr xz1 hlocks hP hS dX5_moves_140
noncomputable def g_X5_moves_113  (b : xT) (v1 : Int32) (v2 : Int32) (v3 : Int32) : Option (Int32 × xT) := (if xin v2 60 = true then (if xin v1 240 = true then g_X5_moves_125  (xs b 1 v1.toNatClampNeg (b.1 3 v2.toNatClampNeg)) v1 v2 v3 else none) else none)
set_option maxHeartbeats 4000000 in
set_option maxRecDepth 100000 in
theorem t_X5_moves_113 {p : Program} {l : Launch} {e : Env} {s : State} {m : MethodId} {args : Array Value} {below : List Frame} {meth : Method} {c : Code} {D : va_G} {q : Nat → Nat} {k : Nat → ClassId} {a b : xT} {o : Nat → Int64} {z : xT} {y : Int32 × xT} (C : xCx p s m meth c cX5_moves 4 (some .boolean) RX5 D k) {H : Heap} {locs : List Loc} (hP : va_P D vwCl (xw q k a b o) H) (hD : va_D (va_A (xw q k a z o) s.heap.size) (xw q k a b o)) (hS : va_S (va_A (xw q k a z o) s.heap.size) s.heap H locs)  {v1 v2 v3 : Int32} {ls : Array Slot} (hl : lv_has ls 4 [(0, .ref (q 23)), (1, .int v1), (2, .int v2), (3, .int v3)]) (hf : g_X5_moves_113  b v1 v2 v3 = some y) : W p l e r_X5_moves s m args below meth c H locs 0 0 (xMQ below (xQm D q k a z o (.inr (some (.int y.1), a, y.2))) args s 0 0 (va_A (xw q k a z o) s.heap.size)) (F0 m 113 ls []) := by
  obtain ⟨hx, hb, hml, hr, hlocks, hown, hno, hG⟩ := C
  have hK := hG.1
  have hE := hG.2.1
  have hA : ∀ u, s.heap.size ≤ u → va_A (xw q k a z o) s.heap.size u := fun u h => Or.inr h
  unfold g_X5_moves_113 at hf
  refine lv_aload_n hx hb dX5_moves_113 rfl (lv_at hl 0 rfl) ?_
  refine va_get (D := D) (ci := 5) (v := .ref (q 25)) (C := RX5) (T := TX5) (N := 19) hx hb (hwX5 hE) (fun _ h => h) hown hK hP 23 rfl rfl 2 (by decide) (hE _ fl_X5_13 rfl _) (fun _ h9 => h9) rfl dX5_moves_114 ?_
  refine lv_iload_n hx hb dX5_moves_117 rfl (lv_at hl 1 rfl) ?_
  refine lv_aload_n hx hb dX5_moves_118 rfl (lv_at hl 0 rfl) ?_
  refine va_get (D := D) (ci := 5) (v := .ref (q 27)) (C := RX5) (T := TX5) (N := 19) hx hb (hwX5 hE) (fun _ h => h) hown hK hP 23 rfl rfl 5 (by decide) (hE _ fl_X5_20 rfl _) (fun _ h9 => h9) rfl dX5_moves_119 ?_
  refine lv_iload_n hx hb dX5_moves_122 rfl (lv_at hl 2 rfl) ?_
  obtain ⟨hin, hf⟩ := xguard hf
  refine va_iald hx hb hK hP 27 0 rfl rfl hin dX5_moves_123 ?_
  obtain ⟨hin, hf⟩ := xguard hf
  refine va_iast hx hb hK hP hD hS 25 0 rfl rfl hin dX5_moves_124 (fun H locs hP hD hS => ?_)
  rw [xw_s25] at hP hD
  exact t_X5_moves_125 ⟨hx, hb, hml, hr, hlocks, hown, hno, hG⟩ hP hD hS  (lv_sub hl [0, 1, 2, 3] rfl) hf
noncomputable def g_X5_moves_112  (b : xT) (v1 : Int32) (v2 : Int32) (v3 : Int32) (s1 : Int32) (s2 : Int32) : Option (Int32 × xT) := (if xin s1 240 = true then g_X5_moves_113  (xs b 1 s1.toNatClampNeg s2) v1 v2 v3 else none)
set_option maxHeartbeats 4000000 in
set_option maxRecDepth 100000 in
theorem t_X5_moves_112 {p : Program} {l : Launch} {e : Env} {s : State} {m : MethodId} {args : Array Value} {below : List Frame} {meth : Method} {c : Code} {D : va_G} {q : Nat → Nat} {k : Nat → ClassId} {a b : xT} {o : Nat → Int64} {z : xT} {y : Int32 × xT} (C : xCx p s m meth c cX5_moves 4 (some .boolean) RX5 D k) {H : Heap} {locs : List Loc} (hP : va_P D vwCl (xw q k a b o) H) (hD : va_D (va_A (xw q k a z o) s.heap.size) (xw q k a b o)) (hS : va_S (va_A (xw q k a z o) s.heap.size) s.heap H locs)  {v1 v2 v3 s1 s2 : Int32} {ls : Array Slot} (hl : lv_has ls 4 [(0, .ref (q 23)), (1, .int v1), (2, .int v2), (3, .int v3)]) (hf : g_X5_moves_112  b v1 v2 v3 s1 s2 = some y) : W p l e r_X5_moves s m args below meth c H locs 0 0 (xMQ below (xQm D q k a z o (.inr (some (.int y.1), a, y.2))) args s 0 0 (va_A (xw q k a z o) s.heap.size)) (F0 m 112 ls [.int s2, .int s1, .ref (q 25)]) := by
  obtain ⟨hx, hb, hml, hr, hlocks, hown, hno, hG⟩ := C
  have hK := hG.1
  have hE := hG.2.1
  have hA : ∀ u, s.heap.size ≤ u → va_A (xw q k a z o) s.heap.size u := fun u h => Or.inr h
  unfold g_X5_moves_112 at hf
  obtain ⟨hin, hf⟩ := xguard hf
  refine va_iast hx hb hK hP hD hS 25 0 rfl rfl hin dX5_moves_112 (fun H locs hP hD hS => ?_)
  rw [xw_s25] at hP hD
  exact t_X5_moves_113 ⟨hx, hb, hml, hr, hlocks, hown, hno, hG⟩ hP hD hS  (lv_sub hl [0, 1, 2, 3] rfl) hf
noncomputable def g_X5_moves_77  (b : xT) (v1 : Int32) (v2 : Int32) (v3 : Int32) : Option (Int32 × xT) := (if xin v1 240 = true then (if xin v2 60 = true then (if (b.1 1 v1.toNatClampNeg) = (b.1 3 v2.toNatClampNeg) then (if xin v3 240 = true then g_X5_moves_112  b v1 v2 v3 v3 (b.1 1 v3.toNatClampNeg) else none) else (if xin v1 240 = true then g_X5_moves_112  b v1 v2 v3 v3 (b.1 1 v1.toNatClampNeg) else none)) else none) else none)
set_option maxHeartbeats 4000000 in
set_option maxRecDepth 100000 in
theorem t_X5_moves_77 {p : Program} {l : Launch} {e : Env} {s : State} {m : MethodId} {args : Array Value} {below : List Frame} {meth : Method} {c : Code} {D : va_G} {q : Nat → Nat} {k : Nat → ClassId} {a b : xT} {o : Nat → Int64} {z : xT} {y : Int32 × xT} (C : xCx p s m meth c cX5_moves 4 (some .boolean) RX5 D k) {H : Heap} {locs : List Loc} (hP : va_P D vwCl (xw q k a b o) H) (hD : va_D (va_A (xw q k a z o) s.heap.size) (xw q k a b o)) (hS : va_S (va_A (xw q k a z o) s.heap.size) s.heap H locs)  {v1 v2 v3 : Int32} {ls : Array Slot} (hl : lv_has ls 4 [(0, .ref (q 23)), (1, .int v1), (2, .int v2), (3, .int v3)]) (hf : g_X5_moves_77  b v1 v2 v3 = some y) : W p l e r_X5_moves s m args below meth c H locs 0 0 (xMQ below (xQm D q k a z o (.inr (some (.int y.1), a, y.2))) args s 0 0 (va_A (xw q k a z o) s.heap.size)) (F0 m 77 ls []) := by
  obtain ⟨hx, hb, hml, hr, hlocks, hown, hno, hG⟩ := C
  have hK := hG.1
  have hE := hG.2.1
  have hA : ∀ u, s.heap.size ≤ u → va_A (xw q k a z o) s.heap.size u := fun u h => Or.inr h
  unfold g_X5_moves_77 at hf
  refine lv_aload_n hx hb dX5_moves_77 rfl (lv_at hl 0 rfl) ?_
  refine va_get (D := D) (ci := 5) (v := .ref (q 25)) (C := RX5) (T := TX5) (N := 19) hx hb (hwX5 hE) (fun _ h => h) hown hK hP 23 rfl rfl 2 (by decide) (hE _ fl_X5_13 rfl _) (fun _ h9 => h9) rfl dX5_moves_78 ?_
  refine lv_iload_n hx hb dX5_moves_81 rfl (lv_at hl 3 rfl) ?_
  refine lv_aload_n hx hb dX5_moves_82 rfl (lv_at hl 0 rfl) ?_
  refine va_get (D := D) (ci := 5) (v := .ref (q 25)) (C := RX5) (T := TX5) (N := 19) hx hb (hwX5 hE) (fun _ h => h) hown hK hP 23 rfl rfl 2 (by decide) (hE _ fl_X5_13 rfl _) (fun _ h9 => h9) rfl dX5_moves_83 ?_
  refine lv_iload_n hx hb dX5_moves_86 rfl (lv_at hl 1 rfl) ?_
  obtain ⟨hin, hf⟩ := xguard hf
  refine va_iald hx hb hK hP 25 0 rfl rfl hin dX5_moves_87 ?_
  refine lv_aload_n hx hb dX5_moves_88 rfl (lv_at hl 0 rfl) ?_
  refine va_get (D := D) (ci := 5) (v := .ref (q 27)) (C := RX5) (T := TX5) (N := 19) hx hb (hwX5 hE) (fun _ h => h) hown hK hP 23 rfl rfl 5 (by decide) (hE _ fl_X5_20 rfl _) (fun _ h9 => h9) rfl dX5_moves_89 ?_
  refine lv_iload_n hx hb dX5_moves_92 rfl (lv_at hl 2 rfl) ?_
  obtain ⟨hin, hf⟩ := xguard hf
  refine va_iald hx hb hK hP 27 0 rfl rfl hin dX5_moves_93 ?_
  refine lv_icmp_ne hx hb dX5_moves_94 rfl (fun hc => ?_) (fun hc => ?_)
  · rw [if_neg hc] at hf
    refine lv_aload_n hx hb dX5_moves_106 rfl (lv_at hl 0 rfl) ?_
    refine va_get (D := D) (ci := 5) (v := .ref (q 25)) (C := RX5) (T := TX5) (N := 19) hx hb (hwX5 hE) (fun _ h => h) hown hK hP 23 rfl rfl 2 (by decide) (hE _ fl_X5_13 rfl _) (fun _ h9 => h9) rfl dX5_moves_107 ?_
    refine lv_iload_n hx hb dX5_moves_110 rfl (lv_at hl 1 rfl) ?_
    obtain ⟨hin, hf⟩ := xguard hf
    refine va_iald hx hb hK hP 25 0 rfl rfl hin dX5_moves_111 ?_
    exact t_X5_moves_112 ⟨hx, hb, hml, hr, hlocks, hown, hno, hG⟩ hP hD hS  (lv_sub hl [0, 1, 2, 3] rfl) hf
  · rw [if_pos hc] at hf
    refine lv_aload_n hx hb dX5_moves_97 rfl (lv_at hl 0 rfl) ?_
    refine va_get (D := D) (ci := 5) (v := .ref (q 25)) (C := RX5) (T := TX5) (N := 19) hx hb (hwX5 hE) (fun _ h => h) hown hK hP 23 rfl rfl 2 (by decide) (hE _ fl_X5_13 rfl _) (fun _ h9 => h9) rfl dX5_moves_98 ?_
    refine lv_iload_n hx hb dX5_moves_101 rfl (lv_at hl 3 rfl) ?_
    obtain ⟨hin, hf⟩ := xguard hf
    refine va_iald hx hb hK hP 25 0 rfl rfl hin dX5_moves_102 ?_
    refine lv_goto hx hb dX5_moves_103 rfl ?_
    exact t_X5_moves_112 ⟨hx, hb, hml, hr, hlocks, hown, hno, hG⟩ hP hD hS  (lv_sub hl [0, 1, 2, 3] rfl) hf
noncomputable def g_X5_moves_58 (K2 : xT → Int32 → Option (Int32 × xT)) (b : xT) (v1 : Int32) (s0 : Int32) : Option (Int32 × xT) := (if s0 < 0 then K2 b (v1 + 1) else (if xin s0 60 = true then (if xin (b.1 6 s0.toNatClampNeg) 240 = true then g_X5_moves_77  (xs b 2 (b.1 6 s0.toNatClampNeg).toNatClampNeg (-1)) v1 s0 (b.1 6 s0.toNatClampNeg) else none) else none))
set_option maxHeartbeats 4000000 in
set_option maxRecDepth 100000 in
theorem t_X5_moves_58 {p : Program} {l : Launch} {e : Env} {s : State} {m : MethodId} {args : Array Value} {below : List Frame} {meth : Method} {c : Code} {D : va_G} {q : Nat → Nat} {k : Nat → ClassId} {a b : xT} {o : Nat → Int64} {z : xT} {y : Int32 × xT} (C : xCx p s m meth c cX5_moves 4 (some .boolean) RX5 D k) {H : Heap} {locs : List Loc} (hP : va_P D vwCl (xw q k a b o) H) (hD : va_D (va_A (xw q k a z o) s.heap.size) (xw q k a b o)) (hS : va_S (va_A (xw q k a z o) s.heap.size) s.heap H locs) {K2 : xT → Int32 → Option (Int32 × xT)} (hK2 : ∀ {b : xT} {v1 : Int32} {ls : Array Slot} {H : Heap} {locs : List Loc}, va_P D vwCl (xw q k a b o) H → va_D (va_A (xw q k a z o) s.heap.size) (xw q k a b o) → va_S (va_A (xw q k a z o) s.heap.size) s.heap H locs → lv_has ls 4 [(0, .ref (q 23)), (1, .int v1)] → K2 b v1 = some y → W p l e r_X5_moves s m args below meth c H locs 0 0 (xMQ below (xQm D q k a z o (.inr (some (.int y.1), a, y.2))) args s 0 0 (va_A (xw q k a z o) s.heap.size)) (F0 m 2 ls [])) {v1 s0 : Int32} {ls : Array Slot} (hl : lv_has ls 4 [(0, .ref (q 23)), (1, .int v1)]) (hf : g_X5_moves_58 K2 b v1 s0 = some y) : W p l e r_X5_moves s m args below meth c H locs 0 0 (xMQ below (xQm D q k a z o (.inr (some (.int y.1), a, y.2))) args s 0 0 (va_A (xw q k a z o) s.heap.size)) (F0 m 58 ls [.int s0]) := by
  obtain ⟨hx, hb, hml, hr, hlocks, hown, hno, hG⟩ := C
  have hK := hG.1
  have hE := hG.2.1
  have hA : ∀ u, s.heap.size ≤ u → va_A (xw q k a z o) s.heap.size u := fun u h => Or.inr h
  unfold g_X5_moves_58 at hf
  refine lv_istore_n (lv' := [(2, .int s0), (0, .ref (q 23)), (1, .int v1)]) hx hb dX5_moves_58 rfl hl (by decide) rfl (fun ls hl => ?_)
  refine lv_iload_n hx hb dX5_moves_59 rfl (lv_at hl 0 rfl) ?_
  refine lv_if_lt hx hb dX5_moves_60 rfl (fun hc => ?_) (fun hc => ?_)
  · rw [if_pos hc] at hf
    refine lv_iinc (k := 2) (v := v1 + 1) (lv' := [(1, .int (v1 + 1)), (2, .int s0), (0, .ref (q 23))]) hx hb dX5_moves_141 hl rfl (xinc (by decide) _) (by decide) rfl (fun ls hl => ?_)
    refine lv_goto hx hb dX5_moves_144 rfl ?_
    exact hK2 hP hD hS (lv_sub hl [2, 0] rfl) hf
  · rw [if_neg hc] at hf
    refine lv_aload_n hx hb dX5_moves_63 rfl (lv_at hl 1 rfl) ?_
    refine va_get (D := D) (ci := 5) (v := .ref (q 30)) (C := RX5) (T := TX5) (N := 19) hx hb (hwX5 hE) (fun _ h => h) hown hK hP 23 rfl rfl 8 (by decide) (hE _ fl_X5_29 rfl _) (fun _ h9 => h9) rfl dX5_moves_64 ?_
    refine lv_iload_n hx hb dX5_moves_67 rfl (lv_at hl 0 rfl) ?_
    obtain ⟨hin, hf⟩ := xguard hf
    refine va_iald hx hb hK hP 30 0 rfl rfl hin dX5_moves_68 ?_
    refine lv_istore_n (lv' := [(3, .int (b.1 6 s0.toNatClampNeg)), (2, .int s0), (0, .ref (q 23)), (1, .int v1)]) hx hb dX5_moves_69 rfl hl (by decide) rfl (fun ls hl => ?_)
    refine lv_aload_n hx hb dX5_moves_70 rfl (lv_at hl 2 rfl) ?_
    refine va_get (D := D) (ci := 5) (v := .ref (q 26)) (C := RX5) (T := TX5) (N := 19) hx hb (hwX5 hE) (fun _ h => h) hown hK hP 23 rfl rfl 3 (by decide) (hE _ fl_X5_17 rfl _) (fun _ h9 => h9) rfl dX5_moves_71 ?_
    refine lv_iload_n hx hb dX5_moves_74 rfl (lv_at hl 0 rfl) ?_
    refine lv_iconst (v := -1) hx hb dX5_moves_75 (by decide) ?_
    obtain ⟨hin, hf⟩ := xguard hf
    refine va_iast hx hb hK hP hD hS 26 0 rfl rfl hin dX5_moves_76 (fun H locs hP hD hS => ?_)
    rw [xw_s26] at hP hD
    exact t_X5_moves_77 ⟨hx, hb, hml, hr, hlocks, hown, hno, hG⟩ hP hD hS  (lv_sub hl [2, 3, 1, 0] rfl) hf
noncomputable def g_X5_moves_43 (K2 : xT → Int32 → Option (Int32 × xT)) (b : xT) (v1 : Int32) (s0 : Int32) : Option (Int32 × xT) := (if 0 ≤ s0 then g_X5_moves_58 K2 b v1 s0 else ((f_X5_follower b v1 (-1)).bind fun r51 => g_X5_moves_58 K2 b v1 r51))
set_option maxHeartbeats 4000000 in
set_option maxRecDepth 100000 in
theorem t_X5_moves_43 {p : Program} {l : Launch} {e : Env} {s : State} {m : MethodId} {args : Array Value} {below : List Frame} {meth : Method} {c : Code} {D : va_G} {q : Nat → Nat} {k : Nat → ClassId} {a b : xT} {o : Nat → Int64} {z : xT} {y : Int32 × xT} (C : xCx p s m meth c cX5_moves 4 (some .boolean) RX5 D k) {H : Heap} {locs : List Loc} (hP : va_P D vwCl (xw q k a b o) H) (hD : va_D (va_A (xw q k a z o) s.heap.size) (xw q k a b o)) (hS : va_S (va_A (xw q k a z o) s.heap.size) s.heap H locs) {K2 : xT → Int32 → Option (Int32 × xT)} (hK2 : ∀ {b : xT} {v1 : Int32} {ls : Array Slot} {H : Heap} {locs : List Loc}, va_P D vwCl (xw q k a b o) H → va_D (va_A (xw q k a z o) s.heap.size) (xw q k a b o) → va_S (va_A (xw q k a z o) s.heap.size) s.heap H locs → lv_has ls 4 [(0, .ref (q 23)), (1, .int v1)] → K2 b v1 = some y → W p l e r_X5_moves s m args below meth c H locs 0 0 (xMQ below (xQm D q k a z o (.inr (some (.int y.1), a, y.2))) args s 0 0 (va_A (xw q k a z o) s.heap.size)) (F0 m 2 ls [])) {v1 s0 : Int32} {ls : Array Slot} (hl : lv_has ls 4 [(0, .ref (q 23)), (1, .int v1)]) (hf : g_X5_moves_43 K2 b v1 s0 = some y) : W p l e r_X5_moves s m args below meth c H locs 0 0 (xMQ below (xQm D q k a z o (.inr (some (.int y.1), a, y.2))) args s 0 0 (va_A (xw q k a z o) s.heap.size)) (F0 m 43 ls [.int s0]) := by
  obtain ⟨hx, hb, hml, hr, hlocks, hown, hno, hG⟩ := C
  have hK := hG.1
  have hE := hG.2.1
  have hA : ∀ u, s.heap.size ≤ u → va_A (xw q k a z o) s.heap.size u := fun u h => Or.inr h
  unfold g_X5_moves_43 at hf
  refine lv_istore_n (lv' := [(2, .int s0), (0, .ref (q 23)), (1, .int v1)]) hx hb dX5_moves_43 rfl hl (by decide) rfl (fun ls hl => ?_)
  refine lv_iload_n hx hb dX5_moves_44 rfl (lv_at hl 0 rfl) ?_
  refine lv_if_ge hx hb dX5_moves_45 rfl (fun hc => ?_) (fun hc => ?_)
  · rw [if_pos hc] at hf
    refine lv_iload_n hx hb dX5_moves_57 rfl (lv_at hl 0 rfl) ?_
    exact t_X5_moves_58 ⟨hx, hb, hml, hr, hlocks, hown, hno, hG⟩ hP hD hS hK2 (lv_sub hl [1, 2] rfl) hf
  · rw [if_neg hc] at hf
    refine lv_aload_n hx hb dX5_moves_48 rfl (lv_at hl 1 rfl) ?_
    refine lv_iload_n hx hb dX5_moves_49 rfl (lv_at hl 2 rfl) ?_
    refine lv_iconst (v := -1) hx hb dX5_moves_50 (by decide) ?_
    obtain ⟨r51, hN, hf⟩ := xbind hf
    refine xgo_r (v := some (.int r51)) (xrunV (C := RX5) (As := [.int v1, .int (-1)]) (rest := []) (xfixm fx_X5_follower hx hb hml hown (by decide) (by decide) (by decide) (by decide)) hE ml_X5_125 wi_X5_follower wz_X5_follower wc_X5_follower wn_X5 (c_X5_follower l D q k a b o v1 (-1) _ hN) (va_recv (q := (RX5, TX5, 19)) (ci := 5) (q0 := 23) hK hP rfl rfl) (xpre hP hD hG) rfl rfl hl.1 rfl (lv_room (Nat.le_of_ble_eq_true rfl)) dX5_moves_51) ?_
    refine lv_goto hx hb dX5_moves_54 rfl ?_
    exact t_X5_moves_58 ⟨hx, hb, hml, hr, hlocks, hown, hno, hG⟩ hP hD hS hK2 (lv_sub hl [1, 2] rfl) hf
noncomputable def g_X5_moves_42 (K2 : xT → Int32 → Option (Int32 × xT)) (b : xT) (v1 : Int32) : Option (Int32 × xT) := g_X5_moves_43 K2 b v1 (-1)
set_option maxHeartbeats 4000000 in
set_option maxRecDepth 100000 in
theorem t_X5_moves_42 {p : Program} {l : Launch} {e : Env} {s : State} {m : MethodId} {args : Array Value} {below : List Frame} {meth : Method} {c : Code} {D : va_G} {q : Nat → Nat} {k : Nat → ClassId} {a b : xT} {o : Nat → Int64} {z : xT} {y : Int32 × xT} (C : xCx p s m meth c cX5_moves 4 (some .boolean) RX5 D k) {H : Heap} {locs : List Loc} (hP : va_P D vwCl (xw q k a b o) H) (hD : va_D (va_A (xw q k a z o) s.heap.size) (xw q k a b o)) (hS : va_S (va_A (xw q k a z o) s.heap.size) s.heap H locs) {K2 : xT → Int32 → Option (Int32 × xT)} (hK2 : ∀ {b : xT} {v1 : Int32} {ls : Array Slot} {H : Heap} {locs : List Loc}, va_P D vwCl (xw q k a b o) H → va_D (va_A (xw q k a z o) s.heap.size) (xw q k a b o) → va_S (va_A (xw q k a z o) s.heap.size) s.heap H locs → lv_has ls 4 [(0, .ref (q 23)), (1, .int v1)] → K2 b v1 = some y → W p l e r_X5_moves s m args below meth c H locs 0 0 (xMQ below (xQm D q k a z o (.inr (some (.int y.1), a, y.2))) args s 0 0 (va_A (xw q k a z o) s.heap.size)) (F0 m 2 ls [])) {v1 : Int32} {ls : Array Slot} (hl : lv_has ls 4 [(0, .ref (q 23)), (1, .int v1)]) (hf : g_X5_moves_42 K2 b v1 = some y) : W p l e r_X5_moves s m args below meth c H locs 0 0 (xMQ below (xQm D q k a z o (.inr (some (.int y.1), a, y.2))) args s 0 0 (va_A (xw q k a z o) s.heap.size)) (F0 m 42 ls []) := by
  obtain ⟨hx, hb, hml, hr, hlocks, hown, hno, hG⟩ := C
  have hK := hG.1
  have hE := hG.2.1
  have hA : ∀ u, s.heap.size ≤ u → va_A (xw q k a z o) s.heap.size u := fun u h => Or.inr h
  unfold g_X5_moves_42 at hf
  refine lv_iconst (v := -1) hx hb dX5_moves_42 (by decide) ?_
  exact t_X5_moves_43 ⟨hx, hb, hml, hr, hlocks, hown, hno, hG⟩ hP hD hS hK2 (lv_sub hl [0, 1] rfl) hf
noncomputable def g_X5_moves_2s (K2 : xT → Int32 → Option (Int32 × xT)) (b : xT) (v1 : Int32) : Option (Int32 × xT) := (if 240 ≤ v1 then some (0, b) else (if xin v1 240 = true then (if (b.1 0 v1.toNatClampNeg) = 0 then g_X5_moves_42 K2 b v1 else (if xin v1 240 = true then (if (b.1 1 v1.toNatClampNeg) = (-1) then g_X5_moves_42 K2 b v1 else (if xin v1 240 = true then ((f_X5_follower b v1 (b.1 1 v1.toNatClampNeg)).bind fun r36 => g_X5_moves_43 K2 b v1 r36) else none)) else none)) else none))
set_option maxHeartbeats 4000000 in
set_option maxRecDepth 100000 in
theorem t_X5_moves_2s {p : Program} {l : Launch} {e : Env} {s : State} {m : MethodId} {args : Array Value} {below : List Frame} {meth : Method} {c : Code} {D : va_G} {q : Nat → Nat} {k : Nat → ClassId} {a b : xT} {o : Nat → Int64} {z : xT} {y : Int32 × xT} (C : xCx p s m meth c cX5_moves 4 (some .boolean) RX5 D k) {H : Heap} {locs : List Loc} (hP : va_P D vwCl (xw q k a b o) H) (hD : va_D (va_A (xw q k a z o) s.heap.size) (xw q k a b o)) (hS : va_S (va_A (xw q k a z o) s.heap.size) s.heap H locs) {K2 : xT → Int32 → Option (Int32 × xT)} (hK2 : ∀ {b : xT} {v1 : Int32} {ls : Array Slot} {H : Heap} {locs : List Loc}, va_P D vwCl (xw q k a b o) H → va_D (va_A (xw q k a z o) s.heap.size) (xw q k a b o) → va_S (va_A (xw q k a z o) s.heap.size) s.heap H locs → lv_has ls 4 [(0, .ref (q 23)), (1, .int v1)] → K2 b v1 = some y → W p l e r_X5_moves s m args below meth c H locs 0 0 (xMQ below (xQm D q k a z o (.inr (some (.int y.1), a, y.2))) args s 0 0 (va_A (xw q k a z o) s.heap.size)) (F0 m 2 ls [])) {v1 : Int32} {ls : Array Slot} (hl : lv_has ls 4 [(0, .ref (q 23)), (1, .int v1)]) (hf : g_X5_moves_2s K2 b v1 = some y) : W p l e r_X5_moves s m args below meth c H locs 0 0 (xMQ below (xQm D q k a z o (.inr (some (.int y.1), a, y.2))) args s 0 0 (va_A (xw q k a z o) s.heap.size)) (F0 m 2 ls []) := by
  obtain ⟨hx, hb, hml, hr, hlocks, hown, hno, hG⟩ := C
  have hK := hG.1
  have hE := hG.2.1
  have hA : ∀ u, s.heap.size ≤ u → va_A (xw q k a z o) s.heap.size u := fun u h => Or.inr h
  unfold g_X5_moves_2s at hf
  refine lv_iload_n hx hb dX5_moves_2 rfl (lv_at hl 1 rfl) ?_
  refine lv_sipush (v := 240) hx hb dX5_moves_3 (by decide) ?_
  refine lv_icmp_ge hx hb dX5_moves_6 rfl (fun hc => ?_) (fun hc => ?_)
  · rw [if_pos hc] at hf
    refine lv_iconst (v := 0) hx hb dX5_moves_147 (by decide) ?_
    cases hf
    exact xretm_z hx hb hr xz0 hlocks hP hS dX5_moves_148
  · rw [if_neg hc] at hf
    refine lv_aload_n hx hb dX5_moves_9 rfl (lv_at hl 0 rfl) ?_
    refine va_get (D := D) (ci := 5) (v := .ref (q 24)) (C := RX5) (T := TX5) (N := 19) hx hb (hwX5 hE) (fun _ h => h) hown hK hP 23 rfl rfl 1 (by decide) (hE _ fl_X5_7 rfl _) (fun _ h9 => h9) rfl dX5_moves_10 ?_
    refine lv_iload_n hx hb dX5_moves_13 rfl (lv_at hl 1 rfl) ?_
    obtain ⟨hin, hf⟩ := xguard hf
    refine va_zald hx hb hK hP 24 1 rfl rfl hin dX5_moves_14 ?_
    refine lv_if_eq hx hb dX5_moves_15 rfl (fun hc => ?_) (fun hc => ?_)
    · rw [if_pos hc] at hf
      exact t_X5_moves_42 ⟨hx, hb, hml, hr, hlocks, hown, hno, hG⟩ hP hD hS hK2 (lv_sub hl [0, 1] rfl) hf
    · rw [if_neg hc] at hf
      refine lv_aload_n hx hb dX5_moves_18 rfl (lv_at hl 0 rfl) ?_
      refine va_get (D := D) (ci := 5) (v := .ref (q 25)) (C := RX5) (T := TX5) (N := 19) hx hb (hwX5 hE) (fun _ h => h) hown hK hP 23 rfl rfl 2 (by decide) (hE _ fl_X5_13 rfl _) (fun _ h9 => h9) rfl dX5_moves_19 ?_
      refine lv_iload_n hx hb dX5_moves_22 rfl (lv_at hl 1 rfl) ?_
      obtain ⟨hin, hf⟩ := xguard hf
      refine va_iald hx hb hK hP 25 0 rfl rfl hin dX5_moves_23 ?_
      refine lv_iconst (v := -1) hx hb dX5_moves_24 (by decide) ?_
      refine lv_icmp_eq hx hb dX5_moves_25 rfl (fun hc => ?_) (fun hc => ?_)
      · rw [if_pos hc] at hf
        exact t_X5_moves_42 ⟨hx, hb, hml, hr, hlocks, hown, hno, hG⟩ hP hD hS hK2 (lv_sub hl [0, 1] rfl) hf
      · rw [if_neg hc] at hf
        refine lv_aload_n hx hb dX5_moves_28 rfl (lv_at hl 0 rfl) ?_
        refine lv_iload_n hx hb dX5_moves_29 rfl (lv_at hl 1 rfl) ?_
        refine lv_aload_n hx hb dX5_moves_30 rfl (lv_at hl 0 rfl) ?_
        refine va_get (D := D) (ci := 5) (v := .ref (q 25)) (C := RX5) (T := TX5) (N := 19) hx hb (hwX5 hE) (fun _ h => h) hown hK hP 23 rfl rfl 2 (by decide) (hE _ fl_X5_13 rfl _) (fun _ h9 => h9) rfl dX5_moves_31 ?_
        refine lv_iload_n hx hb dX5_moves_34 rfl (lv_at hl 1 rfl) ?_
        obtain ⟨hin, hf⟩ := xguard hf
        refine va_iald hx hb hK hP 25 0 rfl rfl hin dX5_moves_35 ?_
        obtain ⟨r36, hN, hf⟩ := xbind hf
        refine xgo_r (v := some (.int r36)) (xrunV (C := RX5) (As := [.int v1, .int (b.1 1 v1.toNatClampNeg)]) (rest := []) (xfixm fx_X5_follower hx hb hml hown (by decide) (by decide) (by decide) (by decide)) hE ml_X5_125 wi_X5_follower wz_X5_follower wc_X5_follower wn_X5 (c_X5_follower l D q k a b o v1 (b.1 1 v1.toNatClampNeg) _ hN) (va_recv (q := (RX5, TX5, 19)) (ci := 5) (q0 := 23) hK hP rfl rfl) (xpre hP hD hG) rfl rfl hl.1 rfl (lv_room (Nat.le_of_ble_eq_true rfl)) dX5_moves_36) ?_
        refine lv_goto hx hb dX5_moves_39 rfl ?_
        exact t_X5_moves_43 ⟨hx, hb, hml, hr, hlocks, hown, hno, hG⟩ hP hD hS hK2 (lv_sub hl [0, 1] rfl) hf
noncomputable def g_X5_moves_2  : Nat → xT → Int32 → Option (Int32 × xT) := fun n => Nat.rec (motive := fun _ => xT → Int32 → Option (Int32 × xT)) (fun _ _ => none) (fun _ ih => g_X5_moves_2s ih) n
set_option maxHeartbeats 4000000 in
theorem t_X5_moves_2 {p : Program} {l : Launch} {e : Env} {s : State} {m : MethodId} {args : Array Value} {below : List Frame} {meth : Method} {c : Code} {D : va_G} {q : Nat → Nat} {k : Nat → ClassId} {a : xT} {o : Nat → Int64} {z : xT} {y : Int32 × xT} (C : xCx p s m meth c cX5_moves 4 (some .boolean) RX5 D k)  (n : Nat) : ∀ {b : xT} {v1 : Int32} {ls : Array Slot} {H : Heap} {locs : List Loc}, va_P D vwCl (xw q k a b o) H → va_D (va_A (xw q k a z o) s.heap.size) (xw q k a b o) → va_S (va_A (xw q k a z o) s.heap.size) s.heap H locs → lv_has ls 4 [(0, .ref (q 23)), (1, .int v1)] → g_X5_moves_2  n b v1 = some y → W p l e r_X5_moves s m args below meth c H locs 0 0 (xMQ below (xQm D q k a z o (.inr (some (.int y.1), a, y.2))) args s 0 0 (va_A (xw q k a z o) s.heap.size)) (F0 m 2 ls []) := by
  induction n with
  | zero =>
    intro _ _ _ _ _ _ _ _ _ hf
    have h9 : (none : Option (Int32 × xT)) = some y := hf
    cases h9
  | succ n ih =>
    intro _ _ _ _ _ hP hD hS hl hf
    exact t_X5_moves_2s C hP hD hS (K2 := g_X5_moves_2  n) ih hl hf
noncomputable def g_X5_moves_0  (b : xT)  : Option (Int32 × xT) := g_X5_moves_2  1000 b 0
set_option maxHeartbeats 4000000 in
set_option maxRecDepth 100000 in
theorem t_X5_moves_0 {p : Program} {l : Launch} {e : Env} {s : State} {m : MethodId} {args : Array Value} {below : List Frame} {meth : Method} {c : Code} {D : va_G} {q : Nat → Nat} {k : Nat → ClassId} {a b : xT} {o : Nat → Int64} {z : xT} {y : Int32 × xT} (C : xCx p s m meth c cX5_moves 4 (some .boolean) RX5 D k) {H : Heap} {locs : List Loc} (hP : va_P D vwCl (xw q k a b o) H) (hD : va_D (va_A (xw q k a z o) s.heap.size) (xw q k a b o)) (hS : va_S (va_A (xw q k a z o) s.heap.size) s.heap H locs)  {ls : Array Slot} (hl : lv_has ls 4 [(0, .ref (q 23))]) (hf : g_X5_moves_0  b  = some y) : W p l e r_X5_moves s m args below meth c H locs 0 0 (xMQ below (xQm D q k a z o (.inr (some (.int y.1), a, y.2))) args s 0 0 (va_A (xw q k a z o) s.heap.size)) (F0 m 0 ls []) := by
  obtain ⟨hx, hb, hml, hr, hlocks, hown, hno, hG⟩ := C
  have hK := hG.1
  have hE := hG.2.1
  have hA : ∀ u, s.heap.size ≤ u → va_A (xw q k a z o) s.heap.size u := fun u h => Or.inr h
  unfold g_X5_moves_0 at hf
  refine lv_iconst (v := 0) hx hb dX5_moves_0 (by decide) ?_
  refine lv_istore_n (lv' := [(1, .int 0), (0, .ref (q 23))]) hx hb dX5_moves_1 rfl hl (by decide) rfl (fun ls hl => ?_)
  exact t_X5_moves_2 ⟨hx, hb, hml, hr, hlocks, hown, hno, hG⟩  1000 hP hD hS (lv_sub hl [1, 0] rfl) hf
noncomputable def f_X5_moves (b : xT)  : Option (Int32 × xT) := g_X5_moves_0 b 
set_option maxHeartbeats 4000000 in
set_option maxRecDepth 100000 in
theorem c_X5_moves (l : Launch) (D : va_G) (q : Nat → Nat) (k : Nat → ClassId) (sz : Nat) (a b : xT) (o : Nat → Int64)  (y : Int32 × xT) (hf : f_X5_moves b  = some y) : xMet l yX5_moves (.code yX5_moves cX5_moves 4 (some .boolean)) r_X5_moves (xPcm D q k sz a b o [.ref (q 23)]) (xQm D q k a b o (.inr (some (.int y.1), a, y.2))) 0 0 (va_A (xw q k a b o) sz) := by
  refine xMet.ofW (by decide) ?_
  intro p e s m args below meth c hx hb hml hr hlocks hnm hme hno hv
  obtain ⟨rfl, hsz, hP, hD, hG⟩ := hv
  subst hsz
  have hown : s.vm.findClass RX5 = some m.cls := findClass_of_methodNamed hnm
  have hl := lv_entry ([.ref (q 23)]) (n := 4) (Nat.le_of_ble_eq_true rfl)
  rw [lg_entry_eq]
  generalize (lg_sl ([.ref (q 23)]) ++ List.replicate (4 - (lg_sl ([.ref (q 23)])).length) Slot.unset).toArray = ls at hl ⊢
  have hl : lv_has ls 4 [(0, .ref (q 23))] := hl
  have hD := hD.self (sz := s.heap.size)
  exact t_X5_moves_0 ⟨hx, hb, hml, hr, hlocks, hown, hno, hG⟩ hP hD va_S.rf hl hf
