abbrev r_X4_contentCanUse : Room := { frames := 1, cells := 0, slots := 0, locals := 22 }
noncomputable def g_X4_contentCanUse_32  (a : xT) (s0 : Int32) : Option (Int32) := (if xzb s0 = true then some s0 else none)
set_option maxHeartbeats 4000000 in
set_option maxRecDepth 100000 in
theorem t_X4_contentCanUse_32 {p : Program} {l : Launch} {e : Env} {s : State} {m : MethodId} {args : Array Value} {below : List Frame} {meth : Method} {c : Code} {D : va_G} {q : Nat → Nat} {k : Nat → ClassId} {a b : xT} {o : Nat → Int64} {y : Int32} (C : xCx p s m meth c cX4_contentCanUse 4 (some .boolean) RX4 D k) (hP : va_P D vwCl (xw q k a b o) s.heap) (hD : va_D (fun _ => True) (xw q k a b o))  {s0 : Int32} {ls : Array Slot} (hl : lv_has ls 4 []) (hf : g_X4_contentCanUse_32  a s0 = some y) : W p l e r_X4_contentCanUse s m args below meth c s.heap [] 0 0 (xMQ below (xQr (.inr (some (.int y)))) args s (xmc (.inr (some (.int y)))) (xms (.inr (some (.int y)))) (fun _ => False)) (F0 m 32 ls [.int s0]) := by
  obtain ⟨hx, hb, hml, hr, hlocks, hown, hno, hG⟩ := C
  have hK := hG.1
  have hE := hG.2.1
  unfold g_X4_contentCanUse_32 at hf
  obtain ⟨hz, hf⟩ := xguz hf
  cases hf
  exact xret_z hx hb hr hz hlocks dX4_contentCanUse_32
noncomputable def g_X4_contentCanUse_27  (a : xT)  : Option (Int32) := g_X4_contentCanUse_32  a 1
set_option maxHeartbeats 4000000 in
set_option maxRecDepth 100000 in
theorem t_X4_contentCanUse_27 {p : Program} {l : Launch} {e : Env} {s : State} {m : MethodId} {args : Array Value} {below : List Frame} {meth : Method} {c : Code} {D : va_G} {q : Nat → Nat} {k : Nat → ClassId} {a b : xT} {o : Nat → Int64} {y : Int32} (C : xCx p s m meth c cX4_contentCanUse 4 (some .boolean) RX4 D k) (hP : va_P D vwCl (xw q k a b o) s.heap) (hD : va_D (fun _ => True) (xw q k a b o))  {ls : Array Slot} (hl : lv_has ls 4 []) (hf : g_X4_contentCanUse_27  a  = some y) : W p l e r_X4_contentCanUse s m args below meth c s.heap [] 0 0 (xMQ below (xQr (.inr (some (.int y)))) args s (xmc (.inr (some (.int y)))) (xms (.inr (some (.int y)))) (fun _ => False)) (F0 m 27 ls []) := by
  obtain ⟨hx, hb, hml, hr, hlocks, hown, hno, hG⟩ := C
  have hK := hG.1
  have hE := hG.2.1
  unfold g_X4_contentCanUse_27 at hf
  refine lv_iconst (v := 1) hx hb dX4_contentCanUse_27 (by decide) ?_
  refine lv_goto hx hb dX4_contentCanUse_28 rfl ?_
  exact t_X4_contentCanUse_32 ⟨hx, hb, hml, hr, hlocks, hown, hno, hG⟩ hP hD  (lv_sub hl [] rfl) hf
noncomputable def g_X4_contentCanUse_0  (a : xT) (v1 : Int32) (v2 : Int32) : Option (Int32) := (if xin v1 240 = true then (if (a.1 2 v1.toNatClampNeg) = (-1) then g_X4_contentCanUse_27  a  else ((f_X1_canUse a (a.1 2 v1.toNatClampNeg) v2).bind fun r21 => (if r21 = 0 then g_X4_contentCanUse_32  a 0 else g_X4_contentCanUse_27  a ))) else none)
set_option maxHeartbeats 4000000 in
set_option maxRecDepth 100000 in
theorem t_X4_contentCanUse_0 {p : Program} {l : Launch} {e : Env} {s : State} {m : MethodId} {args : Array Value} {below : List Frame} {meth : Method} {c : Code} {D : va_G} {q : Nat → Nat} {k : Nat → ClassId} {a b : xT} {o : Nat → Int64} {y : Int32} (C : xCx p s m meth c cX4_contentCanUse 4 (some .boolean) RX4 D k) (hP : va_P D vwCl (xw q k a b o) s.heap) (hD : va_D (fun _ => True) (xw q k a b o))  {v1 v2 : Int32} {ls : Array Slot} (hl : lv_has ls 4 [(0, .ref (q 0)), (1, .int v1), (2, .int v2)]) (hf : g_X4_contentCanUse_0  a v1 v2 = some y) : W p l e r_X4_contentCanUse s m args below meth c s.heap [] 0 0 (xMQ below (xQr (.inr (some (.int y)))) args s (xmc (.inr (some (.int y)))) (xms (.inr (some (.int y)))) (fun _ => False)) (F0 m 0 ls []) := by
  obtain ⟨hx, hb, hml, hr, hlocks, hown, hno, hG⟩ := C
  have hK := hG.1
  have hE := hG.2.1
  unfold g_X4_contentCanUse_0 at hf
  refine lv_aload_n hx hb dX4_contentCanUse_0 rfl (lv_at hl 0 rfl) ?_
  refine va_get (D := D) (ci := 4) (v := .ref (q 1)) (C := RX4) (T := TX4) (N := 4) hx hb (hwX4 hE) (fun _ h => h) hown hK hP 0 rfl rfl 0 (by decide) (hE _ fl_X4_12 rfl _) (fun _ h9 => h9) rfl dX4_contentCanUse_1 ?_
  refine va_get (D := D) (ci := 3) (v := .ref (q 7)) (C := RX3) (T := TX3) (N := 3) hx hb (hwX3 hE) (fun _ h => h) hown hK hP 1 rfl rfl 2 (by decide) (hE _ fl_X4_100 rfl _) (fun _ h9 => h9) rfl dX4_contentCanUse_4 ?_
  refine lv_iload_n hx hb dX4_contentCanUse_7 rfl (lv_at hl 1 rfl) ?_
  obtain ⟨hin, hf⟩ := xguard hf
  refine va_iald hx hb hK hP 7 0 rfl rfl hin dX4_contentCanUse_8 ?_
  refine lv_istore_n (lv' := [(3, .int (a.1 2 v1.toNatClampNeg)), (0, .ref (q 0)), (1, .int v1), (2, .int v2)]) hx hb dX4_contentCanUse_9 rfl hl (by decide) rfl (fun ls hl => ?_)
  refine lv_iload_n hx hb dX4_contentCanUse_10 rfl (lv_at hl 0 rfl) ?_
  refine lv_iconst (v := -1) hx hb dX4_contentCanUse_11 (by decide) ?_
  refine lv_icmp_eq hx hb dX4_contentCanUse_12 rfl (fun hc => ?_) (fun hc => ?_)
  · rw [if_pos hc] at hf
    exact t_X4_contentCanUse_27 ⟨hx, hb, hml, hr, hlocks, hown, hno, hG⟩ hP hD  (lv_sub hl [] rfl) hf
  · rw [if_neg hc] at hf
    refine lv_aload_n hx hb dX4_contentCanUse_15 rfl (lv_at hl 1 rfl) ?_
    refine va_get (D := D) (ci := 4) (v := .ref (q 2)) (C := RX4) (T := TX4) (N := 4) hx hb (hwX4 hE) (fun _ h => h) hown hK hP 0 rfl rfl 1 (by decide) (hE _ fl_X4_19 rfl _) (fun _ h9 => h9) rfl dX4_contentCanUse_16 ?_
    refine lv_iload_n hx hb dX4_contentCanUse_19 rfl (lv_at hl 0 rfl) ?_
    refine lv_iload_n hx hb dX4_contentCanUse_20 rfl (lv_at hl 3 rfl) ?_
    obtain ⟨r21, hN, hf⟩ := xbind hf
    refine xgo_r (v := some (.int r21)) (xrunV (C := RX1) (As := [.int (a.1 2 v1.toNatClampNeg), .int v2]) (rest := []) (xfixm fx_X1_canUse hx hb hml hown (by decide) (by decide) (by decide) (by decide)) hE ml_X4_109 wi_X1_canUse wz_X1_canUse wc_X1_canUse wn_X1 (c_X1_canUse l D q k a b o (a.1 2 v1.toNatClampNeg) v2 _ hN) (va_recv (q := (RX1, TX1, 8)) (ci := 1) (q0 := 2) hK hP rfl rfl) (xpre hP hD hG) rfl rfl hl.1 rfl (lv_room (Nat.le_of_ble_eq_true rfl)) dX4_contentCanUse_21) ?_
    refine lv_if_eq hx hb dX4_contentCanUse_24 rfl (fun hc => ?_) (fun hc => ?_)
    · rw [if_pos hc] at hf
      refine lv_iconst (v := 0) hx hb dX4_contentCanUse_31 (by decide) ?_
      exact t_X4_contentCanUse_32 ⟨hx, hb, hml, hr, hlocks, hown, hno, hG⟩ hP hD  (lv_sub hl [] rfl) hf
    · rw [if_neg hc] at hf
      exact t_X4_contentCanUse_27 ⟨hx, hb, hml, hr, hlocks, hown, hno, hG⟩ hP hD  (lv_sub hl [] rfl) hf
noncomputable def f_X4_contentCanUse (a : xT) (v1 : Int32) (v2 : Int32) : Option (Int32) := g_X4_contentCanUse_0 a v1 v2
set_option maxHeartbeats 4000000 in
set_option maxRecDepth 100000 in
theorem c_X4_contentCanUse (l : Launch) (D : va_G) (q : Nat → Nat) (k : Nat → ClassId) (a b : xT) (o : Nat → Int64) (v1 : Int32) (v2 : Int32) (y : Int32) (hf : f_X4_contentCanUse a v1 v2 = some y) : xMet l yX4_contentCanUse (.code yX4_contentCanUse cX4_contentCanUse 4 (some .boolean)) r_X4_contentCanUse (xPc D q k a b o [.ref (q 0), .int v1, .int v2]) (xQr (.inr (some (.int y)))) (xmc (.inr (some (.int y)))) (xms (.inr (some (.int y)))) (fun _ => False) := by
  refine xMet.ofW (by decide) ?_
  intro p e s m args below meth c hx hb hml hr hlocks hnm hme hno hv
  obtain ⟨rfl, hP, hD, hG⟩ := hv
  have hown : s.vm.findClass RX4 = some m.cls := findClass_of_methodNamed hnm
  have hl := lv_entry ([.ref (q 0), .int v1, .int v2]) (n := 4) (Nat.le_of_ble_eq_true rfl)
  rw [lg_entry_eq]
  generalize (lg_sl ([.ref (q 0), .int v1, .int v2]) ++ List.replicate (4 - (lg_sl ([.ref (q 0), .int v1, .int v2])).length) Slot.unset).toArray = ls at hl ⊢
  have hl : lv_has ls 4 [(0, .ref (q 0)), (1, .int v1), (2, .int v2)] := hl
  exact t_X4_contentCanUse_0 ⟨hx, hb, hml, hr, hlocks, hown, hno, hG⟩ hP hD hl hf
abbrev r_X4_isGood : Room := { frames := 2, cells := 0, slots := 0, locals := 45 }
noncomputable def g_X4_isGood_105  (a : xT) (s0 : Int32) : Option (Int32) := (if xzb s0 = true then some s0 else none)
set_option maxHeartbeats 4000000 in
set_option maxRecDepth 100000 in
theorem t_X4_isGood_105 {p : Program} {l : Launch} {e : Env} {s : State} {m : MethodId} {args : Array Value} {below : List Frame} {meth : Method} {c : Code} {D : va_G} {q : Nat → Nat} {k : Nat → ClassId} {a b : xT} {o : Nat → Int64} {y : Int32} (C : xCx p s m meth c cX4_isGood 4 (some .boolean) RX4 D k) (hP : va_P D vwCl (xw q k a b o) s.heap) (hD : va_D (fun _ => True) (xw q k a b o))  {s0 : Int32} {ls : Array Slot} (hl : lv_has ls 4 []) (hf : g_X4_isGood_105  a s0 = some y) : W p l e r_X4_isGood s m args below meth c s.heap [] 0 0 (xMQ below (xQr (.inr (some (.int y)))) args s (xmc (.inr (some (.int y)))) (xms (.inr (some (.int y)))) (fun _ => False)) (F0 m 105 ls [.int s0]) := by
  obtain ⟨hx, hb, hml, hr, hlocks, hown, hno, hG⟩ := C
  have hK := hG.1
  have hE := hG.2.1
  unfold g_X4_isGood_105 at hf
  obtain ⟨hz, hf⟩ := xguz hf
  cases hf
  exact xret_z hx hb hr hz hlocks dX4_isGood_105
noncomputable def g_X4_isGood_104  (a : xT)  : Option (Int32) := g_X4_isGood_105  a 0
set_option maxHeartbeats 4000000 in
set_option maxRecDepth 100000 in
theorem t_X4_isGood_104 {p : Program} {l : Launch} {e : Env} {s : State} {m : MethodId} {args : Array Value} {below : List Frame} {meth : Method} {c : Code} {D : va_G} {q : Nat → Nat} {k : Nat → ClassId} {a b : xT} {o : Nat → Int64} {y : Int32} (C : xCx p s m meth c cX4_isGood 4 (some .boolean) RX4 D k) (hP : va_P D vwCl (xw q k a b o) s.heap) (hD : va_D (fun _ => True) (xw q k a b o))  {ls : Array Slot} (hl : lv_has ls 4 []) (hf : g_X4_isGood_104  a  = some y) : W p l e r_X4_isGood s m args below meth c s.heap [] 0 0 (xMQ below (xQr (.inr (some (.int y)))) args s (xmc (.inr (some (.int y)))) (xms (.inr (some (.int y)))) (fun _ => False)) (F0 m 104 ls []) := by
  obtain ⟨hx, hb, hml, hr, hlocks, hown, hno, hG⟩ := C
  have hK := hG.1
  have hE := hG.2.1
  unfold g_X4_isGood_104 at hf
  refine lv_iconst (v := 0) hx hb dX4_isGood_104 (by decide) ?_
  exact t_X4_isGood_105 ⟨hx, hb, hml, hr, hlocks, hown, hno, hG⟩ hP hD  (lv_sub hl [] rfl) hf
noncomputable def g_X4_isGood_0  (a : xT) (v1 : Int32) : Option (Int32) := (if xin v1 40 = true then (if xin v1 40 = true then (if xin v1 40 = true then (if (a.1 13 v1.toNatClampNeg) = 0 then g_X4_isGood_104  a  else ((f_X3_isSlot a (a.1 11 v1.toNatClampNeg)).bind fun r37 => (if r37 = 0 then g_X4_isGood_104  a  else (if xin (a.1 11 v1.toNatClampNeg) 240 = true then (if xin v1 40 = true then (if (a.1 1 (a.1 11 v1.toNatClampNeg).toNatClampNeg) = (a.1 10 v1.toNatClampNeg) then ((f_X4_isFrozen a (a.1 11 v1.toNatClampNeg)).bind fun r66 => (if r66 = 0 then ((f_X3_isSlot a (a.1 12 v1.toNatClampNeg)).bind fun r77 => (if r77 = 0 then g_X4_isGood_104  a  else ((f_X4_isFrozen a (a.1 12 v1.toNatClampNeg)).bind fun r85 => (if r85 = 0 then ((f_X4_contentCanUse a (a.1 11 v1.toNatClampNeg) (a.1 12 v1.toNatClampNeg)).bind fun r94 => (if r94 = 0 then g_X4_isGood_104  a  else g_X4_isGood_105  a 1)) else g_X4_isGood_104  a )))) else g_X4_isGood_104  a )) else g_X4_isGood_104  a ) else none) else none)))) else none) else none) else none)
set_option maxHeartbeats 4000000 in
set_option maxRecDepth 100000 in
theorem t_X4_isGood_0 {p : Program} {l : Launch} {e : Env} {s : State} {m : MethodId} {args : Array Value} {below : List Frame} {meth : Method} {c : Code} {D : va_G} {q : Nat → Nat} {k : Nat → ClassId} {a b : xT} {o : Nat → Int64} {y : Int32} (C : xCx p s m meth c cX4_isGood 4 (some .boolean) RX4 D k) (hP : va_P D vwCl (xw q k a b o) s.heap) (hD : va_D (fun _ => True) (xw q k a b o))  {v1 : Int32} {ls : Array Slot} (hl : lv_has ls 4 [(0, .ref (q 0)), (1, .int v1)]) (hf : g_X4_isGood_0  a v1 = some y) : W p l e r_X4_isGood s m args below meth c s.heap [] 0 0 (xMQ below (xQr (.inr (some (.int y)))) args s (xmc (.inr (some (.int y)))) (xms (.inr (some (.int y)))) (fun _ => False)) (F0 m 0 ls []) := by
  obtain ⟨hx, hb, hml, hr, hlocks, hown, hno, hG⟩ := C
  have hK := hG.1
  have hE := hG.2.1
  unfold g_X4_isGood_0 at hf
  refine lv_aload_n hx hb dX4_isGood_0 rfl (lv_at hl 0 rfl) ?_
  refine va_get (D := D) (ci := 4) (v := .ref (q 3)) (C := RX4) (T := TX4) (N := 4) hx hb (hwX4 hE) (fun _ h => h) hown hK hP 0 rfl rfl 2 (by decide) (hE _ fl_X4_26 rfl _) (fun _ h9 => h9) rfl dX4_isGood_1 ?_
  refine va_get (D := D) (ci := 2) (v := .ref (q 16)) (C := RX2) (T := TX2) (N := 5) hx hb (hwX2 hE) (fun _ h => h) hown hK hP 3 rfl rfl 1 (by decide) (hE _ fl_X4_237 rfl _) (fun _ h9 => h9) rfl dX4_isGood_4 ?_
  refine lv_iload_n hx hb dX4_isGood_7 rfl (lv_at hl 1 rfl) ?_
  obtain ⟨hin, hf⟩ := xguard hf
  refine va_iald hx hb hK hP 16 0 rfl rfl hin dX4_isGood_8 ?_
  refine lv_istore_n (lv' := [(2, .int (a.1 11 v1.toNatClampNeg)), (0, .ref (q 0)), (1, .int v1)]) hx hb dX4_isGood_9 rfl hl (by decide) rfl (fun ls hl => ?_)
  refine lv_aload_n hx hb dX4_isGood_10 rfl (lv_at hl 1 rfl) ?_
  refine va_get (D := D) (ci := 4) (v := .ref (q 3)) (C := RX4) (T := TX4) (N := 4) hx hb (hwX4 hE) (fun _ h => h) hown hK hP 0 rfl rfl 2 (by decide) (hE _ fl_X4_26 rfl _) (fun _ h9 => h9) rfl dX4_isGood_11 ?_
  refine va_get (D := D) (ci := 2) (v := .ref (q 17)) (C := RX2) (T := TX2) (N := 5) hx hb (hwX2 hE) (fun _ h => h) hown hK hP 3 rfl rfl 2 (by decide) (hE _ fl_X4_240 rfl _) (fun _ h9 => h9) rfl dX4_isGood_14 ?_
  refine lv_iload_n hx hb dX4_isGood_17 rfl (lv_at hl 2 rfl) ?_
  obtain ⟨hin, hf⟩ := xguard hf
  refine va_iald hx hb hK hP 17 0 rfl rfl hin dX4_isGood_18 ?_
  refine lv_istore_n (lv' := [(3, .int (a.1 12 v1.toNatClampNeg)), (2, .int (a.1 11 v1.toNatClampNeg)), (0, .ref (q 0)), (1, .int v1)]) hx hb dX4_isGood_19 rfl hl (by decide) rfl (fun ls hl => ?_)
  refine lv_aload_n hx hb dX4_isGood_20 rfl (lv_at hl 2 rfl) ?_
  refine va_get (D := D) (ci := 4) (v := .ref (q 3)) (C := RX4) (T := TX4) (N := 4) hx hb (hwX4 hE) (fun _ h => h) hown hK hP 0 rfl rfl 2 (by decide) (hE _ fl_X4_26 rfl _) (fun _ h9 => h9) rfl dX4_isGood_21 ?_
  refine va_get (D := D) (ci := 2) (v := .ref (q 18)) (C := RX2) (T := TX2) (N := 5) hx hb (hwX2 hE) (fun _ h => h) hown hK hP 3 rfl rfl 3 (by decide) (hE _ fl_X4_152 rfl _) (fun _ h9 => h9) rfl dX4_isGood_24 ?_
  refine lv_iload_n hx hb dX4_isGood_27 rfl (lv_at hl 3 rfl) ?_
  obtain ⟨hin, hf⟩ := xguard hf
  refine va_zald hx hb hK hP 18 1 rfl rfl hin dX4_isGood_28 ?_
  refine lv_if_eq hx hb dX4_isGood_29 rfl (fun hc => ?_) (fun hc => ?_)
  · rw [if_pos hc] at hf
    exact t_X4_isGood_104 ⟨hx, hb, hml, hr, hlocks, hown, hno, hG⟩ hP hD  (lv_sub hl [] rfl) hf
  · rw [if_neg hc] at hf
    refine lv_aload_n hx hb dX4_isGood_32 rfl (lv_at hl 2 rfl) ?_
    refine va_get (D := D) (ci := 4) (v := .ref (q 1)) (C := RX4) (T := TX4) (N := 4) hx hb (hwX4 hE) (fun _ h => h) hown hK hP 0 rfl rfl 0 (by decide) (hE _ fl_X4_12 rfl _) (fun _ h9 => h9) rfl dX4_isGood_33 ?_
    refine lv_iload_n hx hb dX4_isGood_36 rfl (lv_at hl 1 rfl) ?_
    obtain ⟨r37, hN, hf⟩ := xbind hf
    refine xgo_r (v := some (.int r37)) (xrunV (C := RX3) (As := [.int (a.1 11 v1.toNatClampNeg)]) (rest := []) (xfixm fx_X3_isSlot hx hb hml hown (by decide) (by decide) (by decide) (by decide)) hE ml_X4_206 wi_X3_isSlot wz_X3_isSlot wc_X3_isSlot wn_X3 (c_X3_isSlot l D q k a b o (a.1 11 v1.toNatClampNeg) _ hN) (va_recv (q := (RX3, TX3, 3)) (ci := 3) (q0 := 1) hK hP rfl rfl) (xpre hP hD hG) rfl rfl hl.1 rfl (lv_room (Nat.le_of_ble_eq_true rfl)) dX4_isGood_37) ?_
    refine lv_if_eq hx hb dX4_isGood_40 rfl (fun hc => ?_) (fun hc => ?_)
    · rw [if_pos hc] at hf
      exact t_X4_isGood_104 ⟨hx, hb, hml, hr, hlocks, hown, hno, hG⟩ hP hD  (lv_sub hl [] rfl) hf
    · rw [if_neg hc] at hf
      refine lv_aload_n hx hb dX4_isGood_43 rfl (lv_at hl 2 rfl) ?_
      refine va_get (D := D) (ci := 4) (v := .ref (q 1)) (C := RX4) (T := TX4) (N := 4) hx hb (hwX4 hE) (fun _ h => h) hown hK hP 0 rfl rfl 0 (by decide) (hE _ fl_X4_12 rfl _) (fun _ h9 => h9) rfl dX4_isGood_44 ?_
      refine va_get (D := D) (ci := 3) (v := .ref (q 6)) (C := RX3) (T := TX3) (N := 3) hx hb (hwX3 hE) (fun _ h => h) hown hK hP 1 rfl rfl 1 (by decide) (hE _ fl_X4_97 rfl _) (fun _ h9 => h9) rfl dX4_isGood_47 ?_
      refine lv_iload_n hx hb dX4_isGood_50 rfl (lv_at hl 1 rfl) ?_
      obtain ⟨hin, hf⟩ := xguard hf
      refine va_iald hx hb hK hP 6 0 rfl rfl hin dX4_isGood_51 ?_
      refine lv_aload_n hx hb dX4_isGood_52 rfl (lv_at hl 2 rfl) ?_
      refine va_get (D := D) (ci := 4) (v := .ref (q 3)) (C := RX4) (T := TX4) (N := 4) hx hb (hwX4 hE) (fun _ h => h) hown hK hP 0 rfl rfl 2 (by decide) (hE _ fl_X4_26 rfl _) (fun _ h9 => h9) rfl dX4_isGood_53 ?_
      refine va_get (D := D) (ci := 2) (v := .ref (q 15)) (C := RX2) (T := TX2) (N := 5) hx hb (hwX2 hE) (fun _ h => h) hown hK hP 3 rfl rfl 0 (by decide) (hE _ fl_X4_243 rfl _) (fun _ h9 => h9) rfl dX4_isGood_56 ?_
      refine lv_iload_n hx hb dX4_isGood_59 rfl (lv_at hl 3 rfl) ?_
      obtain ⟨hin, hf⟩ := xguard hf
      refine va_iald hx hb hK hP 15 0 rfl rfl hin dX4_isGood_60 ?_
      refine lv_icmp_ne hx hb dX4_isGood_61 rfl (fun hc => ?_) (fun hc => ?_)
      · rw [if_neg hc] at hf
        exact t_X4_isGood_104 ⟨hx, hb, hml, hr, hlocks, hown, hno, hG⟩ hP hD  (lv_sub hl [] rfl) hf
      · rw [if_pos hc] at hf
        refine lv_aload_n hx hb dX4_isGood_64 rfl (lv_at hl 2 rfl) ?_
        refine lv_iload_n hx hb dX4_isGood_65 rfl (lv_at hl 1 rfl) ?_
        obtain ⟨r66, hN, hf⟩ := xbind hf
        refine xgo_r (v := some (.int r66)) (xrunV (C := RX4) (As := [.int (a.1 11 v1.toNatClampNeg)]) (rest := []) (xfixm fx_X4_isFrozen hx hb hml hown (by decide) (by decide) (by decide) (by decide)) hE ml_X4_219 wi_X4_isFrozen wz_X4_isFrozen wc_X4_isFrozen wn_X4 (c_X4_isFrozen l D q k a b o (a.1 11 v1.toNatClampNeg) _ hN) (va_recv (q := (RX4, TX4, 4)) (ci := 4) (q0 := 0) hK hP rfl rfl) (xpre hP hD hG) rfl rfl hl.1 rfl (lv_room (Nat.le_of_ble_eq_true rfl)) dX4_isGood_66) ?_
        refine lv_if_ne hx hb dX4_isGood_69 rfl (fun hc => ?_) (fun hc => ?_)
        · rw [if_neg hc] at hf
          exact t_X4_isGood_104 ⟨hx, hb, hml, hr, hlocks, hown, hno, hG⟩ hP hD  (lv_sub hl [] rfl) hf
        · rw [if_pos hc] at hf
          refine lv_aload_n hx hb dX4_isGood_72 rfl (lv_at hl 2 rfl) ?_
          refine va_get (D := D) (ci := 4) (v := .ref (q 1)) (C := RX4) (T := TX4) (N := 4) hx hb (hwX4 hE) (fun _ h => h) hown hK hP 0 rfl rfl 0 (by decide) (hE _ fl_X4_12 rfl _) (fun _ h9 => h9) rfl dX4_isGood_73 ?_
          refine lv_iload_n hx hb dX4_isGood_76 rfl (lv_at hl 0 rfl) ?_
          obtain ⟨r77, hN, hf⟩ := xbind hf
          refine xgo_r (v := some (.int r77)) (xrunV (C := RX3) (As := [.int (a.1 12 v1.toNatClampNeg)]) (rest := []) (xfixm fx_X3_isSlot hx hb hml hown (by decide) (by decide) (by decide) (by decide)) hE ml_X4_206 wi_X3_isSlot wz_X3_isSlot wc_X3_isSlot wn_X3 (c_X3_isSlot l D q k a b o (a.1 12 v1.toNatClampNeg) _ hN) (va_recv (q := (RX3, TX3, 3)) (ci := 3) (q0 := 1) hK hP rfl rfl) (xpre hP hD hG) rfl rfl hl.1 rfl (lv_room (Nat.le_of_ble_eq_true rfl)) dX4_isGood_77) ?_
          refine lv_if_eq hx hb dX4_isGood_80 rfl (fun hc => ?_) (fun hc => ?_)
          · rw [if_pos hc] at hf
            exact t_X4_isGood_104 ⟨hx, hb, hml, hr, hlocks, hown, hno, hG⟩ hP hD  (lv_sub hl [] rfl) hf
          · rw [if_neg hc] at hf
            refine lv_aload_n hx hb dX4_isGood_83 rfl (lv_at hl 2 rfl) ?_
            refine lv_iload_n hx hb dX4_isGood_84 rfl (lv_at hl 0 rfl) ?_
            obtain ⟨r85, hN, hf⟩ := xbind hf
            refine xgo_r (v := some (.int r85)) (xrunV (C := RX4) (As := [.int (a.1 12 v1.toNatClampNeg)]) (rest := []) (xfixm fx_X4_isFrozen hx hb hml hown (by decide) (by decide) (by decide) (by decide)) hE ml_X4_219 wi_X4_isFrozen wz_X4_isFrozen wc_X4_isFrozen wn_X4 (c_X4_isFrozen l D q k a b o (a.1 12 v1.toNatClampNeg) _ hN) (va_recv (q := (RX4, TX4, 4)) (ci := 4) (q0 := 0) hK hP rfl rfl) (xpre hP hD hG) rfl rfl hl.1 rfl (lv_room (Nat.le_of_ble_eq_true rfl)) dX4_isGood_85) ?_
            refine lv_if_ne hx hb dX4_isGood_88 rfl (fun hc => ?_) (fun hc => ?_)
            · rw [if_neg hc] at hf
              exact t_X4_isGood_104 ⟨hx, hb, hml, hr, hlocks, hown, hno, hG⟩ hP hD  (lv_sub hl [] rfl) hf
            · rw [if_pos hc] at hf
              refine lv_aload_n hx hb dX4_isGood_91 rfl (lv_at hl 2 rfl) ?_
              refine lv_iload_n hx hb dX4_isGood_92 rfl (lv_at hl 1 rfl) ?_
              refine lv_iload_n hx hb dX4_isGood_93 rfl (lv_at hl 0 rfl) ?_
              obtain ⟨r94, hN, hf⟩ := xbind hf
              refine xgo_r (v := some (.int r94)) (xrunV (C := RX4) (As := [.int (a.1 11 v1.toNatClampNeg), .int (a.1 12 v1.toNatClampNeg)]) (rest := []) (xfixm fx_X4_contentCanUse hx hb hml hown (by decide) (by decide) (by decide) (by decide)) hE ml_X4_244 wi_X4_contentCanUse wz_X4_contentCanUse wc_X4_contentCanUse wn_X4 (c_X4_contentCanUse l D q k a b o (a.1 11 v1.toNatClampNeg) (a.1 12 v1.toNatClampNeg) _ hN) (va_recv (q := (RX4, TX4, 4)) (ci := 4) (q0 := 0) hK hP rfl rfl) (xpre hP hD hG) rfl rfl hl.1 rfl (lv_room (Nat.le_of_ble_eq_true rfl)) dX4_isGood_94) ?_
              refine lv_if_eq hx hb dX4_isGood_97 rfl (fun hc => ?_) (fun hc => ?_)
              · rw [if_pos hc] at hf
                exact t_X4_isGood_104 ⟨hx, hb, hml, hr, hlocks, hown, hno, hG⟩ hP hD  (lv_sub hl [] rfl) hf
              · rw [if_neg hc] at hf
                refine lv_iconst (v := 1) hx hb dX4_isGood_100 (by decide) ?_
                refine lv_goto hx hb dX4_isGood_101 rfl ?_
                exact t_X4_isGood_105 ⟨hx, hb, hml, hr, hlocks, hown, hno, hG⟩ hP hD  (lv_sub hl [] rfl) hf
noncomputable def f_X4_isGood (a : xT) (v1 : Int32) : Option (Int32) := g_X4_isGood_0 a v1
set_option maxHeartbeats 4000000 in
set_option maxRecDepth 100000 in
theorem c_X4_isGood (l : Launch) (D : va_G) (q : Nat → Nat) (k : Nat → ClassId) (a b : xT) (o : Nat → Int64) (v1 : Int32) (y : Int32) (hf : f_X4_isGood a v1 = some y) : xMet l yX4_isGood (.code yX4_isGood cX4_isGood 4 (some .boolean)) r_X4_isGood (xPc D q k a b o [.ref (q 0), .int v1]) (xQr (.inr (some (.int y)))) (xmc (.inr (some (.int y)))) (xms (.inr (some (.int y)))) (fun _ => False) := by
  refine xMet.ofW (by decide) ?_
  intro p e s m args below meth c hx hb hml hr hlocks hnm hme hno hv
  obtain ⟨rfl, hP, hD, hG⟩ := hv
  have hown : s.vm.findClass RX4 = some m.cls := findClass_of_methodNamed hnm
  have hl := lv_entry ([.ref (q 0), .int v1]) (n := 4) (Nat.le_of_ble_eq_true rfl)
  rw [lg_entry_eq]
  generalize (lg_sl ([.ref (q 0), .int v1]) ++ List.replicate (4 - (lg_sl ([.ref (q 0), .int v1])).length) Slot.unset).toArray = ls at hl ⊢
  have hl : lv_has ls 4 [(0, .ref (q 0)), (1, .int v1)] := hl
  exact t_X4_isGood_0 ⟨hx, hb, hml, hr, hlocks, hown, hno, hG⟩ hP hD hl hf
abbrev r_X4_partnerOf : Room := { frames := 3, cells := 0, slots := 0, locals := 68 }
noncomputable def g_X4_partnerOf_37 (K4 : Int32 → Int32 → Option (Int32)) (a : xT) (v1 : Int32) (v2 : Int32) : Option (Int32) := K4 v1 (v2 + 1)
set_option maxHeartbeats 4000000 in
set_option maxRecDepth 100000 in
theorem t_X4_partnerOf_37 {p : Program} {l : Launch} {e : Env} {s : State} {m : MethodId} {args : Array Value} {below : List Frame} {meth : Method} {c : Code} {D : va_G} {q : Nat → Nat} {k : Nat → ClassId} {a b : xT} {o : Nat → Int64} {y : Int32} (C : xCx p s m meth c cX4_partnerOf 3 (some .int) RX4 D k) (hP : va_P D vwCl (xw q k a b o) s.heap) (hD : va_D (fun _ => True) (xw q k a b o)) {K4 : Int32 → Int32 → Option (Int32)} (hK4 : ∀ {v1 v2 : Int32} {ls : Array Slot}, lv_has ls 3 [(0, .ref (q 0)), (1, .int v1), (2, .int v2)] → K4 v1 v2 = some y → W p l e r_X4_partnerOf s m args below meth c s.heap [] 0 0 (xMQ below (xQr (.inr (some (.int y)))) args s (xmc (.inr (some (.int y)))) (xms (.inr (some (.int y)))) (fun _ => False)) (F0 m 4 ls [])) {v1 v2 : Int32} {ls : Array Slot} (hl : lv_has ls 3 [(0, .ref (q 0)), (1, .int v1), (2, .int v2)]) (hf : g_X4_partnerOf_37 K4 a v1 v2 = some y) : W p l e r_X4_partnerOf s m args below meth c s.heap [] 0 0 (xMQ below (xQr (.inr (some (.int y)))) args s (xmc (.inr (some (.int y)))) (xms (.inr (some (.int y)))) (fun _ => False)) (F0 m 37 ls []) := by
  obtain ⟨hx, hb, hml, hr, hlocks, hown, hno, hG⟩ := C
  have hK := hG.1
  have hE := hG.2.1
  unfold g_X4_partnerOf_37 at hf
  refine lv_iinc (k := 2) (v := v2 + 1) (lv' := [(2, .int (v2 + 1)), (0, .ref (q 0)), (1, .int v1)]) hx hb dX4_partnerOf_37 hl rfl (xinc (by decide) _) (by decide) rfl (fun ls hl => ?_)
  refine lv_goto hx hb dX4_partnerOf_40 rfl ?_
  exact hK4 (lv_sub hl [1, 2, 0] rfl) hf
noncomputable def g_X4_partnerOf_4s (K4 : Int32 → Int32 → Option (Int32)) (a : xT) (v1 : Int32) (v2 : Int32) : Option (Int32) := (if (a.2 1) ≤ v2 then some (-1) else ((f_X2_areOpposite a v1 v2).bind fun r21 => (if r21 = 0 then g_X4_partnerOf_37 K4 a v1 v2 else ((f_X4_isGood a v2).bind fun r29 => (if r29 = 0 then g_X4_partnerOf_37 K4 a v1 v2 else some v2)))))
set_option maxHeartbeats 4000000 in
set_option maxRecDepth 100000 in
theorem t_X4_partnerOf_4s {p : Program} {l : Launch} {e : Env} {s : State} {m : MethodId} {args : Array Value} {below : List Frame} {meth : Method} {c : Code} {D : va_G} {q : Nat → Nat} {k : Nat → ClassId} {a b : xT} {o : Nat → Int64} {y : Int32} (C : xCx p s m meth c cX4_partnerOf 3 (some .int) RX4 D k) (hP : va_P D vwCl (xw q k a b o) s.heap) (hD : va_D (fun _ => True) (xw q k a b o)) {K4 : Int32 → Int32 → Option (Int32)} (hK4 : ∀ {v1 v2 : Int32} {ls : Array Slot}, lv_has ls 3 [(0, .ref (q 0)), (1, .int v1), (2, .int v2)] → K4 v1 v2 = some y → W p l e r_X4_partnerOf s m args below meth c s.heap [] 0 0 (xMQ below (xQr (.inr (some (.int y)))) args s (xmc (.inr (some (.int y)))) (xms (.inr (some (.int y)))) (fun _ => False)) (F0 m 4 ls [])) {v1 v2 : Int32} {ls : Array Slot} (hl : lv_has ls 3 [(0, .ref (q 0)), (1, .int v1), (2, .int v2)]) (hf : g_X4_partnerOf_4s K4 a v1 v2 = some y) : W p l e r_X4_partnerOf s m args below meth c s.heap [] 0 0 (xMQ below (xQr (.inr (some (.int y)))) args s (xmc (.inr (some (.int y)))) (xms (.inr (some (.int y)))) (fun _ => False)) (F0 m 4 ls []) := by
  obtain ⟨hx, hb, hml, hr, hlocks, hown, hno, hG⟩ := C
  have hK := hG.1
  have hE := hG.2.1
  unfold g_X4_partnerOf_4s at hf
  refine lv_iload_n hx hb dX4_partnerOf_4 rfl (lv_at hl 2 rfl) ?_
  refine lv_aload_n hx hb dX4_partnerOf_5 rfl (lv_at hl 0 rfl) ?_
  refine va_get (D := D) (ci := 4) (v := .ref (q 3)) (C := RX4) (T := TX4) (N := 4) hx hb (hwX4 hE) (fun _ h => h) hown hK hP 0 rfl rfl 2 (by decide) (hE _ fl_X4_26 rfl _) (fun _ h9 => h9) rfl dX4_partnerOf_6 ?_
  refine va_get (D := D) (ci := 2) (v := .int (a.2 1)) (C := RX2) (T := TX2) (N := 5) hx hb (hwX2 hE) (fun _ h => h) hown hK hP 3 rfl rfl 4 (by decide) (hE _ fl_X4_146 rfl _) (fun _ h9 => h9) rfl dX4_partnerOf_9 ?_
  refine lv_icmp_ge hx hb dX4_partnerOf_12 rfl (fun hc => ?_) (fun hc => ?_)
  · rw [if_pos hc] at hf
    refine lv_iconst (v := -1) hx hb dX4_partnerOf_43 (by decide) ?_
    cases hf
    exact xret_i hx hb hr hlocks dX4_partnerOf_44
  · rw [if_neg hc] at hf
    refine lv_aload_n hx hb dX4_partnerOf_15 rfl (lv_at hl 0 rfl) ?_
    refine va_get (D := D) (ci := 4) (v := .ref (q 3)) (C := RX4) (T := TX4) (N := 4) hx hb (hwX4 hE) (fun _ h => h) hown hK hP 0 rfl rfl 2 (by decide) (hE _ fl_X4_26 rfl _) (fun _ h9 => h9) rfl dX4_partnerOf_16 ?_
    refine lv_iload_n hx hb dX4_partnerOf_19 rfl (lv_at hl 1 rfl) ?_
    refine lv_iload_n hx hb dX4_partnerOf_20 rfl (lv_at hl 2 rfl) ?_
    obtain ⟨r21, hN, hf⟩ := xbind hf
    refine xgo_r (v := some (.int r21)) (xrunV (C := RX2) (As := [.int v1, .int v2]) (rest := []) (xfixm fx_X2_areOpposite hx hb hml hown (by decide) (by decide) (by decide) (by decide)) hE ml_X4_256 wi_X2_areOpposite wz_X2_areOpposite wc_X2_areOpposite wn_X2 (c_X2_areOpposite l D q k a b o v1 v2 _ hN) (va_recv (q := (RX2, TX2, 5)) (ci := 2) (q0 := 3) hK hP rfl rfl) (xpre hP hD hG) rfl rfl hl.1 rfl (lv_room (Nat.le_of_ble_eq_true rfl)) dX4_partnerOf_21) ?_
    refine lv_if_eq hx hb dX4_partnerOf_24 rfl (fun hc => ?_) (fun hc => ?_)
    · rw [if_pos hc] at hf
      exact t_X4_partnerOf_37 ⟨hx, hb, hml, hr, hlocks, hown, hno, hG⟩ hP hD hK4 (lv_sub hl [0, 1, 2] rfl) hf
    · rw [if_neg hc] at hf
      refine lv_aload_n hx hb dX4_partnerOf_27 rfl (lv_at hl 0 rfl) ?_
      refine lv_iload_n hx hb dX4_partnerOf_28 rfl (lv_at hl 2 rfl) ?_
      obtain ⟨r29, hN, hf⟩ := xbind hf
      refine xgo_r (v := some (.int r29)) (xrunV (C := RX4) (As := [.int v2]) (rest := []) (xfixm fx_X4_isGood hx hb hml hown (by decide) (by decide) (by decide) (by decide)) hE ml_X4_155 wi_X4_isGood wz_X4_isGood wc_X4_isGood wn_X4 (c_X4_isGood l D q k a b o v2 _ hN) (va_recv (q := (RX4, TX4, 4)) (ci := 4) (q0 := 0) hK hP rfl rfl) (xpre hP hD hG) rfl rfl hl.1 rfl (lv_room (Nat.le_of_ble_eq_true rfl)) dX4_partnerOf_29) ?_
      refine lv_if_eq hx hb dX4_partnerOf_32 rfl (fun hc => ?_) (fun hc => ?_)
      · rw [if_pos hc] at hf
        exact t_X4_partnerOf_37 ⟨hx, hb, hml, hr, hlocks, hown, hno, hG⟩ hP hD hK4 (lv_sub hl [0, 1, 2] rfl) hf
      · rw [if_neg hc] at hf
        refine lv_iload_n hx hb dX4_partnerOf_35 rfl (lv_at hl 2 rfl) ?_
        cases hf
        exact xret_i hx hb hr hlocks dX4_partnerOf_36
noncomputable def g_X4_partnerOf_4  (a : xT) : Nat → Int32 → Int32 → Option (Int32) := fun n => Nat.rec (motive := fun _ => Int32 → Int32 → Option (Int32)) (fun _ _ => none) (fun _ ih => g_X4_partnerOf_4s ih a) n
set_option maxHeartbeats 4000000 in
theorem t_X4_partnerOf_4 {p : Program} {l : Launch} {e : Env} {s : State} {m : MethodId} {args : Array Value} {below : List Frame} {meth : Method} {c : Code} {D : va_G} {q : Nat → Nat} {k : Nat → ClassId} {a b : xT} {o : Nat → Int64} {y : Int32} (C : xCx p s m meth c cX4_partnerOf 3 (some .int) RX4 D k) (hP : va_P D vwCl (xw q k a b o) s.heap) (hD : va_D (fun _ => True) (xw q k a b o))  (n : Nat) : ∀ {v1 v2 : Int32} {ls : Array Slot}, lv_has ls 3 [(0, .ref (q 0)), (1, .int v1), (2, .int v2)] → g_X4_partnerOf_4  a n v1 v2 = some y → W p l e r_X4_partnerOf s m args below meth c s.heap [] 0 0 (xMQ below (xQr (.inr (some (.int y)))) args s (xmc (.inr (some (.int y)))) (xms (.inr (some (.int y)))) (fun _ => False)) (F0 m 4 ls []) := by
  induction n with
  | zero =>
    intro _ _ _ _ hf
    have h9 : (none : Option (Int32)) = some y := hf
    cases h9
  | succ n ih =>
    intro _ _ _ hl hf
    exact t_X4_partnerOf_4s C hP hD (K4 := g_X4_partnerOf_4  a n) ih hl hf
noncomputable def g_X4_partnerOf_0  (a : xT) (v1 : Int32) : Option (Int32) := g_X4_partnerOf_4  a 1000 v1 (v1 + 1)
set_option maxHeartbeats 4000000 in
set_option maxRecDepth 100000 in
theorem t_X4_partnerOf_0 {p : Program} {l : Launch} {e : Env} {s : State} {m : MethodId} {args : Array Value} {below : List Frame} {meth : Method} {c : Code} {D : va_G} {q : Nat → Nat} {k : Nat → ClassId} {a b : xT} {o : Nat → Int64} {y : Int32} (C : xCx p s m meth c cX4_partnerOf 3 (some .int) RX4 D k) (hP : va_P D vwCl (xw q k a b o) s.heap) (hD : va_D (fun _ => True) (xw q k a b o))  {v1 : Int32} {ls : Array Slot} (hl : lv_has ls 3 [(0, .ref (q 0)), (1, .int v1)]) (hf : g_X4_partnerOf_0  a v1 = some y) : W p l e r_X4_partnerOf s m args below meth c s.heap [] 0 0 (xMQ below (xQr (.inr (some (.int y)))) args s (xmc (.inr (some (.int y)))) (xms (.inr (some (.int y)))) (fun _ => False)) (F0 m 0 ls []) := by
  obtain ⟨hx, hb, hml, hr, hlocks, hown, hno, hG⟩ := C
  have hK := hG.1
  have hE := hG.2.1
  unfold g_X4_partnerOf_0 at hf
  refine lv_iload_n hx hb dX4_partnerOf_0 rfl (lv_at hl 1 rfl) ?_
  refine lv_iconst (v := 1) hx hb dX4_partnerOf_1 (by decide) ?_
  refine lv_iadd hx hb dX4_partnerOf_2 ?_
  refine lv_istore_n (lv' := [(2, .int (v1 + 1)), (0, .ref (q 0)), (1, .int v1)]) hx hb dX4_partnerOf_3 rfl hl (by decide) rfl (fun ls hl => ?_)
  exact t_X4_partnerOf_4 ⟨hx, hb, hml, hr, hlocks, hown, hno, hG⟩ hP hD  1000 (lv_sub hl [1, 2, 0] rfl) hf
noncomputable def f_X4_partnerOf (a : xT) (v1 : Int32) : Option (Int32) := g_X4_partnerOf_0 a v1
set_option maxHeartbeats 4000000 in
set_option maxRecDepth 100000 in
theorem c_X4_partnerOf (l : Launch) (D : va_G) (q : Nat → Nat) (k : Nat → ClassId) (a b : xT) (o : Nat → Int64) (v1 : Int32) (y : Int32) (hf : f_X4_partnerOf a v1 = some y) : xMet l yX4_partnerOf (.code yX4_partnerOf cX4_partnerOf 3 (some .int)) r_X4_partnerOf (xPc D q k a b o [.ref (q 0), .int v1]) (xQr (.inr (some (.int y)))) (xmc (.inr (some (.int y)))) (xms (.inr (some (.int y)))) (fun _ => False) := by
  refine xMet.ofW (by decide) ?_
  intro p e s m args below meth c hx hb hml hr hlocks hnm hme hno hv
  obtain ⟨rfl, hP, hD, hG⟩ := hv
  have hown : s.vm.findClass RX4 = some m.cls := findClass_of_methodNamed hnm
  have hl := lv_entry ([.ref (q 0), .int v1]) (n := 3) (Nat.le_of_ble_eq_true rfl)
  rw [lg_entry_eq]
  generalize (lg_sl ([.ref (q 0), .int v1]) ++ List.replicate (3 - (lg_sl ([.ref (q 0), .int v1])).length) Slot.unset).toArray = ls at hl ⊢
  have hl : lv_has ls 3 [(0, .ref (q 0)), (1, .int v1)] := hl
  exact t_X4_partnerOf_0 ⟨hx, hb, hml, hr, hlocks, hown, hno, hG⟩ hP hD hl hf
abbrev r_X4_carryOutIfPossible : Room := { frames := 4, cells := 0, slots := 0, locals := 90 }
noncomputable def g_X4_carryOutIfPossible_0  (a : xT) (v1 : Int32) : Option (Int32 × xT) := (if xin v1 40 = true then (if xin v1 40 = true then (if xin (a.1 12 v1.toNatClampNeg) 240 = true then (if (a.1 1 (a.1 12 v1.toNatClampNeg).toNatClampNeg) = (-1) then ((f_X4_endAsTraded a v1).bind fun z35 => ((f_X4_exchange z35 (a.1 11 v1.toNatClampNeg) (a.1 12 v1.toNatClampNeg)).bind fun z41 => some (1, z41))) else ((f_X4_partnerOf a v1).bind fun r48 => (if r48 = (-1) then some (0, a) else ((f_X4_endAsTraded a v1).bind fun z63 => ((f_X4_endAsTraded z63 r48).bind fun z69 => ((f_X4_exchange z69 (a.1 11 v1.toNatClampNeg) (a.1 12 v1.toNatClampNeg)).bind fun z75 => some (2, z75))))))) else none) else none) else none)
set_option maxHeartbeats 4000000 in
set_option maxRecDepth 100000 in
theorem t_X4_carryOutIfPossible_0 {p : Program} {l : Launch} {e : Env} {s : State} {m : MethodId} {args : Array Value} {below : List Frame} {meth : Method} {c : Code} {D : va_G} {q : Nat → Nat} {k : Nat → ClassId} {a b : xT} {o : Nat → Int64} {z : xT} {y : Int32 × xT} (C : xCx p s m meth c cX4_carryOutIfPossible 5 (some .int) RX4 D k) {H : Heap} {locs : List Loc} (hP : va_P D vwCl (xw q k a b o) H) (hD : va_D (va_A (xw q k z b o) s.heap.size) (xw q k a b o)) (hS : va_S (va_A (xw q k z b o) s.heap.size) s.heap H locs)  {v1 : Int32} {ls : Array Slot} (hl : lv_has ls 5 [(0, .ref (q 0)), (1, .int v1)]) (hf : g_X4_carryOutIfPossible_0  a v1 = some y) : W p l e r_X4_carryOutIfPossible s m args below meth c H locs 0 0 (xMQ below (xQm D q k z b o (.inr (some (.int y.1), y.2, b))) args s 0 0 (va_A (xw q k z b o) s.heap.size)) (F0 m 0 ls []) := by
  obtain ⟨hx, hb, hml, hr, hlocks, hown, hno, hG⟩ := C
  have hK := hG.1
  have hE := hG.2.1
  have hA : ∀ u, s.heap.size ≤ u → va_A (xw q k z b o) s.heap.size u := fun u h => Or.inr h
  unfold g_X4_carryOutIfPossible_0 at hf
  refine lv_aload_n hx hb dX4_carryOutIfPossible_0 rfl (lv_at hl 0 rfl) ?_
  refine va_get (D := D) (ci := 4) (v := .ref (q 3)) (C := RX4) (T := TX4) (N := 4) hx hb (hwX4 hE) (fun _ h => h) hown hK hP 0 rfl rfl 2 (by decide) (hE _ fl_X4_26 rfl _) (fun _ h9 => h9) rfl dX4_carryOutIfPossible_1 ?_
  refine va_get (D := D) (ci := 2) (v := .ref (q 16)) (C := RX2) (T := TX2) (N := 5) hx hb (hwX2 hE) (fun _ h => h) hown hK hP 3 rfl rfl 1 (by decide) (hE _ fl_X4_237 rfl _) (fun _ h9 => h9) rfl dX4_carryOutIfPossible_4 ?_
  refine lv_iload_n hx hb dX4_carryOutIfPossible_7 rfl (lv_at hl 1 rfl) ?_
  obtain ⟨hin, hf⟩ := xguard hf
  refine va_iald hx hb hK hP 16 0 rfl rfl hin dX4_carryOutIfPossible_8 ?_
  refine lv_istore_n (lv' := [(2, .int (a.1 11 v1.toNatClampNeg)), (0, .ref (q 0)), (1, .int v1)]) hx hb dX4_carryOutIfPossible_9 rfl hl (by decide) rfl (fun ls hl => ?_)
  refine lv_aload_n hx hb dX4_carryOutIfPossible_10 rfl (lv_at hl 1 rfl) ?_
  refine va_get (D := D) (ci := 4) (v := .ref (q 3)) (C := RX4) (T := TX4) (N := 4) hx hb (hwX4 hE) (fun _ h => h) hown hK hP 0 rfl rfl 2 (by decide) (hE _ fl_X4_26 rfl _) (fun _ h9 => h9) rfl dX4_carryOutIfPossible_11 ?_
  refine va_get (D := D) (ci := 2) (v := .ref (q 17)) (C := RX2) (T := TX2) (N := 5) hx hb (hwX2 hE) (fun _ h => h) hown hK hP 3 rfl rfl 2 (by decide) (hE _ fl_X4_240 rfl _) (fun _ h9 => h9) rfl dX4_carryOutIfPossible_14 ?_
  refine lv_iload_n hx hb dX4_carryOutIfPossible_17 rfl (lv_at hl 2 rfl) ?_
  obtain ⟨hin, hf⟩ := xguard hf
  refine va_iald hx hb hK hP 17 0 rfl rfl hin dX4_carryOutIfPossible_18 ?_
  refine lv_istore_n (lv' := [(3, .int (a.1 12 v1.toNatClampNeg)), (2, .int (a.1 11 v1.toNatClampNeg)), (0, .ref (q 0)), (1, .int v1)]) hx hb dX4_carryOutIfPossible_19 rfl hl (by decide) rfl (fun ls hl => ?_)
  refine lv_aload_n hx hb dX4_carryOutIfPossible_20 rfl (lv_at hl 2 rfl) ?_
  refine va_get (D := D) (ci := 4) (v := .ref (q 1)) (C := RX4) (T := TX4) (N := 4) hx hb (hwX4 hE) (fun _ h => h) hown hK hP 0 rfl rfl 0 (by decide) (hE _ fl_X4_12 rfl _) (fun _ h9 => h9) rfl dX4_carryOutIfPossible_21 ?_
  refine va_get (D := D) (ci := 3) (v := .ref (q 6)) (C := RX3) (T := TX3) (N := 3) hx hb (hwX3 hE) (fun _ h => h) hown hK hP 1 rfl rfl 1 (by decide) (hE _ fl_X4_97 rfl _) (fun _ h9 => h9) rfl dX4_carryOutIfPossible_24 ?_
  refine lv_iload_n hx hb dX4_carryOutIfPossible_27 rfl (lv_at hl 0 rfl) ?_
  obtain ⟨hin, hf⟩ := xguard hf
  refine va_iald hx hb hK hP 6 0 rfl rfl hin dX4_carryOutIfPossible_28 ?_
  refine lv_iconst (v := -1) hx hb dX4_carryOutIfPossible_29 (by decide) ?_
  refine lv_icmp_ne hx hb dX4_carryOutIfPossible_30 rfl (fun hc => ?_) (fun hc => ?_)
  · rw [if_neg hc] at hf
    refine lv_aload_n hx hb dX4_carryOutIfPossible_46 rfl (lv_at hl 2 rfl) ?_
    refine lv_iload_n hx hb dX4_carryOutIfPossible_47 rfl (lv_at hl 3 rfl) ?_
    obtain ⟨r48, hN, hf⟩ := xbind hf
    refine xgo_r (v := some (.int r48)) (xrunV (C := RX4) (As := [.int v1]) (rest := []) (xfixm fx_X4_partnerOf hx hb hml hown (by decide) (by decide) (by decide) (by decide)) hE ml_X4_253 wi_X4_partnerOf wz_X4_partnerOf wc_X4_partnerOf wn_X4 (c_X4_partnerOf l D q k a b o v1 _ hN) (va_recv (q := (RX4, TX4, 4)) (ci := 4) (q0 := 0) hK hP rfl rfl) (xpre hP hD hG) rfl rfl hl.1 rfl (lv_room (Nat.le_of_ble_eq_true rfl)) dX4_carryOutIfPossible_48) ?_
    refine lv_istore (lv' := [(4, .int r48), (3, .int (a.1 12 v1.toNatClampNeg)), (2, .int (a.1 11 v1.toNatClampNeg)), (0, .ref (q 0)), (1, .int v1)]) hx hb dX4_carryOutIfPossible_51 hl (by decide) rfl (fun ls hl => ?_)
    refine lv_iload hx hb dX4_carryOutIfPossible_53 (lv_at hl 0 rfl) ?_
    refine lv_iconst (v := -1) hx hb dX4_carryOutIfPossible_55 (by decide) ?_
    refine lv_icmp_ne hx hb dX4_carryOutIfPossible_56 rfl (fun hc => ?_) (fun hc => ?_)
    · rw [if_neg hc] at hf
      refine lv_aload_n hx hb dX4_carryOutIfPossible_61 rfl (lv_at hl 3 rfl) ?_
      refine lv_iload_n hx hb dX4_carryOutIfPossible_62 rfl (lv_at hl 4 rfl) ?_
      obtain ⟨z63, hN, hf⟩ := xbind hf
      refine xgo_m (v := none) (a1 := z63) (b1 := b) (xrunV (C := RX4) (As := [.int v1]) (rest := []) (xfixm fx_X4_endAsTraded hx hb hml hown (by decide) (by decide) (by decide) (by decide)) hE ml_X4_247 wi_X4_endAsTraded wz_X4_endAsTraded wc_X4_endAsTraded wn_X4 (c_X4_endAsTraded l D q k _ a b o v1 _ hN) (va_recv (q := (RX4, TX4, 4)) (ci := 4) (q0 := 0) hK hP rfl rfl) (xprem hP hD hG) rfl rfl hl.1 rfl (lv_room (Nat.le_of_ble_eq_true rfl)) dX4_carryOutIfPossible_63) hD hS hA (fun H locs hP hD hS => ?_)
      refine lv_aload_n hx hb dX4_carryOutIfPossible_66 rfl (lv_at hl 3 rfl) ?_
      refine lv_iload hx hb dX4_carryOutIfPossible_67 (lv_at hl 0 rfl) ?_
      obtain ⟨z69, hN, hf⟩ := xbind hf
      refine xgo_m (v := none) (a1 := z69) (b1 := b) (xrunV (C := RX4) (As := [.int r48]) (rest := []) (xfixm fx_X4_endAsTraded hx hb hml hown (by decide) (by decide) (by decide) (by decide)) hE ml_X4_247 wi_X4_endAsTraded wz_X4_endAsTraded wc_X4_endAsTraded wn_X4 (c_X4_endAsTraded l D q k _ z63 b o r48 _ hN) (va_recv (q := (RX4, TX4, 4)) (ci := 4) (q0 := 0) hK hP rfl rfl) (xprem hP hD hG) rfl rfl hl.1 rfl (lv_room (Nat.le_of_ble_eq_true rfl)) dX4_carryOutIfPossible_69) hD hS hA (fun H locs hP hD hS => ?_)
      refine lv_aload_n hx hb dX4_carryOutIfPossible_72 rfl (lv_at hl 3 rfl) ?_
      refine lv_iload_n hx hb dX4_carryOutIfPossible_73 rfl (lv_at hl 2 rfl) ?_
      refine lv_iload_n hx hb dX4_carryOutIfPossible_74 rfl (lv_at hl 1 rfl) ?_
      obtain ⟨z75, hN, hf⟩ := xbind hf
      refine xgo_m (v := none) (a1 := z75) (b1 := b) (xrunV (C := RX4) (As := [.int (a.1 11 v1.toNatClampNeg), .int (a.1 12 v1.toNatClampNeg)]) (rest := []) (xfixm fx_X4_exchange hx hb hml hown (by decide) (by decide) (by decide) (by decide)) hE ml_X4_250 wi_X4_exchange wz_X4_exchange wc_X4_exchange wn_X4 (c_X4_exchange l D q k _ z69 b o (a.1 11 v1.toNatClampNeg) (a.1 12 v1.toNatClampNeg) _ hN) (va_recv (q := (RX4, TX4, 4)) (ci := 4) (q0 := 0) hK hP rfl rfl) (xprem hP hD hG) rfl rfl hl.1 rfl (lv_room (Nat.le_of_ble_eq_true rfl)) dX4_carryOutIfPossible_75) hD hS hA (fun H locs hP hD hS => ?_)
      refine lv_iconst (v := 2) hx hb dX4_carryOutIfPossible_78 (by decide) ?_
      cases hf
      exact xretm_i hx hb hr hlocks hP hS dX4_carryOutIfPossible_79
    · rw [if_pos hc] at hf
      refine lv_iconst (v := 0) hx hb dX4_carryOutIfPossible_59 (by decide) ?_
      cases hf
      exact xretm_i hx hb hr hlocks hP hS dX4_carryOutIfPossible_60
  · rw [if_pos hc] at hf
    refine lv_aload_n hx hb dX4_carryOutIfPossible_33 rfl (lv_at hl 2 rfl) ?_
    refine lv_iload_n hx hb dX4_carryOutIfPossible_34 rfl (lv_at hl 3 rfl) ?_
    obtain ⟨z35, hN, hf⟩ := xbind hf
    refine xgo_m (v := none) (a1 := z35) (b1 := b) (xrunV (C := RX4) (As := [.int v1]) (rest := []) (xfixm fx_X4_endAsTraded hx hb hml hown (by decide) (by decide) (by decide) (by decide)) hE ml_X4_247 wi_X4_endAsTraded wz_X4_endAsTraded wc_X4_endAsTraded wn_X4 (c_X4_endAsTraded l D q k _ a b o v1 _ hN) (va_recv (q := (RX4, TX4, 4)) (ci := 4) (q0 := 0) hK hP rfl rfl) (xprem hP hD hG) rfl rfl hl.1 rfl (lv_room (Nat.le_of_ble_eq_true rfl)) dX4_carryOutIfPossible_35) hD hS hA (fun H locs hP hD hS => ?_)
    refine lv_aload_n hx hb dX4_carryOutIfPossible_38 rfl (lv_at hl 2 rfl) ?_
    refine lv_iload_n hx hb dX4_carryOutIfPossible_39 rfl (lv_at hl 1 rfl) ?_
    refine lv_iload_n hx hb dX4_carryOutIfPossible_40 rfl (lv_at hl 0 rfl) ?_
    obtain ⟨z41, hN, hf⟩ := xbind hf
    refine xgo_m (v := none) (a1 := z41) (b1 := b) (xrunV (C := RX4) (As := [.int (a.1 11 v1.toNatClampNeg), .int (a.1 12 v1.toNatClampNeg)]) (rest := []) (xfixm fx_X4_exchange hx hb hml hown (by decide) (by decide) (by decide) (by decide)) hE ml_X4_250 wi_X4_exchange wz_X4_exchange wc_X4_exchange wn_X4 (c_X4_exchange l D q k _ z35 b o (a.1 11 v1.toNatClampNeg) (a.1 12 v1.toNatClampNeg) _ hN) (va_recv (q := (RX4, TX4, 4)) (ci := 4) (q0 := 0) hK hP rfl rfl) (xprem hP hD hG) rfl rfl hl.1 rfl (lv_room (Nat.le_of_ble_eq_true rfl)) dX4_carryOutIfPossible_41) hD hS hA (fun H locs hP hD hS => ?_)
    refine lv_iconst (v := 1) hx hb dX4_carryOutIfPossible_44 (by decide) ?_
    cases hf
    exact xretm_i hx hb hr hlocks hP hS dX4_carryOutIfPossible_45
noncomputable def f_X4_carryOutIfPossible (a : xT) (v1 : Int32) : Option (Int32 × xT) := g_X4_carryOutIfPossible_0 a v1
set_option maxHeartbeats 4000000 in
set_option maxRecDepth 100000 in
theorem c_X4_carryOutIfPossible (l : Launch) (D : va_G) (q : Nat → Nat) (k : Nat → ClassId) (sz : Nat) (a b : xT) (o : Nat → Int64) (v1 : Int32) (y : Int32 × xT) (hf : f_X4_carryOutIfPossible a v1 = some y) : xMet l yX4_carryOutIfPossible (.code yX4_carryOutIfPossible cX4_carryOutIfPossible 5 (some .int)) r_X4_carryOutIfPossible (xPcm D q k sz a b o [.ref (q 0), .int v1]) (xQm D q k a b o (.inr (some (.int y.1), y.2, b))) 0 0 (va_A (xw q k a b o) sz) := by
  refine xMet.ofW (by decide) ?_
  intro p e s m args below meth c hx hb hml hr hlocks hnm hme hno hv
  obtain ⟨rfl, hsz, hP, hD, hG⟩ := hv
  subst hsz
  have hown : s.vm.findClass RX4 = some m.cls := findClass_of_methodNamed hnm
  have hl := lv_entry ([.ref (q 0), .int v1]) (n := 5) (Nat.le_of_ble_eq_true rfl)
  rw [lg_entry_eq]
  generalize (lg_sl ([.ref (q 0), .int v1]) ++ List.replicate (5 - (lg_sl ([.ref (q 0), .int v1])).length) Slot.unset).toArray = ls at hl ⊢
  have hl : lv_has ls 5 [(0, .ref (q 0)), (1, .int v1)] := hl
  have hD := hD.self (sz := s.heap.size)
  exact t_X4_carryOutIfPossible_0 ⟨hx, hb, hml, hr, hlocks, hown, hno, hG⟩ hP hD va_S.rf hl hf
abbrev r_X4_checkAirline : Room := { frames := 6, cells := 1, slots := 6, locals := 90 }
noncomputable def g_X4_checkAirline_10  (a : xT)  : Option (Option String) := some (some "java/lang/IllegalArgumentException")
set_option maxHeartbeats 4000000 in
set_option maxRecDepth 100000 in
theorem t_X4_checkAirline_10 {p : Program} {l : Launch} {e : Env} {s : State} {m : MethodId} {args : Array Value} {below : List Frame} {meth : Method} {c : Code} {D : va_G} {q : Nat → Nat} {k : Nat → ClassId} {a b : xT} {o : Nat → Int64} {y : Option String} (C : xCx p s m meth c cX4_checkAirline 2 none RX4 D k) (hl0 : l.stackTraces = false) (hst : xSt s) (hP : va_P D vwCl (xw q k a b o) s.heap) (hD : va_D (fun _ => True) (xw q k a b o))  {ls : Array Slot} (hl : lv_has ls 2 []) (hf : g_X4_checkAirline_10  a  = some y) : W p l e r_X4_checkAirline s m args below meth c s.heap [] 0 0 (xMQ below (xQr (xck y)) args s (xmc (xck y)) (xms (xck y)) (fun _ => False)) (F0 m 10 ls []) := by
  obtain ⟨hx, hb, hml, hr, hlocks, hown, hno, hG⟩ := C
  have hK := hG.1
  have hE := hG.2.1
  unfold g_X4_checkAirline_10 at hf
  cases hf
  obtain ⟨sa, hsa⟩ := hG.2.2 (RX4, 204, "no such airline") (by decide +kernel)
  exact xthrow (own := RX4) (cls := "java/lang/IllegalArgumentException") (text := "no such airline") (names := ["java/lang/RuntimeException", "java/lang/Exception"]) (ik := 37) (is := 204) (ic := 41) (sa := sa) hx hb hl0 hown hE hst (by decide +kernel) (by decide +kernel) tw_X4_41 kl_X4_37 wn_IllegalArgumentException hsa hno hlocks (hl.1.trans hml.symm) dX4_checkAirline_10 dX4_checkAirline_13 dX4_checkAirline_14 dX4_checkAirline_16 dX4_checkAirline_19 (by decide) (by decide) (by decide) (by decide) (fun u t h => ⟨u, rfl, h⟩)
noncomputable def g_X4_checkAirline_0  (a : xT) (v1 : Int32) : Option (Option String) := (if v1 < 0 then g_X4_checkAirline_10  a  else (if v1 < 8 then some none else g_X4_checkAirline_10  a ))
set_option maxHeartbeats 4000000 in
set_option maxRecDepth 100000 in
theorem t_X4_checkAirline_0 {p : Program} {l : Launch} {e : Env} {s : State} {m : MethodId} {args : Array Value} {below : List Frame} {meth : Method} {c : Code} {D : va_G} {q : Nat → Nat} {k : Nat → ClassId} {a b : xT} {o : Nat → Int64} {y : Option String} (C : xCx p s m meth c cX4_checkAirline 2 none RX4 D k) (hl0 : l.stackTraces = false) (hst : xSt s) (hP : va_P D vwCl (xw q k a b o) s.heap) (hD : va_D (fun _ => True) (xw q k a b o))  {v1 : Int32} {ls : Array Slot} (hl : lv_has ls 2 [(1, .int v1)]) (hf : g_X4_checkAirline_0  a v1 = some y) : W p l e r_X4_checkAirline s m args below meth c s.heap [] 0 0 (xMQ below (xQr (xck y)) args s (xmc (xck y)) (xms (xck y)) (fun _ => False)) (F0 m 0 ls []) := by
  obtain ⟨hx, hb, hml, hr, hlocks, hown, hno, hG⟩ := C
  have hK := hG.1
  have hE := hG.2.1
  unfold g_X4_checkAirline_0 at hf
  refine lv_iload_n hx hb dX4_checkAirline_0 rfl (lv_at hl 0 rfl) ?_
  refine lv_if_lt hx hb dX4_checkAirline_1 rfl (fun hc => ?_) (fun hc => ?_)
  · rw [if_pos hc] at hf
    exact t_X4_checkAirline_10 ⟨hx, hb, hml, hr, hlocks, hown, hno, hG⟩ hl0 hst hP hD  (lv_sub hl [] rfl) hf
  · rw [if_neg hc] at hf
    refine lv_iload_n hx hb dX4_checkAirline_4 rfl (lv_at hl 0 rfl) ?_
    refine lv_bipush (v := 8) hx hb dX4_checkAirline_5 (by decide) ?_
    refine lv_icmp_lt hx hb dX4_checkAirline_7 rfl (fun hc => ?_) (fun hc => ?_)
    · rw [if_pos hc] at hf
      cases hf
      exact xret_v hx hb hr hlocks dX4_checkAirline_20
    · rw [if_neg hc] at hf
      exact t_X4_checkAirline_10 ⟨hx, hb, hml, hr, hlocks, hown, hno, hG⟩ hl0 hst hP hD  (lv_sub hl [] rfl) hf
noncomputable def f_X4_checkAirline (a : xT) (v1 : Int32) : Option (Option String) := g_X4_checkAirline_0 a v1
set_option maxHeartbeats 4000000 in
set_option maxRecDepth 100000 in
theorem c_X4_checkAirline (l : Launch) (hl0 : l.stackTraces = false) (D : va_G) (q : Nat → Nat) (k : Nat → ClassId) (a b : xT) (o : Nat → Int64) (v1 : Int32) (y : Option String) (hf : f_X4_checkAirline a v1 = some y) : xMet l yX4_checkAirline (.code yX4_checkAirline cX4_checkAirline 2 none) r_X4_checkAirline (xPcT D q k a b o [.ref (q 0), .int v1]) (xQr (xck y)) (xmc (xck y)) (xms (xck y)) (fun _ => False) := by
  refine xMet.ofW (by decide) ?_
  intro p e s m args below meth c hx hb hml hr hlocks hnm hme hno hv
  obtain ⟨rfl, hP, hD, hG, hst⟩ := hv
  have hown : s.vm.findClass RX4 = some m.cls := findClass_of_methodNamed hnm
  have hl := lv_entry ([.ref (q 0), .int v1]) (n := 2) (Nat.le_of_ble_eq_true rfl)
  rw [lg_entry_eq]
  generalize (lg_sl ([.ref (q 0), .int v1]) ++ List.replicate (2 - (lg_sl ([.ref (q 0), .int v1])).length) Slot.unset).toArray = ls at hl ⊢
  have hl : lv_has ls 2 [(0, .ref (q 0)), (1, .int v1)] := hl
  exact t_X4_checkAirline_0 ⟨hx, hb, hml, hr, hlocks, hown, hno, hG⟩ hl0 hst hP hD (lv_sub hl [1] rfl) hf
