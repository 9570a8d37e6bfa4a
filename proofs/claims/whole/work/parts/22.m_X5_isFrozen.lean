abbrev r_X5_isFrozen : Room := { frames := 0, cells := 0, slots := 0, locals := 0 }
noncomputable def g_X5_isFrozen_28  (b : xT) (s0 : Int32) : Option (Int32) := (if xzb s0 = true then some s0 else none)
set_option maxHeartbeats 4000000 in
set_option maxRecDepth 100000 in
theorem t_X5_isFrozen_28 {p : Program} {l : Launch} {e : Env} {s : State} {m : MethodId} {args : Array Value} {below : List Frame} {meth : Method} {c : Code} {D : va_G} {q : Nat → Nat} {k : Nat → ClassId} {a b : xT} {o : Nat → Int64} {y : Int32} (C : xCx p s m meth c cX5_isFrozen 2 (some .boolean) RX5 D k) (hP : va_P D vwCl (xw q k a b o) s.heap) (hD : va_D (fun _ => True) (xw q k a b o))  {s0 : Int32} {ls : Array Slot} (hl : lv_has ls 2 []) (hf : g_X5_isFrozen_28  b s0 = some y) : W p l e r_X5_isFrozen s m args below meth c s.heap [] 0 0 (xMQ below (xQr (.inr (some (.int y)))) args s (xmc (.inr (some (.int y)))) (xms (.inr (some (.int y)))) (fun _ => False)) (F0 m 28 ls [.int s0]) := by
  obtain ⟨hx, hb, hml, hr, hlocks, hown, hno, hG⟩ := C
  have hK := hG.1
  have hE := hG.2.1
  unfold g_X5_isFrozen_28 at hf
  obtain ⟨hz, hf⟩ := xguz hf
  cases hf
  exact xret_z hx hb hr hz hlocks dX5_isFrozen_28
noncomputable def g_X5_isFrozen_27  (b : xT)  : Option (Int32) := g_X5_isFrozen_28  b 0
set_option maxHeartbeats 4000000 in
set_option maxRecDepth 100000 in
theorem t_X5_isFrozen_27 {p : Program} {l : Launch} {e : Env} {s : State} {m : MethodId} {args : Array Value} {below : List Frame} {meth : Method} {c : Code} {D : va_G} {q : Nat → Nat} {k : Nat → ClassId} {a b : xT} {o : Nat → Int64} {y : Int32} (C : xCx p s m meth c cX5_isFrozen 2 (some .boolean) RX5 D k) (hP : va_P D vwCl (xw q k a b o) s.heap) (hD : va_D (fun _ => True) (xw q k a b o))  {ls : Array Slot} (hl : lv_has ls 2 []) (hf : g_X5_isFrozen_27  b  = some y) : W p l e r_X5_isFrozen s m args below meth c s.heap [] 0 0 (xMQ below (xQr (.inr (some (.int y)))) args s (xmc (.inr (some (.int y)))) (xms (.inr (some (.int y)))) (fun _ => False)) (F0 m 27 ls []) := by
  obtain ⟨hx, hb, hml, hr, hlocks, hown, hno, hG⟩ := C
  have hK := hG.1
  have hE := hG.2.1
  unfold g_X5_isFrozen_27 at hf
  refine lv_iconst (v := 0) hx hb dX5_isFrozen_27 (by decide) ?_
  exact t_X5_isFrozen_28 ⟨hx, hb, hml, hr, hlocks, hown, hno, hG⟩ hP hD  (lv_sub hl [] rfl) hf
noncomputable def g_X5_isFrozen_0  (b : xT) (v1 : Int32) : Option (Int32) := (if xin v1 240 = true then (if (b.1 2 v1.toNatClampNeg) < 0 then g_X5_isFrozen_27  b  else (if xin v1 240 = true then (if xin (b.1 2 v1.toNatClampNeg) 60 = true then (if (b.1 8 (b.1 2 v1.toNatClampNeg).toNatClampNeg) = 0 then g_X5_isFrozen_27  b  else g_X5_isFrozen_28  b 1) else none) else none)) else none)
set_option maxHeartbeats 4000000 in
set_option maxRecDepth 100000 in
theorem t_X5_isFrozen_0 {p : Program} {l : Launch} {e : Env} {s : State} {m : MethodId} {args : Array Value} {below : List Frame} {meth : Method} {c : Code} {D : va_G} {q : Nat → Nat} {k : Nat → ClassId} {a b : xT} {o : Nat → Int64} {y : Int32} (C : xCx p s m meth c cX5_isFrozen 2 (some .boolean) RX5 D k) (hP : va_P D vwCl (xw q k a b o) s.heap) (hD : va_D (fun _ => True) (xw q k a b o))  {v1 : Int32} {ls : Array Slot} (hl : lv_has ls 2 [(0, .ref (q 23)), (1, .int v1)]) (hf : g_X5_isFrozen_0  b v1 = some y) : W p l e r_X5_isFrozen s m args below meth c s.heap [] 0 0 (xMQ below (xQr (.inr (some (.int y)))) args s (xmc (.inr (some (.int y)))) (xms (.inr (some (.int y)))) (fun _ => False)) (F0 m 0 ls []) := by
  obtain ⟨hx, hb, hml, hr, hlocks, hown, hno, hG⟩ := C
  have hK := hG.1
  have hE := hG.2.1
  unfold g_X5_isFrozen_0 at hf
  refine lv_aload_n hx hb dX5_isFrozen_0 rfl (lv_at hl 0 rfl) ?_
  refine va_get (D := D) (ci := 5) (v := .ref (q 26)) (C := RX5) (T := TX5) (N := 19) hx hb (hwX5 hE) (fun _ h => h) hown hK hP 23 rfl rfl 3 (by decide) (hE _ fl_X5_17 rfl _) (fun _ h9 => h9) rfl dX5_isFrozen_1 ?_
  refine lv_iload_n hx hb dX5_isFrozen_4 rfl (lv_at hl 1 rfl) ?_
  obtain ⟨hin, hf⟩ := xguard hf
  refine va_iald hx hb hK hP 26 0 rfl rfl hin dX5_isFrozen_5 ?_
  refine lv_if_lt hx hb dX5_isFrozen_6 rfl (fun hc => ?_) (fun hc => ?_)
  · rw [if_pos hc] at hf
    exact t_X5_isFrozen_27 ⟨hx, hb, hml, hr, hlocks, hown, hno, hG⟩ hP hD  (lv_sub hl [] rfl) hf
  · rw [if_neg hc] at hf
    refine lv_aload_n hx hb dX5_isFrozen_9 rfl (lv_at hl 0 rfl) ?_
    refine va_get (D := D) (ci := 5) (v := .ref (q 32)) (C := RX5) (T := TX5) (N := 19) hx hb (hwX5 hE) (fun _ h => h) hown hK hP 23 rfl rfl 10 (by decide) (hE _ fl_X5_35 rfl _) (fun _ h9 => h9) rfl dX5_isFrozen_10 ?_
    refine lv_aload_n hx hb dX5_isFrozen_13 rfl (lv_at hl 0 rfl) ?_
    refine va_get (D := D) (ci := 5) (v := .ref (q 26)) (C := RX5) (T := TX5) (N := 19) hx hb (hwX5 hE) (fun _ h => h) hown hK hP 23 rfl rfl 3 (by decide) (hE _ fl_X5_17 rfl _) (fun _ h9 => h9) rfl dX5_isFrozen_14 ?_
    refine lv_iload_n hx hb dX5_isFrozen_17 rfl (lv_at hl 1 rfl) ?_
    obtain ⟨hin, hf⟩ := xguard hf
    refine va_iald hx hb hK hP 26 0 rfl rfl hin dX5_isFrozen_18 ?_
    obtain ⟨hin, hf⟩ := xguard hf
    refine va_zald hx hb hK hP 32 1 rfl rfl hin dX5_isFrozen_19 ?_
    refine lv_if_eq hx hb dX5_isFrozen_20 rfl (fun hc => ?_) (fun hc => ?_)
    · rw [if_pos hc] at hf
      exact t_X5_isFrozen_27 ⟨hx, hb, hml, hr, hlocks, hown, hno, hG⟩ hP hD  (lv_sub hl [] rfl) hf
    · rw [if_neg hc] at hf
      refine lv_iconst (v := 1) hx hb dX5_isFrozen_23 (by decide) ?_
      refine lv_goto hx hb dX5_isFrozen_24 rfl ?_
      exact t_X5_isFrozen_28 ⟨hx, hb, hml, hr, hlocks, hown, hno, hG⟩ hP hD  (lv_sub hl [] rfl) hf
noncomputable def f_X5_isFrozen (b : xT) (v1 : Int32) : Option (Int32) := g_X5_isFrozen_0 b v1
set_option maxHeartbeats 4000000 in
set_option maxRecDepth 100000 in
theorem c_X5_isFrozen (l : Launch) (D : va_G) (q : Nat → Nat) (k : Nat → ClassId) (a b : xT) (o : Nat → Int64) (v1 : Int32) (y : Int32) (hf : f_X5_isFrozen b v1 = some y) : xMet l yX5_isFrozen (.code yX5_isFrozen cX5_isFrozen 2 (some .boolean)) r_X5_isFrozen (xPc D q k a b o [.ref (q 23), .int v1]) (xQr (.inr (some (.int y)))) (xmc (.inr (some (.int y)))) (xms (.inr (some (.int y)))) (fun _ => False) := by
  refine xMet.ofW (by decide) ?_
  intro p e s m args below meth c hx hb hml hr hlocks hnm hme hno hv
  obtain ⟨rfl, hP, hD, hG⟩ := hv
  have hown : s.vm.findClass RX5 = some m.cls := findClass_of_methodNamed hnm
  have hl := lv_entry ([.ref (q 23), .int v1]) (n := 2) (Nat.le_of_ble_eq_true rfl)
  rw [lg_entry_eq]
  generalize (lg_sl ([.ref (q 23), .int v1]) ++ List.replicate (2 - (lg_sl ([.ref (q 23), .int v1])).length) Slot.unset).toArray = ls at hl ⊢
  have hl : lv_has ls 2 [(0, .ref (q 23)), (1, .int v1)] := hl
  exact t_X5_isFrozen_0 ⟨hx, hb, hml, hr, hlocks, hown, hno, hG⟩ hP hD hl hf
abbrev r_X5_isGood : Room := { frames := 1, cells := 0, slots := 0, locals := 21 }
noncomputable def g_X5_isGood_113  (b : xT) (s0 : Int32) : Option (Int32) := (if xzb s0 = true then some s0 else none)
set_option maxHeartbeats 4000000 in
set_option maxRecDepth 100000 in
theorem t_X5_isGood_113 {p : Program} {l : Launch} {e : Env} {s : State} {m : MethodId} {args : Array Value} {below : List Frame} {meth : Method} {c : Code} {D : va_G} {q : Nat → Nat} {k : Nat → ClassId} {a b : xT} {o : Nat → Int64} {y : Int32} (C : xCx p s m meth c cX5_isGood 5 (some .boolean) RX5 D k) (hP : va_P D vwCl (xw q k a b o) s.heap) (hD : va_D (fun _ => True) (xw q k a b o))  {s0 : Int32} {ls : Array Slot} (hl : lv_has ls 5 []) (hf : g_X5_isGood_113  b s0 = some y) : W p l e r_X5_isGood s m args below meth c s.heap [] 0 0 (xMQ below (xQr (.inr (some (.int y)))) args s (xmc (.inr (some (.int y)))) (xms (.inr (some (.int y)))) (fun _ => False)) (F0 m 113 ls [.int s0]) := by
  obtain ⟨hx, hb, hml, hr, hlocks, hown, hno, hG⟩ := C
  have hK := hG.1
  have hE := hG.2.1
  unfold g_X5_isGood_113 at hf
  obtain ⟨hz, hf⟩ := xguz hf
  cases hf
  exact xret_z hx hb hr hz hlocks dX5_isGood_113
noncomputable def g_X5_isGood_112  (b : xT)  : Option (Int32) := g_X5_isGood_113  b 0
set_option maxHeartbeats 4000000 in
set_option maxRecDepth 100000 in
theorem t_X5_isGood_112 {p : Program} {l : Launch} {e : Env} {s : State} {m : MethodId} {args : Array Value} {below : List Frame} {meth : Method} {c : Code} {D : va_G} {q : Nat → Nat} {k : Nat → ClassId} {a b : xT} {o : Nat → Int64} {y : Int32} (C : xCx p s m meth c cX5_isGood 5 (some .boolean) RX5 D k) (hP : va_P D vwCl (xw q k a b o) s.heap) (hD : va_D (fun _ => True) (xw q k a b o))  {ls : Array Slot} (hl : lv_has ls 5 []) (hf : g_X5_isGood_112  b  = some y) : W p l e r_X5_isGood s m args below meth c s.heap [] 0 0 (xMQ below (xQr (.inr (some (.int y)))) args s (xmc (.inr (some (.int y)))) (xms (.inr (some (.int y)))) (fun _ => False)) (F0 m 112 ls []) := by
  obtain ⟨hx, hb, hml, hr, hlocks, hown, hno, hG⟩ := C
  have hK := hG.1
  have hE := hG.2.1
  unfold g_X5_isGood_112 at hf
  refine lv_iconst (v := 0) hx hb dX5_isGood_112 (by decide) ?_
  exact t_X5_isGood_113 ⟨hx, hb, hml, hr, hlocks, hown, hno, hG⟩ hP hD  (lv_sub hl [] rfl) hf
noncomputable def g_X5_isGood_108  (b : xT)  : Option (Int32) := g_X5_isGood_113  b 1
set_option maxHeartbeats 4000000 in
set_option maxRecDepth 100000 in
theorem t_X5_isGood_108 {p : Program} {l : Launch} {e : Env} {s : State} {m : MethodId} {args : Array Value} {below : List Frame} {meth : Method} {c : Code} {D : va_G} {q : Nat → Nat} {k : Nat → ClassId} {a b : xT} {o : Nat → Int64} {y : Int32} (C : xCx p s m meth c cX5_isGood 5 (some .boolean) RX5 D k) (hP : va_P D vwCl (xw q k a b o) s.heap) (hD : va_D (fun _ => True) (xw q k a b o))  {ls : Array Slot} (hl : lv_has ls 5 []) (hf : g_X5_isGood_108  b  = some y) : W p l e r_X5_isGood s m args below meth c s.heap [] 0 0 (xMQ below (xQr (.inr (some (.int y)))) args s (xmc (.inr (some (.int y)))) (xms (.inr (some (.int y)))) (fun _ => False)) (F0 m 108 ls []) := by
  obtain ⟨hx, hb, hml, hr, hlocks, hown, hno, hG⟩ := C
  have hK := hG.1
  have hE := hG.2.1
  unfold g_X5_isGood_108 at hf
  refine lv_iconst (v := 1) hx hb dX5_isGood_108 (by decide) ?_
  refine lv_goto hx hb dX5_isGood_109 rfl ?_
  exact t_X5_isGood_113 ⟨hx, hb, hml, hr, hlocks, hown, hno, hG⟩ hP hD  (lv_sub hl [] rfl) hf
noncomputable def g_X5_isGood_77  (b : xT) (v2 : Int32) (v3 : Int32) (s0 : Int32) : Option (Int32) := (if s0 = 0 then g_X5_isGood_112  b  else (if xin v2 240 = true then (if (b.1 2 v2.toNatClampNeg) < 0 then g_X5_isGood_108  b  else (if xin v2 240 = true then (if xin (b.1 2 v2.toNatClampNeg) 60 = true then (if v3 < (b.1 5 (b.1 2 v2.toNatClampNeg).toNatClampNeg) then g_X5_isGood_112  b  else g_X5_isGood_108  b ) else none) else none)) else none))
set_option maxHeartbeats 4000000 in
set_option maxRecDepth 100000 in
theorem t_X5_isGood_77 {p : Program} {l : Launch} {e : Env} {s : State} {m : MethodId} {args : Array Value} {below : List Frame} {meth : Method} {c : Code} {D : va_G} {q : Nat → Nat} {k : Nat → ClassId} {a b : xT} {o : Nat → Int64} {y : Int32} (C : xCx p s m meth c cX5_isGood 5 (some .boolean) RX5 D k) (hP : va_P D vwCl (xw q k a b o) s.heap) (hD : va_D (fun _ => True) (xw q k a b o))  {v2 v3 s0 : Int32} {ls : Array Slot} (hl : lv_has ls 5 [(0, .ref (q 23)), (2, .int v2), (3, .int v3)]) (hf : g_X5_isGood_77  b v2 v3 s0 = some y) : W p l e r_X5_isGood s m args below meth c s.heap [] 0 0 (xMQ below (xQr (.inr (some (.int y)))) args s (xmc (.inr (some (.int y)))) (xms (.inr (some (.int y)))) (fun _ => False)) (F0 m 77 ls [.int s0]) := by
  obtain ⟨hx, hb, hml, hr, hlocks, hown, hno, hG⟩ := C
  have hK := hG.1
  have hE := hG.2.1
  unfold g_X5_isGood_77 at hf
  refine lv_istore (lv' := [(4, .int s0), (0, .ref (q 23)), (2, .int v2), (3, .int v3)]) hx hb dX5_isGood_77 hl (by decide) rfl (fun ls hl => ?_)
  refine lv_iload hx hb dX5_isGood_79 (lv_at hl 0 rfl) ?_
  refine lv_if_eq hx hb dX5_isGood_81 rfl (fun hc => ?_) (fun hc => ?_)
  · rw [if_pos hc] at hf
    exact t_X5_isGood_112 ⟨hx, hb, hml, hr, hlocks, hown, hno, hG⟩ hP hD  (lv_sub hl [] rfl) hf
  · rw [if_neg hc] at hf
    refine lv_aload_n hx hb dX5_isGood_84 rfl (lv_at hl 1 rfl) ?_
    refine va_get (D := D) (ci := 5) (v := .ref (q 26)) (C := RX5) (T := TX5) (N := 19) hx hb (hwX5 hE) (fun _ h => h) hown hK hP 23 rfl rfl 3 (by decide) (hE _ fl_X5_17 rfl _) (fun _ h9 => h9) rfl dX5_isGood_85 ?_
    refine lv_iload_n hx hb dX5_isGood_88 rfl (lv_at hl 2 rfl) ?_
    obtain ⟨hin, hf⟩ := xguard hf
    refine va_iald hx hb hK hP 26 0 rfl rfl hin dX5_isGood_89 ?_
    refine lv_if_lt hx hb dX5_isGood_90 rfl (fun hc => ?_) (fun hc => ?_)
    · rw [if_pos hc] at hf
      exact t_X5_isGood_108 ⟨hx, hb, hml, hr, hlocks, hown, hno, hG⟩ hP hD  (lv_sub hl [] rfl) hf
    · rw [if_neg hc] at hf
      refine lv_iload_n hx hb dX5_isGood_93 rfl (lv_at hl 3 rfl) ?_
      refine lv_aload_n hx hb dX5_isGood_94 rfl (lv_at hl 1 rfl) ?_
      refine va_get (D := D) (ci := 5) (v := .ref (q 29)) (C := RX5) (T := TX5) (N := 19) hx hb (hwX5 hE) (fun _ h => h) hown hK hP 23 rfl rfl 7 (by decide) (hE _ fl_X5_26 rfl _) (fun _ h9 => h9) rfl dX5_isGood_95 ?_
      refine lv_aload_n hx hb dX5_isGood_98 rfl (lv_at hl 1 rfl) ?_
      refine va_get (D := D) (ci := 5) (v := .ref (q 26)) (C := RX5) (T := TX5) (N := 19) hx hb (hwX5 hE) (fun _ h => h) hown hK hP 23 rfl rfl 3 (by decide) (hE _ fl_X5_17 rfl _) (fun _ h9 => h9) rfl dX5_isGood_99 ?_
      refine lv_iload_n hx hb dX5_isGood_102 rfl (lv_at hl 2 rfl) ?_
      obtain ⟨hin, hf⟩ := xguard hf
      refine va_iald hx hb hK hP 26 0 rfl rfl hin dX5_isGood_103 ?_
      obtain ⟨hin, hf⟩ := xguard hf
      refine va_iald hx hb hK hP 29 0 rfl rfl hin dX5_isGood_104 ?_
      refine lv_icmp_lt hx hb dX5_isGood_105 rfl (fun hc => ?_) (fun hc => ?_)
      · rw [if_pos hc] at hf
        exact t_X5_isGood_112 ⟨hx, hb, hml, hr, hlocks, hown, hno, hG⟩ hP hD  (lv_sub hl [] rfl) hf
      · rw [if_neg hc] at hf
        exact t_X5_isGood_108 ⟨hx, hb, hml, hr, hlocks, hown, hno, hG⟩ hP hD  (lv_sub hl [] rfl) hf
noncomputable def g_X5_isGood_76  (b : xT) (v2 : Int32) (v3 : Int32) : Option (Int32) := g_X5_isGood_77  b v2 v3 0
set_option maxHeartbeats 4000000 in
set_option maxRecDepth 100000 in
theorem t_X5_isGood_76 {p : Program} {l : Launch} {e : Env} {s : State} {m : MethodId} {args : Array Value} {below : List Frame} {meth : Method} {c : Code} {D : va_G} {q : Nat → Nat} {k : Nat → ClassId} {a b : xT} {o : Nat → Int64} {y : Int32} (C : xCx p s m meth c cX5_isGood 5 (some .boolean) RX5 D k) (hP : va_P D vwCl (xw q k a b o) s.heap) (hD : va_D (fun _ => True) (xw q k a b o))  {v2 v3 : Int32} {ls : Array Slot} (hl : lv_has ls 5 [(0, .ref (q 23)), (2, .int v2), (3, .int v3)]) (hf : g_X5_isGood_76  b v2 v3 = some y) : W p l e r_X5_isGood s m args below meth c s.heap [] 0 0 (xMQ below (xQr (.inr (some (.int y)))) args s (xmc (.inr (some (.int y)))) (xms (.inr (some (.int y)))) (fun _ => False)) (F0 m 76 ls []) := by
  obtain ⟨hx, hb, hml, hr, hlocks, hown, hno, hG⟩ := C
  have hK := hG.1
  have hE := hG.2.1
  unfold g_X5_isGood_76 at hf
  refine lv_iconst (v := 0) hx hb dX5_isGood_76 (by decide) ?_
  exact t_X5_isGood_77 ⟨hx, hb, hml, hr, hlocks, hown, hno, hG⟩ hP hD  (lv_sub hl [0, 1, 2] rfl) hf
noncomputable def g_X5_isGood_0  (b : xT) (v1 : Int32) : Option (Int32) := (if xin v1 40 = true then (if xin v1 40 = true then (if xin v1 40 = true then (if (b.1 13 v1.toNatClampNeg) = 0 then g_X5_isGood_76  b (b.1 11 v1.toNatClampNeg) (b.1 12 v1.toNatClampNeg) else (if xin (b.1 11 v1.toNatClampNeg) 240 = true then (if (b.1 0 (b.1 11 v1.toNatClampNeg).toNatClampNeg) = 0 then g_X5_isGood_76  b (b.1 11 v1.toNatClampNeg) (b.1 12 v1.toNatClampNeg) else (if xin (b.1 12 v1.toNatClampNeg) 240 = true then (if (b.1 0 (b.1 12 v1.toNatClampNeg).toNatClampNeg) = 0 then g_X5_isGood_76  b (b.1 11 v1.toNatClampNeg) (b.1 12 v1.toNatClampNeg) else (if xin (b.1 11 v1.toNatClampNeg) 240 = true then (if xin v1 40 = true then (if (b.1 1 (b.1 11 v1.toNatClampNeg).toNatClampNeg) = (b.1 10 v1.toNatClampNeg) then ((f_X5_isFrozen b (b.1 11 v1.toNatClampNeg)).bind fun r58 => (if r58 = 0 then ((f_X5_isFrozen b (b.1 12 v1.toNatClampNeg)).bind fun r66 => (if r66 = 0 then g_X5_isGood_77  b (b.1 11 v1.toNatClampNeg) (b.1 12 v1.toNatClampNeg) 1 else g_X5_isGood_76  b (b.1 11 v1.toNatClampNeg) (b.1 12 v1.toNatClampNeg))) else g_X5_isGood_76  b (b.1 11 v1.toNatClampNeg) (b.1 12 v1.toNatClampNeg))) else g_X5_isGood_76  b (b.1 11 v1.toNatClampNeg) (b.1 12 v1.toNatClampNeg)) else none) else none)) else none)) else none)) else none) else none) else none)
set_option maxHeartbeats 4000000 in
set_option maxRecDepth 100000 in
theorem t_X5_isGood_0 {p : Program} {l : Launch} {e : Env} {s : State} {m : MethodId} {args : Array Value} {below : List Frame} {meth : Method} {c : Code} {D : va_G} {q : Nat → Nat} {k : Nat → ClassId} {a b : xT} {o : Nat → Int64} {y : Int32} (C : xCx p s m meth c cX5_isGood 5 (some .boolean) RX5 D k) (hP : va_P D vwCl (xw q k a b o) s.heap) (hD : va_D (fun _ => True) (xw q k a b o))  {v1 : Int32} {ls : Array Slot} (hl : lv_has ls 5 [(0, .ref (q 23)), (1, .int v1)]) (hf : g_X5_isGood_0  b v1 = some y) : W p l e r_X5_isGood s m args below meth c s.heap [] 0 0 (xMQ below (xQr (.inr (some (.int y)))) args s (xmc (.inr (some (.int y)))) (xms (.inr (some (.int y)))) (fun _ => False)) (F0 m 0 ls []) := by
  obtain ⟨hx, hb, hml, hr, hlocks, hown, hno, hG⟩ := C
  have hK := hG.1
  have hE := hG.2.1
  unfold g_X5_isGood_0 at hf
  refine lv_aload_n hx hb dX5_isGood_0 rfl (lv_at hl 0 rfl) ?_
  refine va_get (D := D) (ci := 5) (v := .ref (q 35)) (C := RX5) (T := TX5) (N := 19) hx hb (hwX5 hE) (fun _ h => h) hown hK hP 23 rfl rfl 14 (by decide) (hE _ fl_X5_44 rfl _) (fun _ h9 => h9) rfl dX5_isGood_1 ?_
  refine lv_iload_n hx hb dX5_isGood_4 rfl (lv_at hl 1 rfl) ?_
  obtain ⟨hin, hf⟩ := xguard hf
  refine va_iald hx hb hK hP 35 0 rfl rfl hin dX5_isGood_5 ?_
  refine lv_istore_n (lv' := [(2, .int (b.1 11 v1.toNatClampNeg)), (0, .ref (q 23)), (1, .int v1)]) hx hb dX5_isGood_6 rfl hl (by decide) rfl (fun ls hl => ?_)
  refine lv_aload_n hx hb dX5_isGood_7 rfl (lv_at hl 1 rfl) ?_
  refine va_get (D := D) (ci := 5) (v := .ref (q 36)) (C := RX5) (T := TX5) (N := 19) hx hb (hwX5 hE) (fun _ h => h) hown hK hP 23 rfl rfl 15 (by decide) (hE _ fl_X5_47 rfl _) (fun _ h9 => h9) rfl dX5_isGood_8 ?_
  refine lv_iload_n hx hb dX5_isGood_11 rfl (lv_at hl 2 rfl) ?_
  obtain ⟨hin, hf⟩ := xguard hf
  refine va_iald hx hb hK hP 36 0 rfl rfl hin dX5_isGood_12 ?_
  refine lv_istore_n (lv' := [(3, .int (b.1 12 v1.toNatClampNeg)), (2, .int (b.1 11 v1.toNatClampNeg)), (0, .ref (q 23)), (1, .int v1)]) hx hb dX5_isGood_13 rfl hl (by decide) rfl (fun ls hl => ?_)
  refine lv_aload_n hx hb dX5_isGood_14 rfl (lv_at hl 2 rfl) ?_
  refine va_get (D := D) (ci := 5) (v := .ref (q 37)) (C := RX5) (T := TX5) (N := 19) hx hb (hwX5 hE) (fun _ h => h) hown hK hP 23 rfl rfl 16 (by decide) (hE _ fl_X5_50 rfl _) (fun _ h9 => h9) rfl dX5_isGood_15 ?_
  refine lv_iload_n hx hb dX5_isGood_18 rfl (lv_at hl 3 rfl) ?_
  obtain ⟨hin, hf⟩ := xguard hf
  refine va_zald hx hb hK hP 37 1 rfl rfl hin dX5_isGood_19 ?_
  refine lv_if_eq hx hb dX5_isGood_20 rfl (fun hc => ?_) (fun hc => ?_)
  · rw [if_pos hc] at hf
    exact t_X5_isGood_76 ⟨hx, hb, hml, hr, hlocks, hown, hno, hG⟩ hP hD  (lv_sub hl [2, 1, 0] rfl) hf
  · rw [if_neg hc] at hf
    refine lv_aload_n hx hb dX5_isGood_23 rfl (lv_at hl 2 rfl) ?_
    refine va_get (D := D) (ci := 5) (v := .ref (q 24)) (C := RX5) (T := TX5) (N := 19) hx hb (hwX5 hE) (fun _ h => h) hown hK hP 23 rfl rfl 1 (by decide) (hE _ fl_X5_7 rfl _) (fun _ h9 => h9) rfl dX5_isGood_24 ?_
    refine lv_iload_n hx hb dX5_isGood_27 rfl (lv_at hl 1 rfl) ?_
    obtain ⟨hin, hf⟩ := xguard hf
    refine va_zald hx hb hK hP 24 1 rfl rfl hin dX5_isGood_28 ?_
    refine lv_if_eq hx hb dX5_isGood_29 rfl (fun hc => ?_) (fun hc => ?_)
    · rw [if_pos hc] at hf
      exact t_X5_isGood_76 ⟨hx, hb, hml, hr, hlocks, hown, hno, hG⟩ hP hD  (lv_sub hl [2, 1, 0] rfl) hf
    · rw [if_neg hc] at hf
      refine lv_aload_n hx hb dX5_isGood_32 rfl (lv_at hl 2 rfl) ?_
      refine va_get (D := D) (ci := 5) (v := .ref (q 24)) (C := RX5) (T := TX5) (N := 19) hx hb (hwX5 hE) (fun _ h => h) hown hK hP 23 rfl rfl 1 (by decide) (hE _ fl_X5_7 rfl _) (fun _ h9 => h9) rfl dX5_isGood_33 ?_
      refine lv_iload_n hx hb dX5_isGood_36 rfl (lv_at hl 0 rfl) ?_
      obtain ⟨hin, hf⟩ := xguard hf
      refine va_zald hx hb hK hP 24 1 rfl rfl hin dX5_isGood_37 ?_
      refine lv_if_eq hx hb dX5_isGood_38 rfl (fun hc => ?_) (fun hc => ?_)
      · rw [if_pos hc] at hf
        exact t_X5_isGood_76 ⟨hx, hb, hml, hr, hlocks, hown, hno, hG⟩ hP hD  (lv_sub hl [2, 1, 0] rfl) hf
      · rw [if_neg hc] at hf
        refine lv_aload_n hx hb dX5_isGood_41 rfl (lv_at hl 2 rfl) ?_
        refine va_get (D := D) (ci := 5) (v := .ref (q 25)) (C := RX5) (T := TX5) (N := 19) hx hb (hwX5 hE) (fun _ h => h) hown hK hP 23 rfl rfl 2 (by decide) (hE _ fl_X5_13 rfl _) (fun _ h9 => h9) rfl dX5_isGood_42 ?_
        refine lv_iload_n hx hb dX5_isGood_45 rfl (lv_at hl 1 rfl) ?_
        obtain ⟨hin, hf⟩ := xguard hf
        refine va_iald hx hb hK hP 25 0 rfl rfl hin dX5_isGood_46 ?_
        refine lv_aload_n hx hb dX5_isGood_47 rfl (lv_at hl 2 rfl) ?_
        refine va_get (D := D) (ci := 5) (v := .ref (q 34)) (C := RX5) (T := TX5) (N := 19) hx hb (hwX5 hE) (fun _ h => h) hown hK hP 23 rfl rfl 13 (by decide) (hE _ fl_X5_41 rfl _) (fun _ h9 => h9) rfl dX5_isGood_48 ?_
        refine lv_iload_n hx hb dX5_isGood_51 rfl (lv_at hl 3 rfl) ?_
        obtain ⟨hin, hf⟩ := xguard hf
        refine va_iald hx hb hK hP 34 0 rfl rfl hin dX5_isGood_52 ?_
        refine lv_icmp_ne hx hb dX5_isGood_53 rfl (fun hc => ?_) (fun hc => ?_)
        · rw [if_neg hc] at hf
          exact t_X5_isGood_76 ⟨hx, hb, hml, hr, hlocks, hown, hno, hG⟩ hP hD  (lv_sub hl [2, 1, 0] rfl) hf
        · rw [if_pos hc] at hf
          refine lv_aload_n hx hb dX5_isGood_56 rfl (lv_at hl 2 rfl) ?_
          refine lv_iload_n hx hb dX5_isGood_57 rfl (lv_at hl 1 rfl) ?_
          obtain ⟨r58, hN, hf⟩ := xbind hf
          refine xgo_r (v := some (.int r58)) (xrunV (C := RX5) (As := [.int (b.1 11 v1.toNatClampNeg)]) (rest := []) (xfixm fx_X5_isFrozen hx hb hml hown (by decide) (by decide) (by decide) (by decide)) hE ml_X5_70 wi_X5_isFrozen wz_X5_isFrozen wc_X5_isFrozen wn_X5 (c_X5_isFrozen l D q k a b o (b.1 11 v1.toNatClampNeg) _ hN) (va_recv (q := (RX5, TX5, 19)) (ci := 5) (q0 := 23) hK hP rfl rfl) (xpre hP hD hG) rfl rfl hl.1 rfl (lv_room (Nat.le_of_ble_eq_true rfl)) dX5_isGood_58) ?_
          refine lv_if_ne hx hb dX5_isGood_61 rfl (fun hc => ?_) (fun hc => ?_)
          · rw [if_neg hc] at hf
            exact t_X5_isGood_76 ⟨hx, hb, hml, hr, hlocks, hown, hno, hG⟩ hP hD  (lv_sub hl [2, 1, 0] rfl) hf
          · rw [if_pos hc] at hf
            refine lv_aload_n hx hb dX5_isGood_64 rfl (lv_at hl 2 rfl) ?_
            refine lv_iload_n hx hb dX5_isGood_65 rfl (lv_at hl 0 rfl) ?_
            obtain ⟨r66, hN, hf⟩ := xbind hf
            refine xgo_r (v := some (.int r66)) (xrunV (C := RX5) (As := [.int (b.1 12 v1.toNatClampNeg)]) (rest := []) (xfixm fx_X5_isFrozen hx hb hml hown (by decide) (by decide) (by decide) (by decide)) hE ml_X5_70 wi_X5_isFrozen wz_X5_isFrozen wc_X5_isFrozen wn_X5 (c_X5_isFrozen l D q k a b o (b.1 12 v1.toNatClampNeg) _ hN) (va_recv (q := (RX5, TX5, 19)) (ci := 5) (q0 := 23) hK hP rfl rfl) (xpre hP hD hG) rfl rfl hl.1 rfl (lv_room (Nat.le_of_ble_eq_true rfl)) dX5_isGood_66) ?_
            refine lv_if_ne hx hb dX5_isGood_69 rfl (fun hc => ?_) (fun hc => ?_)
            · rw [if_neg hc] at hf
              exact t_X5_isGood_76 ⟨hx, hb, hml, hr, hlocks, hown, hno, hG⟩ hP hD  (lv_sub hl [2, 1, 0] rfl) hf
            · rw [if_pos hc] at hf
              refine lv_iconst (v := 1) hx hb dX5_isGood_72 (by decide) ?_
              refine lv_goto hx hb dX5_isGood_73 rfl ?_
              exact t_X5_isGood_77 ⟨hx, hb, hml, hr, hlocks, hown, hno, hG⟩ hP hD  (lv_sub hl [2, 1, 0] rfl) hf
noncomputable def f_X5_isGood (b : xT) (v1 : Int32) : Option (Int32) := g_X5_isGood_0 b v1
set_option maxHeartbeats 4000000 in
set_option maxRecDepth 100000 in
theorem c_X5_isGood (l : Launch) (D : va_G) (q : Nat → Nat) (k : Nat → ClassId) (a b : xT) (o : Nat → Int64) (v1 : Int32) (y : Int32) (hf : f_X5_isGood b v1 = some y) : xMet l yX5_isGood (.code yX5_isGood cX5_isGood 5 (some .boolean)) r_X5_isGood (xPc D q k a b o [.ref (q 23), .int v1]) (xQr (.inr (some (.int y)))) (xmc (.inr (some (.int y)))) (xms (.inr (some (.int y)))) (fun _ => False) := by
  refine xMet.ofW (by decide) ?_
  intro p e s m args below meth c hx hb hml hr hlocks hnm hme hno hv
  obtain ⟨rfl, hP, hD, hG⟩ := hv
  have hown : s.vm.findClass RX5 = some m.cls := findClass_of_methodNamed hnm
  have hl := lv_entry ([.ref (q 23), .int v1]) (n := 5) (Nat.le_of_ble_eq_true rfl)
  rw [lg_entry_eq]
  generalize (lg_sl ([.ref (q 23), .int v1]) ++ List.replicate (5 - (lg_sl ([.ref (q 23), .int v1])).length) Slot.unset).toArray = ls at hl ⊢
  have hl : lv_has ls 5 [(0, .ref (q 23)), (1, .int v1)] := hl
  exact t_X5_isGood_0 ⟨hx, hb, hml, hr, hlocks, hown, hno, hG⟩ hP hD hl hf
abbrev r_X5_later : Room := { frames := 1, cells := 0, slots := 0, locals := 24 }
noncomputable def g_X5_later_78  (b : xT)  : Option (Int32 × xT) := some (0, b)
set_option maxHeartbeats 4000000 in
set_option maxRecDepth 100000 in
theorem t_X5_later_78 {p : Program} {l : Launch} {e : Env} {s : State} {m : MethodId} {args : Array Value} {below : List Frame} {meth : Method} {c : Code} {D : va_G} {q : Nat → Nat} {k : Nat → ClassId} {a b : xT} {o : Nat → Int64} {z : xT} {y : Int32 × xT} (C : xCx p s m meth c cX5_later 4 (some .boolean) RX5 D k) {H : Heap} {locs : List Loc} (hP : va_P D vwCl (xw q k a b o) H) (hD : va_D (va_A (xw q k a z o) s.heap.size) (xw q k a b o)) (hS : va_S (va_A (xw q k a z o) s.heap.size) s.heap H locs)  {ls : Array Slot} (hl : lv_has ls 4 []) (hf : g_X5_later_78  b  = some y) : W p l e r_X5_later s m args below meth c H locs 0 0 (xMQ below (xQm D q k a z o (.inr (some (.int y.1), a, y.2))) args s 0 0 (va_A (xw q k a z o) s.heap.size)) (F0 m 78 ls []) := by
  obtain ⟨hx, hb, hml, hr, hlocks, hown, hno, hG⟩ := C
  have hK := hG.1
  have hE := hG.2.1
  have hA : ∀ u, s.heap.size ≤ u → va_A (xw q k a z o) s.heap.size u := fun u h => Or.inr h
  unfold g_X5_later_78 at hf
  refine lv_iconst (v := 0) hx hb dX5_later_78 (by decide) ?_
  cases hf
  exact xretm_z hx hb hr xz0 hlocks hP hS dX5_later_79
noncomputable def g_X5_later_62  (b : xT) (v1 : Int32) (v2 : Int32) : Option (Int32 × xT) := (if xin v1 60 = true then (if (b.1 6 v1.toNatClampNeg) < 0 then g_X5_later_78  b  else (if (b.1 6 v1.toNatClampNeg) < v2 then ((f_X5_empty b (b.1 6 v1.toNatClampNeg)).bind fun z82 => ((f_X5_note z82 4 v1 (b.1 6 v1.toNatClampNeg) (-1)).bind fun z90 => some (1, z90))) else g_X5_later_78  b )) else none)
set_option maxHeartbeats 4000000 in
set_option maxRecDepth 100000 in
theorem t_X5_later_62 {p : Program} {l : Launch} {e : Env} {s : State} {m : MethodId} {args : Array Value} {below : List Frame} {meth : Method} {c : Code} {D : va_G} {q : Nat → Nat} {k : Nat → ClassId} {a b : xT} {o : Nat → Int64} {z : xT} {y : Int32 × xT} (C : xCx p s m meth c cX5_later 4 (some .boolean) RX5 D k) {H : Heap} {locs : List Loc} (hP : va_P D vwCl (xw q k a b o) H) (hD : va_D (va_A (xw q k a z o) s.heap.size) (xw q k a b o)) (hS : va_S (va_A (xw q k a z o) s.heap.size) s.heap H locs)  {v1 v2 : Int32} {ls : Array Slot} (hl : lv_has ls 4 [(0, .ref (q 23)), (1, .int v1), (2, .int v2)]) (hf : g_X5_later_62  b v1 v2 = some y) : W p l e r_X5_later s m args below meth c H locs 0 0 (xMQ below (xQm D q k a z o (.inr (some (.int y.1), a, y.2))) args s 0 0 (va_A (xw q k a z o) s.heap.size)) (F0 m 62 ls []) := by
  obtain ⟨hx, hb, hml, hr, hlocks, hown, hno, hG⟩ := C
  have hK := hG.1
  have hE := hG.2.1
  have hA : ∀ u, s.heap.size ≤ u → va_A (xw q k a z o) s.heap.size u := fun u h => Or.inr h
  unfold g_X5_later_62 at hf
  refine lv_aload_n hx hb dX5_later_62 rfl (lv_at hl 0 rfl) ?_
  refine va_get (D := D) (ci := 5) (v := .ref (q 30)) (C := RX5) (T := TX5) (N := 19) hx hb (hwX5 hE) (fun _ h => h) hown hK hP 23 rfl rfl 8 (by decide) (hE _ fl_X5_29 rfl _) (fun _ h9 => h9) rfl dX5_later_63 ?_
  refine lv_iload_n hx hb dX5_later_66 rfl (lv_at hl 1 rfl) ?_
  obtain ⟨hin, hf⟩ := xguard hf
  refine va_iald hx hb hK hP 30 0 rfl rfl hin dX5_later_67 ?_
  refine lv_istore_n (lv' := [(3, .int (b.1 6 v1.toNatClampNeg)), (0, .ref (q 23)), (1, .int v1), (2, .int v2)]) hx hb dX5_later_68 rfl hl (by decide) rfl (fun ls hl => ?_)
  refine lv_iload_n hx hb dX5_later_69 rfl (lv_at hl 0 rfl) ?_
  refine lv_if_lt hx hb dX5_later_70 rfl (fun hc => ?_) (fun hc => ?_)
  · rw [if_pos hc] at hf
    exact t_X5_later_78 ⟨hx, hb, hml, hr, hlocks, hown, hno, hG⟩ hP hD hS  (lv_sub hl [] rfl) hf
  · rw [if_neg hc] at hf
    refine lv_iload_n hx hb dX5_later_73 rfl (lv_at hl 0 rfl) ?_
    refine lv_iload_n hx hb dX5_later_74 rfl (lv_at hl 3 rfl) ?_
    refine lv_icmp_lt hx hb dX5_later_75 rfl (fun hc => ?_) (fun hc => ?_)
    · rw [if_pos hc] at hf
      refine lv_aload_n hx hb dX5_later_80 rfl (lv_at hl 1 rfl) ?_
      refine lv_iload_n hx hb dX5_later_81 rfl (lv_at hl 0 rfl) ?_
      obtain ⟨z82, hN, hf⟩ := xbind hf
      refine xgo_m (v := none) (a1 := a) (b1 := z82) (xrunV (C := RX5) (As := [.int (b.1 6 v1.toNatClampNeg)]) (rest := []) (xfixm fx_X5_empty hx hb hml hown (by decide) (by decide) (by decide) (by decide)) hE ml_X5_73 wi_X5_empty wz_X5_empty wc_X5_empty wn_X5 (c_X5_empty l D q k _ a b o (b.1 6 v1.toNatClampNeg) _ hN) (va_recv (q := (RX5, TX5, 19)) (ci := 5) (q0 := 23) hK hP rfl rfl) (xprem hP hD hG) rfl rfl hl.1 rfl (lv_room (Nat.le_of_ble_eq_true rfl)) dX5_later_82) hD hS hA (fun H locs hP hD hS => ?_)
      refine lv_aload_n hx hb dX5_later_85 rfl (lv_at hl 1 rfl) ?_
      refine lv_iconst (v := 4) hx hb dX5_later_86 (by decide) ?_
      refine lv_iload_n hx hb dX5_later_87 rfl (lv_at hl 2 rfl) ?_
      refine lv_iload_n hx hb dX5_later_88 rfl (lv_at hl 0 rfl) ?_
      refine lv_iconst (v := -1) hx hb dX5_later_89 (by decide) ?_
      obtain ⟨z90, hN, hf⟩ := xbind hf
      refine xgo_m (v := none) (a1 := a) (b1 := z90) (xrunV (C := RX5) (As := [.int 4, .int v1, .int (b.1 6 v1.toNatClampNeg), .int (-1)]) (rest := []) (xfixm fx_X5_note hx hb hml hown (by decide) (by decide) (by decide) (by decide)) hE ml_X5_97 wi_X5_note wz_X5_note wc_X5_note wn_X5 (c_X5_note l D q k _ a z82 o 4 v1 (b.1 6 v1.toNatClampNeg) (-1) _ hN) (va_recv (q := (RX5, TX5, 19)) (ci := 5) (q0 := 23) hK hP rfl rfl) (xprem hP hD hG) rfl rfl hl.1 rfl (lv_room (Nat.le_of_ble_eq_true rfl)) dX5_later_90) hD hS hA (fun H locs hP hD hS => ?_)
      refine lv_iconst (v := 1) hx hb dX5_later_93 (by decide) ?_
      cases hf
      exact xretm_z hx hb hr xz1 hlocks hP hS dX5_later_94
    · rw [if_neg hc] at hf
      exact t_X5_later_78 ⟨hx, hb, hml, hr, hlocks, hown, hno, hG⟩ hP hD hS  (lv_sub hl [] rfl) hf
noncomputable def g_X5_later_46  (b : xT) (v1 : Int32) (v2 : Int32) : Option (Int32 × xT) := (if (b.2 0) ≤ 0 then (if xin v1 60 = true then g_X5_later_62  (xs b 5 v1.toNatClampNeg v2) v1 v2 else none) else some (0, b))
set_option maxHeartbeats 4000000 in
set_option maxRecDepth 100000 in
theorem t_X5_later_46 {p : Program} {l : Launch} {e : Env} {s : State} {m : MethodId} {args : Array Value} {below : List Frame} {meth : Method} {c : Code} {D : va_G} {q : Nat → Nat} {k : Nat → ClassId} {a b : xT} {o : Nat → Int64} {z : xT} {y : Int32 × xT} (C : xCx p s m meth c cX5_later 4 (some .boolean) RX5 D k) {H : Heap} {locs : List Loc} (hP : va_P D vwCl (xw q k a b o) H) (hD : va_D (va_A (xw q k a z o) s.heap.size) (xw q k a b o)) (hS : va_S (va_A (xw q k a z o) s.heap.size) s.heap H locs)  {v1 v2 : Int32} {ls : Array Slot} (hl : lv_has ls 4 [(0, .ref (q 23)), (1, .int v1), (2, .int v2)]) (hf : g_X5_later_46  b v1 v2 = some y) : W p l e r_X5_later s m args below meth c H locs 0 0 (xMQ below (xQm D q k a z o (.inr (some (.int y.1), a, y.2))) args s 0 0 (va_A (xw q k a z o) s.heap.size)) (F0 m 46 ls []) := by
  obtain ⟨hx, hb, hml, hr, hlocks, hown, hno, hG⟩ := C
  have hK := hG.1
  have hE := hG.2.1
  have hA : ∀ u, s.heap.size ≤ u → va_A (xw q k a z o) s.heap.size u := fun u h => Or.inr h
  unfold g_X5_later_46 at hf
  refine lv_aload_n hx hb dX5_later_46 rfl (lv_at hl 0 rfl) ?_
  refine va_get (D := D) (ci := 5) (v := .int (b.2 0)) (C := RX5) (T := TX5) (N := 19) hx hb (hwX5 hE) (fun _ h => h) hown hK hP 23 rfl rfl 0 (by decide) (hE _ fl_X5_56 rfl _) (fun _ h9 => h9) rfl dX5_later_47 ?_
  refine lv_if_le hx hb dX5_later_50 rfl (fun hc => ?_) (fun hc => ?_)
  · rw [if_pos hc] at hf
    refine lv_aload_n hx hb dX5_later_55 rfl (lv_at hl 0 rfl) ?_
    refine va_get (D := D) (ci := 5) (v := .ref (q 29)) (C := RX5) (T := TX5) (N := 19) hx hb (hwX5 hE) (fun _ h => h) hown hK hP 23 rfl rfl 7 (by decide) (hE _ fl_X5_26 rfl _) (fun _ h9 => h9) rfl dX5_later_56 ?_
    refine lv_iload_n hx hb dX5_later_59 rfl (lv_at hl 1 rfl) ?_
    refine lv_iload_n hx hb dX5_later_60 rfl (lv_at hl 2 rfl) ?_
    obtain ⟨hin, hf⟩ := xguard hf
    refine va_iast hx hb hK hP hD hS 29 0 rfl rfl hin dX5_later_61 (fun H locs hP hD hS => ?_)
    rw [xw_s29] at hP hD
    exact t_X5_later_62 ⟨hx, hb, hml, hr, hlocks, hown, hno, hG⟩ hP hD hS  (lv_sub hl [0, 1, 2] rfl) hf
  · rw [if_neg hc] at hf
    refine lv_iconst (v := 0) hx hb dX5_later_53 (by decide) ?_
    cases hf
    exact xretm_z hx hb hr xz0 hlocks hP hS dX5_later_54
noncomputable def g_X5_later_43  (b : xT) (v1 : Int32) (v2 : Int32) (s1 : Int32) : Option (Int32 × xT) := g_X5_later_46  (xn b 0 s1) v1 v2
set_option maxHeartbeats 4000000 in
set_option maxRecDepth 100000 in
theorem t_X5_later_43 {p : Program} {l : Launch} {e : Env} {s : State} {m : MethodId} {args : Array Value} {below : List Frame} {meth : Method} {c : Code} {D : va_G} {q : Nat → Nat} {k : Nat → ClassId} {a b : xT} {o : Nat → Int64} {z : xT} {y : Int32 × xT} (C : xCx p s m meth c cX5_later 4 (some .boolean) RX5 D k) {H : Heap} {locs : List Loc} (hP : va_P D vwCl (xw q k a b o) H) (hD : va_D (va_A (xw q k a z o) s.heap.size) (xw q k a b o)) (hS : va_S (va_A (xw q k a z o) s.heap.size) s.heap H locs)  {v1 v2 s1 : Int32} {ls : Array Slot} (hl : lv_has ls 4 [(0, .ref (q 23)), (1, .int v1), (2, .int v2)]) (hf : g_X5_later_43  b v1 v2 s1 = some y) : W p l e r_X5_later s m args below meth c H locs 0 0 (xMQ below (xQm D q k a z o (.inr (some (.int y.1), a, y.2))) args s 0 0 (va_A (xw q k a z o) s.heap.size)) (F0 m 43 ls [.int s1, .ref (q 23)]) := by
  obtain ⟨hx, hb, hml, hr, hlocks, hown, hno, hG⟩ := C
  have hK := hG.1
  have hE := hG.2.1
  have hA : ∀ u, s.heap.size ≤ u → va_A (xw q k a z o) s.heap.size u := fun u h => Or.inr h
  unfold g_X5_later_43 at hf
  refine va_put (D := D) (ci := 5) (v := .int s1) (ty := .int) (C := RX5) (T := TX5) (N := 19) hx hb (hwX5 hE) (fun _ h => h) tyX5 tyX5_ok nmX5 hown hK hP hD hS 23 rfl rfl 0 (by decide) (hE _ fl_X5_56 rfl _) (fun _ h9 => h9) rfl (by decide +kernel) rfl rfl (Nat.le_of_ble_eq_true rfl) dX5_later_43 (fun H locs hP hD hS => ?_)
  rw [xw_n23_0] at hP hD
  exact t_X5_later_46 ⟨hx, hb, hml, hr, hlocks, hown, hno, hG⟩ hP hD hS  (lv_sub hl [0, 1, 2] rfl) hf
noncomputable def g_X5_later_26  (b : xT) (v1 : Int32) (v2 : Int32) : Option (Int32 × xT) := g_X5_later_43  b v1 v2 1
set_option maxHeartbeats 4000000 in
set_option maxRecDepth 100000 in
theorem t_X5_later_26 {p : Program} {l : Launch} {e : Env} {s : State} {m : MethodId} {args : Array Value} {below : List Frame} {meth : Method} {c : Code} {D : va_G} {q : Nat → Nat} {k : Nat → ClassId} {a b : xT} {o : Nat → Int64} {z : xT} {y : Int32 × xT} (C : xCx p s m meth c cX5_later 4 (some .boolean) RX5 D k) {H : Heap} {locs : List Loc} (hP : va_P D vwCl (xw q k a b o) H) (hD : va_D (va_A (xw q k a z o) s.heap.size) (xw q k a b o)) (hS : va_S (va_A (xw q k a z o) s.heap.size) s.heap H locs)  {v1 v2 : Int32} {ls : Array Slot} (hl : lv_has ls 4 [(0, .ref (q 23)), (1, .int v1), (2, .int v2)]) (hf : g_X5_later_26  b v1 v2 = some y) : W p l e r_X5_later s m args below meth c H locs 0 0 (xMQ below (xQm D q k a z o (.inr (some (.int y.1), a, y.2))) args s 0 0 (va_A (xw q k a z o) s.heap.size)) (F0 m 26 ls [.ref (q 23)]) := by
  obtain ⟨hx, hb, hml, hr, hlocks, hown, hno, hG⟩ := C
  have hK := hG.1
  have hE := hG.2.1
  have hA : ∀ u, s.heap.size ≤ u → va_A (xw q k a z o) s.heap.size u := fun u h => Or.inr h
  unfold g_X5_later_26 at hf
  refine lv_iconst (v := 1) hx hb dX5_later_26 (by decide) ?_
  refine lv_goto hx hb dX5_later_27 rfl ?_
  exact t_X5_later_43 ⟨hx, hb, hml, hr, hlocks, hown, hno, hG⟩ hP hD hS  (lv_sub hl [0, 1, 2] rfl) hf
noncomputable def g_X5_later_0  (b : xT) (v1 : Int32) (v2 : Int32) : Option (Int32 × xT) := ((f_X5_isFlight b v1).bind fun r3 => (if r3 = 0 then g_X5_later_26  b v1 v2 else (if xin v1 60 = true then (if v2 < (b.1 5 v1.toNatClampNeg) then g_X5_later_26  b v1 v2 else (if v2 ≤ 300 then ((f_X5_isLoose b v1).bind fun r32 => (if r32 = 0 then g_X5_later_43  b v1 v2 2 else g_X5_later_43  b v1 v2 0)) else g_X5_later_26  b v1 v2)) else none)))
set_option maxHeartbeats 4000000 in
set_option maxRecDepth 100000 in
theorem t_X5_later_0 {p : Program} {l : Launch} {e : Env} {s : State} {m : MethodId} {args : Array Value} {below : List Frame} {meth : Method} {c : Code} {D : va_G} {q : Nat → Nat} {k : Nat → ClassId} {a b : xT} {o : Nat → Int64} {z : xT} {y : Int32 × xT} (C : xCx p s m meth c cX5_later 4 (some .boolean) RX5 D k) {H : Heap} {locs : List Loc} (hP : va_P D vwCl (xw q k a b o) H) (hD : va_D (va_A (xw q k a z o) s.heap.size) (xw q k a b o)) (hS : va_S (va_A (xw q k a z o) s.heap.size) s.heap H locs)  {v1 v2 : Int32} {ls : Array Slot} (hl : lv_has ls 4 [(0, .ref (q 23)), (1, .int v1), (2, .int v2)]) (hf : g_X5_later_0  b v1 v2 = some y) : W p l e r_X5_later s m args below meth c H locs 0 0 (xMQ below (xQm D q k a z o (.inr (some (.int y.1), a, y.2))) args s 0 0 (va_A (xw q k a z o) s.heap.size)) (F0 m 0 ls []) := by
  obtain ⟨hx, hb, hml, hr, hlocks, hown, hno, hG⟩ := C
  have hK := hG.1
  have hE := hG.2.1
  have hA : ∀ u, s.heap.size ≤ u → va_A (xw q k a z o) s.heap.size u := fun u h => Or.inr h
  unfold g_X5_later_0 at hf
  refine lv_aload_n hx hb dX5_later_0 rfl (lv_at hl 0 rfl) ?_
  refine lv_aload_n hx hb dX5_later_1 rfl (lv_at hl 0 rfl) ?_
  refine lv_iload_n hx hb dX5_later_2 rfl (lv_at hl 1 rfl) ?_
  obtain ⟨r3, hN, hf⟩ := xbind hf
  refine xgo_r (v := some (.int r3)) (xrunV (C := RX5) (As := [.int v1]) (rest := [.ref (q 23)]) (xfixm fx_X5_isFlight hx hb hml hown (by decide) (by decide) (by decide) (by decide)) hE ml_X5_91 wi_X5_isFlight wz_X5_isFlight wc_X5_isFlight wn_X5 (c_X5_isFlight l D q k a b o v1 _ hN) (va_recv (q := (RX5, TX5, 19)) (ci := 5) (q0 := 23) hK hP rfl rfl) (xpre hP hD hG) rfl rfl hl.1 rfl (lv_room (Nat.le_of_ble_eq_true rfl)) dX5_later_3) ?_
  refine lv_if_eq hx hb dX5_later_6 rfl (fun hc => ?_) (fun hc => ?_)
  · rw [if_pos hc] at hf
    exact t_X5_later_26 ⟨hx, hb, hml, hr, hlocks, hown, hno, hG⟩ hP hD hS  (lv_sub hl [0, 1, 2] rfl) hf
  · rw [if_neg hc] at hf
    refine lv_iload_n hx hb dX5_later_9 rfl (lv_at hl 2 rfl) ?_
    refine lv_aload_n hx hb dX5_later_10 rfl (lv_at hl 0 rfl) ?_
    refine va_get (D := D) (ci := 5) (v := .ref (q 29)) (C := RX5) (T := TX5) (N := 19) hx hb (hwX5 hE) (fun _ h => h) hown hK hP 23 rfl rfl 7 (by decide) (hE _ fl_X5_26 rfl _) (fun _ h9 => h9) rfl dX5_later_11 ?_
    refine lv_iload_n hx hb dX5_later_14 rfl (lv_at hl 1 rfl) ?_
    obtain ⟨hin, hf⟩ := xguard hf
    refine va_iald hx hb hK hP 29 0 rfl rfl hin dX5_later_15 ?_
    refine lv_icmp_lt hx hb dX5_later_16 rfl (fun hc => ?_) (fun hc => ?_)
    · rw [if_pos hc] at hf
      exact t_X5_later_26 ⟨hx, hb, hml, hr, hlocks, hown, hno, hG⟩ hP hD hS  (lv_sub hl [0, 1, 2] rfl) hf
    · rw [if_neg hc] at hf
      refine lv_iload_n hx hb dX5_later_19 rfl (lv_at hl 2 rfl) ?_
      refine lv_sipush (v := 300) hx hb dX5_later_20 (by decide) ?_
      refine lv_icmp_le hx hb dX5_later_23 rfl (fun hc => ?_) (fun hc => ?_)
      · rw [if_pos hc] at hf
        refine lv_aload_n hx hb dX5_later_30 rfl (lv_at hl 0 rfl) ?_
        refine lv_iload_n hx hb dX5_later_31 rfl (lv_at hl 1 rfl) ?_
        obtain ⟨r32, hN, hf⟩ := xbind hf
        refine xgo_r (v := some (.int r32)) (xrunV (C := RX5) (As := [.int v1]) (rest := [.ref (q 23)]) (xfixm fx_X5_isLoose hx hb hml hown (by decide) (by decide) (by decide) (by decide)) hE ml_X5_66 wi_X5_isLoose wz_X5_isLoose wc_X5_isLoose wn_X5 (c_X5_isLoose l D q k a b o v1 _ hN) (va_recv (q := (RX5, TX5, 19)) (ci := 5) (q0 := 23) hK hP rfl rfl) (xpre hP hD hG) rfl rfl hl.1 rfl (lv_room (Nat.le_of_ble_eq_true rfl)) dX5_later_32) ?_
        refine lv_if_ne hx hb dX5_later_35 rfl (fun hc => ?_) (fun hc => ?_)
        · rw [if_neg hc] at hf
          refine lv_iconst (v := 0) hx hb dX5_later_42 (by decide) ?_
          exact t_X5_later_43 ⟨hx, hb, hml, hr, hlocks, hown, hno, hG⟩ hP hD hS  (lv_sub hl [0, 1, 2] rfl) hf
        · rw [if_pos hc] at hf
          refine lv_iconst (v := 2) hx hb dX5_later_38 (by decide) ?_
          refine lv_goto hx hb dX5_later_39 rfl ?_
          exact t_X5_later_43 ⟨hx, hb, hml, hr, hlocks, hown, hno, hG⟩ hP hD hS  (lv_sub hl [0, 1, 2] rfl) hf
      · rw [if_neg hc] at hf
        exact t_X5_later_26 ⟨hx, hb, hml, hr, hlocks, hown, hno, hG⟩ hP hD hS  (lv_sub hl [0, 1, 2] rfl) hf
noncomputable def f_X5_later (b : xT) (v1 : Int32) (v2 : Int32) : Option (Int32 × xT) := g_X5_later_0 b v1 v2
set_option maxHeartbeats 4000000 in
set_option maxRecDepth 100000 in
theorem c_X5_later (l : Launch) (D : va_G) (q : Nat → Nat) (k : Nat → ClassId) (sz : Nat) (a b : xT) (o : Nat → Int64) (v1 : Int32) (v2 : Int32) (y : Int32 × xT) (hf : f_X5_later b v1 v2 = some y) : xMet l yX5_later (.code yX5_later cX5_later 4 (some .boolean)) r_X5_later (xPcm D q k sz a b o [.ref (q 23), .int v1, .int v2]) (xQm D q k a b o (.inr (some (.int y.1), a, y.2))) 0 0 (va_A (xw q k a b o) sz) := by
  refine xMet.ofW (by decide) ?_
  intro p e s m args below meth c hx hb hml hr hlocks hnm hme hno hv
  obtain ⟨rfl, hsz, hP, hD, hG⟩ := hv
  subst hsz
  have hown : s.vm.findClass RX5 = some m.cls := findClass_of_methodNamed hnm
  have hl := lv_entry ([.ref (q 23), .int v1, .int v2]) (n := 4) (Nat.le_of_ble_eq_true rfl)
  rw [lg_entry_eq]
  generalize (lg_sl ([.ref (q 23), .int v1, .int v2]) ++ List.replicate (4 - (lg_sl ([.ref (q 23), .int v1, .int v2])).length) Slot.unset).toArray = ls at hl ⊢
  have hl : lv_has ls 4 [(0, .ref (q 23)), (1, .int v1), (2, .int v2)] := hl
  have hD := hD.self (sz := s.heap.size)
  exact t_X5_later_0 ⟨hx, hb, hml, hr, hlocks, hown, hno, hG⟩ hP hD va_S.rf hl hf
abbrev r_X5_log : Room := { frames := 0, cells := 0, slots := 0, locals := 0 }
noncomputable def g_X5_log_5  (b : xT)  : Option (Int32 × xT) := some (b.2 3, b)
set_option maxHeartbeats 4000000 in
set_option maxRecDepth 100000 in
theorem t_X5_log_5 {p : Program} {l : Launch} {e : Env} {s : State} {m : MethodId} {args : Array Value} {below : List Frame} {meth : Method} {c : Code} {D : va_G} {q : Nat → Nat} {k : Nat → ClassId} {a b : xT} {o : Nat → Int64} {z : xT} {y : Int32 × xT} (C : xCx p s m meth c cX5_log 1 (some .int) RX5 D k) {H : Heap} {locs : List Loc} (hP : va_P D vwCl (xw q k a b o) H) (hD : va_D (va_A (xw q k a z o) s.heap.size) (xw q k a b o)) (hS : va_S (va_A (xw q k a z o) s.heap.size) s.heap H locs)  {ls : Array Slot} (hl : lv_has ls 1 [(0, .ref (q 23))]) (hf : g_X5_log_5  b  = some y) : W p l e r_X5_log s m args below meth c H locs 0 0 (xMQ below (xQm D q k a z o (.inr (some (.int y.1), a, y.2))) args s 0 0 (va_A (xw q k a z o) s.heap.size)) (F0 m 5 ls []) := by
  obtain ⟨hx, hb, hml, hr, hlocks, hown, hno, hG⟩ := C
  have hK := hG.1
  have hE := hG.2.1
  have hA : ∀ u, s.heap.size ≤ u → va_A (xw q k a z o) s.heap.size u := fun u h => Or.inr h
  unfold g_X5_log_5 at hf
  refine lv_aload_n hx hb dX5_log_5 rfl (lv_at hl 0 rfl) ?_
  refine va_get (D := D) (ci := 5) (v := .int (b.2 3)) (C := RX5) (T := TX5) (N := 19) hx hb (hwX5 hE) (fun _ h => h) hown hK hP 23 rfl rfl 17 (by decide) (hE _ fl_X5_63 rfl _) (fun _ h9 => h9) rfl dX5_log_6 ?_
  cases hf
  exact xretm_i hx hb hr hlocks hP hS dX5_log_9
noncomputable def g_X5_log_0  (b : xT)  : Option (Int32 × xT) := g_X5_log_5  (xn b 0 0) 
set_option maxHeartbeats 4000000 in
set_option maxRecDepth 100000 in
theorem t_X5_log_0 {p : Program} {l : Launch} {e : Env} {s : State} {m : MethodId} {args : Array Value} {below : List Frame} {meth : Method} {c : Code} {D : va_G} {q : Nat → Nat} {k : Nat → ClassId} {a b : xT} {o : Nat → Int64} {z : xT} {y : Int32 × xT} (C : xCx p s m meth c cX5_log 1 (some .int) RX5 D k) {H : Heap} {locs : List Loc} (hP : va_P D vwCl (xw q k a b o) H) (hD : va_D (va_A (xw q k a z o) s.heap.size) (xw q k a b o)) (hS : va_S (va_A (xw q k a z o) s.heap.size) s.heap H locs)  {ls : Array Slot} (hl : lv_has ls 1 [(0, .ref (q 23))]) (hf : g_X5_log_0  b  = some y) : W p l e r_X5_log s m args below meth c H locs 0 0 (xMQ below (xQm D q k a z o (.inr (some (.int y.1), a, y.2))) args s 0 0 (va_A (xw q k a z o) s.heap.size)) (F0 m 0 ls []) := by
  obtain ⟨hx, hb, hml, hr, hlocks, hown, hno, hG⟩ := C
  have hK := hG.1
  have hE := hG.2.1
  have hA : ∀ u, s.heap.size ≤ u → va_A (xw q k a z o) s.heap.size u := fun u h => Or.inr h
  unfold g_X5_log_0 at hf
  refine lv_aload_n hx hb dX5_log_0 rfl (lv_at hl 0 rfl) ?_
  refine lv_iconst (v := 0) hx hb dX5_log_1 (by decide) ?_
  refine va_put (D := D) (ci := 5) (v := .int 0) (ty := .int) (C := RX5) (T := TX5) (N := 19) hx hb (hwX5 hE) (fun _ h => h) tyX5 tyX5_ok nmX5 hown hK hP hD hS 23 rfl rfl 0 (by decide) (hE _ fl_X5_56 rfl _) (fun _ h9 => h9) rfl (by decide +kernel) rfl rfl (Nat.le_of_ble_eq_true rfl) dX5_log_2 (fun H locs hP hD hS => ?_)
  rw [xw_n23_0] at hP hD
  exact t_X5_log_5 ⟨hx, hb, hml, hr, hlocks, hown, hno, hG⟩ hP hD hS  (lv_sub hl [0] rfl) hf
noncomputable def f_X5_log (b : xT)  : Option (Int32 × xT) := g_X5_log_0 b 
set_option maxHeartbeats 4000000 in
set_option maxRecDepth 100000 in
theorem c_X5_log (l : Launch) (D : va_G) (q : Nat → Nat) (k : Nat → ClassId) (sz : Nat) (a b : xT) (o : Nat → Int64)  (y : Int32 × xT) (hf : f_X5_log b  = some y) : xMet l yX5_log (.code yX5_log cX5_log 1 (some .int)) r_X5_log (xPcm D q k sz a b o [.ref (q 23)]) (xQm D q k a b o (.inr (some (.int y.1), a, y.2))) 0 0 (va_A (xw q k a b o) sz) := by
  refine xMet.ofW (by decide) ?_
  intro p e s m args below meth c hx hb hml hr hlocks hnm hme hno hv
  obtain ⟨rfl, hsz, hP, hD, hG⟩ := hv
  subst hsz
  have hown : s.vm.findClass RX5 = some m.cls := findClass_of_methodNamed hnm
  have hl := lv_entry ([.ref (q 23)]) (n := 1) (Nat.le_of_ble_eq_true rfl)
  rw [lg_entry_eq]
  generalize (lg_sl ([.ref (q 23)]) ++ List.replicate (1 - (lg_sl ([.ref (q 23)])).length) Slot.unset).toArray = ls at hl ⊢
  have hl : lv_has ls 1 [(0, .ref (q 23))] := hl
  have hD := hD.self (sz := s.heap.size)
  exact t_X5_log_0 ⟨hx, hb, hml, hr, hlocks, hown, hno, hG⟩ hP hD va_S.rf hl hf
abbrev r_X5_nextFlight : Room := { frames := 1, cells := 0, slots := 0, locals := 21 }
noncomputable def g_X5_nextFlight_53 (K4 : Int32 → Int32 → Option (Int32)) (b : xT) (v2 : Int32) (s0 : Int32) : Option (Int32) := K4 s0 (v2 + 1)
set_option maxHeartbeats 4000000 in
set_option maxRecDepth 100000 in
theorem t_X5_nextFlight_53 {p : Program} {l : Launch} {e : Env} {s : State} {m : MethodId} {args : Array Value} {below : List Frame} {meth : Method} {c : Code} {D : va_G} {q : Nat → Nat} {k : Nat → ClassId} {a b : xT} {o : Nat → Int64} {y : Int32} (C : xCx p s m meth c cX5_nextFlight 3 (some .int) RX5 D k) (hP : va_P D vwCl (xw q k a b o) s.heap) (hD : va_D (fun _ => True) (xw q k a b o)) {K4 : Int32 → Int32 → Option (Int32)} (hK4 : ∀ {v1 v2 : Int32} {ls : Array Slot}, lv_has ls 3 [(0, .ref (q 23)), (1, .int v1), (2, .int v2)] → K4 v1 v2 = some y → W p l e r_X5_nextFlight s m args below meth c s.heap [] 0 0 (xMQ below (xQr (.inr (some (.int y)))) args s (xmc (.inr (some (.int y)))) (xms (.inr (some (.int y)))) (fun _ => False)) (F0 m 4 ls [])) {v2 s0 : Int32} {ls : Array Slot} (hl : lv_has ls 3 [(0, .ref (q 23)), (2, .int v2)]) (hf : g_X5_nextFlight_53 K4 b v2 s0 = some y) : W p l e r_X5_nextFlight s m args below meth c s.heap [] 0 0 (xMQ below (xQr (.inr (some (.int y)))) args s (xmc (.inr (some (.int y)))) (xms (.inr (some (.int y)))) (fun _ => False)) (F0 m 53 ls [.int s0]) := by
  obtain ⟨hx, hb, hml, hr, hlocks, hown, hno, hG⟩ := C
  have hK := hG.1
  have hE := hG.2.1
  unfold g_X5_nextFlight_53 at hf
  refine lv_istore_n (lv' := [(1, .int s0), (0, .ref (q 23)), (2, .int v2)]) hx hb dX5_nextFlight_53 rfl hl (by decide) rfl (fun ls hl => ?_)
  refine lv_iinc (k := 2) (v := v2 + 1) (lv' := [(2, .int (v2 + 1)), (1, .int s0), (0, .ref (q 23))]) hx hb dX5_nextFlight_54 hl rfl (xinc (by decide) _) (by decide) rfl (fun ls hl => ?_)
  refine lv_goto hx hb dX5_nextFlight_57 rfl ?_
  exact hK4 (lv_sub hl [2, 1, 0] rfl) hf
noncomputable def g_X5_nextFlight_52 (K4 : Int32 → Int32 → Option (Int32)) (b : xT) (v1 : Int32) (v2 : Int32) : Option (Int32) := g_X5_nextFlight_53 K4 b v2 v1
set_option maxHeartbeats 4000000 in
set_option maxRecDepth 100000 in
theorem t_X5_nextFlight_52 {p : Program} {l : Launch} {e : Env} {s : State} {m : MethodId} {args : Array Value} {below : List Frame} {meth : Method} {c : Code} {D : va_G} {q : Nat → Nat} {k : Nat → ClassId} {a b : xT} {o : Nat → Int64} {y : Int32} (C : xCx p s m meth c cX5_nextFlight 3 (some .int) RX5 D k) (hP : va_P D vwCl (xw q k a b o) s.heap) (hD : va_D (fun _ => True) (xw q k a b o)) {K4 : Int32 → Int32 → Option (Int32)} (hK4 : ∀ {v1 v2 : Int32} {ls : Array Slot}, lv_has ls 3 [(0, .ref (q 23)), (1, .int v1), (2, .int v2)] → K4 v1 v2 = some y → W p l e r_X5_nextFlight s m args below meth c s.heap [] 0 0 (xMQ below (xQr (.inr (some (.int y)))) args s (xmc (.inr (some (.int y)))) (xms (.inr (some (.int y)))) (fun _ => False)) (F0 m 4 ls [])) {v1 v2 : Int32} {ls : Array Slot} (hl : lv_has ls 3 [(0, .ref (q 23)), (1, .int v1), (2, .int v2)]) (hf : g_X5_nextFlight_52 K4 b v1 v2 = some y) : W p l e r_X5_nextFlight s m args below meth c s.heap [] 0 0 (xMQ below (xQr (.inr (some (.int y)))) args s (xmc (.inr (some (.int y)))) (xms (.inr (some (.int y)))) (fun _ => False)) (F0 m 52 ls []) := by
  obtain ⟨hx, hb, hml, hr, hlocks, hown, hno, hG⟩ := C
  have hK := hG.1
  have hE := hG.2.1
  unfold g_X5_nextFlight_52 at hf
  refine lv_iload_n hx hb dX5_nextFlight_52 rfl (lv_at hl 1 rfl) ?_
  exact t_X5_nextFlight_53 ⟨hx, hb, hml, hr, hlocks, hown, hno, hG⟩ hP hD hK4 (lv_sub hl [0, 2] rfl) hf
noncomputable def g_X5_nextFlight_48 (K4 : Int32 → Int32 → Option (Int32)) (b : xT) (v2 : Int32) : Option (Int32) := g_X5_nextFlight_53 K4 b v2 v2
set_option maxHeartbeats 4000000 in
set_option maxRecDepth 100000 in
theorem t_X5_nextFlight_48 {p : Program} {l : Launch} {e : Env} {s : State} {m : MethodId} {args : Array Value} {below : List Frame} {meth : Method} {c : Code} {D : va_G} {q : Nat → Nat} {k : Nat → ClassId} {a b : xT} {o : Nat → Int64} {y : Int32} (C : xCx p s m meth c cX5_nextFlight 3 (some .int) RX5 D k) (hP : va_P D vwCl (xw q k a b o) s.heap) (hD : va_D (fun _ => True) (xw q k a b o)) {K4 : Int32 → Int32 → Option (Int32)} (hK4 : ∀ {v1 v2 : Int32} {ls : Array Slot}, lv_has ls 3 [(0, .ref (q 23)), (1, .int v1), (2, .int v2)] → K4 v1 v2 = some y → W p l e r_X5_nextFlight s m args below meth c s.heap [] 0 0 (xMQ below (xQr (.inr (some (.int y)))) args s (xmc (.inr (some (.int y)))) (xms (.inr (some (.int y)))) (fun _ => False)) (F0 m 4 ls [])) {v2 : Int32} {ls : Array Slot} (hl : lv_has ls 3 [(0, .ref (q 23)), (2, .int v2)]) (hf : g_X5_nextFlight_48 K4 b v2 = some y) : W p l e r_X5_nextFlight s m args below meth c s.heap [] 0 0 (xMQ below (xQr (.inr (some (.int y)))) args s (xmc (.inr (some (.int y)))) (xms (.inr (some (.int y)))) (fun _ => False)) (F0 m 48 ls []) := by
  obtain ⟨hx, hb, hml, hr, hlocks, hown, hno, hG⟩ := C
  have hK := hG.1
  have hE := hG.2.1
  unfold g_X5_nextFlight_48 at hf
  refine lv_iload_n hx hb dX5_nextFlight_48 rfl (lv_at hl 1 rfl) ?_
  refine lv_goto hx hb dX5_nextFlight_49 rfl ?_
  exact t_X5_nextFlight_53 ⟨hx, hb, hml, hr, hlocks, hown, hno, hG⟩ hP hD hK4 (lv_sub hl [0, 1] rfl) hf
noncomputable def g_X5_nextFlight_4s (K4 : Int32 → Int32 → Option (Int32)) (b : xT) (v1 : Int32) (v2 : Int32) : Option (Int32) := (if (b.2 1) ≤ v2 then some v1 else ((f_X5_isLoose b v2).bind fun r14 => (if r14 = 0 then g_X5_nextFlight_52 K4 b v1 v2 else (if xin v2 60 = true then (if (b.1 9 v2.toNatClampNeg) = 0 then (if v1 < 0 then g_X5_nextFlight_48 K4 b v2 else (if xin v2 60 = true then (if xin v1 60 = true then (if (b.1 4 v1.toNatClampNeg) ≤ (b.1 4 v2.toNatClampNeg) then g_X5_nextFlight_52 K4 b v1 v2 else g_X5_nextFlight_48 K4 b v2) else none) else none)) else g_X5_nextFlight_52 K4 b v1 v2) else none))))
set_option maxHeartbeats 4000000 in
set_option maxRecDepth 100000 in
theorem t_X5_nextFlight_4s {p : Program} {l : Launch} {e : Env} {s : State} {m : MethodId} {args : Array Value} {below : List Frame} {meth : Method} {c : Code} {D : va_G} {q : Nat → Nat} {k : Nat → ClassId} {a b : xT} {o : Nat → Int64} {y : Int32} (C : xCx p s m meth c cX5_nextFlight 3 (some .int) RX5 D k) (hP : va_P D vwCl (xw q k a b o) s.heap) (hD : va_D (fun _ => True) (xw q k a b o)) {K4 : Int32 → Int32 → Option (Int32)} (hK4 : ∀ {v1 v2 : Int32} {ls : Array Slot}, lv_has ls 3 [(0, .ref (q 23)), (1, .int v1), (2, .int v2)] → K4 v1 v2 = some y → W p l e r_X5_nextFlight s m args below meth c s.heap [] 0 0 (xMQ below (xQr (.inr (some (.int y)))) args s (xmc (.inr (some (.int y)))) (xms (.inr (some (.int y)))) (fun _ => False)) (F0 m 4 ls [])) {v1 v2 : Int32} {ls : Array Slot} (hl : lv_has ls 3 [(0, .ref (q 23)), (1, .int v1), (2, .int v2)]) (hf : g_X5_nextFlight_4s K4 b v1 v2 = some y) : W p l e r_X5_nextFlight s m args below meth c s.heap [] 0 0 (xMQ below (xQr (.inr (some (.int y)))) args s (xmc (.inr (some (.int y)))) (xms (.inr (some (.int y)))) (fun _ => False)) (F0 m 4 ls []) := by
  obtain ⟨hx, hb, hml, hr, hlocks, hown, hno, hG⟩ := C
  have hK := hG.1
  have hE := hG.2.1
  unfold g_X5_nextFlight_4s at hf
  refine lv_iload_n hx hb dX5_nextFlight_4 rfl (lv_at hl 2 rfl) ?_
  refine lv_aload_n hx hb dX5_nextFlight_5 rfl (lv_at hl 0 rfl) ?_
  refine va_get (D := D) (ci := 5) (v := .int (b.2 1)) (C := RX5) (T := TX5) (N := 19) hx hb (hwX5 hE) (fun _ h => h) hown hK hP 23 rfl rfl 4 (by decide) (hE _ fl_X5_60 rfl _) (fun _ h9 => h9) rfl dX5_nextFlight_6 ?_
  refine lv_icmp_ge hx hb dX5_nextFlight_9 rfl (fun hc => ?_) (fun hc => ?_)
  · rw [if_pos hc] at hf
    refine lv_iload_n hx hb dX5_nextFlight_60 rfl (lv_at hl 1 rfl) ?_
    cases hf
    exact xret_i hx hb hr hlocks dX5_nextFlight_61
  · rw [if_neg hc] at hf
    refine lv_aload_n hx hb dX5_nextFlight_12 rfl (lv_at hl 0 rfl) ?_
    refine lv_iload_n hx hb dX5_nextFlight_13 rfl (lv_at hl 2 rfl) ?_
    obtain ⟨r14, hN, hf⟩ := xbind hf
    refine xgo_r (v := some (.int r14)) (xrunV (C := RX5) (As := [.int v2]) (rest := []) (xfixm fx_X5_isLoose hx hb hml hown (by decide) (by decide) (by decide) (by decide)) hE ml_X5_66 wi_X5_isLoose wz_X5_isLoose wc_X5_isLoose wn_X5 (c_X5_isLoose l D q k a b o v2 _ hN) (va_recv (q := (RX5, TX5, 19)) (ci := 5) (q0 := 23) hK hP rfl rfl) (xpre hP hD hG) rfl rfl hl.1 rfl (lv_room (Nat.le_of_ble_eq_true rfl)) dX5_nextFlight_14) ?_
    refine lv_if_eq hx hb dX5_nextFlight_17 rfl (fun hc => ?_) (fun hc => ?_)
    · rw [if_pos hc] at hf
      exact t_X5_nextFlight_52 ⟨hx, hb, hml, hr, hlocks, hown, hno, hG⟩ hP hD hK4 (lv_sub hl [0, 1, 2] rfl) hf
    · rw [if_neg hc] at hf
      refine lv_aload_n hx hb dX5_nextFlight_20 rfl (lv_at hl 0 rfl) ?_
      refine va_get (D := D) (ci := 5) (v := .ref (q 33)) (C := RX5) (T := TX5) (N := 19) hx hb (hwX5 hE) (fun _ h => h) hown hK hP 23 rfl rfl 11 (by decide) (hE _ fl_X5_38 rfl _) (fun _ h9 => h9) rfl dX5_nextFlight_21 ?_
      refine lv_iload_n hx hb dX5_nextFlight_24 rfl (lv_at hl 2 rfl) ?_
      obtain ⟨hin, hf⟩ := xguard hf
      refine va_zald hx hb hK hP 33 1 rfl rfl hin dX5_nextFlight_25 ?_
      refine lv_if_ne hx hb dX5_nextFlight_26 rfl (fun hc => ?_) (fun hc => ?_)
      · rw [if_neg hc] at hf
        exact t_X5_nextFlight_52 ⟨hx, hb, hml, hr, hlocks, hown, hno, hG⟩ hP hD hK4 (lv_sub hl [0, 1, 2] rfl) hf
      · rw [if_pos hc] at hf
        refine lv_iload_n hx hb dX5_nextFlight_29 rfl (lv_at hl 1 rfl) ?_
        refine lv_if_lt hx hb dX5_nextFlight_30 rfl (fun hc => ?_) (fun hc => ?_)
        · rw [if_pos hc] at hf
          exact t_X5_nextFlight_48 ⟨hx, hb, hml, hr, hlocks, hown, hno, hG⟩ hP hD hK4 (lv_sub hl [0, 2] rfl) hf
        · rw [if_neg hc] at hf
          refine lv_aload_n hx hb dX5_nextFlight_33 rfl (lv_at hl 0 rfl) ?_
          refine va_get (D := D) (ci := 5) (v := .ref (q 28)) (C := RX5) (T := TX5) (N := 19) hx hb (hwX5 hE) (fun _ h => h) hown hK hP 23 rfl rfl 6 (by decide) (hE _ fl_X5_23 rfl _) (fun _ h9 => h9) rfl dX5_nextFlight_34 ?_
          refine lv_iload_n hx hb dX5_nextFlight_37 rfl (lv_at hl 2 rfl) ?_
          obtain ⟨hin, hf⟩ := xguard hf
          refine va_iald hx hb hK hP 28 0 rfl rfl hin dX5_nextFlight_38 ?_
          refine lv_aload_n hx hb dX5_nextFlight_39 rfl (lv_at hl 0 rfl) ?_
          refine va_get (D := D) (ci := 5) (v := .ref (q 28)) (C := RX5) (T := TX5) (N := 19) hx hb (hwX5 hE) (fun _ h => h) hown hK hP 23 rfl rfl 6 (by decide) (hE _ fl_X5_23 rfl _) (fun _ h9 => h9) rfl dX5_nextFlight_40 ?_
          refine lv_iload_n hx hb dX5_nextFlight_43 rfl (lv_at hl 1 rfl) ?_
          obtain ⟨hin, hf⟩ := xguard hf
          refine va_iald hx hb hK hP 28 0 rfl rfl hin dX5_nextFlight_44 ?_
          refine lv_icmp_ge hx hb dX5_nextFlight_45 rfl (fun hc => ?_) (fun hc => ?_)
          · rw [if_pos hc] at hf
            exact t_X5_nextFlight_52 ⟨hx, hb, hml, hr, hlocks, hown, hno, hG⟩ hP hD hK4 (lv_sub hl [0, 1, 2] rfl) hf
          · rw [if_neg hc] at hf
            exact t_X5_nextFlight_48 ⟨hx, hb, hml, hr, hlocks, hown, hno, hG⟩ hP hD hK4 (lv_sub hl [0, 2] rfl) hf
noncomputable def g_X5_nextFlight_4  (b : xT) : Nat → Int32 → Int32 → Option (Int32) := fun n => Nat.rec (motive := fun _ => Int32 → Int32 → Option (Int32)) (fun _ _ => none) (fun _ ih => g_X5_nextFlight_4s ih b) n
set_option maxHeartbeats 4000000 in
theorem t_X5_nextFlight_4 {p : Program} {l : Launch} {e : Env} {s : State} {m : MethodId} {args : Array Value} {below : List Frame} {meth : Method} {c : Code} {D : va_G} {q : Nat → Nat} {k : Nat → ClassId} {a b : xT} {o : Nat → Int64} {y : Int32} (C : xCx p s m meth c cX5_nextFlight 3 (some .int) RX5 D k) (hP : va_P D vwCl (xw q k a b o) s.heap) (hD : va_D (fun _ => True) (xw q k a b o))  (n : Nat) : ∀ {v1 v2 : Int32} {ls : Array Slot}, lv_has ls 3 [(0, .ref (q 23)), (1, .int v1), (2, .int v2)] → g_X5_nextFlight_4  b n v1 v2 = some y → W p l e r_X5_nextFlight s m args below meth c s.heap [] 0 0 (xMQ below (xQr (.inr (some (.int y)))) args s (xmc (.inr (some (.int y)))) (xms (.inr (some (.int y)))) (fun _ => False)) (F0 m 4 ls []) := by
  induction n with
  | zero =>
    intro _ _ _ _ hf
    have h9 : (none : Option (Int32)) = some y := hf
    cases h9
  | succ n ih =>
    intro _ _ _ hl hf
    exact t_X5_nextFlight_4s C hP hD (K4 := g_X5_nextFlight_4  b n) ih hl hf
noncomputable def g_X5_nextFlight_0  (b : xT)  : Option (Int32) := g_X5_nextFlight_4  b 1000 (-1) 0
set_option maxHeartbeats 4000000 in
set_option maxRecDepth 100000 in
theorem t_X5_nextFlight_0 {p : Program} {l : Launch} {e : Env} {s : State} {m : MethodId} {args : Array Value} {below : List Frame} {meth : Method} {c : Code} {D : va_G} {q : Nat → Nat} {k : Nat → ClassId} {a b : xT} {o : Nat → Int64} {y : Int32} (C : xCx p s m meth c cX5_nextFlight 3 (some .int) RX5 D k) (hP : va_P D vwCl (xw q k a b o) s.heap) (hD : va_D (fun _ => True) (xw q k a b o))  {ls : Array Slot} (hl : lv_has ls 3 [(0, .ref (q 23))]) (hf : g_X5_nextFlight_0  b  = some y) : W p l e r_X5_nextFlight s m args below meth c s.heap [] 0 0 (xMQ below (xQr (.inr (some (.int y)))) args s (xmc (.inr (some (.int y)))) (xms (.inr (some (.int y)))) (fun _ => False)) (F0 m 0 ls []) := by
  obtain ⟨hx, hb, hml, hr, hlocks, hown, hno, hG⟩ := C
  have hK := hG.1
  have hE := hG.2.1
  unfold g_X5_nextFlight_0 at hf
  refine lv_iconst (v := -1) hx hb dX5_nextFlight_0 (by decide) ?_
  refine lv_istore_n (lv' := [(1, .int (-1)), (0, .ref (q 23))]) hx hb dX5_nextFlight_1 rfl hl (by decide) rfl (fun ls hl => ?_)
  refine lv_iconst (v := 0) hx hb dX5_nextFlight_2 (by decide) ?_
  refine lv_istore_n (lv' := [(2, .int 0), (1, .int (-1)), (0, .ref (q 23))]) hx hb dX5_nextFlight_3 rfl hl (by decide) rfl (fun ls hl => ?_)
  exact t_X5_nextFlight_4 ⟨hx, hb, hml, hr, hlocks, hown, hno, hG⟩ hP hD  1000 (lv_sub hl [2, 1, 0] rfl) hf
noncomputable def f_X5_nextFlight (b : xT)  : Option (Int32) := g_X5_nextFlight_0 b 
set_option maxHeartbeats 4000000 in
set_option maxRecDepth 100000 in
theorem c_X5_nextFlight (l : Launch) (D : va_G) (q : Nat → Nat) (k : Nat → ClassId) (a b : xT) (o : Nat → Int64)  (y : Int32) (hf : f_X5_nextFlight b  = some y) : xMet l yX5_nextFlight (.code yX5_nextFlight cX5_nextFlight 3 (some .int)) r_X5_nextFlight (xPc D q k a b o [.ref (q 23)]) (xQr (.inr (some (.int y)))) (xmc (.inr (some (.int y)))) (xms (.inr (some (.int y)))) (fun _ => False) := by
  refine xMet.ofW (by decide) ?_
  intro p e s m args below meth c hx hb hml hr hlocks hnm hme hno hv
  obtain ⟨rfl, hP, hD, hG⟩ := hv
  have hown : s.vm.findClass RX5 = some m.cls := findClass_of_methodNamed hnm
  have hl := lv_entry ([.ref (q 23)]) (n := 3) (Nat.le_of_ble_eq_true rfl)
  rw [lg_entry_eq]
  generalize (lg_sl ([.ref (q 23)]) ++ List.replicate (3 - (lg_sl ([.ref (q 23)])).length) Slot.unset).toArray = ls at hl ⊢
  have hl : lv_has ls 3 [(0, .ref (q 23))] := hl
  exact t_X5_nextFlight_0 ⟨hx, hb, hml, hr, hlocks, hown, hno, hG⟩ hP hD hl hf
