abbrev r_X2_areOpposite : Room := { frames := 0, cells := 0, slots := 0, locals := 0 }
noncomputable def g_X2_areOpposite_50  (a : xT) (s0 : Int32) : Option (Int32) := (if xzb s0 = true then some s0 else none)
set_option maxHeartbeats 4000000 in
set_option maxRecDepth 100000 in
theorem t_X2_areOpposite_50 {p : Program} {l : Launch} {e : Env} {s : State} {m : MethodId} {args : Array Value} {below : List Frame} {meth : Method} {c : Code} {D : va_G} {q : Nat → Nat} {k : Nat → ClassId} {a b : xT} {o : Nat → Int64} {y : Int32} (C : xCx p s m meth c cX2_areOpposite 3 (some .boolean) RX2 D k) (hP : va_P D vwCl (xw q k a b o) s.heap) (hD : va_D (fun _ => True) (xw q k a b o))  {s0 : Int32} {ls : Array Slot} (hl : lv_has ls 3 []) (hf : g_X2_areOpposite_50  a s0 = some y) : W p l e r_X2_areOpposite s m args below meth c s.heap [] 0 0 (xMQ below (xQr (.inr (some (.int y)))) args s (xmc (.inr (some (.int y)))) (xms (.inr (some (.int y)))) (fun _ => False)) (F0 m 50 ls [.int s0]) := by
  obtain ⟨hx, hb, hml, hr, hlocks, hown, hno, hG⟩ := C
  have hK := hG.1
  have hE := hG.2.1
  unfold g_X2_areOpposite_50 at hf
  obtain ⟨hz, hf⟩ := xguz hf
  cases hf
  exact xret_z hx hb hr hz hlocks dX2_areOpposite_50
noncomputable def g_X2_areOpposite_49  (a : xT)  : Option (Int32) := g_X2_areOpposite_50  a 0
set_option maxHeartbeats 4000000 in
set_option maxRecDepth 100000 in
theorem t_X2_areOpposite_49 {p : Program} {l : Launch} {e : Env} {s : State} {m : MethodId} {args : Array Value} {below : List Frame} {meth : Method} {c : Code} {D : va_G} {q : Nat → Nat} {k : Nat → ClassId} {a b : xT} {o : Nat → Int64} {y : Int32} (C : xCx p s m meth c cX2_areOpposite 3 (some .boolean) RX2 D k) (hP : va_P D vwCl (xw q k a b o) s.heap) (hD : va_D (fun _ => True) (xw q k a b o))  {ls : Array Slot} (hl : lv_has ls 3 []) (hf : g_X2_areOpposite_49  a  = some y) : W p l e r_X2_areOpposite s m args below meth c s.heap [] 0 0 (xMQ below (xQr (.inr (some (.int y)))) args s (xmc (.inr (some (.int y)))) (xms (.inr (some (.int y)))) (fun _ => False)) (F0 m 49 ls []) := by
  obtain ⟨hx, hb, hml, hr, hlocks, hown, hno, hG⟩ := C
  have hK := hG.1
  have hE := hG.2.1
  unfold g_X2_areOpposite_49 at hf
  refine lv_iconst (v := 0) hx hb dX2_areOpposite_49 (by decide) ?_
  exact t_X2_areOpposite_50 ⟨hx, hb, hml, hr, hlocks, hown, hno, hG⟩ hP hD  (lv_sub hl [] rfl) hf
noncomputable def g_X2_areOpposite_0  (a : xT) (v1 : Int32) (v2 : Int32) : Option (Int32) := (if xin v1 40 = true then (if xin v2 40 = true then (if (a.1 10 v1.toNatClampNeg) = (a.1 10 v2.toNatClampNeg) then g_X2_areOpposite_49  a  else (if xin v1 40 = true then (if xin v2 40 = true then (if (a.1 11 v1.toNatClampNeg) = (a.1 12 v2.toNatClampNeg) then (if xin v1 40 = true then (if xin v2 40 = true then (if (a.1 12 v1.toNatClampNeg) = (a.1 11 v2.toNatClampNeg) then g_X2_areOpposite_50  a 1 else g_X2_areOpposite_49  a ) else none) else none) else g_X2_areOpposite_49  a ) else none) else none)) else none) else none)
set_option maxHeartbeats 4000000 in
set_option maxRecDepth 100000 in
theorem t_X2_areOpposite_0 {p : Program} {l : Launch} {e : Env} {s : State} {m : MethodId} {args : Array Value} {below : List Frame} {meth : Method} {c : Code} {D : va_G} {q : Nat → Nat} {k : Nat → ClassId} {a b : xT} {o : Nat → Int64} {y : Int32} (C : xCx p s m meth c cX2_areOpposite 3 (some .boolean) RX2 D k) (hP : va_P D vwCl (xw q k a b o) s.heap) (hD : va_D (fun _ => True) (xw q k a b o))  {v1 v2 : Int32} {ls : Array Slot} (hl : lv_has ls 3 [(0, .ref (q 3)), (1, .int v1), (2, .int v2)]) (hf : g_X2_areOpposite_0  a v1 v2 = some y) : W p l e r_X2_areOpposite s m args below meth c s.heap [] 0 0 (xMQ below (xQr (.inr (some (.int y)))) args s (xmc (.inr (some (.int y)))) (xms (.inr (some (.int y)))) (fun _ => False)) (F0 m 0 ls []) := by
  obtain ⟨hx, hb, hml, hr, hlocks, hown, hno, hG⟩ := C
  have hK := hG.1
  have hE := hG.2.1
  unfold g_X2_areOpposite_0 at hf
  refine lv_aload_n hx hb dX2_areOpposite_0 rfl (lv_at hl 0 rfl) ?_
  refine va_get (D := D) (ci := 2) (v := .ref (q 15)) (C := RX2) (T := TX2) (N := 5) hx hb (hwX2 hE) (fun _ h => h) hown hK hP 3 rfl rfl 0 (by decide) (hE _ fl_X2_9 rfl _) (fun _ h9 => h9) rfl dX2_areOpposite_1 ?_
  refine lv_iload_n hx hb dX2_areOpposite_4 rfl (lv_at hl 1 rfl) ?_
  obtain ⟨hin, hf⟩ := xguard hf
  refine va_iald hx hb hK hP 15 0 rfl rfl hin dX2_areOpposite_5 ?_
  refine lv_aload_n hx hb dX2_areOpposite_6 rfl (lv_at hl 0 rfl) ?_
  refine va_get (D := D) (ci := 2) (v := .ref (q 15)) (C := RX2) (T := TX2) (N := 5) hx hb (hwX2 hE) (fun _ h => h) hown hK hP 3 rfl rfl 0 (by decide) (hE _ fl_X2_9 rfl _) (fun _ h9 => h9) rfl dX2_areOpposite_7 ?_
  refine lv_iload_n hx hb dX2_areOpposite_10 rfl (lv_at hl 2 rfl) ?_
  obtain ⟨hin, hf⟩ := xguard hf
  refine va_iald hx hb hK hP 15 0 rfl rfl hin dX2_areOpposite_11 ?_
  refine lv_icmp_eq hx hb dX2_areOpposite_12 rfl (fun hc => ?_) (fun hc => ?_)
  · rw [if_pos hc] at hf
    exact t_X2_areOpposite_49 ⟨hx, hb, hml, hr, hlocks, hown, hno, hG⟩ hP hD  (lv_sub hl [] rfl) hf
  · rw [if_neg hc] at hf
    refine lv_aload_n hx hb dX2_areOpposite_15 rfl (lv_at hl 0 rfl) ?_
    refine va_get (D := D) (ci := 2) (v := .ref (q 16)) (C := RX2) (T := TX2) (N := 5) hx hb (hwX2 hE) (fun _ h => h) hown hK hP 3 rfl rfl 1 (by decide) (hE _ fl_X2_15 rfl _) (fun _ h9 => h9) rfl dX2_areOpposite_16 ?_
    refine lv_iload_n hx hb dX2_areOpposite_19 rfl (lv_at hl 1 rfl) ?_
    obtain ⟨hin, hf⟩ := xguard hf
    refine va_iald hx hb hK hP 16 0 rfl rfl hin dX2_areOpposite_20 ?_
    refine lv_aload_n hx hb dX2_areOpposite_21 rfl (lv_at hl 0 rfl) ?_
    refine va_get (D := D) (ci := 2) (v := .ref (q 17)) (C := RX2) (T := TX2) (N := 5) hx hb (hwX2 hE) (fun _ h => h) hown hK hP 3 rfl rfl 2 (by decide) (hE _ fl_X2_18 rfl _) (fun _ h9 => h9) rfl dX2_areOpposite_22 ?_
    refine lv_iload_n hx hb dX2_areOpposite_25 rfl (lv_at hl 2 rfl) ?_
    obtain ⟨hin, hf⟩ := xguard hf
    refine va_iald hx hb hK hP 17 0 rfl rfl hin dX2_areOpposite_26 ?_
    refine lv_icmp_ne hx hb dX2_areOpposite_27 rfl (fun hc => ?_) (fun hc => ?_)
    · rw [if_neg hc] at hf
      exact t_X2_areOpposite_49 ⟨hx, hb, hml, hr, hlocks, hown, hno, hG⟩ hP hD  (lv_sub hl [] rfl) hf
    · rw [if_pos hc] at hf
      refine lv_aload_n hx hb dX2_areOpposite_30 rfl (lv_at hl 0 rfl) ?_
      refine va_get (D := D) (ci := 2) (v := .ref (q 17)) (C := RX2) (T := TX2) (N := 5) hx hb (hwX2 hE) (fun _ h => h) hown hK hP 3 rfl rfl 2 (by decide) (hE _ fl_X2_18 rfl _) (fun _ h9 => h9) rfl dX2_areOpposite_31 ?_
      refine lv_iload_n hx hb dX2_areOpposite_34 rfl (lv_at hl 1 rfl) ?_
      obtain ⟨hin, hf⟩ := xguard hf
      refine va_iald hx hb hK hP 17 0 rfl rfl hin dX2_areOpposite_35 ?_
      refine lv_aload_n hx hb dX2_areOpposite_36 rfl (lv_at hl 0 rfl) ?_
      refine va_get (D := D) (ci := 2) (v := .ref (q 16)) (C := RX2) (T := TX2) (N := 5) hx hb (hwX2 hE) (fun _ h => h) hown hK hP 3 rfl rfl 1 (by decide) (hE _ fl_X2_15 rfl _) (fun _ h9 => h9) rfl dX2_areOpposite_37 ?_
      refine lv_iload_n hx hb dX2_areOpposite_40 rfl (lv_at hl 2 rfl) ?_
      obtain ⟨hin, hf⟩ := xguard hf
      refine va_iald hx hb hK hP 16 0 rfl rfl hin dX2_areOpposite_41 ?_
      refine lv_icmp_ne hx hb dX2_areOpposite_42 rfl (fun hc => ?_) (fun hc => ?_)
      · rw [if_neg hc] at hf
        exact t_X2_areOpposite_49 ⟨hx, hb, hml, hr, hlocks, hown, hno, hG⟩ hP hD  (lv_sub hl [] rfl) hf
      · rw [if_pos hc] at hf
        refine lv_iconst (v := 1) hx hb dX2_areOpposite_45 (by decide) ?_
        refine lv_goto hx hb dX2_areOpposite_46 rfl ?_
        exact t_X2_areOpposite_50 ⟨hx, hb, hml, hr, hlocks, hown, hno, hG⟩ hP hD  (lv_sub hl [] rfl) hf
noncomputable def f_X2_areOpposite (a : xT) (v1 : Int32) (v2 : Int32) : Option (Int32) := g_X2_areOpposite_0 a v1 v2
set_option maxHeartbeats 4000000 in
set_option maxRecDepth 100000 in
theorem c_X2_areOpposite (l : Launch) (D : va_G) (q : Nat → Nat) (k : Nat → ClassId) (a b : xT) (o : Nat → Int64) (v1 : Int32) (v2 : Int32) (y : Int32) (hf : f_X2_areOpposite a v1 v2 = some y) : xMet l yX2_areOpposite (.code yX2_areOpposite cX2_areOpposite 3 (some .boolean)) r_X2_areOpposite (xPc D q k a b o [.ref (q 3), .int v1, .int v2]) (xQr (.inr (some (.int y)))) (xmc (.inr (some (.int y)))) (xms (.inr (some (.int y)))) (fun _ => False) := by
  refine xMet.ofW (by decide) ?_
  intro p e s m args below meth c hx hb hml hr hlocks hnm hme hno hv
  obtain ⟨rfl, hP, hD, hG⟩ := hv
  have hown : s.vm.findClass RX2 = some m.cls := findClass_of_methodNamed hnm
  have hl := lv_entry ([.ref (q 3), .int v1, .int v2]) (n := 3) (Nat.le_of_ble_eq_true rfl)
  rw [lg_entry_eq]
  generalize (lg_sl ([.ref (q 3), .int v1, .int v2]) ++ List.replicate (3 - (lg_sl ([.ref (q 3), .int v1, .int v2])).length) Slot.unset).toArray = ls at hl ⊢
  have hl : lv_has ls 3 [(0, .ref (q 3)), (1, .int v1), (2, .int v2)] := hl
  exact t_X2_areOpposite_0 ⟨hx, hb, hml, hr, hlocks, hown, hno, hG⟩ hP hD hl hf
abbrev r_X3_countWithOwner : Room := { frames := 0, cells := 0, slots := 0, locals := 0 }
noncomputable def g_X3_countWithOwner_33 (K4 : Int32 → Int32 → Int32 → Option (Int32)) (a : xT) (v1 : Int32) (v2 : Int32) (v3 : Int32) : Option (Int32) := K4 v1 v2 (v3 + 1)
set_option maxHeartbeats 4000000 in
set_option maxRecDepth 100000 in
theorem t_X3_countWithOwner_33 {p : Program} {l : Launch} {e : Env} {s : State} {m : MethodId} {args : Array Value} {below : List Frame} {meth : Method} {c : Code} {D : va_G} {q : Nat → Nat} {k : Nat → ClassId} {a b : xT} {o : Nat → Int64} {y : Int32} (C : xCx p s m meth c cX3_countWithOwner 4 (some .int) RX3 D k) (hP : va_P D vwCl (xw q k a b o) s.heap) (hD : va_D (fun _ => True) (xw q k a b o)) {K4 : Int32 → Int32 → Int32 → Option (Int32)} (hK4 : ∀ {v1 v2 v3 : Int32} {ls : Array Slot}, lv_has ls 4 [(0, .ref (q 1)), (1, .int v1), (2, .int v2), (3, .int v3)] → K4 v1 v2 v3 = some y → W p l e r_X3_countWithOwner s m args below meth c s.heap [] 0 0 (xMQ below (xQr (.inr (some (.int y)))) args s (xmc (.inr (some (.int y)))) (xms (.inr (some (.int y)))) (fun _ => False)) (F0 m 4 ls [])) {v1 v2 v3 : Int32} {ls : Array Slot} (hl : lv_has ls 4 [(0, .ref (q 1)), (1, .int v1), (2, .int v2), (3, .int v3)]) (hf : g_X3_countWithOwner_33 K4 a v1 v2 v3 = some y) : W p l e r_X3_countWithOwner s m args below meth c s.heap [] 0 0 (xMQ below (xQr (.inr (some (.int y)))) args s (xmc (.inr (some (.int y)))) (xms (.inr (some (.int y)))) (fun _ => False)) (F0 m 33 ls []) := by
  obtain ⟨hx, hb, hml, hr, hlocks, hown, hno, hG⟩ := C
  have hK := hG.1
  have hE := hG.2.1
  unfold g_X3_countWithOwner_33 at hf
  refine lv_iinc (k := 3) (v := v3 + 1) (lv' := [(3, .int (v3 + 1)), (0, .ref (q 1)), (1, .int v1), (2, .int v2)]) hx hb dX3_countWithOwner_33 hl rfl (xinc (by decide) _) (by decide) rfl (fun ls hl => ?_)
  refine lv_goto hx hb dX3_countWithOwner_36 rfl ?_
  exact hK4 (lv_sub hl [1, 2, 3, 0] rfl) hf
noncomputable def g_X3_countWithOwner_4s (K4 : Int32 → Int32 → Int32 → Option (Int32)) (a : xT) (v1 : Int32) (v2 : Int32) (v3 : Int32) : Option (Int32) := (if 240 ≤ v3 then some v2 else (if xin v3 240 = true then (if (a.1 0 v3.toNatClampNeg) = 0 then g_X3_countWithOwner_33 K4 a v1 v2 v3 else (if xin v3 240 = true then (if (a.1 1 v3.toNatClampNeg) = v1 then g_X3_countWithOwner_33 K4 a v1 (v2 + 1) v3 else g_X3_countWithOwner_33 K4 a v1 v2 v3) else none)) else none))
set_option maxHeartbeats 4000000 in
set_option maxRecDepth 100000 in
theorem t_X3_countWithOwner_4s {p : Program} {l : Launch} {e : Env} {s : State} {m : MethodId} {args : Array Value} {below : List Frame} {meth : Method} {c : Code} {D : va_G} {q : Nat → Nat} {k : Nat → ClassId} {a b : xT} {o : Nat → Int64} {y : Int32} (C : xCx p s m meth c cX3_countWithOwner 4 (some .int) RX3 D k) (hP : va_P D vwCl (xw q k a b o) s.heap) (hD : va_D (fun _ => True) (xw q k a b o)) {K4 : Int32 → Int32 → Int32 → Option (Int32)} (hK4 : ∀ {v1 v2 v3 : Int32} {ls : Array Slot}, lv_has ls 4 [(0, .ref (q 1)), (1, .int v1), (2, .int v2), (3, .int v3)] → K4 v1 v2 v3 = some y → W p l e r_X3_countWithOwner s m args below meth c s.heap [] 0 0 (xMQ below (xQr (.inr (some (.int y)))) args s (xmc (.inr (some (.int y)))) (xms (.inr (some (.int y)))) (fun _ => False)) (F0 m 4 ls [])) {v1 v2 v3 : Int32} {ls : Array Slot} (hl : lv_has ls 4 [(0, .ref (q 1)), (1, .int v1), (2, .int v2), (3, .int v3)]) (hf : g_X3_countWithOwner_4s K4 a v1 v2 v3 = some y) : W p l e r_X3_countWithOwner s m args below meth c s.heap [] 0 0 (xMQ below (xQr (.inr (some (.int y)))) args s (xmc (.inr (some (.int y)))) (xms (.inr (some (.int y)))) (fun _ => False)) (F0 m 4 ls []) := by
  obtain ⟨hx, hb, hml, hr, hlocks, hown, hno, hG⟩ := C
  have hK := hG.1
  have hE := hG.2.1
  unfold g_X3_countWithOwner_4s at hf
  refine lv_iload_n hx hb dX3_countWithOwner_4 rfl (lv_at hl 3 rfl) ?_
  refine lv_sipush (v := 240) hx hb dX3_countWithOwner_5 (by decide) ?_
  refine lv_icmp_ge hx hb dX3_countWithOwner_8 rfl (fun hc => ?_) (fun hc => ?_)
  · rw [if_pos hc] at hf
    refine lv_iload_n hx hb dX3_countWithOwner_39 rfl (lv_at hl 2 rfl) ?_
    cases hf
    exact xret_i hx hb hr hlocks dX3_countWithOwner_40
  · rw [if_neg hc] at hf
    refine lv_aload_n hx hb dX3_countWithOwner_11 rfl (lv_at hl 0 rfl) ?_
    refine va_get (D := D) (ci := 3) (v := .ref (q 5)) (C := RX3) (T := TX3) (N := 3) hx hb (hwX3 hE) (fun _ h => h) hown hK hP 1 rfl rfl 0 (by decide) (hE _ fl_X3_9 rfl _) (fun _ h9 => h9) rfl dX3_countWithOwner_12 ?_
    refine lv_iload_n hx hb dX3_countWithOwner_15 rfl (lv_at hl 3 rfl) ?_
    obtain ⟨hin, hf⟩ := xguard hf
    refine va_zald hx hb hK hP 5 1 rfl rfl hin dX3_countWithOwner_16 ?_
    refine lv_if_eq hx hb dX3_countWithOwner_17 rfl (fun hc => ?_) (fun hc => ?_)
    · rw [if_pos hc] at hf
      exact t_X3_countWithOwner_33 ⟨hx, hb, hml, hr, hlocks, hown, hno, hG⟩ hP hD hK4 (lv_sub hl [0, 1, 2, 3] rfl) hf
    · rw [if_neg hc] at hf
      refine lv_aload_n hx hb dX3_countWithOwner_20 rfl (lv_at hl 0 rfl) ?_
      refine va_get (D := D) (ci := 3) (v := .ref (q 6)) (C := RX3) (T := TX3) (N := 3) hx hb (hwX3 hE) (fun _ h => h) hown hK hP 1 rfl rfl 1 (by decide) (hE _ fl_X3_15 rfl _) (fun _ h9 => h9) rfl dX3_countWithOwner_21 ?_
      refine lv_iload_n hx hb dX3_countWithOwner_24 rfl (lv_at hl 3 rfl) ?_
      obtain ⟨hin, hf⟩ := xguard hf
      refine va_iald hx hb hK hP 6 0 rfl rfl hin dX3_countWithOwner_25 ?_
      refine lv_iload_n hx hb dX3_countWithOwner_26 rfl (lv_at hl 1 rfl) ?_
      refine lv_icmp_ne hx hb dX3_countWithOwner_27 rfl (fun hc => ?_) (fun hc => ?_)
      · rw [if_neg hc] at hf
        exact t_X3_countWithOwner_33 ⟨hx, hb, hml, hr, hlocks, hown, hno, hG⟩ hP hD hK4 (lv_sub hl [0, 1, 2, 3] rfl) hf
      · rw [if_pos hc] at hf
        refine lv_iinc (k := 2) (v := v2 + 1) (lv' := [(2, .int (v2 + 1)), (0, .ref (q 1)), (1, .int v1), (3, .int v3)]) hx hb dX3_countWithOwner_30 hl rfl (xinc (by decide) _) (by decide) rfl (fun ls hl => ?_)
        exact t_X3_countWithOwner_33 ⟨hx, hb, hml, hr, hlocks, hown, hno, hG⟩ hP hD hK4 (lv_sub hl [1, 2, 0, 3] rfl) hf
noncomputable def g_X3_countWithOwner_4  (a : xT) : Nat → Int32 → Int32 → Int32 → Option (Int32) := fun n => Nat.rec (motive := fun _ => Int32 → Int32 → Int32 → Option (Int32)) (fun _ _ _ => none) (fun _ ih => g_X3_countWithOwner_4s ih a) n
set_option maxHeartbeats 4000000 in
theorem t_X3_countWithOwner_4 {p : Program} {l : Launch} {e : Env} {s : State} {m : MethodId} {args : Array Value} {below : List Frame} {meth : Method} {c : Code} {D : va_G} {q : Nat → Nat} {k : Nat → ClassId} {a b : xT} {o : Nat → Int64} {y : Int32} (C : xCx p s m meth c cX3_countWithOwner 4 (some .int) RX3 D k) (hP : va_P D vwCl (xw q k a b o) s.heap) (hD : va_D (fun _ => True) (xw q k a b o))  (n : Nat) : ∀ {v1 v2 v3 : Int32} {ls : Array Slot}, lv_has ls 4 [(0, .ref (q 1)), (1, .int v1), (2, .int v2), (3, .int v3)] → g_X3_countWithOwner_4  a n v1 v2 v3 = some y → W p l e r_X3_countWithOwner s m args below meth c s.heap [] 0 0 (xMQ below (xQr (.inr (some (.int y)))) args s (xmc (.inr (some (.int y)))) (xms (.inr (some (.int y)))) (fun _ => False)) (F0 m 4 ls []) := by
  induction n with
  | zero =>
    intro _ _ _ _ _ hf
    have h9 : (none : Option (Int32)) = some y := hf
    cases h9
  | succ n ih =>
    intro _ _ _ _ hl hf
    exact t_X3_countWithOwner_4s C hP hD (K4 := g_X3_countWithOwner_4  a n) ih hl hf
noncomputable def g_X3_countWithOwner_0  (a : xT) (v1 : Int32) : Option (Int32) := g_X3_countWithOwner_4  a 1000 v1 0 0
set_option maxHeartbeats 4000000 in
set_option maxRecDepth 100000 in
theorem t_X3_countWithOwner_0 {p : Program} {l : Launch} {e : Env} {s : State} {m : MethodId} {args : Array Value} {below : List Frame} {meth : Method} {c : Code} {D : va_G} {q : Nat → Nat} {k : Nat → ClassId} {a b : xT} {o : Nat → Int64} {y : Int32} (C : xCx p s m meth c cX3_countWithOwner 4 (some .int) RX3 D k) (hP : va_P D vwCl (xw q k a b o) s.heap) (hD : va_D (fun _ => True) (xw q k a b o))  {v1 : Int32} {ls : Array Slot} (hl : lv_has ls 4 [(0, .ref (q 1)), (1, .int v1)]) (hf : g_X3_countWithOwner_0  a v1 = some y) : W p l e r_X3_countWithOwner s m args below meth c s.heap [] 0 0 (xMQ below (xQr (.inr (some (.int y)))) args s (xmc (.inr (some (.int y)))) (xms (.inr (some (.int y)))) (fun _ => False)) (F0 m 0 ls []) := by
  obtain ⟨hx, hb, hml, hr, hlocks, hown, hno, hG⟩ := C
  have hK := hG.1
  have hE := hG.2.1
  unfold g_X3_countWithOwner_0 at hf
  refine lv_iconst (v := 0) hx hb dX3_countWithOwner_0 (by decide) ?_
  refine lv_istore_n (lv' := [(2, .int 0), (0, .ref (q 1)), (1, .int v1)]) hx hb dX3_countWithOwner_1 rfl hl (by decide) rfl (fun ls hl => ?_)
  refine lv_iconst (v := 0) hx hb dX3_countWithOwner_2 (by decide) ?_
  refine lv_istore_n (lv' := [(3, .int 0), (2, .int 0), (0, .ref (q 1)), (1, .int v1)]) hx hb dX3_countWithOwner_3 rfl hl (by decide) rfl (fun ls hl => ?_)
  exact t_X3_countWithOwner_4 ⟨hx, hb, hml, hr, hlocks, hown, hno, hG⟩ hP hD  1000 (lv_sub hl [2, 3, 1, 0] rfl) hf
noncomputable def f_X3_countWithOwner (a : xT) (v1 : Int32) : Option (Int32) := g_X3_countWithOwner_0 a v1
set_option maxHeartbeats 4000000 in
set_option maxRecDepth 100000 in
theorem c_X3_countWithOwner (l : Launch) (D : va_G) (q : Nat → Nat) (k : Nat → ClassId) (a b : xT) (o : Nat → Int64) (v1 : Int32) (y : Int32) (hf : f_X3_countWithOwner a v1 = some y) : xMet l yX3_countWithOwner (.code yX3_countWithOwner cX3_countWithOwner 4 (some .int)) r_X3_countWithOwner (xPc D q k a b o [.ref (q 1), .int v1]) (xQr (.inr (some (.int y)))) (xmc (.inr (some (.int y)))) (xms (.inr (some (.int y)))) (fun _ => False) := by
  refine xMet.ofW (by decide) ?_
  intro p e s m args below meth c hx hb hml hr hlocks hnm hme hno hv
  obtain ⟨rfl, hP, hD, hG⟩ := hv
  have hown : s.vm.findClass RX3 = some m.cls := findClass_of_methodNamed hnm
  have hl := lv_entry ([.ref (q 1), .int v1]) (n := 4) (Nat.le_of_ble_eq_true rfl)
  rw [lg_entry_eq]
  generalize (lg_sl ([.ref (q 1), .int v1]) ++ List.replicate (4 - (lg_sl ([.ref (q 1), .int v1])).length) Slot.unset).toArray = ls at hl ⊢
  have hl : lv_has ls 4 [(0, .ref (q 1)), (1, .int v1)] := hl
  exact t_X3_countWithOwner_0 ⟨hx, hb, hml, hr, hlocks, hown, hno, hG⟩ hP hD hl hf
abbrev r_X3_isSlot : Room := { frames := 0, cells := 0, slots := 0, locals := 0 }
noncomputable def g_X3_isSlot_25  (a : xT) (s0 : Int32) : Option (Int32) := (if xzb s0 = true then some s0 else none)
set_option maxHeartbeats 4000000 in
set_option maxRecDepth 100000 in
theorem t_X3_isSlot_25 {p : Program} {l : Launch} {e : Env} {s : State} {m : MethodId} {args : Array Value} {below : List Frame} {meth : Method} {c : Code} {D : va_G} {q : Nat → Nat} {k : Nat → ClassId} {a b : xT} {o : Nat → Int64} {y : Int32} (C : xCx p s m meth c cX3_isSlot 2 (some .boolean) RX3 D k) (hP : va_P D vwCl (xw q k a b o) s.heap) (hD : va_D (fun _ => True) (xw q k a b o))  {s0 : Int32} {ls : Array Slot} (hl : lv_has ls 2 []) (hf : g_X3_isSlot_25  a s0 = some y) : W p l e r_X3_isSlot s m args below meth c s.heap [] 0 0 (xMQ below (xQr (.inr (some (.int y)))) args s (xmc (.inr (some (.int y)))) (xms (.inr (some (.int y)))) (fun _ => False)) (F0 m 25 ls [.int s0]) := by
  obtain ⟨hx, hb, hml, hr, hlocks, hown, hno, hG⟩ := C
  have hK := hG.1
  have hE := hG.2.1
  unfold g_X3_isSlot_25 at hf
  obtain ⟨hz, hf⟩ := xguz hf
  cases hf
  exact xret_z hx hb hr hz hlocks dX3_isSlot_25
noncomputable def g_X3_isSlot_24  (a : xT)  : Option (Int32) := g_X3_isSlot_25  a 0
set_option maxHeartbeats 4000000 in
set_option maxRecDepth 100000 in
theorem t_X3_isSlot_24 {p : Program} {l : Launch} {e : Env} {s : State} {m : MethodId} {args : Array Value} {below : List Frame} {meth : Method} {c : Code} {D : va_G} {q : Nat → Nat} {k : Nat → ClassId} {a b : xT} {o : Nat → Int64} {y : Int32} (C : xCx p s m meth c cX3_isSlot 2 (some .boolean) RX3 D k) (hP : va_P D vwCl (xw q k a b o) s.heap) (hD : va_D (fun _ => True) (xw q k a b o))  {ls : Array Slot} (hl : lv_has ls 2 []) (hf : g_X3_isSlot_24  a  = some y) : W p l e r_X3_isSlot s m args below meth c s.heap [] 0 0 (xMQ below (xQr (.inr (some (.int y)))) args s (xmc (.inr (some (.int y)))) (xms (.inr (some (.int y)))) (fun _ => False)) (F0 m 24 ls []) := by
  obtain ⟨hx, hb, hml, hr, hlocks, hown, hno, hG⟩ := C
  have hK := hG.1
  have hE := hG.2.1
  unfold g_X3_isSlot_24 at hf
  refine lv_iconst (v := 0) hx hb dX3_isSlot_24 (by decide) ?_
  exact t_X3_isSlot_25 ⟨hx, hb, hml, hr, hlocks, hown, hno, hG⟩ hP hD  (lv_sub hl [] rfl) hf
noncomputable def g_X3_isSlot_0  (a : xT) (v1 : Int32) : Option (Int32) := (if v1 < 0 then g_X3_isSlot_24  a  else (if 240 ≤ v1 then g_X3_isSlot_24  a  else (if xin v1 240 = true then (if (a.1 0 v1.toNatClampNeg) = 0 then g_X3_isSlot_24  a  else g_X3_isSlot_25  a 1) else none)))
set_option maxHeartbeats 4000000 in
set_option maxRecDepth 100000 in
theorem t_X3_isSlot_0 {p : Program} {l : Launch} {e : Env} {s : State} {m : MethodId} {args : Array Value} {below : List Frame} {meth : Method} {c : Code} {D : va_G} {q : Nat → Nat} {k : Nat → ClassId} {a b : xT} {o : Nat → Int64} {y : Int32} (C : xCx p s m meth c cX3_isSlot 2 (some .boolean) RX3 D k) (hP : va_P D vwCl (xw q k a b o) s.heap) (hD : va_D (fun _ => True) (xw q k a b o))  {v1 : Int32} {ls : Array Slot} (hl : lv_has ls 2 [(0, .ref (q 1)), (1, .int v1)]) (hf : g_X3_isSlot_0  a v1 = some y) : W p l e r_X3_isSlot s m args below meth c s.heap [] 0 0 (xMQ below (xQr (.inr (some (.int y)))) args s (xmc (.inr (some (.int y)))) (xms (.inr (some (.int y)))) (fun _ => False)) (F0 m 0 ls []) := by
  obtain ⟨hx, hb, hml, hr, hlocks, hown, hno, hG⟩ := C
  have hK := hG.1
  have hE := hG.2.1
  unfold g_X3_isSlot_0 at hf
  refine lv_iload_n hx hb dX3_isSlot_0 rfl (lv_at hl 1 rfl) ?_
  refine lv_if_lt hx hb dX3_isSlot_1 rfl (fun hc => ?_) (fun hc => ?_)
  · rw [if_pos hc] at hf
    exact t_X3_isSlot_24 ⟨hx, hb, hml, hr, hlocks, hown, hno, hG⟩ hP hD  (lv_sub hl [] rfl) hf
  · rw [if_neg hc] at hf
    refine lv_iload_n hx hb dX3_isSlot_4 rfl (lv_at hl 1 rfl) ?_
    refine lv_sipush (v := 240) hx hb dX3_isSlot_5 (by decide) ?_
    refine lv_icmp_ge hx hb dX3_isSlot_8 rfl (fun hc => ?_) (fun hc => ?_)
    · rw [if_pos hc] at hf
      exact t_X3_isSlot_24 ⟨hx, hb, hml, hr, hlocks, hown, hno, hG⟩ hP hD  (lv_sub hl [] rfl) hf
    · rw [if_neg hc] at hf
      refine lv_aload_n hx hb dX3_isSlot_11 rfl (lv_at hl 0 rfl) ?_
      refine va_get (D := D) (ci := 3) (v := .ref (q 5)) (C := RX3) (T := TX3) (N := 3) hx hb (hwX3 hE) (fun _ h => h) hown hK hP 1 rfl rfl 0 (by decide) (hE _ fl_X3_9 rfl _) (fun _ h9 => h9) rfl dX3_isSlot_12 ?_
      refine lv_iload_n hx hb dX3_isSlot_15 rfl (lv_at hl 1 rfl) ?_
      obtain ⟨hin, hf⟩ := xguard hf
      refine va_zald hx hb hK hP 5 1 rfl rfl hin dX3_isSlot_16 ?_
      refine lv_if_eq hx hb dX3_isSlot_17 rfl (fun hc => ?_) (fun hc => ?_)
      · rw [if_pos hc] at hf
        exact t_X3_isSlot_24 ⟨hx, hb, hml, hr, hlocks, hown, hno, hG⟩ hP hD  (lv_sub hl [] rfl) hf
      · rw [if_neg hc] at hf
        refine lv_iconst (v := 1) hx hb dX3_isSlot_20 (by decide) ?_
        refine lv_goto hx hb dX3_isSlot_21 rfl ?_
        exact t_X3_isSlot_25 ⟨hx, hb, hml, hr, hlocks, hown, hno, hG⟩ hP hD  (lv_sub hl [] rfl) hf
noncomputable def f_X3_isSlot (a : xT) (v1 : Int32) : Option (Int32) := g_X3_isSlot_0 a v1
set_option maxHeartbeats 4000000 in
set_option maxRecDepth 100000 in
theorem c_X3_isSlot (l : Launch) (D : va_G) (q : Nat → Nat) (k : Nat → ClassId) (a b : xT) (o : Nat → Int64) (v1 : Int32) (y : Int32) (hf : f_X3_isSlot a v1 = some y) : xMet l yX3_isSlot (.code yX3_isSlot cX3_isSlot 2 (some .boolean)) r_X3_isSlot (xPc D q k a b o [.ref (q 1), .int v1]) (xQr (.inr (some (.int y)))) (xmc (.inr (some (.int y)))) (xms (.inr (some (.int y)))) (fun _ => False) := by
  refine xMet.ofW (by decide) ?_
  intro p e s m args below meth c hx hb hml hr hlocks hnm hme hno hv
  obtain ⟨rfl, hP, hD, hG⟩ := hv
  have hown : s.vm.findClass RX3 = some m.cls := findClass_of_methodNamed hnm
  have hl := lv_entry ([.ref (q 1), .int v1]) (n := 2) (Nat.le_of_ble_eq_true rfl)
  rw [lg_entry_eq]
  generalize (lg_sl ([.ref (q 1), .int v1]) ++ List.replicate (2 - (lg_sl ([.ref (q 1), .int v1])).length) Slot.unset).toArray = ls at hl ⊢
  have hl : lv_has ls 2 [(0, .ref (q 1)), (1, .int v1)] := hl
  exact t_X3_isSlot_0 ⟨hx, hb, hml, hr, hlocks, hown, hno, hG⟩ hP hD hl hf
abbrev r_X3_isEmpty : Room := { frames := 1, cells := 0, slots := 0, locals := 21 }
noncomputable def g_X3_isEmpty_23  (a : xT) (s0 : Int32) : Option (Int32) := (if xzb s0 = true then some s0 else none)
set_option maxHeartbeats 4000000 in
set_option maxRecDepth 100000 in
theorem t_X3_isEmpty_23 {p : Program} {l : Launch} {e : Env} {s : State} {m : MethodId} {args : Array Value} {below : List Frame} {meth : Method} {c : Code} {D : va_G} {q : Nat → Nat} {k : Nat → ClassId} {a b : xT} {o : Nat → Int64} {y : Int32} (C : xCx p s m meth c cX3_isEmpty 2 (some .boolean) RX3 D k) (hP : va_P D vwCl (xw q k a b o) s.heap) (hD : va_D (fun _ => True) (xw q k a b o))  {s0 : Int32} {ls : Array Slot} (hl : lv_has ls 2 []) (hf : g_X3_isEmpty_23  a s0 = some y) : W p l e r_X3_isEmpty s m args below meth c s.heap [] 0 0 (xMQ below (xQr (.inr (some (.int y)))) args s (xmc (.inr (some (.int y)))) (xms (.inr (some (.int y)))) (fun _ => False)) (F0 m 23 ls [.int s0]) := by
  obtain ⟨hx, hb, hml, hr, hlocks, hown, hno, hG⟩ := C
  have hK := hG.1
  have hE := hG.2.1
  unfold g_X3_isEmpty_23 at hf
  obtain ⟨hz, hf⟩ := xguz hf
  cases hf
  exact xret_z hx hb hr hz hlocks dX3_isEmpty_23
noncomputable def g_X3_isEmpty_22  (a : xT)  : Option (Int32) := g_X3_isEmpty_23  a 0
set_option maxHeartbeats 4000000 in
set_option maxRecDepth 100000 in
theorem t_X3_isEmpty_22 {p : Program} {l : Launch} {e : Env} {s : State} {m : MethodId} {args : Array Value} {below : List Frame} {meth : Method} {c : Code} {D : va_G} {q : Nat → Nat} {k : Nat → ClassId} {a b : xT} {o : Nat → Int64} {y : Int32} (C : xCx p s m meth c cX3_isEmpty 2 (some .boolean) RX3 D k) (hP : va_P D vwCl (xw q k a b o) s.heap) (hD : va_D (fun _ => True) (xw q k a b o))  {ls : Array Slot} (hl : lv_has ls 2 []) (hf : g_X3_isEmpty_22  a  = some y) : W p l e r_X3_isEmpty s m args below meth c s.heap [] 0 0 (xMQ below (xQr (.inr (some (.int y)))) args s (xmc (.inr (some (.int y)))) (xms (.inr (some (.int y)))) (fun _ => False)) (F0 m 22 ls []) := by
  obtain ⟨hx, hb, hml, hr, hlocks, hown, hno, hG⟩ := C
  have hK := hG.1
  have hE := hG.2.1
  unfold g_X3_isEmpty_22 at hf
  refine lv_iconst (v := 0) hx hb dX3_isEmpty_22 (by decide) ?_
  exact t_X3_isEmpty_23 ⟨hx, hb, hml, hr, hlocks, hown, hno, hG⟩ hP hD  (lv_sub hl [] rfl) hf
noncomputable def g_X3_isEmpty_0  (a : xT) (v1 : Int32) : Option (Int32) := ((f_X3_isSlot a v1).bind fun r2 => (if r2 = 0 then g_X3_isEmpty_22  a  else (if xin v1 240 = true then (if (a.1 2 v1.toNatClampNeg) = (-1) then g_X3_isEmpty_23  a 1 else g_X3_isEmpty_22  a ) else none)))
set_option maxHeartbeats 4000000 in
set_option maxRecDepth 100000 in
theorem t_X3_isEmpty_0 {p : Program} {l : Launch} {e : Env} {s : State} {m : MethodId} {args : Array Value} {below : List Frame} {meth : Method} {c : Code} {D : va_G} {q : Nat → Nat} {k : Nat → ClassId} {a b : xT} {o : Nat → Int64} {y : Int32} (C : xCx p s m meth c cX3_isEmpty 2 (some .boolean) RX3 D k) (hP : va_P D vwCl (xw q k a b o) s.heap) (hD : va_D (fun _ => True) (xw q k a b o))  {v1 : Int32} {ls : Array Slot} (hl : lv_has ls 2 [(0, .ref (q 1)), (1, .int v1)]) (hf : g_X3_isEmpty_0  a v1 = some y) : W p l e r_X3_isEmpty s m args below meth c s.heap [] 0 0 (xMQ below (xQr (.inr (some (.int y)))) args s (xmc (.inr (some (.int y)))) (xms (.inr (some (.int y)))) (fun _ => False)) (F0 m 0 ls []) := by
  obtain ⟨hx, hb, hml, hr, hlocks, hown, hno, hG⟩ := C
  have hK := hG.1
  have hE := hG.2.1
  unfold g_X3_isEmpty_0 at hf
  refine lv_aload_n hx hb dX3_isEmpty_0 rfl (lv_at hl 0 rfl) ?_
  refine lv_iload_n hx hb dX3_isEmpty_1 rfl (lv_at hl 1 rfl) ?_
  obtain ⟨r2, hN, hf⟩ := xbind hf
  refine xgo_r (v := some (.int r2)) (xrunV (C := RX3) (As := [.int v1]) (rest := []) (xfixm fx_X3_isSlot hx hb hml hown (by decide) (by decide) (by decide) (by decide)) hE ml_X3_28 wi_X3_isSlot wz_X3_isSlot wc_X3_isSlot wn_X3 (c_X3_isSlot l D q k a b o v1 _ hN) (va_recv (q := (RX3, TX3, 3)) (ci := 3) (q0 := 1) hK hP rfl rfl) (xpre hP hD hG) rfl rfl hl.1 rfl (lv_room (Nat.le_of_ble_eq_true rfl)) dX3_isEmpty_2) ?_
  refine lv_if_eq hx hb dX3_isEmpty_5 rfl (fun hc => ?_) (fun hc => ?_)
  · rw [if_pos hc] at hf
    exact t_X3_isEmpty_22 ⟨hx, hb, hml, hr, hlocks, hown, hno, hG⟩ hP hD  (lv_sub hl [] rfl) hf
  · rw [if_neg hc] at hf
    refine lv_aload_n hx hb dX3_isEmpty_8 rfl (lv_at hl 0 rfl) ?_
    refine va_get (D := D) (ci := 3) (v := .ref (q 7)) (C := RX3) (T := TX3) (N := 3) hx hb (hwX3 hE) (fun _ h => h) hown hK hP 1 rfl rfl 2 (by decide) (hE _ fl_X3_19 rfl _) (fun _ h9 => h9) rfl dX3_isEmpty_9 ?_
    refine lv_iload_n hx hb dX3_isEmpty_12 rfl (lv_at hl 1 rfl) ?_
    obtain ⟨hin, hf⟩ := xguard hf
    refine va_iald hx hb hK hP 7 0 rfl rfl hin dX3_isEmpty_13 ?_
    refine lv_iconst (v := -1) hx hb dX3_isEmpty_14 (by decide) ?_
    refine lv_icmp_ne hx hb dX3_isEmpty_15 rfl (fun hc => ?_) (fun hc => ?_)
    · rw [if_neg hc] at hf
      exact t_X3_isEmpty_22 ⟨hx, hb, hml, hr, hlocks, hown, hno, hG⟩ hP hD  (lv_sub hl [] rfl) hf
    · rw [if_pos hc] at hf
      refine lv_iconst (v := 1) hx hb dX3_isEmpty_18 (by decide) ?_
      refine lv_goto hx hb dX3_isEmpty_19 rfl ?_
      exact t_X3_isEmpty_23 ⟨hx, hb, hml, hr, hlocks, hown, hno, hG⟩ hP hD  (lv_sub hl [] rfl) hf
noncomputable def f_X3_isEmpty (a : xT) (v1 : Int32) : Option (Int32) := g_X3_isEmpty_0 a v1
set_option maxHeartbeats 4000000 in
set_option maxRecDepth 100000 in
theorem c_X3_isEmpty (l : Launch) (D : va_G) (q : Nat → Nat) (k : Nat → ClassId) (a b : xT) (o : Nat → Int64) (v1 : Int32) (y : Int32) (hf : f_X3_isEmpty a v1 = some y) : xMet l yX3_isEmpty (.code yX3_isEmpty cX3_isEmpty 2 (some .boolean)) r_X3_isEmpty (xPc D q k a b o [.ref (q 1), .int v1]) (xQr (.inr (some (.int y)))) (xmc (.inr (some (.int y)))) (xms (.inr (some (.int y)))) (fun _ => False) := by
  refine xMet.ofW (by decide) ?_
  intro p e s m args below meth c hx hb hml hr hlocks hnm hme hno hv
  obtain ⟨rfl, hP, hD, hG⟩ := hv
  have hown : s.vm.findClass RX3 = some m.cls := findClass_of_methodNamed hnm
  have hl := lv_entry ([.ref (q 1), .int v1]) (n := 2) (Nat.le_of_ble_eq_true rfl)
  rw [lg_entry_eq]
  generalize (lg_sl ([.ref (q 1), .int v1]) ++ List.replicate (2 - (lg_sl ([.ref (q 1), .int v1])).length) Slot.unset).toArray = ls at hl ⊢
  have hl : lv_has ls 2 [(0, .ref (q 1)), (1, .int v1)] := hl
  exact t_X3_isEmpty_0 ⟨hx, hb, hml, hr, hlocks, hown, hno, hG⟩ hP hD hl hf
abbrev r_X3_isOffsetAtRate : Room := { frames := 0, cells := 0, slots := 0, locals := 0 }
noncomputable def g_X3_isOffsetAtRate_2s (K2 : Int32 → Int32 → Int32 → Option (Int32)) (a : xT) (v0 : Int32) (v1 : Int32) (v2 : Int32) : Option (Int32) := (if v1 ≤ v2 then some 0 else (if v1 = 0 then none else (if ((15 * v2) / v1) = v0 then some 1 else K2 v0 v1 (v2 + 1))))
set_option maxHeartbeats 4000000 in
set_option maxRecDepth 100000 in
theorem t_X3_isOffsetAtRate_2s {p : Program} {l : Launch} {e : Env} {s : State} {m : MethodId} {args : Array Value} {below : List Frame} {meth : Method} {c : Code} {D : va_G} {q : Nat → Nat} {k : Nat → ClassId} {a b : xT} {o : Nat → Int64} {y : Int32} (C : xCx p s m meth c cX3_isOffsetAtRate 3 (some .boolean) RX3 D k) (hP : va_P D vwCl (xw q k a b o) s.heap) (hD : va_D (fun _ => True) (xw q k a b o)) {K2 : Int32 → Int32 → Int32 → Option (Int32)} (hK2 : ∀ {v0 v1 v2 : Int32} {ls : Array Slot}, lv_has ls 3 [(0, .int v0), (1, .int v1), (2, .int v2)] → K2 v0 v1 v2 = some y → W p l e r_X3_isOffsetAtRate s m args below meth c s.heap [] 0 0 (xMQ below (xQr (.inr (some (.int y)))) args s (xmc (.inr (some (.int y)))) (xms (.inr (some (.int y)))) (fun _ => False)) (F0 m 2 ls [])) {v0 v1 v2 : Int32} {ls : Array Slot} (hl : lv_has ls 3 [(0, .int v0), (1, .int v1), (2, .int v2)]) (hf : g_X3_isOffsetAtRate_2s K2 a v0 v1 v2 = some y) : W p l e r_X3_isOffsetAtRate s m args below meth c s.heap [] 0 0 (xMQ below (xQr (.inr (some (.int y)))) args s (xmc (.inr (some (.int y)))) (xms (.inr (some (.int y)))) (fun _ => False)) (F0 m 2 ls []) := by
  obtain ⟨hx, hb, hml, hr, hlocks, hown, hno, hG⟩ := C
  have hK := hG.1
  have hE := hG.2.1
  unfold g_X3_isOffsetAtRate_2s at hf
  refine lv_iload_n hx hb dX3_isOffsetAtRate_2 rfl (lv_at hl 2 rfl) ?_
  refine lv_iload_n hx hb dX3_isOffsetAtRate_3 rfl (lv_at hl 1 rfl) ?_
  refine lv_icmp_ge hx hb dX3_isOffsetAtRate_4 rfl (fun hc => ?_) (fun hc => ?_)
  · rw [if_pos hc] at hf
    refine lv_iconst (v := 0) hx hb dX3_isOffsetAtRate_25 (by decide) ?_
    cases hf
    exact xret_z hx hb hr xz0 hlocks dX3_isOffsetAtRate_26
  · rw [if_neg hc] at hf
    refine lv_bipush (v := 15) hx hb dX3_isOffsetAtRate_7 (by decide) ?_
    refine lv_iload_n hx hb dX3_isOffsetAtRate_9 rfl (lv_at hl 2 rfl) ?_
    refine lv_imul hx hb dX3_isOffsetAtRate_10 ?_
    refine lv_iload_n hx hb dX3_isOffsetAtRate_11 rfl (lv_at hl 1 rfl) ?_
    obtain ⟨hne, hf⟩ := xgne hf
    refine lv_idiv hx hb dX3_isOffsetAtRate_12 hne ?_
    refine lv_iload_n hx hb dX3_isOffsetAtRate_13 rfl (lv_at hl 0 rfl) ?_
    refine lv_icmp_ne hx hb dX3_isOffsetAtRate_14 rfl (fun hc => ?_) (fun hc => ?_)
    · rw [if_neg hc] at hf
      refine lv_iinc (k := 2) (v := v2 + 1) (lv' := [(2, .int (v2 + 1)), (0, .int v0), (1, .int v1)]) hx hb dX3_isOffsetAtRate_19 hl rfl (xinc (by decide) _) (by decide) rfl (fun ls hl => ?_)
      refine lv_goto hx hb dX3_isOffsetAtRate_22 rfl ?_
      exact hK2 (lv_sub hl [1, 2, 0] rfl) hf
    · rw [if_pos hc] at hf
      refine lv_iconst (v := 1) hx hb dX3_isOffsetAtRate_17 (by decide) ?_
      cases hf
      exact xret_z hx hb hr xz1 hlocks dX3_isOffsetAtRate_18
noncomputable def g_X3_isOffsetAtRate_2  (a : xT) : Nat → Int32 → Int32 → Int32 → Option (Int32) := fun n => Nat.rec (motive := fun _ => Int32 → Int32 → Int32 → Option (Int32)) (fun _ _ _ => none) (fun _ ih => g_X3_isOffsetAtRate_2s ih a) n
set_option maxHeartbeats 4000000 in
theorem t_X3_isOffsetAtRate_2 {p : Program} {l : Launch} {e : Env} {s : State} {m : MethodId} {args : Array Value} {below : List Frame} {meth : Method} {c : Code} {D : va_G} {q : Nat → Nat} {k : Nat → ClassId} {a b : xT} {o : Nat → Int64} {y : Int32} (C : xCx p s m meth c cX3_isOffsetAtRate 3 (some .boolean) RX3 D k) (hP : va_P D vwCl (xw q k a b o) s.heap) (hD : va_D (fun _ => True) (xw q k a b o))  (n : Nat) : ∀ {v0 v1 v2 : Int32} {ls : Array Slot}, lv_has ls 3 [(0, .int v0), (1, .int v1), (2, .int v2)] → g_X3_isOffsetAtRate_2  a n v0 v1 v2 = some y → W p l e r_X3_isOffsetAtRate s m args below meth c s.heap [] 0 0 (xMQ below (xQr (.inr (some (.int y)))) args s (xmc (.inr (some (.int y)))) (xms (.inr (some (.int y)))) (fun _ => False)) (F0 m 2 ls []) := by
  induction n with
  | zero =>
    intro _ _ _ _ _ hf
    have h9 : (none : Option (Int32)) = some y := hf
    cases h9
  | succ n ih =>
    intro _ _ _ _ hl hf
    exact t_X3_isOffsetAtRate_2s C hP hD (K2 := g_X3_isOffsetAtRate_2  a n) ih hl hf
noncomputable def g_X3_isOffsetAtRate_0  (a : xT) (v0 : Int32) (v1 : Int32) : Option (Int32) := g_X3_isOffsetAtRate_2  a 1000 v0 v1 0
set_option maxHeartbeats 4000000 in
set_option maxRecDepth 100000 in
theorem t_X3_isOffsetAtRate_0 {p : Program} {l : Launch} {e : Env} {s : State} {m : MethodId} {args : Array Value} {below : List Frame} {meth : Method} {c : Code} {D : va_G} {q : Nat → Nat} {k : Nat → ClassId} {a b : xT} {o : Nat → Int64} {y : Int32} (C : xCx p s m meth c cX3_isOffsetAtRate 3 (some .boolean) RX3 D k) (hP : va_P D vwCl (xw q k a b o) s.heap) (hD : va_D (fun _ => True) (xw q k a b o))  {v0 v1 : Int32} {ls : Array Slot} (hl : lv_has ls 3 [(0, .int v0), (1, .int v1)]) (hf : g_X3_isOffsetAtRate_0  a v0 v1 = some y) : W p l e r_X3_isOffsetAtRate s m args below meth c s.heap [] 0 0 (xMQ below (xQr (.inr (some (.int y)))) args s (xmc (.inr (some (.int y)))) (xms (.inr (some (.int y)))) (fun _ => False)) (F0 m 0 ls []) := by
  obtain ⟨hx, hb, hml, hr, hlocks, hown, hno, hG⟩ := C
  have hK := hG.1
  have hE := hG.2.1
  unfold g_X3_isOffsetAtRate_0 at hf
  refine lv_iconst (v := 0) hx hb dX3_isOffsetAtRate_0 (by decide) ?_
  refine lv_istore_n (lv' := [(2, .int 0), (0, .int v0), (1, .int v1)]) hx hb dX3_isOffsetAtRate_1 rfl hl (by decide) rfl (fun ls hl => ?_)
  exact t_X3_isOffsetAtRate_2 ⟨hx, hb, hml, hr, hlocks, hown, hno, hG⟩ hP hD  1000 (lv_sub hl [1, 2, 0] rfl) hf
noncomputable def f_X3_isOffsetAtRate (a : xT) (v0 : Int32) (v1 : Int32) : Option (Int32) := g_X3_isOffsetAtRate_0 a v0 v1
set_option maxHeartbeats 4000000 in
set_option maxRecDepth 100000 in
theorem c_X3_isOffsetAtRate (l : Launch) (D : va_G) (q : Nat → Nat) (k : Nat → ClassId) (a b : xT) (o : Nat → Int64) (v0 : Int32) (v1 : Int32) (y : Int32) (hf : f_X3_isOffsetAtRate a v0 v1 = some y) : xMet l yX3_isOffsetAtRate (.code yX3_isOffsetAtRate cX3_isOffsetAtRate 3 (some .boolean)) r_X3_isOffsetAtRate (xPc D q k a b o [.int v0, .int v1]) (xQr (.inr (some (.int y)))) (xmc (.inr (some (.int y)))) (xms (.inr (some (.int y)))) (fun _ => False) := by
  refine xMet.ofW (by decide) ?_
  intro p e s m args below meth c hx hb hml hr hlocks hnm hme hno hv
  obtain ⟨rfl, hP, hD, hG⟩ := hv
  have hown : s.vm.findClass RX3 = some m.cls := findClass_of_methodNamed hnm
  have hl := lv_entry ([.int v0, .int v1]) (n := 3) (Nat.le_of_ble_eq_true rfl)
  rw [lg_entry_eq]
  generalize (lg_sl ([.int v0, .int v1]) ++ List.replicate (3 - (lg_sl ([.int v0, .int v1])).length) Slot.unset).toArray = ls at hl ⊢
  have hl : lv_has ls 3 [(0, .int v0), (1, .int v1)] := hl
  exact t_X3_isOffsetAtRate_0 ⟨hx, hb, hml, hr, hlocks, hown, hno, hG⟩ hP hD hl hf
abbrev r_X3_setRate : Room := { frames := 1, cells := 0, slots := 0, locals := 22 }
noncomputable def g_X3_setRate_30 (K8 : xT → Int32 → Int32 → Int32 → Option (xT)) (a : xT) (v2 : Int32) (v3 : Int32) (v4 : Int32) : Option (xT) := K8 a v2 v3 (v4 + 1)
set_option maxHeartbeats 4000000 in
set_option maxRecDepth 100000 in
theorem t_X3_setRate_30 {p : Program} {l : Launch} {e : Env} {s : State} {m : MethodId} {args : Array Value} {below : List Frame} {meth : Method} {c : Code} {D : va_G} {q : Nat → Nat} {k : Nat → ClassId} {a b : xT} {o : Nat → Int64} {z : xT} {y : xT} (C : xCx p s m meth c cX3_setRate 5 none RX3 D k) {H : Heap} {locs : List Loc} (hP : va_P D vwCl (xw q k a b o) H) (hD : va_D (va_A (xw q k z b o) s.heap.size) (xw q k a b o)) (hS : va_S (va_A (xw q k z b o) s.heap.size) s.heap H locs) {K8 : xT → Int32 → Int32 → Int32 → Option (xT)} (hK8 : ∀ {a : xT} {v2 v3 v4 : Int32} {ls : Array Slot} {H : Heap} {locs : List Loc}, va_P D vwCl (xw q k a b o) H → va_D (va_A (xw q k z b o) s.heap.size) (xw q k a b o) → va_S (va_A (xw q k z b o) s.heap.size) s.heap H locs → lv_has ls 5 [(0, .ref (q 1)), (2, .int v2), (3, .int v3), (4, .int v4)] → K8 a v2 v3 v4 = some y → W p l e r_X3_setRate s m args below meth c H locs 0 0 (xMQ below (xQm D q k z b o (.inr (none, y, b))) args s 0 0 (va_A (xw q k z b o) s.heap.size)) (F0 m 8 ls [])) {v2 v3 v4 : Int32} {ls : Array Slot} (hl : lv_has ls 5 [(0, .ref (q 1)), (2, .int v2), (3, .int v3), (4, .int v4)]) (hf : g_X3_setRate_30 K8 a v2 v3 v4 = some y) : W p l e r_X3_setRate s m args below meth c H locs 0 0 (xMQ below (xQm D q k z b o (.inr (none, y, b))) args s 0 0 (va_A (xw q k z b o) s.heap.size)) (F0 m 30 ls []) := by
  obtain ⟨hx, hb, hml, hr, hlocks, hown, hno, hG⟩ := C
  have hK := hG.1
  have hE := hG.2.1
  have hA : ∀ u, s.heap.size ≤ u → va_A (xw q k z b o) s.heap.size u := fun u h => Or.inr h
  unfold g_X3_setRate_30 at hf
  refine lv_iinc (k := 3) (v := v4 + 1) (lv' := [(4, .int (v4 + 1)), (0, .ref (q 1)), (2, .int v2), (3, .int v3)]) hx hb dX3_setRate_30 hl rfl (xinc (by decide) _) (by decide) rfl (fun ls hl => ?_)
  refine lv_goto hx hb dX3_setRate_33 rfl ?_
  exact hK8 hP hD hS (lv_sub hl [1, 2, 3, 0] rfl) hf
noncomputable def g_X3_setRate_8s (K8 : xT → Int32 → Int32 → Int32 → Option (xT)) (a : xT) (v2 : Int32) (v3 : Int32) (v4 : Int32) : Option (xT) := (if 15 ≤ v4 then some a else ((f_X3_isOffsetAtRate a v4 v2).bind fun r26 => (if xin (v3 + v4) 240 = true then g_X3_setRate_30 K8 (xs a 0 (v3 + v4).toNatClampNeg (vp_nar .boolean r26)) v2 v3 v4 else none)))
set_option maxHeartbeats 4000000 in
set_option maxRecDepth 100000 in
theorem t_X3_setRate_8s {p : Program} {l : Launch} {e : Env} {s : State} {m : MethodId} {args : Array Value} {below : List Frame} {meth : Method} {c : Code} {D : va_G} {q : Nat → Nat} {k : Nat → ClassId} {a b : xT} {o : Nat → Int64} {z : xT} {y : xT} (C : xCx p s m meth c cX3_setRate 5 none RX3 D k) {H : Heap} {locs : List Loc} (hP : va_P D vwCl (xw q k a b o) H) (hD : va_D (va_A (xw q k z b o) s.heap.size) (xw q k a b o)) (hS : va_S (va_A (xw q k z b o) s.heap.size) s.heap H locs) {K8 : xT → Int32 → Int32 → Int32 → Option (xT)} (hK8 : ∀ {a : xT} {v2 v3 v4 : Int32} {ls : Array Slot} {H : Heap} {locs : List Loc}, va_P D vwCl (xw q k a b o) H → va_D (va_A (xw q k z b o) s.heap.size) (xw q k a b o) → va_S (va_A (xw q k z b o) s.heap.size) s.heap H locs → lv_has ls 5 [(0, .ref (q 1)), (2, .int v2), (3, .int v3), (4, .int v4)] → K8 a v2 v3 v4 = some y → W p l e r_X3_setRate s m args below meth c H locs 0 0 (xMQ below (xQm D q k z b o (.inr (none, y, b))) args s 0 0 (va_A (xw q k z b o) s.heap.size)) (F0 m 8 ls [])) {v2 v3 v4 : Int32} {ls : Array Slot} (hl : lv_has ls 5 [(0, .ref (q 1)), (2, .int v2), (3, .int v3), (4, .int v4)]) (hf : g_X3_setRate_8s K8 a v2 v3 v4 = some y) : W p l e r_X3_setRate s m args below meth c H locs 0 0 (xMQ below (xQm D q k z b o (.inr (none, y, b))) args s 0 0 (va_A (xw q k z b o) s.heap.size)) (F0 m 8 ls []) := by
  obtain ⟨hx, hb, hml, hr, hlocks, hown, hno, hG⟩ := C
  have hK := hG.1
  have hE := hG.2.1
  have hA : ∀ u, s.heap.size ≤ u → va_A (xw q k z b o) s.heap.size u := fun u h => Or.inr h
  unfold g_X3_setRate_8s at hf
  refine lv_iload hx hb dX3_setRate_8 (lv_at hl 3 rfl) ?_
  refine lv_bipush (v := 15) hx hb dX3_setRate_10 (by decide) ?_
  refine lv_icmp_ge hx hb dX3_setRate_12 rfl (fun hc => ?_) (fun hc => ?_)
  · rw [if_pos hc] at hf
    cases hf
    exact xretm_v hx hb hr hlocks hP hS dX3_setRate_36
  · rw [if_neg hc] at hf
    refine lv_aload_n hx hb dX3_setRate_15 rfl (lv_at hl 0 rfl) ?_
    refine va_get (D := D) (ci := 3) (v := .ref (q 5)) (C := RX3) (T := TX3) (N := 3) hx hb (hwX3 hE) (fun _ h => h) hown hK hP 1 rfl rfl 0 (by decide) (hE _ fl_X3_9 rfl _) (fun _ h9 => h9) rfl dX3_setRate_16 ?_
    refine lv_iload_n hx hb dX3_setRate_19 rfl (lv_at hl 2 rfl) ?_
    refine lv_iload hx hb dX3_setRate_20 (lv_at hl 3 rfl) ?_
    refine lv_iadd hx hb dX3_setRate_22 ?_
    refine lv_iload hx hb dX3_setRate_23 (lv_at hl 3 rfl) ?_
    refine lv_iload_n hx hb dX3_setRate_25 rfl (lv_at hl 1 rfl) ?_
    obtain ⟨r26, hN, hf⟩ := xbind hf
    refine xgo_r (v := some (.int r26)) (xrunS (As := [.int v4, .int v2]) (rest := [.int (v3 + v4), .ref (q 5)]) (xfixm fx_X3_isOffsetAtRate hx hb hml hown (by decide) (by decide) (by decide) (by decide)) hE ml_X3_32 wt_X3_isOffsetAtRate wc_X3_isOffsetAtRate wn_X3 (c_X3_isOffsetAtRate l D q k a b o v4 v2 _ hN) (xpre hP hD hG) rfl rfl hl.1 rfl (lv_room (Nat.le_of_ble_eq_true rfl)) dX3_setRate_26) ?_
    obtain ⟨hin, hf⟩ := xguard hf
    refine va_zast hx hb hK hP hD hS 5 1 rfl rfl hin dX3_setRate_29 (fun H locs hP hD hS => ?_)
    rw [xw_s5] at hP hD
    exact t_X3_setRate_30 ⟨hx, hb, hml, hr, hlocks, hown, hno, hG⟩ hP hD hS hK8 (lv_sub hl [0, 1, 2, 3] rfl) hf
noncomputable def g_X3_setRate_8  : Nat → xT → Int32 → Int32 → Int32 → Option (xT) := fun n => Nat.rec (motive := fun _ => xT → Int32 → Int32 → Int32 → Option (xT)) (fun _ _ _ _ => none) (fun _ ih => g_X3_setRate_8s ih) n
set_option maxHeartbeats 4000000 in
theorem t_X3_setRate_8 {p : Program} {l : Launch} {e : Env} {s : State} {m : MethodId} {args : Array Value} {below : List Frame} {meth : Method} {c : Code} {D : va_G} {q : Nat → Nat} {k : Nat → ClassId} {b : xT} {o : Nat → Int64} {z : xT} {y : xT} (C : xCx p s m meth c cX3_setRate 5 none RX3 D k)  (n : Nat) : ∀ {a : xT} {v2 v3 v4 : Int32} {ls : Array Slot} {H : Heap} {locs : List Loc}, va_P D vwCl (xw q k a b o) H → va_D (va_A (xw q k z b o) s.heap.size) (xw q k a b o) → va_S (va_A (xw q k z b o) s.heap.size) s.heap H locs → lv_has ls 5 [(0, .ref (q 1)), (2, .int v2), (3, .int v3), (4, .int v4)] → g_X3_setRate_8  n a v2 v3 v4 = some y → W p l e r_X3_setRate s m args below meth c H locs 0 0 (xMQ below (xQm D q k z b o (.inr (none, y, b))) args s 0 0 (va_A (xw q k z b o) s.heap.size)) (F0 m 8 ls []) := by
  induction n with
  | zero =>
    intro _ _ _ _ _ _ _ _ _ _ _ hf
    have h9 : (none : Option (xT)) = some y := hf
    cases h9
  | succ n ih =>
    intro _ _ _ _ _ _ _ hP hD hS hl hf
    exact t_X3_setRate_8s C hP hD hS (K8 := g_X3_setRate_8  n) ih hl hf
noncomputable def g_X3_setRate_0  (a : xT) (v1 : Int32) (v2 : Int32) : Option (xT) := g_X3_setRate_8  1000 a v2 (v1 * 15) 0
set_option maxHeartbeats 4000000 in
set_option maxRecDepth 100000 in
theorem t_X3_setRate_0 {p : Program} {l : Launch} {e : Env} {s : State} {m : MethodId} {args : Array Value} {below : List Frame} {meth : Method} {c : Code} {D : va_G} {q : Nat → Nat} {k : Nat → ClassId} {a b : xT} {o : Nat → Int64} {z : xT} {y : xT} (C : xCx p s m meth c cX3_setRate 5 none RX3 D k) {H : Heap} {locs : List Loc} (hP : va_P D vwCl (xw q k a b o) H) (hD : va_D (va_A (xw q k z b o) s.heap.size) (xw q k a b o)) (hS : va_S (va_A (xw q k z b o) s.heap.size) s.heap H locs)  {v1 v2 : Int32} {ls : Array Slot} (hl : lv_has ls 5 [(0, .ref (q 1)), (1, .int v1), (2, .int v2)]) (hf : g_X3_setRate_0  a v1 v2 = some y) : W p l e r_X3_setRate s m args below meth c H locs 0 0 (xMQ below (xQm D q k z b o (.inr (none, y, b))) args s 0 0 (va_A (xw q k z b o) s.heap.size)) (F0 m 0 ls []) := by
  obtain ⟨hx, hb, hml, hr, hlocks, hown, hno, hG⟩ := C
  have hK := hG.1
  have hE := hG.2.1
  have hA : ∀ u, s.heap.size ≤ u → va_A (xw q k z b o) s.heap.size u := fun u h => Or.inr h
  unfold g_X3_setRate_0 at hf
  refine lv_iload_n hx hb dX3_setRate_0 rfl (lv_at hl 1 rfl) ?_
  refine lv_bipush (v := 15) hx hb dX3_setRate_1 (by decide) ?_
  refine lv_imul hx hb dX3_setRate_3 ?_
  refine lv_istore_n (lv' := [(3, .int (v1 * 15)), (0, .ref (q 1)), (1, .int v1), (2, .int v2)]) hx hb dX3_setRate_4 rfl hl (by decide) rfl (fun ls hl => ?_)
  refine lv_iconst (v := 0) hx hb dX3_setRate_5 (by decide) ?_
  refine lv_istore (lv' := [(4, .int 0), (3, .int (v1 * 15)), (0, .ref (q 1)), (1, .int v1), (2, .int v2)]) hx hb dX3_setRate_6 hl (by decide) rfl (fun ls hl => ?_)
  exact t_X3_setRate_8 ⟨hx, hb, hml, hr, hlocks, hown, hno, hG⟩  1000 hP hD hS (lv_sub hl [2, 4, 1, 0] rfl) hf
noncomputable def f_X3_setRate (a : xT) (v1 : Int32) (v2 : Int32) : Option (xT) := g_X3_setRate_0 a v1 v2
set_option maxHeartbeats 4000000 in
set_option maxRecDepth 100000 in
theorem c_X3_setRate (l : Launch) (D : va_G) (q : Nat → Nat) (k : Nat → ClassId) (sz : Nat) (a b : xT) (o : Nat → Int64) (v1 : Int32) (v2 : Int32) (y : xT) (hf : f_X3_setRate a v1 v2 = some y) : xMet l yX3_setRate (.code yX3_setRate cX3_setRate 5 none) r_X3_setRate (xPcm D q k sz a b o [.ref (q 1), .int v1, .int v2]) (xQm D q k a b o (.inr (none, y, b))) 0 0 (va_A (xw q k a b o) sz) := by
  refine xMet.ofW (by decide) ?_
  intro p e s m args below meth c hx hb hml hr hlocks hnm hme hno hv
  obtain ⟨rfl, hsz, hP, hD, hG⟩ := hv
  subst hsz
  have hown : s.vm.findClass RX3 = some m.cls := findClass_of_methodNamed hnm
  have hl := lv_entry ([.ref (q 1), .int v1, .int v2]) (n := 5) (Nat.le_of_ble_eq_true rfl)
  rw [lg_entry_eq]
  generalize (lg_sl ([.ref (q 1), .int v1, .int v2]) ++ List.replicate (5 - (lg_sl ([.ref (q 1), .int v1, .int v2])).length) Slot.unset).toArray = ls at hl ⊢
  have hl : lv_has ls 5 [(0, .ref (q 1)), (1, .int v1), (2, .int v2)] := hl
  have hD := hD.self (sz := s.heap.size)
  exact t_X3_setRate_0 ⟨hx, hb, hml, hr, hlocks, hown, hno, hG⟩ hP hD va_S.rf hl hf
abbrev r_X4_checkFlight : Room := { frames := 6, cells := 1, slots := 6, locals := 90 }
noncomputable def g_X4_checkFlight_15  (a : xT)  : Option (Option String) := some (some "java/lang/IllegalArgumentException")
set_option maxHeartbeats 4000000 in
set_option maxRecDepth 100000 in
theorem t_X4_checkFlight_15 {p : Program} {l : Launch} {e : Env} {s : State} {m : MethodId} {args : Array Value} {below : List Frame} {meth : Method} {c : Code} {D : va_G} {q : Nat → Nat} {k : Nat → ClassId} {a b : xT} {o : Nat → Int64} {y : Option String} (C : xCx p s m meth c cX4_checkFlight 2 none RX4 D k) (hl0 : l.stackTraces = false) (hst : xSt s) (hP : va_P D vwCl (xw q k a b o) s.heap) (hD : va_D (fun _ => True) (xw q k a b o))  {ls : Array Slot} (hl : lv_has ls 2 []) (hf : g_X4_checkFlight_15  a  = some y) : W p l e r_X4_checkFlight s m args below meth c s.heap [] 0 0 (xMQ below (xQr (xck y)) args s (xmc (xck y)) (xms (xck y)) (fun _ => False)) (F0 m 15 ls []) := by
  obtain ⟨hx, hb, hml, hr, hlocks, hown, hno, hG⟩ := C
  have hK := hG.1
  have hE := hG.2.1
  unfold g_X4_checkFlight_15 at hf
  cases hf
  obtain ⟨sa, hsa⟩ := hG.2.2 (RX4, 202, "no such flight") (by decide +kernel)
  exact xthrow (own := RX4) (cls := "java/lang/IllegalArgumentException") (text := "no such flight") (names := ["java/lang/RuntimeException", "java/lang/Exception"]) (ik := 37) (is := 202) (ic := 41) (sa := sa) hx hb hl0 hown hE hst (by decide +kernel) (by decide +kernel) tw_X4_41 kl_X4_37 wn_IllegalArgumentException hsa hno hlocks (hl.1.trans hml.symm) dX4_checkFlight_15 dX4_checkFlight_18 dX4_checkFlight_19 dX4_checkFlight_21 dX4_checkFlight_24 (by decide) (by decide) (by decide) (by decide) (fun u t h => ⟨u, rfl, h⟩)
noncomputable def g_X4_checkFlight_0  (a : xT) (v1 : Int32) : Option (Option String) := (if v1 < 0 then g_X4_checkFlight_15  a  else (if v1 < (a.2 0) then some none else g_X4_checkFlight_15  a ))
set_option maxHeartbeats 4000000 in
set_option maxRecDepth 100000 in
theorem t_X4_checkFlight_0 {p : Program} {l : Launch} {e : Env} {s : State} {m : MethodId} {args : Array Value} {below : List Frame} {meth : Method} {c : Code} {D : va_G} {q : Nat → Nat} {k : Nat → ClassId} {a b : xT} {o : Nat → Int64} {y : Option String} (C : xCx p s m meth c cX4_checkFlight 2 none RX4 D k) (hl0 : l.stackTraces = false) (hst : xSt s) (hP : va_P D vwCl (xw q k a b o) s.heap) (hD : va_D (fun _ => True) (xw q k a b o))  {v1 : Int32} {ls : Array Slot} (hl : lv_has ls 2 [(0, .ref (q 0)), (1, .int v1)]) (hf : g_X4_checkFlight_0  a v1 = some y) : W p l e r_X4_checkFlight s m args below meth c s.heap [] 0 0 (xMQ below (xQr (xck y)) args s (xmc (xck y)) (xms (xck y)) (fun _ => False)) (F0 m 0 ls []) := by
  obtain ⟨hx, hb, hml, hr, hlocks, hown, hno, hG⟩ := C
  have hK := hG.1
  have hE := hG.2.1
  unfold g_X4_checkFlight_0 at hf
  refine lv_iload_n hx hb dX4_checkFlight_0 rfl (lv_at hl 1 rfl) ?_
  refine lv_if_lt hx hb dX4_checkFlight_1 rfl (fun hc => ?_) (fun hc => ?_)
  · rw [if_pos hc] at hf
    exact t_X4_checkFlight_15 ⟨hx, hb, hml, hr, hlocks, hown, hno, hG⟩ hl0 hst hP hD  (lv_sub hl [] rfl) hf
  · rw [if_neg hc] at hf
    refine lv_iload_n hx hb dX4_checkFlight_4 rfl (lv_at hl 1 rfl) ?_
    refine lv_aload_n hx hb dX4_checkFlight_5 rfl (lv_at hl 0 rfl) ?_
    refine va_get (D := D) (ci := 4) (v := .ref (q 2)) (C := RX4) (T := TX4) (N := 4) hx hb (hwX4 hE) (fun _ h => h) hown hK hP 0 rfl rfl 1 (by decide) (hE _ fl_X4_19 rfl _) (fun _ h9 => h9) rfl dX4_checkFlight_6 ?_
    refine va_get (D := D) (ci := 1) (v := .int (a.2 0)) (C := RX1) (T := TX1) (N := 8) hx hb (hwX1 hE) (fun _ h => h) hown hK hP 2 rfl rfl 7 (by decide) (hE _ fl_X4_77 rfl _) (fun _ h9 => h9) rfl dX4_checkFlight_9 ?_
    refine lv_icmp_lt hx hb dX4_checkFlight_12 rfl (fun hc => ?_) (fun hc => ?_)
    · rw [if_pos hc] at hf
      cases hf
      exact xret_v hx hb hr hlocks dX4_checkFlight_25
    · rw [if_neg hc] at hf
      exact t_X4_checkFlight_15 ⟨hx, hb, hml, hr, hlocks, hown, hno, hG⟩ hl0 hst hP hD  (lv_sub hl [] rfl) hf
noncomputable def f_X4_checkFlight (a : xT) (v1 : Int32) : Option (Option String) := g_X4_checkFlight_0 a v1
set_option maxHeartbeats 4000000 in
set_option maxRecDepth 100000 in
theorem c_X4_checkFlight (l : Launch) (hl0 : l.stackTraces = false) (D : va_G) (q : Nat → Nat) (k : Nat → ClassId) (a b : xT) (o : Nat → Int64) (v1 : Int32) (y : Option String) (hf : f_X4_checkFlight a v1 = some y) : xMet l yX4_checkFlight (.code yX4_checkFlight cX4_checkFlight 2 none) r_X4_checkFlight (xPcT D q k a b o [.ref (q 0), .int v1]) (xQr (xck y)) (xmc (xck y)) (xms (xck y)) (fun _ => False) := by
  refine xMet.ofW (by decide) ?_
  intro p e s m args below meth c hx hb hml hr hlocks hnm hme hno hv
  obtain ⟨rfl, hP, hD, hG, hst⟩ := hv
  have hown : s.vm.findClass RX4 = some m.cls := findClass_of_methodNamed hnm
  have hl := lv_entry ([.ref (q 0), .int v1]) (n := 2) (Nat.le_of_ble_eq_true rfl)
  rw [lg_entry_eq]
  generalize (lg_sl ([.ref (q 0), .int v1]) ++ List.replicate (2 - (lg_sl ([.ref (q 0), .int v1])).length) Slot.unset).toArray = ls at hl ⊢
  have hl : lv_has ls 2 [(0, .ref (q 0)), (1, .int v1)] := hl
  exact t_X4_checkFlight_0 ⟨hx, hb, hml, hr, hlocks, hown, hno, hG⟩ hl0 hst hP hD hl hf
abbrev r_X4_airborne : Room := { frames := 7, cells := 1, slots := 6, locals := 111 }
noncomputable def g_X4_airborne_30  (z : xT)  : Option (String ⊕ (xT)) := some (.inl "java/lang/IllegalStateException")
set_option maxHeartbeats 4000000 in
set_option maxRecDepth 100000 in
theorem t_X4_airborne_30 {p : Program} {l : Launch} {e : Env} {s : State} {m : MethodId} {args : Array Value} {below : List Frame} {meth : Method} {c : Code} {D : va_G} {q : Nat → Nat} {k : Nat → ClassId} {b : xT} {o : Nat → Int64} {z : xT} {y : String ⊕ (xT)} (C : xCx p s m meth c cX4_airborne 2 none RX4 D k) (hl0 : l.stackTraces = false) (hst : xSt s) (hP : va_P D vwCl (xw q k z b o) s.heap) (hD : va_D (va_A (xw q k z b o) s.heap.size) (xw q k z b o))  {ls : Array Slot} (hl : lv_has ls 2 []) (hf : g_X4_airborne_30  z  = some y) : W p l e r_X4_airborne s m args below meth c s.heap [] 0 0 (xMQ below (xQm D q k z b o (Sum.map id (fun z => (none, z, b)) y)) args s (xmm (Sum.map id (fun z => (none, z, b)) y)) (xmn (Sum.map id (fun z => (none, z, b)) y)) (xfr q k z b o s.heap.size (Sum.map id (fun z => (none, z, b)) y))) (F0 m 30 ls []) := by
  obtain ⟨hx, hb, hml, hr, hlocks, hown, hno, hG⟩ := C
  have hK := hG.1
  have hE := hG.2.1
  have hS : va_S (va_A (xw q k z b o) s.heap.size) s.heap s.heap [] := va_S.rf
  have hA : ∀ u, s.heap.size ≤ u → va_A (xw q k z b o) s.heap.size u := fun u h => Or.inr h
  unfold g_X4_airborne_30 at hf
  cases hf
  obtain ⟨sa, hsa⟩ := hG.2.2 (RX4, 122, "airborne, or in no slot") (by decide +kernel)
  exact xthrow (own := RX4) (cls := "java/lang/IllegalStateException") (text := "airborne, or in no slot") (names := ["java/lang/RuntimeException", "java/lang/Exception"]) (ik := 50) (is := 122) (ic := 54) (sa := sa) hx hb hl0 hown hE hst (by decide +kernel) (by decide +kernel) tw_X4_54 kl_X4_50 wn_IllegalStateException hsa hno hlocks (hl.1.trans hml.symm) dX4_airborne_30 dX4_airborne_33 dX4_airborne_34 dX4_airborne_36 dX4_airborne_39 (by decide) (by decide) (by decide) (by decide) (fun u t h => ⟨u, rfl, h⟩)
noncomputable def g_X4_airborne_50  (a : xT)  : Option (String ⊕ (xT)) := some (.inr a)
set_option maxHeartbeats 4000000 in
set_option maxRecDepth 100000 in
theorem t_X4_airborne_50 {p : Program} {l : Launch} {e : Env} {s : State} {m : MethodId} {args : Array Value} {below : List Frame} {meth : Method} {c : Code} {D : va_G} {q : Nat → Nat} {k : Nat → ClassId} {a b : xT} {o : Nat → Int64} {z : xT} {y : String ⊕ (xT)} (C : xCx p s m meth c cX4_airborne 2 none RX4 D k) (hl0 : l.stackTraces = false) (hst : xSt s) {H : Heap} {locs : List Loc} (hP : va_P D vwCl (xw q k a b o) H) (hD : va_D (va_A (xw q k z b o) s.heap.size) (xw q k a b o)) (hS : va_S (va_A (xw q k z b o) s.heap.size) s.heap H locs)  {ls : Array Slot} (hl : lv_has ls 2 []) (hf : g_X4_airborne_50  a  = some y) : W p l e r_X4_airborne s m args below meth c H locs 0 0 (xMQ below (xQm D q k z b o (Sum.map id (fun z => (none, z, b)) y)) args s (xmm (Sum.map id (fun z => (none, z, b)) y)) (xmn (Sum.map id (fun z => (none, z, b)) y)) (xfr q k z b o s.heap.size (Sum.map id (fun z => (none, z, b)) y))) (F0 m 50 ls []) := by
  obtain ⟨hx, hb, hml, hr, hlocks, hown, hno, hG⟩ := C
  have hK := hG.1
  have hE := hG.2.1
  have hA : ∀ u, s.heap.size ≤ u → va_A (xw q k z b o) s.heap.size u := fun u h => Or.inr h
  unfold g_X4_airborne_50 at hf
  cases hf
  exact xretm_v hx hb hr hlocks hP hS dX4_airborne_50
noncomputable def g_X4_airborne_0  (z : xT) (v1 : Int32) : Option (String ⊕ (xT)) := ((f_X4_checkFlight z v1).bind fun r => Option.elim r ((if xin v1 60 = true then (if (z.1 8 v1.toNatClampNeg) = 0 then (if xin v1 60 = true then (if (z.1 6 v1.toNatClampNeg) = (-1) then g_X4_airborne_30  z  else (if xin v1 60 = true then g_X4_airborne_50  (xs z 8 v1.toNatClampNeg (vp_nar .boolean 1))  else none)) else none) else g_X4_airborne_30  z ) else none)) (fun E => some (.inl E)))
set_option maxHeartbeats 4000000 in
set_option maxRecDepth 100000 in
theorem t_X4_airborne_0 {p : Program} {l : Launch} {e : Env} {s : State} {m : MethodId} {args : Array Value} {below : List Frame} {meth : Method} {c : Code} {D : va_G} {q : Nat → Nat} {k : Nat → ClassId} {b : xT} {o : Nat → Int64} {z : xT} {y : String ⊕ (xT)} (C : xCx p s m meth c cX4_airborne 2 none RX4 D k) (hl0 : l.stackTraces = false) (hst : xSt s) (hP : va_P D vwCl (xw q k z b o) s.heap) (hD : va_D (va_A (xw q k z b o) s.heap.size) (xw q k z b o))  {v1 : Int32} {ls : Array Slot} (hl : lv_has ls 2 [(0, .ref (q 0)), (1, .int v1)]) (hf : g_X4_airborne_0  z v1 = some y) : W p l e r_X4_airborne s m args below meth c s.heap [] 0 0 (xMQ below (xQm D q k z b o (Sum.map id (fun z => (none, z, b)) y)) args s (xmm (Sum.map id (fun z => (none, z, b)) y)) (xmn (Sum.map id (fun z => (none, z, b)) y)) (xfr q k z b o s.heap.size (Sum.map id (fun z => (none, z, b)) y))) (F0 m 0 ls []) := by
  obtain ⟨hx, hb, hml, hr, hlocks, hown, hno, hG⟩ := C
  have hK := hG.1
  have hE := hG.2.1
  have hS : va_S (va_A (xw q k z b o) s.heap.size) s.heap s.heap [] := va_S.rf
  have hA : ∀ u, s.heap.size ≤ u → va_A (xw q k z b o) s.heap.size u := fun u h => Or.inr h
  unfold g_X4_airborne_0 at hf
  refine lv_aload_n hx hb dX4_airborne_0 rfl (lv_at hl 0 rfl) ?_
  refine lv_iload_n hx hb dX4_airborne_1 rfl (lv_at hl 1 rfl) ?_
  obtain ⟨r2, hN, hf⟩ := xbind hf
  cases r2 with
  | some E =>
    replace hf : some (.inl E) = some y := hf
    cases hf
    exact xgo_t (xrunV (C := RX4) (As := [.int v1]) (rest := []) (xfixm fx_X4_checkFlight hx hb hml hown (by decide) (by decide) (by decide) (by decide)) hE ml_X4_87 wi_X4_checkFlight wz_X4_checkFlight wc_X4_checkFlight wn_X4 (c_X4_checkFlight l hl0 D q k z b o v1 _ hN) (va_recv (q := (RX4, TX4, 4)) (ci := 4) (q0 := 0) hK hP rfl rfl) (xpreT hP hD hG hst) rfl rfl hl.1 rfl (lv_room (Nat.le_of_ble_eq_true rfl)) dX4_airborne_2) (fun u H1 ce h1 h2 h3 h4 h5 => xout hno hlocks (fun u t h => ⟨u, rfl, h⟩) h1 h2 h3 h4 h5)
  | none =>
    replace hf : (if xin v1 60 = true then (if (z.1 8 v1.toNatClampNeg) = 0 then (if xin v1 60 = true then (if (z.1 6 v1.toNatClampNeg) = (-1) then g_X4_airborne_30  z  else (if xin v1 60 = true then g_X4_airborne_50  (xs z 8 v1.toNatClampNeg (vp_nar .boolean 1))  else none)) else none) else g_X4_airborne_30  z ) else none) = some y := hf
    refine xgo_r (v := none) (xrunV (C := RX4) (As := [.int v1]) (rest := []) (xfixm fx_X4_checkFlight hx hb hml hown (by decide) (by decide) (by decide) (by decide)) hE ml_X4_87 wi_X4_checkFlight wz_X4_checkFlight wc_X4_checkFlight wn_X4 (c_X4_checkFlight l hl0 D q k z b o v1 _ hN) (va_recv (q := (RX4, TX4, 4)) (ci := 4) (q0 := 0) hK hP rfl rfl) (xpreT hP hD hG hst) rfl rfl hl.1 rfl (lv_room (Nat.le_of_ble_eq_true rfl)) dX4_airborne_2) ?_
    refine lv_aload_n hx hb dX4_airborne_5 rfl (lv_at hl 0 rfl) ?_
    refine va_get (D := D) (ci := 4) (v := .ref (q 2)) (C := RX4) (T := TX4) (N := 4) hx hb (hwX4 hE) (fun _ h => h) hown hK hP 0 rfl rfl 1 (by decide) (hE _ fl_X4_19 rfl _) (fun _ h9 => h9) rfl dX4_airborne_6 ?_
    refine va_get (D := D) (ci := 1) (v := .ref (q 13)) (C := RX1) (T := TX1) (N := 8) hx hb (hwX1 hE) (fun _ h => h) hown hK hP 2 rfl rfl 5 (by decide) (hE _ fl_X4_119 rfl _) (fun _ h9 => h9) rfl dX4_airborne_9 ?_
    refine lv_iload_n hx hb dX4_airborne_12 rfl (lv_at hl 1 rfl) ?_
    obtain ⟨hin, hf⟩ := xguard hf
    refine va_zald hx hb hK hP 13 1 rfl rfl hin dX4_airborne_13 ?_
    refine lv_if_ne hx hb dX4_airborne_14 rfl (fun hc => ?_) (fun hc => ?_)
    · rw [if_neg hc] at hf
      exact t_X4_airborne_30 ⟨hx, hb, hml, hr, hlocks, hown, hno, hG⟩ hl0 hst hP hD  (lv_sub hl [] rfl) hf
    · rw [if_pos hc] at hf
      refine lv_aload_n hx hb dX4_airborne_17 rfl (lv_at hl 0 rfl) ?_
      refine va_get (D := D) (ci := 4) (v := .ref (q 2)) (C := RX4) (T := TX4) (N := 4) hx hb (hwX4 hE) (fun _ h => h) hown hK hP 0 rfl rfl 1 (by decide) (hE _ fl_X4_19 rfl _) (fun _ h9 => h9) rfl dX4_airborne_18 ?_
      refine va_get (D := D) (ci := 1) (v := .ref (q 11)) (C := RX1) (T := TX1) (N := 8) hx hb (hwX1 hE) (fun _ h => h) hown hK hP 2 rfl rfl 3 (by decide) (hE _ fl_X4_90 rfl _) (fun _ h9 => h9) rfl dX4_airborne_21 ?_
      refine lv_iload_n hx hb dX4_airborne_24 rfl (lv_at hl 1 rfl) ?_
      obtain ⟨hin, hf⟩ := xguard hf
      refine va_iald hx hb hK hP 11 0 rfl rfl hin dX4_airborne_25 ?_
      refine lv_iconst (v := -1) hx hb dX4_airborne_26 (by decide) ?_
      refine lv_icmp_ne hx hb dX4_airborne_27 rfl (fun hc => ?_) (fun hc => ?_)
      · rw [if_neg hc] at hf
        refine lv_aload_n hx hb dX4_airborne_40 rfl (lv_at hl 0 rfl) ?_
        refine va_get (D := D) (ci := 4) (v := .ref (q 2)) (C := RX4) (T := TX4) (N := 4) hx hb (hwX4 hE) (fun _ h => h) hown hK hP 0 rfl rfl 1 (by decide) (hE _ fl_X4_19 rfl _) (fun _ h9 => h9) rfl dX4_airborne_41 ?_
        refine va_get (D := D) (ci := 1) (v := .ref (q 13)) (C := RX1) (T := TX1) (N := 8) hx hb (hwX1 hE) (fun _ h => h) hown hK hP 2 rfl rfl 5 (by decide) (hE _ fl_X4_119 rfl _) (fun _ h9 => h9) rfl dX4_airborne_44 ?_
        refine lv_iload_n hx hb dX4_airborne_47 rfl (lv_at hl 1 rfl) ?_
        refine lv_iconst (v := 1) hx hb dX4_airborne_48 (by decide) ?_
        obtain ⟨hin, hf⟩ := xguard hf
        refine va_zast hx hb hK hP hD hS 13 1 rfl rfl hin dX4_airborne_49 (fun H locs hP hD hS => ?_)
        rw [xw_s13] at hP hD
        exact t_X4_airborne_50 ⟨hx, hb, hml, hr, hlocks, hown, hno, hG⟩ hl0 hst hP hD hS  (lv_sub hl [] rfl) hf
      · rw [if_pos hc] at hf
        exact t_X4_airborne_30 ⟨hx, hb, hml, hr, hlocks, hown, hno, hG⟩ hl0 hst hP hD  (lv_sub hl [] rfl) hf
noncomputable def f_X4_airborne (a : xT) (v1 : Int32) : Option (String ⊕ (xT)) := g_X4_airborne_0 a v1
set_option maxHeartbeats 4000000 in
set_option maxRecDepth 100000 in
theorem c_X4_airborne (l : Launch) (hl0 : l.stackTraces = false) (D : va_G) (q : Nat → Nat) (k : Nat → ClassId) (sz : Nat) (a b : xT) (o : Nat → Int64) (v1 : Int32) (y : String ⊕ (xT)) (hf : f_X4_airborne a v1 = some y) : xMet l yX4_airborne (.code yX4_airborne cX4_airborne 2 none) r_X4_airborne (xPcTm D q k sz a b o [.ref (q 0), .int v1]) (xQm D q k a b o (Sum.map id (fun z => (none, z, b)) y)) (xmm (Sum.map id (fun z => (none, z, b)) y)) (xmn (Sum.map id (fun z => (none, z, b)) y)) (xfr q k a b o sz (Sum.map id (fun z => (none, z, b)) y)) := by
  refine xMet.ofW (by decide) ?_
  intro p e s m args below meth c hx hb hml hr hlocks hnm hme hno hv
  obtain ⟨rfl, hsz, hP, hD, hG, hst⟩ := hv
  subst hsz
  have hown : s.vm.findClass RX4 = some m.cls := findClass_of_methodNamed hnm
  have hl := lv_entry ([.ref (q 0), .int v1]) (n := 2) (Nat.le_of_ble_eq_true rfl)
  rw [lg_entry_eq]
  generalize (lg_sl ([.ref (q 0), .int v1]) ++ List.replicate (2 - (lg_sl ([.ref (q 0), .int v1])).length) Slot.unset).toArray = ls at hl ⊢
  have hl : lv_has ls 2 [(0, .ref (q 0)), (1, .int v1)] := hl
  have hD := hD.self (sz := s.heap.size)
  exact t_X4_airborne_0 ⟨hx, hb, hml, hr, hlocks, hown, hno, hG⟩ hl0 hst hP hD hl hf
