abbrev r_X0_init : Room := { frames := 1, cells := 4, slots := 800, locals := 12 }
set_option maxHeartbeats 8000000 in
set_option maxRecDepth 100000 in
theorem k_X0 (l : Launch) (D : va_G) (k : Nat → ClassId) (sz h0 : Nat) : xMet l yX0_init (.code yX0_init cX0_init 1 none) r_X0_init (xPk D k sz [(h0, .inr (0, [.null, .null, .null, .null, .int 0]))] [.ref h0]) (xQk [(h0, .inr (0, [.null, .null, .null, .null, .int 0]))] (fun H => ∃ (u0 u1 u2 u3 : Nat), va_P D vwCl [(h0, .inr (0, [.ref u0, .ref u1, .ref u2, .ref u3, .int 0])), (u0, .inl (k 0, 200, .inl (fun _ => 0))), (u1, .inl (k 0, 200, .inl (fun _ => 0))), (u2, .inl (k 0, 200, .inl (fun _ => 0))), (u3, .inl (k 0, 200, .inl (fun _ => 0)))] H ∧ va_D (va_A [(h0, .inr (0, [.null, .null, .null, .null, .int 0]))] sz) [(h0, .inr (0, [.ref u0, .ref u1, .ref u2, .ref u3, .int 0])), (u0, .inl (k 0, 200, .inl (fun _ => 0))), (u1, .inl (k 0, 200, .inl (fun _ => 0))), (u2, .inl (k 0, 200, .inl (fun _ => 0))), (u3, .inl (k 0, 200, .inl (fun _ => 0)))])) 4 800 (va_A [(h0, .inr (0, [.null, .null, .null, .null, .int 0]))] sz) := by
  refine xMet.ofW (by decide) ?_
  intro p e s m args below meth c hx hb hml hr hlocks hnm hme hno hv
  obtain ⟨rfl, hsz, hP, hD, hG⟩ := hv
  subst hsz
  have hK := hG.1
  have hE := hG.2.1
  have hown : s.vm.findClass RX0 = some m.cls := findClass_of_methodNamed hnm
  have hin : meth.name = "<init>" := (name_of_methodNamed hnm hme).1
  have hl := lv_entry ([.ref h0]) (n := 1) (Nat.le_of_ble_eq_true rfl)
  rw [lg_entry_eq]
  generalize (lg_sl ([.ref h0]) ++ List.replicate (1 - (lg_sl ([.ref h0])).length) Slot.unset).toArray = ls at hl ⊢
  have hl : lv_has ls 1 [(0, .ref h0)] := hl
  have hD := hD.self (sz := s.heap.size)
  have hS : va_S (va_A [(h0, .inr (0, [.null, .null, .null, .null, .int 0]))] s.heap.size) s.heap s.heap [] := va_S.rf
  have hA : ∀ u, s.heap.size ≤ u → va_A [(h0, .inr (0, [.null, .null, .null, .null, .int 0]))] s.heap.size u := fun u h => Or.inr h
  refine lv_aload_n hx hb dX0_init_0 rfl (lv_at hl 0 rfl) ?_
  refine W.objInit hx hb hown (hE _ ml_X0_3 rfl _) (hE _ wi_obj rfl _) (hE _ wc_obj rfl _) rfl (by rw [hml]; exact hl.1) rfl dX0_init_1 (Nat.le_of_ble_eq_true rfl) (Nat.le_of_ble_eq_true rfl) ?_
  refine W.eq (g2 := F0 m 4 ls []) rfl ?_
  refine lv_aload_n hx hb dX0_init_4 rfl (lv_at hl 0 rfl) ?_
  refine lv_sipush (v := 200) hx hb dX0_init_5 (by decide) ?_
  refine xnewa (atype := .int) (ty := .int) (t0 := 0) (a0 := (200, .inl (fun _ => 0))) (nm := "[I") (n := 200) (N' := 200) hx hb rfl wa_int hE hK hP hD hS hA rfl (fun _ h => h) (fun _ => rfl) (by decide) (by decide) (by decide) (Nat.le_of_ble_eq_true rfl) (Nat.le_of_ble_eq_true rfl) dX0_init_8 (fun u0 H hP hD hS => ?_)
  have hP : va_P D vwCl [(h0, .inr (0, [.null, .null, .null, .null, .int 0])), (u0, .inl (k 0, 200, .inl (fun _ => 0)))] H := hP
  have hD : va_D (va_A [(h0, .inr (0, [.null, .null, .null, .null, .int 0]))] s.heap.size) [(h0, .inr (0, [.null, .null, .null, .null, .int 0])), (u0, .inl (k 0, 200, .inl (fun _ => 0)))] := hD
  refine va_putF (D := D) (ci := 0) (v := .ref u0) (ty := (.array .int)) (C := RX0) (T := TX0) (N := 5) hx hb (hwX0 hE) (fun _ h => h) tyX0 tyX0_ok nmX0 hown hK hP hD hS 0 rfl rfl 0 (by decide) (hE _ fl_X0_9 rfl _) (fun _ h9 => h9) rfl hin rfl (by decide +kernel) rfl rfl (Nat.le_of_ble_eq_true rfl) dX0_init_10 (fun H locs hP hD hS => ?_)
  have hP : va_P D vwCl [(h0, .inr (0, [.ref u0, .null, .null, .null, .int 0])), (u0, .inl (k 0, 200, .inl (fun _ => 0)))] H := hP
  have hD : va_D (va_A [(h0, .inr (0, [.null, .null, .null, .null, .int 0]))] s.heap.size) [(h0, .inr (0, [.ref u0, .null, .null, .null, .int 0])), (u0, .inl (k 0, 200, .inl (fun _ => 0)))] := hD
  refine lv_aload_n hx hb dX0_init_13 rfl (lv_at hl 0 rfl) ?_
  refine lv_sipush (v := 200) hx hb dX0_init_14 (by decide) ?_
  refine xnewa (atype := .int) (ty := .int) (t0 := 0) (a0 := (200, .inl (fun _ => 0))) (nm := "[I") (n := 200) (N' := 200) hx hb rfl wa_int hE hK hP hD hS hA rfl (fun _ h => h) (fun _ => rfl) (by decide) (by decide) (by decide) (Nat.le_of_ble_eq_true rfl) (Nat.le_of_ble_eq_true rfl) dX0_init_17 (fun u1 H hP hD hS => ?_)
  have hP : va_P D vwCl [(h0, .inr (0, [.ref u0, .null, .null, .null, .int 0])), (u0, .inl (k 0, 200, .inl (fun _ => 0))), (u1, .inl (k 0, 200, .inl (fun _ => 0)))] H := hP
  have hD : va_D (va_A [(h0, .inr (0, [.null, .null, .null, .null, .int 0]))] s.heap.size) [(h0, .inr (0, [.ref u0, .null, .null, .null, .int 0])), (u0, .inl (k 0, 200, .inl (fun _ => 0))), (u1, .inl (k 0, 200, .inl (fun _ => 0)))] := hD
  refine va_putF (D := D) (ci := 0) (v := .ref u1) (ty := (.array .int)) (C := RX0) (T := TX0) (N := 5) hx hb (hwX0 hE) (fun _ h => h) tyX0 tyX0_ok nmX0 hown hK hP hD hS 0 rfl rfl 1 (by decide) (hE _ fl_X0_15 rfl _) (fun _ h9 => h9) rfl hin rfl (by decide +kernel) rfl rfl (Nat.le_of_ble_eq_true rfl) dX0_init_19 (fun H locs hP hD hS => ?_)
  have hP : va_P D vwCl [(h0, .inr (0, [.ref u0, .ref u1, .null, .null, .int 0])), (u0, .inl (k 0, 200, .inl (fun _ => 0))), (u1, .inl (k 0, 200, .inl (fun _ => 0)))] H := hP
  have hD : va_D (va_A [(h0, .inr (0, [.null, .null, .null, .null, .int 0]))] s.heap.size) [(h0, .inr (0, [.ref u0, .ref u1, .null, .null, .int 0])), (u0, .inl (k 0, 200, .inl (fun _ => 0))), (u1, .inl (k 0, 200, .inl (fun _ => 0)))] := hD
  refine lv_aload_n hx hb dX0_init_22 rfl (lv_at hl 0 rfl) ?_
  refine lv_sipush (v := 200) hx hb dX0_init_23 (by decide) ?_
  refine xnewa (atype := .int) (ty := .int) (t0 := 0) (a0 := (200, .inl (fun _ => 0))) (nm := "[I") (n := 200) (N' := 200) hx hb rfl wa_int hE hK hP hD hS hA rfl (fun _ h => h) (fun _ => rfl) (by decide) (by decide) (by decide) (Nat.le_of_ble_eq_true rfl) (Nat.le_of_ble_eq_true rfl) dX0_init_26 (fun u2 H hP hD hS => ?_)
  have hP : va_P D vwCl [(h0, .inr (0, [.ref u0, .ref u1, .null, .null, .int 0])), (u0, .inl (k 0, 200, .inl (fun _ => 0))), (u1, .inl (k 0, 200, .inl (fun _ => 0))), (u2, .inl (k 0, 200, .inl (fun _ => 0)))] H := hP
  have hD : va_D (va_A [(h0, .inr (0, [.null, .null, .null, .null, .int 0]))] s.heap.size) [(h0, .inr (0, [.ref u0, .ref u1, .null, .null, .int 0])), (u0, .inl (k 0, 200, .inl (fun _ => 0))), (u1, .inl (k 0, 200, .inl (fun _ => 0))), (u2, .inl (k 0, 200, .inl (fun _ => 0)))] := hD
  refine va_putF (D := D) (ci := 0) (v := .ref u2) (ty := (.array .int)) (C := RX0) (T := TX0) (N := 5) hx hb (hwX0 hE) (fun _ h => h) tyX0 tyX0_ok nmX0 hown hK hP hD hS 0 rfl rfl 2 (by decide) (hE _ fl_X0_18 rfl _) (fun _ h9 => h9) rfl hin rfl (by decide +kernel) rfl rfl (Nat.le_of_ble_eq_true rfl) dX0_init_28 (fun H locs hP hD hS => ?_)
  have hP : va_P D vwCl [(h0, .inr (0, [.ref u0, .ref u1, .ref u2, .null, .int 0])), (u0, .inl (k 0, 200, .inl (fun _ => 0))), (u1, .inl (k 0, 200, .inl (fun _ => 0))), (u2, .inl (k 0, 200, .inl (fun _ => 0)))] H := hP
  have hD : va_D (va_A [(h0, .inr (0, [.null, .null, .null, .null, .int 0]))] s.heap.size) [(h0, .inr (0, [.ref u0, .ref u1, .ref u2, .null, .int 0])), (u0, .inl (k 0, 200, .inl (fun _ => 0))), (u1, .inl (k 0, 200, .inl (fun _ => 0))), (u2, .inl (k 0, 200, .inl (fun _ => 0)))] := hD
  refine lv_aload_n hx hb dX0_init_31 rfl (lv_at hl 0 rfl) ?_
  refine lv_sipush (v := 200) hx hb dX0_init_32 (by decide) ?_
  refine xnewa (atype := .int) (ty := .int) (t0 := 0) (a0 := (200, .inl (fun _ => 0))) (nm := "[I") (n := 200) (N' := 200) hx hb rfl wa_int hE hK hP hD hS hA rfl (fun _ h => h) (fun _ => rfl) (by decide) (by decide) (by decide) (Nat.le_of_ble_eq_true rfl) (Nat.le_of_ble_eq_true rfl) dX0_init_35 (fun u3 H hP hD hS => ?_)
  have hP : va_P D vwCl [(h0, .inr (0, [.ref u0, .ref u1, .ref u2, .null, .int 0])), (u0, .inl (k 0, 200, .inl (fun _ => 0))), (u1, .inl (k 0, 200, .inl (fun _ => 0))), (u2, .inl (k 0, 200, .inl (fun _ => 0))), (u3, .inl (k 0, 200, .inl (fun _ => 0)))] H := hP
  have hD : va_D (va_A [(h0, .inr (0, [.null, .null, .null, .null, .int 0]))] s.heap.size) [(h0, .inr (0, [.ref u0, .ref u1, .ref u2, .null, .int 0])), (u0, .inl (k 0, 200, .inl (fun _ => 0))), (u1, .inl (k 0, 200, .inl (fun _ => 0))), (u2, .inl (k 0, 200, .inl (fun _ => 0))), (u3, .inl (k 0, 200, .inl (fun _ => 0)))] := hD
  refine va_putF (D := D) (ci := 0) (v := .ref u3) (ty := (.array .int)) (C := RX0) (T := TX0) (N := 5) hx hb (hwX0 hE) (fun _ h => h) tyX0 tyX0_ok nmX0 hown hK hP hD hS 0 rfl rfl 3 (by decide) (hE _ fl_X0_21 rfl _) (fun _ h9 => h9) rfl hin rfl (by decide +kernel) rfl rfl (Nat.le_of_ble_eq_true rfl) dX0_init_37 (fun H locs hP hD hS => ?_)
  have hP : va_P D vwCl [(h0, .inr (0, [.ref u0, .ref u1, .ref u2, .ref u3, .int 0])), (u0, .inl (k 0, 200, .inl (fun _ => 0))), (u1, .inl (k 0, 200, .inl (fun _ => 0))), (u2, .inl (k 0, 200, .inl (fun _ => 0))), (u3, .inl (k 0, 200, .inl (fun _ => 0)))] H := hP
  have hD : va_D (va_A [(h0, .inr (0, [.null, .null, .null, .null, .int 0]))] s.heap.size) [(h0, .inr (0, [.ref u0, .ref u1, .ref u2, .ref u3, .int 0])), (u0, .inl (k 0, 200, .inl (fun _ => 0))), (u1, .inl (k 0, 200, .inl (fun _ => 0))), (u2, .inl (k 0, 200, .inl (fun _ => 0))), (u3, .inl (k 0, 200, .inl (fun _ => 0)))] := hD
  exact xretk hx hb hr hlocks ⟨u0, u1, u2, u3, hP, hD⟩ hS dX0_init_40
abbrev r_X1_init : Room := { frames := 1, cells := 7, slots := 420, locals := 12 }
set_option maxHeartbeats 8000000 in
set_option maxRecDepth 100000 in
theorem k_X1 (l : Launch) (D : va_G) (k : Nat → ClassId) (sz h0 : Nat) : xMet l yX1_init (.code yX1_init cX1_init 1 none) r_X1_init (xPk D k sz [(h0, .inr (1, [.null, .null, .null, .null, .null, .null, .null, .int 0]))] [.ref h0]) (xQk [(h0, .inr (1, [.null, .null, .null, .null, .null, .null, .null, .int 0]))] (fun H => ∃ (u0 u1 u2 u3 u4 u5 u6 : Nat), va_P D vwCl [(h0, .inr (1, [.ref u0, .ref u1, .ref u2, .ref u3, .ref u4, .ref u5, .ref u6, .int 0])), (u0, .inl (k 0, 60, .inl (fun _ => 0))), (u1, .inl (k 0, 60, .inl (fun _ => 0))), (u2, .inl (k 0, 60, .inl (fun _ => 0))), (u3, .inl (k 0, 60, .inl (fun _ => 0))), (u4, .inl (k 1, 60, .inl (fun _ => 0))), (u5, .inl (k 1, 60, .inl (fun _ => 0))), (u6, .inl (k 0, 60, .inl (fun _ => 0)))] H ∧ va_D (va_A [(h0, .inr (1, [.null, .null, .null, .null, .null, .null, .null, .int 0]))] sz) [(h0, .inr (1, [.ref u0, .ref u1, .ref u2, .ref u3, .ref u4, .ref u5, .ref u6, .int 0])), (u0, .inl (k 0, 60, .inl (fun _ => 0))), (u1, .inl (k 0, 60, .inl (fun _ => 0))), (u2, .inl (k 0, 60, .inl (fun _ => 0))), (u3, .inl (k 0, 60, .inl (fun _ => 0))), (u4, .inl (k 1, 60, .inl (fun _ => 0))), (u5, .inl (k 1, 60, .inl (fun _ => 0))), (u6, .inl (k 0, 60, .inl (fun _ => 0)))])) 7 420 (va_A [(h0, .inr (1, [.null, .null, .null, .null, .null, .null, .null, .int 0]))] sz) := by
  refine xMet.ofW (by decide) ?_
  intro p e s m args below meth c hx hb hml hr hlocks hnm hme hno hv
  obtain ⟨rfl, hsz, hP, hD, hG⟩ := hv
  subst hsz
  have hK := hG.1
  have hE := hG.2.1
  have hown : s.vm.findClass RX1 = some m.cls := findClass_of_methodNamed hnm
  have hin : meth.name = "<init>" := (name_of_methodNamed hnm hme).1
  have hl := lv_entry ([.ref h0]) (n := 1) (Nat.le_of_ble_eq_true rfl)
  rw [lg_entry_eq]
  generalize (lg_sl ([.ref h0]) ++ List.replicate (1 - (lg_sl ([.ref h0])).length) Slot.unset).toArray = ls at hl ⊢
  have hl : lv_has ls 1 [(0, .ref h0)] := hl
  have hD := hD.self (sz := s.heap.size)
  have hS : va_S (va_A [(h0, .inr (1, [.null, .null, .null, .null, .null, .null, .null, .int 0]))] s.heap.size) s.heap s.heap [] := va_S.rf
  have hA : ∀ u, s.heap.size ≤ u → va_A [(h0, .inr (1, [.null, .null, .null, .null, .null, .null, .null, .int 0]))] s.heap.size u := fun u h => Or.inr h
  refine lv_aload_n hx hb dX1_init_0 rfl (lv_at hl 0 rfl) ?_
  refine W.objInit hx hb hown (hE _ ml_X1_3 rfl _) (hE _ wi_obj rfl _) (hE _ wc_obj rfl _) rfl (by rw [hml]; exact hl.1) rfl dX1_init_1 (Nat.le_of_ble_eq_true rfl) (Nat.le_of_ble_eq_true rfl) ?_
  refine W.eq (g2 := F0 m 4 ls []) rfl ?_
  refine lv_aload_n hx hb dX1_init_4 rfl (lv_at hl 0 rfl) ?_
  refine lv_bipush (v := 60) hx hb dX1_init_5 (by decide) ?_
  refine xnewa (atype := .int) (ty := .int) (t0 := 0) (a0 := (60, .inl (fun _ => 0))) (nm := "[I") (n := 60) (N' := 60) hx hb rfl wa_int hE hK hP hD hS hA rfl (fun _ h => h) (fun _ => rfl) (by decide) (by decide) (by decide) (Nat.le_of_ble_eq_true rfl) (Nat.le_of_ble_eq_true rfl) dX1_init_7 (fun u0 H hP hD hS => ?_)
  have hP : va_P D vwCl [(h0, .inr (1, [.null, .null, .null, .null, .null, .null, .null, .int 0])), (u0, .inl (k 0, 60, .inl (fun _ => 0)))] H := hP
  have hD : va_D (va_A [(h0, .inr (1, [.null, .null, .null, .null, .null, .null, .null, .int 0]))] s.heap.size) [(h0, .inr (1, [.null, .null, .null, .null, .null, .null, .null, .int 0])), (u0, .inl (k 0, 60, .inl (fun _ => 0)))] := hD
  refine va_putF (D := D) (ci := 1) (v := .ref u0) (ty := (.array .int)) (C := RX1) (T := TX1) (N := 8) hx hb (hwX1 hE) (fun _ h => h) tyX1 tyX1_ok nmX1 hown hK hP hD hS 0 rfl rfl 0 (by decide) (hE _ fl_X1_9 rfl _) (fun _ h9 => h9) rfl hin rfl (by decide +kernel) rfl rfl (Nat.le_of_ble_eq_true rfl) dX1_init_9 (fun H locs hP hD hS => ?_)
  have hP : va_P D vwCl [(h0, .inr (1, [.ref u0, .null, .null, .null, .null, .null, .null, .int 0])), (u0, .inl (k 0, 60, .inl (fun _ => 0)))] H := hP
  have hD : va_D (va_A [(h0, .inr (1, [.null, .null, .null, .null, .null, .null, .null, .int 0]))] s.heap.size) [(h0, .inr (1, [.ref u0, .null, .null, .null, .null, .null, .null, .int 0])), (u0, .inl (k 0, 60, .inl (fun _ => 0)))] := hD
  refine lv_aload_n hx hb dX1_init_12 rfl (lv_at hl 0 rfl) ?_
  refine lv_bipush (v := 60) hx hb dX1_init_13 (by decide) ?_
  refine xnewa (atype := .int) (ty := .int) (t0 := 0) (a0 := (60, .inl (fun _ => 0))) (nm := "[I") (n := 60) (N' := 60) hx hb rfl wa_int hE hK hP hD hS hA rfl (fun _ h => h) (fun _ => rfl) (by decide) (by decide) (by decide) (Nat.le_of_ble_eq_true rfl) (Nat.le_of_ble_eq_true rfl) dX1_init_15 (fun u1 H hP hD hS => ?_)
  have hP : va_P D vwCl [(h0, .inr (1, [.ref u0, .null, .null, .null, .null, .null, .null, .int 0])), (u0, .inl (k 0, 60, .inl (fun _ => 0))), (u1, .inl (k 0, 60, .inl (fun _ => 0)))] H := hP
  have hD : va_D (va_A [(h0, .inr (1, [.null, .null, .null, .null, .null, .null, .null, .int 0]))] s.heap.size) [(h0, .inr (1, [.ref u0, .null, .null, .null, .null, .null, .null, .int 0])), (u0, .inl (k 0, 60, .inl (fun _ => 0))), (u1, .inl (k 0, 60, .inl (fun _ => 0)))] := hD
  refine va_putF (D := D) (ci := 1) (v := .ref u1) (ty := (.array .int)) (C := RX1) (T := TX1) (N := 8) hx hb (hwX1 hE) (fun _ h => h) tyX1 tyX1_ok nmX1 hown hK hP hD hS 0 rfl rfl 1 (by decide) (hE _ fl_X1_15 rfl _) (fun _ h9 => h9) rfl hin rfl (by decide +kernel) rfl rfl (Nat.le_of_ble_eq_true rfl) dX1_init_17 (fun H locs hP hD hS => ?_)
  have hP : va_P D vwCl [(h0, .inr (1, [.ref u0, .ref u1, .null, .null, .null, .null, .null, .int 0])), (u0, .inl (k 0, 60, .inl (fun _ => 0))), (u1, .inl (k 0, 60, .inl (fun _ => 0)))] H := hP
  have hD : va_D (va_A [(h0, .inr (1, [.null, .null, .null, .null, .null, .null, .null, .int 0]))] s.heap.size) [(h0, .inr (1, [.ref u0, .ref u1, .null, .null, .null, .null, .null, .int 0])), (u0, .inl (k 0, 60, .inl (fun _ => 0))), (u1, .inl (k 0, 60, .inl (fun _ => 0)))] := hD
  refine lv_aload_n hx hb dX1_init_20 rfl (lv_at hl 0 rfl) ?_
  refine lv_bipush (v := 60) hx hb dX1_init_21 (by decide) ?_
  refine xnewa (atype := .int) (ty := .int) (t0 := 0) (a0 := (60, .inl (fun _ => 0))) (nm := "[I") (n := 60) (N' := 60) hx hb rfl wa_int hE hK hP hD hS hA rfl (fun _ h => h) (fun _ => rfl) (by decide) (by decide) (by decide) (Nat.le_of_ble_eq_true rfl) (Nat.le_of_ble_eq_true rfl) dX1_init_23 (fun u2 H hP hD hS => ?_)
  have hP : va_P D vwCl [(h0, .inr (1, [.ref u0, .ref u1, .null, .null, .null, .null, .null, .int 0])), (u0, .inl (k 0, 60, .inl (fun _ => 0))), (u1, .inl (k 0, 60, .inl (fun _ => 0))), (u2, .inl (k 0, 60, .inl (fun _ => 0)))] H := hP
  have hD : va_D (va_A [(h0, .inr (1, [.null, .null, .null, .null, .null, .null, .null, .int 0]))] s.heap.size) [(h0, .inr (1, [.ref u0, .ref u1, .null, .null, .null, .null, .null, .int 0])), (u0, .inl (k 0, 60, .inl (fun _ => 0))), (u1, .inl (k 0, 60, .inl (fun _ => 0))), (u2, .inl (k 0, 60, .inl (fun _ => 0)))] := hD
  refine va_putF (D := D) (ci := 1) (v := .ref u2) (ty := (.array .int)) (C := RX1) (T := TX1) (N := 8) hx hb (hwX1 hE) (fun _ h => h) tyX1 tyX1_ok nmX1 hown hK hP hD hS 0 rfl rfl 2 (by decide) (hE _ fl_X1_18 rfl _) (fun _ h9 => h9) rfl hin rfl (by decide +kernel) rfl rfl (Nat.le_of_ble_eq_true rfl) dX1_init_25 (fun H locs hP hD hS => ?_)
  have hP : va_P D vwCl [(h0, .inr (1, [.ref u0, .ref u1, .ref u2, .null, .null, .null, .null, .int 0])), (u0, .inl (k 0, 60, .inl (fun _ => 0))), (u1, .inl (k 0, 60, .inl (fun _ => 0))), (u2, .inl (k 0, 60, .inl (fun _ => 0)))] H := hP
  have hD : va_D (va_A [(h0, .inr (1, [.null, .null, .null, .null, .null, .null, .null, .int 0]))] s.heap.size) [(h0, .inr (1, [.ref u0, .ref u1, .ref u2, .null, .null, .null, .null, .int 0])), (u0, .inl (k 0, 60, .inl (fun _ => 0))), (u1, .inl (k 0, 60, .inl (fun _ => 0))), (u2, .inl (k 0, 60, .inl (fun _ => 0)))] := hD
  refine lv_aload_n hx hb dX1_init_28 rfl (lv_at hl 0 rfl) ?_
  refine lv_bipush (v := 60) hx hb dX1_init_29 (by decide) ?_
  refine xnewa (atype := .int) (ty := .int) (t0 := 0) (a0 := (60, .inl (fun _ => 0))) (nm := "[I") (n := 60) (N' := 60) hx hb rfl wa_int hE hK hP hD hS hA rfl (fun _ h => h) (fun _ => rfl) (by decide) (by decide) (by decide) (Nat.le_of_ble_eq_true rfl) (Nat.le_of_ble_eq_true rfl) dX1_init_31 (fun u3 H hP hD hS => ?_)
  have hP : va_P D vwCl [(h0, .inr (1, [.ref u0, .ref u1, .ref u2, .null, .null, .null, .null, .int 0])), (u0, .inl (k 0, 60, .inl (fun _ => 0))), (u1, .inl (k 0, 60, .inl (fun _ => 0))), (u2, .inl (k 0, 60, .inl (fun _ => 0))), (u3, .inl (k 0, 60, .inl (fun _ => 0)))] H := hP
  have hD : va_D (va_A [(h0, .inr (1, [.null, .null, .null, .null, .null, .null, .null, .int 0]))] s.heap.size) [(h0, .inr (1, [.ref u0, .ref u1, .ref u2, .null, .null, .null, .null, .int 0])), (u0, .inl (k 0, 60, .inl (fun _ => 0))), (u1, .inl (k 0, 60, .inl (fun _ => 0))), (u2, .inl (k 0, 60, .inl (fun _ => 0))), (u3, .inl (k 0, 60, .inl (fun _ => 0)))] := hD
  refine va_putF (D := D) (ci := 1) (v := .ref u3) (ty := (.array .int)) (C := RX1) (T := TX1) (N := 8) hx hb (hwX1 hE) (fun _ h => h) tyX1 tyX1_ok nmX1 hown hK hP hD hS 0 rfl rfl 3 (by decide) (hE _ fl_X1_21 rfl _) (fun _ h9 => h9) rfl hin rfl (by decide +kernel) rfl rfl (Nat.le_of_ble_eq_true rfl) dX1_init_33 (fun H locs hP hD hS => ?_)
  have hP : va_P D vwCl [(h0, .inr (1, [.ref u0, .ref u1, .ref u2, .ref u3, .null, .null, .null, .int 0])), (u0, .inl (k 0, 60, .inl (fun _ => 0))), (u1, .inl (k 0, 60, .inl (fun _ => 0))), (u2, .inl (k 0, 60, .inl (fun _ => 0))), (u3, .inl (k 0, 60, .inl (fun _ => 0)))] H := hP
  have hD : va_D (va_A [(h0, .inr (1, [.null, .null, .null, .null, .null, .null, .null, .int 0]))] s.heap.size) [(h0, .inr (1, [.ref u0, .ref u1, .ref u2, .ref u3, .null, .null, .null, .int 0])), (u0, .inl (k 0, 60, .inl (fun _ => 0))), (u1, .inl (k 0, 60, .inl (fun _ => 0))), (u2, .inl (k 0, 60, .inl (fun _ => 0))), (u3, .inl (k 0, 60, .inl (fun _ => 0)))] := hD
  refine lv_aload_n hx hb dX1_init_36 rfl (lv_at hl 0 rfl) ?_
  refine lv_bipush (v := 60) hx hb dX1_init_37 (by decide) ?_
  refine xnewa (atype := .boolean) (ty := .boolean) (t0 := 1) (a0 := (60, .inl (fun _ => 0))) (nm := "[Z") (n := 60) (N' := 60) hx hb rfl wa_boolean hE hK hP hD hS hA rfl (fun _ h => h) (fun _ => rfl) (by decide) (by decide) (by decide) (Nat.le_of_ble_eq_true rfl) (Nat.le_of_ble_eq_true rfl) dX1_init_39 (fun u4 H hP hD hS => ?_)
  have hP : va_P D vwCl [(h0, .inr (1, [.ref u0, .ref u1, .ref u2, .ref u3, .null, .null, .null, .int 0])), (u0, .inl (k 0, 60, .inl (fun _ => 0))), (u1, .inl (k 0, 60, .inl (fun _ => 0))), (u2, .inl (k 0, 60, .inl (fun _ => 0))), (u3, .inl (k 0, 60, .inl (fun _ => 0))), (u4, .inl (k 1, 60, .inl (fun _ => 0)))] H := hP
  have hD : va_D (va_A [(h0, .inr (1, [.null, .null, .null, .null, .null, .null, .null, .int 0]))] s.heap.size) [(h0, .inr (1, [.ref u0, .ref u1, .ref u2, .ref u3, .null, .null, .null, .int 0])), (u0, .inl (k 0, 60, .inl (fun _ => 0))), (u1, .inl (k 0, 60, .inl (fun _ => 0))), (u2, .inl (k 0, 60, .inl (fun _ => 0))), (u3, .inl (k 0, 60, .inl (fun _ => 0))), (u4, .inl (k 1, 60, .inl (fun _ => 0)))] := hD
  refine va_putF (D := D) (ci := 1) (v := .ref u4) (ty := (.array .boolean)) (C := RX1) (T := TX1) (N := 8) hx hb (hwX1 hE) (fun _ h => h) tyX1 tyX1_ok nmX1 hown hK hP hD hS 0 rfl rfl 4 (by decide) (hE _ fl_X1_24 rfl _) (fun _ h9 => h9) rfl hin rfl (by decide +kernel) rfl rfl (Nat.le_of_ble_eq_true rfl) dX1_init_41 (fun H locs hP hD hS => ?_)
  have hP : va_P D vwCl [(h0, .inr (1, [.ref u0, .ref u1, .ref u2, .ref u3, .ref u4, .null, .null, .int 0])), (u0, .inl (k 0, 60, .inl (fun _ => 0))), (u1, .inl (k 0, 60, .inl (fun _ => 0))), (u2, .inl (k 0, 60, .inl (fun _ => 0))), (u3, .inl (k 0, 60, .inl (fun _ => 0))), (u4, .inl (k 1, 60, .inl (fun _ => 0)))] H := hP
  have hD : va_D (va_A [(h0, .inr (1, [.null, .null, .null, .null, .null, .null, .null, .int 0]))] s.heap.size) [(h0, .inr (1, [.ref u0, .ref u1, .ref u2, .ref u3, .ref u4, .null, .null, .int 0])), (u0, .inl (k 0, 60, .inl (fun _ => 0))), (u1, .inl (k 0, 60, .inl (fun _ => 0))), (u2, .inl (k 0, 60, .inl (fun _ => 0))), (u3, .inl (k 0, 60, .inl (fun _ => 0))), (u4, .inl (k 1, 60, .inl (fun _ => 0)))] := hD
  refine lv_aload_n hx hb dX1_init_44 rfl (lv_at hl 0 rfl) ?_
  refine lv_bipush (v := 60) hx hb dX1_init_45 (by decide) ?_
  refine xnewa (atype := .boolean) (ty := .boolean) (t0 := 1) (a0 := (60, .inl (fun _ => 0))) (nm := "[Z") (n := 60) (N' := 60) hx hb rfl wa_boolean hE hK hP hD hS hA rfl (fun _ h => h) (fun _ => rfl) (by decide) (by decide) (by decide) (Nat.le_of_ble_eq_true rfl) (Nat.le_of_ble_eq_true rfl) dX1_init_47 (fun u5 H hP hD hS => ?_)
  have hP : va_P D vwCl [(h0, .inr (1, [.ref u0, .ref u1, .ref u2, .ref u3, .ref u4, .null, .null, .int 0])), (u0, .inl (k 0, 60, .inl (fun _ => 0))), (u1, .inl (k 0, 60, .inl (fun _ => 0))), (u2, .inl (k 0, 60, .inl (fun _ => 0))), (u3, .inl (k 0, 60, .inl (fun _ => 0))), (u4, .inl (k 1, 60, .inl (fun _ => 0))), (u5, .inl (k 1, 60, .inl (fun _ => 0)))] H := hP
  have hD : va_D (va_A [(h0, .inr (1, [.null, .null, .null, .null, .null, .null, .null, .int 0]))] s.heap.size) [(h0, .inr (1, [.ref u0, .ref u1, .ref u2, .ref u3, .ref u4, .null, .null, .int 0])), (u0, .inl (k 0, 60, .inl (fun _ => 0))), (u1, .inl (k 0, 60, .inl (fun _ => 0))), (u2, .inl (k 0, 60, .inl (fun _ => 0))), (u3, .inl (k 0, 60, .inl (fun _ => 0))), (u4, .inl (k 1, 60, .inl (fun _ => 0))), (u5, .inl (k 1, 60, .inl (fun _ => 0)))] := hD
  refine va_putF (D := D) (ci := 1) (v := .ref u5) (ty := (.array .boolean)) (C := RX1) (T := TX1) (N := 8) hx hb (hwX1 hE) (fun _ h => h) tyX1 tyX1_ok nmX1 hown hK hP hD hS 0 rfl rfl 5 (by decide) (hE _ fl_X1_28 rfl _) (fun _ h9 => h9) rfl hin rfl (by decide +kernel) rfl rfl (Nat.le_of_ble_eq_true rfl) dX1_init_49 (fun H locs hP hD hS => ?_)
  have hP : va_P D vwCl [(h0, .inr (1, [.ref u0, .ref u1, .ref u2, .ref u3, .ref u4, .ref u5, .null, .int 0])), (u0, .inl (k 0, 60, .inl (fun _ => 0))), (u1, .inl (k 0, 60, .inl (fun _ => 0))), (u2, .inl (k 0, 60, .inl (fun _ => 0))), (u3, .inl (k 0, 60, .inl (fun _ => 0))), (u4, .inl (k 1, 60, .inl (fun _ => 0))), (u5, .inl (k 1, 60, .inl (fun _ => 0)))] H := hP
  have hD : va_D (va_A [(h0, .inr (1, [.null, .null, .null, .null, .null, .null, .null, .int 0]))] s.heap.size) [(h0, .inr (1, [.ref u0, .ref u1, .ref u2, .ref u3, .ref u4, .ref u5, .null, .int 0])), (u0, .inl (k 0, 60, .inl (fun _ => 0))), (u1, .inl (k 0, 60, .inl (fun _ => 0))), (u2, .inl (k 0, 60, .inl (fun _ => 0))), (u3, .inl (k 0, 60, .inl (fun _ => 0))), (u4, .inl (k 1, 60, .inl (fun _ => 0))), (u5, .inl (k 1, 60, .inl (fun _ => 0)))] := hD
  refine lv_aload_n hx hb dX1_init_52 rfl (lv_at hl 0 rfl) ?_
  refine lv_bipush (v := 60) hx hb dX1_init_53 (by decide) ?_
  refine xnewa (atype := .int) (ty := .int) (t0 := 0) (a0 := (60, .inl (fun _ => 0))) (nm := "[I") (n := 60) (N' := 60) hx hb rfl wa_int hE hK hP hD hS hA rfl (fun _ h => h) (fun _ => rfl) (by decide) (by decide) (by decide) (Nat.le_of_ble_eq_true rfl) (Nat.le_of_ble_eq_true rfl) dX1_init_55 (fun u6 H hP hD hS => ?_)
  have hP : va_P D vwCl [(h0, .inr (1, [.ref u0, .ref u1, .ref u2, .ref u3, .ref u4, .ref u5, .null, .int 0])), (u0, .inl (k 0, 60, .inl (fun _ => 0))), (u1, .inl (k 0, 60, .inl (fun _ => 0))), (u2, .inl (k 0, 60, .inl (fun _ => 0))), (u3, .inl (k 0, 60, .inl (fun _ => 0))), (u4, .inl (k 1, 60, .inl (fun _ => 0))), (u5, .inl (k 1, 60, .inl (fun _ => 0))), (u6, .inl (k 0, 60, .inl (fun _ => 0)))] H := hP
  have hD : va_D (va_A [(h0, .inr (1, [.null, .null, .null, .null, .null, .null, .null, .int 0]))] s.heap.size) [(h0, .inr (1, [.ref u0, .ref u1, .ref u2, .ref u3, .ref u4, .ref u5, .null, .int 0])), (u0, .inl (k 0, 60, .inl (fun _ => 0))), (u1, .inl (k 0, 60, .inl (fun _ => 0))), (u2, .inl (k 0, 60, .inl (fun _ => 0))), (u3, .inl (k 0, 60, .inl (fun _ => 0))), (u4, .inl (k 1, 60, .inl (fun _ => 0))), (u5, .inl (k 1, 60, .inl (fun _ => 0))), (u6, .inl (k 0, 60, .inl (fun _ => 0)))] := hD
  refine va_putF (D := D) (ci := 1) (v := .ref u6) (ty := (.array .int)) (C := RX1) (T := TX1) (N := 8) hx hb (hwX1 hE) (fun _ h => h) tyX1 tyX1_ok nmX1 hown hK hP hD hS 0 rfl rfl 6 (by decide) (hE _ fl_X1_31 rfl _) (fun _ h9 => h9) rfl hin rfl (by decide +kernel) rfl rfl (Nat.le_of_ble_eq_true rfl) dX1_init_57 (fun H locs hP hD hS => ?_)
  have hP : va_P D vwCl [(h0, .inr (1, [.ref u0, .ref u1, .ref u2, .ref u3, .ref u4, .ref u5, .ref u6, .int 0])), (u0, .inl (k 0, 60, .inl (fun _ => 0))), (u1, .inl (k 0, 60, .inl (fun _ => 0))), (u2, .inl (k 0, 60, .inl (fun _ => 0))), (u3, .inl (k 0, 60, .inl (fun _ => 0))), (u4, .inl (k 1, 60, .inl (fun _ => 0))), (u5, .inl (k 1, 60, .inl (fun _ => 0))), (u6, .inl (k 0, 60, .inl (fun _ => 0)))] H := hP
  have hD : va_D (va_A [(h0, .inr (1, [.null, .null, .null, .null, .null, .null, .null, .int 0]))] s.heap.size) [(h0, .inr (1, [.ref u0, .ref u1, .ref u2, .ref u3, .ref u4, .ref u5, .ref u6, .int 0])), (u0, .inl (k 0, 60, .inl (fun _ => 0))), (u1, .inl (k 0, 60, .inl (fun _ => 0))), (u2, .inl (k 0, 60, .inl (fun _ => 0))), (u3, .inl (k 0, 60, .inl (fun _ => 0))), (u4, .inl (k 1, 60, .inl (fun _ => 0))), (u5, .inl (k 1, 60, .inl (fun _ => 0))), (u6, .inl (k 0, 60, .inl (fun _ => 0)))] := hD
  exact xretk hx hb hr hlocks ⟨u0, u1, u2, u3, u4, u5, u6, hP, hD⟩ hS dX1_init_60
abbrev r_X2_init : Room := { frames := 1, cells := 4, slots := 160, locals := 12 }
set_option maxHeartbeats 8000000 in
set_option maxRecDepth 100000 in
theorem k_X2 (l : Launch) (D : va_G) (k : Nat → ClassId) (sz h0 : Nat) : xMet l yX2_init (.code yX2_init cX2_init 1 none) r_X2_init (xPk D k sz [(h0, .inr (2, [.null, .null, .null, .null, .int 0]))] [.ref h0]) (xQk [(h0, .inr (2, [.null, .null, .null, .null, .int 0]))] (fun H => ∃ (u0 u1 u2 u3 : Nat), va_P D vwCl [(h0, .inr (2, [.ref u0, .ref u1, .ref u2, .ref u3, .int 0])), (u0, .inl (k 0, 40, .inl (fun _ => 0))), (u1, .inl (k 0, 40, .inl (fun _ => 0))), (u2, .inl (k 0, 40, .inl (fun _ => 0))), (u3, .inl (k 1, 40, .inl (fun _ => 0)))] H ∧ va_D (va_A [(h0, .inr (2, [.null, .null, .null, .null, .int 0]))] sz) [(h0, .inr (2, [.ref u0, .ref u1, .ref u2, .ref u3, .int 0])), (u0, .inl (k 0, 40, .inl (fun _ => 0))), (u1, .inl (k 0, 40, .inl (fun _ => 0))), (u2, .inl (k 0, 40, .inl (fun _ => 0))), (u3, .inl (k 1, 40, .inl (fun _ => 0)))])) 4 160 (va_A [(h0, .inr (2, [.null, .null, .null, .null, .int 0]))] sz) := by
  refine xMet.ofW (by decide) ?_
  intro p e s m args below meth c hx hb hml hr hlocks hnm hme hno hv
  obtain ⟨rfl, hsz, hP, hD, hG⟩ := hv
  subst hsz
  have hK := hG.1
  have hE := hG.2.1
  have hown : s.vm.findClass RX2 = some m.cls := findClass_of_methodNamed hnm
  have hin : meth.name = "<init>" := (name_of_methodNamed hnm hme).1
  have hl := lv_entry ([.ref h0]) (n := 1) (Nat.le_of_ble_eq_true rfl)
  rw [lg_entry_eq]
  generalize (lg_sl ([.ref h0]) ++ List.replicate (1 - (lg_sl ([.ref h0])).length) Slot.unset).toArray = ls at hl ⊢
  have hl : lv_has ls 1 [(0, .ref h0)] := hl
  have hD := hD.self (sz := s.heap.size)
  have hS : va_S (va_A [(h0, .inr (2, [.null, .null, .null, .null, .int 0]))] s.heap.size) s.heap s.heap [] := va_S.rf
  have hA : ∀ u, s.heap.size ≤ u → va_A [(h0, .inr (2, [.null, .null, .null, .null, .int 0]))] s.heap.size u := fun u h => Or.inr h
  refine lv_aload_n hx hb dX2_init_0 rfl (lv_at hl 0 rfl) ?_
  refine W.objInit hx hb hown (hE _ ml_X2_3 rfl _) (hE _ wi_obj rfl _) (hE _ wc_obj rfl _) rfl (by rw [hml]; exact hl.1) rfl dX2_init_1 (Nat.le_of_ble_eq_true rfl) (Nat.le_of_ble_eq_true rfl) ?_
  refine W.eq (g2 := F0 m 4 ls []) rfl ?_
  refine lv_aload_n hx hb dX2_init_4 rfl (lv_at hl 0 rfl) ?_
  refine lv_bipush (v := 40) hx hb dX2_init_5 (by decide) ?_
  refine xnewa (atype := .int) (ty := .int) (t0 := 0) (a0 := (40, .inl (fun _ => 0))) (nm := "[I") (n := 40) (N' := 40) hx hb rfl wa_int hE hK hP hD hS hA rfl (fun _ h => h) (fun _ => rfl) (by decide) (by decide) (by decide) (Nat.le_of_ble_eq_true rfl) (Nat.le_of_ble_eq_true rfl) dX2_init_7 (fun u0 H hP hD hS => ?_)
  have hP : va_P D vwCl [(h0, .inr (2, [.null, .null, .null, .null, .int 0])), (u0, .inl (k 0, 40, .inl (fun _ => 0)))] H := hP
  have hD : va_D (va_A [(h0, .inr (2, [.null, .null, .null, .null, .int 0]))] s.heap.size) [(h0, .inr (2, [.null, .null, .null, .null, .int 0])), (u0, .inl (k 0, 40, .inl (fun _ => 0)))] := hD
  refine va_putF (D := D) (ci := 2) (v := .ref u0) (ty := (.array .int)) (C := RX2) (T := TX2) (N := 5) hx hb (hwX2 hE) (fun _ h => h) tyX2 tyX2_ok nmX2 hown hK hP hD hS 0 rfl rfl 0 (by decide) (hE _ fl_X2_9 rfl _) (fun _ h9 => h9) rfl hin rfl (by decide +kernel) rfl rfl (Nat.le_of_ble_eq_true rfl) dX2_init_9 (fun H locs hP hD hS => ?_)
  have hP : va_P D vwCl [(h0, .inr (2, [.ref u0, .null, .null, .null, .int 0])), (u0, .inl (k 0, 40, .inl (fun _ => 0)))] H := hP
  have hD : va_D (va_A [(h0, .inr (2, [.null, .null, .null, .null, .int 0]))] s.heap.size) [(h0, .inr (2, [.ref u0, .null, .null, .null, .int 0])), (u0, .inl (k 0, 40, .inl (fun _ => 0)))] := hD
  refine lv_aload_n hx hb dX2_init_12 rfl (lv_at hl 0 rfl) ?_
  refine lv_bipush (v := 40) hx hb dX2_init_13 (by decide) ?_
  refine xnewa (atype := .int) (ty := .int) (t0 := 0) (a0 := (40, .inl (fun _ => 0))) (nm := "[I") (n := 40) (N' := 40) hx hb rfl wa_int hE hK hP hD hS hA rfl (fun _ h => h) (fun _ => rfl) (by decide) (by decide) (by decide) (Nat.le_of_ble_eq_true rfl) (Nat.le_of_ble_eq_true rfl) dX2_init_15 (fun u1 H hP hD hS => ?_)
  have hP : va_P D vwCl [(h0, .inr (2, [.ref u0, .null, .null, .null, .int 0])), (u0, .inl (k 0, 40, .inl (fun _ => 0))), (u1, .inl (k 0, 40, .inl (fun _ => 0)))] H := hP
  have hD : va_D (va_A [(h0, .inr (2, [.null, .null, .null, .null, .int 0]))] s.heap.size) [(h0, .inr (2, [.ref u0, .null, .null, .null, .int 0])), (u0, .inl (k 0, 40, .inl (fun _ => 0))), (u1, .inl (k 0, 40, .inl (fun _ => 0)))] := hD
  refine va_putF (D := D) (ci := 2) (v := .ref u1) (ty := (.array .int)) (C := RX2) (T := TX2) (N := 5) hx hb (hwX2 hE) (fun _ h => h) tyX2 tyX2_ok nmX2 hown hK hP hD hS 0 rfl rfl 1 (by decide) (hE _ fl_X2_15 rfl _) (fun _ h9 => h9) rfl hin rfl (by decide +kernel) rfl rfl (Nat.le_of_ble_eq_true rfl) dX2_init_17 (fun H locs hP hD hS => ?_)
  have hP : va_P D vwCl [(h0, .inr (2, [.ref u0, .ref u1, .null, .null, .int 0])), (u0, .inl (k 0, 40, .inl (fun _ => 0))), (u1, .inl (k 0, 40, .inl (fun _ => 0)))] H := hP
  have hD : va_D (va_A [(h0, .inr (2, [.null, .null, .null, .null, .int 0]))] s.heap.size) [(h0, .inr (2, [.ref u0, .ref u1, .null, .null, .int 0])), (u0, .inl (k 0, 40, .inl (fun _ => 0))), (u1, .inl (k 0, 40, .inl (fun _ => 0)))] := hD
  refine lv_aload_n hx hb dX2_init_20 rfl (lv_at hl 0 rfl) ?_
  refine lv_bipush (v := 40) hx hb dX2_init_21 (by decide) ?_
  refine xnewa (atype := .int) (ty := .int) (t0 := 0) (a0 := (40, .inl (fun _ => 0))) (nm := "[I") (n := 40) (N' := 40) hx hb rfl wa_int hE hK hP hD hS hA rfl (fun _ h => h) (fun _ => rfl) (by decide) (by decide) (by decide) (Nat.le_of_ble_eq_true rfl) (Nat.le_of_ble_eq_true rfl) dX2_init_23 (fun u2 H hP hD hS => ?_)
  have hP : va_P D vwCl [(h0, .inr (2, [.ref u0, .ref u1, .null, .null, .int 0])), (u0, .inl (k 0, 40, .inl (fun _ => 0))), (u1, .inl (k 0, 40, .inl (fun _ => 0))), (u2, .inl (k 0, 40, .inl (fun _ => 0)))] H := hP
  have hD : va_D (va_A [(h0, .inr (2, [.null, .null, .null, .null, .int 0]))] s.heap.size) [(h0, .inr (2, [.ref u0, .ref u1, .null, .null, .int 0])), (u0, .inl (k 0, 40, .inl (fun _ => 0))), (u1, .inl (k 0, 40, .inl (fun _ => 0))), (u2, .inl (k 0, 40, .inl (fun _ => 0)))] := hD
  refine va_putF (D := D) (ci := 2) (v := .ref u2) (ty := (.array .int)) (C := RX2) (T := TX2) (N := 5) hx hb (hwX2 hE) (fun _ h => h) tyX2 tyX2_ok nmX2 hown hK hP hD hS 0 rfl rfl 2 (by decide) (hE _ fl_X2_18 rfl _) (fun _ h9 => h9) rfl hin rfl (by decide +kernel) rfl rfl (Nat.le_of_ble_eq_true rfl) dX2_init_25 (fun H locs hP hD hS => ?_)
  have hP : va_P D vwCl [(h0, .inr (2, [.ref u0, .ref u1, .ref u2, .null, .int 0])), (u0, .inl (k 0, 40, .inl (fun _ => 0))), (u1, .inl (k 0, 40, .inl (fun _ => 0))), (u2, .inl (k 0, 40, .inl (fun _ => 0)))] H := hP
  have hD : va_D (va_A [(h0, .inr (2, [.null, .null, .null, .null, .int 0]))] s.heap.size) [(h0, .inr (2, [.ref u0, .ref u1, .ref u2, .null, .int 0])), (u0, .inl (k 0, 40, .inl (fun _ => 0))), (u1, .inl (k 0, 40, .inl (fun _ => 0))), (u2, .inl (k 0, 40, .inl (fun _ => 0)))] := hD
  refine lv_aload_n hx hb dX2_init_28 rfl (lv_at hl 0 rfl) ?_
  refine lv_bipush (v := 40) hx hb dX2_init_29 (by decide) ?_
  refine xnewa (atype := .boolean) (ty := .boolean) (t0 := 1) (a0 := (40, .inl (fun _ => 0))) (nm := "[Z") (n := 40) (N' := 40) hx hb rfl wa_boolean hE hK hP hD hS hA rfl (fun _ h => h) (fun _ => rfl) (by decide) (by decide) (by decide) (Nat.le_of_ble_eq_true rfl) (Nat.le_of_ble_eq_true rfl) dX2_init_31 (fun u3 H hP hD hS => ?_)
  have hP : va_P D vwCl [(h0, .inr (2, [.ref u0, .ref u1, .ref u2, .null, .int 0])), (u0, .inl (k 0, 40, .inl (fun _ => 0))), (u1, .inl (k 0, 40, .inl (fun _ => 0))), (u2, .inl (k 0, 40, .inl (fun _ => 0))), (u3, .inl (k 1, 40, .inl (fun _ => 0)))] H := hP
  have hD : va_D (va_A [(h0, .inr (2, [.null, .null, .null, .null, .int 0]))] s.heap.size) [(h0, .inr (2, [.ref u0, .ref u1, .ref u2, .null, .int 0])), (u0, .inl (k 0, 40, .inl (fun _ => 0))), (u1, .inl (k 0, 40, .inl (fun _ => 0))), (u2, .inl (k 0, 40, .inl (fun _ => 0))), (u3, .inl (k 1, 40, .inl (fun _ => 0)))] := hD
  refine va_putF (D := D) (ci := 2) (v := .ref u3) (ty := (.array .boolean)) (C := RX2) (T := TX2) (N := 5) hx hb (hwX2 hE) (fun _ h => h) tyX2 tyX2_ok nmX2 hown hK hP hD hS 0 rfl rfl 3 (by decide) (hE _ fl_X2_21 rfl _) (fun _ h9 => h9) rfl hin rfl (by decide +kernel) rfl rfl (Nat.le_of_ble_eq_true rfl) dX2_init_33 (fun H locs hP hD hS => ?_)
  have hP : va_P D vwCl [(h0, .inr (2, [.ref u0, .ref u1, .ref u2, .ref u3, .int 0])), (u0, .inl (k 0, 40, .inl (fun _ => 0))), (u1, .inl (k 0, 40, .inl (fun _ => 0))), (u2, .inl (k 0, 40, .inl (fun _ => 0))), (u3, .inl (k 1, 40, .inl (fun _ => 0)))] H := hP
  have hD : va_D (va_A [(h0, .inr (2, [.null, .null, .null, .null, .int 0]))] s.heap.size) [(h0, .inr (2, [.ref u0, .ref u1, .ref u2, .ref u3, .int 0])), (u0, .inl (k 0, 40, .inl (fun _ => 0))), (u1, .inl (k 0, 40, .inl (fun _ => 0))), (u2, .inl (k 0, 40, .inl (fun _ => 0))), (u3, .inl (k 1, 40, .inl (fun _ => 0)))] := hD
  exact xretk hx hb hr hlocks ⟨u0, u1, u2, u3, hP, hD⟩ hS dX2_init_36
abbrev r_X3_init : Room := { frames := 1, cells := 3, slots := 720, locals := 23 }
set_option maxHeartbeats 8000000 in
set_option maxRecDepth 100000 in
theorem k_X3 (l : Launch) (D : va_G) (k : Nat → ClassId) (sz h0 : Nat) : xMet l yX3_init (.code yX3_init cX3_init 1 none) r_X3_init (xPk D k sz [(h0, .inr (3, [.null, .null, .null]))] [.ref h0]) (xQk [(h0, .inr (3, [.null, .null, .null]))] (fun H => ∃ (u0 u1 u2 : Nat), va_P D vwCl [(h0, .inr (3, [.ref u0, .ref u1, .ref u2])), (u0, .inl (k 1, 240, .inl (fun _ => 0))), (u1, .inl (k 0, 240, .inl (xfill (fun _ => 0) 240 (-1)))), (u2, .inl (k 0, 240, .inl (xfill (fun _ => 0) 240 (-1))))] H ∧ va_D (va_A [(h0, .inr (3, [.null, .null, .null]))] sz) [(h0, .inr (3, [.ref u0, .ref u1, .ref u2])), (u0, .inl (k 1, 240, .inl (fun _ => 0))), (u1, .inl (k 0, 240, .inl (xfill (fun _ => 0) 240 (-1)))), (u2, .inl (k 0, 240, .inl (xfill (fun _ => 0) 240 (-1))))])) 3 720 (va_A [(h0, .inr (3, [.null, .null, .null]))] sz) := by
  refine xMet.ofW (by decide) ?_
  intro p e s m args below meth c hx hb hml hr hlocks hnm hme hno hv
  obtain ⟨rfl, hsz, hP, hD, hG⟩ := hv
  subst hsz
  have hK := hG.1
  have hE := hG.2.1
  have hown : s.vm.findClass RX3 = some m.cls := findClass_of_methodNamed hnm
  have hin : meth.name = "<init>" := (name_of_methodNamed hnm hme).1
  have hl := lv_entry ([.ref h0]) (n := 1) (Nat.le_of_ble_eq_true rfl)
  rw [lg_entry_eq]
  generalize (lg_sl ([.ref h0]) ++ List.replicate (1 - (lg_sl ([.ref h0])).length) Slot.unset).toArray = ls at hl ⊢
  have hl : lv_has ls 1 [(0, .ref h0)] := hl
  have hD := hD.self (sz := s.heap.size)
  have hS : va_S (va_A [(h0, .inr (3, [.null, .null, .null]))] s.heap.size) s.heap s.heap [] := va_S.rf
  have hA : ∀ u, s.heap.size ≤ u → va_A [(h0, .inr (3, [.null, .null, .null]))] s.heap.size u := fun u h => Or.inr h
  refine lv_aload_n hx hb dX3_init_0 rfl (lv_at hl 0 rfl) ?_
  refine W.objInit hx hb hown (hE _ ml_X3_3 rfl _) (hE _ wi_obj rfl _) (hE _ wc_obj rfl _) rfl (by rw [hml]; exact hl.1) rfl dX3_init_1 (Nat.le_of_ble_eq_true rfl) (Nat.le_of_ble_eq_true rfl) ?_
  refine W.eq (g2 := F0 m 4 ls []) rfl ?_
  refine lv_aload_n hx hb dX3_init_4 rfl (lv_at hl 0 rfl) ?_
  refine lv_sipush (v := 240) hx hb dX3_init_5 (by decide) ?_
  refine xnewa (atype := .boolean) (ty := .boolean) (t0 := 1) (a0 := (240, .inl (fun _ => 0))) (nm := "[Z") (n := 240) (N' := 240) hx hb rfl wa_boolean hE hK hP hD hS hA rfl (fun _ h => h) (fun _ => rfl) (by decide) (by decide) (by decide) (Nat.le_of_ble_eq_true rfl) (Nat.le_of_ble_eq_true rfl) dX3_init_8 (fun u0 H hP hD hS => ?_)
  have hP : va_P D vwCl [(h0, .inr (3, [.null, .null, .null])), (u0, .inl (k 1, 240, .inl (fun _ => 0)))] H := hP
  have hD : va_D (va_A [(h0, .inr (3, [.null, .null, .null]))] s.heap.size) [(h0, .inr (3, [.null, .null, .null])), (u0, .inl (k 1, 240, .inl (fun _ => 0)))] := hD
  refine va_putF (D := D) (ci := 3) (v := .ref u0) (ty := (.array .boolean)) (C := RX3) (T := TX3) (N := 3) hx hb (hwX3 hE) (fun _ h => h) tyX3 tyX3_ok nmX3 hown hK hP hD hS 0 rfl rfl 0 (by decide) (hE _ fl_X3_9 rfl _) (fun _ h9 => h9) rfl hin rfl (by decide +kernel) rfl rfl (Nat.le_of_ble_eq_true rfl) dX3_init_10 (fun H locs hP hD hS => ?_)
  have hP : va_P D vwCl [(h0, .inr (3, [.ref u0, .null, .null])), (u0, .inl (k 1, 240, .inl (fun _ => 0)))] H := hP
  have hD : va_D (va_A [(h0, .inr (3, [.null, .null, .null]))] s.heap.size) [(h0, .inr (3, [.ref u0, .null, .null])), (u0, .inl (k 1, 240, .inl (fun _ => 0)))] := hD
  refine lv_aload_n hx hb dX3_init_13 rfl (lv_at hl 0 rfl) ?_
  refine lv_sipush (v := 240) hx hb dX3_init_14 (by decide) ?_
  refine xnewa (atype := .int) (ty := .int) (t0 := 0) (a0 := (240, .inl (fun _ => 0))) (nm := "[I") (n := 240) (N' := 240) hx hb rfl wa_int hE hK hP hD hS hA rfl (fun _ h => h) (fun _ => rfl) (by decide) (by decide) (by decide) (Nat.le_of_ble_eq_true rfl) (Nat.le_of_ble_eq_true rfl) dX3_init_17 (fun u1 H hP hD hS => ?_)
  have hP : va_P D vwCl [(h0, .inr (3, [.ref u0, .null, .null])), (u0, .inl (k 1, 240, .inl (fun _ => 0))), (u1, .inl (k 0, 240, .inl (fun _ => 0)))] H := hP
  have hD : va_D (va_A [(h0, .inr (3, [.null, .null, .null]))] s.heap.size) [(h0, .inr (3, [.ref u0, .null, .null])), (u0, .inl (k 1, 240, .inl (fun _ => 0))), (u1, .inl (k 0, 240, .inl (fun _ => 0)))] := hD
  refine va_putF (D := D) (ci := 3) (v := .ref u1) (ty := (.array .int)) (C := RX3) (T := TX3) (N := 3) hx hb (hwX3 hE) (fun _ h => h) tyX3 tyX3_ok nmX3 hown hK hP hD hS 0 rfl rfl 1 (by decide) (hE _ fl_X3_15 rfl _) (fun _ h9 => h9) rfl hin rfl (by decide +kernel) rfl rfl (Nat.le_of_ble_eq_true rfl) dX3_init_19 (fun H locs hP hD hS => ?_)
  have hP : va_P D vwCl [(h0, .inr (3, [.ref u0, .ref u1, .null])), (u0, .inl (k 1, 240, .inl (fun _ => 0))), (u1, .inl (k 0, 240, .inl (fun _ => 0)))] H := hP
  have hD : va_D (va_A [(h0, .inr (3, [.null, .null, .null]))] s.heap.size) [(h0, .inr (3, [.ref u0, .ref u1, .null])), (u0, .inl (k 1, 240, .inl (fun _ => 0))), (u1, .inl (k 0, 240, .inl (fun _ => 0)))] := hD
  refine lv_aload_n hx hb dX3_init_22 rfl (lv_at hl 0 rfl) ?_
  refine lv_sipush (v := 240) hx hb dX3_init_23 (by decide) ?_
  refine xnewa (atype := .int) (ty := .int) (t0 := 0) (a0 := (240, .inl (fun _ => 0))) (nm := "[I") (n := 240) (N' := 240) hx hb rfl wa_int hE hK hP hD hS hA rfl (fun _ h => h) (fun _ => rfl) (by decide) (by decide) (by decide) (Nat.le_of_ble_eq_true rfl) (Nat.le_of_ble_eq_true rfl) dX3_init_26 (fun u2 H hP hD hS => ?_)
  have hP : va_P D vwCl [(h0, .inr (3, [.ref u0, .ref u1, .null])), (u0, .inl (k 1, 240, .inl (fun _ => 0))), (u1, .inl (k 0, 240, .inl (fun _ => 0))), (u2, .inl (k 0, 240, .inl (fun _ => 0)))] H := hP
  have hD : va_D (va_A [(h0, .inr (3, [.null, .null, .null]))] s.heap.size) [(h0, .inr (3, [.ref u0, .ref u1, .null])), (u0, .inl (k 1, 240, .inl (fun _ => 0))), (u1, .inl (k 0, 240, .inl (fun _ => 0))), (u2, .inl (k 0, 240, .inl (fun _ => 0)))] := hD
  refine va_putF (D := D) (ci := 3) (v := .ref u2) (ty := (.array .int)) (C := RX3) (T := TX3) (N := 3) hx hb (hwX3 hE) (fun _ h => h) tyX3 tyX3_ok nmX3 hown hK hP hD hS 0 rfl rfl 2 (by decide) (hE _ fl_X3_19 rfl _) (fun _ h9 => h9) rfl hin rfl (by decide +kernel) rfl rfl (Nat.le_of_ble_eq_true rfl) dX3_init_28 (fun H locs hP hD hS => ?_)
  have hP : va_P D vwCl [(h0, .inr (3, [.ref u0, .ref u1, .ref u2])), (u0, .inl (k 1, 240, .inl (fun _ => 0))), (u1, .inl (k 0, 240, .inl (fun _ => 0))), (u2, .inl (k 0, 240, .inl (fun _ => 0)))] H := hP
  have hD : va_D (va_A [(h0, .inr (3, [.null, .null, .null]))] s.heap.size) [(h0, .inr (3, [.ref u0, .ref u1, .ref u2])), (u0, .inl (k 1, 240, .inl (fun _ => 0))), (u1, .inl (k 0, 240, .inl (fun _ => 0))), (u2, .inl (k 0, 240, .inl (fun _ => 0)))] := hD
  refine lv_aload_n hx hb dX3_init_31 rfl (lv_at hl 0 rfl) ?_
  refine va_get (D := D) (ci := 3) (v := .ref u1) (C := RX3) (T := TX3) (N := 3) hx hb (hwX3 hE) (fun _ h => h) hown hK hP 0 rfl rfl 1 (by decide) (hE _ fl_X3_15 rfl _) (fun _ h9 => h9) rfl dX3_init_32 ?_
  refine lv_iconst (v := -1) hx hb dX3_init_35 (by decide) ?_
  refine xgo_k (wc := [(u1, .inl (k 0, 240, .inl (fun _ => 0)))]) (wr := [(h0, .inr (3, [.ref u0, .ref u1, .ref u2])), (u0, .inl (k 1, 240, .inl (fun _ => 0))), (u2, .inl (k 0, 240, .inl (fun _ => 0)))]) (xrunS (As := [.ref u1, .int (-1)]) (rest := []) (xfixm fx_fill hx hb hml hown (by decide) (by decide) (by decide) (by decide)) hE ml_X3_22 wt_fill wc_fill wn_J7 (k_fill l D k _ u1 240 (fun _ => 0) (-1) (by decide)) (xprek (hP.sub [2] rfl) (hD.sub [2] (by decide) rfl) hG) rfl rfl hl.1 rfl (lv_room (Nat.le_of_ble_eq_true rfl)) dX3_init_36) hP hD hS hA [2] [0, 1, 3] rfl rfl (by decide) (by decide) (fun H locs hB hj hS => ?_)
  obtain ⟨hP1, hD1⟩ := hB
  obtain ⟨hP, hD⟩ := hj _ hP1 hD1
  have hP : va_P D vwCl [(h0, .inr (3, [.ref u0, .ref u1, .ref u2])), (u0, .inl (k 1, 240, .inl (fun _ => 0))), (u2, .inl (k 0, 240, .inl (fun _ => 0))), (u1, .inl (k 0, 240, .inl (xfill (fun _ => 0) 240 (-1))))] H := hP
  have hD : va_D (va_A [(h0, .inr (3, [.null, .null, .null]))] s.heap.size) [(h0, .inr (3, [.ref u0, .ref u1, .ref u2])), (u0, .inl (k 1, 240, .inl (fun _ => 0))), (u2, .inl (k 0, 240, .inl (fun _ => 0))), (u1, .inl (k 0, 240, .inl (xfill (fun _ => 0) 240 (-1))))] := hD
  refine lv_aload_n hx hb dX3_init_39 rfl (lv_at hl 0 rfl) ?_
  refine va_get (D := D) (ci := 3) (v := .ref u2) (C := RX3) (T := TX3) (N := 3) hx hb (hwX3 hE) (fun _ h => h) hown hK hP 0 rfl rfl 2 (by decide) (hE _ fl_X3_19 rfl _) (fun _ h9 => h9) rfl dX3_init_40 ?_
  refine lv_iconst (v := -1) hx hb dX3_init_43 (by decide) ?_
  refine xgo_k (wc := [(u2, .inl (k 0, 240, .inl (fun _ => 0)))]) (wr := [(h0, .inr (3, [.ref u0, .ref u1, .ref u2])), (u0, .inl (k 1, 240, .inl (fun _ => 0))), (u1, .inl (k 0, 240, .inl (xfill (fun _ => 0) 240 (-1))))]) (xrunS (As := [.ref u2, .int (-1)]) (rest := []) (xfixm fx_fill hx hb hml hown (by decide) (by decide) (by decide) (by decide)) hE ml_X3_22 wt_fill wc_fill wn_J7 (k_fill l D k _ u2 240 (fun _ => 0) (-1) (by decide)) (xprek (hP.sub [2] rfl) (hD.sub [2] (by decide) rfl) hG) rfl rfl hl.1 rfl (lv_room (Nat.le_of_ble_eq_true rfl)) dX3_init_44) hP hD hS hA [2] [0, 1, 3] rfl rfl (by decide) (by decide) (fun H locs hB hj hS => ?_)
  obtain ⟨hP1, hD1⟩ := hB
  obtain ⟨hP, hD⟩ := hj _ hP1 hD1
  have hP : va_P D vwCl [(h0, .inr (3, [.ref u0, .ref u1, .ref u2])), (u0, .inl (k 1, 240, .inl (fun _ => 0))), (u1, .inl (k 0, 240, .inl (xfill (fun _ => 0) 240 (-1)))), (u2, .inl (k 0, 240, .inl (xfill (fun _ => 0) 240 (-1))))] H := hP
  have hD : va_D (va_A [(h0, .inr (3, [.null, .null, .null]))] s.heap.size) [(h0, .inr (3, [.ref u0, .ref u1, .ref u2])), (u0, .inl (k 1, 240, .inl (fun _ => 0))), (u1, .inl (k 0, 240, .inl (xfill (fun _ => 0) 240 (-1)))), (u2, .inl (k 0, 240, .inl (xfill (fun _ => 0) 240 (-1))))] := hD
  have hP := hP.sub (ws' := [(h0, .inr (3, [.ref u0, .ref u1, .ref u2])), (u0, .inl (k 1, 240, .inl (fun _ => 0))), (u1, .inl (k 0, 240, .inl (xfill (fun _ => 0) 240 (-1)))), (u2, .inl (k 0, 240, .inl (xfill (fun _ => 0) 240 (-1))))]) [0, 1, 2, 3] rfl
  have hD := hD.sub (ws' := [(h0, .inr (3, [.ref u0, .ref u1, .ref u2])), (u0, .inl (k 1, 240, .inl (fun _ => 0))), (u1, .inl (k 0, 240, .inl (xfill (fun _ => 0) 240 (-1)))), (u2, .inl (k 0, 240, .inl (xfill (fun _ => 0) 240 (-1))))]) [0, 1, 2, 3] (by decide) rfl
  exact xretk hx hb hr hlocks ⟨u0, u1, u2, hP, hD⟩ hS dX3_init_47
