set_option maxHeartbeats 16000000 in
set_option maxRecDepth 100000 in
theorem whole_start {G : xT → xT → Prop} (hAg : xAg G) {p : Program} {e : Env} {s : State} {m : MethodId} {below : List Frame} {meth : Method} {c : Code} (l : Launch) (hl0 : l.stackTraces = false) {b L : Nat} {xs : Nat → Int32} (hL : L ≤ 2048) (C0 : lw_At p s m meth c b L xs) : W p l e room_1 s m #[Value.ref b] below meth c s.heap [] 0 0 (lw_Z below #[Value.ref b] s) (entryFrame m ([Value.ref b] : List Value).toArray 7) := by
  obtain ⟨hx, hb, hr, hml, hown, hts, hX, hbl, hlk, hgv⟩ := C0
  obtain ⟨D, k, hG, hst, hNc, hNw⟩ := xknow hts hgv
  have hK := hG.1
  have hE := hG.2.1
  have hGk : xGk D k s := ⟨hK, hE, hNw⟩
  have hown : s.vm.findClass RL = some m.cls := hown
  have C : xLC p s m c l b L xs D k := ⟨hx, hb, hml, hown, hX, hbl, Nat.lt_of_le_of_lt hL (by decide), hG, hst, hNc, hl0⟩
  have hl := lv_entry ([.ref b]) (n := 7) (Nat.le_of_ble_eq_true rfl)
  rw [lg_entry_eq]
  generalize (lg_sl ([.ref b]) ++ List.replicate (7 - (lg_sl ([.ref b])).length) Slot.unset).toArray = ls at hl ⊢
  have hl : lv_has ls 7 [(0, .ref b)] := hl
  have hS : va_S (fun u => s.heap.size ≤ u) s.heap s.heap [] := va_S.rf
  have hA : ∀ u, s.heap.size ≤ u → (fun u => s.heap.size ≤ u) u := fun u h => h
  have hP : va_P D vwCl [] s.heap := fun z q h => by cases h
  have hD : va_D (fun u => s.heap.size ≤ u) [] := ⟨(fun i j p q h => by cases h), (fun z q h => by cases h)⟩
  refine va_new (ci := 4) (fs := [.null, .null, .null, .null]) (C := RX4) (T := TX4) (N := 4) hx hb (hwX4 hE) (fun _ h => h) tyX4 tyX4_ok hown (hE _ kl_L_8 rfl _) (hE _ wb_X4 rfl _) (hE _ wn_X4 rfl _) hK hP hD hS hA rfl (fun j hj => by rcases (show j = 0 ∨ j = 1 ∨ j = 2 ∨ j = 3 by omega) with rfl | rfl | rfl | rfl <;> rfl) (Nat.le_of_ble_eq_true rfl) (Nat.le_of_ble_eq_true rfl) dL_law_0 (fun h0 H hP hD hS => ?_)
  have hP : va_P D vwCl [(h0, .inr (4, [.null, .null, .null, .null]))] H := hP
  have hD : va_D (fun u => s.heap.size ≤ u) [(h0, .inr (4, [.null, .null, .null, .null]))] := hD
  refine lv_dup hx hb dL_law_3 rfl ?_
  refine xgo_k (wc := [(h0, .inr (4, [.null, .null, .null, .null]))]) (wr := []) (xrunI (As := []) (rest := [.ref h0]) (xfixm (rm := r_X4_init) fx_X4_init hx hb hml hown (by decide) (by decide) (Nat.le_of_ble_eq_true rfl) (Nat.le_of_ble_eq_true rfl)) hE ml_L_66 wi_X4_init wc_X4_init wn_X4 rfl (k_X4 l D k _ h0) (xprek (hP.sub [0] rfl) (hD.sub [0] (by decide) rfl) hGk) rfl rfl hl.1 rfl (lv_room (Nat.le_of_ble_eq_true rfl)) dL_law_4) hP hD hS hA [0] [] rfl rfl (by decide) (by decide) (fun H locs hB hj hS => ?_)
  obtain ⟨r1, e1, hP1, hD1⟩ := hB
  obtain ⟨hP2, hD2⟩ := hj _ hP1 hD1
  subst e1
  have hP : va_P D vwCl (xwA r1 k xi0) H := hP2
  have hD : va_D (fun u => s.heap.size ≤ u) (xwA r1 k xi0) := hD2
  refine lv_astore_n (lv' := [(1, .ref (r1 0)), (0, .ref b)]) hx hb dL_law_7 rfl hl (by decide) rfl (fun ls hl => ?_)
  refine va_new (ci := 5) (fs := [.int 0, .null, .null, .null, .int 0, .null, .null, .null, .null, .null, .null, .null, .int 0, .null, .null, .null, .null, .int 0, .null]) (C := RX5) (T := TX5) (N := 19) hx hb (hwX5 hE) (fun _ h => h) tyX5 tyX5_ok hown (hE _ kl_L_67 rfl _) (hE _ wb_X5 rfl _) (hE _ wn_X5 rfl _) hK hP hD hS hA rfl (fun j hj => by rcases (show j = 0 ∨ j = 1 ∨ j = 2 ∨ j = 3 ∨ j = 4 ∨ j = 5 ∨ j = 6 ∨ j = 7 ∨ j = 8 ∨ j = 9 ∨ j = 10 ∨ j = 11 ∨ j = 12 ∨ j = 13 ∨ j = 14 ∨ j = 15 ∨ j = 16 ∨ j = 17 ∨ j = 18 by omega) with rfl | rfl | rfl | rfl | rfl | rfl | rfl | rfl | rfl | rfl | rfl | rfl | rfl | rfl | rfl | rfl | rfl | rfl | rfl <;> rfl) (Nat.le_of_ble_eq_true rfl) (Nat.le_of_ble_eq_true rfl) dL_law_8 (fun h1 H hP hD hS => ?_)
  have hP : va_P D vwCl (xwA r1 k xi0 ++ [(h1, .inr (5, [.int 0, .null, .null, .null, .int 0, .null, .null, .null, .null, .null, .null, .null, .int 0, .null, .null, .null, .null, .int 0, .null]))]) H := hP
  have hD : va_D (fun u => s.heap.size ≤ u) (xwA r1 k xi0 ++ [(h1, .inr (5, [.int 0, .null, .null, .null, .int 0, .null, .null, .null, .null, .null, .null, .null, .int 0, .null, .null, .null, .null, .int 0, .null]))]) := hD
  refine lv_dup hx hb dL_law_11 rfl ?_
  refine xgo_k (wc := [(h1, .inr (5, [.int 0, .null, .null, .null, .int 0, .null, .null, .null, .null, .null, .null, .null, .int 0, .null, .null, .null, .null, .int 0, .null]))]) (wr := xwA r1 k xi0) (xrunI (As := []) (rest := [.ref h1]) (xfixm (rm := r_X5_init) fx_X5_init hx hb hml hown (by decide) (by decide) (Nat.le_of_ble_eq_true rfl) (Nat.le_of_ble_eq_true rfl)) hE ml_L_69 wi_X5_init wc_X5_init wn_X5 rfl (k_X5 l D k _ h1) (xprek (hP.sub [23] rfl) (hD.sub [23] (by decide) rfl) hGk) rfl rfl hl.1 rfl (lv_room (Nat.le_of_ble_eq_true rfl)) dL_law_12) hP hD hS hA [23] [0, 1, 2, 3, 4, 5, 6, 7, 8, 9, 10, 11, 12, 13, 14, 15, 16, 17, 18, 19, 20, 21, 22] rfl rfl (by decide) (by decide) (fun H locs hB hj hS => ?_)
  obtain ⟨r2, e2, hP1, hD1⟩ := hB
  obtain ⟨hP3, hD3⟩ := hj _ hP1 hD1
  subst e2
  have hP := hP3
  have hD := hD3
  refine lv_astore_n (lv' := [(2, .ref (r2 23)), (1, .ref (r1 0)), (0, .ref b)]) hx hb dL_law_15 rfl hl (by decide) rfl (fun ls hl => ?_)
  refine lv_iconst (v := 1) hx hb dL_law_16 (by decide) ?_
  refine xnewa (n := 1) (atype := .long) (t0 := 2) (ty := .long) (kc := k 2) (nm := "[J") (N' := 1) (a0 := (1, .inr (.inl (fun _ => 0)))) hx hb rfl wa_long hE hK hP hD hS hA rfl (fun u h => h) (fun _ => rfl) (by decide) (by decide) (by decide) (Nat.le_of_ble_eq_true rfl) (Nat.le_of_ble_eq_true rfl) dL_law_17 (fun u H hP hD hS => ?_)
  have hP : va_P D vwCl (xw (fun i => if i < 23 then r1 i else if i < 39 then r2 i else u) k xi0 xi0 (fun _ => 0)) H := hP
  have hD : va_D (fun u => s.heap.size ≤ u) (xw (fun i => if i < 23 then r1 i else if i < 39 then r2 i else u) k xi0 xi0 (fun _ => 0)) := hD
  refine lv_astore_n (lv' := [(3, .ref u), (2, .ref (r2 23)), (1, .ref (r1 0)), (0, .ref b)]) hx hb dL_law_19 rfl hl (by decide) rfl (fun ls hl => ?_)
  refine lv_iconst (v := nI 0) hx hb dL_law_20 (by decide) ?_
  refine lv_istore (lv' := [(4, .int (nI 0)), (3, .ref u), (2, .ref (r2 23)), (1, .ref (r1 0)), (0, .ref b)]) hx hb dL_law_21 hl (by decide) rfl (fun ls hl => ?_)
  exact lw_loop (q := (fun i => if i < 23 then r1 i else if i < 39 then r2 i else u)) hAg C hL hr hlk 512 0 xi0 xi0 (fun _ => 0) H locs _ _ ls (by omega) (by omega) (by decide) (by decide) hAg.1 hP hD hS (lv_sub hl [4, 3, 2, 1, 0] rfl)
