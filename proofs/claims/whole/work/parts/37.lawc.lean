set_option maxHeartbeats 4000000 in
set_option maxRecDepth 100000 in
theorem lc_offer {p : Program} {l : Launch} {e : Env} {s : State} {m : MethodId} {args : Array Value} {below : List Frame} {meth : Method} {c : Code} {b0 L i : Nat} {xs : Nat → Int32} {D : va_G} {q : Nat → Nat} {k : Nat → ClassId} {a b : xT} {o : Nat → Int64} {H : Heap} {locs : List Loc} {cells slots : Nat} {Q : State → Prop} (C : xLC p s m c l b0 L xs D k) (hP : va_P D vwCl (xw q k a b o) H) (hD : va_D (fun u => s.heap.size ≤ u) (xw q k a b o)) (hS : va_S (fun u => s.heap.size ≤ u) s.heap H locs) (hi : i + 4 ≤ L) (hc : cells + 1 ≤ 1085) (hs : slots + 6 ≤ 12563) {ls : Array Slot} (hl : lv_has ls 7 [(0, .ref b0), (1, .ref (q 0)), (2, .ref (q 23)), (3, .ref (q 39)), (4, .int (nI i))]) {kc : Int32} {a1 : xT} {o1 : Nat → Int64} (hH : xMet l yL_offer (.codeWith yL_offer cL_offer 6 (some .int) [(0, 12, 15, 13), (0, 12, 19, 28), (0, 12, 23, 15)]) r_L_offer (xPcH D q k H.size a b o [.ref (q 0), .int (xs (i + 1)), .int (xs (i + 2)), .int (xs (i + 3)), .ref (q 39)]) (xQh D q k a b o kc a1 o1) 1 6 (va_A (xw q k a b o) H.size)) {r : Int32} {b1 : xT} (hM : f_X5_offer b (xs (i + 1)) (xs (i + 2)) (xs (i + 3)) = some (r, b1)) (hk : b1.2 0 = kc) (ho : kc = 0 → o1 0 = r.toInt64) (hn : ∀ (H : Heap) (locs : List Loc) (ls : Array Slot), va_P D vwCl (xw q k a1 b1 o1) H → va_D (fun u => s.heap.size ≤ u) (xw q k a1 b1 o1) → va_S (fun u => s.heap.size ≤ u) s.heap H locs → lv_has ls 7 [(0, .ref b0), (1, .ref (q 0)), (2, .ref (q 23)), (3, .ref (q 39)), (4, .int (nI i))] → W p l e room_1 s m args below meth c H locs (cells + 1) (slots + 6) Q (F0 m 1054 ls [])) : W p l e room_1 s m args below meth c H locs cells slots Q (F0 m 679 ls []) := by
  obtain ⟨hx, hb, hml, hown, hX, hbl, hL, hG, hst, hNc, hl0⟩ := C
  have hK := hG.1
  have hE := hG.2.1
  have hA : ∀ u, s.heap.size ≤ u → (fun u => s.heap.size ≤ u) u := fun u h => h
  refine lv_aload_n hx hb dL_law_679 rfl (lv_at hl 1 rfl) ?_
  refine lv_aload_n hx hb dL_law_680 rfl (lv_at hl 0 rfl) ?_
  refine lv_iload hx hb dL_law_681 (lv_at hl 4 rfl) ?_
  refine lv_iconst (v := 1) hx hb dL_law_683 (by decide) ?_
  refine lv_iadd hx hb dL_law_684 ?_
  refine xsc (j := 1) hx hb rfl hX hbl hS (by omega) hL dL_law_685 ?_
  refine lv_aload_n hx hb dL_law_686 rfl (lv_at hl 0 rfl) ?_
  refine lv_iload hx hb dL_law_687 (lv_at hl 4 rfl) ?_
  refine lv_iconst (v := 2) hx hb dL_law_689 (by decide) ?_
  refine lv_iadd hx hb dL_law_690 ?_
  refine xsc (j := 2) hx hb rfl hX hbl hS (by omega) hL dL_law_691 ?_
  refine lv_aload_n hx hb dL_law_692 rfl (lv_at hl 0 rfl) ?_
  refine lv_iload hx hb dL_law_693 (lv_at hl 4 rfl) ?_
  refine lv_iconst (v := 3) hx hb dL_law_695 (by decide) ?_
  refine lv_iadd hx hb dL_law_696 ?_
  refine xsc (j := 3) hx hb rfl hX hbl hS (by omega) hL dL_law_697 ?_
  refine lv_aload_n hx hb dL_law_698 rfl (lv_at hl 3 rfl) ?_
  refine xgo_h (xrunSW (As := [.ref (q 0), .int (xs (i + 1)), .int (xs (i + 2)), .int (xs (i + 3)), .ref (q 39)]) (rest := []) (xfixm (rm := r_L_offer) fx_L_offer hx hb hml hown (by decide) (by decide) hc hs) hE ml_L_112 wt_L_offer wc_L_offer wn_L hH (xpreH hP hD hG hst hNc hS) rfl rfl hl.1 rfl (lv_room (Nat.le_of_ble_eq_true rfl)) dL_law_699) hD hS hA (fun H locs hP hD hS => ?_)
  refine lv_istore (lv' := [(5, .int kc), (0, .ref b0), (1, .ref (q 0)), (2, .ref (q 23)), (3, .ref (q 39)), (4, .int (nI i))]) hx hb dL_law_702 hl (by decide) rfl (fun ls hl => ?_)
  refine lv_aload_n hx hb dL_law_704 rfl (lv_at hl 3 rfl) ?_
  refine lv_aload_n hx hb dL_law_705 rfl (lv_at hl 1 rfl) ?_
  refine lv_iload hx hb dL_law_706 (lv_at hl 5 rfl) ?_
  refine lv_iconst (v := 1) hx hb dL_law_708 (by decide) ?_
  refine lv_iadd hx hb dL_law_709 ?_
  refine xsc (j := 1) hx hb rfl hX hbl hS (by omega) hL dL_law_710 ?_
  refine lv_aload_n hx hb dL_law_711 rfl (lv_at hl 1 rfl) ?_
  refine lv_iload hx hb dL_law_712 (lv_at hl 5 rfl) ?_
  refine lv_iconst (v := 2) hx hb dL_law_714 (by decide) ?_
  refine lv_iadd hx hb dL_law_715 ?_
  refine xsc (j := 2) hx hb rfl hX hbl hS (by omega) hL dL_law_716 ?_
  refine lv_aload_n hx hb dL_law_717 rfl (lv_at hl 1 rfl) ?_
  refine lv_iload hx hb dL_law_718 (lv_at hl 5 rfl) ?_
  refine lv_iconst (v := 3) hx hb dL_law_720 (by decide) ?_
  refine lv_iadd hx hb dL_law_721 ?_
  refine xsc (j := 3) hx hb rfl hX hbl hS (by omega) hL dL_law_722 ?_
  refine xgo_m (v := some (.int r)) (a1 := a1) (b1 := b1) (xrunV (C := RX5) (As := [.int (xs (i + 1)), .int (xs (i + 2)), .int (xs (i + 3))]) (rest := []) (xfixm (rm := r_X5_offer) fx_X5_offer hx hb hml hown (by decide) (by decide) hc hs) hE ml_L_114 wi_X5_offer wz_X5_offer wc_X5_offer wn_X5 (c_X5_offer l D q k _ a1 b o1 (xs (i + 1)) (xs (i + 2)) (xs (i + 3)) _ hM) (va_recv (q := (RX5, TX5, 19)) (ci := 5) (q0 := 23) hK hP rfl rfl) (xprem hP hD hG) rfl rfl hl.1 rfl (lv_room (Nat.le_of_ble_eq_true rfl)) dL_law_723) hD hS hA (fun H locs hP hD hS => ?_)
  refine lv_istore (lv' := [(6, .int r), (5, .int kc), (0, .ref b0), (1, .ref (q 0)), (2, .ref (q 23)), (3, .ref (q 39)), (4, .int (nI i))]) hx hb dL_law_726 hl (by decide) rfl (fun ls hl => ?_)
  refine lv_aload_n hx hb dL_law_728 rfl (lv_at hl 4 rfl) ?_
  refine xgo_r (v := some (.int (b1.2 0))) (xrunV (C := RX5) (As := []) (rest := []) (xfixm (rm := r_X5_thrown) fx_X5_thrown hx hb hml hown (by decide) (by decide) hc hs) hE ml_L_76 wi_X5_thrown wz_X5_thrown wc_X5_thrown wn_X5 (c_X5_thrown l D q k a1 b1 o1 _ rfl) (va_recv (q := (RX5, TX5, 19)) (ci := 5) (q0 := 23) hK hP rfl rfl) (xpre hP hD hG) rfl rfl hl.1 rfl (lv_room (Nat.le_of_ble_eq_true rfl)) dL_law_729) ?_
  refine lv_iload hx hb dL_law_732 (lv_at hl 1 rfl) ?_
  refine lv_icmp_eq hx hb dL_law_734 rfl (fun _ => ?_) (fun h => absurd hk h)
  refine lv_iload hx hb dL_law_739 (lv_at hl 1 rfl) ?_
  refine lv_if_ne hx hb dL_law_741 rfl (fun _ => ?_) (fun hz => ?_)
  · refine lv_goto hx hb dL_law_756 rfl ?_
    exact hn H locs ls hP hD hS (lv_sub hl [2, 3, 4, 5, 6] rfl)
  · refine lv_aload_n hx hb dL_law_744 rfl (lv_at hl 5 rfl) ?_
    refine lv_iconst (v := 0) hx hb dL_law_745 (by decide) ?_
    refine va_lald hx hb hK hP 39 2 rfl rfl xin01 dL_law_746 ?_
    refine lv_iload hx hb dL_law_747 (lv_at hl 0 rfl) ?_
    refine lv_i2l (v := r.toInt64) hx hb dL_law_749 rfl ?_
    refine W.lcmp hx hb dL_law_750 ?_
    refine lv_if_eq hx hb dL_law_751 rfl (fun _ => ?_) (fun h => absurd (xcmp0 (ho hz)) h)
    refine lv_goto hx hb dL_law_756 rfl ?_
    exact hn H locs ls hP hD hS (lv_sub hl [2, 3, 4, 5, 6] rfl)
set_option maxHeartbeats 4000000 in
set_option maxRecDepth 100000 in
theorem lc_drop {p : Program} {l : Launch} {e : Env} {s : State} {m : MethodId} {args : Array Value} {below : List Frame} {meth : Method} {c : Code} {b0 L i : Nat} {xs : Nat → Int32} {D : va_G} {q : Nat → Nat} {k : Nat → ClassId} {a b : xT} {o : Nat → Int64} {H : Heap} {locs : List Loc} {cells slots : Nat} {Q : State → Prop} (C : xLC p s m c l b0 L xs D k) (hP : va_P D vwCl (xw q k a b o) H) (hD : va_D (fun u => s.heap.size ≤ u) (xw q k a b o)) (hS : va_S (fun u => s.heap.size ≤ u) s.heap H locs) (hi : i + 4 ≤ L) (hc : cells + 1 ≤ 1085) (hs : slots + 6 ≤ 12563) {ls : Array Slot} (hl : lv_has ls 7 [(0, .ref b0), (1, .ref (q 0)), (2, .ref (q 23)), (3, .ref (q 39)), (4, .int (nI i))]) {kc : Int32} {a1 : xT} {o1 : Nat → Int64} (hH : xMet l yL_drop (.codeWith yL_drop cL_drop 4 (some .int) [(0, 16, 19, 13)]) r_L_drop (xPcH D q k H.size a b o [.ref (q 0), .int (xs (i + 1)), .ref (q 39)]) (xQh D q k a b o kc a1 o1) 1 6 (va_A (xw q k a b o) H.size)) {r : Int32} {b1 : xT} (hM : f_X5_drop b (xs (i + 1)) = some (r, b1)) (hk : b1.2 0 = kc) (ho : kc = 0 → o1 0 = (if r = 0 then 0 else 1)) (hn : ∀ (H : Heap) (locs : List Loc) (ls : Array Slot), va_P D vwCl (xw q k a1 b1 o1) H → va_D (fun u => s.heap.size ≤ u) (xw q k a1 b1 o1) → va_S (fun u => s.heap.size ≤ u) s.heap H locs → lv_has ls 7 [(0, .ref b0), (1, .ref (q 0)), (2, .ref (q 23)), (3, .ref (q 39)), (4, .int (nI i))] → W p l e room_1 s m args below meth c H locs (cells + 1) (slots + 6) Q (F0 m 1054 ls [])) : W p l e room_1 s m args below meth c H locs cells slots Q (F0 m 759 ls []) := by
  obtain ⟨hx, hb, hml, hown, hX, hbl, hL, hG, hst, hNc, hl0⟩ := C
  have hK := hG.1
  have hE := hG.2.1
  have hA : ∀ u, s.heap.size ≤ u → (fun u => s.heap.size ≤ u) u := fun u h => h
  refine lv_aload_n hx hb dL_law_759 rfl (lv_at hl 1 rfl) ?_
  refine lv_aload_n hx hb dL_law_760 rfl (lv_at hl 0 rfl) ?_
  refine lv_iload hx hb dL_law_761 (lv_at hl 4 rfl) ?_
  refine lv_iconst (v := 1) hx hb dL_law_763 (by decide) ?_
  refine lv_iadd hx hb dL_law_764 ?_
  refine xsc (j := 1) hx hb rfl hX hbl hS (by omega) hL dL_law_765 ?_
  refine lv_aload_n hx hb dL_law_766 rfl (lv_at hl 3 rfl) ?_
  refine xgo_h (xrunSW (As := [.ref (q 0), .int (xs (i + 1)), .ref (q 39)]) (rest := []) (xfixm (rm := r_L_drop) fx_L_drop hx hb hml hown (by decide) (by decide) hc hs) hE ml_L_115 wt_L_drop wc_L_drop wn_L hH (xpreH hP hD hG hst hNc hS) rfl rfl hl.1 rfl (lv_room (Nat.le_of_ble_eq_true rfl)) dL_law_767) hD hS hA (fun H locs hP hD hS => ?_)
  refine lv_istore (lv' := [(5, .int kc), (0, .ref b0), (1, .ref (q 0)), (2, .ref (q 23)), (3, .ref (q 39)), (4, .int (nI i))]) hx hb dL_law_770 hl (by decide) rfl (fun ls hl => ?_)
  refine lv_aload_n hx hb dL_law_772 rfl (lv_at hl 3 rfl) ?_
  refine lv_aload_n hx hb dL_law_773 rfl (lv_at hl 1 rfl) ?_
  refine lv_iload hx hb dL_law_774 (lv_at hl 5 rfl) ?_
  refine lv_iconst (v := 1) hx hb dL_law_776 (by decide) ?_
  refine lv_iadd hx hb dL_law_777 ?_
  refine xsc (j := 1) hx hb rfl hX hbl hS (by omega) hL dL_law_778 ?_
  refine xgo_m (v := some (.int r)) (a1 := a1) (b1 := b1) (xrunV (C := RX5) (As := [.int (xs (i + 1))]) (rest := []) (xfixm (rm := r_X5_drop) fx_X5_drop hx hb hml hown (by decide) (by decide) hc hs) hE ml_L_117 wi_X5_drop wz_X5_drop wc_X5_drop wn_X5 (c_X5_drop l D q k _ a1 b o1 (xs (i + 1)) _ hM) (va_recv (q := (RX5, TX5, 19)) (ci := 5) (q0 := 23) hK hP rfl rfl) (xprem hP hD hG) rfl rfl hl.1 rfl (lv_room (Nat.le_of_ble_eq_true rfl)) dL_law_779) hD hS hA (fun H locs hP hD hS => ?_)
  refine lv_istore (lv' := [(6, .int r), (5, .int kc), (0, .ref b0), (1, .ref (q 0)), (2, .ref (q 23)), (3, .ref (q 39)), (4, .int (nI i))]) hx hb dL_law_782 hl (by decide) rfl (fun ls hl => ?_)
  refine lv_aload_n hx hb dL_law_784 rfl (lv_at hl 4 rfl) ?_
  refine xgo_r (v := some (.int (b1.2 0))) (xrunV (C := RX5) (As := []) (rest := []) (xfixm (rm := r_X5_thrown) fx_X5_thrown hx hb hml hown (by decide) (by decide) hc hs) hE ml_L_76 wi_X5_thrown wz_X5_thrown wc_X5_thrown wn_X5 (c_X5_thrown l D q k a1 b1 o1 _ rfl) (va_recv (q := (RX5, TX5, 19)) (ci := 5) (q0 := 23) hK hP rfl rfl) (xpre hP hD hG) rfl rfl hl.1 rfl (lv_room (Nat.le_of_ble_eq_true rfl)) dL_law_785) ?_
  refine lv_iload hx hb dL_law_788 (lv_at hl 1 rfl) ?_
  refine lv_icmp_eq hx hb dL_law_790 rfl (fun _ => ?_) (fun h => absurd hk h)
  refine lv_iload hx hb dL_law_795 (lv_at hl 1 rfl) ?_
  refine lv_if_ne hx hb dL_law_797 rfl (fun _ => ?_) (fun hz => ?_)
  · refine lv_goto hx hb dL_law_819 rfl ?_
    exact hn H locs ls hP hD hS (lv_sub hl [2, 3, 4, 5, 6] rfl)
  · refine lv_aload_n hx hb dL_law_800 rfl (lv_at hl 5 rfl) ?_
    refine lv_iconst (v := 0) hx hb dL_law_801 (by decide) ?_
    refine va_lald hx hb hK hP 39 2 rfl rfl xin01 dL_law_802 ?_
    refine lv_iload hx hb dL_law_803 (lv_at hl 0 rfl) ?_
    refine lv_if_eq hx hb dL_law_805 rfl (fun hq => ?_) (fun hq => ?_)
    · refine lv_lconst (v := 0) hx hb dL_law_812 (by decide) ?_
      refine W.lcmp hx hb dL_law_813 ?_
      refine lv_if_eq hx hb dL_law_814 rfl (fun _ => ?_) (fun h => absurd (xcmp0 ((ho hz).trans (if_pos hq))) h)
      refine lv_goto hx hb dL_law_819 rfl ?_
      exact hn H locs ls hP hD hS (lv_sub hl [2, 3, 4, 5, 6] rfl)
    · refine lv_lconst (v := 1) hx hb dL_law_808 (by decide) ?_
      refine lv_goto hx hb dL_law_809 rfl ?_
      refine W.lcmp hx hb dL_law_813 ?_
      refine lv_if_eq hx hb dL_law_814 rfl (fun _ => ?_) (fun h => absurd (xcmp0 ((ho hz).trans (if_neg hq))) h)
      refine lv_goto hx hb dL_law_819 rfl ?_
      exact hn H locs ls hP hD hS (lv_sub hl [2, 3, 4, 5, 6] rfl)
set_option maxHeartbeats 4000000 in
set_option maxRecDepth 100000 in
theorem lc_trade {p : Program} {l : Launch} {e : Env} {s : State} {m : MethodId} {args : Array Value} {below : List Frame} {meth : Method} {c : Code} {b0 L i : Nat} {xs : Nat → Int32} {D : va_G} {q : Nat → Nat} {k : Nat → ClassId} {a b : xT} {o : Nat → Int64} {H : Heap} {locs : List Loc} {cells slots : Nat} {Q : State → Prop} (C : xLC p s m c l b0 L xs D k) (hP : va_P D vwCl (xw q k a b o) H) (hD : va_D (fun u => s.heap.size ≤ u) (xw q k a b o)) (hS : va_S (fun u => s.heap.size ≤ u) s.heap H locs) (hi : i + 4 ≤ L) (hc : cells + 1 ≤ 1085) (hs : slots + 6 ≤ 12563) {ls : Array Slot} (hl : lv_has ls 7 [(0, .ref b0), (1, .ref (q 0)), (2, .ref (q 23)), (3, .ref (q 39)), (4, .int (nI i))]) {r : Int32} {a1 b1 : xT} (h4 : f_X4_trade a = some (r, a1)) (h5 : f_X5_trade b = some (r, b1)) (hn : ∀ (H : Heap) (locs : List Loc) (ls : Array Slot), va_P D vwCl (xw q k a1 b1 o) H → va_D (fun u => s.heap.size ≤ u) (xw q k a1 b1 o) → va_S (fun u => s.heap.size ≤ u) s.heap H locs → lv_has ls 7 [(0, .ref b0), (1, .ref (q 0)), (2, .ref (q 23)), (3, .ref (q 39)), (4, .int (nI i))] → W p l e room_1 s m args below meth c H locs cells slots Q (F0 m 1054 ls [])) : W p l e room_1 s m args below meth c H locs cells slots Q (F0 m 822 ls []) := by
  obtain ⟨hx, hb, hml, hown, hX, hbl, hL, hG, hst, hNc, hl0⟩ := C
  have hK := hG.1
  have hE := hG.2.1
  have hA : ∀ u, s.heap.size ≤ u → (fun u => s.heap.size ≤ u) u := fun u h => h
  have hc0 : cells ≤ 1085 := by omega
  have hs0 : slots ≤ 12563 := by omega
  refine lv_aload_n hx hb dL_law_822 rfl (lv_at hl 1 rfl) ?_
  refine xgo_m (v := some (.int r)) (a1 := a1) (b1 := b) (xrunV (C := RX4) (As := []) (rest := []) (xfixm (rm := r_X4_trade) fx_X4_trade hx hb hml hown (by decide) (by decide) hc0 hs0) hE ml_L_118 wi_X4_trade wz_X4_trade wc_X4_trade wn_X4 (c_X4_trade l D q k _ a b o _ h4) (va_recv (q := (RX4, TX4, 4)) (ci := 4) (q0 := 0) hK hP rfl rfl) (xprem hP hD hG) rfl rfl hl.1 rfl (lv_room (Nat.le_of_ble_eq_true rfl)) dL_law_823) hD hS hA (fun H locs hP hD hS => ?_)
  refine lv_aload_n hx hb dL_law_826 rfl (lv_at hl 2 rfl) ?_
  refine xgo_m (v := some (.int r)) (a1 := a1) (b1 := b1) (xrunV (C := RX5) (As := []) (rest := [.int r]) (xfixm (rm := r_X5_trade) fx_X5_trade hx hb hml hown (by decide) (by decide) hc0 hs0) hE ml_L_121 wi_X5_trade wz_X5_trade wc_X5_trade wn_X5 (c_X5_trade l D q k _ a1 b o _ h5) (va_recv (q := (RX5, TX5, 19)) (ci := 5) (q0 := 23) hK hP rfl rfl) (xprem hP hD hG) rfl rfl hl.1 rfl (lv_room (Nat.le_of_ble_eq_true rfl)) dL_law_827) hD hS hA (fun H locs hP hD hS => ?_)
  refine lv_icmp_eq hx hb dL_law_830 rfl (fun _ => ?_) (fun h => absurd rfl h)
  exact hn H locs ls hP hD hS hl
set_option maxHeartbeats 4000000 in
set_option maxRecDepth 100000 in
theorem lc_compress {p : Program} {l : Launch} {e : Env} {s : State} {m : MethodId} {args : Array Value} {below : List Frame} {meth : Method} {c : Code} {b0 L i : Nat} {xs : Nat → Int32} {D : va_G} {q : Nat → Nat} {k : Nat → ClassId} {a b : xT} {o : Nat → Int64} {H : Heap} {locs : List Loc} {cells slots : Nat} {Q : State → Prop} (C : xLC p s m c l b0 L xs D k) (hP : va_P D vwCl (xw q k a b o) H) (hD : va_D (fun u => s.heap.size ≤ u) (xw q k a b o)) (hS : va_S (fun u => s.heap.size ≤ u) s.heap H locs) (hi : i + 4 ≤ L) (hc : cells + 1 ≤ 1085) (hs : slots + 6 ≤ 12563) {ls : Array Slot} (hl : lv_has ls 7 [(0, .ref b0), (1, .ref (q 0)), (2, .ref (q 23)), (3, .ref (q 39)), (4, .int (nI i))]) {r : Int32} {a1 b1 : xT} (h4 : f_X4_compress a = some (r, a1)) (h5 : f_X5_compress b = some (r, b1)) (hn : ∀ (H : Heap) (locs : List Loc) (ls : Array Slot), va_P D vwCl (xw q k a1 b1 o) H → va_D (fun u => s.heap.size ≤ u) (xw q k a1 b1 o) → va_S (fun u => s.heap.size ≤ u) s.heap H locs → lv_has ls 7 [(0, .ref b0), (1, .ref (q 0)), (2, .ref (q 23)), (3, .ref (q 39)), (4, .int (nI i))] → W p l e room_1 s m args below meth c H locs cells slots Q (F0 m 1054 ls [])) : W p l e room_1 s m args below meth c H locs cells slots Q (F0 m 835 ls []) := by
  obtain ⟨hx, hb, hml, hown, hX, hbl, hL, hG, hst, hNc, hl0⟩ := C
  have hK := hG.1
  have hE := hG.2.1
  have hA : ∀ u, s.heap.size ≤ u → (fun u => s.heap.size ≤ u) u := fun u h => h
  have hc0 : cells ≤ 1085 := by omega
  have hs0 : slots ≤ 12563 := by omega
  refine lv_aload_n hx hb dL_law_835 rfl (lv_at hl 1 rfl) ?_
  refine xgo_m (v := some (.int r)) (a1 := a1) (b1 := b) (xrunV (C := RX4) (As := []) (rest := []) (xfixm (rm := r_X4_compress) fx_X4_compress hx hb hml hown (by decide) (by decide) hc0 hs0) hE ml_L_122 wi_X4_compress wz_X4_compress wc_X4_compress wn_X4 (c_X4_compress l D q k _ a b o _ h4) (va_recv (q := (RX4, TX4, 4)) (ci := 4) (q0 := 0) hK hP rfl rfl) (xprem hP hD hG) rfl rfl hl.1 rfl (lv_room (Nat.le_of_ble_eq_true rfl)) dL_law_836) hD hS hA (fun H locs hP hD hS => ?_)
  refine lv_aload_n hx hb dL_law_839 rfl (lv_at hl 2 rfl) ?_
  refine xgo_m (v := some (.int r)) (a1 := a1) (b1 := b1) (xrunV (C := RX5) (As := []) (rest := [.int r]) (xfixm (rm := r_X5_compress) fx_X5_compress hx hb hml hown (by decide) (by decide) hc0 hs0) hE ml_L_125 wi_X5_compress wz_X5_compress wc_X5_compress wn_X5 (c_X5_compress l D q k _ a1 b o _ h5) (va_recv (q := (RX5, TX5, 19)) (ci := 5) (q0 := 23) hK hP rfl rfl) (xprem hP hD hG) rfl rfl hl.1 rfl (lv_room (Nat.le_of_ble_eq_true rfl)) dL_law_840) hD hS hA (fun H locs hP hD hS => ?_)
  refine lv_icmp_eq hx hb dL_law_843 rfl (fun _ => ?_) (fun h => absurd rfl h)
  exact hn H locs ls hP hD hS hl
set_option maxHeartbeats 4000000 in
set_option maxRecDepth 100000 in
theorem lc_gaps {p : Program} {l : Launch} {e : Env} {s : State} {m : MethodId} {args : Array Value} {below : List Frame} {meth : Method} {c : Code} {b0 L i : Nat} {xs : Nat → Int32} {D : va_G} {q : Nat → Nat} {k : Nat → ClassId} {a b : xT} {o : Nat → Int64} {H : Heap} {locs : List Loc} {cells slots : Nat} {Q : State → Prop} (C : xLC p s m c l b0 L xs D k) (hP : va_P D vwCl (xw q k a b o) H) (hD : va_D (fun u => s.heap.size ≤ u) (xw q k a b o)) (hS : va_S (fun u => s.heap.size ≤ u) s.heap H locs) (hi : i + 4 ≤ L) (hc : cells + 1 ≤ 1085) (hs : slots + 6 ≤ 12563) {ls : Array Slot} (hl : lv_has ls 7 [(0, .ref b0), (1, .ref (q 0)), (2, .ref (q 23)), (3, .ref (q 39)), (4, .int (nI i))]) {r : Int32} {b1 : xT} (h4 : f_X4_gaps a = some r) (h5 : f_X5_gaps b = some (r, b1)) (hn : ∀ (H : Heap) (locs : List Loc) (ls : Array Slot), va_P D vwCl (xw q k a b1 o) H → va_D (fun u => s.heap.size ≤ u) (xw q k a b1 o) → va_S (fun u => s.heap.size ≤ u) s.heap H locs → lv_has ls 7 [(0, .ref b0), (1, .ref (q 0)), (2, .ref (q 23)), (3, .ref (q 39)), (4, .int (nI i))] → W p l e room_1 s m args below meth c H locs cells slots Q (F0 m 1054 ls [])) : W p l e room_1 s m args below meth c H locs cells slots Q (F0 m 848 ls []) := by
  obtain ⟨hx, hb, hml, hown, hX, hbl, hL, hG, hst, hNc, hl0⟩ := C
  have hK := hG.1
  have hE := hG.2.1
  have hA : ∀ u, s.heap.size ≤ u → (fun u => s.heap.size ≤ u) u := fun u h => h
  have hc0 : cells ≤ 1085 := by omega
  have hs0 : slots ≤ 12563 := by omega
  refine lv_aload_n hx hb dL_law_848 rfl (lv_at hl 1 rfl) ?_
  refine xgo_r (v := some (.int r)) (xrunV (C := RX4) (As := []) (rest := []) (xfixm (rm := r_X4_gaps) fx_X4_gaps hx hb hml hown (by decide) (by decide) hc0 hs0) hE ml_L_126 wi_X4_gaps wz_X4_gaps wc_X4_gaps wn_X4 (c_X4_gaps l D q k a b o _ h4) (va_recv (q := (RX4, TX4, 4)) (ci := 4) (q0 := 0) hK hP rfl rfl) (xpre hP hD hG) rfl rfl hl.1 rfl (lv_room (Nat.le_of_ble_eq_true rfl)) dL_law_849) ?_
  refine lv_aload_n hx hb dL_law_852 rfl (lv_at hl 2 rfl) ?_
  refine xgo_m (v := some (.int r)) (a1 := a) (b1 := b1) (xrunV (C := RX5) (As := []) (rest := [.int r]) (xfixm (rm := r_X5_gaps) fx_X5_gaps hx hb hml hown (by decide) (by decide) hc0 hs0) hE ml_L_129 wi_X5_gaps wz_X5_gaps wc_X5_gaps wn_X5 (c_X5_gaps l D q k _ a b o _ h5) (va_recv (q := (RX5, TX5, 19)) (ci := 5) (q0 := 23) hK hP rfl rfl) (xprem hP hD hG) rfl rfl hl.1 rfl (lv_room (Nat.le_of_ble_eq_true rfl)) dL_law_853) hD hS hA (fun H locs hP hD hS => ?_)
  refine lv_icmp_eq hx hb dL_law_856 rfl (fun _ => ?_) (fun h => absurd rfl h)
  exact hn H locs ls hP hD hS hl
set_option maxHeartbeats 4000000 in
set_option maxRecDepth 100000 in
theorem lc_delay {p : Program} {l : Launch} {e : Env} {s : State} {m : MethodId} {args : Array Value} {below : List Frame} {meth : Method} {c : Code} {b0 L i : Nat} {xs : Nat → Int32} {D : va_G} {q : Nat → Nat} {k : Nat → ClassId} {a b : xT} {o : Nat → Int64} {H : Heap} {locs : List Loc} {cells slots : Nat} {Q : State → Prop} (C : xLC p s m c l b0 L xs D k) (hP : va_P D vwCl (xw q k a b o) H) (hD : va_D (fun u => s.heap.size ≤ u) (xw q k a b o)) (hS : va_S (fun u => s.heap.size ≤ u) s.heap H locs) (hi : i + 4 ≤ L) (hc : cells + 1 ≤ 1085) (hs : slots + 6 ≤ 12563) {ls : Array Slot} (hl : lv_has ls 7 [(0, .ref b0), (1, .ref (q 0)), (2, .ref (q 23)), (3, .ref (q 39)), (4, .int (nI i))]) {kc : Int32} {a1 : xT} {o1 : Nat → Int64} (hH : xMet l yL_delay (.codeWith yL_delay cL_delay 4 (some .int) [(0, 9, 12, 13)]) r_L_delay (xPcH D q k H.size a b o [.ref (q 0), .int (xs (i + 1)), .ref (q 39)]) (xQh D q k a b o kc a1 o1) 1 6 (va_A (xw q k a b o) H.size)) {r : Int32} {b1 : xT} (hM : f_X5_delay b (xs (i + 1)) = some (r, b1)) (hk : b1.2 0 = kc) (ho : kc = 0 → o1 0 = r.toInt64) (hn : ∀ (H : Heap) (locs : List Loc) (ls : Array Slot), va_P D vwCl (xw q k a1 b1 o1) H → va_D (fun u => s.heap.size ≤ u) (xw q k a1 b1 o1) → va_S (fun u => s.heap.size ≤ u) s.heap H locs → lv_has ls 7 [(0, .ref b0), (1, .ref (q 0)), (2, .ref (q 23)), (3, .ref (q 39)), (4, .int (nI i))] → W p l e room_1 s m args below meth c H locs (cells + 1) (slots + 6) Q (F0 m 1054 ls [])) : W p l e room_1 s m args below meth c H locs cells slots Q (F0 m 861 ls []) := by
  obtain ⟨hx, hb, hml, hown, hX, hbl, hL, hG, hst, hNc, hl0⟩ := C
  have hK := hG.1
  have hE := hG.2.1
  have hA : ∀ u, s.heap.size ≤ u → (fun u => s.heap.size ≤ u) u := fun u h => h
  refine lv_aload_n hx hb dL_law_861 rfl (lv_at hl 1 rfl) ?_
  refine lv_aload_n hx hb dL_law_862 rfl (lv_at hl 0 rfl) ?_
  refine lv_iload hx hb dL_law_863 (lv_at hl 4 rfl) ?_
  refine lv_iconst (v := 1) hx hb dL_law_865 (by decide) ?_
  refine lv_iadd hx hb dL_law_866 ?_
  refine xsc (j := 1) hx hb rfl hX hbl hS (by omega) hL dL_law_867 ?_
  refine lv_aload_n hx hb dL_law_868 rfl (lv_at hl 3 rfl) ?_
  refine xgo_h (xrunSW (As := [.ref (q 0), .int (xs (i + 1)), .ref (q 39)]) (rest := []) (xfixm (rm := r_L_delay) fx_L_delay hx hb hml hown (by decide) (by decide) hc hs) hE ml_L_130 wt_L_delay wc_L_delay wn_L hH (xpreH hP hD hG hst hNc hS) rfl rfl hl.1 rfl (lv_room (Nat.le_of_ble_eq_true rfl)) dL_law_869) hD hS hA (fun H locs hP hD hS => ?_)
  refine lv_istore (lv' := [(5, .int kc), (0, .ref b0), (1, .ref (q 0)), (2, .ref (q 23)), (3, .ref (q 39)), (4, .int (nI i))]) hx hb dL_law_872 hl (by decide) rfl (fun ls hl => ?_)
  refine lv_aload_n hx hb dL_law_874 rfl (lv_at hl 3 rfl) ?_
  refine lv_aload_n hx hb dL_law_875 rfl (lv_at hl 1 rfl) ?_
  refine lv_iload hx hb dL_law_876 (lv_at hl 5 rfl) ?_
  refine lv_iconst (v := 1) hx hb dL_law_878 (by decide) ?_
  refine lv_iadd hx hb dL_law_879 ?_
  refine xsc (j := 1) hx hb rfl hX hbl hS (by omega) hL dL_law_880 ?_
  refine xgo_m (v := some (.int r)) (a1 := a1) (b1 := b1) (xrunV (C := RX5) (As := [.int (xs (i + 1))]) (rest := []) (xfixm (rm := r_X5_delay) fx_X5_delay hx hb hml hown (by decide) (by decide) hc hs) hE ml_L_132 wi_X5_delay wz_X5_delay wc_X5_delay wn_X5 (c_X5_delay l D q k _ a1 b o1 (xs (i + 1)) _ hM) (va_recv (q := (RX5, TX5, 19)) (ci := 5) (q0 := 23) hK hP rfl rfl) (xprem hP hD hG) rfl rfl hl.1 rfl (lv_room (Nat.le_of_ble_eq_true rfl)) dL_law_881) hD hS hA (fun H locs hP hD hS => ?_)
  refine lv_istore (lv' := [(6, .int r), (5, .int kc), (0, .ref b0), (1, .ref (q 0)), (2, .ref (q 23)), (3, .ref (q 39)), (4, .int (nI i))]) hx hb dL_law_884 hl (by decide) rfl (fun ls hl => ?_)
  refine lv_aload_n hx hb dL_law_886 rfl (lv_at hl 4 rfl) ?_
  refine xgo_r (v := some (.int (b1.2 0))) (xrunV (C := RX5) (As := []) (rest := []) (xfixm (rm := r_X5_thrown) fx_X5_thrown hx hb hml hown (by decide) (by decide) hc hs) hE ml_L_76 wi_X5_thrown wz_X5_thrown wc_X5_thrown wn_X5 (c_X5_thrown l D q k a1 b1 o1 _ rfl) (va_recv (q := (RX5, TX5, 19)) (ci := 5) (q0 := 23) hK hP rfl rfl) (xpre hP hD hG) rfl rfl hl.1 rfl (lv_room (Nat.le_of_ble_eq_true rfl)) dL_law_887) ?_
  refine lv_iload hx hb dL_law_890 (lv_at hl 1 rfl) ?_
  refine lv_icmp_eq hx hb dL_law_892 rfl (fun _ => ?_) (fun h => absurd hk h)
  refine lv_iload hx hb dL_law_897 (lv_at hl 1 rfl) ?_
  refine lv_if_ne hx hb dL_law_899 rfl (fun _ => ?_) (fun hz => ?_)
  · refine lv_goto hx hb dL_law_914 rfl ?_
    exact hn H locs ls hP hD hS (lv_sub hl [2, 3, 4, 5, 6] rfl)
  · refine lv_aload_n hx hb dL_law_902 rfl (lv_at hl 5 rfl) ?_
    refine lv_iconst (v := 0) hx hb dL_law_903 (by decide) ?_
    refine va_lald hx hb hK hP 39 2 rfl rfl xin01 dL_law_904 ?_
    refine lv_iload hx hb dL_law_905 (lv_at hl 0 rfl) ?_
    refine lv_i2l (v := r.toInt64) hx hb dL_law_907 rfl ?_
    refine W.lcmp hx hb dL_law_908 ?_
    refine lv_if_eq hx hb dL_law_909 rfl (fun _ => ?_) (fun h => absurd (xcmp0 (ho hz)) h)
    refine lv_goto hx hb dL_law_914 rfl ?_
    exact hn H locs ls hP hD hS (lv_sub hl [2, 3, 4, 5, 6] rfl)
set_option maxHeartbeats 4000000 in
set_option maxRecDepth 100000 in
theorem lc_owned {p : Program} {l : Launch} {e : Env} {s : State} {m : MethodId} {args : Array Value} {below : List Frame} {meth : Method} {c : Code} {b0 L i : Nat} {xs : Nat → Int32} {D : va_G} {q : Nat → Nat} {k : Nat → ClassId} {a b : xT} {o : Nat → Int64} {H : Heap} {locs : List Loc} {cells slots : Nat} {Q : State → Prop} (C : xLC p s m c l b0 L xs D k) (hP : va_P D vwCl (xw q k a b o) H) (hD : va_D (fun u => s.heap.size ≤ u) (xw q k a b o)) (hS : va_S (fun u => s.heap.size ≤ u) s.heap H locs) (hi : i + 4 ≤ L) (hc : cells + 1 ≤ 1085) (hs : slots + 6 ≤ 12563) {ls : Array Slot} (hl : lv_has ls 7 [(0, .ref b0), (1, .ref (q 0)), (2, .ref (q 23)), (3, .ref (q 39)), (4, .int (nI i))]) {kc : Int32} {a1 : xT} {o1 : Nat → Int64} (hH : xMet l yL_owned (.codeWith yL_owned cL_owned 4 (some .int) [(0, 9, 12, 13)]) r_L_owned (xPcH D q k H.size a b o [.ref (q 0), .int (xs (i + 1)), .ref (q 39)]) (xQh D q k a b o kc a1 o1) 1 6 (va_A (xw q k a b o) H.size)) {r : Int32} {b1 : xT} (hM : f_X5_owned b (xs (i + 1)) = some (r, b1)) (hk : b1.2 0 = kc) (ho : kc = 0 → o1 0 = r.toInt64) (hn : ∀ (H : Heap) (locs : List Loc) (ls : Array Slot), va_P D vwCl (xw q k a1 b1 o1) H → va_D (fun u => s.heap.size ≤ u) (xw q k a1 b1 o1) → va_S (fun u => s.heap.size ≤ u) s.heap H locs → lv_has ls 7 [(0, .ref b0), (1, .ref (q 0)), (2, .ref (q 23)), (3, .ref (q 39)), (4, .int (nI i))] → W p l e room_1 s m args below meth c H locs (cells + 1) (slots + 6) Q (F0 m 1054 ls [])) : W p l e room_1 s m args below meth c H locs cells slots Q (F0 m 917 ls []) := by
  obtain ⟨hx, hb, hml, hown, hX, hbl, hL, hG, hst, hNc, hl0⟩ := C
  have hK := hG.1
  have hE := hG.2.1
  have hA : ∀ u, s.heap.size ≤ u → (fun u => s.heap.size ≤ u) u := fun u h => h
  refine lv_aload_n hx hb dL_law_917 rfl (lv_at hl 1 rfl) ?_
  refine lv_aload_n hx hb dL_law_918 rfl (lv_at hl 0 rfl) ?_
  refine lv_iload hx hb dL_law_919 (lv_at hl 4 rfl) ?_
  refine lv_iconst (v := 1) hx hb dL_law_921 (by decide) ?_
  refine lv_iadd hx hb dL_law_922 ?_
  refine xsc (j := 1) hx hb rfl hX hbl hS (by omega) hL dL_law_923 ?_
  refine lv_aload_n hx hb dL_law_924 rfl (lv_at hl 3 rfl) ?_
  refine xgo_h (xrunSW (As := [.ref (q 0), .int (xs (i + 1)), .ref (q 39)]) (rest := []) (xfixm (rm := r_L_owned) fx_L_owned hx hb hml hown (by decide) (by decide) hc hs) hE ml_L_133 wt_L_owned wc_L_owned wn_L hH (xpreH hP hD hG hst hNc hS) rfl rfl hl.1 rfl (lv_room (Nat.le_of_ble_eq_true rfl)) dL_law_925) hD hS hA (fun H locs hP hD hS => ?_)
  refine lv_istore (lv' := [(5, .int kc), (0, .ref b0), (1, .ref (q 0)), (2, .ref (q 23)), (3, .ref (q 39)), (4, .int (nI i))]) hx hb dL_law_928 hl (by decide) rfl (fun ls hl => ?_)
  refine lv_aload_n hx hb dL_law_930 rfl (lv_at hl 3 rfl) ?_
  refine lv_aload_n hx hb dL_law_931 rfl (lv_at hl 1 rfl) ?_
  refine lv_iload hx hb dL_law_932 (lv_at hl 5 rfl) ?_
  refine lv_iconst (v := 1) hx hb dL_law_934 (by decide) ?_
  refine lv_iadd hx hb dL_law_935 ?_
  refine xsc (j := 1) hx hb rfl hX hbl hS (by omega) hL dL_law_936 ?_
  refine xgo_m (v := some (.int r)) (a1 := a1) (b1 := b1) (xrunV (C := RX5) (As := [.int (xs (i + 1))]) (rest := []) (xfixm (rm := r_X5_owned) fx_X5_owned hx hb hml hown (by decide) (by decide) hc hs) hE ml_L_135 wi_X5_owned wz_X5_owned wc_X5_owned wn_X5 (c_X5_owned l D q k _ a1 b o1 (xs (i + 1)) _ hM) (va_recv (q := (RX5, TX5, 19)) (ci := 5) (q0 := 23) hK hP rfl rfl) (xprem hP hD hG) rfl rfl hl.1 rfl (lv_room (Nat.le_of_ble_eq_true rfl)) dL_law_937) hD hS hA (fun H locs hP hD hS => ?_)
  refine lv_istore (lv' := [(6, .int r), (5, .int kc), (0, .ref b0), (1, .ref (q 0)), (2, .ref (q 23)), (3, .ref (q 39)), (4, .int (nI i))]) hx hb dL_law_940 hl (by decide) rfl (fun ls hl => ?_)
  refine lv_aload_n hx hb dL_law_942 rfl (lv_at hl 4 rfl) ?_
  refine xgo_r (v := some (.int (b1.2 0))) (xrunV (C := RX5) (As := []) (rest := []) (xfixm (rm := r_X5_thrown) fx_X5_thrown hx hb hml hown (by decide) (by decide) hc hs) hE ml_L_76 wi_X5_thrown wz_X5_thrown wc_X5_thrown wn_X5 (c_X5_thrown l D q k a1 b1 o1 _ rfl) (va_recv (q := (RX5, TX5, 19)) (ci := 5) (q0 := 23) hK hP rfl rfl) (xpre hP hD hG) rfl rfl hl.1 rfl (lv_room (Nat.le_of_ble_eq_true rfl)) dL_law_943) ?_
  refine lv_iload hx hb dL_law_946 (lv_at hl 1 rfl) ?_
  refine lv_icmp_eq hx hb dL_law_948 rfl (fun _ => ?_) (fun h => absurd hk h)
  refine lv_iload hx hb dL_law_953 (lv_at hl 1 rfl) ?_
  refine lv_if_ne hx hb dL_law_955 rfl (fun _ => ?_) (fun hz => ?_)
  · refine lv_goto hx hb dL_law_970 rfl ?_
    exact hn H locs ls hP hD hS (lv_sub hl [2, 3, 4, 5, 6] rfl)
  · refine lv_aload_n hx hb dL_law_958 rfl (lv_at hl 5 rfl) ?_
    refine lv_iconst (v := 0) hx hb dL_law_959 (by decide) ?_
    refine va_lald hx hb hK hP 39 2 rfl rfl xin01 dL_law_960 ?_
    refine lv_iload hx hb dL_law_961 (lv_at hl 0 rfl) ?_
    refine lv_i2l (v := r.toInt64) hx hb dL_law_963 rfl ?_
    refine W.lcmp hx hb dL_law_964 ?_
    refine lv_if_eq hx hb dL_law_965 rfl (fun _ => ?_) (fun h => absurd (xcmp0 (ho hz)) h)
    refine lv_goto hx hb dL_law_970 rfl ?_
    exact hn H locs ls hP hD hS (lv_sub hl [2, 3, 4, 5, 6] rfl)
set_option maxHeartbeats 4000000 in
set_option maxRecDepth 100000 in
theorem lc_log {p : Program} {l : Launch} {e : Env} {s : State} {m : MethodId} {args : Array Value} {below : List Frame} {meth : Method} {c : Code} {b0 L i : Nat} {xs : Nat → Int32} {D : va_G} {q : Nat → Nat} {k : Nat → ClassId} {a b : xT} {o : Nat → Int64} {H : Heap} {locs : List Loc} {cells slots : Nat} {Q : State → Prop} (C : xLC p s m c l b0 L xs D k) (hP : va_P D vwCl (xw q k a b o) H) (hD : va_D (fun u => s.heap.size ≤ u) (xw q k a b o)) (hS : va_S (fun u => s.heap.size ≤ u) s.heap H locs) (hi : i + 4 ≤ L) (hc : cells + 1 ≤ 1085) (hs : slots + 6 ≤ 12563) {ls : Array Slot} (hl : lv_has ls 7 [(0, .ref b0), (1, .ref (q 0)), (2, .ref (q 23)), (3, .ref (q 39)), (4, .int (nI i))]) {r : Int32} {b1 : xT} (h4 : f_X4_log a = some r) (h5 : f_X5_log b = some (r, b1)) (hn : ∀ (H : Heap) (locs : List Loc) (ls : Array Slot), va_P D vwCl (xw q k a b1 o) H → va_D (fun u => s.heap.size ≤ u) (xw q k a b1 o) → va_S (fun u => s.heap.size ≤ u) s.heap H locs → lv_has ls 7 [(0, .ref b0), (1, .ref (q 0)), (2, .ref (q 23)), (3, .ref (q 39)), (4, .int (nI i))] → W p l e room_1 s m args below meth c H locs cells slots Q (F0 m 1054 ls [])) : W p l e room_1 s m args below meth c H locs cells slots Q (F0 m 973 ls []) := by
  obtain ⟨hx, hb, hml, hown, hX, hbl, hL, hG, hst, hNc, hl0⟩ := C
  have hK := hG.1
  have hE := hG.2.1
  have hA : ∀ u, s.heap.size ≤ u → (fun u => s.heap.size ≤ u) u := fun u h => h
  have hc0 : cells ≤ 1085 := by omega
  have hs0 : slots ≤ 12563 := by omega
  refine lv_aload_n hx hb dL_law_973 rfl (lv_at hl 1 rfl) ?_
  refine xgo_r (v := some (.int r)) (xrunV (C := RX4) (As := []) (rest := []) (xfixm (rm := r_X4_log) fx_X4_log hx hb hml hown (by decide) (by decide) hc0 hs0) hE ml_L_136 wi_X4_log wz_X4_log wc_X4_log wn_X4 (c_X4_log l D q k a b o _ h4) (va_recv (q := (RX4, TX4, 4)) (ci := 4) (q0 := 0) hK hP rfl rfl) (xpre hP hD hG) rfl rfl hl.1 rfl (lv_room (Nat.le_of_ble_eq_true rfl)) dL_law_974) ?_
  refine lv_aload_n hx hb dL_law_977 rfl (lv_at hl 2 rfl) ?_
  refine xgo_m (v := some (.int r)) (a1 := a) (b1 := b1) (xrunV (C := RX5) (As := []) (rest := [.int r]) (xfixm (rm := r_X5_log) fx_X5_log hx hb hml hown (by decide) (by decide) hc0 hs0) hE ml_L_139 wi_X5_log wz_X5_log wc_X5_log wn_X5 (c_X5_log l D q k _ a b o _ h5) (va_recv (q := (RX5, TX5, 19)) (ci := 5) (q0 := 23) hK hP rfl rfl) (xprem hP hD hG) rfl rfl hl.1 rfl (lv_room (Nat.le_of_ble_eq_true rfl)) dL_law_978) hD hS hA (fun H locs hP hD hS => ?_)
  refine lv_icmp_eq hx hb dL_law_981 rfl (fun _ => ?_) (fun h => absurd rfl h)
  exact hn H locs ls hP hD hS hl
set_option maxHeartbeats 4000000 in
set_option maxRecDepth 100000 in
theorem lc_entry {p : Program} {l : Launch} {e : Env} {s : State} {m : MethodId} {args : Array Value} {below : List Frame} {meth : Method} {c : Code} {b0 L i : Nat} {xs : Nat → Int32} {D : va_G} {q : Nat → Nat} {k : Nat → ClassId} {a b : xT} {o : Nat → Int64} {H : Heap} {locs : List Loc} {cells slots : Nat} {Q : State → Prop} (C : xLC p s m c l b0 L xs D k) (hP : va_P D vwCl (xw q k a b o) H) (hD : va_D (fun u => s.heap.size ≤ u) (xw q k a b o)) (hS : va_S (fun u => s.heap.size ≤ u) s.heap H locs) (hi : i + 4 ≤ L) (hc : cells + 1 ≤ 1085) (hs : slots + 6 ≤ 12563) {ls : Array Slot} (hl : lv_has ls 7 [(0, .ref b0), (1, .ref (q 0)), (2, .ref (q 23)), (3, .ref (q 39)), (4, .int (nI i))]) {kc : Int32} {a1 : xT} {o1 : Nat → Int64} (hH : xMet l yL_entry (.codeWith yL_entry cL_entry 5 (some .int) [(0, 10, 13, 64), (0, 10, 17, 13)]) r_L_entry (xPcH D q k H.size a b o [.ref (q 0), .int (xs (i + 1)), .int (xs (i + 2)), .ref (q 39)]) (xQh D q k a b o kc a1 o1) 1 6 (va_A (xw q k a b o) H.size)) {r : Int32} {b1 : xT} (hM : f_X5_entry b (xs (i + 1)) (xs (i + 2)) = some (r, b1)) (hk : b1.2 0 = kc) (ho : kc = 0 → o1 0 = r.toInt64) (hn : ∀ (H : Heap) (locs : List Loc) (ls : Array Slot), va_P D vwCl (xw q k a1 b1 o1) H → va_D (fun u => s.heap.size ≤ u) (xw q k a1 b1 o1) → va_S (fun u => s.heap.size ≤ u) s.heap H locs → lv_has ls 7 [(0, .ref b0), (1, .ref (q 0)), (2, .ref (q 23)), (3, .ref (q 39)), (4, .int (nI i))] → W p l e room_1 s m args below meth c H locs (cells + 1) (slots + 6) Q (F0 m 1054 ls [])) : W p l e room_1 s m args below meth c H locs cells slots Q (F0 m 986 ls []) := by
  obtain ⟨hx, hb, hml, hown, hX, hbl, hL, hG, hst, hNc, hl0⟩ := C
  have hK := hG.1
  have hE := hG.2.1
  have hA : ∀ u, s.heap.size ≤ u → (fun u => s.heap.size ≤ u) u := fun u h => h
  refine lv_aload_n hx hb dL_law_986 rfl (lv_at hl 1 rfl) ?_
  refine lv_aload_n hx hb dL_law_987 rfl (lv_at hl 0 rfl) ?_
  refine lv_iload hx hb dL_law_988 (lv_at hl 4 rfl) ?_
  refine lv_iconst (v := 1) hx hb dL_law_990 (by decide) ?_
  refine lv_iadd hx hb dL_law_991 ?_
  refine xsc (j := 1) hx hb rfl hX hbl hS (by omega) hL dL_law_992 ?_
  refine lv_aload_n hx hb dL_law_993 rfl (lv_at hl 0 rfl) ?_
  refine lv_iload hx hb dL_law_994 (lv_at hl 4 rfl) ?_
  refine lv_iconst (v := 2) hx hb dL_law_996 (by decide) ?_
  refine lv_iadd hx hb dL_law_997 ?_
  refine xsc (j := 2) hx hb rfl hX hbl hS (by omega) hL dL_law_998 ?_
  refine lv_aload_n hx hb dL_law_999 rfl (lv_at hl 3 rfl) ?_
  refine xgo_h (xrunSW (As := [.ref (q 0), .int (xs (i + 1)), .int (xs (i + 2)), .ref (q 39)]) (rest := []) (xfixm (rm := r_L_entry) fx_L_entry hx hb hml hown (by decide) (by decide) hc hs) hE ml_L_140 wt_L_entry wc_L_entry wn_L hH (xpreH hP hD hG hst hNc hS) rfl rfl hl.1 rfl (lv_room (Nat.le_of_ble_eq_true rfl)) dL_law_1000) hD hS hA (fun H locs hP hD hS => ?_)
  refine lv_istore (lv' := [(5, .int kc), (0, .ref b0), (1, .ref (q 0)), (2, .ref (q 23)), (3, .ref (q 39)), (4, .int (nI i))]) hx hb dL_law_1003 hl (by decide) rfl (fun ls hl => ?_)
  refine lv_aload_n hx hb dL_law_1005 rfl (lv_at hl 3 rfl) ?_
  refine lv_aload_n hx hb dL_law_1006 rfl (lv_at hl 1 rfl) ?_
  refine lv_iload hx hb dL_law_1007 (lv_at hl 5 rfl) ?_
  refine lv_iconst (v := 1) hx hb dL_law_1009 (by decide) ?_
  refine lv_iadd hx hb dL_law_1010 ?_
  refine xsc (j := 1) hx hb rfl hX hbl hS (by omega) hL dL_law_1011 ?_
  refine lv_aload_n hx hb dL_law_1012 rfl (lv_at hl 1 rfl) ?_
  refine lv_iload hx hb dL_law_1013 (lv_at hl 5 rfl) ?_
  refine lv_iconst (v := 2) hx hb dL_law_1015 (by decide) ?_
  refine lv_iadd hx hb dL_law_1016 ?_
  refine xsc (j := 2) hx hb rfl hX hbl hS (by omega) hL dL_law_1017 ?_
  refine xgo_m (v := some (.int r)) (a1 := a1) (b1 := b1) (xrunV (C := RX5) (As := [.int (xs (i + 1)), .int (xs (i + 2))]) (rest := []) (xfixm (rm := r_X5_entry) fx_X5_entry hx hb hml hown (by decide) (by decide) hc hs) hE ml_L_142 wi_X5_entry wz_X5_entry wc_X5_entry wn_X5 (c_X5_entry l D q k _ a1 b o1 (xs (i + 1)) (xs (i + 2)) _ hM) (va_recv (q := (RX5, TX5, 19)) (ci := 5) (q0 := 23) hK hP rfl rfl) (xprem hP hD hG) rfl rfl hl.1 rfl (lv_room (Nat.le_of_ble_eq_true rfl)) dL_law_1018) hD hS hA (fun H locs hP hD hS => ?_)
  refine lv_istore (lv' := [(6, .int r), (5, .int kc), (0, .ref b0), (1, .ref (q 0)), (2, .ref (q 23)), (3, .ref (q 39)), (4, .int (nI i))]) hx hb dL_law_1021 hl (by decide) rfl (fun ls hl => ?_)
  refine lv_aload_n hx hb dL_law_1023 rfl (lv_at hl 4 rfl) ?_
  refine xgo_r (v := some (.int (b1.2 0))) (xrunV (C := RX5) (As := []) (rest := []) (xfixm (rm := r_X5_thrown) fx_X5_thrown hx hb hml hown (by decide) (by decide) hc hs) hE ml_L_76 wi_X5_thrown wz_X5_thrown wc_X5_thrown wn_X5 (c_X5_thrown l D q k a1 b1 o1 _ rfl) (va_recv (q := (RX5, TX5, 19)) (ci := 5) (q0 := 23) hK hP rfl rfl) (xpre hP hD hG) rfl rfl hl.1 rfl (lv_room (Nat.le_of_ble_eq_true rfl)) dL_law_1024) ?_
  refine lv_iload hx hb dL_law_1027 (lv_at hl 1 rfl) ?_
  refine lv_icmp_eq hx hb dL_law_1029 rfl (fun _ => ?_) (fun h => absurd hk h)
  refine lv_iload hx hb dL_law_1034 (lv_at hl 1 rfl) ?_
  refine lv_if_ne hx hb dL_law_1036 rfl (fun _ => ?_) (fun hz => ?_)
  · refine lv_goto hx hb dL_law_1051 rfl ?_
    exact hn H locs ls hP hD hS (lv_sub hl [2, 3, 4, 5, 6] rfl)
  · refine lv_aload_n hx hb dL_law_1039 rfl (lv_at hl 5 rfl) ?_
    refine lv_iconst (v := 0) hx hb dL_law_1040 (by decide) ?_
    refine va_lald hx hb hK hP 39 2 rfl rfl xin01 dL_law_1041 ?_
    refine lv_iload hx hb dL_law_1042 (lv_at hl 0 rfl) ?_
    refine lv_i2l (v := r.toInt64) hx hb dL_law_1044 rfl ?_
    refine W.lcmp hx hb dL_law_1045 ?_
    refine lv_if_eq hx hb dL_law_1046 rfl (fun _ => ?_) (fun h => absurd (xcmp0 (ho hz)) h)
    refine lv_goto hx hb dL_law_1051 rfl ?_
    exact hn H locs ls hP hD hS (lv_sub hl [2, 3, 4, 5, 6] rfl)
