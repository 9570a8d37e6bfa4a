set_option maxHeartbeats 4000000 in
set_option maxRecDepth 100000 in
theorem lc_rate {p : Program} {l : Launch} {e : Env} {s : State} {m : MethodId} {args : Array Value} {below : List Frame} {meth : Method} {c : Code} {b0 L i : Nat} {xs : Nat → Int32} {D : va_G} {q : Nat → Nat} {k : Nat → ClassId} {a b : xT} {o : Nat → Int64} {H : Heap} {locs : List Loc} {cells slots : Nat} {Q : State → Prop} (C : xLC p s m c l b0 L xs D k) (hP : va_P D vwCl (xw q k a b o) H) (hD : va_D (fun u => s.heap.size ≤ u) (xw q k a b o)) (hS : va_S (fun u => s.heap.size ≤ u) s.heap H locs) (hi : i + 4 ≤ L) (hc : cells + 1 ≤ 1085) (hs : slots + 6 ≤ 12563) {ls : Array Slot} (hl : lv_has ls 7 [(0, .ref b0), (1, .ref (q 0)), (2, .ref (q 23)), (3, .ref (q 39)), (4, .int (nI i))]) {kc : Int32} {a1 : xT} {o1 : Nat → Int64} (hH : xMet l yL_rate (.codeWith yL_rate cL_rate 5 (some .int) [(0, 10, 13, 13), (0, 10, 17, 15)]) r_L_rate (xPcH D q k H.size a b o [.ref (q 0), .int (xs (i + 1)), .int (xs (i + 2)), .ref (q 39)]) (xQh D q k a b o kc a1 o1) 1 6 (va_A (xw q k a b o) H.size)) {r : Int32} {b1 : xT} (hM : f_X5_rate b (xs (i + 1)) (xs (i + 2)) = some (r, b1)) (hk : b1.2 0 = kc) (ho : kc = 0 → o1 0 = r.toInt64) (hn : ∀ (H : Heap) (locs : List Loc) (ls : Array Slot), va_P D vwCl (xw q k a1 b1 o1) H → va_D (fun u => s.heap.size ≤ u) (xw q k a1 b1 o1) → va_S (fun u => s.heap.size ≤ u) s.heap H locs → lv_has ls 7 [(0, .ref b0), (1, .ref (q 0)), (2, .ref (q 23)), (3, .ref (q 39)), (4, .int (nI i))] → W p l e room_1 s m args below meth c H locs (cells + 1) (slots + 6) Q (F0 m 1054 ls [])) : W p l e room_1 s m args below meth c H locs cells slots Q (F0 m 128 ls []) := by
  obtain ⟨hx, hb, hml, hown, hX, hbl, hL, hG, hst, hNc, hl0⟩ := C
  have hK := hG.1
  have hE := hG.2.1
  have hA : ∀ u, s.heap.size ≤ u → (fun u => s.heap.size ≤ u) u := fun u h => h
  refine lv_aload_n hx hb dL_law_128 rfl (lv_at hl 1 rfl) ?_
  refine lv_aload_n hx hb dL_law_129 rfl (lv_at hl 0 rfl) ?_
  refine lv_iload hx hb dL_law_130 (lv_at hl 4 rfl) ?_
  refine lv_iconst (v := 1) hx hb dL_law_132 (by decide) ?_
  refine lv_iadd hx hb dL_law_133 ?_
  refine xsc (j := 1) hx hb rfl hX hbl hS (by omega) hL dL_law_134 ?_
  refine lv_aload_n hx hb dL_law_135 rfl (lv_at hl 0 rfl) ?_
  refine lv_iload hx hb dL_law_136 (lv_at hl 4 rfl) ?_
  refine lv_iconst (v := 2) hx hb dL_law_138 (by decide) ?_
  refine lv_iadd hx hb dL_law_139 ?_
  refine xsc (j := 2) hx hb rfl hX hbl hS (by omega) hL dL_law_140 ?_
  refine lv_aload_n hx hb dL_law_141 rfl (lv_at hl 3 rfl) ?_
  refine xgo_h (xrunSW (As := [.ref (q 0), .int (xs (i + 1)), .int (xs (i + 2)), .ref (q 39)]) (rest := []) (xfixm (rm := r_L_rate) fx_L_rate hx hb hml hown (by decide) (by decide) hc hs) hE ml_L_70 wt_L_rate wc_L_rate wn_L hH (xpreH hP hD hG hst hNc hS) rfl rfl hl.1 rfl (lv_room (Nat.le_of_ble_eq_true rfl)) dL_law_142) hD hS hA (fun H locs hP hD hS => ?_)
  refine lv_istore (lv' := [(5, .int kc), (0, .ref b0), (1, .ref (q 0)), (2, .ref (q 23)), (3, .ref (q 39)), (4, .int (nI i))]) hx hb dL_law_145 hl (by decide) rfl (fun ls hl => ?_)
  refine lv_aload_n hx hb dL_law_147 rfl (lv_at hl 3 rfl) ?_
  refine lv_aload_n hx hb dL_law_148 rfl (lv_at hl 1 rfl) ?_
  refine lv_iload hx hb dL_law_149 (lv_at hl 5 rfl) ?_
  refine lv_iconst (v := 1) hx hb dL_law_151 (by decide) ?_
  refine lv_iadd hx hb dL_law_152 ?_
  refine xsc (j := 1) hx hb rfl hX hbl hS (by omega) hL dL_law_153 ?_
  refine lv_aload_n hx hb dL_law_154 rfl (lv_at hl 1 rfl) ?_
  refine lv_iload hx hb dL_law_155 (lv_at hl 5 rfl) ?_
  refine lv_iconst (v := 2) hx hb dL_law_157 (by decide) ?_
  refine lv_iadd hx hb dL_law_158 ?_
  refine xsc (j := 2) hx hb rfl hX hbl hS (by omega) hL dL_law_159 ?_
  refine xgo_m (v := some (.int r)) (a1 := a1) (b1 := b1) (xrunV (C := RX5) (As := [.int (xs (i + 1)), .int (xs (i + 2))]) (rest := []) (xfixm (rm := r_X5_rate) fx_X5_rate hx hb hml hown (by decide) (by decide) hc hs) hE ml_L_75 wi_X5_rate wz_X5_rate wc_X5_rate wn_X5 (c_X5_rate l D q k _ a1 b o1 (xs (i + 1)) (xs (i + 2)) _ hM) (va_recv (q := (RX5, TX5, 19)) (ci := 5) (q0 := 23) hK hP rfl rfl) (xprem hP hD hG) rfl rfl hl.1 rfl (lv_room (Nat.le_of_ble_eq_true rfl)) dL_law_160) hD hS hA (fun H locs hP hD hS => ?_)
  refine lv_istore (lv' := [(6, .int r), (5, .int kc), (0, .ref b0), (1, .ref (q 0)), (2, .ref (q 23)), (3, .ref (q 39)), (4, .int (nI i))]) hx hb dL_law_163 hl (by decide) rfl (fun ls hl => ?_)
  refine lv_aload_n hx hb dL_law_165 rfl (lv_at hl 4 rfl) ?_
  refine xgo_r (v := some (.int (b1.2 0))) (xrunV (C := RX5) (As := []) (rest := []) (xfixm (rm := r_X5_thrown) fx_X5_thrown hx hb hml hown (by decide) (by decide) hc hs) hE ml_L_76 wi_X5_thrown wz_X5_thrown wc_X5_thrown wn_X5 (c_X5_thrown l D q k a1 b1 o1 _ rfl) (va_recv (q := (RX5, TX5, 19)) (ci := 5) (q0 := 23) hK hP rfl rfl) (xpre hP hD hG) rfl rfl hl.1 rfl (lv_room (Nat.le_of_ble_eq_true rfl)) dL_law_166) ?_
  refine lv_iload hx hb dL_law_169 (lv_at hl 1 rfl) ?_
  refine lv_icmp_eq hx hb dL_law_171 rfl (fun _ => ?_) (fun h => absurd hk h)
  refine lv_iload hx hb dL_law_176 (lv_at hl 1 rfl) ?_
  refine lv_if_ne hx hb dL_law_178 rfl (fun _ => ?_) (fun hz => ?_)
  · refine lv_goto hx hb dL_law_193 rfl ?_
    exact hn H locs ls hP hD hS (lv_sub hl [2, 3, 4, 5, 6] rfl)
  · refine lv_aload_n hx hb dL_law_181 rfl (lv_at hl 5 rfl) ?_
    refine lv_iconst (v := 0) hx hb dL_law_182 (by decide) ?_
    refine va_lald hx hb hK hP 39 2 rfl rfl xin01 dL_law_183 ?_
    refine lv_iload hx hb dL_law_184 (lv_at hl 0 rfl) ?_
    refine lv_i2l (v := r.toInt64) hx hb dL_law_186 rfl ?_
    refine W.lcmp hx hb dL_law_187 ?_
    refine lv_if_eq hx hb dL_law_188 rfl (fun _ => ?_) (fun h => absurd (xcmp0 (ho hz)) h)
    refine lv_goto hx hb dL_law_193 rfl ?_
    exact hn H locs ls hP hD hS (lv_sub hl [2, 3, 4, 5, 6] rfl)
set_option maxHeartbeats 4000000 in
set_option maxRecDepth 100000 in
theorem lc_flight {p : Program} {l : Launch} {e : Env} {s : State} {m : MethodId} {args : Array Value} {below : List Frame} {meth : Method} {c : Code} {b0 L i : Nat} {xs : Nat → Int32} {D : va_G} {q : Nat → Nat} {k : Nat → ClassId} {a b : xT} {o : Nat → Int64} {H : Heap} {locs : List Loc} {cells slots : Nat} {Q : State → Prop} (C : xLC p s m c l b0 L xs D k) (hP : va_P D vwCl (xw q k a b o) H) (hD : va_D (fun u => s.heap.size ≤ u) (xw q k a b o)) (hS : va_S (fun u => s.heap.size ≤ u) s.heap H locs) (hi : i + 4 ≤ L) (hc : cells + 1 ≤ 1085) (hs : slots + 6 ≤ 12563) {ls : Array Slot} (hl : lv_has ls 7 [(0, .ref b0), (1, .ref (q 0)), (2, .ref (q 23)), (3, .ref (q 39)), (4, .int (nI i))]) {kc : Int32} {a1 : xT} {o1 : Nat → Int64} (hH : xMet l yL_flight (.codeWith yL_flight cL_flight 6 (some .int) [(0, 12, 15, 13), (0, 12, 19, 15)]) r_L_flight (xPcH D q k H.size a b o [.ref (q 0), .int (xs (i + 1)), .int (xs (i + 2)), .int (xs (i + 3)), .ref (q 39)]) (xQh D q k a b o kc a1 o1) 1 6 (va_A (xw q k a b o) H.size)) {r : Int32} {b1 : xT} (hM : f_X5_flight b (xs (i + 1)) (xs (i + 2)) (xs (i + 3)) = some (r, b1)) (hk : b1.2 0 = kc) (ho : kc = 0 → o1 0 = r.toInt64) (hn : ∀ (H : Heap) (locs : List Loc) (ls : Array Slot), va_P D vwCl (xw q k a1 b1 o1) H → va_D (fun u => s.heap.size ≤ u) (xw q k a1 b1 o1) → va_S (fun u => s.heap.size ≤ u) s.heap H locs → lv_has ls 7 [(0, .ref b0), (1, .ref (q 0)), (2, .ref (q 23)), (3, .ref (q 39)), (4, .int (nI i))] → W p l e room_1 s m args below meth c H locs (cells + 1) (slots + 6) Q (F0 m 1054 ls [])) : W p l e room_1 s m args below meth c H locs cells slots Q (F0 m 196 ls []) := by
  obtain ⟨hx, hb, hml, hown, hX, hbl, hL, hG, hst, hNc, hl0⟩ := C
  have hK := hG.1
  have hE := hG.2.1
  have hA : ∀ u, s.heap.size ≤ u → (fun u => s.heap.size ≤ u) u := fun u h => h
  refine lv_aload_n hx hb dL_law_196 rfl (lv_at hl 1 rfl) ?_
  refine lv_aload_n hx hb dL_law_197 rfl (lv_at hl 0 rfl) ?_
  refine lv_iload hx hb dL_law_198 (lv_at hl 4 rfl) ?_
  refine lv_iconst (v := 1) hx hb dL_law_200 (by decide) ?_
  refine lv_iadd hx hb dL_law_201 ?_
  refine xsc (j := 1) hx hb rfl hX hbl hS (by omega) hL dL_law_202 ?_
  refine lv_aload_n hx hb dL_law_203 rfl (lv_at hl 0 rfl) ?_
  refine lv_iload hx hb dL_law_204 (lv_at hl 4 rfl) ?_
  refine lv_iconst (v := 2) hx hb dL_law_206 (by decide) ?_
  refine lv_iadd hx hb dL_law_207 ?_
  refine xsc (j := 2) hx hb rfl hX hbl hS (by omega) hL dL_law_208 ?_
  refine lv_aload_n hx hb dL_law_209 rfl (lv_at hl 0 rfl) ?_
  refine lv_iload hx hb dL_law_210 (lv_at hl 4 rfl) ?_
  refine lv_iconst (v := 3) hx hb dL_law_212 (by decide) ?_
  refine lv_iadd hx hb dL_law_213 ?_
  refine xsc (j := 3) hx hb rfl hX hbl hS (by omega) hL dL_law_214 ?_
  refine lv_aload_n hx hb dL_law_215 rfl (lv_at hl 3 rfl) ?_
  refine xgo_h (xrunSW (As := [.ref (q 0), .int (xs (i + 1)), .int (xs (i + 2)), .int (xs (i + 3)), .ref (q 39)]) (rest := []) (xfixm (rm := r_L_flight) fx_L_flight hx hb hml hown (by decide) (by decide) hc hs) hE ml_L_80 wt_L_flight wc_L_flight wn_L hH (xpreH hP hD hG hst hNc hS) rfl rfl hl.1 rfl (lv_room (Nat.le_of_ble_eq_true rfl)) dL_law_216) hD hS hA (fun H locs hP hD hS => ?_)
  refine lv_istore (lv' := [(5, .int kc), (0, .ref b0), (1, .ref (q 0)), (2, .ref (q 23)), (3, .ref (q 39)), (4, .int (nI i))]) hx hb dL_law_219 hl (by decide) rfl (fun ls hl => ?_)
  refine lv_aload_n hx hb dL_law_221 rfl (lv_at hl 3 rfl) ?_
  refine lv_aload_n hx hb dL_law_222 rfl (lv_at hl 1 rfl) ?_
  refine lv_iload hx hb dL_law_223 (lv_at hl 5 rfl) ?_
  refine lv_iconst (v := 1) hx hb dL_law_225 (by decide) ?_
  refine lv_iadd hx hb dL_law_226 ?_
  refine xsc (j := 1) hx hb rfl hX hbl hS (by omega) hL dL_law_227 ?_
  refine lv_aload_n hx hb dL_law_228 rfl (lv_at hl 1 rfl) ?_
  refine lv_iload hx hb dL_law_229 (lv_at hl 5 rfl) ?_
  refine lv_iconst (v := 2) hx hb dL_law_231 (by decide) ?_
  refine lv_iadd hx hb dL_law_232 ?_
  refine xsc (j := 2) hx hb rfl hX hbl hS (by omega) hL dL_law_233 ?_
  refine lv_aload_n hx hb dL_law_234 rfl (lv_at hl 1 rfl) ?_
  refine lv_iload hx hb dL_law_235 (lv_at hl 5 rfl) ?_
  refine lv_iconst (v := 3) hx hb dL_law_237 (by decide) ?_
  refine lv_iadd hx hb dL_law_238 ?_
  refine xsc (j := 3) hx hb rfl hX hbl hS (by omega) hL dL_law_239 ?_
  refine xgo_m (v := some (.int r)) (a1 := a1) (b1 := b1) (xrunV (C := RX5) (As := [.int (xs (i + 1)), .int (xs (i + 2)), .int (xs (i + 3))]) (rest := []) (xfixm (rm := r_X5_flight) fx_X5_flight hx hb hml hown (by decide) (by decide) hc hs) hE ml_L_83 wi_X5_flight wz_X5_flight wc_X5_flight wn_X5 (c_X5_flight l D q k _ a1 b o1 (xs (i + 1)) (xs (i + 2)) (xs (i + 3)) _ hM) (va_recv (q := (RX5, TX5, 19)) (ci := 5) (q0 := 23) hK hP rfl rfl) (xprem hP hD hG) rfl rfl hl.1 rfl (lv_room (Nat.le_of_ble_eq_true rfl)) dL_law_240) hD hS hA (fun H locs hP hD hS => ?_)
  refine lv_istore (lv' := [(6, .int r), (5, .int kc), (0, .ref b0), (1, .ref (q 0)), (2, .ref (q 23)), (3, .ref (q 39)), (4, .int (nI i))]) hx hb dL_law_243 hl (by decide) rfl (fun ls hl => ?_)
  refine lv_aload_n hx hb dL_law_245 rfl (lv_at hl 4 rfl) ?_
  refine xgo_r (v := some (.int (b1.2 0))) (xrunV (C := RX5) (As := []) (rest := []) (xfixm (rm := r_X5_thrown) fx_X5_thrown hx hb hml hown (by decide) (by decide) hc hs) hE ml_L_76 wi_X5_thrown wz_X5_thrown wc_X5_thrown wn_X5 (c_X5_thrown l D q k a1 b1 o1 _ rfl) (va_recv (q := (RX5, TX5, 19)) (ci := 5) (q0 := 23) hK hP rfl rfl) (xpre hP hD hG) rfl rfl hl.1 rfl (lv_room (Nat.le_of_ble_eq_true rfl)) dL_law_246) ?_
  refine lv_iload hx hb dL_law_249 (lv_at hl 1 rfl) ?_
  refine lv_icmp_eq hx hb dL_law_251 rfl (fun _ => ?_) (fun h => absurd hk h)
  refine lv_iload hx hb dL_law_256 (lv_at hl 1 rfl) ?_
  refine lv_if_ne hx hb dL_law_258 rfl (fun _ => ?_) (fun hz => ?_)
  · refine lv_goto hx hb dL_law_273 rfl ?_
    exact hn H locs ls hP hD hS (lv_sub hl [2, 3, 4, 5, 6] rfl)
  · refine lv_aload_n hx hb dL_law_261 rfl (lv_at hl 5 rfl) ?_
    refine lv_iconst (v := 0) hx hb dL_law_262 (by decide) ?_
    refine va_lald hx hb hK hP 39 2 rfl rfl xin01 dL_law_263 ?_
    refine lv_iload hx hb dL_law_264 (lv_at hl 0 rfl) ?_
    refine lv_i2l (v := r.toInt64) hx hb dL_law_266 rfl ?_
    refine W.lcmp hx hb dL_law_267 ?_
    refine lv_if_eq hx hb dL_law_268 rfl (fun _ => ?_) (fun h => absurd (xcmp0 (ho hz)) h)
    refine lv_goto hx hb dL_law_273 rfl ?_
    exact hn H locs ls hP hD hS (lv_sub hl [2, 3, 4, 5, 6] rfl)
set_option maxHeartbeats 4000000 in
set_option maxRecDepth 100000 in
theorem lc_ration {p : Program} {l : Launch} {e : Env} {s : State} {m : MethodId} {args : Array Value} {below : List Frame} {meth : Method} {c : Code} {b0 L i : Nat} {xs : Nat → Int32} {D : va_G} {q : Nat → Nat} {k : Nat → ClassId} {a b : xT} {o : Nat → Int64} {H : Heap} {locs : List Loc} {cells slots : Nat} {Q : State → Prop} (C : xLC p s m c l b0 L xs D k) (hP : va_P D vwCl (xw q k a b o) H) (hD : va_D (fun u => s.heap.size ≤ u) (xw q k a b o)) (hS : va_S (fun u => s.heap.size ≤ u) s.heap H locs) (hi : i + 4 ≤ L) (hc : cells + 1 ≤ 1085) (hs : slots + 6 ≤ 12563) {ls : Array Slot} (hl : lv_has ls 7 [(0, .ref b0), (1, .ref (q 0)), (2, .ref (q 23)), (3, .ref (q 39)), (4, .int (nI i))]) {r : Int32} {a1 b1 : xT} (h4 : f_X4_ration a = some (r, a1)) (h5 : f_X5_ration b = some (r, b1)) (hn : ∀ (H : Heap) (locs : List Loc) (ls : Array Slot), va_P D vwCl (xw q k a1 b1 o) H → va_D (fun u => s.heap.size ≤ u) (xw q k a1 b1 o) → va_S (fun u => s.heap.size ≤ u) s.heap H locs → lv_has ls 7 [(0, .ref b0), (1, .ref (q 0)), (2, .ref (q 23)), (3, .ref (q 39)), (4, .int (nI i))] → W p l e room_1 s m args below meth c H locs cells slots Q (F0 m 1054 ls [])) : W p l e room_1 s m args below meth c H locs cells slots Q (F0 m 276 ls []) := by
  obtain ⟨hx, hb, hml, hown, hX, hbl, hL, hG, hst, hNc, hl0⟩ := C
  have hK := hG.1
  have hE := hG.2.1
  have hA : ∀ u, s.heap.size ≤ u → (fun u => s.heap.size ≤ u) u := fun u h => h
  have hc0 : cells ≤ 1085 := by omega
  have hs0 : slots ≤ 12563 := by omega
  refine lv_aload_n hx hb dL_law_276 rfl (lv_at hl 1 rfl) ?_
  refine xgo_m (v := some (.int r)) (a1 := a1) (b1 := b) (xrunV (C := RX4) (As := []) (rest := []) (xfixm (rm := r_X4_ration) fx_X4_ration hx hb hml hown (by decide) (by decide) hc0 hs0) hE ml_L_84 wi_X4_ration wz_X4_ration wc_X4_ration wn_X4 (c_X4_ration l D q k _ a b o _ h4) (va_recv (q := (RX4, TX4, 4)) (ci := 4) (q0 := 0) hK hP rfl rfl) (xprem hP hD hG) rfl rfl hl.1 rfl (lv_room (Nat.le_of_ble_eq_true rfl)) dL_law_277) hD hS hA (fun H locs hP hD hS => ?_)
  refine lv_aload_n hx hb dL_law_280 rfl (lv_at hl 2 rfl) ?_
  refine xgo_m (v := some (.int r)) (a1 := a1) (b1 := b1) (xrunV (C := RX5) (As := []) (rest := [.int r]) (xfixm (rm := r_X5_ration) fx_X5_ration hx hb hml hown (by decide) (by decide) hc0 hs0) hE ml_L_87 wi_X5_ration wz_X5_ration wc_X5_ration wn_X5 (c_X5_ration l D q k _ a1 b o _ h5) (va_recv (q := (RX5, TX5, 19)) (ci := 5) (q0 := 23) hK hP rfl rfl) (xprem hP hD hG) rfl rfl hl.1 rfl (lv_room (Nat.le_of_ble_eq_true rfl)) dL_law_281) hD hS hA (fun H locs hP hD hS => ?_)
  refine lv_icmp_eq hx hb dL_law_284 rfl (fun _ => ?_) (fun h => absurd rfl h)
  exact hn H locs ls hP hD hS hl
set_option maxHeartbeats 4000000 in
set_option maxRecDepth 100000 in
theorem lc_slotOf {p : Program} {l : Launch} {e : Env} {s : State} {m : MethodId} {args : Array Value} {below : List Frame} {meth : Method} {c : Code} {b0 L i : Nat} {xs : Nat → Int32} {D : va_G} {q : Nat → Nat} {k : Nat → ClassId} {a b : xT} {o : Nat → Int64} {H : Heap} {locs : List Loc} {cells slots : Nat} {Q : State → Prop} (C : xLC p s m c l b0 L xs D k) (hP : va_P D vwCl (xw q k a b o) H) (hD : va_D (fun u => s.heap.size ≤ u) (xw q k a b o)) (hS : va_S (fun u => s.heap.size ≤ u) s.heap H locs) (hi : i + 4 ≤ L) (hc : cells + 1 ≤ 1085) (hs : slots + 6 ≤ 12563) {ls : Array Slot} (hl : lv_has ls 7 [(0, .ref b0), (1, .ref (q 0)), (2, .ref (q 23)), (3, .ref (q 39)), (4, .int (nI i))]) {kc : Int32} {a1 : xT} {o1 : Nat → Int64} (hH : xMet l yL_slotOf (.codeWith yL_slotOf cL_slotOf 4 (some .int) [(0, 9, 12, 13)]) r_L_slotOf (xPcH D q k H.size a b o [.ref (q 0), .int (xs (i + 1)), .ref (q 39)]) (xQh D q k a b o kc a1 o1) 1 6 (va_A (xw q k a b o) H.size)) {r : Int32} {b1 : xT} (hM : f_X5_slotOf b (xs (i + 1)) = some (r, b1)) (hk : b1.2 0 = kc) (ho : kc = 0 → o1 0 = r.toInt64) (hn : ∀ (H : Heap) (locs : List Loc) (ls : Array Slot), va_P D vwCl (xw q k a1 b1 o1) H → va_D (fun u => s.heap.size ≤ u) (xw q k a1 b1 o1) → va_S (fun u => s.heap.size ≤ u) s.heap H locs → lv_has ls 7 [(0, .ref b0), (1, .ref (q 0)), (2, .ref (q 23)), (3, .ref (q 39)), (4, .int (nI i))] → W p l e room_1 s m args below meth c H locs (cells + 1) (slots + 6) Q (F0 m 1054 ls [])) : W p l e room_1 s m args below meth c H locs cells slots Q (F0 m 289 ls []) := by
  obtain ⟨hx, hb, hml, hown, hX, hbl, hL, hG, hst, hNc, hl0⟩ := C
  have hK := hG.1
  have hE := hG.2.1
  have hA : ∀ u, s.heap.size ≤ u → (fun u => s.heap.size ≤ u) u := fun u h => h
  refine lv_aload_n hx hb dL_law_289 rfl (lv_at hl 1 rfl) ?_
  refine lv_aload_n hx hb dL_law_290 rfl (lv_at hl 0 rfl) ?_
  refine lv_iload hx hb dL_law_291 (lv_at hl 4 rfl) ?_
  refine lv_iconst (v := 1) hx hb dL_law_293 (by decide) ?_
  refine lv_iadd hx hb dL_law_294 ?_
  refine xsc (j := 1) hx hb rfl hX hbl hS (by omega) hL dL_law_295 ?_
  refine lv_aload_n hx hb dL_law_296 rfl (lv_at hl 3 rfl) ?_
  refine xgo_h (xrunSW (As := [.ref (q 0), .int (xs (i + 1)), .ref (q 39)]) (rest := []) (xfixm (rm := r_L_slotOf) fx_L_slotOf hx hb hml hown (by decide) (by decide) hc hs) hE ml_L_88 wt_L_slotOf wc_L_slotOf wn_L hH (xpreH hP hD hG hst hNc hS) rfl rfl hl.1 rfl (lv_room (Nat.le_of_ble_eq_true rfl)) dL_law_297) hD hS hA (fun H locs hP hD hS => ?_)
  refine lv_istore (lv' := [(5, .int kc), (0, .ref b0), (1, .ref (q 0)), (2, .ref (q 23)), (3, .ref (q 39)), (4, .int (nI i))]) hx hb dL_law_300 hl (by decide) rfl (fun ls hl => ?_)
  refine lv_aload_n hx hb dL_law_302 rfl (lv_at hl 3 rfl) ?_
  refine lv_aload_n hx hb dL_law_303 rfl (lv_at hl 1 rfl) ?_
  refine lv_iload hx hb dL_law_304 (lv_at hl 5 rfl) ?_
  refine lv_iconst (v := 1) hx hb dL_law_306 (by decide) ?_
  refine lv_iadd hx hb dL_law_307 ?_
  refine xsc (j := 1) hx hb rfl hX hbl hS (by omega) hL dL_law_308 ?_
  refine xgo_m (v := some (.int r)) (a1 := a1) (b1 := b1) (xrunV (C := RX5) (As := [.int (xs (i + 1))]) (rest := []) (xfixm (rm := r_X5_slotOf) fx_X5_slotOf hx hb hml hown (by decide) (by decide) hc hs) hE ml_L_91 wi_X5_slotOf wz_X5_slotOf wc_X5_slotOf wn_X5 (c_X5_slotOf l D q k _ a1 b o1 (xs (i + 1)) _ hM) (va_recv (q := (RX5, TX5, 19)) (ci := 5) (q0 := 23) hK hP rfl rfl) (xprem hP hD hG) rfl rfl hl.1 rfl (lv_room (Nat.le_of_ble_eq_true rfl)) dL_law_309) hD hS hA (fun H locs hP hD hS => ?_)
  refine lv_istore (lv' := [(6, .int r), (5, .int kc), (0, .ref b0), (1, .ref (q 0)), (2, .ref (q 23)), (3, .ref (q 39)), (4, .int (nI i))]) hx hb dL_law_312 hl (by decide) rfl (fun ls hl => ?_)
  refine lv_aload_n hx hb dL_law_314 rfl (lv_at hl 4 rfl) ?_
  refine xgo_r (v := some (.int (b1.2 0))) (xrunV (C := RX5) (As := []) (rest := []) (xfixm (rm := r_X5_thrown) fx_X5_thrown hx hb hml hown (by decide) (by decide) hc hs) hE ml_L_76 wi_X5_thrown wz_X5_thrown wc_X5_thrown wn_X5 (c_X5_thrown l D q k a1 b1 o1 _ rfl) (va_recv (q := (RX5, TX5, 19)) (ci := 5) (q0 := 23) hK hP rfl rfl) (xpre hP hD hG) rfl rfl hl.1 rfl (lv_room (Nat.le_of_ble_eq_true rfl)) dL_law_315) ?_
  refine lv_iload hx hb dL_law_318 (lv_at hl 1 rfl) ?_
  refine lv_icmp_eq hx hb dL_law_320 rfl (fun _ => ?_) (fun h => absurd hk h)
  refine lv_iload hx hb dL_law_325 (lv_at hl 1 rfl) ?_
  refine lv_if_ne hx hb dL_law_327 rfl (fun _ => ?_) (fun hz => ?_)
  · refine lv_goto hx hb dL_law_342 rfl ?_
    exact hn H locs ls hP hD hS (lv_sub hl [2, 3, 4, 5, 6] rfl)
  · refine lv_aload_n hx hb dL_law_330 rfl (lv_at hl 5 rfl) ?_
    refine lv_iconst (v := 0) hx hb dL_law_331 (by decide) ?_
    refine va_lald hx hb hK hP 39 2 rfl rfl xin01 dL_law_332 ?_
    refine lv_iload hx hb dL_law_333 (lv_at hl 0 rfl) ?_
    refine lv_i2l (v := r.toInt64) hx hb dL_law_335 rfl ?_
    refine W.lcmp hx hb dL_law_336 ?_
    refine lv_if_eq hx hb dL_law_337 rfl (fun _ => ?_) (fun h => absurd (xcmp0 (ho hz)) h)
    refine lv_goto hx hb dL_law_342 rfl ?_
    exact hn H locs ls hP hD hS (lv_sub hl [2, 3, 4, 5, 6] rfl)
set_option maxHeartbeats 4000000 in
set_option maxRecDepth 100000 in
theorem lc_ownerOf {p : Program} {l : Launch} {e : Env} {s : State} {m : MethodId} {args : Array Value} {below : List Frame} {meth : Method} {c : Code} {b0 L i : Nat} {xs : Nat → Int32} {D : va_G} {q : Nat → Nat} {k : Nat → ClassId} {a b : xT} {o : Nat → Int64} {H : Heap} {locs : List Loc} {cells slots : Nat} {Q : State → Prop} (C : xLC p s m c l b0 L xs D k) (hP : va_P D vwCl (xw q k a b o) H) (hD : va_D (fun u => s.heap.size ≤ u) (xw q k a b o)) (hS : va_S (fun u => s.heap.size ≤ u) s.heap H locs) (hi : i + 4 ≤ L) (hc : cells + 1 ≤ 1085) (hs : slots + 6 ≤ 12563) {ls : Array Slot} (hl : lv_has ls 7 [(0, .ref b0), (1, .ref (q 0)), (2, .ref (q 23)), (3, .ref (q 39)), (4, .int (nI i))]) {kc : Int32} {a1 : xT} {o1 : Nat → Int64} (hH : xMet l yL_ownerOf (.codeWith yL_ownerOf cL_ownerOf 4 (some .int) [(0, 9, 12, 28)]) r_L_ownerOf (xPcH D q k H.size a b o [.ref (q 0), .int (xs (i + 1)), .ref (q 39)]) (xQh D q k a b o kc a1 o1) 1 6 (va_A (xw q k a b o) H.size)) {r : Int32} {b1 : xT} (hM : f_X5_ownerOf b (xs (i + 1)) = some (r, b1)) (hk : b1.2 0 = kc) (ho : kc = 0 → o1 0 = r.toInt64) (hn : ∀ (H : Heap) (locs : List Loc) (ls : Array Slot), va_P D vwCl (xw q k a1 b1 o1) H → va_D (fun u => s.heap.size ≤ u) (xw q k a1 b1 o1) → va_S (fun u => s.heap.size ≤ u) s.heap H locs → lv_has ls 7 [(0, .ref b0), (1, .ref (q 0)), (2, .ref (q 23)), (3, .ref (q 39)), (4, .int (nI i))] → W p l e room_1 s m args below meth c H locs (cells + 1) (slots + 6) Q (F0 m 1054 ls [])) : W p l e room_1 s m args below meth c H locs cells slots Q (F0 m 345 ls []) := by
  obtain ⟨hx, hb, hml, hown, hX, hbl, hL, hG, hst, hNc, hl0⟩ := C
  have hK := hG.1
  have hE := hG.2.1
  have hA : ∀ u, s.heap.size ≤ u → (fun u => s.heap.size ≤ u) u := fun u h => h
  refine lv_aload_n hx hb dL_law_345 rfl (lv_at hl 1 rfl) ?_
  refine lv_aload_n hx hb dL_law_346 rfl (lv_at hl 0 rfl) ?_
  refine lv_iload hx hb dL_law_347 (lv_at hl 4 rfl) ?_
  refine lv_iconst (v := 1) hx hb dL_law_349 (by decide) ?_
  refine lv_iadd hx hb dL_law_350 ?_
  refine xsc (j := 1) hx hb rfl hX hbl hS (by omega) hL dL_law_351 ?_
  refine lv_aload_n hx hb dL_law_352 rfl (lv_at hl 3 rfl) ?_
  refine xgo_h (xrunSW (As := [.ref (q 0), .int (xs (i + 1)), .ref (q 39)]) (rest := []) (xfixm (rm := r_L_ownerOf) fx_L_ownerOf hx hb hml hown (by decide) (by decide) hc hs) hE ml_L_92 wt_L_ownerOf wc_L_ownerOf wn_L hH (xpreH hP hD hG hst hNc hS) rfl rfl hl.1 rfl (lv_room (Nat.le_of_ble_eq_true rfl)) dL_law_353) hD hS hA (fun H locs hP hD hS => ?_)
  refine lv_istore (lv' := [(5, .int kc), (0, .ref b0), (1, .ref (q 0)), (2, .ref (q 23)), (3, .ref (q 39)), (4, .int (nI i))]) hx hb dL_law_356 hl (by decide) rfl (fun ls hl => ?_)
  refine lv_aload_n hx hb dL_law_358 rfl (lv_at hl 3 rfl) ?_
  refine lv_aload_n hx hb dL_law_359 rfl (lv_at hl 1 rfl) ?_
  refine lv_iload hx hb dL_law_360 (lv_at hl 5 rfl) ?_
  refine lv_iconst (v := 1) hx hb dL_law_362 (by decide) ?_
  refine lv_iadd hx hb dL_law_363 ?_
  refine xsc (j := 1) hx hb rfl hX hbl hS (by omega) hL dL_law_364 ?_
  refine xgo_m (v := some (.int r)) (a1 := a1) (b1 := b1) (xrunV (C := RX5) (As := [.int (xs (i + 1))]) (rest := []) (xfixm (rm := r_X5_ownerOf) fx_X5_ownerOf hx hb hml hown (by decide) (by decide) hc hs) hE ml_L_94 wi_X5_ownerOf wz_X5_ownerOf wc_X5_ownerOf wn_X5 (c_X5_ownerOf l D q k _ a1 b o1 (xs (i + 1)) _ hM) (va_recv (q := (RX5, TX5, 19)) (ci := 5) (q0 := 23) hK hP rfl rfl) (xprem hP hD hG) rfl rfl hl.1 rfl (lv_room (Nat.le_of_ble_eq_true rfl)) dL_law_365) hD hS hA (fun H locs hP hD hS => ?_)
  refine lv_istore (lv' := [(6, .int r), (5, .int kc), (0, .ref b0), (1, .ref (q 0)), (2, .ref (q 23)), (3, .ref (q 39)), (4, .int (nI i))]) hx hb dL_law_368 hl (by decide) rfl (fun ls hl => ?_)
  refine lv_aload_n hx hb dL_law_370 rfl (lv_at hl 4 rfl) ?_
  refine xgo_r (v := some (.int (b1.2 0))) (xrunV (C := RX5) (As := []) (rest := []) (xfixm (rm := r_X5_thrown) fx_X5_thrown hx hb hml hown (by decide) (by decide) hc hs) hE ml_L_76 wi_X5_thrown wz_X5_thrown wc_X5_thrown wn_X5 (c_X5_thrown l D q k a1 b1 o1 _ rfl) (va_recv (q := (RX5, TX5, 19)) (ci := 5) (q0 := 23) hK hP rfl rfl) (xpre hP hD hG) rfl rfl hl.1 rfl (lv_room (Nat.le_of_ble_eq_true rfl)) dL_law_371) ?_
  refine lv_iload hx hb dL_law_374 (lv_at hl 1 rfl) ?_
  refine lv_icmp_eq hx hb dL_law_376 rfl (fun _ => ?_) (fun h => absurd hk h)
  refine lv_iload hx hb dL_law_381 (lv_at hl 1 rfl) ?_
  refine lv_if_ne hx hb dL_law_383 rfl (fun _ => ?_) (fun hz => ?_)
  · refine lv_goto hx hb dL_law_398 rfl ?_
    exact hn H locs ls hP hD hS (lv_sub hl [2, 3, 4, 5, 6] rfl)
  · refine lv_aload_n hx hb dL_law_386 rfl (lv_at hl 5 rfl) ?_
    refine lv_iconst (v := 0) hx hb dL_law_387 (by decide) ?_
    refine va_lald hx hb hK hP 39 2 rfl rfl xin01 dL_law_388 ?_
    refine lv_iload hx hb dL_law_389 (lv_at hl 0 rfl) ?_
    refine lv_i2l (v := r.toInt64) hx hb dL_law_391 rfl ?_
    refine W.lcmp hx hb dL_law_392 ?_
    refine lv_if_eq hx hb dL_law_393 rfl (fun _ => ?_) (fun h => absurd (xcmp0 (ho hz)) h)
    refine lv_goto hx hb dL_law_398 rfl ?_
    exact hn H locs ls hP hD hS (lv_sub hl [2, 3, 4, 5, 6] rfl)
set_option maxHeartbeats 4000000 in
set_option maxRecDepth 100000 in
theorem lc_flightIn {p : Program} {l : Launch} {e : Env} {s : State} {m : MethodId} {args : Array Value} {below : List Frame} {meth : Method} {c : Code} {b0 L i : Nat} {xs : Nat → Int32} {D : va_G} {q : Nat → Nat} {k : Nat → ClassId} {a b : xT} {o : Nat → Int64} {H : Heap} {locs : List Loc} {cells slots : Nat} {Q : State → Prop} (C : xLC p s m c l b0 L xs D k) (hP : va_P D vwCl (xw q k a b o) H) (hD : va_D (fun u => s.heap.size ≤ u) (xw q k a b o)) (hS : va_S (fun u => s.heap.size ≤ u) s.heap H locs) (hi : i + 4 ≤ L) (hc : cells + 1 ≤ 1085) (hs : slots + 6 ≤ 12563) {ls : Array Slot} (hl : lv_has ls 7 [(0, .ref b0), (1, .ref (q 0)), (2, .ref (q 23)), (3, .ref (q 39)), (4, .int (nI i))]) {kc : Int32} {a1 : xT} {o1 : Nat → Int64} (hH : xMet l yL_flightIn (.codeWith yL_flightIn cL_flightIn 4 (some .int) [(0, 9, 12, 28)]) r_L_flightIn (xPcH D q k H.size a b o [.ref (q 0), .int (xs (i + 1)), .ref (q 39)]) (xQh D q k a b o kc a1 o1) 1 6 (va_A (xw q k a b o) H.size)) {r : Int32} {b1 : xT} (hM : f_X5_flightIn b (xs (i + 1)) = some (r, b1)) (hk : b1.2 0 = kc) (ho : kc = 0 → o1 0 = r.toInt64) (hn : ∀ (H : Heap) (locs : List Loc) (ls : Array Slot), va_P D vwCl (xw q k a1 b1 o1) H → va_D (fun u => s.heap.size ≤ u) (xw q k a1 b1 o1) → va_S (fun u => s.heap.size ≤ u) s.heap H locs → lv_has ls 7 [(0, .ref b0), (1, .ref (q 0)), (2, .ref (q 23)), (3, .ref (q 39)), (4, .int (nI i))] → W p l e room_1 s m args below meth c H locs (cells + 1) (slots + 6) Q (F0 m 1054 ls [])) : W p l e room_1 s m args below meth c H locs cells slots Q (F0 m 401 ls []) := by
  obtain ⟨hx, hb, hml, hown, hX, hbl, hL, hG, hst, hNc, hl0⟩ := C
  have hK := hG.1
  have hE := hG.2.1
  have hA : ∀ u, s.heap.size ≤ u → (fun u => s.heap.size ≤ u) u := fun u h => h
  refine lv_aload_n hx hb dL_law_401 rfl (lv_at hl 1 rfl) ?_
  refine lv_aload_n hx hb dL_law_402 rfl (lv_at hl 0 rfl) ?_
  refine lv_iload hx hb dL_law_403 (lv_at hl 4 rfl) ?_
  refine lv_iconst (v := 1) hx hb dL_law_405 (by decide) ?_
  refine lv_iadd hx hb dL_law_406 ?_
  refine xsc (j := 1) hx hb rfl hX hbl hS (by omega) hL dL_law_407 ?_
  refine lv_aload_n hx hb dL_law_408 rfl (lv_at hl 3 rfl) ?_
  refine xgo_h (xrunSW (As := [.ref (q 0), .int (xs (i + 1)), .ref (q 39)]) (rest := []) (xfixm (rm := r_L_flightIn) fx_L_flightIn hx hb hml hown (by decide) (by decide) hc hs) hE ml_L_95 wt_L_flightIn wc_L_flightIn wn_L hH (xpreH hP hD hG hst hNc hS) rfl rfl hl.1 rfl (lv_room (Nat.le_of_ble_eq_true rfl)) dL_law_409) hD hS hA (fun H locs hP hD hS => ?_)
  refine lv_istore (lv' := [(5, .int kc), (0, .ref b0), (1, .ref (q 0)), (2, .ref (q 23)), (3, .ref (q 39)), (4, .int (nI i))]) hx hb dL_law_412 hl (by decide) rfl (fun ls hl => ?_)
  refine lv_aload_n hx hb dL_law_414 rfl (lv_at hl 3 rfl) ?_
  refine lv_aload_n hx hb dL_law_415 rfl (lv_at hl 1 rfl) ?_
  refine lv_iload hx hb dL_law_416 (lv_at hl 5 rfl) ?_
  refine lv_iconst (v := 1) hx hb dL_law_418 (by decide) ?_
  refine lv_iadd hx hb dL_law_419 ?_
  refine xsc (j := 1) hx hb rfl hX hbl hS (by omega) hL dL_law_420 ?_
  refine xgo_m (v := some (.int r)) (a1 := a1) (b1 := b1) (xrunV (C := RX5) (As := [.int (xs (i + 1))]) (rest := []) (xfixm (rm := r_X5_flightIn) fx_X5_flightIn hx hb hml hown (by decide) (by decide) hc hs) hE ml_L_97 wi_X5_flightIn wz_X5_flightIn wc_X5_flightIn wn_X5 (c_X5_flightIn l D q k _ a1 b o1 (xs (i + 1)) _ hM) (va_recv (q := (RX5, TX5, 19)) (ci := 5) (q0 := 23) hK hP rfl rfl) (xprem hP hD hG) rfl rfl hl.1 rfl (lv_room (Nat.le_of_ble_eq_true rfl)) dL_law_421) hD hS hA (fun H locs hP hD hS => ?_)
  refine lv_istore (lv' := [(6, .int r), (5, .int kc), (0, .ref b0), (1, .ref (q 0)), (2, .ref (q 23)), (3, .ref (q 39)), (4, .int (nI i))]) hx hb dL_law_424 hl (by decide) rfl (fun ls hl => ?_)
  refine lv_aload_n hx hb dL_law_426 rfl (lv_at hl 4 rfl) ?_
  refine xgo_r (v := some (.int (b1.2 0))) (xrunV (C := RX5) (As := []) (rest := []) (xfixm (rm := r_X5_thrown) fx_X5_thrown hx hb hml hown (by decide) (by decide) hc hs) hE ml_L_76 wi_X5_thrown wz_X5_thrown wc_X5_thrown wn_X5 (c_X5_thrown l D q k a1 b1 o1 _ rfl) (va_recv (q := (RX5, TX5, 19)) (ci := 5) (q0 := 23) hK hP rfl rfl) (xpre hP hD hG) rfl rfl hl.1 rfl (lv_room (Nat.le_of_ble_eq_true rfl)) dL_law_427) ?_
  refine lv_iload hx hb dL_law_430 (lv_at hl 1 rfl) ?_
  refine lv_icmp_eq hx hb dL_law_432 rfl (fun _ => ?_) (fun h => absurd hk h)
  refine lv_iload hx hb dL_law_437 (lv_at hl 1 rfl) ?_
  refine lv_if_ne hx hb dL_law_439 rfl (fun _ => ?_) (fun hz => ?_)
  · refine lv_goto hx hb dL_law_454 rfl ?_
    exact hn H locs ls hP hD hS (lv_sub hl [2, 3, 4, 5, 6] rfl)
  · refine lv_aload_n hx hb dL_law_442 rfl (lv_at hl 5 rfl) ?_
    refine lv_iconst (v := 0) hx hb dL_law_443 (by decide) ?_
    refine va_lald hx hb hK hP 39 2 rfl rfl xin01 dL_law_444 ?_
    refine lv_iload hx hb dL_law_445 (lv_at hl 0 rfl) ?_
    refine lv_i2l (v := r.toInt64) hx hb dL_law_447 rfl ?_
    refine W.lcmp hx hb dL_law_448 ?_
    refine lv_if_eq hx hb dL_law_449 rfl (fun _ => ?_) (fun h => absurd (xcmp0 (ho hz)) h)
    refine lv_goto hx hb dL_law_454 rfl ?_
    exact hn H locs ls hP hD hS (lv_sub hl [2, 3, 4, 5, 6] rfl)
set_option maxHeartbeats 4000000 in
set_option maxRecDepth 100000 in
theorem lc_later {p : Program} {l : Launch} {e : Env} {s : State} {m : MethodId} {args : Array Value} {below : List Frame} {meth : Method} {c : Code} {b0 L i : Nat} {xs : Nat → Int32} {D : va_G} {q : Nat → Nat} {k : Nat → ClassId} {a b : xT} {o : Nat → Int64} {H : Heap} {locs : List Loc} {cells slots : Nat} {Q : State → Prop} (C : xLC p s m c l b0 L xs D k) (hP : va_P D vwCl (xw q k a b o) H) (hD : va_D (fun u => s.heap.size ≤ u) (xw q k a b o)) (hS : va_S (fun u => s.heap.size ≤ u) s.heap H locs) (hi : i + 4 ≤ L) (hc : cells + 1 ≤ 1085) (hs : slots + 6 ≤ 12563) {ls : Array Slot} (hl : lv_has ls 7 [(0, .ref b0), (1, .ref (q 0)), (2, .ref (q 23)), (3, .ref (q 39)), (4, .int (nI i))]) {kc : Int32} {a1 : xT} {o1 : Nat → Int64} (hH : xMet l yL_later (.codeWith yL_later cL_later 5 (some .int) [(0, 17, 20, 13), (0, 17, 24, 15)]) r_L_later (xPcH D q k H.size a b o [.ref (q 0), .int (xs (i + 1)), .int (xs (i + 2)), .ref (q 39)]) (xQh D q k a b o kc a1 o1) 1 6 (va_A (xw q k a b o) H.size)) {r : Int32} {b1 : xT} (hM : f_X5_later b (xs (i + 1)) (xs (i + 2)) = some (r, b1)) (hk : b1.2 0 = kc) (ho : kc = 0 → o1 0 = (if r = 0 then 0 else 1)) (hn : ∀ (H : Heap) (locs : List Loc) (ls : Array Slot), va_P D vwCl (xw q k a1 b1 o1) H → va_D (fun u => s.heap.size ≤ u) (xw q k a1 b1 o1) → va_S (fun u => s.heap.size ≤ u) s.heap H locs → lv_has ls 7 [(0, .ref b0), (1, .ref (q 0)), (2, .ref (q 23)), (3, .ref (q 39)), (4, .int (nI i))] → W p l e room_1 s m args below meth c H locs (cells + 1) (slots + 6) Q (F0 m 1054 ls [])) : W p l e room_1 s m args below meth c H locs cells slots Q (F0 m 457 ls []) := by
  obtain ⟨hx, hb, hml, hown, hX, hbl, hL, hG, hst, hNc, hl0⟩ := C
  have hK := hG.1
  have hE := hG.2.1
  have hA : ∀ u, s.heap.size ≤ u → (fun u => s.heap.size ≤ u) u := fun u h => h
  refine lv_aload_n hx hb dL_law_457 rfl (lv_at hl 1 rfl) ?_
  refine lv_aload_n hx hb dL_law_458 rfl (lv_at hl 0 rfl) ?_
  refine lv_iload hx hb dL_law_459 (lv_at hl 4 rfl) ?_
  refine lv_iconst (v := 1) hx hb dL_law_461 (by decide) ?_
  refine lv_iadd hx hb dL_law_462 ?_
  refine xsc (j := 1) hx hb rfl hX hbl hS (by omega) hL dL_law_463 ?_
  refine lv_aload_n hx hb dL_law_464 rfl (lv_at hl 0 rfl) ?_
  refine lv_iload hx hb dL_law_465 (lv_at hl 4 rfl) ?_
  refine lv_iconst (v := 2) hx hb dL_law_467 (by decide) ?_
  refine lv_iadd hx hb dL_law_468 ?_
  refine xsc (j := 2) hx hb rfl hX hbl hS (by omega) hL dL_law_469 ?_
  refine lv_aload_n hx hb dL_law_470 rfl (lv_at hl 3 rfl) ?_
  refine xgo_h (xrunSW (As := [.ref (q 0), .int (xs (i + 1)), .int (xs (i + 2)), .ref (q 39)]) (rest := []) (xfixm (rm := r_L_later) fx_L_later hx hb hml hown (by decide) (by decide) hc hs) hE ml_L_98 wt_L_later wc_L_later wn_L hH (xpreH hP hD hG hst hNc hS) rfl rfl hl.1 rfl (lv_room (Nat.le_of_ble_eq_true rfl)) dL_law_471) hD hS hA (fun H locs hP hD hS => ?_)
  refine lv_istore (lv' := [(5, .int kc), (0, .ref b0), (1, .ref (q 0)), (2, .ref (q 23)), (3, .ref (q 39)), (4, .int (nI i))]) hx hb dL_law_474 hl (by decide) rfl (fun ls hl => ?_)
  refine lv_aload_n hx hb dL_law_476 rfl (lv_at hl 3 rfl) ?_
  refine lv_aload_n hx hb dL_law_477 rfl (lv_at hl 1 rfl) ?_
  refine lv_iload hx hb dL_law_478 (lv_at hl 5 rfl) ?_
  refine lv_iconst (v := 1) hx hb dL_law_480 (by decide) ?_
  refine lv_iadd hx hb dL_law_481 ?_
  refine xsc (j := 1) hx hb rfl hX hbl hS (by omega) hL dL_law_482 ?_
  refine lv_aload_n hx hb dL_law_483 rfl (lv_at hl 1 rfl) ?_
  refine lv_iload hx hb dL_law_484 (lv_at hl 5 rfl) ?_
  refine lv_iconst (v := 2) hx hb dL_law_486 (by decide) ?_
  refine lv_iadd hx hb dL_law_487 ?_
  refine xsc (j := 2) hx hb rfl hX hbl hS (by omega) hL dL_law_488 ?_
  refine xgo_m (v := some (.int r)) (a1 := a1) (b1 := b1) (xrunV (C := RX5) (As := [.int (xs (i + 1)), .int (xs (i + 2))]) (rest := []) (xfixm (rm := r_X5_later) fx_X5_later hx hb hml hown (by decide) (by decide) hc hs) hE ml_L_100 wi_X5_later wz_X5_later wc_X5_later wn_X5 (c_X5_later l D q k _ a1 b o1 (xs (i + 1)) (xs (i + 2)) _ hM) (va_recv (q := (RX5, TX5, 19)) (ci := 5) (q0 := 23) hK hP rfl rfl) (xprem hP hD hG) rfl rfl hl.1 rfl (lv_room (Nat.le_of_ble_eq_true rfl)) dL_law_489) hD hS hA (fun H locs hP hD hS => ?_)
  refine lv_istore (lv' := [(6, .int r), (5, .int kc), (0, .ref b0), (1, .ref (q 0)), (2, .ref (q 23)), (3, .ref (q 39)), (4, .int (nI i))]) hx hb dL_law_492 hl (by decide) rfl (fun ls hl => ?_)
  refine lv_aload_n hx hb dL_law_494 rfl (lv_at hl 4 rfl) ?_
  refine xgo_r (v := some (.int (b1.2 0))) (xrunV (C := RX5) (As := []) (rest := []) (xfixm (rm := r_X5_thrown) fx_X5_thrown hx hb hml hown (by decide) (by decide) hc hs) hE ml_L_76 wi_X5_thrown wz_X5_thrown wc_X5_thrown wn_X5 (c_X5_thrown l D q k a1 b1 o1 _ rfl) (va_recv (q := (RX5, TX5, 19)) (ci := 5) (q0 := 23) hK hP rfl rfl) (xpre hP hD hG) rfl rfl hl.1 rfl (lv_room (Nat.le_of_ble_eq_true rfl)) dL_law_495) ?_
  refine lv_iload hx hb dL_law_498 (lv_at hl 1 rfl) ?_
  refine lv_icmp_eq hx hb dL_law_500 rfl (fun _ => ?_) (fun h => absurd hk h)
  refine lv_iload hx hb dL_law_505 (lv_at hl 1 rfl) ?_
  refine lv_if_ne hx hb dL_law_507 rfl (fun _ => ?_) (fun hz => ?_)
  · refine lv_goto hx hb dL_law_529 rfl ?_
    exact hn H locs ls hP hD hS (lv_sub hl [2, 3, 4, 5, 6] rfl)
  · refine lv_aload_n hx hb dL_law_510 rfl (lv_at hl 5 rfl) ?_
    refine lv_iconst (v := 0) hx hb dL_law_511 (by decide) ?_
    refine va_lald hx hb hK hP 39 2 rfl rfl xin01 dL_law_512 ?_
    refine lv_iload hx hb dL_law_513 (lv_at hl 0 rfl) ?_
    refine lv_if_eq hx hb dL_law_515 rfl (fun hq => ?_) (fun hq => ?_)
    · refine lv_lconst (v := 0) hx hb dL_law_522 (by decide) ?_
      refine W.lcmp hx hb dL_law_523 ?_
      refine lv_if_eq hx hb dL_law_524 rfl (fun _ => ?_) (fun h => absurd (xcmp0 ((ho hz).trans (if_pos hq))) h)
      refine lv_goto hx hb dL_law_529 rfl ?_
      exact hn H locs ls hP hD hS (lv_sub hl [2, 3, 4, 5, 6] rfl)
    · refine lv_lconst (v := 1) hx hb dL_law_518 (by decide) ?_
      refine lv_goto hx hb dL_law_519 rfl ?_
      refine W.lcmp hx hb dL_law_523 ?_
      refine lv_if_eq hx hb dL_law_524 rfl (fun _ => ?_) (fun h => absurd (xcmp0 ((ho hz).trans (if_neg hq))) h)
      refine lv_goto hx hb dL_law_529 rfl ?_
      exact hn H locs ls hP hD hS (lv_sub hl [2, 3, 4, 5, 6] rfl)
set_option maxHeartbeats 4000000 in
set_option maxRecDepth 100000 in
theorem lc_cancel {p : Program} {l : Launch} {e : Env} {s : State} {m : MethodId} {args : Array Value} {below : List Frame} {meth : Method} {c : Code} {b0 L i : Nat} {xs : Nat → Int32} {D : va_G} {q : Nat → Nat} {k : Nat → ClassId} {a b : xT} {o : Nat → Int64} {H : Heap} {locs : List Loc} {cells slots : Nat} {Q : State → Prop} (C : xLC p s m c l b0 L xs D k) (hP : va_P D vwCl (xw q k a b o) H) (hD : va_D (fun u => s.heap.size ≤ u) (xw q k a b o)) (hS : va_S (fun u => s.heap.size ≤ u) s.heap H locs) (hi : i + 4 ≤ L) (hc : cells + 1 ≤ 1085) (hs : slots + 6 ≤ 12563) {ls : Array Slot} (hl : lv_has ls 7 [(0, .ref b0), (1, .ref (q 0)), (2, .ref (q 23)), (3, .ref (q 39)), (4, .int (nI i))]) {kc : Int32} {a1 : xT} {o1 : Nat → Int64} (hH : xMet l yL_cancel (.codeWith yL_cancel cL_cancel 4 (some .int) [(0, 16, 19, 13), (0, 16, 22, 15)]) r_L_cancel (xPcH D q k H.size a b o [.ref (q 0), .int (xs (i + 1)), .ref (q 39)]) (xQh D q k a b o kc a1 o1) 1 6 (va_A (xw q k a b o) H.size)) {r : Int32} {b1 : xT} (hM : f_X5_cancel b (xs (i + 1)) = some (r, b1)) (hk : b1.2 0 = kc) (ho : kc = 0 → o1 0 = (if r = 0 then 0 else 1)) (hn : ∀ (H : Heap) (locs : List Loc) (ls : Array Slot), va_P D vwCl (xw q k a1 b1 o1) H → va_D (fun u => s.heap.size ≤ u) (xw q k a1 b1 o1) → va_S (fun u => s.heap.size ≤ u) s.heap H locs → lv_has ls 7 [(0, .ref b0), (1, .ref (q 0)), (2, .ref (q 23)), (3, .ref (q 39)), (4, .int (nI i))] → W p l e room_1 s m args below meth c H locs (cells + 1) (slots + 6) Q (F0 m 1054 ls [])) : W p l e room_1 s m args below meth c H locs cells slots Q (F0 m 532 ls []) := by
  obtain ⟨hx, hb, hml, hown, hX, hbl, hL, hG, hst, hNc, hl0⟩ := C
  have hK := hG.1
  have hE := hG.2.1
  have hA : ∀ u, s.heap.size ≤ u → (fun u => s.heap.size ≤ u) u := fun u h => h
  refine lv_aload_n hx hb dL_law_532 rfl (lv_at hl 1 rfl) ?_
  refine lv_aload_n hx hb dL_law_533 rfl (lv_at hl 0 rfl) ?_
  refine lv_iload hx hb dL_law_534 (lv_at hl 4 rfl) ?_
  refine lv_iconst (v := 1) hx hb dL_law_536 (by decide) ?_
  refine lv_iadd hx hb dL_law_537 ?_
  refine xsc (j := 1) hx hb rfl hX hbl hS (by omega) hL dL_law_538 ?_
  refine lv_aload_n hx hb dL_law_539 rfl (lv_at hl 3 rfl) ?_
  refine xgo_h (xrunSW (As := [.ref (q 0), .int (xs (i + 1)), .ref (q 39)]) (rest := []) (xfixm (rm := r_L_cancel) fx_L_cancel hx hb hml hown (by decide) (by decide) hc hs) hE ml_L_101 wt_L_cancel wc_L_cancel wn_L hH (xpreH hP hD hG hst hNc hS) rfl rfl hl.1 rfl (lv_room (Nat.le_of_ble_eq_true rfl)) dL_law_540) hD hS hA (fun H locs hP hD hS => ?_)
  refine lv_istore (lv' := [(5, .int kc), (0, .ref b0), (1, .ref (q 0)), (2, .ref (q 23)), (3, .ref (q 39)), (4, .int (nI i))]) hx hb dL_law_543 hl (by decide) rfl (fun ls hl => ?_)
  refine lv_aload_n hx hb dL_law_545 rfl (lv_at hl 3 rfl) ?_
  refine lv_aload_n hx hb dL_law_546 rfl (lv_at hl 1 rfl) ?_
  refine lv_iload hx hb dL_law_547 (lv_at hl 5 rfl) ?_
  refine lv_iconst (v := 1) hx hb dL_law_549 (by decide) ?_
  refine lv_iadd hx hb dL_law_550 ?_
  refine xsc (j := 1) hx hb rfl hX hbl hS (by omega) hL dL_law_551 ?_
  refine xgo_m (v := some (.int r)) (a1 := a1) (b1 := b1) (xrunV (C := RX5) (As := [.int (xs (i + 1))]) (rest := []) (xfixm (rm := r_X5_cancel) fx_X5_cancel hx hb hml hown (by decide) (by decide) hc hs) hE ml_L_103 wi_X5_cancel wz_X5_cancel wc_X5_cancel wn_X5 (c_X5_cancel l D q k _ a1 b o1 (xs (i + 1)) _ hM) (va_recv (q := (RX5, TX5, 19)) (ci := 5) (q0 := 23) hK hP rfl rfl) (xprem hP hD hG) rfl rfl hl.1 rfl (lv_room (Nat.le_of_ble_eq_true rfl)) dL_law_552) hD hS hA (fun H locs hP hD hS => ?_)
  refine lv_istore (lv' := [(6, .int r), (5, .int kc), (0, .ref b0), (1, .ref (q 0)), (2, .ref (q 23)), (3, .ref (q 39)), (4, .int (nI i))]) hx hb dL_law_555 hl (by decide) rfl (fun ls hl => ?_)
  refine lv_aload_n hx hb dL_law_557 rfl (lv_at hl 4 rfl) ?_
  refine xgo_r (v := some (.int (b1.2 0))) (xrunV (C := RX5) (As := []) (rest := []) (xfixm (rm := r_X5_thrown) fx_X5_thrown hx hb hml hown (by decide) (by decide) hc hs) hE ml_L_76 wi_X5_thrown wz_X5_thrown wc_X5_thrown wn_X5 (c_X5_thrown l D q k a1 b1 o1 _ rfl) (va_recv (q := (RX5, TX5, 19)) (ci := 5) (q0 := 23) hK hP rfl rfl) (xpre hP hD hG) rfl rfl hl.1 rfl (lv_room (Nat.le_of_ble_eq_true rfl)) dL_law_558) ?_
  refine lv_iload hx hb dL_law_561 (lv_at hl 1 rfl) ?_
  refine lv_icmp_eq hx hb dL_law_563 rfl (fun _ => ?_) (fun h => absurd hk h)
  refine lv_iload hx hb dL_law_568 (lv_at hl 1 rfl) ?_
  refine lv_if_ne hx hb dL_law_570 rfl (fun _ => ?_) (fun hz => ?_)
  · refine lv_goto hx hb dL_law_592 rfl ?_
    exact hn H locs ls hP hD hS (lv_sub hl [2, 3, 4, 5, 6] rfl)
  · refine lv_aload_n hx hb dL_law_573 rfl (lv_at hl 5 rfl) ?_
    refine lv_iconst (v := 0) hx hb dL_law_574 (by decide) ?_
    refine va_lald hx hb hK hP 39 2 rfl rfl xin01 dL_law_575 ?_
    refine lv_iload hx hb dL_law_576 (lv_at hl 0 rfl) ?_
    refine lv_if_eq hx hb dL_law_578 rfl (fun hq => ?_) (fun hq => ?_)
    · refine lv_lconst (v := 0) hx hb dL_law_585 (by decide) ?_
      refine W.lcmp hx hb dL_law_586 ?_
      refine lv_if_eq hx hb dL_law_587 rfl (fun _ => ?_) (fun h => absurd (xcmp0 ((ho hz).trans (if_pos hq))) h)
      refine lv_goto hx hb dL_law_592 rfl ?_
      exact hn H locs ls hP hD hS (lv_sub hl [2, 3, 4, 5, 6] rfl)
    · refine lv_lconst (v := 1) hx hb dL_law_581 (by decide) ?_
      refine lv_goto hx hb dL_law_582 rfl ?_
      refine W.lcmp hx hb dL_law_586 ?_
      refine lv_if_eq hx hb dL_law_587 rfl (fun _ => ?_) (fun h => absurd (xcmp0 ((ho hz).trans (if_neg hq))) h)
      refine lv_goto hx hb dL_law_592 rfl ?_
      exact hn H locs ls hP hD hS (lv_sub hl [2, 3, 4, 5, 6] rfl)
set_option maxHeartbeats 4000000 in
set_option maxRecDepth 100000 in
theorem lc_airborne {p : Program} {l : Launch} {e : Env} {s : State} {m : MethodId} {args : Array Value} {below : List Frame} {meth : Method} {c : Code} {b0 L i : Nat} {xs : Nat → Int32} {D : va_G} {q : Nat → Nat} {k : Nat → ClassId} {a b : xT} {o : Nat → Int64} {H : Heap} {locs : List Loc} {cells slots : Nat} {Q : State → Prop} (C : xLC p s m c l b0 L xs D k) (hP : va_P D vwCl (xw q k a b o) H) (hD : va_D (fun u => s.heap.size ≤ u) (xw q k a b o)) (hS : va_S (fun u => s.heap.size ≤ u) s.heap H locs) (hi : i + 4 ≤ L) (hc : cells + 1 ≤ 1085) (hs : slots + 6 ≤ 12563) {ls : Array Slot} (hl : lv_has ls 7 [(0, .ref b0), (1, .ref (q 0)), (2, .ref (q 23)), (3, .ref (q 39)), (4, .int (nI i))]) {kc : Int32} {a1 : xT} {o1 : Nat → Int64} (hH : xMet l yL_airborne (.codeWith yL_airborne cL_airborne 3 (some .int) [(0, 5, 8, 13), (0, 5, 11, 15)]) r_L_airborne (xPcH D q k H.size a b o [.ref (q 0), .int (xs (i + 1))]) (xQh D q k a b o kc a1 o1) 1 6 (va_A (xw q k a b o) H.size)) {b1 : xT} (hM : f_X5_airborne b (xs (i + 1)) = some b1) (hk : b1.2 0 = kc) (hn : ∀ (H : Heap) (locs : List Loc) (ls : Array Slot), va_P D vwCl (xw q k a1 b1 o1) H → va_D (fun u => s.heap.size ≤ u) (xw q k a1 b1 o1) → va_S (fun u => s.heap.size ≤ u) s.heap H locs → lv_has ls 7 [(0, .ref b0), (1, .ref (q 0)), (2, .ref (q 23)), (3, .ref (q 39)), (4, .int (nI i))] → W p l e room_1 s m args below meth c H locs (cells + 1) (slots + 6) Q (F0 m 1054 ls [])) : W p l e room_1 s m args below meth c H locs cells slots Q (F0 m 595 ls []) := by
  obtain ⟨hx, hb, hml, hown, hX, hbl, hL, hG, hst, hNc, hl0⟩ := C
  have hK := hG.1
  have hE := hG.2.1
  have hA : ∀ u, s.heap.size ≤ u → (fun u => s.heap.size ≤ u) u := fun u h => h
  refine lv_aload_n hx hb dL_law_595 rfl (lv_at hl 1 rfl) ?_
  refine lv_aload_n hx hb dL_law_596 rfl (lv_at hl 0 rfl) ?_
  refine lv_iload hx hb dL_law_597 (lv_at hl 4 rfl) ?_
  refine lv_iconst (v := 1) hx hb dL_law_599 (by decide) ?_
  refine lv_iadd hx hb dL_law_600 ?_
  refine xsc (j := 1) hx hb rfl hX hbl hS (by omega) hL dL_law_601 ?_
  refine xgo_h (xrunSW (As := [.ref (q 0), .int (xs (i + 1))]) (rest := []) (xfixm (rm := r_L_airborne) fx_L_airborne hx hb hml hown (by decide) (by decide) hc hs) hE ml_L_104 wt_L_airborne wc_L_airborne wn_L hH (xpreH hP hD hG hst hNc hS) rfl rfl hl.1 rfl (lv_room (Nat.le_of_ble_eq_true rfl)) dL_law_602) hD hS hA (fun H locs hP hD hS => ?_)
  refine lv_istore (lv' := [(5, .int kc), (0, .ref b0), (1, .ref (q 0)), (2, .ref (q 23)), (3, .ref (q 39)), (4, .int (nI i))]) hx hb dL_law_605 hl (by decide) rfl (fun ls hl => ?_)
  refine lv_aload_n hx hb dL_law_607 rfl (lv_at hl 3 rfl) ?_
  refine lv_aload_n hx hb dL_law_608 rfl (lv_at hl 1 rfl) ?_
  refine lv_iload hx hb dL_law_609 (lv_at hl 5 rfl) ?_
  refine lv_iconst (v := 1) hx hb dL_law_611 (by decide) ?_
  refine lv_iadd hx hb dL_law_612 ?_
  refine xsc (j := 1) hx hb rfl hX hbl hS (by omega) hL dL_law_613 ?_
  refine xgo_m (v := none) (a1 := a1) (b1 := b1) (xrunV (C := RX5) (As := [.int (xs (i + 1))]) (rest := []) (xfixm (rm := r_X5_airborne) fx_X5_airborne hx hb hml hown (by decide) (by decide) hc hs) hE ml_L_107 wi_X5_airborne wz_X5_airborne wc_X5_airborne wn_X5 (c_X5_airborne l D q k _ a1 b o1 (xs (i + 1)) _ hM) (va_recv (q := (RX5, TX5, 19)) (ci := 5) (q0 := 23) hK hP rfl rfl) (xprem hP hD hG) rfl rfl hl.1 rfl (lv_room (Nat.le_of_ble_eq_true rfl)) dL_law_614) hD hS hA (fun H locs hP hD hS => ?_)
  refine lv_aload_n hx hb dL_law_617 rfl (lv_at hl 3 rfl) ?_
  refine xgo_r (v := some (.int (b1.2 0))) (xrunV (C := RX5) (As := []) (rest := []) (xfixm (rm := r_X5_thrown) fx_X5_thrown hx hb hml hown (by decide) (by decide) hc hs) hE ml_L_76 wi_X5_thrown wz_X5_thrown wc_X5_thrown wn_X5 (c_X5_thrown l D q k a1 b1 o1 _ rfl) (va_recv (q := (RX5, TX5, 19)) (ci := 5) (q0 := 23) hK hP rfl rfl) (xpre hP hD hG) rfl rfl hl.1 rfl (lv_room (Nat.le_of_ble_eq_true rfl)) dL_law_618) ?_
  refine lv_iload hx hb dL_law_621 (lv_at hl 0 rfl) ?_
  refine lv_icmp_eq hx hb dL_law_623 rfl (fun _ => ?_) (fun h => absurd hk h)
  refine lv_goto hx hb dL_law_628 rfl ?_
  exact hn H locs ls hP hD hS (lv_sub hl [1, 2, 3, 4, 5] rfl)
set_option maxHeartbeats 4000000 in
set_option maxRecDepth 100000 in
theorem lc_swap {p : Program} {l : Launch} {e : Env} {s : State} {m : MethodId} {args : Array Value} {below : List Frame} {meth : Method} {c : Code} {b0 L i : Nat} {xs : Nat → Int32} {D : va_G} {q : Nat → Nat} {k : Nat → ClassId} {a b : xT} {o : Nat → Int64} {H : Heap} {locs : List Loc} {cells slots : Nat} {Q : State → Prop} (C : xLC p s m c l b0 L xs D k) (hP : va_P D vwCl (xw q k a b o) H) (hD : va_D (fun u => s.heap.size ≤ u) (xw q k a b o)) (hS : va_S (fun u => s.heap.size ≤ u) s.heap H locs) (hi : i + 4 ≤ L) (hc : cells + 1 ≤ 1085) (hs : slots + 6 ≤ 12563) {ls : Array Slot} (hl : lv_has ls 7 [(0, .ref b0), (1, .ref (q 0)), (2, .ref (q 23)), (3, .ref (q 39)), (4, .int (nI i))]) {kc : Int32} {a1 : xT} {o1 : Nat → Int64} (hH : xMet l yL_swap (.codeWith yL_swap cL_swap 4 (some .int) [(0, 6, 9, 13), (0, 6, 12, 15)]) r_L_swap (xPcH D q k H.size a b o [.ref (q 0), .int (xs (i + 1)), .int (xs (i + 2))]) (xQh D q k a b o kc a1 o1) 1 6 (va_A (xw q k a b o) H.size)) {b1 : xT} (hM : f_X5_swap b (xs (i + 1)) (xs (i + 2)) = some b1) (hk : b1.2 0 = kc) (hn : ∀ (H : Heap) (locs : List Loc) (ls : Array Slot), va_P D vwCl (xw q k a1 b1 o1) H → va_D (fun u => s.heap.size ≤ u) (xw q k a1 b1 o1) → va_S (fun u => s.heap.size ≤ u) s.heap H locs → lv_has ls 7 [(0, .ref b0), (1, .ref (q 0)), (2, .ref (q 23)), (3, .ref (q 39)), (4, .int (nI i))] → W p l e room_1 s m args below meth c H locs (cells + 1) (slots + 6) Q (F0 m 1054 ls [])) : W p l e room_1 s m args below meth c H locs cells slots Q (F0 m 631 ls []) := by
  obtain ⟨hx, hb, hml, hown, hX, hbl, hL, hG, hst, hNc, hl0⟩ := C
  have hK := hG.1
  have hE := hG.2.1
  have hA : ∀ u, s.heap.size ≤ u → (fun u => s.heap.size ≤ u) u := fun u h => h
  refine lv_aload_n hx hb dL_law_631 rfl (lv_at hl 1 rfl) ?_
  refine lv_aload_n hx hb dL_law_632 rfl (lv_at hl 0 rfl) ?_
  refine lv_iload hx hb dL_law_633 (lv_at hl 4 rfl) ?_
  refine lv_iconst (v := 1) hx hb dL_law_635 (by decide) ?_
  refine lv_iadd hx hb dL_law_636 ?_
  refine xsc (j := 1) hx hb rfl hX hbl hS (by omega) hL dL_law_637 ?_
  refine lv_aload_n hx hb dL_law_638 rfl (lv_at hl 0 rfl) ?_
  refine lv_iload hx hb dL_law_639 (lv_at hl 4 rfl) ?_
  refine lv_iconst (v := 2) hx hb dL_law_641 (by decide) ?_
  refine lv_iadd hx hb dL_law_642 ?_
  refine xsc (j := 2) hx hb rfl hX hbl hS (by omega) hL dL_law_643 ?_
  refine xgo_h (xrunSW (As := [.ref (q 0), .int (xs (i + 1)), .int (xs (i + 2))]) (rest := []) (xfixm (rm := r_L_swap) fx_L_swap hx hb hml hown (by decide) (by decide) hc hs) hE ml_L_108 wt_L_swap wc_L_swap wn_L hH (xpreH hP hD hG hst hNc hS) rfl rfl hl.1 rfl (lv_room (Nat.le_of_ble_eq_true rfl)) dL_law_644) hD hS hA (fun H locs hP hD hS => ?_)
  refine lv_istore (lv' := [(5, .int kc), (0, .ref b0), (1, .ref (q 0)), (2, .ref (q 23)), (3, .ref (q 39)), (4, .int (nI i))]) hx hb dL_law_647 hl (by decide) rfl (fun ls hl => ?_)
  refine lv_aload_n hx hb dL_law_649 rfl (lv_at hl 3 rfl) ?_
  refine lv_aload_n hx hb dL_law_650 rfl (lv_at hl 1 rfl) ?_
  refine lv_iload hx hb dL_law_651 (lv_at hl 5 rfl) ?_
  refine lv_iconst (v := 1) hx hb dL_law_653 (by decide) ?_
  refine lv_iadd hx hb dL_law_654 ?_
  refine xsc (j := 1) hx hb rfl hX hbl hS (by omega) hL dL_law_655 ?_
  refine lv_aload_n hx hb dL_law_656 rfl (lv_at hl 1 rfl) ?_
  refine lv_iload hx hb dL_law_657 (lv_at hl 5 rfl) ?_
  refine lv_iconst (v := 2) hx hb dL_law_659 (by decide) ?_
  refine lv_iadd hx hb dL_law_660 ?_
  refine xsc (j := 2) hx hb rfl hX hbl hS (by omega) hL dL_law_661 ?_
  refine xgo_m (v := none) (a1 := a1) (b1 := b1) (xrunV (C := RX5) (As := [.int (xs (i + 1)), .int (xs (i + 2))]) (rest := []) (xfixm (rm := r_X5_swap) fx_X5_swap hx hb hml hown (by decide) (by decide) hc hs) hE ml_L_111 wi_X5_swap wz_X5_swap wc_X5_swap wn_X5 (c_X5_swap l D q k _ a1 b o1 (xs (i + 1)) (xs (i + 2)) _ hM) (va_recv (q := (RX5, TX5, 19)) (ci := 5) (q0 := 23) hK hP rfl rfl) (xprem hP hD hG) rfl rfl hl.1 rfl (lv_room (Nat.le_of_ble_eq_true rfl)) dL_law_662) hD hS hA (fun H locs hP hD hS => ?_)
  refine lv_aload_n hx hb dL_law_665 rfl (lv_at hl 3 rfl) ?_
  refine xgo_r (v := some (.int (b1.2 0))) (xrunV (C := RX5) (As := []) (rest := []) (xfixm (rm := r_X5_thrown) fx_X5_thrown hx hb hml hown (by decide) (by decide) hc hs) hE ml_L_76 wi_X5_thrown wz_X5_thrown wc_X5_thrown wn_X5 (c_X5_thrown l D q k a1 b1 o1 _ rfl) (va_recv (q := (RX5, TX5, 19)) (ci := 5) (q0 := 23) hK hP rfl rfl) (xpre hP hD hG) rfl rfl hl.1 rfl (lv_room (Nat.le_of_ble_eq_true rfl)) dL_law_666) ?_
  refine lv_iload hx hb dL_law_669 (lv_at hl 0 rfl) ?_
  refine lv_icmp_eq hx hb dL_law_671 rfl (fun _ => ?_) (fun h => absurd hk h)
  refine lv_goto hx hb dL_law_676 rfl ?_
  exact hn H locs ls hP hD hS (lv_sub hl [1, 2, 3, 4, 5] rfl)
