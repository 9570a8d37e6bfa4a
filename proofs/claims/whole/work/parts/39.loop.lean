/-! Class and reference agree: a relation G of their states that every call keeps. -/
def xAg_rate (G : xT → xT → Prop) : Prop := ∀ (a b : xT) (v1 v2 : Int32), G a b → (∃ (r : Int32) (a1 : xT) (b1 : xT), f_X4_rate a v1 v2 = some (.inr (r, a1)) ∧ f_X5_rate b v1 v2 = some (r, b1) ∧ b1.2 0 = 0 ∧ G a1 b1) ∨ (∃ (r : Int32) (b1 : xT), f_X4_rate a v1 v2 = some (.inl "java/lang/IllegalArgumentException") ∧ f_X5_rate b v1 v2 = some (r, b1) ∧ b1.2 0 = 1 ∧ G a b1) ∨ (∃ (r : Int32) (b1 : xT), f_X4_rate a v1 v2 = some (.inl "java/lang/IllegalStateException") ∧ f_X5_rate b v1 v2 = some (r, b1) ∧ b1.2 0 = 2 ∧ G a b1)
def xAg_flight (G : xT → xT → Prop) : Prop := ∀ (a b : xT) (v1 v2 v3 : Int32), G a b → (∃ (r : Int32) (a1 : xT) (b1 : xT), f_X4_flight a v1 v2 v3 = some (.inr (r, a1)) ∧ f_X5_flight b v1 v2 v3 = some (r, b1) ∧ b1.2 0 = 0 ∧ G a1 b1) ∨ (∃ (r : Int32) (b1 : xT), f_X4_flight a v1 v2 v3 = some (.inl "java/lang/IllegalArgumentException") ∧ f_X5_flight b v1 v2 v3 = some (r, b1) ∧ b1.2 0 = 1 ∧ G a b1) ∨ (∃ (r : Int32) (b1 : xT), f_X4_flight a v1 v2 v3 = some (.inl "java/lang/IllegalStateException") ∧ f_X5_flight b v1 v2 v3 = some (r, b1) ∧ b1.2 0 = 2 ∧ G a b1)
def xAg_ration (G : xT → xT → Prop) : Prop := ∀ (a b : xT), G a b → ∃ (r : Int32) (a1 b1 : xT), f_X4_ration a = some (r, a1) ∧ f_X5_ration b = some (r, b1) ∧ G a1 b1
def xAg_slotOf (G : xT → xT → Prop) : Prop := ∀ (a b : xT) (v1 : Int32), G a b → (∃ (r : Int32) (b1 : xT), f_X4_slotOf a v1 = some (.inr r) ∧ f_X5_slotOf b v1 = some (r, b1) ∧ b1.2 0 = 0 ∧ G a b1) ∨ (∃ (r : Int32) (b1 : xT), f_X4_slotOf a v1 = some (.inl "java/lang/IllegalArgumentException") ∧ f_X5_slotOf b v1 = some (r, b1) ∧ b1.2 0 = 1 ∧ G a b1)
def xAg_ownerOf (G : xT → xT → Prop) : Prop := ∀ (a b : xT) (v1 : Int32), G a b → (∃ (r : Int32) (b1 : xT), f_X4_ownerOf a v1 = some (.inr r) ∧ f_X5_ownerOf b v1 = some (r, b1) ∧ b1.2 0 = 0 ∧ G a b1) ∨ (∃ (r : Int32) (b1 : xT), f_X4_ownerOf a v1 = some (.inl "java/util/NoSuchElementException") ∧ f_X5_ownerOf b v1 = some (r, b1) ∧ b1.2 0 = 1 ∧ G a b1)
def xAg_flightIn (G : xT → xT → Prop) : Prop := ∀ (a b : xT) (v1 : Int32), G a b → (∃ (r : Int32) (b1 : xT), f_X4_flightIn a v1 = some (.inr r) ∧ f_X5_flightIn b v1 = some (r, b1) ∧ b1.2 0 = 0 ∧ G a b1) ∨ (∃ (r : Int32) (b1 : xT), f_X4_flightIn a v1 = some (.inl "java/util/NoSuchElementException") ∧ f_X5_flightIn b v1 = some (r, b1) ∧ b1.2 0 = 1 ∧ G a b1)
def xAg_later (G : xT → xT → Prop) : Prop := ∀ (a b : xT) (v1 v2 : Int32), G a b → (∃ (r : Int32) (a1 : xT) (b1 : xT), f_X4_later a v1 v2 = some (.inr (r, a1)) ∧ f_X5_later b v1 v2 = some (r, b1) ∧ b1.2 0 = 0 ∧ G a1 b1) ∨ (∃ (r : Int32) (b1 : xT), f_X4_later a v1 v2 = some (.inl "java/lang/IllegalArgumentException") ∧ f_X5_later b v1 v2 = some (r, b1) ∧ b1.2 0 = 1 ∧ G a b1) ∨ (∃ (r : Int32) (b1 : xT), f_X4_later a v1 v2 = some (.inl "java/lang/IllegalStateException") ∧ f_X5_later b v1 v2 = some (r, b1) ∧ b1.2 0 = 2 ∧ G a b1)
def xAg_cancel (G : xT → xT → Prop) : Prop := ∀ (a b : xT) (v1 : Int32), G a b → (∃ (r : Int32) (a1 : xT) (b1 : xT), f_X4_cancel a v1 = some (.inr (r, a1)) ∧ f_X5_cancel b v1 = some (r, b1) ∧ b1.2 0 = 0 ∧ G a1 b1) ∨ (∃ (r : Int32) (b1 : xT), f_X4_cancel a v1 = some (.inl "java/lang/IllegalArgumentException") ∧ f_X5_cancel b v1 = some (r, b1) ∧ b1.2 0 = 1 ∧ G a b1) ∨ (∃ (r : Int32) (b1 : xT), f_X4_cancel a v1 = some (.inl "java/lang/IllegalStateException") ∧ f_X5_cancel b v1 = some (r, b1) ∧ b1.2 0 = 2 ∧ G a b1)
def xAg_airborne (G : xT → xT → Prop) : Prop := ∀ (a b : xT) (v1 : Int32), G a b → (∃ (a1 : xT) (b1 : xT), f_X4_airborne a v1 = some (.inr a1) ∧ f_X5_airborne b v1 = some b1 ∧ b1.2 0 = 0 ∧ G a1 b1) ∨ (∃ (b1 : xT), f_X4_airborne a v1 = some (.inl "java/lang/IllegalArgumentException") ∧ f_X5_airborne b v1 = some b1 ∧ b1.2 0 = 1 ∧ G a b1) ∨ (∃ (b1 : xT), f_X4_airborne a v1 = some (.inl "java/lang/IllegalStateException") ∧ f_X5_airborne b v1 = some b1 ∧ b1.2 0 = 2 ∧ G a b1)
def xAg_swap (G : xT → xT → Prop) : Prop := ∀ (a b : xT) (v1 v2 : Int32), G a b → (∃ (a1 : xT) (b1 : xT), f_X4_swap a v1 v2 = some (.inr a1) ∧ f_X5_swap b v1 v2 = some b1 ∧ b1.2 0 = 0 ∧ G a1 b1) ∨ (∃ (b1 : xT), f_X4_swap a v1 v2 = some (.inl "java/lang/IllegalArgumentException") ∧ f_X5_swap b v1 v2 = some b1 ∧ b1.2 0 = 1 ∧ G a b1) ∨ (∃ (b1 : xT), f_X4_swap a v1 v2 = some (.inl "java/lang/IllegalStateException") ∧ f_X5_swap b v1 v2 = some b1 ∧ b1.2 0 = 2 ∧ G a b1)
def xAg_offer (G : xT → xT → Prop) : Prop := ∀ (a b : xT) (v1 v2 v3 : Int32), G a b → (∃ (r : Int32) (a1 : xT) (b1 : xT), f_X4_offer a v1 v2 v3 = some (.inr (r, a1)) ∧ f_X5_offer b v1 v2 v3 = some (r, b1) ∧ b1.2 0 = 0 ∧ G a1 b1) ∨ (∃ (r : Int32) (b1 : xT), f_X4_offer a v1 v2 v3 = some (.inl "java/lang/IllegalArgumentException") ∧ f_X5_offer b v1 v2 v3 = some (r, b1) ∧ b1.2 0 = 1 ∧ G a b1) ∨ (∃ (r : Int32) (b1 : xT), f_X4_offer a v1 v2 v3 = some (.inl "java/util/NoSuchElementException") ∧ f_X5_offer b v1 v2 v3 = some (r, b1) ∧ b1.2 0 = 2 ∧ G a b1) ∨ (∃ (r : Int32) (b1 : xT), f_X4_offer a v1 v2 v3 = some (.inl "java/lang/IllegalStateException") ∧ f_X5_offer b v1 v2 v3 = some (r, b1) ∧ b1.2 0 = 3 ∧ G a b1)
def xAg_drop (G : xT → xT → Prop) : Prop := ∀ (a b : xT) (v1 : Int32), G a b → (∃ (r : Int32) (a1 : xT) (b1 : xT), f_X4_drop a v1 = some (.inr (r, a1)) ∧ f_X5_drop b v1 = some (r, b1) ∧ b1.2 0 = 0 ∧ G a1 b1) ∨ (∃ (r : Int32) (b1 : xT), f_X4_drop a v1 = some (.inl "java/lang/IllegalArgumentException") ∧ f_X5_drop b v1 = some (r, b1) ∧ b1.2 0 = 1 ∧ G a b1)
def xAg_trade (G : xT → xT → Prop) : Prop := ∀ (a b : xT), G a b → ∃ (r : Int32) (a1 b1 : xT), f_X4_trade a = some (r, a1) ∧ f_X5_trade b = some (r, b1) ∧ G a1 b1
def xAg_compress (G : xT → xT → Prop) : Prop := ∀ (a b : xT), G a b → ∃ (r : Int32) (a1 b1 : xT), f_X4_compress a = some (r, a1) ∧ f_X5_compress b = some (r, b1) ∧ G a1 b1
def xAg_gaps (G : xT → xT → Prop) : Prop := ∀ (a b : xT), G a b → ∃ (r : Int32) (b1 : xT), f_X4_gaps a = some r ∧ f_X5_gaps b = some (r, b1) ∧ G a b1
def xAg_delay (G : xT → xT → Prop) : Prop := ∀ (a b : xT) (v1 : Int32), G a b → (∃ (r : Int32) (b1 : xT), f_X4_delay a v1 = some (.inr r) ∧ f_X5_delay b v1 = some (r, b1) ∧ b1.2 0 = 0 ∧ G a b1) ∨ (∃ (r : Int32) (b1 : xT), f_X4_delay a v1 = some (.inl "java/lang/IllegalArgumentException") ∧ f_X5_delay b v1 = some (r, b1) ∧ b1.2 0 = 1 ∧ G a b1)
def xAg_owned (G : xT → xT → Prop) : Prop := ∀ (a b : xT) (v1 : Int32), G a b → (∃ (r : Int32) (b1 : xT), f_X4_owned a v1 = some (.inr r) ∧ f_X5_owned b v1 = some (r, b1) ∧ b1.2 0 = 0 ∧ G a b1) ∨ (∃ (r : Int32) (b1 : xT), f_X4_owned a v1 = some (.inl "java/lang/IllegalArgumentException") ∧ f_X5_owned b v1 = some (r, b1) ∧ b1.2 0 = 1 ∧ G a b1)
def xAg_log (G : xT → xT → Prop) : Prop := ∀ (a b : xT), G a b → ∃ (r : Int32) (b1 : xT), f_X4_log a = some r ∧ f_X5_log b = some (r, b1) ∧ G a b1
def xAg_entry (G : xT → xT → Prop) : Prop := ∀ (a b : xT) (v1 v2 : Int32), G a b → (∃ (r : Int32) (b1 : xT), f_X4_entry a v1 v2 = some (.inr r) ∧ f_X5_entry b v1 v2 = some (r, b1) ∧ b1.2 0 = 0 ∧ G a b1) ∨ (∃ (r : Int32) (b1 : xT), f_X4_entry a v1 v2 = some (.inl "java/lang/IndexOutOfBoundsException") ∧ f_X5_entry b v1 v2 = some (r, b1) ∧ b1.2 0 = 1 ∧ G a b1) ∨ (∃ (r : Int32) (b1 : xT), f_X4_entry a v1 v2 = some (.inl "java/lang/IllegalArgumentException") ∧ f_X5_entry b v1 v2 = some (r, b1) ∧ b1.2 0 = 2 ∧ G a b1)
def xAg (G : xT → xT → Prop) : Prop := G xi0 xi0 ∧ xAg_rate G ∧ xAg_flight G ∧ xAg_ration G ∧ xAg_slotOf G ∧ xAg_ownerOf G ∧ xAg_flightIn G ∧ xAg_later G ∧ xAg_cancel G ∧ xAg_airborne G ∧ xAg_swap G ∧ xAg_offer G ∧ xAg_drop G ∧ xAg_trade G ∧ xAg_compress G ∧ xAg_gaps G ∧ xAg_delay G ∧ xAg_owned G ∧ xAg_log G ∧ xAg_entry G
theorem xgtL {i L : Nat} (hi : i ≤ 4096) (hL : L ≤ 2048) : Int32.ofNat L - 4 < nI i ↔ L < i + 4 := by
  have h4 : (4 : Int32) = nI 4 := rfl
  have h1 : (Int32.ofNat L - 4).toInt = (L : Int) - 4 := by
    rw [h4]; exact pk_sub_toInt (a := L) (b := 4) (by omega) (by decide)
  rw [Int32.lt_iff_toInt_lt, h1, nI_toInt (by omega)]
  omega

set_option maxHeartbeats 8000000 in
set_option maxRecDepth 100000 in
theorem lw_exit {p : Program} {l : Launch} {e : Env} {s : State} {m : MethodId} {below : List Frame} {meth : Method} {c : Code} {b0 L : Nat} {xs : Nat → Int32} {D : va_G} {q : Nat → Nat} {k : Nat → ClassId} {i : Nat} (C : xLC p s m c l b0 L xs D k) (hr : meth.sig.returnType = ret) (hlk : meth.locks = false) {H : Heap} {locs : List Loc} {cells slots : Nat} (hS : va_S (fun u => s.heap.size ≤ u) s.heap H locs) (hc : cells ≤ 1085) (hs : slots ≤ 12563) {ls : Array Slot} : W p l e room_1 s m #[Value.ref b0] below meth c H locs cells slots (lw_Z below #[Value.ref b0] s) (F0 m 1060 ls []) := by
  obtain ⟨hx, hb, hml, hown, hX, hbl, hL, hG, hst, hNc, hl0⟩ := C
  refine lv_iconst (v := 1) hx hb dL_law_1060 (by decide) ?_
  refine va_forget (fun u hu => hS.2.2 u hu) ?_
  refine W.widen hc hs ?_
  exact lw_ret hx hb hr hlk dL_law_1061
set_option maxHeartbeats 16000000 in
set_option maxRecDepth 100000 in
theorem lw_loop {G : xT → xT → Prop} (hAg : xAg G) {p : Program} {l : Launch} {e : Env} {s : State} {m : MethodId} {below : List Frame} {meth : Method} {c : Code} {b0 L : Nat} {xs : Nat → Int32} {D : va_G} {q : Nat → Nat} {k : Nat → ClassId} (C : xLC p s m c l b0 L xs D k) (hL8 : L ≤ 2048) (hr : meth.sig.returnType = ret) (hlk : meth.locks = false) : ∀ (n i : Nat) (a b : xT) (o : Nat → Int64) (H : Heap) (locs : List Loc) (cells slots : Nat) (ls : Array Slot), L < i + 4 * (n + 1) → i ≤ 4 + L → cells + n ≤ 1085 → slots + 6 * n ≤ 12563 → G a b → va_P D vwCl (xw q k a b o) H → va_D (fun u => s.heap.size ≤ u) (xw q k a b o) → va_S (fun u => s.heap.size ≤ u) s.heap H locs → lv_has ls 7 [(0, .ref b0), (1, .ref (q 0)), (2, .ref (q 23)), (3, .ref (q 39)), (4, .int (nI i))] → W p l e room_1 s m #[Value.ref b0] below meth c H locs cells slots (lw_Z below #[Value.ref b0] s) (F0 m 23 ls []) := by
  obtain ⟨hA0, A_rate, A_flight, A_ration, A_slotOf, A_ownerOf, A_flightIn, A_later, A_cancel, A_airborne, A_swap, A_offer, A_drop, A_trade, A_compress, A_gaps, A_delay, A_owned, A_log, A_entry⟩ := hAg
  have C' := C
  obtain ⟨hx, hb, hml, hown, hX, hbl, hL, hG, hst, hNc, hl0⟩ := C'
  intro n
  induction n with
  | zero =>
    intro i a b o H locs cells slots ls hn hi hc hs hg hP hD hS hl
    refine lv_iload hx hb dL_law_23 (lv_at hl 4 rfl) ?_
    refine lv_aload_n hx hb dL_law_25 rfl (lv_at hl 0 rfl) ?_
    refine va_slen hx hb hX hbl (Nat.not_le.mpr hbl) hS dL_law_26 ?_
    refine lv_iconst (v := 4) hx hb dL_law_27 (by decide) ?_
    refine lv_isub hx hb dL_law_28 ?_
    refine lv_icmp_gt hx hb dL_law_29 rfl (fun _ => ?_) (fun h => absurd ((xgtL (by omega) hL8).mpr (by omega)) h)
    exact lw_exit (i := i) (q := q) C hr hlk hS (by omega) (by omega)
  | succ n ih =>
    intro i a b o H locs cells slots ls hn hi hc hs hg hP hD hS hl
    refine lv_iload hx hb dL_law_23 (lv_at hl 4 rfl) ?_
    refine lv_aload_n hx hb dL_law_25 rfl (lv_at hl 0 rfl) ?_
    refine va_slen hx hb hX hbl (Nat.not_le.mpr hbl) hS dL_law_26 ?_
    refine lv_iconst (v := 4) hx hb dL_law_27 (by decide) ?_
    refine lv_isub hx hb dL_law_28 ?_
    refine lv_icmp_gt hx hb dL_law_29 rfl (fun _ => lw_exit (i := i) (q := q) C hr hlk hS (by omega) (by omega)) (fun h => ?_)
    have hi4 : i + 4 ≤ L := by
      rw [xgtL (by omega) hL8] at h
      omega
    have nx : ∀ (a1 b1 : xT) (o1 : Nat → Int64) (cells1 slots1 : Nat), G a1 b1 → cells1 ≤ cells + 1 → slots1 ≤ slots + 6 → ∀ (H : Heap) (locs : List Loc) (ls : Array Slot), va_P D vwCl (xw q k a1 b1 o1) H → va_D (fun u => s.heap.size ≤ u) (xw q k a1 b1 o1) → va_S (fun u => s.heap.size ≤ u) s.heap H locs → lv_has ls 7 [(0, .ref b0), (1, .ref (q 0)), (2, .ref (q 23)), (3, .ref (q 39)), (4, .int (nI i))] → W p l e room_1 s m #[Value.ref b0] below meth c H locs cells1 slots1 (lw_Z below #[Value.ref b0] s) (F0 m 1054 ls []) := by
      intro a1 b1 o1 cells1 slots1 hg hc1 hs1 H locs ls hP hD hS hl
      refine lv_iinc (v := nI (i + 4)) (k := 4) hx hb dL_law_1054 hl rfl (nI_add i 4) (by decide) rfl (fun ls hl => ?_)
      refine lv_goto hx hb dL_law_1057 rfl ?_
      exact ih (i + 4) a1 b1 o1 H locs cells1 slots1 ls (by omega) (by omega) (by omega) (by omega) hg hP hD hS (lv_sub hl [1, 2, 3, 4, 0] rfl)
    refine lv_aload_n hx hb dL_law_32 rfl (lv_at hl 0 rfl) ?_
    refine lv_iload hx hb dL_law_33 (lv_at hl 4 rfl) ?_
    refine va_sld hx hb hX hbl (Nat.not_le.mpr hbl) hS (vp_in_nI (by omega) hL) dL_law_35 ?_
    refine lv_bipush (v := 31) hx hb dL_law_36 (by decide) ?_
    refine lv_iand hx hb dL_law_38 ?_
    obtain ⟨j, hj, hje⟩ := pk_andE (xs (nI i).toNatClampNeg) (m := 31) 5 rfl
    rw [hje]
    have hj' : j = 0 ∨ j = 1 ∨ j = 2 ∨ j = 3 ∨ j = 4 ∨ j = 5 ∨ j = 6 ∨ j = 7 ∨ j = 8 ∨ j = 9 ∨ j = 10 ∨ j = 11 ∨ j = 12 ∨ j = 13 ∨ j = 14 ∨ j = 15 ∨ j = 16 ∨ j = 17 ∨ j = 18 ∨ 19 ≤ j := by omega
    rcases hj' with rfl | rfl | rfl | rfl | rfl | rfl | rfl | rfl | rfl | rfl | rfl | rfl | rfl | rfl | rfl | rfl | rfl | rfl | rfl | hj1
    · refine lv_tableIn (off := 89) hx hb dL_law_39 (by decide) (by decide) rfl rfl ?_
      rcases A_rate a b (xs (i + 1)) (xs (i + 2)) hg with ⟨r, a1, b1, h4, h5, hz, hg1⟩ | ⟨r, b1, h4, h5, hz, hg1⟩ | ⟨r, b1, h4, h5, hz, hg1⟩
      · exact lc_rate C hP hD hS hi4 (by omega) (by omega) hl (h_rate_ok l hl0 D q k _ a b o _ _ r a1 h4) h5 hz (fun _ => if_pos rfl) (nx a1 b1 _ _ _ hg1 (Nat.le_refl _) (Nat.le_refl _))
      · exact lc_rate C hP hD hS hi4 (by omega) (by omega) hl (h_rate_e1 l hl0 D q k _ a b o _ _ h4) h5 hz (fun h => absurd h (by decide)) (nx a b1 _ _ _ hg1 (Nat.le_refl _) (Nat.le_refl _))
      · exact lc_rate C hP hD hS hi4 (by omega) (by omega) hl (h_rate_e2 l hl0 D q k _ a b o _ _ h4) h5 hz (fun h => absurd h (by decide)) (nx a b1 _ _ _ hg1 (Nat.le_refl _) (Nat.le_refl _))
    · refine lv_tableIn (off := 157) hx hb dL_law_39 (by decide) (by decide) rfl rfl ?_
      rcases A_flight a b (xs (i + 1)) (xs (i + 2)) (xs (i + 3)) hg with ⟨r, a1, b1, h4, h5, hz, hg1⟩ | ⟨r, b1, h4, h5, hz, hg1⟩ | ⟨r, b1, h4, h5, hz, hg1⟩
      · exact lc_flight C hP hD hS hi4 (by omega) (by omega) hl (h_flight_ok l hl0 D q k _ a b o _ _ _ r a1 h4) h5 hz (fun _ => if_pos rfl) (nx a1 b1 _ _ _ hg1 (Nat.le_refl _) (Nat.le_refl _))
      · exact lc_flight C hP hD hS hi4 (by omega) (by omega) hl (h_flight_e1 l hl0 D q k _ a b o _ _ _ h4) h5 hz (fun h => absurd h (by decide)) (nx a b1 _ _ _ hg1 (Nat.le_refl _) (Nat.le_refl _))
      · exact lc_flight C hP hD hS hi4 (by omega) (by omega) hl (h_flight_e2 l hl0 D q k _ a b o _ _ _ h4) h5 hz (fun h => absurd h (by decide)) (nx a b1 _ _ _ hg1 (Nat.le_refl _) (Nat.le_refl _))
    · refine lv_tableIn (off := 237) hx hb dL_law_39 (by decide) (by decide) rfl rfl ?_
      obtain ⟨r, a1, b1, h4, h5, hg1⟩ := A_ration a b hg
      exact lc_ration C hP hD hS hi4 (by omega) (by omega) hl h4 h5 (nx a1 b1 _ _ _ hg1 (Nat.le_succ _) (Nat.le_add_right _ _))
    · refine lv_tableIn (off := 250) hx hb dL_law_39 (by decide) (by decide) rfl rfl ?_
      rcases A_slotOf a b (xs (i + 1)) hg with ⟨r, b1, h4, h5, hz, hg1⟩ | ⟨r, b1, h4, h5, hz, hg1⟩
      · exact lc_slotOf C hP hD hS hi4 (by omega) (by omega) hl (h_slotOf_ok l hl0 D q k _ a b o _ r h4) h5 hz (fun _ => if_pos rfl) (nx a b1 _ _ _ hg1 (Nat.le_refl _) (Nat.le_refl _))
      · exact lc_slotOf C hP hD hS hi4 (by omega) (by omega) hl (h_slotOf_e1 l hl0 D q k _ a b o _ h4) h5 hz (fun h => absurd h (by decide)) (nx a b1 _ _ _ hg1 (Nat.le_refl _) (Nat.le_refl _))
    · refine lv_tableIn (off := 306) hx hb dL_law_39 (by decide) (by decide) rfl rfl ?_
      rcases A_ownerOf a b (xs (i + 1)) hg with ⟨r, b1, h4, h5, hz, hg1⟩ | ⟨r, b1, h4, h5, hz, hg1⟩
      · exact lc_ownerOf C hP hD hS hi4 (by omega) (by omega) hl (h_ownerOf_ok l hl0 D q k _ a b o _ r h4) h5 hz (fun _ => if_pos rfl) (nx a b1 _ _ _ hg1 (Nat.le_refl _) (Nat.le_refl _))
      · exact lc_ownerOf C hP hD hS hi4 (by omega) (by omega) hl (h_ownerOf_e1 l hl0 D q k _ a b o _ h4) h5 hz (fun h => absurd h (by decide)) (nx a b1 _ _ _ hg1 (Nat.le_refl _) (Nat.le_refl _))
    · refine lv_tableIn (off := 362) hx hb dL_law_39 (by decide) (by decide) rfl rfl ?_
      rcases A_flightIn a b (xs (i + 1)) hg with ⟨r, b1, h4, h5, hz, hg1⟩ | ⟨r, b1, h4, h5, hz, hg1⟩
      · exact lc_flightIn C hP hD hS hi4 (by omega) (by omega) hl (h_flightIn_ok l hl0 D q k _ a b o _ r h4) h5 hz (fun _ => if_pos rfl) (nx a b1 _ _ _ hg1 (Nat.le_refl _) (Nat.le_refl _))
      · exact lc_flightIn C hP hD hS hi4 (by omega) (by omega) hl (h_flightIn_e1 l hl0 D q k _ a b o _ h4) h5 hz (fun h => absurd h (by decide)) (nx a b1 _ _ _ hg1 (Nat.le_refl _) (Nat.le_refl _))
    · refine lv_tableIn (off := 418) hx hb dL_law_39 (by decide) (by decide) rfl rfl ?_
      rcases A_later a b (xs (i + 1)) (xs (i + 2)) hg with ⟨r, a1, b1, h4, h5, hz, hg1⟩ | ⟨r, b1, h4, h5, hz, hg1⟩ | ⟨r, b1, h4, h5, hz, hg1⟩
      · exact lc_later C hP hD hS hi4 (by omega) (by omega) hl (h_later_ok l hl0 D q k _ a b o _ _ r a1 h4) h5 hz (fun _ => if_pos rfl) (nx a1 b1 _ _ _ hg1 (Nat.le_refl _) (Nat.le_refl _))
      · exact lc_later C hP hD hS hi4 (by omega) (by omega) hl (h_later_e1 l hl0 D q k _ a b o _ _ h4) h5 hz (fun h => absurd h (by decide)) (nx a b1 _ _ _ hg1 (Nat.le_refl _) (Nat.le_refl _))
      · exact lc_later C hP hD hS hi4 (by omega) (by omega) hl (h_later_e2 l hl0 D q k _ a b o _ _ h4) h5 hz (fun h => absurd h (by decide)) (nx a b1 _ _ _ hg1 (Nat.le_refl _) (Nat.le_refl _))
    · refine lv_tableIn (off := 493) hx hb dL_law_39 (by decide) (by decide) rfl rfl ?_
      rcases A_cancel a b (xs (i + 1)) hg with ⟨r, a1, b1, h4, h5, hz, hg1⟩ | ⟨r, b1, h4, h5, hz, hg1⟩ | ⟨r, b1, h4, h5, hz, hg1⟩
      · exact lc_cancel C hP hD hS hi4 (by omega) (by omega) hl (h_cancel_ok l hl0 D q k _ a b o _ r a1 h4) h5 hz (fun _ => if_pos rfl) (nx a1 b1 _ _ _ hg1 (Nat.le_refl _) (Nat.le_refl _))
      · exact lc_cancel C hP hD hS hi4 (by omega) (by omega) hl (h_cancel_e1 l hl0 D q k _ a b o _ h4) h5 hz (fun h => absurd h (by decide)) (nx a b1 _ _ _ hg1 (Nat.le_refl _) (Nat.le_refl _))
      · exact lc_cancel C hP hD hS hi4 (by omega) (by omega) hl (h_cancel_e2 l hl0 D q k _ a b o _ h4) h5 hz (fun h => absurd h (by decide)) (nx a b1 _ _ _ hg1 (Nat.le_refl _) (Nat.le_refl _))
    · refine lv_tableIn (off := 556) hx hb dL_law_39 (by decide) (by decide) rfl rfl ?_
      rcases A_airborne a b (xs (i + 1)) hg with ⟨a1, b1, h4, h5, hz, hg1⟩ | ⟨b1, h4, h5, hz, hg1⟩ | ⟨b1, h4, h5, hz, hg1⟩
      · exact lc_airborne C hP hD hS hi4 (by omega) (by omega) hl (h_airborne_ok l hl0 D q k _ a b o _ a1 h4) h5 hz (nx a1 b1 _ _ _ hg1 (Nat.le_refl _) (Nat.le_refl _))
      · exact lc_airborne C hP hD hS hi4 (by omega) (by omega) hl (h_airborne_e1 l hl0 D q k _ a b o _ h4) h5 hz (nx a b1 _ _ _ hg1 (Nat.le_refl _) (Nat.le_refl _))
      · exact lc_airborne C hP hD hS hi4 (by omega) (by omega) hl (h_airborne_e2 l hl0 D q k _ a b o _ h4) h5 hz (nx a b1 _ _ _ hg1 (Nat.le_refl _) (Nat.le_refl _))
    · refine lv_tableIn (off := 592) hx hb dL_law_39 (by decide) (by decide) rfl rfl ?_
      rcases A_swap a b (xs (i + 1)) (xs (i + 2)) hg with ⟨a1, b1, h4, h5, hz, hg1⟩ | ⟨b1, h4, h5, hz, hg1⟩ | ⟨b1, h4, h5, hz, hg1⟩
      · exact lc_swap C hP hD hS hi4 (by omega) (by omega) hl (h_swap_ok l hl0 D q k _ a b o _ _ a1 h4) h5 hz (nx a1 b1 _ _ _ hg1 (Nat.le_refl _) (Nat.le_refl _))
      · exact lc_swap C hP hD hS hi4 (by omega) (by omega) hl (h_swap_e1 l hl0 D q k _ a b o _ _ h4) h5 hz (nx a b1 _ _ _ hg1 (Nat.le_refl _) (Nat.le_refl _))
      · exact lc_swap C hP hD hS hi4 (by omega) (by omega) hl (h_swap_e2 l hl0 D q k _ a b o _ _ h4) h5 hz (nx a b1 _ _ _ hg1 (Nat.le_refl _) (Nat.le_refl _))
    · refine lv_tableIn (off := 640) hx hb dL_law_39 (by decide) (by decide) rfl rfl ?_
      rcases A_offer a b (xs (i + 1)) (xs (i + 2)) (xs (i + 3)) hg with ⟨r, a1, b1, h4, h5, hz, hg1⟩ | ⟨r, b1, h4, h5, hz, hg1⟩ | ⟨r, b1, h4, h5, hz, hg1⟩ | ⟨r, b1, h4, h5, hz, hg1⟩
      · exact lc_offer C hP hD hS hi4 (by omega) (by omega) hl (h_offer_ok l hl0 D q k _ a b o _ _ _ r a1 h4) h5 hz (fun _ => if_pos rfl) (nx a1 b1 _ _ _ hg1 (Nat.le_refl _) (Nat.le_refl _))
      · exact lc_offer C hP hD hS hi4 (by omega) (by omega) hl (h_offer_e1 l hl0 D q k _ a b o _ _ _ h4) h5 hz (fun h => absurd h (by decide)) (nx a b1 _ _ _ hg1 (Nat.le_refl _) (Nat.le_refl _))
      · exact lc_offer C hP hD hS hi4 (by omega) (by omega) hl (h_offer_e2 l hl0 D q k _ a b o _ _ _ h4) h5 hz (fun h => absurd h (by decide)) (nx a b1 _ _ _ hg1 (Nat.le_refl _) (Nat.le_refl _))
      · exact lc_offer C hP hD hS hi4 (by omega) (by omega) hl (h_offer_e3 l hl0 D q k _ a b o _ _ _ h4) h5 hz (fun h => absurd h (by decide)) (nx a b1 _ _ _ hg1 (Nat.le_refl _) (Nat.le_refl _))
    · refine lv_tableIn (off := 720) hx hb dL_law_39 (by decide) (by decide) rfl rfl ?_
      rcases A_drop a b (xs (i + 1)) hg with ⟨r, a1, b1, h4, h5, hz, hg1⟩ | ⟨r, b1, h4, h5, hz, hg1⟩
      · exact lc_drop C hP hD hS hi4 (by omega) (by omega) hl (h_drop_ok l hl0 D q k _ a b o _ r a1 h4) h5 hz (fun _ => if_pos rfl) (nx a1 b1 _ _ _ hg1 (Nat.le_refl _) (Nat.le_refl _))
      · exact lc_drop C hP hD hS hi4 (by omega) (by omega) hl (h_drop_e1 l hl0 D q k _ a b o _ h4) h5 hz (fun h => absurd h (by decide)) (nx a b1 _ _ _ hg1 (Nat.le_refl _) (Nat.le_refl _))
    · refine lv_tableIn (off := 783) hx hb dL_law_39 (by decide) (by decide) rfl rfl ?_
      obtain ⟨r, a1, b1, h4, h5, hg1⟩ := A_trade a b hg
      exact lc_trade C hP hD hS hi4 (by omega) (by omega) hl h4 h5 (nx a1 b1 _ _ _ hg1 (Nat.le_succ _) (Nat.le_add_right _ _))
    · refine lv_tableIn (off := 796) hx hb dL_law_39 (by decide) (by decide) rfl rfl ?_
      obtain ⟨r, a1, b1, h4, h5, hg1⟩ := A_compress a b hg
      exact lc_compress C hP hD hS hi4 (by omega) (by omega) hl h4 h5 (nx a1 b1 _ _ _ hg1 (Nat.le_succ _) (Nat.le_add_right _ _))
    · refine lv_tableIn (off := 809) hx hb dL_law_39 (by decide) (by decide) rfl rfl ?_
      obtain ⟨r, b1, h4, h5, hg1⟩ := A_gaps a b hg
      exact lc_gaps C hP hD hS hi4 (by omega) (by omega) hl h4 h5 (nx a b1 _ _ _ hg1 (Nat.le_succ _) (Nat.le_add_right _ _))
    · refine lv_tableIn (off := 822) hx hb dL_law_39 (by decide) (by decide) rfl rfl ?_
      rcases A_delay a b (xs (i + 1)) hg with ⟨r, b1, h4, h5, hz, hg1⟩ | ⟨r, b1, h4, h5, hz, hg1⟩
      · exact lc_delay C hP hD hS hi4 (by omega) (by omega) hl (h_delay_ok l hl0 D q k _ a b o _ r h4) h5 hz (fun _ => if_pos rfl) (nx a b1 _ _ _ hg1 (Nat.le_refl _) (Nat.le_refl _))
      · exact lc_delay C hP hD hS hi4 (by omega) (by omega) hl (h_delay_e1 l hl0 D q k _ a b o _ h4) h5 hz (fun h => absurd h (by decide)) (nx a b1 _ _ _ hg1 (Nat.le_refl _) (Nat.le_refl _))
    · refine lv_tableIn (off := 878) hx hb dL_law_39 (by decide) (by decide) rfl rfl ?_
      rcases A_owned a b (xs (i + 1)) hg with ⟨r, b1, h4, h5, hz, hg1⟩ | ⟨r, b1, h4, h5, hz, hg1⟩
      · exact lc_owned C hP hD hS hi4 (by omega) (by omega) hl (h_owned_ok l hl0 D q k _ a b o _ r h4) h5 hz (fun _ => if_pos rfl) (nx a b1 _ _ _ hg1 (Nat.le_refl _) (Nat.le_refl _))
      · exact lc_owned C hP hD hS hi4 (by omega) (by omega) hl (h_owned_e1 l hl0 D q k _ a b o _ h4) h5 hz (fun h => absurd h (by decide)) (nx a b1 _ _ _ hg1 (Nat.le_refl _) (Nat.le_refl _))
    · refine lv_tableIn (off := 934) hx hb dL_law_39 (by decide) (by decide) rfl rfl ?_
      obtain ⟨r, b1, h4, h5, hg1⟩ := A_log a b hg
      exact lc_log C hP hD hS hi4 (by omega) (by omega) hl h4 h5 (nx a b1 _ _ _ hg1 (Nat.le_succ _) (Nat.le_add_right _ _))
    · refine lv_tableIn (off := 947) hx hb dL_law_39 (by decide) (by decide) rfl rfl ?_
      rcases A_entry a b (xs (i + 1)) (xs (i + 2)) hg with ⟨r, b1, h4, h5, hz, hg1⟩ | ⟨r, b1, h4, h5, hz, hg1⟩ | ⟨r, b1, h4, h5, hz, hg1⟩
      · exact lc_entry C hP hD hS hi4 (by omega) (by omega) hl (h_entry_ok l hl0 D q k _ a b o _ _ r h4) h5 hz (fun _ => if_pos rfl) (nx a b1 _ _ _ hg1 (Nat.le_refl _) (Nat.le_refl _))
      · exact lc_entry C hP hD hS hi4 (by omega) (by omega) hl (h_entry_e1 l hl0 D q k _ a b o _ _ h4) h5 hz (fun h => absurd h (by decide)) (nx a b1 _ _ _ hg1 (Nat.le_refl _) (Nat.le_refl _))
      · exact lc_entry C hP hD hS hi4 (by omega) (by omega) hl (h_entry_e2 l hl0 D q k _ a b o _ _ h4) h5 hz (fun h => absurd h (by decide)) (nx a b1 _ _ _ hg1 (Nat.le_refl _) (Nat.le_refl _))
    · refine lv_tableOut hx hb dL_law_39 (Or.inr (by rw [nI_toInt (by omega)]; omega)) rfl ?_
      exact nx a b o cells slots hg (Nat.le_succ _) (Nat.le_add_right _ _) H locs ls hP hD hS hl
