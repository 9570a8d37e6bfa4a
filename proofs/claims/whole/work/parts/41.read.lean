theorem ag_log : xAg_log xGd := fun a b h => ⟨a.2 2, xn b 0 0, rfl, by
  have := h.1.2.2.2.2.2.2.2.2.2.2.2.2.2.2.2
  simp only [g_X5_log_5, g_X5_log_0, f_X5_log, xn1, xn2, this]; rfl, h.code 0⟩
theorem ag_slotOf : xAg_slotOf xGd := by
  intro a b v1 h
  have h' := h
  obtain ⟨⟨e0, e1, e2, e3, e4, e5, e6, e7, e8, e10, e11, e12, e13, c1, c2, c3⟩, hl, n, k, e, hn, hk, he, d0, d1, d2, iF, iB, iSa, iSb, iSc, iO, iBy⟩ := h'
  rcases xix v1 (n := n) (by omega) with h0 | ⟨h0, h1, h2⟩ | ⟨j, hj, rfl, h0, h1, h2⟩
  · right; refine ⟨0, _, ?_, ?_, ?_, h.code 1⟩ <;> simp [g_X4_slotOf_0, f_X4_slotOf, g_X4_checkFlight_15, g_X4_checkFlight_0, f_X4_checkFlight, g_X5_slotOf_34, g_X5_slotOf_17, g_X5_slotOf_14, g_X5_slotOf_0, f_X5_slotOf, g_X5_isFlight_17, g_X5_isFlight_16, g_X5_isFlight_0, f_X5_isFlight, h0, xzb0, xn1, xn2]
  · right; refine ⟨0, _, ?_, ?_, ?_, h.code 1⟩ <;> simp [g_X4_slotOf_0, f_X4_slotOf, g_X4_checkFlight_15, g_X4_checkFlight_0, f_X4_checkFlight, g_X5_slotOf_34, g_X5_slotOf_17, g_X5_slotOf_14, g_X5_slotOf_0, f_X5_slotOf, g_X5_isFlight_17, g_X5_isFlight_16, g_X5_isFlight_0, f_X5_isFlight, h0, h1, h2, xzb0, xn1, xn2, d0, c1]
  · left; refine ⟨a.1 6 j, _, ?_, ?_, ?_, h.code 0⟩ <;> simp [g_X4_slotOf_0, f_X4_slotOf, g_X4_checkFlight_15, g_X4_checkFlight_0, f_X4_checkFlight, g_X5_slotOf_34, g_X5_slotOf_17, g_X5_slotOf_14, g_X5_slotOf_0, f_X5_slotOf, g_X5_isFlight_17, g_X5_isFlight_16, g_X5_isFlight_0, f_X5_isFlight, h0, h1, h2, xzb1, xn1, xn2, d0, c1, e6, xi60 (show j < 60 by omega), xc (show j < 1000 by omega)]
theorem x240 : (240 : Int32) = nI 240 := rfl
theorem sl_in (a : xT) {j : Nat} (hj : j < 240) : f_X3_isSlot a (nI j) = some (if a.1 0 j = 0 then 0 else 1) := by
  by_cases hz : a.1 0 j = 0 <;> simp [g_X3_isSlot_25, g_X3_isSlot_24, g_X3_isSlot_0, f_X3_isSlot, x240, nI_pos (show j < 2 ^ 31 by omega), nI_ge hj (by decide), xi240 hj, xc (show j < 1000 by omega), xzb0, xzb1, hz]
theorem sl_in5 (b : xT) {j : Nat} (hj : j < 240) : f_X5_isSlot b (nI j) = some (if b.1 0 j = 0 then 0 else 1) := by
  by_cases hz : b.1 0 j = 0 <;> simp [g_X5_isSlot_25, g_X5_isSlot_24, g_X5_isSlot_0, f_X5_isSlot, x240, nI_pos (show j < 2 ^ 31 by omega), nI_ge hj (by decide), xi240 hj, xc (show j < 1000 by omega), xzb0, xzb1, hz]
theorem sl_out (a : xT) {x : Int32} (h : x < 0 ∨ nI 240 ≤ x) : f_X3_isSlot a x = some 0 := by
  simp only [g_X3_isSlot_25, g_X3_isSlot_24, g_X3_isSlot_0, f_X3_isSlot, x240, xzb0]
  rcases h with h | h
  · simp [h]
  · by_cases h0 : x < 0 <;> simp [h, h0]
theorem sl_out5 (b : xT) {x : Int32} (h : x < 0 ∨ nI 240 ≤ x) : f_X5_isSlot b x = some 0 := by
  simp only [g_X5_isSlot_25, g_X5_isSlot_24, g_X5_isSlot_0, f_X5_isSlot, x240, xzb0]
  rcases h with h | h
  · simp [h]
  · by_cases h0 : x < 0 <;> simp [h, h0]
theorem ag_ownerOf : xAg_ownerOf xGd := by
  intro a b v1 h
  have h' := h
  obtain ⟨⟨e0, e1, e2, e3, e4, e5, e6, e7, e8, e10, e11, e12, e13, c1, c2, c3⟩, hl, n, k, e, hn, hk, he, d0, d1, d2, iF, iB, iSa, iSb, iSc, iO, iBy⟩ := h'
  rcases xix v1 (n := 240) (by omega) with h0 | ⟨h0, h1, h2⟩ | ⟨j, hj, rfl, h0, h1, h2⟩
  · right; refine ⟨0, _, ?_, ?_, ?_, h.code 1⟩ <;> simp [g_X4_ownerOf_0, f_X4_ownerOf, g_X4_checkSlot_0, f_X4_checkSlot, g_X5_ownerOf_34, g_X5_ownerOf_17, g_X5_ownerOf_14, g_X5_ownerOf_0, f_X5_ownerOf, sl_out a (Or.inl h0), sl_out5 b (Or.inl h0), xn1, xn2]
  · right; refine ⟨0, _, ?_, ?_, ?_, h.code 1⟩ <;> simp [g_X4_ownerOf_0, f_X4_ownerOf, g_X4_checkSlot_0, f_X4_checkSlot, g_X5_ownerOf_34, g_X5_ownerOf_17, g_X5_ownerOf_14, g_X5_ownerOf_0, f_X5_ownerOf, sl_out a (Or.inr h1), sl_out5 b (Or.inr h1), xn1, xn2]
  · by_cases hz : a.1 0 j = 0
    · right; refine ⟨0, _, ?_, ?_, ?_, h.code 1⟩ <;> simp [g_X4_ownerOf_0, f_X4_ownerOf, g_X4_checkSlot_0, f_X4_checkSlot, g_X5_ownerOf_34, g_X5_ownerOf_17, g_X5_ownerOf_14, g_X5_ownerOf_0, f_X5_ownerOf, sl_in a hj, sl_in5 b hj, hz, e0, xn1, xn2]
    · left; refine ⟨a.1 1 j, _, ?_, ?_, ?_, h.code 0⟩ <;> simp [g_X4_ownerOf_0, f_X4_ownerOf, g_X4_checkSlot_0, f_X4_checkSlot, g_X5_ownerOf_34, g_X5_ownerOf_17, g_X5_ownerOf_14, g_X5_ownerOf_0, f_X5_ownerOf, sl_in a hj, sl_in5 b hj, hz, e0, e1, xn1, xn2, xi240 hj, xc (show j < 1000 by omega)]
theorem ag_flightIn : xAg_flightIn xGd := by
  intro a b v1 h
  have h' := h
  obtain ⟨⟨e0, e1, e2, e3, e4, e5, e6, e7, e8, e10, e11, e12, e13, c1, c2, c3⟩, hl, n, k, e, hn, hk, he, d0, d1, d2, iF, iB, iSa, iSb, iSc, iO, iBy⟩ := h'
  rcases xix v1 (n := 240) (by omega) with h0 | ⟨h0, h1, h2⟩ | ⟨j, hj, rfl, h0, h1, h2⟩
  · right; refine ⟨0, _, ?_, ?_, ?_, h.code 1⟩ <;> simp [g_X4_flightIn_0, f_X4_flightIn, g_X4_checkSlot_0, f_X4_checkSlot, g_X5_flightIn_34, g_X5_flightIn_17, g_X5_flightIn_14, g_X5_flightIn_0, f_X5_flightIn, sl_out a (Or.inl h0), sl_out5 b (Or.inl h0), xn1, xn2]
  · right; refine ⟨0, _, ?_, ?_, ?_, h.code 1⟩ <;> simp [g_X4_flightIn_0, f_X4_flightIn, g_X4_checkSlot_0, f_X4_checkSlot, g_X5_flightIn_34, g_X5_flightIn_17, g_X5_flightIn_14, g_X5_flightIn_0, f_X5_flightIn, sl_out a (Or.inr h1), sl_out5 b (Or.inr h1), xn1, xn2]
  · by_cases hz : a.1 0 j = 0
    · right; refine ⟨0, _, ?_, ?_, ?_, h.code 1⟩ <;> simp [g_X4_flightIn_0, f_X4_flightIn, g_X4_checkSlot_0, f_X4_checkSlot, g_X5_flightIn_34, g_X5_flightIn_17, g_X5_flightIn_14, g_X5_flightIn_0, f_X5_flightIn, sl_in a hj, sl_in5 b hj, hz, e0, xn1, xn2]
    · left; refine ⟨a.1 2 j, _, ?_, ?_, ?_, h.code 0⟩ <;> simp [g_X4_flightIn_0, f_X4_flightIn, g_X4_checkSlot_0, f_X4_checkSlot, g_X5_flightIn_34, g_X5_flightIn_17, g_X5_flightIn_14, g_X5_flightIn_0, f_X5_flightIn, sl_in a hj, sl_in5 b hj, hz, e0, e2, xn1, xn2, xi240 hj, xc (show j < 1000 by omega)]
