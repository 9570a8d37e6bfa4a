theorem ca_4 (a : xT) (x : Int32) : (f_X4_checkAirline a x = some none ∧ ∀ b : xT, f_X5_within b x 0 7 = some 1) ∨ (f_X4_checkAirline a x = some (some "java/lang/IllegalArgumentException") ∧ ∀ b : xT, f_X5_within b x 0 7 = some 0) := by
  by_cases h0 : x < 0
  · right; constructor
    · simp [g_X4_checkAirline_10, g_X4_checkAirline_0, f_X4_checkAirline, h0]
    · intro b; simp [g_X5_within_15, g_X5_within_14, g_X5_within_0, f_X5_within, h0, xzb0]
  · by_cases h8 : x < 8
    · left
      have h7 : ¬ 7 < x := by
        rw [Int32.lt_iff_toInt_lt] at h8 ⊢
        have e1 : (8 : Int32).toInt = 8 := rfl
        have e2 : (7 : Int32).toInt = 7 := rfl
        omega
      constructor
      · simp only [g_X4_checkAirline_10, g_X4_checkAirline_0, f_X4_checkAirline, if_neg h0, if_pos h8]
      · intro b; simp only [g_X5_within_15, g_X5_within_14, g_X5_within_0, f_X5_within, if_neg h0, if_neg h7, if_pos xzb1]
    · right
      have h7 : 7 < x := by
        rw [Int32.lt_iff_toInt_lt] at h8 ⊢
        have e1 : (8 : Int32).toInt = 8 := rfl
        have e2 : (7 : Int32).toInt = 7 := rfl
        omega
      constructor
      · simp only [g_X4_checkAirline_10, g_X4_checkAirline_0, f_X4_checkAirline, if_neg h0, if_neg h8]
      · intro b; simp only [g_X5_within_15, g_X5_within_14, g_X5_within_0, f_X5_within, if_neg h0, if_pos h7, if_pos xzb0]
theorem cs_4 {a b : xT} (e0 : b.1 0 = a.1 0) (x : Int32) : (∃ m, m < 240 ∧ x = nI m ∧ ¬ a.1 0 m = 0 ∧ f_X4_checkSlot a x = some none ∧ f_X5_isSlot b x = some 1) ∨ (f_X4_checkSlot a x = some (some "java/util/NoSuchElementException") ∧ f_X5_isSlot b x = some 0) := by
  rcases xix x (n := 240) (by omega) with h0 | ⟨h0, h1, h2⟩ | ⟨j, hj, rfl, h0, h1, h2⟩
  · right; simp [g_X4_checkSlot_0, f_X4_checkSlot, sl_out a (Or.inl h0), sl_out5 b (Or.inl h0)]
  · right; simp [g_X4_checkSlot_0, f_X4_checkSlot, sl_out a (Or.inr h1), sl_out5 b (Or.inr h1)]
  · by_cases hz : a.1 0 j = 0
    · right; simp [g_X4_checkSlot_0, f_X4_checkSlot, sl_in a hj, sl_in5 b hj, hz, e0]
    · left; exact ⟨j, hj, rfl, hz, by simp [g_X4_checkSlot_0, f_X4_checkSlot, sl_in a hj, hz], by simp [sl_in5 b hj, hz, e0]⟩
theorem ag_offer : xAg_offer xGd := by
  intro a b v1 v2 v3 h
  have h' := h
  obtain ⟨⟨e0, e1, e2, e3, e4, e5, e6, e7, e8, e10, e11, e12, e13, c1, c2, c3⟩, hl, n, k, e, hn, hk, he, d0, d1, d2, iF, iB, iSa, iSb, iSc, iO, iBy⟩ := h'
  rcases ca_4 a v1 with ⟨w1, w2⟩ | ⟨w1, w2⟩
  rotate_left
  · right; left; refine ⟨0, xn b 0 1, ?_, ?_, rfl, h.code 1⟩ <;> simp [g_X4_offer_0, f_X4_offer, g_X5_offer_126, g_X5_offer_116, g_X5_offer_106, g_X5_offer_96, g_X5_offer_86, g_X5_offer_67, g_X5_offer_64, g_X5_offer_16, g_X5_offer_36, g_X5_offer_59, g_X5_offer_0, f_X5_offer, w1, w2, xn1, xn2]
  by_cases hgw : v2 = v3
  · right; left; refine ⟨0, xn b 0 1, ?_, ?_, rfl, h.code 1⟩ <;> simp [g_X4_offer_0, f_X4_offer, g_X5_offer_126, g_X5_offer_116, g_X5_offer_106, g_X5_offer_96, g_X5_offer_86, g_X5_offer_67, g_X5_offer_64, g_X5_offer_16, g_X5_offer_36, g_X5_offer_59, g_X5_offer_0, f_X5_offer, w1, w2, hgw, xn1, xn2]
  rcases cs_4 e0 v2 with ⟨g, hg, rfl, hgo, g1, g2⟩ | ⟨g1, g2⟩
  rotate_left
  · right; right; left; refine ⟨0, xn b 0 2, ?_, ?_, rfl, h.code 2⟩ <;> simp [g_X4_offer_0, f_X4_offer, g_X5_offer_126, g_X5_offer_116, g_X5_offer_106, g_X5_offer_96, g_X5_offer_86, g_X5_offer_67, g_X5_offer_64, g_X5_offer_16, g_X5_offer_36, g_X5_offer_59, g_X5_offer_0, f_X5_offer, w1, w2, hgw, g1, g2, xn1, xn2]
  rcases cs_4 e0 v3 with ⟨w, hw, rfl, hwo, u1, u2⟩ | ⟨u1, u2⟩
  rotate_left
  · right; right; left; refine ⟨0, xn b 0 2, ?_, ?_, rfl, h.code 2⟩ <;> simp [g_X4_offer_0, f_X4_offer, g_X5_offer_126, g_X5_offer_116, g_X5_offer_106, g_X5_offer_96, g_X5_offer_86, g_X5_offer_67, g_X5_offer_64, g_X5_offer_16, g_X5_offer_36, g_X5_offer_59, g_X5_offer_0, f_X5_offer, w1, w2, hgw, g1, g2, u1, u2, xn1, xn2]
  have gi := xi240 hg
  have gc := xc (show g < 1000 by omega)
  by_cases h1 : a.1 1 g = v1
  rotate_left
  · right; right; right; refine ⟨0, xn b 0 3, ?_, ?_, rfl, h.code 3⟩ <;> simp [g_X4_offer_0, f_X4_offer, g_X5_offer_126, g_X5_offer_116, g_X5_offer_106, g_X5_offer_96, g_X5_offer_86, g_X5_offer_67, g_X5_offer_64, g_X5_offer_16, g_X5_offer_36, g_X5_offer_59, g_X5_offer_0, f_X5_offer, w1, w2, hgw, g1, g2, u1, u2, gi, gc, h1, e1, xn1, xn2]
  by_cases hk4 : k = 40
  · right; right; right; refine ⟨0, xn b 0 3, ?_, ?_, rfl, h.code 3⟩
    · simp [g_X4_offer_0, f_X4_offer, w1, w2, hgw, g1, g2, u1, u2, gi, gc, h1, d1, hk4, x40]
    · simp [g_X5_offer_126, g_X5_offer_116, g_X5_offer_106, g_X5_offer_96, g_X5_offer_86, g_X5_offer_67, g_X5_offer_64, g_X5_offer_16, g_X5_offer_36, g_X5_offer_59, g_X5_offer_0, f_X5_offer, w1, w2, hgw, g1, g2, u1, u2, gi, gc, h1, e1, c2, d1, hk4, x40, xn1, xn2]
  have hkl : k < 40 := by omega
  have hk5 : ¬ nI k = nI 40 := fun hh => hk4 (nI_j (by omega) (by omega) hh)
  have ki := xi40 hkl
  have kc := xc (show k < 1000 by omega)
  left
  refine ⟨nI k, xn (xs (xs (xs (xs a 10 k v1) 11 k (nI g)) 12 k (nI w)) 13 k 1) 1 (nI (k + 1)), xn (xs (xs (xs (xs (xn b 0 0) 10 k v1) 11 k (nI g)) 12 k (nI w)) 13 k 1) 2 (nI (k + 1)), ?_, ?_, rfl, ?_, fun i => hl i, n, k + 1, e, hn, by omega, he, d0, rfl, d2, iF, ?_, iSa, iSb, iSc, ?_, iBy⟩
  · simp [g_X4_offer_0, f_X4_offer, g_X2_add_48, g_X2_add_38, g_X2_add_30, g_X2_add_22, g_X2_add_14, g_X2_add_0, f_X2_add, w1, w2, hgw, g1, g2, u1, u2, gi, gc, h1, d1, x40, nI_lt hkl (by decide), ki, kc, xnb1, xs2, xp1]
  · simp [g_X5_offer_126, g_X5_offer_116, g_X5_offer_106, g_X5_offer_96, g_X5_offer_86, g_X5_offer_67, g_X5_offer_64, g_X5_offer_16, g_X5_offer_36, g_X5_offer_59, g_X5_offer_0, f_X5_offer, w1, w2, hgw, g1, g2, u1, u2, gi, gc, h1, e1, c2, d1, hk5, x40, xn1, xn2, ki, kc, xnb1, xs2, xp1, nI_pred]
  · have := ((((h.1.code 0).set 10 k v1 (by omega)).set 11 k (nI g) (by omega)).set 12 k (nI w) (by omega)).set 13 k 1 (by omega)
    obtain ⟨q0, q1, q2, q3, q4, q5, q6, q7, q8, q10, q11, q12, q13, p1, p2, p3⟩ := this
    exact ⟨q0, q1, q2, q3, q4, q5, q6, q7, q8, q10, q11, q12, q13, p1, rfl, p3⟩
  · intro i
    refine ⟨(iB i).1, (iB i).2.1, (iB i).2.2.1, ?_⟩
    show (upd (a.1 13) k 1 i = 0 ∨ upd (a.1 13) k 1 i = 1)
    rw [upd_e]; split
    · exact Or.inr rfl
    · exact (iB i).2.2.2
  · intro o ho
    show ∃ q q', q < 240 ∧ q' < 240 ∧ q ≠ q' ∧ upd (a.1 11) k (nI g) o = nI q ∧ upd (a.1 12) k (nI w) o = nI q'
    simp only [upd_e]
    by_cases hok : o = k
    · simp only [if_pos hok]; exact ⟨g, w, hg, hw, fun hh => hgw (by rw [hh]), rfl, rfl⟩
    · simp only [if_neg hok]; exact iO o (by omega)
