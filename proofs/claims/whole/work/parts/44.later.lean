theorem x300 : (300 : Int32) = nI 300 := rfl
theorem cu_4 (a : xT) {f : Nat} (hf : f < 60) (x : Int32) : f_X1_canUse a (nI f) x = some (if x < a.1 5 f then 0 else 1) := by
  by_cases h : x < a.1 5 f <;> simp [g_X1_canUse_15, g_X1_canUse_0, f_X1_canUse, xi60 hf, xc (show f < 1000 by omega), h, xzb0, xzb1]
theorem cm_4 (a : xT) {f : Nat} (hf : f < 60) (x : Int32) : f_X4_couldMove a (nI f) x = some (if a.1 8 f = 0 ∧ ¬ x < a.1 5 f then 1 else 0) := by
  by_cases h8 : a.1 8 f = 0 <;> by_cases h : x < a.1 5 f <;> simp [g_X4_couldMove_29, g_X4_couldMove_28, g_X4_couldMove_0, f_X4_couldMove, cu_4 a hf, xi60 hf, xc (show f < 1000 by omega), h8, h, xzb0, xzb1]
theorem ag_later : xAg_later xGd := by
  intro a b v1 v2 h
  have h' := h
  obtain ⟨⟨e0, e1, e2, e3, e4, e5, e6, e7, e8, e10, e11, e12, e13, c1, c2, c3⟩, hl, n, k, e, hn, hk, he, d0, d1, d2, iF, iB, iSa, iSb, iSc, iO, iBy⟩ := h'
  rcases xix2 v1 (n := n) (by omega) with h0 | ⟨j, hj, rfl⟩
  · right; left; refine ⟨0, xn b 0 1, ?_, ?_, rfl, h.code 1⟩ <;> simp [g_X4_later_25, g_X4_later_83, g_X4_later_50, g_X4_later_0, f_X4_later, g_X5_later_78, g_X5_later_62, g_X5_later_46, g_X5_later_43, g_X5_later_26, g_X5_later_0, f_X5_later, cf_out d0 h0, cf_out5 (c1.trans d0) h0, xn1, xn2]
  · have g1 := cf_in d0 hn hj
    have g2 := cf_in5 (c1.trans d0) hn hj
    have hj6 : j < 60 := by omega
    have j60 := xi60 hj6
    have jc := xc (show j < 1000 by omega)
    by_cases h5 : v2 < a.1 5 j
    · right; left; refine ⟨0, xn b 0 1, ?_, ?_, rfl, h.code 1⟩ <;> simp [g_X4_later_25, g_X4_later_83, g_X4_later_50, g_X4_later_0, f_X4_later, g_X5_later_78, g_X5_later_62, g_X5_later_46, g_X5_later_43, g_X5_later_26, g_X5_later_0, f_X5_later, g1, g2, j60, jc, h5, e5, xn1, xn2]
    · by_cases h3 : v2 ≤ 300
      · have h3' : ¬ 300 < v2 := Int32.not_lt.mpr h3
        by_cases hp : a.1 7 j = 0 ∧ a.1 8 j = 0
        · obtain ⟨u0, hu0, hu1⟩ := (iF j hj).2.2
          have hv : ∃ u, u ≤ 300 ∧ v2 = nI u := by
            refine nI_of2 (M := 300) (n := 300) rfl ?_ h3
            intro hneg
            exact h5 (by rw [hu1]; exact Int32.lt_of_lt_of_le hneg (nI_pos' (by omega)))
          obtain ⟨u, hu, rfl⟩ := hv
          have hE1 : xEq (xs a 5 j (nI u)) (xs (xn b 0 0) 5 j (nI u)) := (h.1.code 0).set 5 j _ (by omega)
          have hL1 : xLg (xs a 5 j (nI u)) (xs (xn b 0 0) 5 j (nI u)) := (h.2.1.code 0).set 5 j _ (by omega)
          have hI1 : xIn (xs a 5 j (nI u)) n k e := ⟨hn, hk, he, d0, d1, d2, by
            intro f hf
            refine ⟨(iF f hf).1, (iF f hf).2.1, ?_⟩
            show ∃ q, q ≤ 300 ∧ upd (a.1 5) j (nI u) f = nI q
            rw [upd_e]; split
            · exact ⟨u, hu, rfl⟩
            · exact (iF f hf).2.2, iB, iSa, iSb, iSc, iO, iBy⟩
          have h55 : (xs a 5 j (nI u)).1 5 j = nI u := by simp [xs1, upd_e]
          rcases iSa j hj with h6 | ⟨m, hm, h6, h2⟩
          · left; refine ⟨0, xs a 5 j (nI u), xs (xn b 0 0) 5 j (nI u), ?_, ?_, rfl, hE1, hL1, n, k, e, hI1⟩
            · simp [g_X4_later_25, g_X4_later_83, g_X4_later_50, g_X4_later_0, f_X4_later, g_X4_checkPlannable_0, f_X4_checkPlannable, g1, pl_4 a hj6, hp, j60, jc, h5, h3, xs1, h6]
            · simp [g_X5_later_78, g_X5_later_62, g_X5_later_46, g_X5_later_43, g_X5_later_26, g_X5_later_0, f_X5_later, g2, pl_5 b hj6, e7, e8, e6, e5, hp, j60, jc, h5, h3, h3', xs1, xs2, xn1, xn2, h6]
          · by_cases hmu : nI m < nI u
            · obtain ⟨a1, b1, b2, o1, o2, o3, o4, o5⟩ := out_both hE1 hL1 hI1 hj hm h6 4
              have hmu' : ¬ nI u ≤ nI m := Int32.not_le.mpr hmu
              left; refine ⟨1, a1, b2, ?_, ?_, o4, o5⟩
              · simp [g_X4_later_25, g_X4_later_83, g_X4_later_50, g_X4_later_0, f_X4_later, g_X4_checkPlannable_0, f_X4_checkPlannable, g1, pl_4 a hj6, hp, j60, jc, h5, h3, xs1, h6, nI_m1 (show m < 2 ^ 31 by omega), cu_4 (xs a 5 j (nI u)) hj6, upd_e, hmu, o1]
              · simp [g_X5_later_78, g_X5_later_62, g_X5_later_46, g_X5_later_43, g_X5_later_26, g_X5_later_0, f_X5_later, g2, pl_5 b hj6, e7, e8, e6, e5, hp, j60, jc, h5, h3, h3', xs1, xs2, xn1, xn2, h6, nI_pos (show m < 2 ^ 31 by omega), hmu, hmu', o2, o3]
            · have hmu' : nI u ≤ nI m := Int32.not_lt.mp hmu
              left; refine ⟨0, xs a 5 j (nI u), xs (xn b 0 0) 5 j (nI u), ?_, ?_, rfl, hE1, hL1, n, k, e, hI1⟩
              · simp [g_X4_later_25, g_X4_later_83, g_X4_later_50, g_X4_later_0, f_X4_later, g_X4_checkPlannable_0, f_X4_checkPlannable, g1, pl_4 a hj6, hp, j60, jc, h5, h3, xs1, h6, nI_m1 (show m < 2 ^ 31 by omega), cu_4 (xs a 5 j (nI u)) hj6, upd_e, hmu]
              · simp [g_X5_later_78, g_X5_later_62, g_X5_later_46, g_X5_later_43, g_X5_later_26, g_X5_later_0, f_X5_later, g2, pl_5 b hj6, e7, e8, e6, e5, hp, j60, jc, h5, h3, h3', xs1, xs2, xn1, xn2, h6, nI_pos (show m < 2 ^ 31 by omega), hmu, hmu']
        · right; right; refine ⟨0, xn b 0 2, ?_, ?_, rfl, h.code 2⟩
          · simp [g_X4_later_25, g_X4_later_83, g_X4_later_50, g_X4_later_0, f_X4_later, g_X4_checkPlannable_0, f_X4_checkPlannable, g1, pl_4 a hj6, hp, j60, jc, h5, h3]
          · simp [g_X5_later_78, g_X5_later_62, g_X5_later_46, g_X5_later_43, g_X5_later_26, g_X5_later_0, f_X5_later, g2, pl_5 b hj6, e7, e8, e5, hp, j60, jc, h5, h3, h3', xn1, xn2]
      · have h3' : 300 < v2 := Int32.not_le.mp h3
        right; left; refine ⟨0, xn b 0 1, ?_, ?_, rfl, h.code 1⟩ <;> simp [g_X4_later_25, g_X4_later_83, g_X4_later_50, g_X4_later_0, f_X4_later, g_X5_later_78, g_X5_later_62, g_X5_later_46, g_X5_later_43, g_X5_later_26, g_X5_later_0, f_X5_later, g1, g2, j60, jc, h5, h3, h3', e5, xn1, xn2]
theorem z0 : nI 0 = 0 := rfl
theorem z1 : nI 1 = 1 := rfl
theorem z2 : nI 2 = 2 := rfl
theorem z3 : nI 3 = 3 := rfl
theorem ag_entry : xAg_entry xGd := by
  intro a b v1 v2 h
  have h' := h
  obtain ⟨⟨e0, e1, e2, e3, e4, e5, e6, e7, e8, e10, e11, e12, e13, c1, c2, c3⟩, hl, n, k, e, hn, hk, he, d0, d1, d2, iF, iB, iSa, iSb, iSc, iO, iBy⟩ := h'
  rcases xix v1 (n := e) (by omega) with h0 | ⟨h0, h1, h2⟩ | ⟨j, hj, rfl, h0, h1, h2⟩
  · right; left; refine ⟨0, _, ?_, ?_, ?_, h.code 1⟩ <;> simp [g_X4_entry_15, g_X4_entry_0, f_X4_entry, g_X5_entry_55, g_X5_entry_34, g_X5_entry_31, g_X5_entry_13, g_X5_entry_0, f_X5_entry, h0, xn1, xn2]
  · right; left; refine ⟨0, _, ?_, ?_, ?_, h.code 1⟩ <;> simp [g_X4_entry_15, g_X4_entry_0, f_X4_entry, g_X5_entry_55, g_X5_entry_34, g_X5_entry_31, g_X5_entry_13, g_X5_entry_0, f_X5_entry, h0, h1, h2, xn1, xn2, d2, c3]
  · have j200 := xi200 (show j < 200 by omega)
    have jc := xc (show j < 1000 by omega)
    rcases xix v2 (n := 4) (by omega) with g0 | ⟨g0, g1, g2⟩ | ⟨i, hi, rfl, g0, g1, g2⟩
    · have q0 : ¬ v2 = 0 := by intro hq; subst hq; exact absurd g0 (by decide)
      have q1 : ¬ v2 = 1 := by intro hq; subst hq; exact absurd g0 (by decide)
      have q2 : ¬ v2 = 2 := by intro hq; subst hq; exact absurd g0 (by decide)
      have q3 : ¬ v2 = 3 := by intro hq; subst hq; exact absurd g0 (by decide)
      right; right; refine ⟨0, _, ?_, ?_, ?_, h.code 2⟩ <;> simp [g_X4_entry_15, g_X4_entry_0, f_X4_entry, g_X5_entry_55, g_X5_entry_34, g_X5_entry_31, g_X5_entry_13, g_X5_entry_0, f_X5_entry, g_X5_within_15, g_X5_within_14, g_X5_within_0, f_X5_within, h0, h1, h2, d2, c3, q0, q1, q2, q3, g0, xn1, xn2, xzb0]
    · have q0 : ¬ v2 = 0 := by intro hq; subst hq; exact absurd g1 (by decide)
      have q1 : ¬ v2 = 1 := by intro hq; subst hq; exact absurd g1 (by decide)
      have q2 : ¬ v2 = 2 := by intro hq; subst hq; exact absurd g1 (by decide)
      have q3 : ¬ v2 = 3 := by intro hq; subst hq; exact absurd g1 (by decide)
      have q4 : 3 < v2 := Int32.lt_of_lt_of_le (by decide) g1
      right; right; refine ⟨0, _, ?_, ?_, ?_, h.code 2⟩ <;> simp [g_X4_entry_15, g_X4_entry_0, f_X4_entry, g_X5_entry_55, g_X5_entry_34, g_X5_entry_31, g_X5_entry_13, g_X5_entry_0, f_X5_entry, g_X5_within_15, g_X5_within_14, g_X5_within_0, f_X5_within, h0, h1, h2, d2, c3, q0, q1, q2, q3, q4, g0, xn1, xn2, xzb0]
    · left
      have hi4 : i = 0 ∨ i = 1 ∨ i = 2 ∨ i = 3 := by omega
      have w4 : f_X5_within b (nI i) 0 3 = some 1 := by
        rcases hi4 with rfl | rfl | rfl | rfl <;> rfl
      have hx : xin ((4 * nI j) + nI i) 800 = true := by rw [xm4, nI_add]; exact xi800 (by omega)
      have hy : ((4 * nI j) + nI i).toNatClampNeg = 4 * j + i := by rw [xm4, nI_add]; exact xc (by omega)
      have hq := hl j
      refine ⟨b.1 14 (4 * j + i), _, ?_, ?_, ?_, h.code 0⟩
      · rcases hi4 with rfl | rfl | rfl | rfl
        · rw [show (4 * j + 0) = 4 * j from rfl, hq.1]; simp [g_X4_entry_15, g_X4_entry_0, f_X4_entry, h0, h1, h2, d2, j200, jc, z0]
        · rw [hq.2.1]; simp [g_X4_entry_15, g_X4_entry_0, f_X4_entry, h0, h1, h2, d2, j200, jc, z1]
        · rw [hq.2.2.1]; simp [g_X4_entry_15, g_X4_entry_0, f_X4_entry, h0, h1, h2, d2, j200, jc, z2]
        · rw [hq.2.2.2]; simp [g_X4_entry_15, g_X4_entry_0, f_X4_entry, h0, h1, h2, d2, j200, jc, z3]
      · simp only [g_X5_entry_55, g_X5_entry_34, g_X5_entry_31, g_X5_entry_13, g_X5_entry_0, f_X5_entry]
        rw [if_neg h0, c3, d2, if_pos h1, w4]
        simp [xn1, xn2, hx, hy]
      · rfl
