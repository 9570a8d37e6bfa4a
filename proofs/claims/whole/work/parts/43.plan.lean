theorem nI_m1 {m : Nat} (h : m < 2 ^ 31) : ¬ nI m = -1 := fun he => nI_pos h (by rw [he]; decide)
theorem nI_j {x y : Nat} (hx : x < 1000) (hy : y < 1000) (h : nI x = nI y) : x = y := (nI_eq (by omega) (by omega)).mp h
theorem xs_comm (a : xT) {z y : Nat} (h : z ≠ y) (i j : Nat) (v w : Int32) : xs (xs a z i v) y j w = xs (xs a y j w) z i v := by
  refine Prod.ext ?_ rfl
  funext q
  simp only [xs1]
  by_cases h1 : q = y
  · subst h1; simp [Ne.symm h]
  · by_cases h2 : q = z
    · subst h2; simp [h]
    · simp [h1, h2]
/-- a flight leaves its slot -/
theorem xIn.out {a : xT} {n k e f m : Nat} (h : xIn a n k e) (hf : f < n) (hm : m < 240) (h6 : a.1 6 f = nI m) : xIn (xs (xs a 2 m (-1)) 6 f (-1)) n k e := by
  obtain ⟨hn, hk, he, d0, d1, d2, iF, iB, iSa, iSb, iSc, iO, iBy⟩ := h
  have h2 : a.1 2 m = nI f := by
    rcases iSa f hf with h | ⟨m', hm', h1, h2⟩
    · exact absurd (h6.symm.trans h) (nI_m1 (by omega))
    · have := nI_j (by omega) (by omega) (h6.symm.trans h1); subst this; exact h2
  refine ⟨hn, hk, he, d0, d1, d2, iF, iB, ?_, ?_, ?_, iO, iBy⟩
  · intro g hg
    show upd (a.1 6) f (-1) g = -1 ∨ ∃ q, q < 240 ∧ upd (a.1 6) f (-1) g = nI q ∧ upd (a.1 2) m (-1) q = nI g
    simp only [upd_e]
    by_cases hgf : g = f
    · left; simp [hgf]
    · simp only [if_neg hgf]
      rcases iSa g hg with h | ⟨q, hq, h1, h3⟩
      · exact Or.inl h
      · right
        refine ⟨q, hq, h1, ?_⟩
        have : ¬ q = m := by
          intro hqm; subst hqm
          exact hgf (nI_j (by omega) (by omega) (h3.symm.trans h2))
        simp only [if_neg this]; exact h3
  · intro q hq
    show upd (a.1 2) m (-1) q = -1 ∨ ∃ g, g < n ∧ upd (a.1 2) m (-1) q = nI g ∧ upd (a.1 6) f (-1) g = nI q ∧ a.1 1 q = a.1 3 g
    simp only [upd_e]
    by_cases hqm : q = m
    · left; simp [hqm]
    · simp only [if_neg hqm]
      rcases iSb q hq with h | ⟨g, hg, h1, h3, h4⟩
      · exact Or.inl h
      · right
        refine ⟨g, hg, h1, ?_, h4⟩
        have : ¬ g = f := by
          intro hgf; subst hgf
          exact hqm (nI_j (by omega) (by omega) (h3.symm.trans h6))
        simp only [if_neg this]; exact h3
  · intro q hq h0
    show upd (a.1 2) m (-1) q = -1 ∧ a.1 1 q = -1
    simp only [upd_e]
    have := iSc q hq h0
    refine ⟨?_, this.2⟩
    split
    · rfl
    · exact this.1
/-- the class takes a flight out, the reference empties its slot and notes it -/
theorem out_both {a b : xT} {n k e f m : Nat} (hE : xEq a b) (hL : xLg a b) (h : xIn a n k e) (hf : f < n) (hm : m < 240) (h6 : a.1 6 f = nI m) (kd : Int32) : ∃ a1 b1 b2, f_X4_takeOut a (nI f) kd = some a1 ∧ f_X5_empty b (nI m) = some b1 ∧ f_X5_note b1 kd (nI f) (nI m) (-1) = some b2 ∧ b2.2 0 = b.2 0 ∧ xGd a1 b2 := by
  have h' := h
  obtain ⟨hn, hk, he, d0, d1, d2, iF, iB, iSa, iSb, iSc, iO, iBy⟩ := h'
  have hE' := hE
  obtain ⟨e0, e1, e2, e3, e4, e5, e6, e7, e8, e10, e11, e12, e13, c1, c2, c3⟩ := hE'
  have h2 : a.1 2 m = nI f := by
    rcases iSa f hf with h | ⟨m', hm', h1, h2⟩
    · exact absurd (h6.symm.trans h) (nI_m1 (by omega))
    · have := nI_j (by omega) (by omega) (h6.symm.trans h1); subst this; exact h2
  have hEo : xEq (xs (xs a 2 m (-1)) 6 f (-1)) (xs (xs b 6 f (-1)) 2 m (-1)) := by
    rw [xs_comm b (by decide : (6 : Nat) ≠ 2)]
    exact (hE.set 2 m (-1) (by omega)).set 6 f (-1) (by omega)
  have hLo : xLg (xs (xs a 2 m (-1)) 6 f (-1)) (xs (xs b 6 f (-1)) 2 m (-1)) := by
    rw [xs_comm b (by decide : (6 : Nat) ≠ 2)]
    exact (hL.set 2 m (-1) (by omega)).set 6 f (-1) (by omega)
  obtain ⟨a1, b2, n1, n2, nE, nL, ⟨e1', he1, q2⟩, nz, q0, q1, q3⟩ := nt_both hEo hLo d2 he kd (nI f) (nI m) (-1)
  refine ⟨a1, xs (xs b 6 f (-1)) 2 m (-1), b2, ?_, ?_, n2, q3, nE, nL, n, k, e1', (h.out hf hm h6).same nz q0 q1 q2 he1⟩
  · simp [g_X4_takeOut_30, g_X4_takeOut_20, g_X4_takeOut_0, f_X4_takeOut, xi60 (show f < 60 by omega), xc (show f < 1000 by omega), xc (show m < 1000 by omega), h6, xi240 hm, n1]
  · simp [g_X5_empty_28, g_X5_empty_21, g_X5_empty_0, f_X5_empty, xi60 (show f < 60 by omega), xc (show f < 1000 by omega), xc (show m < 1000 by omega), e2, h2, xi240 hm, nI_pos (show f < 2 ^ 31 by omega)]
theorem pl_4 (a : xT) {f : Nat} (hf : f < 60) : f_X1_isPlannable a (nI f) = some (if a.1 7 f = 0 ∧ a.1 8 f = 0 then 1 else 0) := by
  by_cases h7 : a.1 7 f = 0 <;> by_cases h8 : a.1 8 f = 0 <;> simp [g_X1_isPlannable_23, g_X1_isPlannable_22, g_X1_isPlannable_0, f_X1_isPlannable, xi60 hf, xc (show f < 1000 by omega), h7, h8, xzb0, xzb1]
theorem pl_5 (b : xT) {f : Nat} (hf : f < 60) : f_X5_isLoose b (nI f) = some (if b.1 7 f = 0 ∧ b.1 8 f = 0 then 1 else 0) := by
  by_cases h7 : b.1 7 f = 0 <;> by_cases h8 : b.1 8 f = 0 <;> simp [g_X5_isLoose_23, g_X5_isLoose_22, g_X5_isLoose_0, f_X5_isLoose, xi60 hf, xc (show f < 1000 by omega), h7, h8, xzb0, xzb1]
theorem cf_in {a : xT} {n j : Nat} (d0 : a.2 0 = nI n) (hn : n ≤ 60) (hj : j < n) : f_X4_checkFlight a (nI j) = some none := by
  simp [g_X4_checkFlight_15, g_X4_checkFlight_0, f_X4_checkFlight, d0, nI_pos (show j < 2 ^ 31 by omega), nI_lt hj (show n < 2 ^ 31 by omega)]
theorem cf_in5 {b : xT} {n j : Nat} (d0 : b.2 1 = nI n) (hn : n ≤ 60) (hj : j < n) : f_X5_isFlight b (nI j) = some 1 := by
  simp [g_X5_isFlight_17, g_X5_isFlight_16, g_X5_isFlight_0, f_X5_isFlight, d0, nI_pos (show j < 2 ^ 31 by omega), nI_ge hj (show n < 2 ^ 31 by omega), xzb1]
theorem cf_out {a : xT} {n : Nat} {x : Int32} (d0 : a.2 0 = nI n) (h : x < 0 ∨ (¬ x < 0 ∧ nI n ≤ x ∧ ¬ x < nI n)) : f_X4_checkFlight a x = some (some "java/lang/IllegalArgumentException") := by
  rcases h with h | ⟨h, h1, h2⟩
  · simp [g_X4_checkFlight_15, g_X4_checkFlight_0, f_X4_checkFlight, d0, h]
  · simp only [g_X4_checkFlight_15, g_X4_checkFlight_0, f_X4_checkFlight, d0, if_neg h, if_neg h2]
theorem cf_out5 {b : xT} {n : Nat} {x : Int32} (d0 : b.2 1 = nI n) (h : x < 0 ∨ (¬ x < 0 ∧ nI n ≤ x ∧ ¬ x < nI n)) : f_X5_isFlight b x = some 0 := by
  rcases h with h | ⟨h, h1, h2⟩
  · simp [g_X5_isFlight_17, g_X5_isFlight_16, g_X5_isFlight_0, f_X5_isFlight, d0, h, xzb0]
  · simp only [g_X5_isFlight_17, g_X5_isFlight_16, g_X5_isFlight_0, f_X5_isFlight, d0, if_neg h, if_pos h1, if_pos xzb0]
theorem xix2 (x : Int32) {n : Nat} (hn : n < 2 ^ 31) : (x < 0 ∨ (¬ x < 0 ∧ nI n ≤ x ∧ ¬ x < nI n)) ∨ ∃ j, j < n ∧ x = nI j := by
  rcases xix x hn with h | h | ⟨j, hj, h, -⟩
  · exact Or.inl (Or.inl h)
  · exact Or.inl (Or.inr h)
  · exact Or.inr ⟨j, hj, h⟩
theorem ag_airborne : xAg_airborne xGd := by
  intro a b v1 h
  have h' := h
  obtain ⟨⟨e0, e1, e2, e3, e4, e5, e6, e7, e8, e10, e11, e12, e13, c1, c2, c3⟩, hl, n, k, e, hn, hk, he, d0, d1, d2, iF, iB, iSa, iSb, iSc, iO, iBy⟩ := h'
  rcases xix2 v1 (n := n) (by omega) with h0 | ⟨j, hj, rfl⟩
  · right; left; refine ⟨xn b 0 1, ?_, ?_, rfl, h.code 1⟩ <;> simp [g_X4_airborne_30, g_X4_airborne_50, g_X4_airborne_0, f_X4_airborne, g_X5_airborne_53, g_X5_airborne_39, g_X5_airborne_36, g_X5_airborne_31, g_X5_airborne_0, f_X5_airborne, cf_out d0 h0, cf_out5 (c1.trans d0) h0, xn1, xn2]
  · have g1 := cf_in d0 hn hj
    have g2 := cf_in5 (c1.trans d0) hn hj
    have j60 := xi60 (show j < 60 by omega)
    have jc := xc (show j < 1000 by omega)
    by_cases h8 : a.1 8 j = 0
    · rcases iSa j hj with h6 | ⟨m, hm, h6, h2⟩
      · right; right; refine ⟨xn b 0 2, ?_, ?_, rfl, h.code 2⟩ <;> simp [g_X4_airborne_30, g_X4_airborne_50, g_X4_airborne_0, f_X4_airborne, g_X5_airborne_53, g_X5_airborne_39, g_X5_airborne_36, g_X5_airborne_31, g_X5_airborne_0, f_X5_airborne, g1, g2, j60, jc, h8, h6, e8, e6, xn1, xn2]
      · left; refine ⟨xs a 8 j 1, xs (xn b 0 0) 8 j 1, ?_, ?_, rfl, (h.1.code 0).set 8 j 1 (by omega), (h.2.1.code 0).set 8 j 1 (by omega), n, k, e, hn, hk, he, d0, d1, d2, iF, ?_, iSa, iSb, iSc, iO, iBy⟩
        · simp [g_X4_airborne_30, g_X4_airborne_50, g_X4_airborne_0, f_X4_airborne, g1, j60, jc, h8, h6, nI_m1 (show m < 2 ^ 31 by omega), xnb1]
        · simp [g_X5_airborne_53, g_X5_airborne_39, g_X5_airborne_36, g_X5_airborne_31, g_X5_airborne_0, f_X5_airborne, g2, j60, jc, h8, h6, e8, e6, nI_pos' (show m < 2 ^ 31 by omega), xnb1, xn1, xn2]
        · intro i
          refine ⟨(iB i).1, (iB i).2.1, ?_, (iB i).2.2.2⟩
          show (upd (a.1 8) j 1 i = 0 ∨ upd (a.1 8) j 1 i = 1)
          rw [upd_e]; split
          · exact Or.inr rfl
          · exact (iB i).2.2.1
    · right; right; refine ⟨xn b 0 2, ?_, ?_, rfl, h.code 2⟩ <;> simp [g_X4_airborne_30, g_X4_airborne_50, g_X4_airborne_0, f_X4_airborne, g_X5_airborne_53, g_X5_airborne_39, g_X5_airborne_36, g_X5_airborne_31, g_X5_airborne_0, f_X5_airborne, g1, g2, j60, jc, h8, e8, e6, xn1, xn2]
theorem ag_cancel : xAg_cancel xGd := by
  intro a b v1 h
  have h' := h
  obtain ⟨⟨e0, e1, e2, e3, e4, e5, e6, e7, e8, e10, e11, e12, e13, c1, c2, c3⟩, hl, n, k, e, hn, hk, he, d0, d1, d2, iF, iB, iSa, iSb, iSc, iO, iBy⟩ := h'
  rcases xix2 v1 (n := n) (by omega) with h0 | ⟨j, hj, rfl⟩
  · right; left; refine ⟨0, xn b 0 1, ?_, ?_, rfl, h.code 1⟩ <;> simp [g_X4_cancel_20, g_X4_cancel_0, f_X4_cancel, g_X5_cancel_45, g_X5_cancel_29, g_X5_cancel_26, g_X5_cancel_0, f_X5_cancel, cf_out d0 h0, cf_out5 (c1.trans d0) h0, xn1, xn2]
  · have g1 := cf_in d0 hn hj
    have g2 := cf_in5 (c1.trans d0) hn hj
    have hj6 : j < 60 := by omega
    have j60 := xi60 hj6
    have jc := xc (show j < 1000 by omega)
    by_cases hp : a.1 7 j = 0 ∧ a.1 8 j = 0
    · have hE1 : xEq (xs a 7 j 1) (xs (xn b 0 0) 7 j 1) := (h.1.code 0).set 7 j 1 (by omega)
      have hL1 : xLg (xs a 7 j 1) (xs (xn b 0 0) 7 j 1) := (h.2.1.code 0).set 7 j 1 (by omega)
      have hI1 : xIn (xs a 7 j 1) n k e := ⟨hn, hk, he, d0, d1, d2, iF, by
        intro i
        refine ⟨(iB i).1, ?_, (iB i).2.2.1, (iB i).2.2.2⟩
        show (upd (a.1 7) j 1 i = 0 ∨ upd (a.1 7) j 1 i = 1)
        rw [upd_e]; split
        · exact Or.inr rfl
        · exact (iB i).2.1, iSa, iSb, iSc, iO, iBy⟩
      rcases iSa j hj with h6 | ⟨m, hm, h6, h2⟩
      · left; refine ⟨0, xs a 7 j 1, xs (xn b 0 0) 7 j 1, ?_, ?_, rfl, hE1, hL1, n, k, e, hI1⟩
        · simp [g_X4_cancel_20, g_X4_cancel_0, f_X4_cancel, g_X4_checkPlannable_0, f_X4_checkPlannable, g1, pl_4 a hj6, hp, j60, jc, xnb1, xs1, h6]
        · simp [g_X5_cancel_45, g_X5_cancel_29, g_X5_cancel_26, g_X5_cancel_0, f_X5_cancel, g2, pl_5 b hj6, e7, e8, e6, hp, j60, jc, xnb1, xs1, xs2, xn1, xn2, h6]
      · obtain ⟨a1, b1, b2, o1, o2, o3, o4, o5⟩ := out_both hE1 hL1 hI1 hj hm h6 5
        left; refine ⟨1, a1, b2, ?_, ?_, o4, o5⟩
        · simp [g_X4_cancel_20, g_X4_cancel_0, f_X4_cancel, g_X4_checkPlannable_0, f_X4_checkPlannable, g1, pl_4 a hj6, hp, j60, jc, xnb1, xs1, h6, nI_m1 (show m < 2 ^ 31 by omega), o1]
        · simp [g_X5_cancel_45, g_X5_cancel_29, g_X5_cancel_26, g_X5_cancel_0, f_X5_cancel, g2, pl_5 b hj6, e7, e8, e6, hp, j60, jc, xnb1, xs1, xs2, xn1, xn2, h6, nI_pos' (show m < 2 ^ 31 by omega), o2, o3]
    · right; right; refine ⟨0, xn b 0 2, ?_, ?_, rfl, h.code 2⟩
      · simp [g_X4_cancel_20, g_X4_cancel_0, f_X4_cancel, g_X4_checkPlannable_0, f_X4_checkPlannable, g1, pl_4 a hj6, hp]
      · simp [g_X5_cancel_45, g_X5_cancel_29, g_X5_cancel_26, g_X5_cancel_0, f_X5_cancel, g2, pl_5 b hj6, e7, e8, hp, xn1, xn2]
