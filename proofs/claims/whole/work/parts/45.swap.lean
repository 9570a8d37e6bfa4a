theorem xs_same (a : xT) (z i : Nat) {v : Int32} (h : a.1 z i = v) : xs a z i v = a := by
  refine Prod.ext ?_ rfl
  funext q
  simp only [xs1]
  by_cases hq : q = z
  · subst hq
    rw [if_pos rfl]
    funext y
    rw [upd_e]
    split
    · rename_i hy; subst hy; exact h.symm
    · rfl
  · rw [if_neg hq]
theorem pi_4 (a : xT) {m f : Nat} (hm : m < 240) (hf : f < 60) : f_X4_putIn a (nI m) (nI f) = some (xs (xs a 2 m (nI f)) 6 f (nI m)) := by
  simp [g_X4_putIn_25, g_X4_putIn_10, g_X4_putIn_0, f_X4_putIn, xi240 hm, xi60 hf, xc (show m < 1000 by omega), xc (show f < 1000 by omega), nI_m1 (show f < 2 ^ 31 by omega)]
theorem pi_4n (a : xT) {m : Nat} (hm : m < 240) : f_X4_putIn a (nI m) (-1) = some (xs a 2 m (-1)) := by
  simp [g_X4_putIn_25, g_X4_putIn_10, g_X4_putIn_0, f_X4_putIn, xi240 hm, xc (show m < 1000 by omega)]
theorem pi_5 (b : xT) {m f : Nat} (hm : m < 240) (hf : f < 60) : f_X5_put b (nI f) (nI m) = some (xs (xs b 2 m (nI f)) 6 f (nI m)) := by
  simp [g_X5_put_18, g_X5_put_7, g_X5_put_0, f_X5_put, xi240 hm, xi60 hf, xc (show m < 1000 by omega), xc (show f < 1000 by omega), nI_pos (show f < 2 ^ 31 by omega)]
theorem pi_5n (b : xT) {m : Nat} (hm : m < 240) : f_X5_put b (-1) (nI m) = some (xs b 2 m (-1)) := by
  simp [g_X5_put_18, g_X5_put_7, g_X5_put_0, f_X5_put, xi240 hm, xc (show m < 1000 by omega)]
theorem xSa.at2 {a : xT} {n f m : Nat} (iSa : xSa a n) (hn : n ≤ 60) (hf : f < n) (hm : m < 240) (h6 : a.1 6 f = nI m) : a.1 2 m = nI f := by
  rcases iSa f hf with h | ⟨m', hm', h1, h2⟩
  · exact absurd (h6.symm.trans h) (nI_m1 (by omega))
  · have := nI_j (by omega) (by omega) (h6.symm.trans h1); subst this; exact h2
theorem xSb.own {a : xT} {n f m : Nat} (iSb : xSb a n) (hn : n ≤ 60) (hf : f < n) (hm : m < 240) (h2 : a.1 2 m = nI f) : a.1 1 m = a.1 3 f ∧ a.1 6 f = nI m := by
  rcases iSb m hm with h | ⟨f', hf', h1, h3, h4⟩
  · exact absurd (h2.symm.trans h) (nI_m1 (by omega))
  · have := nI_j (by omega) (by omega) (h2.symm.trans h1); subst this; exact ⟨h4, h3⟩
theorem ag_swap : xAg_swap xGd := by
  intro a b v1 v2 h
  have h' := h
  obtain ⟨⟨e0, e1, e2, e3, e4, e5, e6, e7, e8, e10, e11, e12, e13, c1, c2, c3⟩, hl, n, k, e, hn, hk, he, d0, d1, d2, iF, iB, iSa, iSb, iSc, iO, iBy⟩ := h'
  rcases xix2 v1 (n := n) (by omega) with h0 | ⟨f, hf, rfl⟩
  · right; left; refine ⟨xn b 0 1, ?_, ?_, rfl, h.code 1⟩ <;> simp [g_X4_swap_36, g_X4_swap_78, g_X4_swap_107, g_X4_swap_0, f_X4_swap, g_X5_swap_123, g_X5_swap_118, g_X5_swap_45, g_X5_swap_42, g_X5_swap_37, g_X5_swap_0, f_X5_swap, cf_out d0 h0, cf_out5 (c1.trans d0) h0, xn1, xn2]
  have f1 := cf_in d0 hn hf
  have f2 := cf_in5 (c1.trans d0) hn hf
  have hf6 : f < 60 := by omega
  have f60 := xi60 hf6
  have fc := xc (show f < 1000 by omega)
  rcases xix2 v2 (n := n) (by omega) with h0 | ⟨g, hg, rfl⟩
  · right; left; refine ⟨xn b 0 1, ?_, ?_, rfl, h.code 1⟩ <;> simp [g_X4_swap_36, g_X4_swap_78, g_X4_swap_107, g_X4_swap_0, f_X4_swap, g_X5_swap_123, g_X5_swap_118, g_X5_swap_45, g_X5_swap_42, g_X5_swap_37, g_X5_swap_0, f_X5_swap, f1, f2, cf_out d0 h0, cf_out5 (c1.trans d0) h0, xn1, xn2]
  have g1 := cf_in d0 hn hg
  have g2 := cf_in5 (c1.trans d0) hn hg
  have hg6 : g < 60 := by omega
  have g60 := xi60 hg6
  have gc := xc (show g < 1000 by omega)
  by_cases hfg : nI f = nI g
  · right; left; refine ⟨xn b 0 1, ?_, ?_, rfl, h.code 1⟩ <;> simp [g_X4_swap_36, g_X4_swap_78, g_X4_swap_107, g_X4_swap_0, f_X4_swap, g_X5_swap_123, g_X5_swap_118, g_X5_swap_45, g_X5_swap_42, g_X5_swap_37, g_X5_swap_0, f_X5_swap, f1, f2, g1, g2, hfg, xn1, xn2]
  by_cases h3 : a.1 3 f = a.1 3 g
  rotate_left
  · right; left; refine ⟨xn b 0 1, ?_, ?_, rfl, h.code 1⟩ <;> simp [g_X4_swap_36, g_X4_swap_78, g_X4_swap_107, g_X4_swap_0, f_X4_swap, g_X5_swap_123, g_X5_swap_118, g_X5_swap_45, g_X5_swap_42, g_X5_swap_37, g_X5_swap_0, f_X5_swap, f1, f2, g1, g2, hfg, h3, e3, f60, g60, fc, gc, xn1, xn2]
  have hne : ¬ f = g := fun hh => hfg (by rw [hh])
  rcases iSa f hf with h6 | ⟨m, hm, h6, h2⟩
  · right; right; refine ⟨xn (xn b 0 0) 0 2, ?_, ?_, rfl, (h.code 0).code 2⟩
    · simp [g_X4_swap_36, g_X4_swap_78, g_X4_swap_107, g_X4_swap_0, f_X4_swap, f1, g1, hfg, h3, h6, f60, g60, fc, gc]
    · simp [g_X5_swap_123, g_X5_swap_118, g_X5_swap_45, g_X5_swap_42, g_X5_swap_37, g_X5_swap_0, f_X5_swap, f2, g2, hfg, h3, e3, e6, h6, f60, g60, fc, gc, xn1, xn2]
  have fm := nI_m1 (show m < 2 ^ 31 by omega)
  have fp := nI_pos (show m < 2 ^ 31 by omega)
  rcases iSa g hg with k6 | ⟨q, hq, k6, k2⟩
  · right; right; refine ⟨xn (xn b 0 0) 0 2, ?_, ?_, rfl, (h.code 0).code 2⟩
    · simp [g_X4_swap_36, g_X4_swap_78, g_X4_swap_107, g_X4_swap_0, f_X4_swap, f1, g1, hfg, h3, h6, k6, fm, f60, g60, fc, gc]
    · simp [g_X5_swap_123, g_X5_swap_118, g_X5_swap_45, g_X5_swap_42, g_X5_swap_37, g_X5_swap_0, f_X5_swap, f2, g2, hfg, h3, e3, e6, h6, k6, fp, f60, g60, fc, gc, xn1, xn2]
  have qm := nI_m1 (show q < 2 ^ 31 by omega)
  have qp := nI_pos (show q < 2 ^ 31 by omega)
  by_cases hc1 : a.1 8 f = 0 ∧ ¬ nI q < a.1 5 f
  rotate_left
  · right; right; refine ⟨xn (xn b 0 0) 0 2, ?_, ?_, rfl, (h.code 0).code 2⟩
    · have w := cm_4 a hf6 (nI q)
      rw [if_neg hc1] at w
      simp [g_X4_swap_36, g_X4_swap_78, g_X4_swap_107, g_X4_swap_0, f_X4_swap, f1, g1, hfg, h3, h6, k6, fm, qm, f60, g60, fc, gc, w]
    · by_cases h8 : a.1 8 f = 0
      · have h5 : nI q < a.1 5 f := Classical.not_not.mp (fun hh => hc1 ⟨h8, hh⟩)
        by_cases k8 : a.1 8 g = 0 <;> simp [g_X5_swap_123, g_X5_swap_118, g_X5_swap_45, g_X5_swap_42, g_X5_swap_37, g_X5_swap_0, f_X5_swap, f2, g2, hfg, h3, e3, e6, e8, e5, h6, k6, fp, qp, f60, g60, fc, gc, xn1, xn2, h8, h5, k8]
      · simp [g_X5_swap_123, g_X5_swap_118, g_X5_swap_45, g_X5_swap_42, g_X5_swap_37, g_X5_swap_0, f_X5_swap, f2, g2, hfg, h3, e3, e6, e8, e5, h6, k6, fp, qp, f60, g60, fc, gc, xn1, xn2, h8]
  by_cases hc2 : a.1 8 g = 0 ∧ ¬ nI m < a.1 5 g
  rotate_left
  · right; right; refine ⟨xn (xn b 0 0) 0 2, ?_, ?_, rfl, (h.code 0).code 2⟩
    · have w1 := cm_4 a hf6 (nI q)
      have w2 := cm_4 a hg6 (nI m)
      rw [if_pos hc1] at w1
      rw [if_neg hc2] at w2
      simp [g_X4_swap_36, g_X4_swap_78, g_X4_swap_107, g_X4_swap_0, f_X4_swap, f1, g1, hfg, h3, h6, k6, fm, qm, f60, g60, fc, gc, w1, w2]
    · by_cases h8 : a.1 8 g = 0
      · have h5 : nI m < a.1 5 g := Classical.not_not.mp (fun hh => hc2 ⟨h8, hh⟩)
        have h5' : ¬ a.1 5 g ≤ nI m := Int32.not_le.mpr h5
        simp [g_X5_swap_123, g_X5_swap_118, g_X5_swap_45, g_X5_swap_42, g_X5_swap_37, g_X5_swap_0, f_X5_swap, f2, g2, hfg, h3, e3, e6, e8, e5, h6, k6, fp, qp, f60, g60, fc, gc, xn1, xn2, h8, hc1, h5']
      · simp [g_X5_swap_123, g_X5_swap_118, g_X5_swap_45, g_X5_swap_42, g_X5_swap_37, g_X5_swap_0, f_X5_swap, f2, g2, hfg, h3, e3, e6, e8, e5, h6, k6, fp, qp, f60, g60, fc, gc, xn1, xn2, h8, hc1]
  have h5' : a.1 5 g ≤ nI m := Int32.not_lt.mp hc2.2
  have hmq : ¬ q = m := by
    intro hh; subst hh
    exact hne (nI_j (by omega) (by omega) (h2.symm.trans k2))
  have o1 := (iSb.own hn hf hm h2).1
  have o2 := (iSb.own hn hg hq k2).1
  have hEs : xEq (xs (xs (xs (xs a 2 q (nI f)) 6 f (nI q)) 2 m (nI g)) 6 g (nI m)) (xs (xs (xs (xs (xn b 0 0) 2 m (nI g)) 6 g (nI m)) 2 q (nI f)) 6 f (nI q)) := by
    refine ⟨e0, e1, ?_, e3, e4, e5, ?_, e7, e8, e10, e11, e12, e13, c1, c2, c3⟩
    · show upd (upd (b.1 2) m (nI g)) q (nI f) = upd (upd (a.1 2) q (nI f)) m (nI g)
      rw [e2]; funext y; simp only [upd_e]
      by_cases y1 : y = q
      · subst y1; simp [hmq]
      · simp [y1]
    · show upd (upd (b.1 6) g (nI m)) f (nI q) = upd (upd (a.1 6) f (nI q)) g (nI m)
      rw [e6]; funext y; simp only [upd_e]
      by_cases y1 : y = f
      · subst y1; simp [hne]
      · simp [y1]
  have hLs : xLg (xs (xs (xs (xs a 2 q (nI f)) 6 f (nI q)) 2 m (nI g)) 6 g (nI m)) (xs (xs (xs (xs (xn b 0 0) 2 m (nI g)) 6 g (nI m)) 2 q (nI f)) 6 f (nI q)) := fun i => hl i
  have hIs : xIn (xs (xs (xs (xs a 2 q (nI f)) 6 f (nI q)) 2 m (nI g)) 6 g (nI m)) n k e := by
    refine ⟨hn, hk, he, d0, d1, d2, iF, iB, ?_, ?_, ?_, iO, iBy⟩
    · intro y hy
      show upd (upd (a.1 6) f (nI q)) g (nI m) y = -1 ∨ ∃ z, z < 240 ∧ upd (upd (a.1 6) f (nI q)) g (nI m) y = nI z ∧ upd (upd (a.1 2) q (nI f)) m (nI g) z = nI y
      simp only [upd_e]
      by_cases y1 : y = g
      · subst y1; right; exact ⟨m, hm, by simp, by simp⟩
      · by_cases y2 : y = f
        · subst y2; right; exact ⟨q, hq, by simp [y1], by simp [hmq]⟩
        · simp only [if_neg y1, if_neg y2]
          rcases iSa y hy with t | ⟨z, hz, t1, t2⟩
          · exact Or.inl t
          · right
            refine ⟨z, hz, t1, ?_⟩
            have z1 : ¬ z = m := by intro hh; subst hh; exact y2 (nI_j (by omega) (by omega) (t2.symm.trans h2))
            have z2 : ¬ z = q := by intro hh; subst hh; exact y1 (nI_j (by omega) (by omega) (t2.symm.trans k2))
            simp only [if_neg z1, if_neg z2]; exact t2
    · intro z hz
      show upd (upd (a.1 2) q (nI f)) m (nI g) z = -1 ∨ ∃ y, y < n ∧ upd (upd (a.1 2) q (nI f)) m (nI g) z = nI y ∧ upd (upd (a.1 6) f (nI q)) g (nI m) y = nI z ∧ a.1 1 z = a.1 3 y
      simp only [upd_e]
      by_cases z1 : z = m
      · subst z1; right; exact ⟨g, hg, by simp, by simp, o1.trans h3⟩
      · by_cases z2 : z = q
        · subst z2; right; exact ⟨f, hf, by simp [z1], by simp [hne], o2.trans h3.symm⟩
        · simp only [if_neg z1, if_neg z2]
          rcases iSb z hz with t | ⟨y, hy, t1, t2, t3⟩
          · exact Or.inl t
          · right
            refine ⟨y, hy, t1, ?_, t3⟩
            have y1 : ¬ y = f := by intro hh; subst hh; exact z1 (nI_j (by omega) (by omega) (t2.symm.trans h6))
            have y2 : ¬ y = g := by intro hh; subst hh; exact z2 (nI_j (by omega) (by omega) (t2.symm.trans k6))
            simp only [if_neg y1, if_neg y2]; exact t2
    · intro z hz t0
      have t := iSc z hz t0
      have z1 : ¬ z = m := by intro hh; subst hh; exact nI_m1 (by omega) (h2.symm.trans t.1)
      have z2 : ¬ z = q := by intro hh; subst hh; exact nI_m1 (by omega) (k2.symm.trans t.1)
      refine ⟨?_, t.2⟩
      show upd (upd (a.1 2) q (nI f)) m (nI g) z = -1
      simp only [upd_e, if_neg z1, if_neg z2]; exact t.1
  obtain ⟨a1, b2, n1, n2, nE, nL, ⟨e1', he1, q2⟩, nz, q0, q1, q3⟩ := nt_both hEs hLs d2 he 1 (nI f) (nI m) (nI q)
  have hx5 : f_X5_exchange (xn b 0 0) (nI m) (nI q) = some (xs (xs (xs (xs (xn b 0 0) 2 m (nI g)) 6 g (nI m)) 2 q (nI f)) 6 f (nI q)) := by
    have w1 : (xn b 0 0).1 2 q = nI g := by rw [xn1, e2]; exact k2
    have w2 : (xn b 0 0).1 2 m = nI f := by rw [xn1, e2]; exact h2
    have w3 : (xn b 0 0).1 1 m = a.1 3 f := by rw [xn1, e1]; exact o1
    have w4 : (xn b 0 0).1 1 q = a.1 3 f := by rw [xn1, e1, h3]; exact o2
    simp only [g_X5_exchange_52, g_X5_exchange_44, g_X5_exchange_0, f_X5_exchange, xi240 hm, xi240 hq, xc (show m < 1000 by omega), xc (show q < 1000 by omega), if_true, w1, w2, w3, pi_5 _ hm hg6, pi_5 _ hq hf6, Option.bind_some]
    refine congrArg some ?_
    have w5 : (xs (xs (xs (xs (xn b 0 0) 2 m (nI g)) 6 g (nI m)) 2 q (nI f)) 6 f (nI q)).1 1 q = a.1 3 f := w4
    rw [w5, xs_same _ 1 m (show (xs (xs (xs (xs (xn b 0 0) 2 m (nI g)) 6 g (nI m)) 2 q (nI f)) 6 f (nI q)).1 1 m = a.1 3 f from w3), xs_same _ 1 q w5]
  left
  refine ⟨a1, b2, ?_, ?_, q3, nE, nL, n, k, e1', hIs.same nz q0 q1 q2 he1⟩
  · simp [g_X4_swap_36, g_X4_swap_78, g_X4_swap_107, g_X4_swap_0, f_X4_swap, f1, g1, hfg, h3, h6, k6, fm, qm, f60, g60, fc, gc, cm_4 a hf6, cm_4 a hg6, hc1, hc2, pi_4 _ hq hf6, pi_4 _ hm hg6, n1]
  · simp [g_X5_swap_123, g_X5_swap_118, g_X5_swap_45, g_X5_swap_42, g_X5_swap_37, g_X5_swap_0, f_X5_swap, f2, g2, hfg, h3, e3, e6, e8, e5, h6, k6, fp, qp, f60, g60, fc, gc, xn1, xn2, hc1, hc2, h5', hx5, xs1, upd_e, n2]
