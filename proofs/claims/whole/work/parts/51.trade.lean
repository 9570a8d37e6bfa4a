theorem cl_both {a b : xT} {n k e o : Nat} (hE : xEq a b) (hL : xLg a b) (h : xIn a n k e) (ho : o < k) : ∃ a1 b1, f_X4_endAsTraded a (nI o) = some a1 ∧ f_X5_close b (nI o) = some b1 ∧ xEq a1 b1 ∧ xLg a1 b1 ∧ (∃ e1, xIn a1 n k e1) ∧ ∀ z, z < 13 → a1.1 z = a.1 z := by
  have h' := h
  obtain ⟨hn, hk, he, d0, d1, d2, iF, iB, iSa, iSb, iSc, iO, iBy⟩ := h'
  obtain ⟨g, w, hg, hw, hgw, q11, q12⟩ := iO o ho
  have hE1 := hE.set 13 o 0 (by omega)
  have hL1 := hL.set 13 o 0 (by omega)
  have hI1 : xIn (xs a 13 o 0) n k e := ⟨hn, hk, he, d0, d1, d2, iF, by
    intro i
    refine ⟨(iB i).1, (iB i).2.1, (iB i).2.2.1, ?_⟩
    show (upd (a.1 13) o 0 i = 0 ∨ upd (a.1 13) o 0 i = 1)
    rw [upd_e]; split
    · exact Or.inl rfl
    · exact (iB i).2.2.2, iSa, iSb, iSc, iO, iBy⟩
  obtain ⟨a1, b1, n1, n2, nE, nL, ⟨e1', he1, q2⟩, nz, p0, p1, p3⟩ := nt_both hE1 hL1 d2 he 2 (a.1 2 g) (nI g) (nI w)
  obtain ⟨e0, e1, e2, e3, e4, e5, e6, e7, e8, e10, e11, e12, e13, c1, c2, c3⟩ := hE
  have oi := xi40 (show o < 40 by omega)
  have oc := xc (show o < 1000 by omega)
  have gi := xi240 hg
  have gc := xc (show g < 1000 by omega)
  refine ⟨a1, b1, ?_, ?_, nE, nL, ⟨e1', hI1.same nz p0 p1 q2 he1⟩, ?_⟩
  · simp [g_X4_endAsTraded_20, g_X4_endAsTraded_0, f_X4_endAsTraded, oi, oc, q11, q12, gi, gc, xnb0, xs1, n1]
  · simp [g_X5_close_7, g_X5_close_0, f_X5_close, oi, oc, e11, e12, e2, q11, q12, gi, gc, xnb0, xs1, n2]
  · intro z hz
    rw [nz z (by omega), xs1, if_neg (by omega)]
theorem xIn.exch {a a1 : xT} {n k e g w : Nat} (h : xIn a n k e) (hg : g < 240) (hw : w < 240) (hgw : g ≠ w) (og : ¬ a.1 0 g = 0) (ow : ¬ a.1 0 w = 0)
    (z0 : a1.1 0 = a.1 0) (z1 : a1.1 1 = upd (upd (a.1 1) g (a.1 1 w)) w (a.1 1 g)) (z2 : a1.1 2 = upd (upd (a.1 2) g (a.1 2 w)) w (a.1 2 g)) (z3 : a1.1 3 = a.1 3) (z4 : a1.1 4 = a.1 4) (z5 : a1.1 5 = a.1 5)
    (z6 : ∀ f, f < n → a1.1 6 f = if a.1 2 w = nI f then nI g else if a.1 2 g = nI f then nI w else a.1 6 f) (z7 : a1.1 7 = a.1 7) (z8 : a1.1 8 = a.1 8) (z9 : a1.1 9 = a.1 9) (z11 : a1.1 11 = a.1 11) (z12 : a1.1 12 = a.1 12) (z13 : a1.1 13 = a.1 13) (y : a1.2 = a.2) : xIn a1 n k e := by
  obtain ⟨hn, hk, he, d0, d1, d2, iF, iB, iSa, iSb, iSc, iO, iBy⟩ := h
  have inj : ∀ m m' f, m < 240 → m' < 240 → f < n → a.1 2 m = nI f → a.1 2 m' = nI f → m = m' := by
    intro m m' f hm hm' hf h1 h2
    have p1 := (iSb.own hn hf hm h1).2
    have p2 := (iSb.own hn hf hm' h2).2
    exact nI_j (by omega) (by omega) (p1.symm.trans p2)
  refine ⟨hn, hk, he, by rw [y]; exact d0, by rw [y]; exact d1, by rw [y]; exact d2, ?_, ?_, ?_, ?_, ?_, ?_, ?_⟩
  · simpa only [xF, z3, z4, z5] using iF
  · simpa only [xBl, z0, z7, z8, z13] using iB
  · intro f hf
    rw [z6 f hf, z2]
    simp only [upd_e]
    by_cases h1 : a.1 2 w = nI f
    · right; refine ⟨g, hg, by rw [if_pos h1], ?_⟩
      rw [if_neg hgw, if_pos rfl]; exact h1
    · by_cases h2 : a.1 2 g = nI f
      · right; refine ⟨w, hw, by rw [if_neg h1, if_pos h2], ?_⟩
        rw [if_pos rfl]; exact h2
      · rw [if_neg h1, if_neg h2]
        rcases iSa f hf with t | ⟨m, hm, t1, t2⟩
        · exact Or.inl t
        · right; refine ⟨m, hm, t1, ?_⟩
          have m1 : ¬ m = w := by intro hh; subst hh; exact h1 t2
          have m2 : ¬ m = g := by intro hh; subst hh; exact h2 t2
          rw [if_neg m1, if_neg m2]; exact t2
  · intro m hm
    rw [z1, z2, z3]
    simp only [upd_e]
    by_cases m1 : m = w
    · simp only [if_pos m1]
      rcases iSb g hg with t | ⟨f, hf, t1, t2, t3⟩
      · exact Or.inl t
      · right; refine ⟨f, hf, t1, ?_, t3⟩
        rw [z6 f hf, if_neg (fun hh => hgw (inj g w f hg hw hf t1 hh)), if_pos t1, m1]
    · simp only [if_neg m1]
      by_cases m2 : m = g
      · simp only [if_pos m2]
        rcases iSb w hw with t | ⟨f, hf, t1, t2, t3⟩
        · exact Or.inl t
        · right; refine ⟨f, hf, t1, ?_, t3⟩
          rw [z6 f hf, if_pos t1, m2]
      · simp only [if_neg m2]
        rcases iSb m hm with t | ⟨f, hf, t1, t2, t3⟩
        · exact Or.inl t
        · right; refine ⟨f, hf, t1, ?_, t3⟩
          rw [z6 f hf, if_neg (fun hh => m1 (inj m w f hm hw hf t1 hh)), if_neg (fun hh => m2 (inj m g f hm hg hf t1 hh))]; exact t2
  · intro m hm t0
    rw [z0] at t0
    have t := iSc m hm t0
    have m1 : ¬ m = w := by intro hh; subst hh; exact ow t0
    have m2 : ¬ m = g := by intro hh; subst hh; exact og t0
    rw [z1, z2]
    simp only [upd_e, if_neg m1, if_neg m2]
    exact t
  · simpa only [xOf, z11, z12] using iO
  · simpa only [xBy, z9, z4] using iBy
theorem ex_both {a b : xT} {n k e g w : Nat} (hE : xEq a b) (hL : xLg a b) (h : xIn a n k e) (hg : g < 240) (hw : w < 240) (hgw : g ≠ w) (og : ¬ a.1 0 g = 0) (ow : ¬ a.1 0 w = 0) : ∃ a1 b1, f_X4_exchange a (nI g) (nI w) = some a1 ∧ f_X5_exchange b (nI g) (nI w) = some b1 ∧ xEq a1 b1 ∧ xLg a1 b1 ∧ xIn a1 n k e ∧ a1.2 = a.2 := by
  have h' := h
  obtain ⟨hn, hk, he, d0, d1, d2, iF, iB, iSa, iSb, iSc, iO, iBy⟩ := h'
  have hE' := hE
  obtain ⟨e0, e1, e2, e3, e4, e5, e6, e7, e8, e10, e11, e12, e13, c1, c2, c3⟩ := hE'
  have gi := xi240 hg
  have gc := xc (show g < 1000 by omega)
  have wi := xi240 hw
  have wc := xc (show w < 1000 by omega)
  have hwg : ¬ w = g := fun hh => hgw hh.symm
  rcases iSb g hg with h1 | ⟨f, hf, h1, u1, -⟩
  · rcases iSb w hw with h2 | ⟨f', hf', h2, u2, -⟩
    · refine ⟨xs (xs (xs (xs a 2 g (-1)) 1 g (a.1 1 w)) 2 w (-1)) 1 w (a.1 1 g), xs (xs (xs (xs b 2 g (-1)) 2 w (-1)) 1 g (b.1 1 w)) 1 w (b.1 1 g), ?_, ?_, ?_, fun i => hL i, ?_, rfl⟩
      · simp [g_X4_exchange_70, g_X4_exchange_53, g_X4_exchange_0, f_X4_exchange, gi, gc, wi, wc, h1, h2, pi_4n _ hg, pi_4n _ hw, xs1]
      · simp [g_X5_exchange_52, g_X5_exchange_44, g_X5_exchange_0, f_X5_exchange, gi, gc, wi, wc, e2, h1, h2, pi_5n _ hg, pi_5n _ hw, xs1]
      · refine ⟨e0, ?_, ?_, e3, e4, e5, e6, e7, e8, e10, e11, e12, e13, c1, c2, c3⟩
        · show upd (upd (b.1 1) g (b.1 1 w)) w (b.1 1 g) = upd (upd (a.1 1) g (a.1 1 w)) w (a.1 1 g)
          rw [e1]
        · show upd (upd (b.1 2) g (-1)) w (-1) = upd (upd (a.1 2) g (-1)) w (-1)
          rw [e2]
      · refine h.exch hg hw hgw og ow rfl rfl ?_ rfl rfl rfl ?_ rfl rfl rfl rfl rfl rfl rfl
        · rw [h1, h2]; rfl
        · intro f hf
          rw [h1, h2, if_neg (fun hh => nI_m1 (m := f) (by omega) hh.symm), if_neg (fun hh => nI_m1 (m := f) (by omega) hh.symm)]; rfl
    · have f6 : f' < 60 := by omega
      refine ⟨xs (xs (xs (xs (xs a 2 g (nI f')) 6 f' (nI g)) 1 g (a.1 1 w)) 2 w (-1)) 1 w (a.1 1 g), xs (xs (xs (xs (xs b 2 g (nI f')) 6 f' (nI g)) 2 w (-1)) 1 g (b.1 1 w)) 1 w (b.1 1 g), ?_, ?_, ?_, fun i => hL i, ?_, rfl⟩
      · simp [g_X4_exchange_70, g_X4_exchange_53, g_X4_exchange_0, f_X4_exchange, gi, gc, wi, wc, h1, h2, pi_4 _ hg f6, pi_4n _ hw, xs1]
      · simp [g_X5_exchange_52, g_X5_exchange_44, g_X5_exchange_0, f_X5_exchange, gi, gc, wi, wc, e2, h1, h2, pi_5 _ hg f6, pi_5n _ hw, xs1]
      · refine ⟨e0, ?_, ?_, e3, e4, e5, ?_, e7, e8, e10, e11, e12, e13, c1, c2, c3⟩
        · show upd (upd (b.1 1) g (b.1 1 w)) w (b.1 1 g) = upd (upd (a.1 1) g (a.1 1 w)) w (a.1 1 g)
          rw [e1]
        · show upd (upd (b.1 2) g (nI f')) w (-1) = upd (upd (a.1 2) g (nI f')) w (-1)
          rw [e2]
        · show upd (b.1 6) f' (nI g) = upd (a.1 6) f' (nI g)
          rw [e6]
      · refine h.exch hg hw hgw og ow rfl rfl ?_ rfl rfl rfl ?_ rfl rfl rfl rfl rfl rfl rfl
        · rw [h1, h2]; rfl
        · intro f hf
          show upd (a.1 6) f' (nI g) f = _
          rw [h1, h2, upd_e]
          by_cases hff : f = f'
          · subst hff; rw [if_pos rfl, if_pos rfl]
          · rw [if_neg hff, if_neg (fun hh => hff (nI_j (by omega) (by omega) hh).symm), if_neg (fun hh => nI_m1 (m := f) (by omega) hh.symm)]
  · have f6 : f < 60 := by omega
    rcases iSb w hw with h2 | ⟨f', hf', h2, u2, -⟩
    · refine ⟨xs (xs (xs (xs (xs a 2 g (-1)) 1 g (a.1 1 w)) 2 w (nI f)) 6 f (nI w)) 1 w (a.1 1 g), xs (xs (xs (xs (xs b 2 g (-1)) 2 w (nI f)) 6 f (nI w)) 1 g (b.1 1 w)) 1 w (b.1 1 g), ?_, ?_, ?_, fun i => hL i, ?_, rfl⟩
      · simp [g_X4_exchange_70, g_X4_exchange_53, g_X4_exchange_0, f_X4_exchange, gi, gc, wi, wc, h1, h2, pi_4n _ hg, pi_4 _ hw f6, xs1]
      · simp [g_X5_exchange_52, g_X5_exchange_44, g_X5_exchange_0, f_X5_exchange, gi, gc, wi, wc, e2, h1, h2, pi_5n _ hg, pi_5 _ hw f6, xs1]
      · refine ⟨e0, ?_, ?_, e3, e4, e5, ?_, e7, e8, e10, e11, e12, e13, c1, c2, c3⟩
        · show upd (upd (b.1 1) g (b.1 1 w)) w (b.1 1 g) = upd (upd (a.1 1) g (a.1 1 w)) w (a.1 1 g)
          rw [e1]
        · show upd (upd (b.1 2) g (-1)) w (nI f) = upd (upd (a.1 2) g (-1)) w (nI f)
          rw [e2]
        · show upd (b.1 6) f (nI w) = upd (a.1 6) f (nI w)
          rw [e6]
      · refine h.exch hg hw hgw og ow rfl rfl ?_ rfl rfl rfl ?_ rfl rfl rfl rfl rfl rfl rfl
        · rw [h1, h2]; rfl
        · intro f2 hf2
          show upd (a.1 6) f (nI w) f2 = _
          rw [h1, h2, upd_e, if_neg (show ¬ (-1 : Int32) = nI f2 from fun hh => nI_m1 (m := f2) (by omega) hh.symm)]
          by_cases hff : f2 = f
          · subst hff; rw [if_pos rfl, if_pos rfl]
          · rw [if_neg hff, if_neg (fun hh => hff (nI_j (by omega) (by omega) hh).symm)]
    · have f6' : f' < 60 := by omega
      have hne : ¬ f = f' := by
        intro hh; subst hh
        exact hgw (nI_j (by omega) (by omega) (u1.symm.trans u2))
      refine ⟨xs (xs (xs (xs (xs (xs a 2 g (nI f')) 6 f' (nI g)) 1 g (a.1 1 w)) 2 w (nI f)) 6 f (nI w)) 1 w (a.1 1 g), xs (xs (xs (xs (xs (xs b 2 g (nI f')) 6 f' (nI g)) 2 w (nI f)) 6 f (nI w)) 1 g (b.1 1 w)) 1 w (b.1 1 g), ?_, ?_, ?_, fun i => hL i, ?_, rfl⟩
      · simp [g_X4_exchange_70, g_X4_exchange_53, g_X4_exchange_0, f_X4_exchange, gi, gc, wi, wc, h1, h2, pi_4 _ hg f6', pi_4 _ hw f6, xs1]
      · simp [g_X5_exchange_52, g_X5_exchange_44, g_X5_exchange_0, f_X5_exchange, gi, gc, wi, wc, e2, h1, h2, pi_5 _ hg f6', pi_5 _ hw f6, xs1]
      · refine ⟨e0, ?_, ?_, e3, e4, e5, ?_, e7, e8, e10, e11, e12, e13, c1, c2, c3⟩
        · show upd (upd (b.1 1) g (b.1 1 w)) w (b.1 1 g) = upd (upd (a.1 1) g (a.1 1 w)) w (a.1 1 g)
          rw [e1]
        · show upd (upd (b.1 2) g (nI f')) w (nI f) = upd (upd (a.1 2) g (nI f')) w (nI f)
          rw [e2]
        · show upd (upd (b.1 6) f' (nI g)) f (nI w) = upd (upd (a.1 6) f' (nI g)) f (nI w)
          rw [e6]
      · refine h.exch hg hw hgw og ow rfl rfl ?_ rfl rfl rfl ?_ rfl rfl rfl rfl rfl rfl rfl
        · rw [h1, h2]; rfl
        · intro f2 hf2
          show upd (upd (a.1 6) f' (nI g)) f (nI w) f2 = _
          rw [h1, h2]
          simp only [upd_e]
          by_cases hff : f2 = f
          · subst hff
            rw [if_pos rfl, if_neg (fun hh => hne (nI_j (by omega) (by omega) hh).symm), if_pos rfl]
          · rw [if_neg hff]
            by_cases hff' : f2 = f'
            · subst hff'; rw [if_pos rfl, if_pos rfl]
            · rw [if_neg hff', if_neg (fun hh => hff' (nI_j (by omega) (by omega) hh).symm), if_neg (fun hh => hff (nI_j (by omega) (by omega) hh).symm)]
theorem tr_loop {n k : Nat} : ∀ (d j fu fv : Nat) (acc : Int32) (a b : xT) (e : Nat), xEq a b → xLg a b → xIn a n k e → k - j = d → j ≤ k → d < fu → d < fv → ∃ r a1 b1, g_X4_trade_4 fu a acc (nI j) = some (r, a1) ∧ g_X5_trade_9 fv b acc (nI j) = some (r, b1) ∧ xGd a1 b1 := by
  intro d
  induction d with
  | zero =>
    intro j fu fv acc a b e hE hL h hd hj hu hv
    obtain ⟨fu, rfl⟩ : ∃ q, fu = q + 1 := ⟨fu - 1, by omega⟩
    obtain ⟨fv, rfl⟩ : ∃ q, fv = q + 1 := ⟨fv - 1, by omega⟩
    have hj2 : j = k := by omega
    subst hj2
    have d1 := h.2.2.2.2.1
    have c2 := hE.2.2.2.2.2.2.2.2.2.2.2.2.2.2.1
    refine ⟨acc, a, b, ?_, ?_, hE, hL, n, j, e, h⟩
    · show g_X4_trade_4s (g_X4_trade_4 fu) a acc (nI j) = _
      simp [g_X4_trade_31, g_X4_trade_4s, g_X4_trade_0, f_X4_trade, d1]
    · show g_X5_trade_9s (g_X5_trade_9 fv) b acc (nI j) = _
      simp [g_X5_trade_108, g_X5_trade_92, g_X5_trade_70, g_X5_trade_59, g_X5_trade_45, g_X5_trade_9s, g_X5_trade_5, g_X5_trade_0, f_X5_trade, c2, d1]
  | succ d ih =>
    intro j fu fv acc a b e hE hL h hd hj hu hv
    obtain ⟨fu, rfl⟩ : ∃ q, fu = q + 1 := ⟨fu - 1, by omega⟩
    obtain ⟨fv, rfl⟩ : ∃ q, fv = q + 1 := ⟨fv - 1, by omega⟩
    have hjk : j < k := by omega
    have h' := h
    obtain ⟨hn, hk, he, d0, d1, d2, iF, iB, iSa, iSb, iSc, iO, iBy⟩ := h'
    have hE' := hE
    obtain ⟨e0, e1, e2, e3, e4, e5, e6, e7, e8, e10, e11, e12, e13, c1, c2, c3⟩ := hE'
    have hge := nI_ge hjk (show k < 2 ^ 31 by omega)
    have s1 : ∀ r, (g_X4_trade_4 (fu + 1) a acc (nI j) = r) = (g_X4_trade_4s (g_X4_trade_4 fu) a acc (nI j) = r) := fun _ => rfl
    have s2 : ∀ r, (g_X5_trade_9 (fv + 1) b acc (nI j) = r) = (g_X5_trade_9s (g_X5_trade_9 fv) b acc (nI j) = r) := fun _ => rfl
    obtain ⟨t, tc, t1, t2⟩ := go_both hE h hjk
    have ji := xi40 (show j < 40 by omega)
    have jc := xc (show j < 1000 by omega)
    rcases tc with rfl | ⟨rfl, g, w, hg, hw, hgw, q11, q12, og, ow⟩
    · obtain ⟨r, a1, b1, r1, r2, r3⟩ := ih (j + 1) fu fv acc a b e hE hL h (by omega) (by omega) (by omega) (by omega)
      refine ⟨r, a1, b1, ?_, ?_, r3⟩
      · rw [s1]; simp [g_X4_trade_31, g_X4_trade_4s, g_X4_trade_0, f_X4_trade, d1, hge, t1, xp1, r1]
      · rw [s2]; simp [g_X5_trade_108, g_X5_trade_92, g_X5_trade_70, g_X5_trade_59, g_X5_trade_45, g_X5_trade_9s, g_X5_trade_5, g_X5_trade_0, f_X5_trade, c2, d1, hge, t2, xp1, r2]
    have wi := xi240 hw
    have wc := xc (show w < 1000 by omega)
    by_cases hfr : a.1 1 w = -1
    · obtain ⟨a1, b1, m1, m2, mE, mL, ⟨e1', mI⟩, mz⟩ := cl_both hE hL h hjk
      obtain ⟨a2, b2, x1, x2, xE, xL, xI, -⟩ := ex_both mE mL mI hg hw hgw (by rw [mz 0 (by decide)]; exact og) (by rw [mz 0 (by decide)]; exact ow)
      obtain ⟨r, a3, b3, r1, r2, r3⟩ := ih (j + 1) fu fv (acc + 1) a2 b2 e1' xE xL xI (by omega) (by omega) (by omega) (by omega)
      refine ⟨r, a3, b3, ?_, ?_, r3⟩
      · rw [s1]; simp [g_X4_trade_31, g_X4_trade_4s, g_X4_trade_0, f_X4_trade, g_X4_carryOutIfPossible_0, f_X4_carryOutIfPossible, d1, hge, t1, ji, jc, q11, q12, wi, wc, hfr, m1, x1, xp1, r1]
      · have b11 : b1.1 11 j = nI g := by rw [mE.2.2.2.2.2.2.2.2.2.2.1, mz 11 (by decide)]; exact q11
        have b12 : b1.1 12 j = nI w := by rw [mE.2.2.2.2.2.2.2.2.2.2.2.1, mz 12 (by decide)]; exact q12
        rw [s2]; simp [g_X5_trade_108, g_X5_trade_92, g_X5_trade_70, g_X5_trade_59, g_X5_trade_45, g_X5_trade_9s, g_X5_trade_5, g_X5_trade_0, f_X5_trade, c2, d1, hge, t2, ji, jc, e12, e1, q12, wi, wc, hfr, m2, b11, b12, x2, xp1, r2]
    · obtain ⟨p, p1, p2, p3⟩ := pa_both hE h hjk
      rcases p3 with rfl | ⟨i, hi, rfl⟩
      · obtain ⟨r, a1, b1, r1, r2, r3⟩ := ih (j + 1) fu fv acc a b e hE hL h (by omega) (by omega) (by omega) (by omega)
        refine ⟨r, a1, b1, ?_, ?_, r3⟩
        · rw [s1]; simp [g_X4_trade_31, g_X4_trade_4s, g_X4_trade_0, f_X4_trade, g_X4_carryOutIfPossible_0, f_X4_carryOutIfPossible, d1, hge, t1, ji, jc, q11, q12, wi, wc, hfr, p1, xp1, r1]
        · rw [s2]; simp [g_X5_trade_108, g_X5_trade_92, g_X5_trade_70, g_X5_trade_59, g_X5_trade_45, g_X5_trade_9s, g_X5_trade_5, g_X5_trade_0, f_X5_trade, c2, d1, hge, t2, ji, jc, e12, e1, q12, wi, wc, hfr, p2, xp1, r2]
      · obtain ⟨a1, b1, m1, m2, mE, mL, ⟨e1', mI⟩, mz⟩ := cl_both hE hL h hjk
        obtain ⟨a4, b4, k1, k2, kE, kL, ⟨e4', kI⟩, kz⟩ := cl_both mE mL mI hi
        obtain ⟨a2, b2, x1, x2, xE, xL, xI, -⟩ := ex_both kE kL kI hg hw hgw (by rw [kz 0 (by decide), mz 0 (by decide)]; exact og) (by rw [kz 0 (by decide), mz 0 (by decide)]; exact ow)
        obtain ⟨r, a3, b3, r1, r2, r3⟩ := ih (j + 1) fu fv (acc + 2) a2 b2 e4' xE xL xI (by omega) (by omega) (by omega) (by omega)
        refine ⟨r, a3, b3, ?_, ?_, r3⟩
        · rw [s1]; simp [g_X4_trade_31, g_X4_trade_4s, g_X4_trade_0, f_X4_trade, g_X4_carryOutIfPossible_0, f_X4_carryOutIfPossible, d1, hge, t1, ji, jc, q11, q12, wi, wc, hfr, p1, nI_m1 (show i < 2 ^ 31 by omega), m1, k1, x1, xp1, r1]
        · have b11 : b4.1 11 j = nI g := by rw [kE.2.2.2.2.2.2.2.2.2.2.1, kz 11 (by decide), mz 11 (by decide)]; exact q11
          have b12 : b4.1 12 j = nI w := by rw [kE.2.2.2.2.2.2.2.2.2.2.2.1, kz 12 (by decide), mz 12 (by decide)]; exact q12
          have h2 : acc + 1 + 1 = acc + 2 := by rw [Int32.add_assoc]; rfl
          rw [s2]; simp [g_X5_trade_108, g_X5_trade_92, g_X5_trade_70, g_X5_trade_59, g_X5_trade_45, g_X5_trade_9s, g_X5_trade_5, g_X5_trade_0, f_X5_trade, c2, d1, hge, t2, ji, jc, e12, e1, q12, wi, wc, hfr, p2, nI_pos (show i < 2 ^ 31 by omega), m2, k2, b11, b12, x2, xp1, h2, r2]
theorem ag_trade : xAg_trade xGd := by
  intro a b h
  obtain ⟨hE, hL, n, k, e, hI⟩ := h
  have hk := hI.2.1
  obtain ⟨r, a1, b1, r1, r2, r3⟩ := tr_loop k 0 1000 1000 0 a (xn b 0 0) e (hE.code 0) (hL.code 0) hI rfl (by omega) (by omega) (by omega)
  rw [z0] at r1 r2
  exact ⟨r, a1, b1, r1, r2, r3⟩
