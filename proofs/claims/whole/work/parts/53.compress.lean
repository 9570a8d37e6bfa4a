/-- a flight moves forward -/
theorem xIn.move {a a1 : xT} {n k e f m t : Nat} (h : xIn a n k e) (hf : f < n) (hm : m < 240) (ht : t < 240) (hem : xEm a m) (h6 : a.1 6 f = nI t)
    (z0 : a1.1 0 = a.1 0) (z1 : a1.1 1 = upd (upd (a.1 1) t (if a.1 1 m = a.1 3 f then a.1 1 t else a.1 1 m)) m (a.1 3 f)) (z2 : a1.1 2 = upd (upd (a.1 2) t (-1)) m (nI f)) (z3 : a1.1 3 = a.1 3) (z4 : a1.1 4 = a.1 4) (z5 : a1.1 5 = a.1 5)
    (z6 : a1.1 6 = upd (a.1 6) f (nI m)) (z7 : a1.1 7 = a.1 7) (z8 : a1.1 8 = a.1 8) (z9 : a1.1 9 = a.1 9) (z11 : a1.1 11 = a.1 11) (z12 : a1.1 12 = a.1 12) (z13 : a1.1 13 = a.1 13) (y : a1.2 = a.2) : xIn a1 n k e := by
  obtain ⟨hn, hk, he, d0, d1, d2, iF, iB, iSa, iSb, iSc, iO, iBy⟩ := h
  have h2 := iSa.at2 hn hf ht h6
  have hmt : ¬ m = t := by intro hh; subst hh; exact nI_m1 (m := f) (by omega) (h2.symm.trans hem.2)
  refine ⟨hn, hk, he, by rw [y]; exact d0, by rw [y]; exact d1, by rw [y]; exact d2, ?_, ?_, ?_, ?_, ?_, ?_, ?_⟩
  · simpa only [xF, z3, z4, z5] using iF
  · simpa only [xBl, z0, z7, z8, z13] using iB
  · intro g hg
    rw [z6, z2]
    simp only [upd_e]
    by_cases hgf : g = f
    · right; refine ⟨m, hm, by rw [if_pos hgf], by rw [if_pos rfl, hgf]⟩
    · rw [if_neg hgf]
      rcases iSa g hg with p | ⟨q, hq, p1, p2⟩
      · exact Or.inl p
      · right; refine ⟨q, hq, p1, ?_⟩
        have q1 : ¬ q = m := by intro hh; subst hh; exact nI_m1 (m := g) (by omega) (p2.symm.trans hem.2)
        have q2 : ¬ q = t := by intro hh; subst hh; exact hgf (nI_j (by omega) (by omega) (p2.symm.trans h2))
        rw [if_neg q1, if_neg q2]; exact p2
  · intro q hq
    rw [z1, z2, z3, z6]
    simp only [upd_e]
    by_cases q1 : q = m
    · right; refine ⟨f, hf, by rw [if_pos q1], by rw [if_pos rfl, q1], by rw [if_pos q1]⟩
    · simp only [if_neg q1]
      by_cases q2 : q = t
      · left; rw [if_pos q2]
      · simp only [if_neg q2]
        rcases iSb q hq with p | ⟨g, hg, p1, p2, p3⟩
        · exact Or.inl p
        · right; refine ⟨g, hg, p1, ?_, p3⟩
          have : ¬ g = f := by intro hh; subst hh; exact q2 (nI_j (by omega) (by omega) (p2.symm.trans h6))
          rw [if_neg this]; exact p2
  · intro q hq t0
    rw [z0] at t0
    have p := iSc q hq t0
    have q1 : ¬ q = m := by intro hh; subst hh; exact hem.1 t0
    have q2 : ¬ q = t := by intro hh; subst hh; exact nI_m1 (m := f) (by omega) (h2.symm.trans p.1)
    rw [z1, z2]
    simp only [upd_e, if_neg q1, if_neg q2]
    exact p
  · simpa only [xOf, z11, z12] using iO
  · simpa only [xBy, z9, z4] using iBy
theorem mo_both {a b : xT} {n k e f m t : Nat} (hE : xEq a b) (hL : xLg a b) (h : xIn a n k e) (hf : f < n) (hm : m < 240) (ht : t < 240) (hem : xEm a m) (h6 : a.1 6 f = nI t) (K : xT → Int32 → Option (Int32 × xT)) : ∃ a1 b1, f_X4_moveForward a (nI f) (nI m) = some a1 ∧ g_X5_moves_58 K b (nI m) (nI f) = some (1, b1) ∧ xEq a1 b1 ∧ xLg a1 b1 ∧ (∃ e1, xIn a1 n k e1) ∧ a1.1 0 = a.1 0 ∧ a1.1 2 = upd (upd (a.1 2) t (-1)) m (nI f) ∧ a1.1 6 = upd (a.1 6) f (nI m) ∧ a1.1 8 = a.1 8 ∧ a1.1 5 = a.1 5 := by
  have h' := h
  obtain ⟨hn, hk, he, d0, d1, d2, iF, iB, iSa, iSb, iSc, iO, iBy⟩ := h'
  have hE' := hE
  obtain ⟨e0, e1, e2, e3, e4, e5, e6, e7, e8, e10, e11, e12, e13, c1, c2, c3⟩ := hE'
  have h2 := iSa.at2 hn hf ht h6
  have hmt : ¬ m = t := by intro hh; subst hh; exact nI_m1 (m := f) (by omega) (h2.symm.trans hem.2)
  have hf6 : f < 60 := by omega
  have fi := xi60 hf6
  have fc := xc (show f < 1000 by omega)
  have mi := xi240 hm
  have mc := xc (show m < 1000 by omega)
  have ti := xi240 ht
  have tc := xc (show t < 1000 by omega)
  have fp := nI_pos (show f < 2 ^ 31 by omega)
  by_cases ho : a.1 1 m = a.1 3 f
  · have hEs : xEq (xs (xs (xs (xs a 2 t (-1)) 2 m (nI f)) 6 f (nI m)) 1 m (a.1 3 f)) (xs (xs (xs (xs (xs b 2 t (-1)) 1 t (b.1 1 t)) 1 m (a.1 3 f)) 2 m (nI f)) 6 f (nI m)) := by
      refine ⟨e0, ?_, ?_, e3, e4, e5, ?_, e7, e8, e10, e11, e12, e13, c1, c2, c3⟩
      · show upd (upd (b.1 1) t (b.1 1 t)) m (a.1 3 f) = upd (a.1 1) m (a.1 3 f)
        have : upd (b.1 1) t (b.1 1 t) = b.1 1 := by funext y; rw [upd_e]; split; rename_i hy; rw [hy]; rfl
        rw [this, e1]
      · show upd (upd (b.1 2) t (-1)) m (nI f) = upd (upd (a.1 2) t (-1)) m (nI f)
        rw [e2]
      · show upd (b.1 6) f (nI m) = upd (a.1 6) f (nI m)
        rw [e6]
    have hLs : xLg (xs (xs (xs (xs a 2 t (-1)) 2 m (nI f)) 6 f (nI m)) 1 m (a.1 3 f)) (xs (xs (xs (xs (xs b 2 t (-1)) 1 t (b.1 1 t)) 1 m (a.1 3 f)) 2 m (nI f)) 6 f (nI m)) := fun i => hL i
    have hIs : xIn (xs (xs (xs (xs a 2 t (-1)) 2 m (nI f)) 6 f (nI m)) 1 m (a.1 3 f)) n k e := by
      refine h.move hf hm ht hem h6 rfl ?_ rfl rfl rfl rfl rfl rfl rfl rfl rfl rfl rfl rfl
      show upd (a.1 1) m (a.1 3 f) = _
      rw [if_pos ho]
      have : upd (a.1 1) t (a.1 1 t) = a.1 1 := by funext y; rw [upd_e]; split; rename_i hy; rw [hy]; rfl
      rw [this]
    obtain ⟨a1, b1, n1, n2, nE, nL, ⟨e1', he1, q2⟩, nz, p0, p1, p3⟩ := nt_both hEs hLs d2 he 3 (nI f) (nI t) (nI m)
    refine ⟨a1, b1, ?_, ?_, nE, nL, ⟨e1', hIs.same nz p0 p1 q2 he1⟩, nz 0 (by decide), nz 2 (by decide), nz 6 (by decide), nz 8 (by decide), nz 5 (by decide)⟩
    · simp [g_X4_moveForward_73, g_X4_moveForward_62, g_X4_moveForward_0, f_X4_moveForward, fi, fc, h6, pi_4n _ ht, pi_4 _ hm hf6, mi, mc, xs1, ho, n1]
    · simp [g_X5_moves_58, g_X5_moves_77, g_X5_moves_112, g_X5_moves_113, g_X5_moves_125, fp, fi, fc, e6, h6, ti, tc, mi, mc, xs1, e1, e3, ho, pi_5 _ hm hf6]
      rw [← e1, n2]; rfl
  · have hEs : xEq (xs (xs (xs (xs (xs a 2 t (-1)) 2 m (nI f)) 6 f (nI m)) 1 t (a.1 1 m)) 1 m (a.1 3 f)) (xs (xs (xs (xs (xs b 2 t (-1)) 1 t (a.1 1 m)) 1 m (a.1 3 f)) 2 m (nI f)) 6 f (nI m)) := by
      refine ⟨e0, ?_, ?_, e3, e4, e5, ?_, e7, e8, e10, e11, e12, e13, c1, c2, c3⟩
      · show upd (upd (b.1 1) t (a.1 1 m)) m (a.1 3 f) = upd (upd (a.1 1) t (a.1 1 m)) m (a.1 3 f)
        rw [e1]
      · show upd (upd (b.1 2) t (-1)) m (nI f) = upd (upd (a.1 2) t (-1)) m (nI f)
        rw [e2]
      · show upd (b.1 6) f (nI m) = upd (a.1 6) f (nI m)
        rw [e6]
    have hLs : xLg (xs (xs (xs (xs (xs a 2 t (-1)) 2 m (nI f)) 6 f (nI m)) 1 t (a.1 1 m)) 1 m (a.1 3 f)) (xs (xs (xs (xs (xs b 2 t (-1)) 1 t (a.1 1 m)) 1 m (a.1 3 f)) 2 m (nI f)) 6 f (nI m)) := fun i => hL i
    have hIs : xIn (xs (xs (xs (xs (xs a 2 t (-1)) 2 m (nI f)) 6 f (nI m)) 1 t (a.1 1 m)) 1 m (a.1 3 f)) n k e := by
      refine h.move hf hm ht hem h6 rfl ?_ rfl rfl rfl rfl rfl rfl rfl rfl rfl rfl rfl rfl
      show upd (upd (a.1 1) t (a.1 1 m)) m (a.1 3 f) = _
      rw [if_neg ho]
    obtain ⟨a1, b1, n1, n2, nE, nL, ⟨e1', he1, q2⟩, nz, p0, p1, p3⟩ := nt_both hEs hLs d2 he 3 (nI f) (nI t) (nI m)
    refine ⟨a1, b1, ?_, ?_, nE, nL, ⟨e1', hIs.same nz p0 p1 q2 he1⟩, nz 0 (by decide), nz 2 (by decide), nz 6 (by decide), nz 8 (by decide), nz 5 (by decide)⟩
    · simp [g_X4_moveForward_73, g_X4_moveForward_62, g_X4_moveForward_0, f_X4_moveForward, fi, fc, h6, pi_4n _ ht, pi_4 _ hm hf6, ti, tc, mi, mc, xs1, ho, n1]
    · simp [g_X5_moves_58, g_X5_moves_77, g_X5_moves_112, g_X5_moves_113, g_X5_moves_125, fp, fi, fc, e6, h6, ti, tc, mi, mc, xs1, e1, e3, ho, pi_5 _ hm hf6, n2]
/-- under minute j nothing can move -/
def xDn (a : xT) (n j : Nat) : Prop := ∀ m, m < j → xEm a m → ∀ g, g < n → ¬ xMv a m g
theorem sk_5 {a b : xT} {n k e j : Nat} (hE : xEq a b) (h : xIn a n k e) (hj : j ≤ 240) (hd : xDn a n j) : ∀ (d s fu : Nat), j - s = d → s ≤ j → d ≤ fu → g_X5_moves_2 fu b (nI s) = g_X5_moves_2 (fu - d) b (nI j) := by
  obtain ⟨hn, hk, he, d0, d1, d2, iF, iB, iSa, iSb, iSc, iO, iBy⟩ := h
  obtain ⟨e0, e1, e2, e3, e4, e5, e6, e7, e8, e10, e11, e12, e13, c1, c2, c3⟩ := hE
  intro d
  induction d with
  | zero =>
    intro s fu hs hsj hu
    have : s = j := by omega
    subst this; rfl
  | succ d ih =>
    intro s fu hs hsj hu
    obtain ⟨fu, rfl⟩ : ∃ q, fu = q + 1 := ⟨fu - 1, by omega⟩
    obtain ⟨r, r1, r2⟩ := ch_5 hn d0 c1 e0 e1 e2 e3 e5 e6 e8 iF iSb (show s < 240 by omega) (g_X5_moves_2 fu)
    have hr : r = -1 := by
      rcases r1 with ⟨p, -⟩ | ⟨he, f, hf, -, p, -⟩
      · exact p
      · exact absurd p (hd s (by omega) he f hf)
    subst hr
    have : g_X5_moves_2 (fu + 1) b (nI s) = g_X5_moves_2 fu b (nI (s + 1)) := by
      show g_X5_moves_2s (g_X5_moves_2 fu) b (nI s) = _
      rw [r2]
      simp [g_X5_moves_58, xp1]
    rw [this, ih (s + 1) fu (by omega) (by omega) (by omega), show fu + 1 - (d + 1) = fu - d by omega]
theorem co_loop {n k : Nat} : ∀ (d j fu fv : Nat) (acc : Int32) (a b : xT) (e : Nat), xEq a b → xLg a b → xIn a n k e → xDn a n j → 240 - j = d → j ≤ 240 → d < fu → d < fv → ∃ r a1 b1, g_X4_compress_4 fu a acc (nI j) = some (r, a1) ∧ g_X5_compress_7 fv b acc = some (r, b1) ∧ xGd a1 b1 := by
  intro d
  induction d with
  | zero =>
    intro j fu fv acc a b e hE hL h hdn hd hj hu hv
    obtain ⟨fu, rfl⟩ : ∃ q, fu = q + 1 := ⟨fu - 1, by omega⟩
    obtain ⟨fv, rfl⟩ : ∃ q, fv = q + 1 := ⟨fv - 1, by omega⟩
    have hj2 : j = 240 := by omega
    subst hj2
    have hm : f_X5_moves b = some (0, b) := by
      show g_X5_moves_2 1000 b (nI 0) = _
      rw [sk_5 hE h hj hdn 240 0 1000 rfl (by omega) (by omega)]
      show g_X5_moves_2s (g_X5_moves_2 759) b (nI 240) = _
      simp [g_X5_moves_2s, x240]
    refine ⟨acc, a, b, ?_, ?_, hE, hL, n, k, e, h⟩
    · show g_X4_compress_4s (g_X4_compress_4 fu) a acc (nI 240) = _
      simp [g_X4_compress_31, g_X4_compress_4s, g_X4_compress_0, f_X4_compress, x240]
    · show g_X5_compress_7s (g_X5_compress_7 fv) b acc = _
      simp [g_X5_compress_7s, g_X5_compress_5, g_X5_compress_0, f_X5_compress, hm]
  | succ d ih =>
    intro j fu fv acc a b e hE hL h hdn hd hj hu hv
    obtain ⟨fu, rfl⟩ : ∃ q, fu = q + 1 := ⟨fu - 1, by omega⟩
    have hj2 : j < 240 := by omega
    have hge := nI_ge hj2 (show 240 < 2 ^ 31 by decide)
    have h' := h
    obtain ⟨hn, hk, he, d0, d1, d2, iF, iB, iSa, iSb, iSc, iO, iBy⟩ := h'
    have hE' := hE
    obtain ⟨e0, e1, e2, e3, e4, e5, e6, e7, e8, e10, e11, e12, e13, c1, c2, c3⟩ := hE'
    have s1 : ∀ r, (g_X4_compress_4 (fu + 1) a acc (nI j) = r) = (g_X4_compress_4s (g_X4_compress_4 fu) a acc (nI j) = r) := fun _ => rfl
    obtain ⟨r, r1, r2⟩ := ch_4 hn iSa iSb hj2
    have r2' := r2
    rcases r2 with ⟨rfl, p⟩ | ⟨hem, f, hf, rfl, hmv, -⟩
    · obtain ⟨t, a1, b1, t1, t2, t3⟩ := ih (j + 1) fu fv acc a b e hE hL h (by
        intro m hm hem g hg
        by_cases hmj : m = j
        · subst hmj; exact p hem g hg
        · exact hdn m (by omega) hem g hg) (by omega) (by omega) (by omega) (by omega)
      refine ⟨t, a1, b1, ?_, t2, t3⟩
      rw [s1]; simp [g_X4_compress_31, g_X4_compress_4s, g_X4_compress_0, f_X4_compress, x240, hge, r1, xp1, t1]
    · obtain ⟨fv, rfl⟩ : ∃ q, fv = q + 1 := ⟨fv - 1, by omega⟩
      obtain ⟨t, q1, q2, q3, q4⟩ := mv_at iSa hf hj2 hmv
      obtain ⟨r', w1, w2⟩ := ch_5 hn d0 c1 e0 e1 e2 e3 e5 e6 e8 iF iSb hj2 (g_X5_moves_2 (999 - j))
      have hrr := r2'.uniq iSa hn hj2 w1
      subst hrr
      obtain ⟨a1, b1, m1, m2, mE, mL, ⟨e1', mI⟩, y0, y2, y6, y8, y5⟩ := mo_both hE hL h hf hj2 q2 hem q3 (g_X5_moves_2 (999 - j))
      have hm : f_X5_moves b = some (1, b1) := by
        show g_X5_moves_2 1000 b (nI 0) = _
        rw [sk_5 hE h hj hdn j 0 1000 rfl (by omega) (by omega), show 1000 - j = (999 - j) + 1 by omega]
        show g_X5_moves_2s (g_X5_moves_2 (999 - j)) b (nI j) = _
        rw [w2]; exact m2
      obtain ⟨r, a2, b2, t1, t2, t3⟩ := ih (j + 1) fu fv (acc + 1) a1 b1 e1' mE mL mI (by
        intro m hm' hem' g hg hmv'
        have hmt : ¬ m = t := by omega
        by_cases hmj : m = j
        · subst hmj
          have := hem'.2
          rw [y2] at this
          simp only [upd_e] at this
          rw [if_pos trivial] at this
          exact nI_m1 (m := f) (by omega) this
        · have em : xEm a m := by
            refine ⟨by rw [← y0]; exact hem'.1, ?_⟩
            have := hem'.2
            rw [y2] at this
            simp only [upd_e] at this
            rw [if_neg hmj, if_neg hmt] at this
            exact this
          refine hdn m (by omega) em g hg ⟨?_, by rw [← y8]; exact hmv'.2.1, by rw [← y5]; exact hmv'.2.2⟩
          by_cases hgf : g = f
          · subst hgf; rw [q3]; exact nI_ge (by omega) (by omega)
          · have := hmv'.1
            rw [y6, upd_e, if_neg hgf] at this
            exact this) (by omega) (by omega) (by omega) (by omega)
      refine ⟨r, a2, b2, ?_, ?_, t3⟩
      · rw [s1]; simp [g_X4_compress_31, g_X4_compress_4s, g_X4_compress_0, f_X4_compress, x240, hge, r1, nI_m1 (show f < 2 ^ 31 by omega), m1, xp1, t1]
      · show g_X5_compress_7s (g_X5_compress_7 fv) b acc = _
        simp [g_X5_compress_7s, g_X5_compress_5, g_X5_compress_0, f_X5_compress, hm, t2]
theorem ag_compress : xAg_compress xGd := by
  intro a b h
  obtain ⟨hE, hL, n, k, e, hI⟩ := h
  obtain ⟨r, a1, b1, r1, r2, r3⟩ := co_loop 240 0 1000 1000 0 a (xn b 0 0) e (hE.code 0) (hL.code 0) hI (fun m hm => by omega) rfl (by omega) (by omega) (by omega)
  rw [z0] at r1
  exact ⟨r, a1, b1, r1, r2, r3⟩
