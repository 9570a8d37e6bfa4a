/-- minutes of the quarter up to offset o have their new state -/
def xT0 (a s : xT) (q r o : Nat) : Prop := ∀ m, (15 * q ≤ m ∧ m < 15 * q + o → (s.1 0 m = 0 ∧ ¬ xhs r (m - 15 * q)) ∨ (s.1 0 m = 1 ∧ xhs r (m - 15 * q))) ∧ (¬ (15 * q ≤ m ∧ m < 15 * q + o) → s.1 0 m = a.1 0 m)
theorem xT0.step {a s s1 : xT} {q r o : Nat} {t : Int32} (h : xT0 a s q r o) (ht : (t = 0 ∧ ¬ xhs r o) ∨ (t = 1 ∧ xhs r o)) (hs : s1.1 0 = upd (s.1 0) (15 * q + o) t) : xT0 a s1 q r (o + 1) := by
  intro m
  rw [hs, upd_e]
  by_cases hm : m = 15 * q + o
  · rw [if_pos hm]
    have : m - 15 * q = o := by omega
    rw [this]
    exact ⟨fun _ => ht, fun hh => absurd ⟨by omega, by omega⟩ hh⟩
  · rw [if_neg hm]
    exact ⟨fun hh => (h m).1 ⟨hh.1, by omega⟩, fun hh => (h m).2 (fun h2 => hh ⟨h2.1, by omega⟩)⟩
theorem vn01 {t : Int32} {P Q : Prop} (h : (t = 0 ∧ P) ∨ (t = 1 ∧ Q)) : vp_nar .boolean t = t := by
  rcases h with ⟨rfl, -⟩ | ⟨rfl, -⟩ <;> rfl
theorem sr_4 {a : xT} {q r : Nat} (hq : q < 16) (hr : r ≤ 8) : ∀ (d o fu : Nat) (s : xT), xT0 a s q r o → s.2 = a.2 → (∀ z, z ≠ 0 → s.1 z = a.1 z) → 15 - o = d → o ≤ 15 → d < fu → ∃ s', g_X3_setRate_8 fu s (nI r) (nI (15 * q)) (nI o) = some s' ∧ xT0 a s' q r 15 ∧ s'.2 = a.2 ∧ ∀ z, z ≠ 0 → s'.1 z = a.1 z := by
  intro d
  induction d with
  | zero =>
    intro o fu s h0 h1 h2 hd ho hu
    obtain ⟨fu, rfl⟩ : ∃ q, fu = q + 1 := ⟨fu - 1, by omega⟩
    have : o = 15 := by omega
    subst this
    refine ⟨s, ?_, h0, h1, h2⟩
    show g_X3_setRate_8s (g_X3_setRate_8 fu) s (nI r) (nI (15 * q)) (nI 15) = _
    simp [g_X3_setRate_8s, x15]
  | succ d ih =>
    intro o fu s h0 h1 h2 hd ho hu
    obtain ⟨fu, rfl⟩ : ∃ q, fu = q + 1 := ⟨fu - 1, by omega⟩
    have hge : ¬ nI 15 ≤ nI o := nI_ge (by omega) (by decide)
    have hm : 15 * q + o < 240 := by omega
    obtain ⟨t, ht, h4, -⟩ := hs_both hq hr (show o < 15 by omega)
    obtain ⟨s', r1, r2⟩ := ih (o + 1) fu (xs s 0 (15 * q + o) t) (h0.step ht rfl) h1 (fun z hz => by rw [xs1, if_neg hz]; exact h2 z hz) (by omega) (by omega) (by omega)
    refine ⟨s', ?_, r2⟩
    rw [← r1]
    show g_X3_setRate_8s (g_X3_setRate_8 fu) s (nI r) (nI (15 * q)) (nI o) = _
    simp [g_X3_setRate_8s, g_X3_setRate_30, x15, hge, h4, nI_add, xi240 hm, xc (show 15 * q + o < 1000 by omega), vn01 ht, xp1]
def xU (a b s : xT) (n q r o : Nat) : Prop := s.2 = b.2 ∧ (∀ z, z ≠ 0 → z ≠ 1 → z ≠ 2 → z ≠ 6 → s.1 z = b.1 z) ∧ xT0 a s q r o ∧ (∀ m, (15 * q ≤ m → m < 15 * q + o → ¬ xhs r (m - 15 * q) → s.1 2 m = -1 ∧ s.1 1 m = -1) ∧ (¬ (15 * q ≤ m ∧ m < 15 * q + o ∧ ¬ xhs r (m - 15 * q)) → s.1 2 m = b.1 2 m ∧ s.1 1 m = b.1 1 m)) ∧ (∀ f, s.1 6 f = b.1 6 f ∨ (s.1 6 f = -1 ∧ f < n ∧ a.1 8 f = 0)) ∧ (∀ f m, 15 * q ≤ m → m < 15 * q + o → ¬ xhs r (m - 15 * q) → b.1 2 m = nI f → f < n → s.1 6 f = -1)
theorem sr_5 {a b : xT} {n q r : Nat} (hn : n ≤ 60) (e2 : b.1 2 = a.1 2) (iSb : xSb a n) (hq : q < 16) (hr : r ≤ 8) (hck : ∀ o', o' < 15 → xfz a (15 * q + o') → xhs r o') : ∀ (d o fu : Nat) (s : xT), xU a b s n q r o → 15 - o = d → o ≤ 15 → d < fu → ∃ s', g_X5_rate_111 fu s (nI q) (nI r) (nI (15 * q + o)) = (f_X5_rationed s').bind (fun z => some (z.1, z.2)) ∧ xU a b s' n q r 15 := by
  intro d
  induction d with
  | zero =>
    intro o fu s hU hd ho hu
    obtain ⟨fu, rfl⟩ : ∃ q, fu = q + 1 := ⟨fu - 1, by omega⟩
    have : o = 15 := by omega
    subst this
    refine ⟨s, ?_, hU⟩
    show g_X5_rate_111s (g_X5_rate_111 fu) s (nI q) (nI r) (nI (15 * q + 15)) = _
    simp [g_X5_rate_111s, x15, pk_mul, nI_add]
  | succ d ih =>
    intro o fu s hU hd ho hu
    obtain ⟨fu, rfl⟩ : ∃ q, fu = q + 1 := ⟨fu - 1, by omega⟩
    have hm : 15 * q + o < 240 := by omega
    have hge : ¬ nI (15 * q + 15) ≤ nI (15 * q + o) := nI_ge (by omega) (by omega)
    have mi := xi240 hm
    have mc := xc (show 15 * q + o < 1000 by omega)
    have e15 : (15 * nI q) + 15 = nI (15 * q + 15) := by rw [x15, pk_mul, nI_add]
    have eo : nI (15 * q + o) + 1 = nI (15 * q + (o + 1)) := xp1 _
    have esub : 15 * q + o - 15 * q = o := by omega
    obtain ⟨t, ht, -, h5⟩ := hs_both hq hr (show o < 15 by omega)
    obtain ⟨u1, u2, u3, u4, u5, u6⟩ := hU
    have hvn := vn01 ht
    have s1 : ∀ z, (g_X5_rate_111 (fu + 1) s (nI q) (nI r) (nI (15 * q + o)) = z) = (g_X5_rate_111s (g_X5_rate_111 fu) s (nI q) (nI r) (nI (15 * q + o)) = z) := fun _ => rfl
    have ht' := ht
    rcases ht with ⟨rfl, hno⟩ | ⟨rfl, hyes⟩
    · have es2 : s.1 2 (15 * q + o) = b.1 2 (15 * q + o) := ((u4 _).2 (fun hh => by omega)).1
      have zb : ∀ (w : xT) (z : Nat), z ≠ 0 → z ≠ 1 → z ≠ 2 → z ≠ 6 → w.1 z = s.1 z → w.1 z = b.1 z := fun w z a0 a1 a2 a6 hh => hh.trans (u2 z a0 a1 a2 a6)
      rcases iSb _ hm with h2 | ⟨f, hf, h2, -⟩
      · have hb2 : b.1 2 (15 * q + o) = -1 := by rw [e2]; exact h2
        have hem : f_X5_empty s (nI (15 * q + o)) = some (xs s 2 (15 * q + o) (-1)) := by
          simp [g_X5_empty_28, g_X5_empty_21, g_X5_empty_0, f_X5_empty, mi, mc, es2, hb2]
        obtain ⟨s', r1, r2⟩ := ih (o + 1) fu (xs (xs (xs s 2 (15 * q + o) (-1)) 1 (15 * q + o) (-1)) 0 (15 * q + o) 0) ⟨u1, fun z a0 a1 a2 a6 => by
            rw [xs1, if_neg a0, xs1, if_neg a1, xs1, if_neg a2]; exact u2 z a0 a1 a2 a6, u3.step ht' rfl, fun m => by
            show (15 * q ≤ m → m < 15 * q + (o + 1) → ¬ xhs r (m - 15 * q) → upd (s.1 2) (15 * q + o) (-1) m = -1 ∧ upd (s.1 1) (15 * q + o) (-1) m = -1) ∧ (¬ (15 * q ≤ m ∧ m < 15 * q + (o + 1) ∧ ¬ xhs r (m - 15 * q)) → upd (s.1 2) (15 * q + o) (-1) m = b.1 2 m ∧ upd (s.1 1) (15 * q + o) (-1) m = b.1 1 m)
            simp only [upd_e]
            by_cases hmm : m = 15 * q + o
            · simp only [if_pos hmm]
              refine ⟨fun _ _ _ => by simp, fun hh => absurd ⟨by omega, by omega, by rw [hmm, esub]; exact hno⟩ hh⟩
            · simp only [if_neg hmm]
              exact ⟨fun p1 p2 p3 => (u4 m).1 p1 (by omega) p3, fun hh => (u4 m).2 (fun h9 => hh ⟨h9.1, by omega, h9.2.2⟩)⟩, u5, fun g m p1 p2 p3 p4 p5 => by
            by_cases hmm : m = 15 * q + o
            · rw [hmm] at p4; exact absurd (p4.symm.trans hb2) (nI_m1 (by omega))
            · exact u6 g m p1 (by omega) p3 p4 p5⟩ (by omega) (by omega) (by omega)
        refine ⟨s', ?_, r2⟩
        rw [s1, ← r1]
        simp only [g_X5_rate_111s, g_X5_rate_147, g_X5_rate_155, e15, if_neg hge, h5, Option.bind_some, if_true, hem, mi, mc, hvn, eo]
      · have hb2 : b.1 2 (15 * q + o) = nI f := by rw [e2]; exact h2
        have fp := nI_pos (show f < 2 ^ 31 by omega)
        have h8 : a.1 8 f = 0 := by
          apply Classical.byContradiction
          intro hh
          exact hno (hck o (by omega) ⟨by rw [h2]; exact nI_m1 (by omega), by rw [h2, xc (by omega)]; exact hh⟩)
        have hem : f_X5_empty s (nI (15 * q + o)) = some (xs (xs s 6 f (-1)) 2 (15 * q + o) (-1)) := by
          simp [g_X5_empty_28, g_X5_empty_21, g_X5_empty_0, f_X5_empty, mi, mc, es2, hb2, fp, xi60 (show f < 60 by omega), xc (show f < 1000 by omega)]
        obtain ⟨s', r1, r2⟩ := ih (o + 1) fu (xs (xs (xs (xs s 6 f (-1)) 2 (15 * q + o) (-1)) 1 (15 * q + o) (-1)) 0 (15 * q + o) 0) ⟨u1, fun z a0 a1 a2 a6 => by
            rw [xs1, if_neg a0, xs1, if_neg a1, xs1, if_neg a2, xs1, if_neg a6]; exact u2 z a0 a1 a2 a6, u3.step ht' rfl, fun m => by
            show (15 * q ≤ m → m < 15 * q + (o + 1) → ¬ xhs r (m - 15 * q) → upd (s.1 2) (15 * q + o) (-1) m = -1 ∧ upd (s.1 1) (15 * q + o) (-1) m = -1) ∧ (¬ (15 * q ≤ m ∧ m < 15 * q + (o + 1) ∧ ¬ xhs r (m - 15 * q)) → upd (s.1 2) (15 * q + o) (-1) m = b.1 2 m ∧ upd (s.1 1) (15 * q + o) (-1) m = b.1 1 m)
            simp only [upd_e]
            by_cases hmm : m = 15 * q + o
            · simp only [if_pos hmm]
              refine ⟨fun _ _ _ => by simp, fun hh => absurd ⟨by omega, by omega, by rw [hmm, esub]; exact hno⟩ hh⟩
            · simp only [if_neg hmm]
              exact ⟨fun p1 p2 p3 => (u4 m).1 p1 (by omega) p3, fun hh => (u4 m).2 (fun h9 => hh ⟨h9.1, by omega, h9.2.2⟩)⟩, fun g => by
            show upd (s.1 6) f (-1) g = b.1 6 g ∨ (upd (s.1 6) f (-1) g = -1 ∧ g < n ∧ a.1 8 g = 0)
            rw [upd_e]
            by_cases hgf : g = f
            · rw [if_pos hgf, hgf]; exact Or.inr ⟨rfl, hf, h8⟩
            · rw [if_neg hgf]; exact u5 g, fun g m p1 p2 p3 p4 p5 => by
            show upd (s.1 6) f (-1) g = -1
            rw [upd_e]
            by_cases hgf : g = f
            · rw [if_pos hgf]
            · rw [if_neg hgf]
              by_cases hmm : m = 15 * q + o
              · rw [hmm] at p4; exact absurd (nI_j (by omega) (by omega) (p4.symm.trans hb2)) hgf
              · exact u6 g m p1 (by omega) p3 p4 p5⟩ (by omega) (by omega) (by omega)
        refine ⟨s', ?_, r2⟩
        rw [s1, ← r1]
        simp only [g_X5_rate_111s, g_X5_rate_147, g_X5_rate_155, e15, if_neg hge, h5, Option.bind_some, if_true, hem, mi, mc, hvn, eo]
    · obtain ⟨s', r1, r2⟩ := ih (o + 1) fu (xs s 0 (15 * q + o) 1) ⟨u1, fun z a0 a1 a2 a6 => by
          rw [xs1, if_neg a0]; exact u2 z a0 a1 a2 a6, u3.step ht' rfl, fun m => by
          refine ⟨fun p1 p2 p3 => (u4 m).1 p1 ?_ p3, fun hh => (u4 m).2 (fun h9 => hh ⟨h9.1, by omega, h9.2.2⟩)⟩
          have : m ≠ 15 * q + o := by intro hmm; rw [hmm, esub] at p3; exact p3 hyes
          omega, u5, fun g m p1 p2 p3 p4 p5 => by
          refine u6 g m p1 ?_ p3 p4 p5
          have : m ≠ 15 * q + o := by intro hmm; rw [hmm, esub] at p3; exact p3 hyes
          omega⟩ (by omega) (by omega) (by omega)
      refine ⟨s', ?_, r2⟩
      rw [s1, ← r1]
      simp only [g_X5_rate_111s, g_X5_rate_147, g_X5_rate_155, e15, if_neg hge, h5, Option.bind_some, if_neg (show ¬ (1 : Int32) = 0 by decide), if_true, mi, mc, hvn, eo]
theorem ag_rate : xAg_rate xGd := by
  intro a b v1 v2 h
  have h' := h
  obtain ⟨⟨e0, e1, e2, e3, e4, e5, e6, e7, e8, e10, e11, e12, e13, c1, c2, c3⟩, hl, n, k, e, hn, hk, he, d0, d1, d2, iF, iB, iSa, iSb, iSc, iO, iBy⟩ := h'
  have badw : ∀ x y : Int32, g_X5_rate_26 b x y 1 = some (0, xn b 0 1) := by
    intro x y
    show g_X5_rate_34s (g_X5_rate_34 999) (xn b 0 1) x y (15 * x) = _
    have cz : (xn b 0 1).2 0 = 1 := rfl
    simp only [g_X5_rate_34s, g_X5_rate_97, cz, if_neg (show ¬ (1 : Int32) ≤ 0 by decide), if_true, ite_self]
  rcases xix v1 (n := 16) (by omega) with g0 | ⟨g0, g1, g2⟩ | ⟨q, hq, rfl, g0, g1, g2⟩
  · right; left; refine ⟨0, xn b 0 1, ?_, ?_, rfl, h.code 1⟩
    · simp only [f_X4_rate, g_X4_rate_0, g_X4_rate_10, if_pos g0]
    · have : f_X5_within b v1 0 15 = some 0 := by rw [wi_5, if_pos g0]
      simp only [f_X5_rate, g_X5_rate_0, g_X5_rate_25, this, Option.bind_some, if_true, badw]
  · right; left; refine ⟨0, xn b 0 1, ?_, ?_, rfl, h.code 1⟩
    · have g2' : ¬ v1 < 16 := g2
      simp only [f_X4_rate, g_X4_rate_0, g_X4_rate_10, if_neg g0, if_neg g2']
    · have hlt : (15 : Int32) < v1 := Int32.lt_of_lt_of_le (by decide) g1
      have : f_X5_within b v1 0 15 = some 0 := by rw [wi_5, if_neg g0, if_pos hlt]
      simp only [f_X5_rate, g_X5_rate_0, g_X5_rate_25, this, Option.bind_some, if_true, badw]
  have g1' : nI q < 16 := g1
  have hq15 : ¬ (15 : Int32) < nI q := nI_nlt (a := 15) (b := q) (by omega) (by decide)
  have wq : f_X5_within b (nI q) 0 15 = some 1 := by rw [wi_5, if_neg g0, if_neg hq15]
  rcases xix v2 (n := 9) (by omega) with k0 | ⟨k0, k1, k2⟩ | ⟨r, hr9, rfl, k0, k1, k2⟩
  · right; left; refine ⟨0, xn b 0 1, ?_, ?_, rfl, h.code 1⟩
    · simp only [f_X4_rate, g_X4_rate_0, g_X4_rate_30, if_neg g0, if_pos g1', if_pos k0]
    · have : f_X5_within b v2 0 8 = some 0 := by rw [wi_5, if_pos k0]
      simp only [f_X5_rate, g_X5_rate_0, g_X5_rate_25, wq, this, Option.bind_some, if_neg (show ¬ (1 : Int32) = 0 by decide), if_true, badw]
  · have hlt : (8 : Int32) < v2 := Int32.lt_of_lt_of_le (by decide) k1
    right; left; refine ⟨0, xn b 0 1, ?_, ?_, rfl, h.code 1⟩
    · simp only [f_X4_rate, g_X4_rate_0, g_X4_rate_30, if_neg g0, if_pos g1', if_neg k0, if_neg (Int32.not_le.mpr hlt)]
    · have : f_X5_within b v2 0 8 = some 0 := by rw [wi_5, if_neg k0, if_pos hlt]
      simp only [f_X5_rate, g_X5_rate_0, g_X5_rate_25, wq, this, Option.bind_some, if_neg (show ¬ (1 : Int32) = 0 by decide), if_true, badw]
  have hr : r ≤ 8 := by omega
  have hr8 : nI r ≤ 8 := nI_le (a := r) (b := 8) hr (by decide)
  have wr : f_X5_within b (nI r) 0 8 = some 1 := by rw [wi_5, if_neg k0, if_neg (Int32.not_lt.mpr hr8)]
  obtain ⟨t, t1, t2⟩ := lf_4 hn iSb hq hr 15 0 1000 rfl (by decide) (by decide)
  obtain ⟨c, y1, y2⟩ := lf_5 e0 e2 e8 hn iSb iSc hq hr 15 0 1000 0 (Or.inl rfl) rfl (by decide) (by decide)
  have eq15 : nI q * 15 = nI (15 * q) := by rw [x15, pk_mul, Nat.mul_comm]
  have eq15' : 15 * nI q = nI (15 * q + 0) := by rw [x15, pk_mul]; rfl
  rw [z0] at t1
  have hl4 : f_X4_losesFrozenSlot a (nI q) (nI r) = some t := by
    show g_X4_losesFrozenSlot_8 a 1000 (nI r) (nI q * 15) 0 = _
    rw [eq15]; exact t1
  have hr5 : f_X5_rate b (nI q) (nI r) = g_X5_rate_97 (xn b 0 c) (nI q) (nI r) := by
    rw [← y1, ← eq15']
    simp only [f_X5_rate, g_X5_rate_0, wq, wr, Option.bind_some, if_neg (show ¬ (1 : Int32) = 0 by decide)]
    rfl
  rcases t2 with ⟨rfl, hok⟩ | ⟨rfl, hbad⟩
  rotate_left
  · have hc2 : c = 2 := by
      rcases y2 with ⟨-, -, p⟩ | ⟨p, -⟩
      · obtain ⟨o', p1, p2, p3, p4⟩ := hbad
        exact absurd (p o' p1 p2 p3) p4
      · exact p
    subst hc2
    right; right; refine ⟨0, xn b 0 2, ?_, ?_, rfl, h.code 2⟩
    · simp only [f_X4_rate, g_X4_rate_0, if_neg g0, if_pos g1', if_neg k0, if_pos hr8, hl4, Option.bind_some, if_neg (show ¬ (1 : Int32) = 0 by decide)]
    · rw [hr5]
      have cz : (xn b 0 2).2 0 = 2 := rfl
      simp only [g_X5_rate_97, cz, if_neg (show ¬ (2 : Int32) ≤ 0 by decide)]
  have hc0 : c = 0 := by
    rcases y2 with ⟨p, -⟩ | ⟨-, p | ⟨o', p1, p2, p3, p4⟩⟩
    · exact p
    · exact absurd p (by decide)
    · exact absurd (hok o' p1 p2 p3) p4
  subst hc0
  have hok' : ∀ o', o' < 15 → xfz a (15 * q + o') → xhs r o' := fun o' p1 p2 => hok o' (by omega) p1 p2
  have t00 : ∀ s : xT, s.1 0 = a.1 0 → xT0 a s q r 0 := fun s hs m => ⟨fun hh => by omega, fun _ => by rw [hs]⟩
  obtain ⟨a2, m1, m2, m3, m4⟩ := sr_4 (a := a) hq hr 15 0 1000 a (t00 a rfl) rfl (fun _ _ => rfl) rfl (by decide) (by decide)
  obtain ⟨b2, w1, w2⟩ := sr_5 (a := a) (b := xn b 0 0) hn e2 iSb hq hr hok' 15 0 1000 (xn b 0 0) ⟨rfl, fun _ _ _ _ _ => rfl, t00 (xn b 0 0) e0, fun m => ⟨fun p1 p2 => by omega, fun _ => ⟨rfl, rfl⟩⟩, fun f => Or.inl rfl, fun f m p1 p2 => by omega⟩ rfl (by decide) (by decide)
  obtain ⟨u1, u2, u3, u4, u5, u6⟩ := w2
  have e00 : b2.1 0 = a2.1 0 := by
    funext m
    by_cases hm : 15 * q ≤ m ∧ m < 15 * q + 15
    · rcases (m2 m).1 hm with ⟨p1, p2⟩ | ⟨p1, p2⟩ <;> rcases (u3 m).1 hm with ⟨p3, p4⟩ | ⟨p3, p4⟩
      · rw [p1, p3]
      · exact absurd p4 p2
      · exact absurd p2 p4
      · rw [p1, p3]
    · rw [(m2 m).2 hm, (u3 m).2 hm]
  have fz2 : ∀ m, xfz a2 m ↔ xfz a m := by
    intro m
    show (¬ a2.1 2 m = -1 ∧ ¬ a2.1 8 (a2.1 2 m).toNatClampNeg = 0) ↔ _
    rw [m4 2 (by decide), m4 8 (by decide)]
  have ub : ∀ z, z ≠ 0 → z ≠ 1 → z ≠ 2 → z ≠ 6 → b2.1 z = b.1 z := fun z p0 p1 p2 p6 => u2 z p0 p1 p2 p6
  have c22 : ∀ m, ¬ (15 * q ≤ m ∧ m < 15 * q + 15 ∧ ¬ xhs r (m - 15 * q)) → b2.1 2 m = a.1 2 m ∧ b2.1 1 m = a.1 1 m := by
    intro m hh
    have := (u4 m).2 hh
    exact ⟨this.1.trans (by rw [xn1, e2]), this.2.trans (by rw [xn1, e1])⟩
  have hopen : ∀ m, ¬ a2.1 0 m = 0 → ¬ (15 * q ≤ m ∧ m < 15 * q + 15 ∧ ¬ xhs r (m - 15 * q)) := by
    intro m h0 hh
    rcases (m2 m).1 ⟨hh.1, hh.2.1⟩ with ⟨p1, -⟩ | ⟨-, p2⟩
    · exact h0 p1
    · exact hh.2.2 p2
  have hclosed : ∀ m, m < 240 → a2.1 0 m = 0 → (15 * q ≤ m ∧ m < 15 * q + 15 ∧ ¬ xhs r (m - 15 * q)) ∨ (a.1 0 m = 0 ∧ ¬ (15 * q ≤ m ∧ m < 15 * q + 15)) := by
    intro m hm h0
    by_cases hh : 15 * q ≤ m ∧ m < 15 * q + 15
    · rcases (m2 m).1 hh with ⟨-, p2⟩ | ⟨p1, -⟩
      · exact Or.inl ⟨hh.1, hh.2, p2⟩
      · rw [p1] at h0; exact absurd h0 (by decide)
    · exact Or.inr ⟨by rw [← (m2 m).2 hh]; exact h0, hh⟩
  have hcl : xCl a2 b2 n := by
    refine ⟨⟨e00, ?_, ?_, ?_, ?_, ?_, ?_, ?_, ?_, ?_, ?_, ?_⟩, ?_, ?_, ?_, ?_, ?_⟩
    · rw [ub 3 (by decide) (by decide) (by decide) (by decide), m4 3 (by decide), e3]
    · rw [ub 4 (by decide) (by decide) (by decide) (by decide), m4 4 (by decide), e4]
    · rw [ub 5 (by decide) (by decide) (by decide) (by decide), m4 5 (by decide), e5]
    · rw [ub 7 (by decide) (by decide) (by decide) (by decide), m4 7 (by decide), e7]
    · rw [ub 8 (by decide) (by decide) (by decide) (by decide), m4 8 (by decide), e8]
    · rw [ub 10 (by decide) (by decide) (by decide) (by decide), m4 10 (by decide), e10]
    · rw [ub 11 (by decide) (by decide) (by decide) (by decide), m4 11 (by decide), e11]
    · rw [ub 12 (by decide) (by decide) (by decide) (by decide), m4 12 (by decide), e12]
    · rw [ub 13 (by decide) (by decide) (by decide) (by decide), m4 13 (by decide), e13]
    · rw [u1, m3]; exact c1
    · rw [u1, m3]; exact c2
    · intro m hm h0
      rw [m4 2 (by decide), m4 1 (by decide)]
      exact c22 m (hopen m h0)
    · intro m hm h0
      rcases hclosed m hm h0 with hh | ⟨h00, hh⟩
      · have := (u4 m).1 hh.1 hh.2.1 hh.2.2
        refine ⟨this.1, this.2, fun hz => ?_⟩
        have := hok' (m - 15 * q) (by omega) (by rw [show 15 * q + (m - 15 * q) = m by omega]; exact (fz2 m).mp hz)
        exact hh.2.2 this
      · have w := c22 m (fun h9 => hh ⟨h9.1, h9.2.1⟩)
        have s := iSc m hm h00
        exact ⟨w.1.trans s.1, w.2.trans s.2, fun hz => ((fz2 m).mp hz).1 s.1⟩
    · intro m hm
      rw [m4 2 (by decide), m4 1 (by decide)]
      exact c22 m (fun h9 => by omega)
    · intro f hf
      rw [m4 8 (by decide)] at hf
      rw [m4 6 (by decide)]
      rcases u5 f with hh | ⟨-, p1, p2⟩
      · rw [hh, xn1, e6]
      · rcases hf with hf | hf
        · omega
        · exact absurd p2 hf
    · intro f hf h8
      rcases iSa f hf with h6 | ⟨m, hm, h6, h2⟩
      · left
        rcases u5 f with hh | ⟨p, -⟩
        · rw [hh, xn1, e6]; exact h6
        · exact p
      · by_cases h0 : a2.1 0 m = 0
        · left
          rcases hclosed m hm h0 with hh | ⟨h00, -⟩
          · exact u6 f m hh.1 hh.2.1 hh.2.2 (by rw [xn1, e2]; exact h2) hf
          · exact absurd (h2.symm.trans (iSc m hm h00).1) (nI_m1 (by omega))
        · right
          exact ⟨m, hm, h0, (c22 m (hopen m h0)).1.trans h2⟩
  have hL2 : xLg a2 b2 := by
    intro i
    rw [ub 14 (by decide) (by decide) (by decide) (by decide), m4 14 (by decide), m4 15 (by decide), m4 16 (by decide), m4 17 (by decide)]
    exact hl i
  have hB2 : xBl a2 := by
    intro i
    rw [m4 7 (by decide), m4 8 (by decide), m4 13 (by decide)]
    refine ⟨?_, (iB i).2⟩
    by_cases hh : 15 * q ≤ i ∧ i < 15 * q + 15
    · rcases (m2 i).1 hh with ⟨p1, -⟩ | ⟨p1, -⟩
      · exact Or.inl p1
      · exact Or.inr p1
    · rw [(m2 i).2 hh]; exact (iB i).1
  obtain ⟨z, a3, b3, r1, r2, r3, r4⟩ := ra_both hcl hL2 hn hk (by rw [m3]; exact d0) (by rw [m3]; exact d1)
    (by simpa only [xF, m4 3 (by decide), m4 4 (by decide), m4 5 (by decide)] using iF) hB2
    (by simpa only [xSa, m4 6 (by decide), m4 2 (by decide)] using iSa)
    (by simpa only [xSb, m4 6 (by decide), m4 2 (by decide), m4 1 (by decide), m4 3 (by decide)] using iSb)
    (by simpa only [xOf, m4 11 (by decide), m4 12 (by decide)] using iO)
    (by simpa only [xBy, m4 9 (by decide), m4 4 (by decide)] using iBy)
    (by
      intro m hm
      by_cases hh : 15 * q ≤ m ∧ m < 15 * q + 15 ∧ ¬ xhs r (m - 15 * q)
      · exact Or.inl ((u4 m).1 hh.1 hh.2.1 hh.2.2).1
      · rw [(c22 m hh).1]
        rcases iSb m hm with h9 | ⟨f, hf, h9, -⟩
        · exact Or.inl h9
        · exact Or.inr ⟨f, hf, h9⟩)
  rw [z0] at m1
  left; refine ⟨z, a3, b3, ?_, ?_, ?_, r3⟩
  · have hs4 : f_X3_setRate a (nI q) (nI r) = some a2 := by
      show g_X3_setRate_8 1000 a (nI r) (nI q * 15) 0 = _
      rw [eq15]; exact m1
    simp only [f_X4_rate, g_X4_rate_0, if_neg g0, if_pos g1', if_neg k0, if_pos hr8, hl4, Option.bind_some, if_true, hs4, r1]
  · rw [hr5]
    have cz : (xn b 0 0).2 0 = 0 := rfl
    simp only [g_X5_rate_97, cz, if_pos (show (0 : Int32) ≤ 0 by decide)]
    rw [eq15', w1, r2]; rfl
  · rw [r4, u1]; rfl
