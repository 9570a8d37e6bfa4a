theorem xIn.put {a : xT} {n k e f m : Nat} (h : xIn a n k e) (hf : f < n) (hm : m < 240) (hem : xEm a m) (h6 : a.1 6 f = -1) : xIn (xs (xs (xs a 2 m (nI f)) 6 f (nI m)) 1 m (a.1 3 f)) n k e := by
  obtain ⟨hn, hk, he, d0, d1, d2, iF, iB, iSa, iSb, iSc, iO, iBy⟩ := h
  refine ⟨hn, hk, he, d0, d1, d2, iF, iB, ?_, ?_, ?_, iO, iBy⟩
  · intro g hg
    show upd (a.1 6) f (nI m) g = -1 ∨ ∃ q, q < 240 ∧ upd (a.1 6) f (nI m) g = nI q ∧ upd (a.1 2) m (nI f) q = nI g
    simp only [upd_e]
    by_cases hgf : g = f
    · right; exact ⟨m, hm, by rw [if_pos hgf], by rw [if_pos rfl, hgf]⟩
    · rw [if_neg hgf]
      rcases iSa g hg with p | ⟨q, hq, p1, p2⟩
      · exact Or.inl p
      · right; refine ⟨q, hq, p1, ?_⟩
        have : ¬ q = m := by intro hh; subst hh; exact nI_m1 (m := g) (by omega) (p2.symm.trans hem.2)
        rw [if_neg this]; exact p2
  · intro q hq
    show upd (a.1 2) m (nI f) q = -1 ∨ ∃ g, g < n ∧ upd (a.1 2) m (nI f) q = nI g ∧ upd (a.1 6) f (nI m) g = nI q ∧ upd (a.1 1) m (a.1 3 f) q = a.1 3 g
    simp only [upd_e]
    by_cases hqm : q = m
    · right; exact ⟨f, hf, by rw [if_pos hqm], by rw [if_pos rfl, hqm], by rw [if_pos hqm]⟩
    · simp only [if_neg hqm]
      rcases iSb q hq with p | ⟨g, hg, p1, p2, p3⟩
      · exact Or.inl p
      · right; refine ⟨g, hg, p1, ?_, p3⟩
        have : ¬ g = f := by intro hh; subst hh; exact nI_m1 (m := q) (by omega) (p2.symm.trans h6)
        rw [if_neg this]; exact p2
  · intro q hq h0
    have p := iSc q hq h0
    have : ¬ q = m := by intro hh; subst hh; exact hem.1 h0
    show upd (a.1 2) m (nI f) q = -1 ∧ upd (a.1 1) m (a.1 3 f) q = -1
    simp only [upd_e, if_neg this]; exact p
/-- of the order by schedule i are through -/
def xDo (a b : xT) (n i : Nat) : Prop := ∀ p f, p < n → f < n → a.1 9 p = nI f → a.1 7 f = 0 ∧ a.1 8 f = 0 → (p < i → ¬ b.1 9 f = 0) ∧ (i ≤ p → b.1 9 f = 0 ∧ a.1 6 f = -1)
theorem ra_loop {n k : Nat} : ∀ (d i fu fv : Nat) (acc : Int32) (a b : xT) (e : Nat), xEq a b → xLg a b → xIn a n k e → xDo a b n i → n - i = d → i ≤ n → d < fu → d < fv → ∃ r a1 b1, g_X4_rationAll_15 fu a acc (nI i) = some (r, a1) ∧ (f_X5_nextFlight b).bind (fun z => g_X5_rationed_79 fv b acc z) = some (r, b1) ∧ xGd a1 b1 ∧ b1.2 0 = b.2 0 := by
  intro d
  induction d with
  | zero =>
    intro i fu fv acc a b e hE hL h hdo hd hi hu hv
    obtain ⟨fu, rfl⟩ : ∃ q, fu = q + 1 := ⟨fu - 1, by omega⟩
    obtain ⟨fv, rfl⟩ : ∃ q, fv = q + 1 := ⟨fv - 1, by omega⟩
    have hin : i = n := by omega
    subst hin
    have h' := h
    obtain ⟨hn, hk, he, d0, d1, d2, iF, iB, iSa, iSb, iSc, iO, iBy⟩ := h'
    have hE' := hE
    obtain ⟨e0, e1, e2, e3, e4, e5, e6, e7, e8, e10, e11, e12, e13, c1, c2, c3⟩ := hE'
    obtain ⟨r, r1, r2⟩ := nf_all hn (c1.trans d0)
    have hr : r = -1 := by
      rcases r2 with ⟨p, -⟩ | ⟨f, hf, -, p, -⟩
      · exact p
      · obtain ⟨q, hq, hq9⟩ := iBy.2.1 f hf
        exact absurd p.2 ((hdo q f hq hf hq9 ⟨by rw [← e7]; exact p.1.1, by rw [← e8]; exact p.1.2⟩).1 hq)
    subst hr
    refine ⟨acc, a, b, ?_, ?_, ⟨hE, hL, i, k, e, h⟩, rfl⟩
    · show g_X4_rationAll_15s (g_X4_rationAll_15 fu) a acc (nI i) = _
      simp [g_X4_rationAll_58, g_X4_rationAll_15s, g_X4_rationAll_0, f_X4_rationAll, d0]
    · rw [r1]
      show g_X5_rationed_79s (g_X5_rationed_79 fv) b acc (-1) = _
      simp [g_X5_rationed_79s]
  | succ d ih =>
    intro i fu fv acc a b e hE hL h hdo hd hi hu hv
    obtain ⟨fu, rfl⟩ : ∃ q, fu = q + 1 := ⟨fu - 1, by omega⟩
    have hin : i < n := by omega
    have h' := h
    obtain ⟨hn, hk, he, d0, d1, d2, iF, iB, iSa, iSb, iSc, iO, iBy⟩ := h'
    have hE' := hE
    obtain ⟨e0, e1, e2, e3, e4, e5, e6, e7, e8, e10, e11, e12, e13, c1, c2, c3⟩ := hE'
    obtain ⟨f, hf, hi9⟩ := iBy.1 i hin
    have hf6 : f < 60 := by omega
    have hge := nI_ge hin (show n < 2 ^ 31 by omega)
    have ii := xi60 (show i < 60 by omega)
    have ic := xc (show i < 1000 by omega)
    have fi := xi60 hf6
    have fc := xc (show f < 1000 by omega)
    have s1 : ∀ r, (g_X4_rationAll_15 (fu + 1) a acc (nI i) = r) = (g_X4_rationAll_15s (g_X4_rationAll_15 fu) a acc (nI i) = r) := fun _ => rfl
    have inj : ∀ p g, p < n → g < n → a.1 9 p = nI g → (g = f ↔ p = i) := by
      intro p g hp hg h9
      constructor
      · intro hgf; subst hgf
        rcases Nat.lt_trichotomy p i with hh | hh | hh
        · rcases iBy.2.2 p i g g hh hin h9 hi9 hf6 hf6 with q | ⟨-, q⟩
          · exact absurd q Int32.lt_irrefl
          · omega
        · exact hh
        · rcases iBy.2.2 i p g g hh hp hi9 h9 hf6 hf6 with q | ⟨-, q⟩
          · exact absurd q Int32.lt_irrefl
          · omega
      · intro hpi; subst hpi; exact nI_j (by omega) (by omega) (h9.symm.trans hi9)
    have hpl := pl_4 a hf6
    by_cases hp : a.1 7 f = 0 ∧ a.1 8 f = 0
    rotate_left
    · rw [if_neg hp] at hpl
      obtain ⟨r, a1, b1, r1, r2, r3, r4⟩ := ih (i + 1) fu fv acc a b e hE hL h (by
        intro p g hpn hgn h9 hpl'
        have := hdo p g hpn hgn h9 hpl'
        have hpi : p ≠ i := by
          intro hh
          have : g = f := (inj p g hpn hgn h9).mpr hh
          subst this; exact hp hpl'
        exact ⟨fun hh => this.1 (by omega), fun hh => this.2 (by omega)⟩) (by omega) (by omega) (by omega) (by omega)
      refine ⟨r, a1, b1, ?_, r2, r3, r4⟩
      rw [s1]; simp [g_X4_rationAll_58, g_X4_rationAll_15s, g_X4_rationAll_0, f_X4_rationAll, d0, hge, ii, ic, hi9, hpl, xp1, r1]
    rw [if_pos hp] at hpl
    obtain ⟨fv, rfl⟩ : ∃ q, fv = q + 1 := ⟨fv - 1, by omega⟩
    have hdi := (hdo i f hin hf hi9 hp).2 (Nat.le_refl _)
    have hQf : xQn b f := ⟨⟨by rw [e7]; exact hp.1, by rw [e8]; exact hp.2⟩, hdi.1⟩
    have hnx : f_X5_nextFlight b = some (nI f) := by
      obtain ⟨r, r1, r2⟩ := nf_all hn (c1.trans d0)
      rcases r2 with ⟨-, p⟩ | ⟨g, hg, p1, p2, p3⟩
      · exact absurd hQf (p f hf)
      · have hgf : g = f := by
          obtain ⟨q, hq, hq9⟩ := iBy.2.1 g hg
          have hqd := hdo q g hq hg hq9 ⟨by rw [← e7]; exact p2.1.1, by rw [← e8]; exact p2.1.2⟩
          have hqi : i ≤ q := by
            apply Classical.byContradiction
            intro hh
            exact hqd.1 (by omega) p2.2
          apply Classical.byContradiction
          intro hne
          have hqi2 : i < q := by
            rcases Nat.lt_or_ge i q with hh | hh
            · exact hh
            · exact absurd ((inj q g hq hg hq9).mpr (by omega)) hne
          have w := p3 f hf hQf
          rw [e4] at w
          rcases iBy.2.2 i q f g hqi2 hq hi9 hq9 hf6 (by omega) with y | ⟨y1, y2⟩
          · rcases w with w | ⟨w, -⟩
            · exact Int32.lt_irrefl (Int32.lt_trans y w)
            · rw [w] at y; exact Int32.lt_irrefl y
          · rcases w with w | ⟨-, w⟩
            · rw [y1] at w; exact Int32.lt_irrefl w
            · omega
        rw [r1, p1, hgf]
    obtain ⟨u, hu3, hu5⟩ := (iF f hf).2.2
    have hE9 : xEq a (xs b 9 f 1) := ⟨e0, e1, e2, e3, e4, e5, e6, e7, e8, e10, e11, e12, e13, c1, c2, c3⟩
    have hL9 : xLg a (xs b 9 f 1) := fun q => hL q
    have hb9 : ∀ g, (xs b 9 f 1).1 9 g = if g = f then 1 else b.1 9 g := fun g => rfl
    have fp := nI_pos (show f < 2 ^ 31 by omega)
    have step5 : (f_X5_nextFlight b).bind (fun z => g_X5_rationed_79 (fv + 1) b acc z) = g_X5_rationed_97 (g_X5_rationed_79 fv) 1000 (xs b 9 f 1) acc (nI f) (nI u) := by
      rw [hnx]
      show g_X5_rationed_79s (g_X5_rationed_79 fv) b acc (nI f) = _
      have w5 : (xs b 9 f 1).1 5 f = nI u := by show b.1 5 f = nI u; rw [e5]; exact hu5
      simp [g_X5_rationed_79s, g_X5_rationed_90, fp, fi, fc, xnb1, w5]
    rcases fs_both hn hE9 iSb hf (g_X5_rationed_79 fv) acc (240 - u) u 1000 1000 rfl (by omega) (by omega) (by omega) with ⟨t1, t2⟩ | ⟨m, hm, hem, t1, t2⟩
    · obtain ⟨r, a1, b1, r1, r2, r3, r4⟩ := ih (i + 1) fu fv (acc + 1) a (xs b 9 f 1) e hE9 hL9 h (by
        intro p g hpn hgn h9 hpl'
        have w := hdo p g hpn hgn h9 hpl'
        have j := inj p g hpn hgn h9
        rw [hb9 g]
        refine ⟨fun hh => ?_, fun hh => ?_⟩
        · by_cases hgf : g = f
          · rw [if_pos hgf]; decide
          · rw [if_neg hgf]; exact w.1 (by have : p ≠ i := fun q => hgf (j.mpr q); omega)
        · have hgf : ¬ g = f := fun q => by have := j.mp q; omega
          rw [if_neg hgf]; exact w.2 (by omega)) (by omega) (by omega) (by omega) (by omega)
      refine ⟨r, a1, b1, ?_, ?_, r3, r4⟩
      · rw [s1]; simp [g_X4_rationAll_58, g_X4_rationAll_15s, g_X4_rationAll_0, f_X4_rationAll, d0, hge, ii, ic, hi9, hpl, f_X4_putInFirstSlot, g_X4_putInFirstSlot_0, fi, fc, hu5, t1, xp1, r1]
      · rw [step5, t2]; exact r2
    · have hE1 : xEq (xs (xs (xs a 2 m (nI f)) 6 f (nI m)) 1 m (a.1 3 f)) (xs (xs (xs (xs b 9 f 1) 2 m (nI f)) 6 f (nI m)) 1 m (a.1 3 f)) := ((hE9.set 2 m (nI f) (by omega)).set 6 f (nI m) (by omega)).set 1 m (a.1 3 f) (by omega)
      have hL1 : xLg (xs (xs (xs a 2 m (nI f)) 6 f (nI m)) 1 m (a.1 3 f)) (xs (xs (xs (xs b 9 f 1) 2 m (nI f)) 6 f (nI m)) 1 m (a.1 3 f)) := fun q => hL q
      have hI1 := h.put hf hm hem hdi.2
      obtain ⟨r, a1, b1, r1, r2, r3, r4⟩ := ih (i + 1) fu fv acc _ _ e hE1 hL1 hI1 (by
        intro p g hpn hgn h9 hpl'
        have w := hdo p g hpn hgn h9 hpl'
        have j := inj p g hpn hgn h9
        show (p < i + 1 → ¬ (if g = f then (1 : Int32) else b.1 9 g) = 0) ∧ (i + 1 ≤ p → (if g = f then (1 : Int32) else b.1 9 g) = 0 ∧ upd (a.1 6) f (nI m) g = -1)
        refine ⟨fun hh => ?_, fun hh => ?_⟩
        · by_cases hgf : g = f
          · rw [if_pos hgf]; decide
          · rw [if_neg hgf]; exact w.1 (by have : p ≠ i := fun q => hgf (j.mpr q); omega)
        · have hgf : ¬ g = f := fun q => by have := j.mp q; omega
          rw [if_neg hgf, upd_e, if_neg hgf]; exact w.2 (by omega)) (by omega) (by omega) (by omega) (by omega)
      refine ⟨r, a1, b1, ?_, ?_, r3, r4⟩
      · rw [s1]; simp [g_X4_rationAll_58, g_X4_rationAll_15s, g_X4_rationAll_0, f_X4_rationAll, d0, hge, ii, ic, hi9, hpl, f_X4_putInFirstSlot, g_X4_putInFirstSlot_0, fi, fc, hu5, t1, xp1, r1]
      · rw [step5, t2]; exact r2
theorem ra_both {a b : xT} {n k : Nat} (hcl : xCl a b n) (hL : xLg a b) (hn : n ≤ 60) (hk : k ≤ 40) (d0 : a.2 0 = nI n) (d1 : a.2 1 = nI k) (iF : xF a n) (iB : xBl a) (iSa : xSa a n) (iSb : xSb a n) (iO : xOf a k) (iBy : xBy a n) (hr : ∀ m, m < 240 → b.1 2 m = -1 ∨ ∃ f, f < n ∧ b.1 2 m = nI f) : ∃ r a1 b1, f_X4_rationAll a = some (r, a1) ∧ f_X5_rationed b = some (r, b1) ∧ xGd a1 b1 ∧ b1.2 0 = b.2 0 := by
  have h4 := cw_4 hn d0 (fun m hm => by rcases iSb m hm with hh | ⟨f, hf, hh, -⟩; exact Or.inl hh; exact Or.inr ⟨f, by omega, hh⟩)
  have hJ0 : xJ (xn b 3 0) (xn b 3 0) n 0 := ⟨rfl, fun _ _ _ _ => rfl, fun m => by rw [if_neg (by omega)], fun m => by rw [if_neg (by omega)], fun f => Or.inl rfl, fun f m hm => by omega⟩
  obtain ⟨s, s1, s2⟩ := ck_7 (b := xn b 3 0) hn hr 240 0 1000 (xn b 3 0) hJ0 rfl (by decide) (by decide)
  have hEs := cl_eq hcl s2
  have hIs := cl_in hn hk d0 d1 iF iB iSa iSb (fun m hm h0 => (hcl.2.2.1 m hm h0).2.2) iO iBy
  have hs1 : s.2 1 = nI n := hEs.2.2.2.2.2.2.2.2.2.2.2.2.2.1.trans d0
  obtain ⟨t, t1, t2, t3, t4⟩ := dn_51 hn n 0 1000 s hs1 (fun f hf => by omega) rfl (by omega) (by omega)
  obtain ⟨e0, e1, e2, e3, e4, e5, e6, e7, e8, e10, e11, e12, e13, c1, c2, c3⟩ := hEs
  have hEt : xEq (xn (xC6 (xC a 240) n) 2 0) t := ⟨(t3 0 (by decide)).trans e0, (t3 1 (by decide)).trans e1, (t3 2 (by decide)).trans e2, (t3 3 (by decide)).trans e3, (t3 4 (by decide)).trans e4, (t3 5 (by decide)).trans e5, (t3 6 (by decide)).trans e6, (t3 7 (by decide)).trans e7, (t3 8 (by decide)).trans e8, (t3 10 (by decide)).trans e10, (t3 11 (by decide)).trans e11, (t3 12 (by decide)).trans e12, (t3 13 (by decide)).trans e13, by rw [t4]; exact c1, by rw [t4]; exact c2, by rw [t4]; exact c3⟩
  have hLt : xLg (xn (xC6 (xC a 240) n) 2 0) t := by
    have w : t.1 14 = b.1 14 := (t3 14 (by decide)).trans (s2.2.1 14 (by decide) (by decide) (by decide))
    intro q
    rw [w]; exact hL q
  obtain ⟨r, a1, b1, r1, r2, r3, r4⟩ := ra_loop n 0 1000 1000 0 _ t 0 hEt hLt hIs (by
    intro p f hp hf h9 hpl
    refine ⟨fun hh => by omega, fun _ => ⟨t2 f hf, ?_⟩⟩
    show (if f < n ∧ a.1 8 f = 0 then (-1 : Int32) else a.1 6 f) = -1
    rw [if_pos ⟨hf, hpl.2⟩]) rfl (by omega) (by omega) (by omega)
  rw [z0] at r1
  refine ⟨r, a1, b1, ?_, ?_, r3, ?_⟩
  · simp [f_X4_rationAll, g_X4_rationAll_0, h4, f_X0_clear, g_X0_clear_0, g_X0_clear_5, r1]
  · show g_X5_rationed_7 1000 (xn b 3 0) (nI 0) = _
    rw [s1, ← z0, t1]; exact r2
  · rw [r4, t4, s2.1]; rfl
theorem ag_ration : xAg_ration xGd := by
  intro a b h
  have h' := h
  obtain ⟨⟨e0, e1, e2, e3, e4, e5, e6, e7, e8, e10, e11, e12, e13, c1, c2, c3⟩, hl, n, k, e, hn, hk, he, d0, d1, d2, iF, iB, iSa, iSb, iSc, iO, iBy⟩ := h'
  have hcl : xCl a (xn b 0 0) n := by
    refine ⟨⟨e0, e3, e4, e5, e7, e8, e10, e11, e12, e13, c1, c2⟩, fun m _ _ => ⟨by rw [xn1, e2], by rw [xn1, e1]⟩, fun m hm h0 => ⟨by rw [xn1, e2]; exact (iSc m hm h0).1, by rw [xn1, e1]; exact (iSc m hm h0).2, fun hh => hh.1 (iSc m hm h0).1⟩, fun m _ => ⟨by rw [xn1, e2], by rw [xn1, e1]⟩, fun f _ => by rw [xn1, e6], fun f hf h8 => ?_⟩
    rcases iSa f hf with hh | ⟨m, hm, h6, h2⟩
    · left; rw [xn1, e6]; exact hh
    · right; refine ⟨m, hm, fun h0 => ?_, by rw [xn1, e2]; exact h2⟩
      exact nI_m1 (m := f) (by omega) (h2.symm.trans (iSc m hm h0).1)
  obtain ⟨r, a1, b1, r1, r2, r3, -⟩ := ra_both (b := xn b 0 0) hcl (hl : xLg a (xn b 0 0)) hn hk d0 d1 iF iB iSa iSb iO iBy (fun m hm => by
    rw [xn1, e2]; rcases iSb m hm with hh | ⟨f, hf, hh, -⟩; exact Or.inl hh; exact Or.inr ⟨f, hf, hh⟩)
  refine ⟨r, a1, b1, ?_, ?_, r3⟩
  · simp [g_X4_ration_0, f_X4_ration, r1]
  · simp [g_X5_ration_5, g_X5_ration_0, f_X5_ration, r2]
