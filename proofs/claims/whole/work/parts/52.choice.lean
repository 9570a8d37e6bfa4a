/-- what compression chooses for the minute m -/
def xEm (a : xT) (m : Nat) : Prop := ¬ a.1 0 m = 0 ∧ a.1 2 m = -1
def xCh (a : xT) (n m : Nat) (r : Int32) : Prop := (r = -1 ∧ (xEm a m → ∀ g, g < n → ¬ xMv a m g)) ∨ (xEm a m ∧ ∃ f, f < n ∧ r = nI f ∧ xMv a m f ∧ ((a.1 3 f = a.1 1 m ∧ ∀ g, g < n → xMv a m g → a.1 3 g = a.1 1 m → a.1 6 f ≤ a.1 6 g) ∨ ((∀ g, g < n → xMv a m g → ¬ a.1 3 g = a.1 1 m) ∧ ∀ g, g < n → xMv a m g → a.1 6 f ≤ a.1 6 g)))
theorem mv_at {a : xT} {n m f : Nat} (iSa : xSa a n) (hf : f < n) (hm : m < 240) (h : xMv a m f) : ∃ q, m < q ∧ q < 240 ∧ a.1 6 f = nI q ∧ a.1 2 q = nI f := by
  rcases iSa f hf with h6 | ⟨q, hq, h6, h2⟩
  · exfalso; apply h.1; rw [h6]
    exact Int32.le_of_lt (Int32.lt_of_lt_of_le (show (-1 : Int32) < 0 by decide) (nI_pos' (by omega)))
  · refine ⟨q, ?_, hq, h6, h2⟩
    apply Classical.byContradiction
    intro hh
    exact h.1 (by rw [h6]; exact nI_le (by omega) (by omega))
theorem xCh.uniq {a : xT} {n m : Nat} {r t : Int32} (iSa : xSa a n) (hn : n ≤ 60) (hm : m < 240) (h1 : xCh a n m r) (h2 : xCh a n m t) : r = t := by
  have same : ∀ f g, f < n → g < n → xMv a m f → xMv a m g → a.1 6 f ≤ a.1 6 g → a.1 6 g ≤ a.1 6 f → f = g := by
    intro f g hf hg mf mg l1 l2
    have he : a.1 6 f = a.1 6 g := Int32.le_antisymm l1 l2
    obtain ⟨q, q1, q2, q3, q4⟩ := mv_at iSa hf hm mf
    obtain ⟨p, p1, p2, p3, p4⟩ := mv_at iSa hg hm mg
    have : q = p := nI_j (by omega) (by omega) (q3.symm.trans (he.trans p3))
    subst this
    exact nI_j (by omega) (by omega) (q4.symm.trans p4)
  rcases h1 with ⟨p1, p2⟩ | ⟨pe, f, hf, p1, p2, p3⟩ <;> rcases h2 with ⟨q1, q2⟩ | ⟨qe, g, hg, q1, q2, q3⟩
  · rw [p1, q1]
  · exact absurd q2 (p2 qe g hg)
  · exact absurd p2 (q2 pe f hf)
  · have : f = g := by
      rcases p3 with ⟨s1, s2⟩ | ⟨s1, s2⟩ <;> rcases q3 with ⟨t1, t2⟩ | ⟨t1, t2⟩
      · exact same f g hf hg p2 q2 (s2 g hg q2 t1) (t2 f hf p2 s1)
      · exact absurd s1 (t1 f hf p2)
      · exact absurd t1 (s1 g hg q2)
      · exact same f g hf hg p2 q2 (s2 g hg q2) (t2 f hf p2)
    rw [p1, q1, this]
theorem ch_4l {a : xT} {n m : Nat} (hn : n ≤ 60) (iSa : xSa a n) (iSb : xSb a n) (hm : m < 240) (hem : xEm a m) : ∀ (d i fu : Nat) (v2 : Int32), 240 - i = d → m < i → i ≤ 240 → d < fu → (∀ g q, g < n → q < i → a.1 6 g = nI q → xMv a m g → ¬ a.1 3 g = a.1 1 m) → ((v2 = -1 ∧ ∀ g q, g < n → q < i → a.1 6 g = nI q → ¬ xMv a m g) ∨ ∃ f, f < n ∧ v2 = nI f ∧ xMv a m f ∧ ∀ g, g < n → xMv a m g → a.1 6 f ≤ a.1 6 g) → ∃ r, g_X4_flightToMoveTo_19 a fu (nI m) v2 (nI i) = some r ∧ xCh a n m r := by
  intro d
  induction d with
  | zero =>
    intro i fu v2 hd hmi hi hu h1 h2
    obtain ⟨fu, rfl⟩ : ∃ q, fu = q + 1 := ⟨fu - 1, by omega⟩
    have hi2 : i = 240 := by omega
    subst hi2
    refine ⟨v2, ?_, ?_⟩
    · show g_X4_flightToMoveTo_19s (g_X4_flightToMoveTo_19 a fu) a (nI m) v2 (nI 240) = _
      simp [g_X4_flightToMoveTo_86, g_X4_flightToMoveTo_19s, g_X4_flightToMoveTo_0, f_X4_flightToMoveTo, x240]
    · rcases h2 with ⟨p1, p2⟩ | ⟨f, hf, p1, p2, p3⟩
      · refine Or.inl ⟨p1, fun _ g hg hmv => ?_⟩
        obtain ⟨q, q1, q2, q3, q4⟩ := mv_at iSa hg hm hmv
        exact p2 g q hg q2 q3 hmv
      · refine Or.inr ⟨hem, f, hf, p1, p2, Or.inr ⟨fun g hg hmv => ?_, p3⟩⟩
        obtain ⟨q, q1, q2, q3, q4⟩ := mv_at iSa hg hm hmv
        exact h1 g q hg q2 q3 hmv
  | succ d ih =>
    intro i fu v2 hd hmi hi hu h1 h2
    obtain ⟨fu, rfl⟩ : ∃ q, fu = q + 1 := ⟨fu - 1, by omega⟩
    have hi2 : i < 240 := by omega
    have hge := nI_ge hi2 (show 240 < 2 ^ 31 by decide)
    have ii := xi240 hi2
    have ic := xc (show i < 1000 by omega)
    have s1 : ∀ r, (g_X4_flightToMoveTo_19 a (fu + 1) (nI m) v2 (nI i) = r) = (g_X4_flightToMoveTo_19s (g_X4_flightToMoveTo_19 a fu) a (nI m) v2 (nI i) = r) := fun _ => rfl
    have up : (∀ g, g < n → a.1 6 g = nI i → ¬ xMv a m g) → ∃ r, g_X4_flightToMoveTo_19 a fu (nI m) v2 (nI (i + 1)) = some r ∧ xCh a n m r := by
      intro hno
      refine ih (i + 1) fu v2 (by omega) (by omega) (by omega) (by omega) ?_ ?_
      · intro g q hg hq h6 hmv
        by_cases hqi : q = i
        · subst hqi; exact absurd hmv (hno g hg h6)
        · exact h1 g q hg (by omega) h6 hmv
      · rcases h2 with ⟨p1, p2⟩ | hh
        · refine Or.inl ⟨p1, fun g q hg hq h6 hmv => ?_⟩
          by_cases hqi : q = i
          · subst hqi; exact hno g hg h6 hmv
          · exact p2 g q hg (by omega) h6 hmv
        · exact Or.inr hh
    rcases iSb i hi2 with h | ⟨f, hf, f2, f6, f1⟩
    · obtain ⟨r, r1, r2⟩ := up (fun g hg h6 hmv => by
        have := iSa.at2 hn hg hi2 h6
        exact nI_m1 (m := g) (by omega) (this.symm.trans h))
      refine ⟨r, ?_, r2⟩
      rw [s1]; simp [g_X4_flightToMoveTo_86, g_X4_flightToMoveTo_19s, g_X4_flightToMoveTo_0, f_X4_flightToMoveTo, x240, hge, ii, ic, h, xp1, r1]
    · have hf6 : f < 60 := by omega
      have fi := xi60 hf6
      have fc := xc (show f < 1000 by omega)
      have fm := nI_m1 (show f < 2 ^ 31 by omega)
      have mi := xi240 hm
      have mc := xc (show m < 1000 by omega)
      have hcm := cm_4 a hf6 (nI m)
      have honly : ∀ g, g < n → a.1 6 g = nI i → g = f := by
        intro g hg h6
        have := iSa.at2 hn hg hi2 h6
        exact nI_j (by omega) (by omega) (this.symm.trans f2)
      by_cases hc : a.1 8 f = 0 ∧ ¬ nI m < a.1 5 f
      · rw [if_pos hc] at hcm
        have hmv : xMv a m f := ⟨by rw [f6]; exact nI_ge hmi (by omega), hc⟩
        by_cases h3 : a.1 3 f = a.1 1 m
        · refine ⟨nI f, ?_, Or.inr ⟨hem, f, hf, rfl, hmv, Or.inl ⟨h3, fun g hg gmv g3 => ?_⟩⟩⟩
          · rw [s1]; simp [g_X4_flightToMoveTo_86, g_X4_flightToMoveTo_19s, g_X4_flightToMoveTo_0, f_X4_flightToMoveTo, x240, hge, ii, ic, f2, fm, hcm, fi, fc, mi, mc, h3]
          · obtain ⟨q, q1, q2, q3, q4⟩ := mv_at iSa hg hm gmv
            rw [f6, q3]
            refine nI_le ?_ (by omega)
            apply Classical.byContradiction
            intro hh
            exact h1 g q hg (by omega) q3 gmv g3
        · rcases h2 with ⟨p1, p2⟩ | hh
          · subst p1
            obtain ⟨r, r1, r2⟩ := ih (i + 1) fu (nI f) (by omega) (by omega) (by omega) (by omega) (by
              intro g q hg hq h6 gmv
              by_cases hqi : q = i
              · subst hqi; rw [honly g hg h6]; exact h3
              · exact h1 g q hg (by omega) h6 gmv) (Or.inr ⟨f, hf, rfl, hmv, fun g hg gmv => by
              obtain ⟨q, q1, q2, q3, q4⟩ := mv_at iSa hg hm gmv
              rw [f6, q3]
              refine nI_le ?_ (by omega)
              apply Classical.byContradiction
              intro hh
              exact p2 g q hg (by omega) q3 gmv⟩)
            refine ⟨r, ?_, r2⟩
            rw [s1]; simp [g_X4_flightToMoveTo_86, g_X4_flightToMoveTo_19s, g_X4_flightToMoveTo_0, f_X4_flightToMoveTo, x240, hge, ii, ic, f2, fm, hcm, fi, fc, mi, mc, h3, xp1, r1]
          · obtain ⟨r, r1, r2⟩ := ih (i + 1) fu v2 (by omega) (by omega) (by omega) (by omega) (by
              intro g q hg hq h6 gmv
              by_cases hqi : q = i
              · subst hqi; rw [honly g hg h6]; exact h3
              · exact h1 g q hg (by omega) h6 gmv) (Or.inr hh)
            obtain ⟨f', hf', p1, -⟩ := hh
            have hv : ¬ v2 = -1 := by rw [p1]; exact nI_m1 (by omega)
            refine ⟨r, ?_, r2⟩
            rw [s1]; simp [g_X4_flightToMoveTo_86, g_X4_flightToMoveTo_19s, g_X4_flightToMoveTo_0, f_X4_flightToMoveTo, x240, hge, ii, ic, f2, fm, hcm, fi, fc, mi, mc, h3, hv, xp1, r1]
      · rw [if_neg hc] at hcm
        obtain ⟨r, r1, r2⟩ := up (fun g hg h6 hmv => by
          rw [honly g hg h6] at hmv; exact hc hmv.2)
        refine ⟨r, ?_, r2⟩
        rw [s1]; simp [g_X4_flightToMoveTo_86, g_X4_flightToMoveTo_19s, g_X4_flightToMoveTo_0, f_X4_flightToMoveTo, x240, hge, ii, ic, f2, fm, hcm, xp1, r1]
theorem ch_4 {a : xT} {n m : Nat} (hn : n ≤ 60) (iSa : xSa a n) (iSb : xSb a n) (hm : m < 240) : ∃ r, f_X4_flightToMoveTo a (nI m) = some r ∧ xCh a n m r := by
  have hie := ie_4 a hm
  by_cases hem : ¬ a.1 0 m = 0 ∧ a.1 2 m = -1
  · rw [if_pos hem] at hie
    obtain ⟨r, r1, r2⟩ := ch_4l hn iSa iSb hm hem (240 - (m + 1)) (m + 1) 1000 (-1) rfl (by omega) (by omega) (by omega) (by
      intro g q hg hq h6 hmv
      obtain ⟨q', q1, q2, q3, q4⟩ := mv_at iSa hg hm hmv
      have := nI_j (by omega) (by omega) (h6.symm.trans q3)
      omega) (Or.inl ⟨rfl, by
      intro g q hg hq h6 hmv
      obtain ⟨q', q1, q2, q3, q4⟩ := mv_at iSa hg hm hmv
      have := nI_j (by omega) (by omega) (h6.symm.trans q3)
      omega⟩)
    refine ⟨r, ?_, r2⟩
    simp [f_X4_flightToMoveTo, g_X4_flightToMoveTo_0, hie, xp1, r1]
  · rw [if_neg hem] at hie
    refine ⟨-1, ?_, Or.inl ⟨rfl, fun hh => absurd hh hem⟩⟩
    simp [f_X4_flightToMoveTo, g_X4_flightToMoveTo_0, hie]
/-- the least among the flights under j of which Q holds -/
def xFd (a : xT) (Q : Nat → Prop) (j : Nat) (v : Int32) : Prop := (v = -1 ∧ ∀ g, g < j → ¬ Q g) ∨ ∃ f, f < j ∧ v = nI f ∧ Q f ∧ ∀ g, g < j → Q g → a.1 6 f ≤ a.1 6 g
theorem fo_5 {a b : xT} {n m : Nat} (hn : n ≤ 60) (d0 : a.2 0 = nI n) (c1 : b.2 1 = a.2 0) (e0 : b.1 0 = a.1 0) (e2 : b.1 2 = a.1 2) (e3 : b.1 3 = a.1 3) (e5 : b.1 5 = a.1 5) (e6 : b.1 6 = a.1 6) (e8 : b.1 8 = a.1 8) (iSb : xSb a n) (hm : m < 240) (line : Int32) : ∀ (d j fu : Nat) (v : Int32), n - j = d → j ≤ n → d < fu → xFd a (fun g => (xEm a m ∧ xMv a m g) ∧ (line = -1 ∨ a.1 3 g = line)) j v → ∃ r, g_X5_follower_5 b fu (nI m) line v (nI j) = some r ∧ xFd a (fun g => (xEm a m ∧ xMv a m g) ∧ (line = -1 ∨ a.1 3 g = line)) n r := by
  intro d
  induction d with
  | zero =>
    intro j fu v hd hj hu hv
    obtain ⟨fu, rfl⟩ : ∃ q, fu = q + 1 := ⟨fu - 1, by omega⟩
    have hj2 : j = n := by omega
    subst hj2
    refine ⟨v, ?_, hv⟩
    show g_X5_follower_5s (g_X5_follower_5 b fu) b (nI m) line v (nI j) = _
    simp [g_X5_follower_78, g_X5_follower_77, g_X5_follower_72, g_X5_follower_45, g_X5_follower_44, g_X5_follower_40, g_X5_follower_5s, g_X5_follower_0, f_X5_follower, c1, d0]
  | succ d ih =>
    intro j fu v hd hj hu hv
    obtain ⟨fu, rfl⟩ : ∃ q, fu = q + 1 := ⟨fu - 1, by omega⟩
    have hjn : j < n := by omega
    have hge := nI_ge hjn (show n < 2 ^ 31 by omega)
    have ji := xi60 (show j < 60 by omega)
    have jc := xc (show j < 1000 by omega)
    have s1 : ∀ r, (g_X5_follower_5 b (fu + 1) (nI m) line v (nI j) = r) = (g_X5_follower_5s (g_X5_follower_5 b fu) b (nI m) line v (nI j) = r) := fun _ => rfl
    haveI := Classical.propDecidable (xMv a m j)
    have hg := ig_5 e0 e2 e5 e6 e8 iSb hn hm (show j < 60 by omega)
    have keep : ¬ ((xEm a m ∧ xMv a m j) ∧ (line = -1 ∨ a.1 3 j = line)) → ∃ r, g_X5_follower_5 b fu (nI m) line v (nI (j + 1)) = some r ∧ xFd a (fun g => (xEm a m ∧ xMv a m g) ∧ (line = -1 ∨ a.1 3 g = line)) n r := by
      intro hq
      refine ih (j + 1) fu v (by omega) (by omega) (by omega) ?_
      rcases hv with ⟨p1, p2⟩ | ⟨f, hf, p1, p2, p3⟩
      · refine Or.inl ⟨p1, fun g hg => ?_⟩
        by_cases hgj : g = j
        · subst hgj; exact hq
        · exact p2 g (by omega)
      · refine Or.inr ⟨f, by omega, p1, p2, fun g hg hQ => ?_⟩
        by_cases hgj : g = j
        · subst hgj; exact absurd hQ hq
        · exact p3 g (by omega) hQ
    by_cases hQ : (xEm a m ∧ xMv a m j) ∧ (line = -1 ∨ a.1 3 j = line)
    · rw [if_pos (show (¬ a.1 0 m = 0 ∧ a.1 2 m = -1) ∧ xMv a m j from hQ.1)] at hg
      have st : g_X5_follower_5s (g_X5_follower_5 b fu) b (nI m) line v (nI j) = g_X5_follower_45 (g_X5_follower_5 b fu) b (nI m) line v (nI j) 1 := by
        by_cases hl : line = -1
        · simp only [g_X5_follower_5s, g_X5_follower_40, c1, d0, if_neg hge, hg, Option.bind_some, if_neg (show ¬ (1 : Int32) = 0 by decide), if_pos hl]
        · have h3 : a.1 3 j = line := by rcases hQ.2 with hh | hh; exact absurd hh hl; exact hh
          simp only [g_X5_follower_5s, g_X5_follower_40, c1, d0, if_neg hge, hg, Option.bind_some, if_neg (show ¬ (1 : Int32) = 0 by decide), if_neg hl, ji, jc, e3, if_pos h3, if_true]
      rcases hv with ⟨p1, p2⟩ | ⟨f, hf, p1, p2, p3⟩
      · obtain ⟨r, r1, r2⟩ := ih (j + 1) fu (nI j) (by omega) (by omega) (by omega) (Or.inr ⟨j, by omega, rfl, hQ, fun g hg hQg => by
          by_cases hgj : g = j
          · subst hgj; exact Int32.le_refl _
          · exact absurd hQg (p2 g (by omega))⟩)
        refine ⟨r, ?_, r2⟩
        rw [s1, st, p1]
        simp [g_X5_follower_78, g_X5_follower_77, g_X5_follower_72, g_X5_follower_45, g_X5_follower_44, g_X5_follower_40, g_X5_follower_5s, g_X5_follower_0, f_X5_follower, xp1, r1]
      · have fi := xi60 (show f < 60 by omega)
        have fc := xc (show f < 1000 by omega)
        have fp := nI_pos (show f < 2 ^ 31 by omega)
        by_cases hle : a.1 6 f ≤ a.1 6 j
        · obtain ⟨r, r1, r2⟩ := ih (j + 1) fu (nI f) (by omega) (by omega) (by omega) (Or.inr ⟨f, by omega, rfl, p2, fun g hg hQg => by
            by_cases hgj : g = j
            · subst hgj; exact hle
            · exact p3 g (by omega) hQg⟩)
          refine ⟨r, ?_, r2⟩
          rw [s1, st, p1]
          simp [g_X5_follower_78, g_X5_follower_77, g_X5_follower_72, g_X5_follower_45, g_X5_follower_44, g_X5_follower_40, g_X5_follower_5s, g_X5_follower_0, f_X5_follower, fp, fi, fc, ji, jc, e6, hle, xp1, r1]
        · have hlt := Int32.not_le.mp hle
          obtain ⟨r, r1, r2⟩ := ih (j + 1) fu (nI j) (by omega) (by omega) (by omega) (Or.inr ⟨j, by omega, rfl, hQ, fun g hg hQg => by
            by_cases hgj : g = j
            · subst hgj; exact Int32.le_refl _
            · exact Int32.le_trans (Int32.le_of_lt hlt) (p3 g (by omega) hQg)⟩)
          refine ⟨r, ?_, r2⟩
          rw [s1, st, p1]
          simp only [g_X5_follower_78, g_X5_follower_77, g_X5_follower_72, g_X5_follower_45, g_X5_follower_44, g_X5_follower_40, g_X5_follower_5s, g_X5_follower_0, f_X5_follower, if_neg fp, fi, fc, ji, jc, e6, if_neg hle, if_neg (show ¬ (1 : Int32) = 0 by decide), if_true, xp1]
          exact r1
    · obtain ⟨r, r1, r2⟩ := keep hQ
      refine ⟨r, ?_, r2⟩
      rw [s1]
      by_cases hgp : xEm a m ∧ xMv a m j
      · rw [if_pos (show (¬ a.1 0 m = 0 ∧ a.1 2 m = -1) ∧ xMv a m j from hgp)] at hg
        have hl : ¬ line = -1 := fun hh => hQ ⟨hgp, Or.inl hh⟩
        have h3 : ¬ a.1 3 j = line := fun hh => hQ ⟨hgp, Or.inr hh⟩
        simp [g_X5_follower_78, g_X5_follower_77, g_X5_follower_72, g_X5_follower_45, g_X5_follower_44, g_X5_follower_40, g_X5_follower_5s, g_X5_follower_0, f_X5_follower, c1, d0, hge, hg, hl, ji, jc, e3, h3, xp1, r1]
      · rw [if_neg (show ¬ ((¬ a.1 0 m = 0 ∧ a.1 2 m = -1) ∧ xMv a m j) from hgp)] at hg
        simp [g_X5_follower_78, g_X5_follower_77, g_X5_follower_72, g_X5_follower_45, g_X5_follower_44, g_X5_follower_40, g_X5_follower_5s, g_X5_follower_0, f_X5_follower, c1, d0, hge, hg, xp1, r1]
theorem ch_5 {a b : xT} {n m : Nat} (hn : n ≤ 60) (d0 : a.2 0 = nI n) (c1 : b.2 1 = a.2 0) (e0 : b.1 0 = a.1 0) (e1 : b.1 1 = a.1 1) (e2 : b.1 2 = a.1 2) (e3 : b.1 3 = a.1 3) (e5 : b.1 5 = a.1 5) (e6 : b.1 6 = a.1 6) (e8 : b.1 8 = a.1 8) (iF : xF a n) (iSb : xSb a n) (hm : m < 240) (K : xT → Int32 → Option (Int32 × xT)) : ∃ r, xCh a n m r ∧ g_X5_moves_2s K b (nI m) = g_X5_moves_58 K b (nI m) r := by
  have hge := nI_ge hm (show 240 < 2 ^ 31 by decide)
  have mi := xi240 hm
  have mc := xc (show m < 1000 by omega)
  obtain ⟨t, t1, t2⟩ := fo_5 hn d0 c1 e0 e2 e3 e5 e6 e8 iSb hm (-1) n 0 1000 (-1) rfl (by omega) (by omega) (Or.inl ⟨rfl, fun g hg => by omega⟩)
  have f1 : f_X5_follower b (nI m) (-1) = some t := t1
  have any : (xEm a m → ∀ g, g < n → xMv a m g → ¬ a.1 3 g = a.1 1 m) → xCh a n m t := by
    intro hno
    rcases t2 with ⟨p1, p2⟩ | ⟨f, hf, p1, p2, p3⟩
    · exact Or.inl ⟨p1, fun he g hg hmv => p2 g hg ⟨⟨he, hmv⟩, Or.inl rfl⟩⟩
    · exact Or.inr ⟨p2.1.1, f, hf, p1, p2.1.2, Or.inr ⟨hno p2.1.1, fun g hg hmv => p3 g hg ⟨⟨p2.1.1, hmv⟩, Or.inl rfl⟩⟩⟩
  by_cases h0 : a.1 0 m = 0
  · refine ⟨t, any (fun he => absurd h0 he.1), ?_⟩
    simp only [g_X5_moves_2s, g_X5_moves_42, g_X5_moves_43, x240, if_neg hge, mi, mc, e0, if_pos h0, if_true, if_neg (show ¬ (0 : Int32) ≤ -1 by decide), f1, Option.bind_some]
  by_cases h1 : a.1 1 m = -1
  · refine ⟨t, any (fun he g hg hmv h3 => ?_), ?_⟩
    · obtain ⟨l, hl, hl2⟩ := (iF g hg).1
      exact nI_m1 (m := l) (by omega) (hl2.symm.trans (h3.trans h1))
    · simp only [g_X5_moves_2s, g_X5_moves_42, g_X5_moves_43, x240, if_neg hge, mi, mc, e0, e1, if_neg h0, if_pos h1, if_true, if_neg (show ¬ (0 : Int32) ≤ -1 by decide), f1, Option.bind_some]
  obtain ⟨u, u1, u2⟩ := fo_5 hn d0 c1 e0 e2 e3 e5 e6 e8 iSb hm (a.1 1 m) n 0 1000 (-1) rfl (by omega) (by omega) (Or.inl ⟨rfl, fun g hg => by omega⟩)
  have f2 : f_X5_follower b (nI m) (a.1 1 m) = some u := u1
  rcases u2 with ⟨p1, p2⟩ | ⟨f, hf, p1, p2, p3⟩
  · subst p1
    refine ⟨t, any (fun he g hg hmv h3 => p2 g hg ⟨⟨he, hmv⟩, Or.inr h3⟩), ?_⟩
    simp only [g_X5_moves_2s, g_X5_moves_42, g_X5_moves_43, x240, if_neg hge, mi, mc, e0, e1, if_neg h0, if_neg h1, if_true, f2, Option.bind_some, if_neg (show ¬ (0 : Int32) ≤ -1 by decide), f1]
  · have h3 : a.1 3 f = a.1 1 m := by rcases p2.2 with hh | hh; exact absurd hh h1; exact hh
    refine ⟨u, Or.inr ⟨p2.1.1, f, hf, p1, p2.1.2, Or.inl ⟨h3, fun g hg hmv g3 => p3 g hg ⟨⟨p2.1.1, hmv⟩, Or.inr g3⟩⟩⟩, ?_⟩
    have hp : 0 ≤ u := by rw [p1]; exact nI_pos' (by omega)
    simp only [g_X5_moves_2s, g_X5_moves_42, g_X5_moves_43, x240, if_neg hge, mi, mc, e0, e1, if_neg h0, if_neg h1, if_true, f2, Option.bind_some, if_pos hp]
