theorem ie_4 (a : xT) {m : Nat} (hm : m < 240) : f_X3_isEmpty a (nI m) = some (if ¬ a.1 0 m = 0 ∧ a.1 2 m = -1 then 1 else 0) := by
  by_cases h0 : a.1 0 m = 0 <;> by_cases h2 : a.1 2 m = -1 <;> simp [g_X3_isEmpty_23, g_X3_isEmpty_22, g_X3_isEmpty_0, f_X3_isEmpty, sl_in a hm, xi240 hm, xc (show m < 1000 by omega), h0, h2, xzb0, xzb1]
theorem neg_iff {a : xT} {n m : Nat} (iSb : xSb a n) (hn : n ≤ 60) (hm : m < 240) : 0 ≤ a.1 2 m ↔ ¬ a.1 2 m = -1 := by
  rcases iSb m hm with h | ⟨f, hf, h, -⟩
  · rw [h]; decide
  · rw [h]; exact ⟨fun _ => nI_m1 (by omega), fun _ => nI_pos' (by omega)⟩
/-- flight f could move to the empty slot m -/
def xMv (a : xT) (m f : Nat) : Prop := ¬ a.1 6 f ≤ nI m ∧ a.1 8 f = 0 ∧ ¬ nI m < a.1 5 f
theorem ig_5 {a b : xT} {n m f : Nat} (e0 : b.1 0 = a.1 0) (e2 : b.1 2 = a.1 2) (e5 : b.1 5 = a.1 5) (e6 : b.1 6 = a.1 6) (e8 : b.1 8 = a.1 8) (iSb : xSb a n) (hn : n ≤ 60) (hm : m < 240) (hf : f < 60) [Decidable (xMv a m f)] : f_X5_isGap b (nI m) (nI f) = some (if (¬ a.1 0 m = 0 ∧ a.1 2 m = -1) ∧ xMv a m f then 1 else 0) := by
  have hi := neg_iff iSb hn hm
  by_cases h0 : a.1 0 m = 0
  · simp [g_X5_isGap_52, g_X5_isGap_51, g_X5_isGap_0, f_X5_isGap, xi240 hm, xc (show m < 1000 by omega), e0, h0, xzb0]
  · by_cases h2 : a.1 2 m = -1
    · have hi' : ¬ 0 ≤ a.1 2 m := fun hh => (hi.mp hh) h2
      by_cases q6 : a.1 6 f ≤ nI m
      · simp only [g_X5_isGap_52, g_X5_isGap_51, g_X5_isGap_0, f_X5_isGap, xi240 hm, xc (show m < 1000 by omega), xi60 hf, xc (show f < 1000 by omega), e0, e2, e6, if_neg h0, if_neg hi', if_pos q6, if_true, xzb0]
        rw [if_neg (fun hh => hh.2.1 q6)]
      · by_cases q8 : a.1 8 f = 0
        · by_cases q5 : nI m < a.1 5 f
          · simp only [g_X5_isGap_52, g_X5_isGap_51, g_X5_isGap_0, f_X5_isGap, xi240 hm, xc (show m < 1000 by omega), xi60 hf, xc (show f < 1000 by omega), e0, e2, e6, e8, e5, if_neg h0, if_neg hi', if_neg q6, if_pos q8, if_pos q5, if_true, xzb0]
            rw [if_neg (fun hh => hh.2.2.2 q5)]
          · simp only [g_X5_isGap_52, g_X5_isGap_51, g_X5_isGap_0, f_X5_isGap, xi240 hm, xc (show m < 1000 by omega), xi60 hf, xc (show f < 1000 by omega), e0, e2, e6, e8, e5, if_neg h0, if_neg hi', if_neg q6, if_pos q8, if_neg q5, if_true, xzb1]
            rw [if_pos ⟨⟨h0, h2⟩, q6, q8, q5⟩]
        · simp only [g_X5_isGap_52, g_X5_isGap_51, g_X5_isGap_0, f_X5_isGap, xi240 hm, xc (show m < 1000 by omega), xi60 hf, xc (show f < 1000 by omega), e0, e2, e6, e8, if_neg h0, if_neg hi', if_neg q6, if_neg q8, if_true, xzb0]
          rw [if_neg (fun hh => q8 hh.2.2.1)]
    · have hi' : 0 ≤ a.1 2 m := hi.mpr h2
      simp only [g_X5_isGap_52, g_X5_isGap_51, g_X5_isGap_0, f_X5_isGap, xi240 hm, xc (show m < 1000 by omega), e0, e2, if_neg h0, if_pos hi', if_true, xzb0]
      rw [if_neg (fun hh => h2 hh.1.2)]
theorem ga_in0 {a b : xT} {n : Nat} (hn : n ≤ 60) (d0 : a.2 0 = nI n) (c1 : b.2 1 = a.2 0) (e0 : b.1 0 = a.1 0) (e2 : b.1 2 = a.1 2) (e5 : b.1 5 = a.1 5) (e6 : b.1 6 = a.1 6) (e8 : b.1 8 = a.1 8) (iSb : xSb a n) {m : Nat} (hm : m < 240) (hne : ¬ (¬ a.1 0 m = 0 ∧ a.1 2 m = -1)) (K : xT → Int32 → Int32 → Option (Int32 × xT)) (acc : Int32) : ∀ (d j fu : Nat), n - j = d → j ≤ n → d < fu → g_X5_gaps_18 K fu b acc (nI m) (nI j) = K b acc (nI (m + 1)) := by
  intro d
  induction d with
  | zero =>
    intro j fu hd hj hu
    obtain ⟨fu, rfl⟩ : ∃ q, fu = q + 1 := ⟨fu - 1, by omega⟩
    have hj2 : j = n := by omega
    subst hj2
    show g_X5_gaps_18s K (g_X5_gaps_18 K fu) b acc (nI m) (nI j) = _
    simp [g_X5_gaps_42, g_X5_gaps_18s, g_X5_gaps_9s, g_X5_gaps_5, g_X5_gaps_0, f_X5_gaps, c1, d0, xp1]
  | succ d ih =>
    intro j fu hd hj hu
    obtain ⟨fu, rfl⟩ : ∃ q, fu = q + 1 := ⟨fu - 1, by omega⟩
    have hge := nI_ge (show j < n by omega) (show n < 2 ^ 31 by omega)
    have hg : f_X5_isGap b (nI m) (nI j) = some 0 := by
      haveI := Classical.propDecidable (xMv a m j)
      rw [ig_5 e0 e2 e5 e6 e8 iSb hn hm (show j < 60 by omega), if_neg (fun hh => hne hh.1)]
    show g_X5_gaps_18s K (g_X5_gaps_18 K fu) b acc (nI m) (nI j) = _
    simp [g_X5_gaps_42, g_X5_gaps_18s, g_X5_gaps_9s, g_X5_gaps_5, g_X5_gaps_0, f_X5_gaps, c1, d0, hge, hg, xp1]
    exact ih (j + 1) fu (by omega) (by omega) (by omega)
theorem ga_in1 {a b : xT} {n : Nat} (hn : n ≤ 60) (d0 : a.2 0 = nI n) (c1 : b.2 1 = a.2 0) (e0 : b.1 0 = a.1 0) (e2 : b.1 2 = a.1 2) (e5 : b.1 5 = a.1 5) (e6 : b.1 6 = a.1 6) (e8 : b.1 8 = a.1 8) (iSb : xSb a n) {m : Nat} (hm : m < 240) (hne : ¬ a.1 0 m = 0 ∧ a.1 2 m = -1) (K : xT → Int32 → Int32 → Option (Int32 × xT)) (base : Int32) : ∀ (d j fu fv : Nat) (c0 : Int32), n - j = d → j ≤ n → d < fu → d < fv → ∃ c, g_X4_flightsThatCouldMoveTo_4 a fu (nI m) c0 (nI j) = some c ∧ g_X5_gaps_18 K fv b (base + c0) (nI m) (nI j) = K b (base + c) (nI (m + 1)) := by
  intro d
  induction d with
  | zero =>
    intro j fu fv c0 hd hj hu hv
    obtain ⟨fu, rfl⟩ : ∃ q, fu = q + 1 := ⟨fu - 1, by omega⟩
    obtain ⟨fv, rfl⟩ : ∃ q, fv = q + 1 := ⟨fv - 1, by omega⟩
    have hj2 : j = n := by omega
    subst hj2
    refine ⟨c0, ?_, ?_⟩
    · show g_X4_flightsThatCouldMoveTo_4s (g_X4_flightsThatCouldMoveTo_4 a fu) a (nI m) c0 (nI j) = _
      simp [g_X4_flightsThatCouldMoveTo_40, g_X4_flightsThatCouldMoveTo_4s, g_X4_flightsThatCouldMoveTo_0, f_X4_flightsThatCouldMoveTo, d0]
    · show g_X5_gaps_18s K (g_X5_gaps_18 K fv) b (base + c0) (nI m) (nI j) = _
      simp [g_X5_gaps_42, g_X5_gaps_18s, g_X5_gaps_9s, g_X5_gaps_5, g_X5_gaps_0, f_X5_gaps, c1, d0, xp1]
  | succ d ih =>
    intro j fu fv c0 hd hj hu hv
    obtain ⟨fu, rfl⟩ : ∃ q, fu = q + 1 := ⟨fu - 1, by omega⟩
    obtain ⟨fv, rfl⟩ : ∃ q, fv = q + 1 := ⟨fv - 1, by omega⟩
    have hj6 : j < 60 := by omega
    have hge := nI_ge (show j < n by omega) (show n < 2 ^ 31 by omega)
    have s1 : ∀ r, (g_X4_flightsThatCouldMoveTo_4 a (fu + 1) (nI m) c0 (nI j) = r) = (g_X4_flightsThatCouldMoveTo_4s (g_X4_flightsThatCouldMoveTo_4 a fu) a (nI m) c0 (nI j) = r) := fun _ => rfl
    have s2 : ∀ r, (g_X5_gaps_18 K (fv + 1) b (base + c0) (nI m) (nI j) = r) = (g_X5_gaps_18s K (g_X5_gaps_18 K fv) b (base + c0) (nI m) (nI j) = r) := fun _ => rfl
    haveI := Classical.propDecidable (xMv a m j)
    have hg := ig_5 e0 e2 e5 e6 e8 iSb hn hm hj6
    have hcm := cm_4 a hj6 (nI m)
    by_cases hmv : xMv a m j
    · obtain ⟨c, r1, r2⟩ := ih (j + 1) fu fv (c0 + 1) (by omega) (by omega) (by omega) (by omega)
      rw [if_pos ⟨hne, hmv⟩] at hg
      rw [if_pos hmv.2] at hcm
      refine ⟨c, ?_, ?_⟩
      · rw [s1]; simp only [g_X4_flightsThatCouldMoveTo_40, g_X4_flightsThatCouldMoveTo_4s, g_X4_flightsThatCouldMoveTo_0, f_X4_flightsThatCouldMoveTo, d0, if_neg hge, xi60 hj6, xc (show j < 1000 by omega), if_neg hmv.1, hcm, if_true, Option.bind_some, xp1]
        simpa using r1
      · rw [s2]; simp only [g_X5_gaps_42, g_X5_gaps_18s, g_X5_gaps_9s, g_X5_gaps_5, g_X5_gaps_0, f_X5_gaps, c1, d0, if_neg hge, hg, Option.bind_some, xp1]
        rw [← Int32.add_assoc] at r2
        simpa using r2
    · obtain ⟨c, r1, r2⟩ := ih (j + 1) fu fv c0 (by omega) (by omega) (by omega) (by omega)
      rw [if_neg (fun hh => hmv hh.2)] at hg
      refine ⟨c, ?_, ?_⟩
      · rw [s1]
        by_cases q6 : a.1 6 j ≤ nI m
        · simp only [g_X4_flightsThatCouldMoveTo_40, g_X4_flightsThatCouldMoveTo_4s, g_X4_flightsThatCouldMoveTo_0, f_X4_flightsThatCouldMoveTo, d0, if_neg hge, xi60 hj6, xc (show j < 1000 by omega), if_pos q6, if_true, xp1]
          exact r1
        · rw [if_neg (fun hh => hmv ⟨q6, hh⟩)] at hcm
          simp only [g_X4_flightsThatCouldMoveTo_40, g_X4_flightsThatCouldMoveTo_4s, g_X4_flightsThatCouldMoveTo_0, f_X4_flightsThatCouldMoveTo, d0, if_neg hge, xi60 hj6, xc (show j < 1000 by omega), if_neg q6, hcm, if_true, Option.bind_some, xp1]
          exact r1
      · rw [s2]; simp only [g_X5_gaps_42, g_X5_gaps_18s, g_X5_gaps_9s, g_X5_gaps_5, g_X5_gaps_0, f_X5_gaps, c1, d0, if_neg hge, hg, Option.bind_some, xp1, if_true]
        exact r2
theorem ga_loop {a b : xT} {n : Nat} (hn : n ≤ 60) (d0 : a.2 0 = nI n) (c1 : b.2 1 = a.2 0) (e0 : b.1 0 = a.1 0) (e2 : b.1 2 = a.1 2) (e5 : b.1 5 = a.1 5) (e6 : b.1 6 = a.1 6) (e8 : b.1 8 = a.1 8) (iSb : xSb a n) : ∀ (d j fu fv : Nat) (acc : Int32), 240 - j = d → j ≤ 240 → d < fu → d < fv → ∃ r, g_X4_gaps_4 a fu acc (nI j) = some r ∧ g_X5_gaps_9 fv b acc (nI j) = some (r, b) := by
  intro d
  induction d with
  | zero =>
    intro j fu fv acc hd hj hu hv
    obtain ⟨fu, rfl⟩ : ∃ q, fu = q + 1 := ⟨fu - 1, by omega⟩
    obtain ⟨fv, rfl⟩ : ∃ q, fv = q + 1 := ⟨fv - 1, by omega⟩
    have hj2 : j = 240 := by omega
    subst hj2
    refine ⟨acc, ?_, ?_⟩
    · show g_X4_gaps_4s (g_X4_gaps_4 a fu) a acc (nI 240) = _
      simp [g_X4_gaps_30, g_X4_gaps_4s, g_X4_gaps_0, f_X4_gaps, x240]
    · show g_X5_gaps_9s (g_X5_gaps_9 fv) b acc (nI 240) = _
      simp [g_X5_gaps_42, g_X5_gaps_18s, g_X5_gaps_9s, g_X5_gaps_5, g_X5_gaps_0, f_X5_gaps, x240]
  | succ d ih =>
    intro j fu fv acc hd hj hu hv
    obtain ⟨fu, rfl⟩ : ∃ q, fu = q + 1 := ⟨fu - 1, by omega⟩
    obtain ⟨fv, rfl⟩ : ∃ q, fv = q + 1 := ⟨fv - 1, by omega⟩
    have hm : j < 240 := by omega
    have hge := nI_ge hm (show 240 < 2 ^ 31 by decide)
    have s1 : ∀ r, (g_X4_gaps_4 a (fu + 1) acc (nI j) = r) = (g_X4_gaps_4s (g_X4_gaps_4 a fu) a acc (nI j) = r) := fun _ => rfl
    have s2 : ∀ r, (g_X5_gaps_9 (fv + 1) b acc (nI j) = r) = (g_X5_gaps_9s (g_X5_gaps_9 fv) b acc (nI j) = r) := fun _ => rfl
    have hie := ie_4 a hm
    by_cases hne : ¬ a.1 0 j = 0 ∧ a.1 2 j = -1
    · obtain ⟨c, r1, r2⟩ := ga_in1 hn d0 c1 e0 e2 e5 e6 e8 iSb hm hne (g_X5_gaps_9 fv) acc n 0 1000 1000 0 rfl (by omega) (by omega) (by omega)
      obtain ⟨r, t1, t2⟩ := ih (j + 1) fu fv (acc + c) (by omega) (by omega) (by omega) (by omega)
      rw [if_pos hne] at hie
      rw [z0] at r1 r2
      rw [Int32.add_zero] at r2
      refine ⟨r, ?_, ?_⟩
      · rw [s1]; simp [g_X4_gaps_30, g_X4_gaps_4s, g_X4_gaps_0, f_X4_gaps, x240, hge, hie, f_X4_flightsThatCouldMoveTo, g_X4_flightsThatCouldMoveTo_0, r1, xp1, t1]
      · rw [s2]; simp only [g_X5_gaps_42, g_X5_gaps_18s, g_X5_gaps_9s, g_X5_gaps_5, g_X5_gaps_0, f_X5_gaps, x240, hge, if_false]; rw [r2]; exact t2
    · have r2 := ga_in0 hn d0 c1 e0 e2 e5 e6 e8 iSb hm hne (g_X5_gaps_9 fv) acc n 0 1000 rfl (by omega) (by omega)
      obtain ⟨r, t1, t2⟩ := ih (j + 1) fu fv acc (by omega) (by omega) (by omega) (by omega)
      rw [if_neg hne] at hie
      rw [z0] at r2
      refine ⟨r, ?_, ?_⟩
      · rw [s1]; simp [g_X4_gaps_30, g_X4_gaps_4s, g_X4_gaps_0, f_X4_gaps, x240, hge, hie, xp1, t1]
      · rw [s2]; simp only [g_X5_gaps_42, g_X5_gaps_18s, g_X5_gaps_9s, g_X5_gaps_5, g_X5_gaps_0, f_X5_gaps, x240, hge, if_false]; rw [r2]; exact t2
theorem ag_gaps : xAg_gaps xGd := by
  intro a b h
  have h' := h
  obtain ⟨⟨e0, e1, e2, e3, e4, e5, e6, e7, e8, e10, e11, e12, e13, c1, c2, c3⟩, hl, n, k, e, hn, hk, he, d0, d1, d2, iF, iB, iSa, iSb, iSc, iO, iBy⟩ := h'
  obtain ⟨r, r1, r2⟩ := ga_loop (a := a) (b := xn b 0 0) hn d0 c1 e0 e2 e5 e6 e8 iSb 240 0 1000 1000 0 rfl (by omega) (by omega) (by omega)
  rw [z0] at r1 r2
  exact ⟨r, xn b 0 0, r1, r2, h.code 0⟩
