theorem wi_5 (b : xT) (x lo hi : Int32) : f_X5_within b x lo hi = some (if x < lo then 0 else if hi < x then 0 else 1) := by
  by_cases h1 : x < lo
  · simp only [g_X5_within_15, g_X5_within_14, g_X5_within_0, f_X5_within, if_pos h1, if_pos xzb0]
  · by_cases h2 : hi < x
    · simp only [g_X5_within_15, g_X5_within_14, g_X5_within_0, f_X5_within, if_neg h1, if_pos h2, if_pos xzb0]
    · simp only [g_X5_within_15, g_X5_within_14, g_X5_within_0, f_X5_within, if_neg h1, if_neg h2, if_pos xzb1]
/-- the order by schedule as an array of its own -/
def xp9 (A : xT) (B : Nat → Int32) : xT := (fun z => if z = 9 then B else A.1 z, A.2)
theorem xp9_s (A : xT) (B : Nat → Int32) (i : Nat) (v : Int32) : xs (xp9 A B) 9 i v = xp9 A (upd B i v) := by
  refine Prod.ext ?_ rfl
  funext z
  simp only [xs1, xp9]
  by_cases h : z = 9 <;> simp [h]
theorem xp9_0 (A : xT) : xp9 A (A.1 9) = A := by
  refine Prod.ext ?_ rfl
  funext z
  simp only [xp9]
  by_cases h : z = 9 <;> simp [h]
def xB9 (B : Nat → Int32) (n p : Nat) : Nat → Int32 := fun i => if p < i ∧ i ≤ n then B (i - 1) else B i
def xR9 (B : Nat → Int32) (n p : Nat) : Nat → Int32 := fun i => if i = p then nI n else if p < i ∧ i ≤ n then B (i - 1) else B i
theorem xB9_n (B : Nat → Int32) (n : Nat) : xB9 B n n = B := by
  funext i; simp only [xB9]; rw [if_neg (by omega)]
theorem xR9_u (B : Nat → Int32) (n p : Nat) : upd (xB9 B n p) p (nI n) = xR9 B n p := by
  funext i; simp only [upd_e, xB9, xR9]
theorem xB9_u (B : Nat → Int32) (n p : Nat) (h : p + 1 ≤ n) : upd (xB9 B n (p + 1)) (p + 1) (B p) = xB9 B n p := by
  funext i; simp only [upd_e, xB9]
  by_cases h1 : i = p + 1
  · subst h1; rw [if_pos rfl, if_pos (by omega)]; rfl
  · rw [if_neg h1]
    by_cases h2 : p < i ∧ i ≤ n
    · rw [if_pos h2, if_pos (by omega)]
    · rw [if_neg h2, if_neg (by omega)]
theorem ins_loop {A : xT} {n : Nat} (hn : n < 60) (B : Nat → Int32) (hB : ∀ i, i < n → ∃ f, f < n ∧ B i = nI f) : ∀ p, p ≤ n → (∀ i f, p ≤ i → i < n → B i = nI f → f < n → A.1 4 n < A.1 4 f) → ∀ fu, p < fu → ∃ p', p' ≤ p ∧ g_X1_insertBySchedule_2 fu (xp9 A (xB9 B n p)) (nI n) (nI p) = some (xp9 A (xR9 B n p')) ∧ (∀ i f, p' ≤ i → i < n → B i = nI f → f < n → A.1 4 n < A.1 4 f) ∧ (∀ f, 0 < p' → B (p' - 1) = nI f → f < n → A.1 4 f ≤ A.1 4 n) := by
  intro p
  induction p with
  | zero =>
    intro hp hi fu hu
    obtain ⟨fu, rfl⟩ : ∃ q, fu = q + 1 := ⟨fu - 1, by omega⟩
    refine ⟨0, Nat.le_refl _, ?_, hi, fun f h => absurd h (by decide)⟩
    show g_X1_insertBySchedule_2s (g_X1_insertBySchedule_2 fu) (xp9 A (xB9 B n 0)) (nI n) (nI 0) = _
    have h0 : xin (nI 0) 60 = true := xi60 (by decide)
    have hle : nI 0 ≤ 0 := by decide
    simp only [g_X1_insertBySchedule_55, g_X1_insertBySchedule_48, g_X1_insertBySchedule_42, g_X1_insertBySchedule_2s, g_X1_insertBySchedule_0, f_X1_insertBySchedule, if_pos hle, h0, if_true, xp9_s, xc (show 0 < 1000 by decide), xR9_u]
  | succ p ih =>
    intro hp hi fu hu
    obtain ⟨fu, rfl⟩ : ∃ q, fu = q + 1 := ⟨fu - 1, by omega⟩
    obtain ⟨f, hf, hBf⟩ := hB p (by omega)
    have hle : ¬ nI (p + 1) ≤ 0 := nI_nle (by omega) (by omega)
    have h9 : (xp9 A (xB9 B n (p + 1))).1 9 p = nI f := by
      show xB9 B n (p + 1) p = nI f
      simp only [xB9]; rw [if_neg (by omega)]; exact hBf
    have h4 : ∀ q, (xp9 A (xB9 B n (p + 1))).1 4 q = A.1 4 q := fun q => rfl
    have s1 : ∀ r, (g_X1_insertBySchedule_2 (fu + 1) (xp9 A (xB9 B n (p + 1))) (nI n) (nI (p + 1)) = r) = (g_X1_insertBySchedule_2s (g_X1_insertBySchedule_2 fu) (xp9 A (xB9 B n (p + 1))) (nI n) (nI (p + 1)) = r) := fun _ => rfl
    by_cases hc : A.1 4 f ≤ A.1 4 n
    · refine ⟨p + 1, Nat.le_refl _, ?_, hi, ?_⟩
      · rw [s1]
        simp only [g_X1_insertBySchedule_55, g_X1_insertBySchedule_48, g_X1_insertBySchedule_42, g_X1_insertBySchedule_2s, g_X1_insertBySchedule_0, f_X1_insertBySchedule, if_neg hle, nI_pred, xi60 (show p < 60 by omega), xi60 (show p + 1 < 60 by omega), xc (show p < 1000 by omega), xc (show p + 1 < 1000 by omega), h9, xi60 (show f < 60 by omega), xi60 hn, xc (show f < 1000 by omega), xc (show n < 1000 by omega), h4, if_pos hc, if_true, xp9_s, xR9_u]
      · intro f' _ hB' _
        have : f' = f := nI_j (by omega) (by omega) (hB'.symm.trans hBf)
        subst this; exact hc
    · obtain ⟨p', h1, h2, h3, h5⟩ := ih (by omega) (by
        intro i f' hpi hin hBi hf'
        by_cases hip : i = p
        · subst hip
          have : f' = f := nI_j (by omega) (by omega) (hBi.symm.trans hBf)
          subst this; exact Int32.not_le.mp hc
        · exact hi i f' (by omega) hin hBi hf') fu (by omega)
      refine ⟨p', by omega, ?_, h3, h5⟩
      rw [s1]
      simp only [g_X1_insertBySchedule_55, g_X1_insertBySchedule_48, g_X1_insertBySchedule_42, g_X1_insertBySchedule_2s, g_X1_insertBySchedule_0, f_X1_insertBySchedule, if_neg hle, nI_pred, xi60 (show p < 60 by omega), xi60 (show p + 1 < 60 by omega), xc (show p < 1000 by omega), xc (show p + 1 < 1000 by omega), h9, xi60 (show f < 60 by omega), xi60 hn, xc (show f < 1000 by omega), xc (show n < 1000 by omega), h4, if_neg hc, if_true, xp9_s, pk_m1]
      rw [← hBf, xB9_u B n p (by omega)]
      exact h2
theorem by_new {a : xT} {n p : Nat} {v2 : Int32} (hn : n < 60) (hBy : xBy a n) (hp : p ≤ n) (h1 : ∀ i f, p ≤ i → i < n → a.1 9 i = nI f → f < n → v2 < a.1 4 f) (h2 : ∀ f, 0 < p → a.1 9 (p - 1) = nI f → f < n → a.1 4 f ≤ v2) (A : xT) (hA4 : A.1 4 = upd (a.1 4) n v2) (hA9 : A.1 9 = xR9 (a.1 9) n p) : xBy A (n + 1) := by
  obtain ⟨b1, b2, b3⟩ := hBy
  have low : ∀ i f, i < p → a.1 9 i = nI f → f < n → a.1 4 f ≤ v2 := by
    intro i f hi hf hfn
    by_cases hip : i = p - 1
    · subst hip; exact h2 f (by omega) hf hfn
    · obtain ⟨g, hg, hg9⟩ := b1 (p - 1) (by omega)
      have hgv := h2 g (by omega) hg9 hg
      rcases b3 i (p - 1) f g (by omega) (by omega) hf hg9 (by omega) (by omega) with h | ⟨h, -⟩
      · exact Int32.le_trans (Int32.le_of_lt h) hgv
      · rw [h]; exact hgv
  rw [xBy, hA4, hA9]
  refine ⟨?_, ?_, ?_⟩
  · intro i hi
    simp only [xR9]
    by_cases q1 : i = p
    · rw [if_pos q1]; exact ⟨n, by omega, rfl⟩
    · rw [if_neg q1]
      by_cases q2 : p < i ∧ i ≤ n
      · rw [if_pos q2]; obtain ⟨f, hf, h⟩ := b1 (i - 1) (by omega); exact ⟨f, by omega, h⟩
      · rw [if_neg q2]; obtain ⟨f, hf, h⟩ := b1 i (by omega); exact ⟨f, by omega, h⟩
  · intro f hf
    by_cases hfn : f = n
    · subst hfn; exact ⟨p, by omega, by simp [xR9]⟩
    · obtain ⟨i, hi, h⟩ := b2 f (by omega)
      by_cases hip : i < p
      · refine ⟨i, by omega, ?_⟩
        simp only [xR9]; rw [if_neg (by omega), if_neg (by omega)]; exact h
      · refine ⟨i + 1, by omega, ?_⟩
        simp only [xR9]; rw [if_neg (by omega), if_pos (by omega)]; exact h
  · intro i j f g hij hj hi9 hj9 hf hg
    simp only [xR9] at hi9 hj9
    simp only [upd_e]
    by_cases qi : i = p
    · rw [if_pos qi] at hi9
      have hfn : f = n := (nI_j (by omega) (by omega) hi9).symm
      rw [if_neg (by omega), if_pos (by omega)] at hj9
      obtain ⟨g', hg', h⟩ := b1 (j - 1) (by omega)
      have hgg : g = g' := nI_j (by omega) (by omega) (hj9.symm.trans h)
      subst hgg
      rw [if_pos hfn, if_neg (by omega)]
      exact Or.inl (h1 (j - 1) g (by omega) (by omega) hj9 hg')
    · rw [if_neg qi] at hi9
      by_cases qj : j = p
      · rw [if_pos qj] at hj9
        have hgn : g = n := (nI_j (by omega) (by omega) hj9).symm
        rw [if_neg (by omega)] at hi9
        obtain ⟨f', hf', h⟩ := b1 i (by omega)
        have hff : f = f' := nI_j (by omega) (by omega) (hi9.symm.trans h)
        subst hff
        rw [if_pos hgn, if_neg (by omega)]
        have := low i f (by omega) hi9 hf'
        by_cases he : a.1 4 f = v2
        · exact Or.inr ⟨he, by omega⟩
        · exact Or.inl (Int32.lt_of_le_of_ne this he)
      · rw [if_neg qj] at hj9
        have key : ∀ i' j', i' < j' → j' < n → a.1 9 i' = nI f → a.1 9 j' = nI g → (if f = n then v2 else a.1 4 f) < (if g = n then v2 else a.1 4 g) ∨ (if f = n then v2 else a.1 4 f) = (if g = n then v2 else a.1 4 g) ∧ f < g := by
          intro i' j' hij' hj' hi' hj9'
          obtain ⟨f', hf', h⟩ := b1 i' (by omega)
          obtain ⟨g', hg', h'⟩ := b1 j' (by omega)
          have hff : f = f' := nI_j (by omega) (by omega) (hi'.symm.trans h)
          have hgg : g = g' := nI_j (by omega) (by omega) (hj9'.symm.trans h')
          subst hff; subst hgg
          rw [if_neg (by omega), if_neg (by omega)]
          exact b3 i' j' f g hij' hj' hi' hj9' hf hg
        by_cases ri : p < i ∧ i ≤ n
        · rw [if_pos ri] at hi9
          rw [if_pos (by omega)] at hj9
          exact key (i - 1) (j - 1) (by omega) (by omega) hi9 hj9
        · rw [if_neg ri] at hi9
          by_cases rj : p < j ∧ j ≤ n
          · rw [if_pos rj] at hj9
            exact key i (j - 1) (by omega) (by omega) hi9 hj9
          · rw [if_neg rj] at hj9
            exact key i j (by omega) (by omega) hi9 hj9
theorem fl_add {a b : xT} {n k e l t u : Nat} (hE : xEq a b) (hL : xLg a b) (h : xIn a n k e) (hn6 : n < 60) (hl8 : l < 8) (ht : t < 240) (hu : u ≤ 300) : ∃ a1, f_X1_add a (nI l) (nI t) (nI u) = some (nI n, a1) ∧ xGd a1 (xn (xs (xs (xs (xs b 3 n (nI l)) 4 n (nI t)) 5 n (nI u)) 6 n (-1)) 1 (nI (n + 1))) := by
  have h' := h
  obtain ⟨hn, hk, he, d0, d1, d2, iF, iB, iSa, iSb, iSc, iO, iBy⟩ := h'
  have hA4n : (xs (xs (xs (xs a 3 n (nI l)) 4 n (nI t)) 5 n (nI u)) 6 n (-1)).1 4 = upd (a.1 4) n (nI t) := rfl
  have hA9 : (xs (xs (xs (xs a 3 n (nI l)) 4 n (nI t)) 5 n (nI u)) 6 n (-1)).1 9 = a.1 9 := rfl
  obtain ⟨p, hp, hr, p1, p2⟩ := ins_loop (A := xs (xs (xs (xs a 3 n (nI l)) 4 n (nI t)) 5 n (nI u)) 6 n (-1)) hn6 (a.1 9) iBy.1 n (Nat.le_refl _) (fun i f h1 h2 => by omega) 1000 (by omega)
  rw [xB9_n] at hr
  have hr' : f_X1_insertBySchedule (xs (xs (xs (xs a 3 n (nI l)) 4 n (nI t)) 5 n (nI u)) 6 n (-1)) (nI n) = some (xp9 (xs (xs (xs (xs a 3 n (nI l)) 4 n (nI t)) 5 n (nI u)) 6 n (-1)) (xR9 (a.1 9) n p)) := by
    rw [← hr]
    show g_X1_insertBySchedule_2 1000 _ (nI n) (nI n) = _
    rw [← hA9, xp9_0]
  have q1 : ∀ i f, p ≤ i → i < n → a.1 9 i = nI f → f < n → nI t < a.1 4 f := by
    intro i f g1 g2 g3 g4
    have := p1 i f g1 g2 g3 g4
    rw [hA4n] at this
    simp only [upd_e] at this
    rw [if_pos trivial, if_neg (show ¬ f = n by omega)] at this
    exact this
  have q2 : ∀ f, 0 < p → a.1 9 (p - 1) = nI f → f < n → a.1 4 f ≤ nI t := by
    intro f g1 g2 g3
    have := p2 f g1 g2 g3
    rw [hA4n] at this
    simp only [upd_e] at this
    rw [if_neg (show ¬ f = n by omega), if_pos trivial] at this
    exact this
  refine ⟨xn (xp9 (xs (xs (xs (xs a 3 n (nI l)) 4 n (nI t)) 5 n (nI u)) 6 n (-1)) (xR9 (a.1 9) n p)) 0 (nI (n + 1)), ?_, ?_⟩
  · have z : (xp9 (xs (xs (xs (xs a 3 n (nI l)) 4 n (nI t)) 5 n (nI u)) 6 n (-1)) (xR9 (a.1 9) n p)).2 0 = nI n := d0
    simp [g_X1_add_54, g_X1_add_38, g_X1_add_30, g_X1_add_22, g_X1_add_14, g_X1_add_0, f_X1_add, d0, xi60 hn6, xc (show n < 1000 by omega), hr', z, xp1]
  · obtain ⟨w0, w1, w2, w3, w4, w5, w6, w7, w8, w10, w11, w12, w13, y1, y2, y3⟩ := (((hE.set 3 n (nI l) (by omega)).set 4 n (nI t) (by omega)).set 5 n (nI u) (by omega)).set 6 n (-1) (by omega)
    refine ⟨⟨w0, w1, w2, w3, w4, w5, w6, w7, w8, w10, w11, w12, w13, rfl, y2, y3⟩, fun i => hL i, n + 1, k, e, by omega, hk, he, rfl, d1, d2, ?_, iB, ?_, ?_, iSc, iO, ?_⟩
    · intro f hf
      show (∃ q, q < 8 ∧ upd (a.1 3) n (nI l) f = nI q) ∧ (∃ q, q < 240 ∧ upd (a.1 4) n (nI t) f = nI q) ∧ (∃ q, q ≤ 300 ∧ upd (a.1 5) n (nI u) f = nI q)
      simp only [upd_e]
      by_cases hfn : f = n
      · simp only [if_pos hfn]; exact ⟨⟨l, hl8, rfl⟩, ⟨t, ht, rfl⟩, ⟨u, hu, rfl⟩⟩
      · simp only [if_neg hfn]; exact iF f (by omega)
    · intro f hf
      show upd (a.1 6) n (-1) f = -1 ∨ ∃ m, m < 240 ∧ upd (a.1 6) n (-1) f = nI m ∧ a.1 2 m = nI f
      simp only [upd_e]
      by_cases hfn : f = n
      · left; rw [if_pos hfn]
      · simp only [if_neg hfn]; exact iSa f (by omega)
    · intro m hm
      show a.1 2 m = -1 ∨ ∃ f, f < n + 1 ∧ a.1 2 m = nI f ∧ upd (a.1 6) n (-1) f = nI m ∧ a.1 1 m = upd (a.1 3) n (nI l) f
      rcases iSb m hm with h | ⟨f, hf, h1, h2, h3⟩
      · exact Or.inl h
      · right
        refine ⟨f, by omega, h1, ?_, ?_⟩
        · simp only [upd_e]; rw [if_neg (by omega)]; exact h2
        · simp only [upd_e]; rw [if_neg (by omega)]; exact h3
    · exact by_new hn6 iBy hp q1 q2 _ rfl rfl
theorem ag_flight : xAg_flight xGd := by
  intro a b v1 v2 v3 h
  have h' := h
  obtain ⟨⟨e0, e1, e2, e3, e4, e5, e6, e7, e8, e10, e11, e12, e13, c1, c2, c3⟩, hl, n, k, e, hn, hk, he, d0, d1, d2, iF, iB, iSa, iSb, iSc, iO, iBy⟩ := h'
  have hw1 : ∀ z : Int32, (if (15 : Int32) ≤ v2 then g_X5_flight_14 b v1 v2 v3 (v2 - 15) else g_X5_flight_14 b v1 v2 v3 0) = f_X5_flight b v1 v2 v3 := fun _ => rfl
  have bad14 : ∀ s0 : Int32, f_X5_within b v1 0 7 = some 0 → g_X5_flight_14 b v1 v2 v3 s0 = some (0, xn b 0 1) := by
    intro s0 hh; simp [g_X5_flight_130, g_X5_flight_120, g_X5_flight_110, g_X5_flight_100, g_X5_flight_90, g_X5_flight_71, g_X5_flight_68, g_X5_flight_50, g_X5_flight_14, g_X5_flight_0, f_X5_flight, hh, xn2]
  rcases ca_4 a v1 with ⟨w1, w2⟩ | ⟨w1, w2⟩
  rotate_left
  · right; left; refine ⟨0, xn b 0 1, ?_, ?_, rfl, h.code 1⟩
    · simp [f_X4_flight, g_X4_flight_0, w1]
    · rw [← hw1 0]; split <;> exact bad14 _ (w2 b)
  obtain ⟨l, hl8, rfl⟩ : ∃ l, l < 8 ∧ v1 = nI l := by
    rcases xix v1 (n := 8) (by omega) with g0 | ⟨g0, g1, g2⟩ | ⟨j, hj, hh, -⟩
    · exfalso; simp [g_X4_checkAirline_10, g_X4_checkAirline_0, f_X4_checkAirline, g0] at w1
    · exfalso
      have g2' : ¬ v1 < 8 := g2
      simp only [g_X4_checkAirline_10, g_X4_checkAirline_0, f_X4_checkAirline, if_neg g0, if_neg g2'] at w1
      cases w1
    · exact ⟨j, hj, hh⟩
  have bad14b : ∀ s0 : Int32, f_X5_within b v2 0 239 = some 0 → g_X5_flight_14 b (nI l) v2 v3 s0 = some (0, xn b 0 1) := by
    intro s0 hh; simp [g_X5_flight_130, g_X5_flight_120, g_X5_flight_110, g_X5_flight_100, g_X5_flight_90, g_X5_flight_71, g_X5_flight_68, g_X5_flight_50, g_X5_flight_14, g_X5_flight_0, f_X5_flight, w2 b, hh, xn2]
  rcases xix v2 (n := 240) (by omega) with g0 | ⟨g0, g1, g2⟩ | ⟨t, ht, rfl, g0, g1, g2⟩
  · right; left; refine ⟨0, xn b 0 1, ?_, ?_, rfl, h.code 1⟩
    · simp [f_X4_flight, g_X4_flight_0, g_X4_flight_16, w1, g0]
    · have : f_X5_within b v2 0 239 = some 0 := by rw [wi_5, if_pos g0]
      rw [← hw1 0]; split <;> exact bad14b _ this
  · right; left; refine ⟨0, xn b 0 1, ?_, ?_, rfl, h.code 1⟩
    · have g2' : ¬ v2 < 240 := g2
      simp only [f_X4_flight, g_X4_flight_0, g_X4_flight_16, w1, Option.bind_some, Option.elim_none, if_neg g0, if_neg g2']
    · have h239 : (239 : Int32) < v2 := Int32.lt_of_lt_of_le (by decide) g1
      have : f_X5_within b v2 0 239 = some 0 := by rw [wi_5, if_neg g0, if_pos h239]
      rw [← hw1 0]; split <;> exact bad14b _ this
  have h239 : ¬ (239 : Int32) < nI t := nI_nlt (a := 239) (b := t) (by omega) (by decide)
  have wt : f_X5_within b (nI t) 0 239 = some 1 := by rw [wi_5, if_neg g0, if_neg h239]
  have g1' : nI t < 240 := g1
  have hmax : (if (0 : Int32) < nI t - 15 then nI t - 15 else 0) = nI (t - 15) := by
    by_cases h15 : 15 ≤ t
    · have e15 : nI t - 15 = nI (t - 15) := pk_sub (a := t) (b := 15) h15
      rw [e15]
      by_cases hz : t = 15
      · subst hz; rfl
      · rw [if_pos (show (0 : Int32) < nI (t - 15) from nI_lt (a := 0) (b := t - 15) (by omega) (by omega))]
    · have e15 : nI t - 15 < 0 := pk_sneg (a := t) (b := 15) (by decide) (by omega)
      have : ¬ (0 : Int32) < nI t - 15 := by
        rw [Int32.lt_iff_toInt_lt] at e15 ⊢; omega
      rw [if_neg this, show t - 15 = 0 by omega]; rfl
  have hlst : f_X5_flight b (nI l) (nI t) v3 = g_X5_flight_14 b (nI l) (nI t) v3 (nI (t - 15)) := by
    rw [← hw1 0]
    by_cases h15 : 15 ≤ t
    · have : (15 : Int32) ≤ nI t := nI_le (a := 15) h15 (by omega)
      rw [if_pos this]
      have e15 : nI t - 15 = nI (t - 15) := pk_sub (a := t) (b := 15) h15
      rw [e15]
    · have : ¬ (15 : Int32) ≤ nI t := nI_ge (a := t) (b := 15) (by omega) (by decide)
      rw [if_neg this, show t - 15 = 0 by omega]; rfl
  have bad3 : f_X5_within b v3 (nI (t - 15)) 300 = some 0 → f_X5_flight b (nI l) (nI t) v3 = some (0, xn b 0 1) := by
    intro hh; rw [hlst]; simp [g_X5_flight_130, g_X5_flight_120, g_X5_flight_110, g_X5_flight_100, g_X5_flight_90, g_X5_flight_71, g_X5_flight_68, g_X5_flight_50, g_X5_flight_14, g_X5_flight_0, f_X5_flight, w2 b, wt, hh, xn2]
  by_cases h3 : v3 < nI (t - 15)
  · right; left; refine ⟨0, xn b 0 1, ?_, ?_, rfl, h.code 1⟩
    · simp only [f_X4_flight, g_X4_flight_0, g_X4_flight_45, w1, Option.bind_some, Option.elim_none, if_neg g0, if_pos g1', hmax, if_pos h3]
    · exact bad3 (by rw [wi_5, if_pos h3])
  by_cases h30 : v3 ≤ 300
  rotate_left
  · right; left; refine ⟨0, xn b 0 1, ?_, ?_, rfl, h.code 1⟩
    · simp only [f_X4_flight, g_X4_flight_0, g_X4_flight_45, w1, Option.bind_some, Option.elim_none, if_neg g0, if_pos g1', hmax, if_neg h3, if_neg h30]
    · exact bad3 (by rw [wi_5, if_neg h3, if_pos (Int32.not_le.mp h30)])
  have w3 : f_X5_within b v3 (nI (t - 15)) 300 = some 1 := by rw [wi_5, if_neg h3, if_neg (Int32.not_lt.mpr h30)]
  obtain ⟨u, hu, rfl⟩ : ∃ u, u ≤ 300 ∧ v3 = nI u := by
    refine nI_of2 (M := 300) (n := 300) rfl ?_ h30
    intro hneg
    exact h3 (Int32.lt_of_lt_of_le hneg (nI_pos' (by omega)))
  by_cases hn6 : n = 60
  · subst hn6
    right; right; refine ⟨0, xn b 0 2, ?_, ?_, rfl, h.code 2⟩
    · have : ¬ a.2 0 < 60 := by rw [d0]; decide
      simp only [f_X4_flight, g_X4_flight_0, g_X4_flight_45, w1, Option.bind_some, Option.elim_none, if_neg g0, if_pos g1', hmax, if_neg h3, if_pos h30, if_neg this]
    · have : b.2 1 = 60 := c1.trans d0
      rw [hlst]; simp [g_X5_flight_130, g_X5_flight_120, g_X5_flight_110, g_X5_flight_100, g_X5_flight_90, g_X5_flight_71, g_X5_flight_68, g_X5_flight_50, g_X5_flight_14, g_X5_flight_0, f_X5_flight, w2 b, wt, w3, this, xn2]
  · have hn7 : n < 60 := by omega
    obtain ⟨a1, r1, r2⟩ := fl_add (h.1.code 0) (h.2.1.code 0) ⟨hn, hk, he, d0, d1, d2, iF, iB, iSa, iSb, iSc, iO, iBy⟩ hn7 hl8 ht hu
    left; refine ⟨nI n, a1, _, ?_, ?_, ?_, r2⟩
    · have : a.2 0 < 60 := by rw [d0]; exact nI_lt (b := 60) hn7 (by decide)
      simp only [f_X4_flight, g_X4_flight_0, g_X4_flight_45, w1, Option.bind_some, Option.elim_none, if_neg g0, if_pos g1', hmax, if_neg h3, if_pos h30, if_pos this, r1]
    · have hb1 : b.2 1 = nI n := c1.trans d0
      have : ¬ nI n = 60 := fun hh => hn6 (nI_j (by omega) (by decide) (show nI n = nI 60 from hh))
      rw [hlst]; simp [g_X5_flight_130, g_X5_flight_120, g_X5_flight_110, g_X5_flight_100, g_X5_flight_90, g_X5_flight_71, g_X5_flight_68, g_X5_flight_50, g_X5_flight_14, g_X5_flight_0, f_X5_flight, w2 b, wt, w3, hb1, this, xn1, xn2, xs2, xi60 hn7, xc (show n < 1000 by omega), xp1, nI_pred]
    · rfl
