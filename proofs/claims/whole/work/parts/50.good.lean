theorem fr_both {a b : xT} {n m : Nat} (e2 : b.1 2 = a.1 2) (e8 : b.1 8 = a.1 8) (hn : n ≤ 60) (iSb : xSb a n) (hm : m < 240) : ∃ r : Int32, (r = 0 ∧ (a.1 2 m = -1 ∨ ∃ f, f < n ∧ a.1 2 m = nI f ∧ a.1 8 f = 0) ∨ r = 1 ∧ ∃ f, f < n ∧ a.1 2 m = nI f ∧ ¬ a.1 8 f = 0) ∧ f_X4_isFrozen a (nI m) = some r ∧ f_X5_isFrozen b (nI m) = some r := by
  have mi := xi240 hm
  have mc := xc (show m < 1000 by omega)
  rcases iSb m hm with h | ⟨f, hf, h1, h2, h3⟩
  · refine ⟨0, Or.inl ⟨rfl, Or.inl h⟩, ?_, ?_⟩
    · simp [g_X4_isFrozen_32, g_X4_isFrozen_31, g_X4_isFrozen_0, f_X4_isFrozen, mi, mc, h, xzb0]
    · simp [g_X5_isFrozen_28, g_X5_isFrozen_27, g_X5_isFrozen_0, f_X5_isFrozen, mi, mc, e2, h, xzb0]
  · have fi := xi60 (show f < 60 by omega)
    have fc := xc (show f < 1000 by omega)
    have fm := nI_m1 (show f < 2 ^ 31 by omega)
    have fp := nI_pos (show f < 2 ^ 31 by omega)
    by_cases h8 : a.1 8 f = 0
    · refine ⟨0, Or.inl ⟨rfl, Or.inr ⟨f, hf, h1, h8⟩⟩, ?_, ?_⟩
      · simp [g_X4_isFrozen_32, g_X4_isFrozen_31, g_X4_isFrozen_0, f_X4_isFrozen, mi, mc, h1, fm, fi, fc, h8, xzb0]
      · simp [g_X5_isFrozen_28, g_X5_isFrozen_27, g_X5_isFrozen_0, f_X5_isFrozen, mi, mc, e2, e8, h1, fp, fi, fc, h8, xzb0]
    · refine ⟨1, Or.inr ⟨rfl, f, hf, h1, h8⟩, ?_, ?_⟩
      · simp [g_X4_isFrozen_32, g_X4_isFrozen_31, g_X4_isFrozen_0, f_X4_isFrozen, mi, mc, h1, fm, fi, fc, h8, xzb1]
      · simp [g_X5_isFrozen_28, g_X5_isFrozen_27, g_X5_isFrozen_0, f_X5_isFrozen, mi, mc, e2, e8, h1, fp, fi, fc, h8, xzb1]
theorem go_both {a b : xT} {n k e o : Nat} (hE : xEq a b) (h : xIn a n k e) (ho : o < k) : ∃ r : Int32, (r = 0 ∨ r = 1 ∧ ∃ g w, g < 240 ∧ w < 240 ∧ g ≠ w ∧ a.1 11 o = nI g ∧ a.1 12 o = nI w ∧ ¬ a.1 0 g = 0 ∧ ¬ a.1 0 w = 0) ∧ f_X4_isGood a (nI o) = some r ∧ f_X5_isGood b (nI o) = some r := by
  obtain ⟨e0, e1, e2, e3, e4, e5, e6, e7, e8, e10, e11, e12, e13, c1, c2, c3⟩ := hE
  obtain ⟨hn, hk, he, d0, d1, d2, iF, iB, iSa, iSb, iSc, iO, iBy⟩ := h
  obtain ⟨g, w, hg, hw, hgw, q11, q12⟩ := iO o ho
  have oi := xi40 (show o < 40 by omega)
  have oc := xc (show o < 1000 by omega)
  have gi := xi240 hg
  have gc := xc (show g < 1000 by omega)
  have wi := xi240 hw
  have wc := xc (show w < 1000 by omega)
  by_cases h13 : a.1 13 o = 0
  · refine ⟨0, Or.inl rfl, ?_, ?_⟩
    · simp [g_X4_isGood_105, g_X4_isGood_104, g_X4_isGood_0, f_X4_isGood, oi, oc, h13, xzb0]
    · simp [g_X5_isGood_113, g_X5_isGood_112, g_X5_isGood_108, g_X5_isGood_77, g_X5_isGood_76, g_X5_isGood_0, f_X5_isGood, oi, oc, e13, h13, xzb0]
  by_cases hg0 : a.1 0 g = 0
  · refine ⟨0, Or.inl rfl, ?_, ?_⟩
    · simp [g_X4_isGood_105, g_X4_isGood_104, g_X4_isGood_0, f_X4_isGood, oi, oc, h13, q11, sl_in a hg, hg0, xzb0]
    · simp [g_X5_isGood_113, g_X5_isGood_112, g_X5_isGood_108, g_X5_isGood_77, g_X5_isGood_76, g_X5_isGood_0, f_X5_isGood, oi, oc, e13, e11, e12, e0, h13, q11, q12, gi, gc, hg0, xzb0]
  by_cases hw0 : a.1 0 w = 0
  · refine ⟨0, Or.inl rfl, ?_, ?_⟩
    · obtain ⟨r, -, r1, -⟩ := fr_both (b := b) e2 e8 hn iSb hg
      by_cases h1 : a.1 1 g = a.1 10 o
      · by_cases hr : r = 0
        · simp [g_X4_isGood_105, g_X4_isGood_104, g_X4_isGood_0, f_X4_isGood, oi, oc, h13, q11, q12, sl_in a hg, sl_in a hw, hg0, hw0, gi, gc, h1, r1, hr, xzb0]
        · simp [g_X4_isGood_105, g_X4_isGood_104, g_X4_isGood_0, f_X4_isGood, oi, oc, h13, q11, q12, sl_in a hg, sl_in a hw, hg0, hw0, gi, gc, h1, r1, hr, xzb0]
      · simp [g_X4_isGood_105, g_X4_isGood_104, g_X4_isGood_0, f_X4_isGood, oi, oc, h13, q11, q12, sl_in a hg, sl_in a hw, hg0, hw0, gi, gc, h1, xzb0]
    · simp [g_X5_isGood_113, g_X5_isGood_112, g_X5_isGood_108, g_X5_isGood_77, g_X5_isGood_76, g_X5_isGood_0, f_X5_isGood, oi, oc, e13, e11, e12, e0, h13, q11, q12, gi, gc, hg0, wi, wc, hw0, xzb0]
  by_cases h1 : a.1 1 g = a.1 10 o
  rotate_left
  · refine ⟨0, Or.inl rfl, ?_, ?_⟩
    · simp [g_X4_isGood_105, g_X4_isGood_104, g_X4_isGood_0, f_X4_isGood, oi, oc, h13, q11, q12, sl_in a hg, sl_in a hw, hg0, hw0, gi, gc, h1, xzb0]
    · simp [g_X5_isGood_113, g_X5_isGood_112, g_X5_isGood_108, g_X5_isGood_77, g_X5_isGood_76, g_X5_isGood_0, f_X5_isGood, oi, oc, e13, e11, e12, e10, e0, e1, h13, q11, q12, gi, gc, hg0, wi, wc, hw0, h1, xzb0]
  obtain ⟨r, rc, r1, r2⟩ := fr_both e2 e8 hn iSb hg
  obtain ⟨t, tc, t1, t2⟩ := fr_both e2 e8 hn iSb hw
  by_cases hr : r = 0
  rotate_left
  · refine ⟨0, Or.inl rfl, ?_, ?_⟩
    · simp [g_X4_isGood_105, g_X4_isGood_104, g_X4_isGood_0, f_X4_isGood, oi, oc, h13, q11, q12, sl_in a hg, sl_in a hw, hg0, hw0, gi, gc, h1, r1, hr, xzb0]
    · simp [g_X5_isGood_113, g_X5_isGood_112, g_X5_isGood_108, g_X5_isGood_77, g_X5_isGood_76, g_X5_isGood_0, f_X5_isGood, oi, oc, e13, e11, e12, e10, e0, e1, h13, q11, q12, gi, gc, hg0, wi, wc, hw0, h1, r2, hr, xzb0]
  by_cases ht : t = 0
  rotate_left
  · refine ⟨0, Or.inl rfl, ?_, ?_⟩
    · simp [g_X4_isGood_105, g_X4_isGood_104, g_X4_isGood_0, f_X4_isGood, oi, oc, h13, q11, q12, sl_in a hg, sl_in a hw, hg0, hw0, gi, gc, h1, r1, hr, t1, ht, xzb0]
    · simp [g_X5_isGood_113, g_X5_isGood_112, g_X5_isGood_108, g_X5_isGood_77, g_X5_isGood_76, g_X5_isGood_0, f_X5_isGood, oi, oc, e13, e11, e12, e10, e0, e1, h13, q11, q12, gi, gc, hg0, wi, wc, hw0, h1, r2, hr, t2, ht, xzb0]
  rcases iSb g hg with h2 | ⟨f, hf, h2, h6, -⟩
  · refine ⟨1, Or.inr ⟨rfl, g, w, hg, hw, hgw, q11, q12, hg0, hw0⟩, ?_, ?_⟩
    · simp [g_X4_isGood_105, g_X4_isGood_104, g_X4_isGood_0, f_X4_isGood, g_X4_contentCanUse_32, g_X4_contentCanUse_27, g_X4_contentCanUse_0, f_X4_contentCanUse, oi, oc, h13, q11, q12, sl_in a hg, sl_in a hw, hg0, hw0, gi, gc, h1, r1, hr, t1, ht, h2, xzb0, xzb1]
    · simp [g_X5_isGood_113, g_X5_isGood_112, g_X5_isGood_108, g_X5_isGood_77, g_X5_isGood_76, g_X5_isGood_0, f_X5_isGood, oi, oc, e13, e11, e12, e10, e0, e1, e2, h13, q11, q12, gi, gc, hg0, wi, wc, hw0, h1, r2, hr, t2, ht, h2, xzb0, xzb1]
  · have fi := xi60 (show f < 60 by omega)
    have fc := xc (show f < 1000 by omega)
    have fm := nI_m1 (show f < 2 ^ 31 by omega)
    have fp := nI_pos (show f < 2 ^ 31 by omega)
    by_cases h5 : nI w < a.1 5 f
    · refine ⟨0, Or.inl rfl, ?_, ?_⟩
      · simp [g_X4_isGood_105, g_X4_isGood_104, g_X4_isGood_0, f_X4_isGood, g_X4_contentCanUse_32, g_X4_contentCanUse_27, g_X4_contentCanUse_0, f_X4_contentCanUse, oi, oc, h13, q11, q12, sl_in a hg, sl_in a hw, hg0, hw0, gi, gc, h1, r1, hr, t1, ht, h2, fm, cu_4 a (show f < 60 by omega), h5, xzb0, xzb1]
      · simp [g_X5_isGood_113, g_X5_isGood_112, g_X5_isGood_108, g_X5_isGood_77, g_X5_isGood_76, g_X5_isGood_0, f_X5_isGood, oi, oc, e13, e11, e12, e10, e0, e1, e2, e5, h13, q11, q12, gi, gc, hg0, wi, wc, hw0, h1, r2, hr, t2, ht, h2, fp, fi, fc, h5, xzb0, xzb1]
    · refine ⟨1, Or.inr ⟨rfl, g, w, hg, hw, hgw, q11, q12, hg0, hw0⟩, ?_, ?_⟩
      · simp [g_X4_isGood_105, g_X4_isGood_104, g_X4_isGood_0, f_X4_isGood, g_X4_contentCanUse_32, g_X4_contentCanUse_27, g_X4_contentCanUse_0, f_X4_contentCanUse, oi, oc, h13, q11, q12, sl_in a hg, sl_in a hw, hg0, hw0, gi, gc, h1, r1, hr, t1, ht, h2, fm, cu_4 a (show f < 60 by omega), h5, xzb0, xzb1]
      · simp [g_X5_isGood_113, g_X5_isGood_112, g_X5_isGood_108, g_X5_isGood_77, g_X5_isGood_76, g_X5_isGood_0, f_X5_isGood, oi, oc, e13, e11, e12, e10, e0, e1, e2, e5, h13, q11, q12, gi, gc, hg0, wi, wc, hw0, h1, r2, hr, t2, ht, h2, fp, fi, fc, h5, xzb0, xzb1]
/-- offer j is the partner that offer o could have -/
def xPt (a : xT) (o j : Nat) : Prop := (¬ a.1 10 o = a.1 10 j ∧ a.1 11 o = a.1 12 j ∧ a.1 12 o = a.1 11 j) ∧ f_X4_isGood a (nI j) = some 1
/-- r is the least partner from j on, or none -/
def xLe (a : xT) (o j k : Nat) (r : Int32) : Prop := (r = -1 ∧ ∀ i, j ≤ i → i < k → ¬ xPt a o i) ∨ ∃ i, j ≤ i ∧ i < k ∧ r = nI i ∧ xPt a o i ∧ ∀ i', j ≤ i' → i' < i → ¬ xPt a o i'
theorem ao_4 (a : xT) {o j : Nat} (ho : o < 40) (hj : j < 40) : f_X2_areOpposite a (nI o) (nI j) = some (if ¬ a.1 10 o = a.1 10 j ∧ a.1 11 o = a.1 12 j ∧ a.1 12 o = a.1 11 j then 1 else 0) := by
  by_cases h1 : a.1 10 o = a.1 10 j <;> by_cases h2 : a.1 11 o = a.1 12 j <;> by_cases h3 : a.1 12 o = a.1 11 j <;> simp [g_X2_areOpposite_50, g_X2_areOpposite_49, g_X2_areOpposite_0, f_X2_areOpposite, xi40 ho, xi40 hj, xc (show o < 1000 by omega), xc (show j < 1000 by omega), h1, h2, h3, xzb0, xzb1]
theorem pa_4 {a b : xT} {n k e o : Nat} (hE : xEq a b) (h : xIn a n k e) (ho : o < k) : ∀ (d j fu : Nat), k - j = d → j ≤ k → d < fu → ∃ r, g_X4_partnerOf_4 a fu (nI o) (nI j) = some r ∧ xLe a o j k r := by
  have h' := h
  obtain ⟨hn, hk, he, d0, d1, d2, iF, iB, iSa, iSb, iSc, iO, iBy⟩ := h'
  intro d
  induction d with
  | zero =>
    intro j fu hd hj hu
    obtain ⟨fu, rfl⟩ : ∃ q, fu = q + 1 := ⟨fu - 1, by omega⟩
    have hj2 : j = k := by omega
    subst hj2
    refine ⟨-1, ?_, Or.inl ⟨rfl, fun i h1 h2 => by omega⟩⟩
    show g_X4_partnerOf_4s (g_X4_partnerOf_4 a fu) a (nI o) (nI j) = _
    simp [g_X4_partnerOf_37, g_X4_partnerOf_4s, g_X4_partnerOf_0, f_X4_partnerOf, d1]
  | succ d ih =>
    intro j fu hd hj hu
    obtain ⟨fu, rfl⟩ : ∃ q, fu = q + 1 := ⟨fu - 1, by omega⟩
    have hjk : j < k := by omega
    have hge := nI_ge hjk (show k < 2 ^ 31 by omega)
    have s1 : ∀ r, (g_X4_partnerOf_4 a (fu + 1) (nI o) (nI j) = r) = (g_X4_partnerOf_4s (g_X4_partnerOf_4 a fu) a (nI o) (nI j) = r) := fun _ => rfl
    obtain ⟨r, r1, r2⟩ := ih (j + 1) fu (by omega) (by omega) (by omega)
    have nxt : ¬ xPt a o j → xLe a o j k r := by
      intro hnp
      rcases r2 with ⟨q1, q2⟩ | ⟨i, q1, q2, q3, q4, q5⟩
      · refine Or.inl ⟨q1, fun i hi hik => ?_⟩
        by_cases hij : i = j
        · subst hij; exact hnp
        · exact q2 i (by omega) hik
      · refine Or.inr ⟨i, by omega, q2, q3, q4, fun i' hi' hii' => ?_⟩
        by_cases hij : i' = j
        · subst hij; exact hnp
        · exact q5 i' (by omega) hii'
    have hao := ao_4 a (show o < 40 by omega) (show j < 40 by omega)
    obtain ⟨t, tc, t1, t2⟩ := go_both hE h hjk
    by_cases hop : ¬ a.1 10 o = a.1 10 j ∧ a.1 11 o = a.1 12 j ∧ a.1 12 o = a.1 11 j
    · rw [if_pos hop] at hao
      by_cases ht : t = 0
      · subst ht
        refine ⟨r, ?_, nxt (fun hh => by rw [hh.2] at t1; cases t1)⟩
        rw [s1]; simp [g_X4_partnerOf_37, g_X4_partnerOf_4s, g_X4_partnerOf_0, f_X4_partnerOf, d1, hge, hao, t1, xp1, r1]
      · have ht1 : t = 1 := by rcases tc with hh | ⟨hh, -⟩; exact absurd hh ht; exact hh
        subst ht1
        refine ⟨nI j, ?_, Or.inr ⟨j, Nat.le_refl _, hjk, rfl, ⟨hop, t1⟩, fun i' h1 h2 => by omega⟩⟩
        rw [s1]; simp [g_X4_partnerOf_37, g_X4_partnerOf_4s, g_X4_partnerOf_0, f_X4_partnerOf, d1, hge, hao, t1]
    · rw [if_neg hop] at hao
      refine ⟨r, ?_, nxt (fun hh => hop hh.1)⟩
      rw [s1]; simp [g_X4_partnerOf_37, g_X4_partnerOf_4s, g_X4_partnerOf_0, f_X4_partnerOf, d1, hge, hao, xp1, r1]
theorem pa_5 {a b : xT} {n k e o : Nat} (hE : xEq a b) (h : xIn a n k e) (ho : o < k) : ∀ (d j fu : Nat) (f : Int32), j - o = d → o ≤ j → j < k → d < fu → xLe a o (j + 1) k f → ∃ r, g_X5_partner_9 b fu (nI o) f (nI j) = some r ∧ xLe a o (o + 1) k r := by
  have h' := h
  obtain ⟨hn, hk, he, d0, d1, d2, iF, iB, iSa, iSb, iSc, iO, iBy⟩ := h'
  have hE' := hE
  obtain ⟨e0, e1, e2, e3, e4, e5, e6, e7, e8, e10, e11, e12, e13, c1, c2, c3⟩ := hE'
  intro d
  induction d with
  | zero =>
    intro j fu f hd hoj hjk hu hf
    obtain ⟨fu, rfl⟩ : ∃ q, fu = q + 1 := ⟨fu - 1, by omega⟩
    have hj2 : j = o := by omega
    subst hj2
    refine ⟨f, ?_, hf⟩
    show g_X5_partner_9s (g_X5_partner_9 b fu) b (nI j) f (nI j) = _
    simp [g_X5_partner_84, g_X5_partner_83, g_X5_partner_64, g_X5_partner_63, g_X5_partner_9s, g_X5_partner_0, f_X5_partner]
  | succ d ih =>
    intro j fu f hd hoj hjk hu hf
    obtain ⟨fu, rfl⟩ : ∃ q, fu = q + 1 := ⟨fu - 1, by omega⟩
    have hle : ¬ nI j ≤ nI o := nI_ge (show o < j by omega) (by omega)
    obtain ⟨i, rfl⟩ : ∃ i, j = i + 1 := ⟨j - 1, by omega⟩
    have s1 : ∀ r, (g_X5_partner_9 b (fu + 1) (nI o) f (nI (i + 1)) = r) = (g_X5_partner_9s (g_X5_partner_9 b fu) b (nI o) f (nI (i + 1)) = r) := fun _ => rfl
    have ji := xi40 (show i + 1 < 40 by omega)
    have jc := xc (show i + 1 < 1000 by omega)
    have oi := xi40 (show o < 40 by omega)
    have oc := xc (show o < 1000 by omega)
    obtain ⟨t, tc, t1, t2⟩ := go_both hE h hjk
    have nxt : ¬ xPt a o (i + 1) → xLe a o (i + 1) k f := by
      intro hnp
      rcases hf with ⟨q1, q2⟩ | ⟨i2, q1, q2, q3, q4, q5⟩
      · refine Or.inl ⟨q1, fun i3 hi hik => ?_⟩
        by_cases hij : i3 = i + 1
        · subst hij; exact hnp
        · exact q2 i3 (by omega) hik
      · refine Or.inr ⟨i2, by omega, q2, q3, q4, fun i' hi' hii' => ?_⟩
        by_cases hij : i' = i + 1
        · subst hij; exact hnp
        · exact q5 i' (by omega) hii'
    by_cases hop : ¬ a.1 10 o = a.1 10 (i + 1) ∧ a.1 11 o = a.1 12 (i + 1) ∧ a.1 12 o = a.1 11 (i + 1)
    · have p1 : ¬ a.1 10 (i + 1) = a.1 10 o := fun hh => hop.1 hh.symm
      by_cases ht : t = 0
      · subst ht
        obtain ⟨r, r1, r2⟩ := ih i fu f (by omega) (by omega) (by omega) (by omega) (nxt (fun hh => by rw [hh.2] at t1; cases t1))
        refine ⟨r, ?_, r2⟩
        rw [s1]; simp [g_X5_partner_84, g_X5_partner_83, g_X5_partner_64, g_X5_partner_63, g_X5_partner_9s, g_X5_partner_0, f_X5_partner, hle, ji, jc, oi, oc, e10, e11, e12, p1, hop.2.1, hop.2.2, t2, pk_m1, r1]
      · have ht1 : t = 1 := by rcases tc with hh | ⟨hh, -⟩; exact absurd hh ht; exact hh
        subst ht1
        obtain ⟨r, r1, r2⟩ := ih i fu (nI (i + 1)) (by omega) (by omega) (by omega) (by omega) (Or.inr ⟨i + 1, Nat.le_refl _, hjk, rfl, ⟨hop, t1⟩, fun i' h1 h2 => by omega⟩)
        refine ⟨r, ?_, r2⟩
        rw [s1]; simp [g_X5_partner_84, g_X5_partner_83, g_X5_partner_64, g_X5_partner_63, g_X5_partner_9s, g_X5_partner_0, f_X5_partner, hle, ji, jc, oi, oc, e10, e11, e12, p1, hop.2.1, hop.2.2, t2, pk_m1, r1]
    · obtain ⟨r, r1, r2⟩ := ih i fu f (by omega) (by omega) (by omega) (by omega) (nxt (fun hh => hop hh.1))
      refine ⟨r, ?_, r2⟩
      rw [s1]
      by_cases p1 : a.1 10 (i + 1) = a.1 10 o
      · simp [g_X5_partner_84, g_X5_partner_83, g_X5_partner_64, g_X5_partner_63, g_X5_partner_9s, g_X5_partner_0, f_X5_partner, hle, ji, jc, oi, oc, e10, e11, e12, p1, pk_m1, r1]
      · by_cases p2 : a.1 11 (i + 1) = a.1 12 o
        · have p3 : ¬ a.1 12 (i + 1) = a.1 11 o := fun hh => hop ⟨fun h9 => p1 h9.symm, hh.symm, p2.symm⟩
          simp [g_X5_partner_84, g_X5_partner_83, g_X5_partner_64, g_X5_partner_63, g_X5_partner_9s, g_X5_partner_0, f_X5_partner, hle, ji, jc, oi, oc, e10, e11, e12, p1, p2, p3, pk_m1, r1]
        · simp [g_X5_partner_84, g_X5_partner_83, g_X5_partner_64, g_X5_partner_63, g_X5_partner_9s, g_X5_partner_0, f_X5_partner, hle, ji, jc, oi, oc, e10, e11, e12, p1, p2, pk_m1, r1]
theorem xLe.uniq {a : xT} {o j k : Nat} {r t : Int32} (h1 : xLe a o j k r) (h2 : xLe a o j k t) : r = t := by
  rcases h1 with ⟨p1, p2⟩ | ⟨i, p1, p2, p3, p4, p5⟩ <;> rcases h2 with ⟨q1, q2⟩ | ⟨i', q1, q2, q3, q4, q5⟩
  · rw [p1, q1]
  · exact absurd q4 (p2 i' q1 q2)
  · exact absurd p4 (q2 i p1 p2)
  · rcases Nat.lt_trichotomy i i' with hh | hh | hh
    · exact absurd p4 (q5 i p1 hh)
    · subst hh; rw [p3, q3]
    · exact absurd q4 (p5 i' q1 hh)
theorem pa_both {a b : xT} {n k e o : Nat} (hE : xEq a b) (h : xIn a n k e) (ho : o < k) : ∃ r, f_X4_partnerOf a (nI o) = some r ∧ f_X5_partner b (nI o) = some r ∧ (r = -1 ∨ ∃ i, i < k ∧ r = nI i) := by
  have h' := h
  obtain ⟨hn, hk, he, d0, d1, d2, -⟩ := h'
  obtain ⟨r, r1, r2⟩ := pa_4 hE h ho (k - (o + 1)) (o + 1) 1000 rfl (by omega) (by omega)
  obtain ⟨t, t1, t2⟩ := pa_5 hE h ho (k - 1 - o) (k - 1) 1000 (-1) rfl (by omega) (by omega) (by omega) (Or.inl ⟨rfl, fun i h1 h2 => by omega⟩)
  have := r2.uniq t2
  subst this
  refine ⟨r, ?_, ?_, ?_⟩
  · show g_X4_partnerOf_4 a 1000 (nI o) (nI o + 1) = _
    rw [xp1]; exact r1
  · show g_X5_partner_9 b 1000 (nI o) (-1) (b.2 2 - 1) = _
    have c2 := hE.2.2.2.2.2.2.2.2.2.2.2.2.2.2.1
    rw [c2, d1, show nI k - 1 = nI (k - 1) from pk_sub (a := k) (b := 1) (by omega)]; exact t1
  · rcases r2 with ⟨p1, -⟩ | ⟨i, p1, p2, p3, -⟩
    · exact Or.inl p1
    · exact Or.inr ⟨i, p2, p3⟩
