def xhs (r o : Nat) : Prop := ∃ i, i < r ∧ 15 * i / r = o
theorem x15 : (15 : Int32) = nI 15 := rfl
theorem hs_4 (a : xT) {r o : Nat} (hr : r ≤ 8) (ho : o < 15) : ∀ (d i fu : Nat), r - i = d → i ≤ r → d < fu → ∃ t : Int32, g_X3_isOffsetAtRate_2 a fu (nI o) (nI r) (nI i) = some t ∧ ((t = 0 ∧ ∀ j, i ≤ j → j < r → ¬ 15 * j / r = o) ∨ (t = 1 ∧ ∃ j, i ≤ j ∧ j < r ∧ 15 * j / r = o)) := by
  intro d
  induction d with
  | zero =>
    intro i fu hd hi hu
    obtain ⟨fu, rfl⟩ : ∃ q, fu = q + 1 := ⟨fu - 1, by omega⟩
    have : i = r := by omega
    subst this
    refine ⟨0, ?_, Or.inl ⟨rfl, fun j h1 h2 => by omega⟩⟩
    show g_X3_isOffsetAtRate_2s (g_X3_isOffsetAtRate_2 a fu) a (nI o) (nI i) (nI i) = _
    simp [g_X3_isOffsetAtRate_2s]
  | succ d ih =>
    intro i fu hd hi hu
    obtain ⟨fu, rfl⟩ : ∃ q, fu = q + 1 := ⟨fu - 1, by omega⟩
    have hge : ¬ nI r ≤ nI i := nI_ge (by omega) (by omega)
    have h0 : ¬ nI r = 0 := nI_ne0 (by omega) (by omega)
    have hdv : (15 * nI i) / nI r = nI (15 * i / r) := by rw [x15, pk_mul, pk_div (by omega) (by omega) (by omega)]
    have hq : 15 * i / r < 1000 := by
      have := Nat.div_le_self (15 * i) r
      omega
    obtain ⟨t, t1, t2⟩ := ih (i + 1) fu (by omega) (by omega) (by omega)
    have s1 : ∀ z, (g_X3_isOffsetAtRate_2 a (fu + 1) (nI o) (nI r) (nI i) = z) = (g_X3_isOffsetAtRate_2s (g_X3_isOffsetAtRate_2 a fu) a (nI o) (nI r) (nI i) = z) := fun _ => rfl
    by_cases hc : 15 * i / r = o
    · refine ⟨1, ?_, Or.inr ⟨rfl, i, Nat.le_refl _, by omega, hc⟩⟩
      rw [s1]; simp only [g_X3_isOffsetAtRate_2s, if_neg hge, if_neg h0, hdv, hc, if_true]
    · have hc' : ¬ nI (15 * i / r) = nI o := fun hh => hc (nI_j hq (by omega) hh)
      refine ⟨t, ?_, ?_⟩
      · rw [s1]; simp only [g_X3_isOffsetAtRate_2s, if_neg hge, if_neg h0, hdv, if_neg hc', xp1]; exact t1
      · rcases t2 with ⟨p1, p2⟩ | ⟨p1, j, p2, p3, p4⟩
        · refine Or.inl ⟨p1, fun j h1 h2 => ?_⟩
          by_cases hj : j = i
          · subst hj; exact hc
          · exact p2 j (by omega) h2
        · exact Or.inr ⟨p1, j, by omega, p3, p4⟩
theorem hs_5 (b : xT) {q r o : Nat} (hq : q < 16) (hr : r ≤ 8) (ho : o < 15) : ∀ (d i fu : Nat) (fl : Int32), (fl = 0 ∨ fl = 1) → r - i = d → i ≤ r → d < fu → ∃ t : Int32, g_X5_has_5 b fu (nI q) (nI r) (nI (15 * q + o)) fl (nI i) = some t ∧ (fl = 1 → t = 1) ∧ (fl = 0 → ((t = 0 ∧ ∀ j, i ≤ j → j < r → ¬ 15 * j / r = o) ∨ (t = 1 ∧ ∃ j, i ≤ j ∧ j < r ∧ 15 * j / r = o))) := by
  intro d
  induction d with
  | zero =>
    intro i fu fl hfl hd hi hu
    obtain ⟨fu, rfl⟩ : ∃ q, fu = q + 1 := ⟨fu - 1, by omega⟩
    have : i = r := by omega
    subst this
    have hzb : xzb fl = true := decide_eq_true hfl
    refine ⟨fl, ?_, fun h => h, fun h => Or.inl ⟨h, fun j h1 h2 => by omega⟩⟩
    show g_X5_has_5s (g_X5_has_5 b fu) b (nI q) (nI i) (nI (15 * q + o)) fl (nI i) = _
    simp [g_X5_has_5s, hzb]
  | succ d ih =>
    intro i fu fl hfl hd hi hu
    obtain ⟨fu, rfl⟩ : ∃ q, fu = q + 1 := ⟨fu - 1, by omega⟩
    have hge : ¬ nI r ≤ nI i := nI_ge (by omega) (by omega)
    have h0 : ¬ nI r = 0 := nI_ne0 (by omega) (by omega)
    have hqd : 15 * i / r < 500 := by
      have := Nat.div_le_self (15 * i) r
      omega
    have hdv : (15 * nI q) + ((15 * nI i) / nI r) = nI (15 * q + 15 * i / r) := by rw [x15, pk_mul, pk_mul, pk_div (by omega) (by omega) (by omega), nI_add]
    have s1 : ∀ z, (g_X5_has_5 b (fu + 1) (nI q) (nI r) (nI (15 * q + o)) fl (nI i) = z) = (g_X5_has_5s (g_X5_has_5 b fu) b (nI q) (nI r) (nI (15 * q + o)) fl (nI i) = z) := fun _ => rfl
    obtain ⟨t1, w1, w2, -⟩ := ih (i + 1) fu 1 (Or.inr rfl) (by omega) (by omega) (by omega)
    have ht1 := w2 rfl
    subst ht1
    rcases hfl with rfl | rfl
    · by_cases hc : 15 * i / r = o
      · refine ⟨1, ?_, fun _ => rfl, fun _ => Or.inr ⟨rfl, i, Nat.le_refl _, by omega, hc⟩⟩
        rw [s1]; simp only [g_X5_has_5s, g_X5_has_31, g_X5_has_36, if_neg hge, if_neg h0, hdv, hc, if_true, xp1]; exact w1
      · have hc' : ¬ nI (15 * q + 15 * i / r) = nI (15 * q + o) := fun hh => hc (by have := nI_j (by omega) (by omega) hh; omega)
        obtain ⟨t, v1, -, v2⟩ := ih (i + 1) fu 0 (Or.inl rfl) (by omega) (by omega) (by omega)
        refine ⟨t, ?_, fun hh => absurd hh (by decide), fun _ => ?_⟩
        · rw [s1]; simp only [g_X5_has_5s, g_X5_has_36, if_neg hge, if_neg h0, hdv, if_neg hc', if_true, xp1]; exact v1
        · rcases v2 rfl with ⟨p1, p2⟩ | ⟨p1, j, p2, p3, p4⟩
          · refine Or.inl ⟨p1, fun j h1 h2 => ?_⟩
            by_cases hj : j = i
            · subst hj; exact hc
            · exact p2 j (by omega) h2
          · exact Or.inr ⟨p1, j, by omega, p3, p4⟩
    · refine ⟨1, ?_, fun _ => rfl, fun hh => absurd hh (by decide)⟩
      rw [s1]; simp only [g_X5_has_5s, g_X5_has_31, g_X5_has_36, if_neg hge, if_neg (show ¬ (1 : Int32) = 0 by decide), xp1]; exact w1
theorem hs_both {q r o : Nat} (hq : q < 16) (hr : r ≤ 8) (ho : o < 15) : ∃ t : Int32, ((t = 0 ∧ ¬ xhs r o) ∨ (t = 1 ∧ xhs r o)) ∧ (∀ a, f_X3_isOffsetAtRate a (nI o) (nI r) = some t) ∧ ∀ b, f_X5_has b (nI q) (nI r) (nI (15 * q + o)) = some t := by
  by_cases h : xhs r o
  · refine ⟨1, Or.inr ⟨rfl, h⟩, fun a => ?_, fun b => ?_⟩
    · obtain ⟨t, t1, t2⟩ := hs_4 a hr ho r 0 1000 rfl (by omega) (by omega)
      have : t = 1 := by
        rcases t2 with ⟨-, p⟩ | ⟨p, -⟩
        · obtain ⟨i, h1, h2⟩ := h; exact absurd h2 (p i (by omega) h1)
        · exact p
      subst this; exact t1
    · obtain ⟨t, t1, -, t2⟩ := hs_5 b hq hr ho r 0 1000 0 (Or.inl rfl) rfl (by omega) (by omega)
      have : t = 1 := by
        rcases t2 rfl with ⟨-, p⟩ | ⟨p, -⟩
        · obtain ⟨i, h1, h2⟩ := h; exact absurd h2 (p i (by omega) h1)
        · exact p
      subst this; exact t1
  · refine ⟨0, Or.inl ⟨rfl, h⟩, fun a => ?_, fun b => ?_⟩
    · obtain ⟨t, t1, t2⟩ := hs_4 a hr ho r 0 1000 rfl (by omega) (by omega)
      have : t = 0 := by
        rcases t2 with ⟨p, -⟩ | ⟨-, j, -, p1, p2⟩
        · exact p
        · exact absurd ⟨j, p1, p2⟩ h
      subst this; exact t1
    · obtain ⟨t, t1, -, t2⟩ := hs_5 b hq hr ho r 0 1000 0 (Or.inl rfl) rfl (by omega) (by omega)
      have : t = 0 := by
        rcases t2 rfl with ⟨p, -⟩ | ⟨-, j, -, p1, p2⟩
        · exact p
        · exact absurd ⟨j, p1, p2⟩ h
      subst this; exact t1
theorem lf_4 {a : xT} {n q r : Nat} (hn : n ≤ 60) (iSb : xSb a n) (hq : q < 16) (hr : r ≤ 8) : ∀ (d o fu : Nat), 15 - o = d → o ≤ 15 → d < fu → ∃ t : Int32, g_X4_losesFrozenSlot_8 a fu (nI r) (nI (15 * q)) (nI o) = some t ∧ ((t = 0 ∧ ∀ o', o ≤ o' → o' < 15 → xfz a (15 * q + o') → xhs r o') ∨ (t = 1 ∧ ∃ o', o ≤ o' ∧ o' < 15 ∧ xfz a (15 * q + o') ∧ ¬ xhs r o')) := by
  intro d
  induction d with
  | zero =>
    intro o fu hd ho hu
    obtain ⟨fu, rfl⟩ : ∃ q, fu = q + 1 := ⟨fu - 1, by omega⟩
    have : o = 15 := by omega
    subst this
    refine ⟨0, ?_, Or.inl ⟨rfl, fun o' h1 h2 => by omega⟩⟩
    show g_X4_losesFrozenSlot_8s (g_X4_losesFrozenSlot_8 a fu) a (nI r) (nI (15 * q)) (nI 15) = _
    simp [g_X4_losesFrozenSlot_8s, x15]
  | succ d ih =>
    intro o fu hd ho hu
    obtain ⟨fu, rfl⟩ : ∃ q, fu = q + 1 := ⟨fu - 1, by omega⟩
    have hge : ¬ nI 15 ≤ nI o := nI_ge (by omega) (by decide)
    have hm : 15 * q + o < 240 := by omega
    have hfz := fz_4 a hm (by rcases iSb _ hm with hh | ⟨f, hf, hh, -⟩; exact Or.inl hh; exact Or.inr ⟨f, by omega, hh⟩)
    obtain ⟨t, t1, t2⟩ := ih (o + 1) fu (by omega) (by omega) (by omega)
    obtain ⟨h, hc, h4, -⟩ := hs_both hq hr (show o < 15 by omega)
    have s1 : ∀ z, (g_X4_losesFrozenSlot_8 a (fu + 1) (nI r) (nI (15 * q)) (nI o) = z) = (g_X4_losesFrozenSlot_8s (g_X4_losesFrozenSlot_8 a fu) a (nI r) (nI (15 * q)) (nI o) = z) := fun _ => rfl
    have nxt : (xfz a (15 * q + o) → xhs r o) → ((t = 0 ∧ ∀ o', o ≤ o' → o' < 15 → xfz a (15 * q + o') → xhs r o') ∨ (t = 1 ∧ ∃ o', o ≤ o' ∧ o' < 15 ∧ xfz a (15 * q + o') ∧ ¬ xhs r o')) := by
      intro hk
      rcases t2 with ⟨p1, p2⟩ | ⟨p1, o', p2, p3, p4⟩
      · refine Or.inl ⟨p1, fun o' h1 h2 h3 => ?_⟩
        by_cases ho' : o' = o
        · subst ho'; exact hk h3
        · exact p2 o' (by omega) h2 h3
      · exact Or.inr ⟨p1, o', by omega, p3, p4⟩
    by_cases hz : xfz a (15 * q + o)
    · rw [if_pos hz] at hfz
      rcases hc with ⟨rfl, hn'⟩ | ⟨rfl, hy⟩
      · refine ⟨1, ?_, Or.inr ⟨rfl, o, Nat.le_refl _, by omega, hz, hn'⟩⟩
        rw [s1]; simp [g_X4_losesFrozenSlot_8s, x15, hge, nI_add, hfz, h4]
      · refine ⟨t, ?_, nxt (fun _ => hy)⟩
        rw [s1]; simp [g_X4_losesFrozenSlot_8s, g_X4_losesFrozenSlot_37, x15, hge, nI_add, hfz, h4, xp1, t1]
    · rw [if_neg hz] at hfz
      refine ⟨t, ?_, nxt (fun hh => absurd hh hz)⟩
      rw [s1]; simp [g_X4_losesFrozenSlot_8s, g_X4_losesFrozenSlot_37, x15, hge, nI_add, hfz, xp1, t1]
theorem xn_xn (b : xT) (u v : Int32) : xn (xn b 0 u) 0 v = xn b 0 v := by
  refine Prod.ext rfl ?_
  funext z
  simp only [xn2]
  by_cases h : z = 0 <;> simp [h]
theorem lf_5 {a b : xT} {n q r : Nat} (e0 : b.1 0 = a.1 0) (e2 : b.1 2 = a.1 2) (e8 : b.1 8 = a.1 8) (hn : n ≤ 60) (iSb : xSb a n) (iSc : xSc a) (hq : q < 16) (hr : r ≤ 8) : ∀ (d o fu : Nat) (c : Int32), (c = 0 ∨ c = 2) → 15 - o = d → o ≤ 15 → d < fu → ∃ c' : Int32, g_X5_rate_34 fu (xn b 0 c) (nI q) (nI r) (nI (15 * q + o)) = g_X5_rate_97 (xn b 0 c') (nI q) (nI r) ∧ ((c' = 0 ∧ c = 0 ∧ ∀ o', o ≤ o' → o' < 15 → xfz a (15 * q + o') → xhs r o') ∨ (c' = 2 ∧ (c = 2 ∨ ∃ o', o ≤ o' ∧ o' < 15 ∧ xfz a (15 * q + o') ∧ ¬ xhs r o'))) := by
  intro d
  induction d with
  | zero =>
    intro o fu c hc hd ho hu
    obtain ⟨fu, rfl⟩ : ∃ q, fu = q + 1 := ⟨fu - 1, by omega⟩
    have : o = 15 := by omega
    subst this
    refine ⟨c, ?_, ?_⟩
    · show g_X5_rate_34s (g_X5_rate_34 fu) (xn b 0 c) (nI q) (nI r) (nI (15 * q + 15)) = _
      simp [g_X5_rate_34s, x15, pk_mul, nI_add]
    · rcases hc with rfl | rfl
      · exact Or.inl ⟨rfl, rfl, fun o' h1 h2 => by omega⟩
      · exact Or.inr ⟨rfl, Or.inl rfl⟩
  | succ d ih =>
    intro o fu c hc hd ho hu
    obtain ⟨fu, rfl⟩ : ∃ q, fu = q + 1 := ⟨fu - 1, by omega⟩
    have hm : 15 * q + o < 240 := by omega
    have hge : ¬ nI (15 * q + 15) ≤ nI (15 * q + o) := nI_ge (by omega) (by omega)
    have mi := xi240 hm
    have mc := xc (show 15 * q + o < 1000 by omega)
    have hfz := fz_5 (xn b 0 c) hm (by rw [xn1, e2]; rcases iSb _ hm with hh | ⟨f, hf, hh, -⟩; exact Or.inl hh; exact Or.inr ⟨f, by omega, hh⟩)
    have efz : xfz (xn b 0 c) (15 * q + o) ↔ xfz a (15 * q + o) := by
      show (¬ b.1 2 (15 * q + o) = -1 ∧ ¬ b.1 8 (b.1 2 (15 * q + o)).toNatClampNeg = 0) ↔ _
      rw [e2, e8]
    obtain ⟨h, hcc, -, h5⟩ := hs_both hq hr (show o < 15 by omega)
    have c1 : ¬ c = 1 := by rcases hc with rfl | rfl <;> decide
    have cz : (xn b 0 c).2 0 = c := rfl
    have s1 : ∀ z, (g_X5_rate_34 (fu + 1) (xn b 0 c) (nI q) (nI r) (nI (15 * q + o)) = z) = (g_X5_rate_34s (g_X5_rate_34 fu) (xn b 0 c) (nI q) (nI r) (nI (15 * q + o)) = z) := fun _ => rfl
    have eo : nI (15 * q + o) + 1 = nI (15 * q + (o + 1)) := xp1 _
    have e15 : (15 * nI q) + 15 = nI (15 * q + 15) := by rw [x15, pk_mul, nI_add]
    have nxt : (xfz a (15 * q + o) → xhs r o) → g_X5_rate_34s (g_X5_rate_34 fu) (xn b 0 c) (nI q) (nI r) (nI (15 * q + o)) = g_X5_rate_34 fu (xn b 0 c) (nI q) (nI r) (nI (15 * q + (o + 1))) → ∃ c' : Int32, g_X5_rate_34 (fu + 1) (xn b 0 c) (nI q) (nI r) (nI (15 * q + o)) = g_X5_rate_97 (xn b 0 c') (nI q) (nI r) ∧ ((c' = 0 ∧ c = 0 ∧ ∀ o', o ≤ o' → o' < 15 → xfz a (15 * q + o') → xhs r o') ∨ (c' = 2 ∧ (c = 2 ∨ ∃ o', o ≤ o' ∧ o' < 15 ∧ xfz a (15 * q + o') ∧ ¬ xhs r o'))) := by
      intro hk hst
      obtain ⟨c', t1, t2⟩ := ih (o + 1) fu c hc (by omega) (by omega) (by omega)
      refine ⟨c', by rw [s1, hst]; exact t1, ?_⟩
      rcases t2 with ⟨p1, p2, p3⟩ | ⟨p1, p2⟩
      · refine Or.inl ⟨p1, p2, fun o' h1 h2 h3 => ?_⟩
        by_cases ho' : o' = o
        · subst ho'; exact hk h3
        · exact p3 o' (by omega) h2 h3
      · refine Or.inr ⟨p1, ?_⟩
        rcases p2 with p2 | ⟨o', q1, q2, q3⟩
        · exact Or.inl p2
        · exact Or.inr ⟨o', by omega, q2, q3⟩
    by_cases h0 : a.1 0 (15 * q + o) = 0
    · refine nxt (fun hh => absurd (iSc _ hm h0).1 hh.1) ?_
      simp only [g_X5_rate_34s, g_X5_rate_84, g_X5_rate_88, g_X5_rate_91, e15, if_neg hge, cz, if_neg c1, mi, mc, xn1, e0, if_pos h0, if_true, xn_xn, eo]
    by_cases hz : xfz a (15 * q + o)
    · rw [if_pos (efz.mpr hz)] at hfz
      rcases hcc with ⟨rfl, hn'⟩ | ⟨rfl, hy⟩
      · obtain ⟨c', t1, t2⟩ := ih (o + 1) fu 2 (Or.inr rfl) (by omega) (by omega) (by omega)
        have hc2 : c' = 2 := by
          rcases t2 with ⟨-, p, -⟩ | ⟨p, -⟩
          · exact absurd p (by decide)
          · exact p
        refine ⟨c', ?_, Or.inr ⟨hc2, Or.inr ⟨o, Nat.le_refl _, by omega, hz, hn'⟩⟩⟩
        rw [s1]
        simp only [g_X5_rate_34s, g_X5_rate_84, g_X5_rate_88, g_X5_rate_91, e15, if_neg hge, cz, if_neg c1, mi, mc, xn1, e0, if_neg h0, if_true, hfz, Option.bind_some, if_neg (show ¬ (1 : Int32) = 0 by decide), h5, xn_xn, eo]
        exact t1
      · refine nxt (fun _ => hy) ?_
        simp only [g_X5_rate_34s, g_X5_rate_84, g_X5_rate_88, g_X5_rate_91, e15, if_neg hge, cz, if_neg c1, mi, mc, xn1, e0, if_neg h0, if_true, hfz, Option.bind_some, if_neg (show ¬ (1 : Int32) = 0 by decide), h5, xn_xn, eo]
    · rw [if_neg (fun hh => hz (efz.mp hh))] at hfz
      refine nxt (fun hh => absurd hh hz) ?_
      simp only [g_X5_rate_34s, g_X5_rate_84, g_X5_rate_88, g_X5_rate_91, e15, if_neg hge, cz, if_neg c1, mi, mc, xn1, e0, if_neg h0, if_true, hfz, Option.bind_some, xn_xn, eo]
