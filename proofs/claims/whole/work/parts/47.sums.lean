theorem ca2_4 (a : xT) (x : Int32) : (f_X4_checkAirlineOrNone a x = some none ∧ ∀ b : xT, f_X5_within b x (-1) 7 = some 1) ∨ (f_X4_checkAirlineOrNone a x = some (some "java/lang/IllegalArgumentException") ∧ ∀ b : xT, f_X5_within b x (-1) 7 = some 0) := by
  by_cases hm : x = -1
  · subst hm; left; constructor
    · simp [g_X4_checkAirlineOrNone_10, g_X4_checkAirlineOrNone_0, f_X4_checkAirlineOrNone]
    · intro b; simp [g_X5_within_15, g_X5_within_14, g_X5_within_0, f_X5_within, xzb1]
  · have hmt : ¬ x.toInt = -1 := fun hh => hm (Int32.toInt_inj.mp (hh.trans (by decide)))
    have t0 : (0 : Int32).toInt = 0 := rfl
    have t7 : (7 : Int32).toInt = 7 := rfl
    have t8 : (8 : Int32).toInt = 8 := rfl
    have tm : (-1 : Int32).toInt = -1 := rfl
    by_cases h0 : x < 0
    · have h1 : x < -1 := by rw [Int32.lt_iff_toInt_lt] at h0 ⊢; omega
      right; constructor
      · simp only [g_X4_checkAirlineOrNone_10, g_X4_checkAirlineOrNone_0, f_X4_checkAirlineOrNone, g_X4_checkAirline_10, g_X4_checkAirline_0, f_X4_checkAirline, if_neg hm, if_pos h0]; rfl
      · intro b; simp only [g_X5_within_15, g_X5_within_14, g_X5_within_0, f_X5_within, if_pos h1, if_pos xzb0]
    · have h1 : ¬ x < -1 := by rw [Int32.lt_iff_toInt_lt] at h0 ⊢; omega
      by_cases h8 : x < 8
      · have h7 : ¬ 7 < x := by rw [Int32.lt_iff_toInt_lt] at h8 ⊢; omega
        left; constructor
        · simp only [g_X4_checkAirlineOrNone_10, g_X4_checkAirlineOrNone_0, f_X4_checkAirlineOrNone, g_X4_checkAirline_10, g_X4_checkAirline_0, f_X4_checkAirline, if_neg hm, if_neg h0, if_pos h8]; rfl
        · intro b; simp only [g_X5_within_15, g_X5_within_14, g_X5_within_0, f_X5_within, if_neg h1, if_neg h7, if_pos xzb1]
      · have h7 : 7 < x := by rw [Int32.lt_iff_toInt_lt] at h8 ⊢; omega
        right; constructor
        · simp only [g_X4_checkAirlineOrNone_10, g_X4_checkAirlineOrNone_0, f_X4_checkAirlineOrNone, g_X4_checkAirline_10, g_X4_checkAirline_0, f_X4_checkAirline, if_neg hm, if_neg h0, if_neg h8]; rfl
        · intro b; simp only [g_X5_within_15, g_X5_within_14, g_X5_within_0, f_X5_within, if_neg h1, if_pos h7, if_pos xzb0]
theorem ow_loop {a b : xT} (e0 : b.1 0 = a.1 0) (e1 : b.1 1 = a.1 1) (hb : b.2 0 = 0) (v1 : Int32) : ∀ (d j : Nat) (acc : Int32) (fu fv : Nat), 240 - j = d → j ≤ 240 → d < fu → d < fv → ∃ r, g_X3_countWithOwner_4 a fu v1 acc (nI j) = some r ∧ g_X5_owned_23 fv b v1 acc (nI j) = some (r, b) := by
  intro d
  induction d with
  | zero =>
    intro j acc fu fv hd hj hu hv
    obtain ⟨fu, rfl⟩ : ∃ q, fu = q + 1 := ⟨fu - 1, by omega⟩
    obtain ⟨fv, rfl⟩ : ∃ q, fv = q + 1 := ⟨fv - 1, by omega⟩
    have hj2 : j = 240 := by omega
    subst hj2
    refine ⟨acc, ?_, ?_⟩
    · show g_X3_countWithOwner_4s (g_X3_countWithOwner_4 a fu) a v1 acc (nI 240) = some acc
      simp [g_X3_countWithOwner_33, g_X3_countWithOwner_4s, g_X3_countWithOwner_0, f_X3_countWithOwner, x240]
    · show g_X5_owned_23s (g_X5_owned_23 fv) b v1 acc (nI 240) = some (acc, b)
      simp [g_X5_owned_70, g_X5_owned_63, g_X5_owned_62, g_X5_owned_23s, g_X5_owned_19, g_X5_owned_16, g_X5_owned_0, f_X5_owned, x240]
  | succ d ih =>
    intro j acc fu fv hd hj hu hv
    obtain ⟨fu, rfl⟩ : ∃ q, fu = q + 1 := ⟨fu - 1, by omega⟩
    obtain ⟨fv, rfl⟩ : ∃ q, fv = q + 1 := ⟨fv - 1, by omega⟩
    have hj2 : j < 240 := by omega
    have s1 : ∀ r, (g_X3_countWithOwner_4 a (fu + 1) v1 acc (nI j) = r) = (g_X3_countWithOwner_4s (g_X3_countWithOwner_4 a fu) a v1 acc (nI j) = r) := fun _ => rfl
    have s2 : ∀ r, (g_X5_owned_23 (fv + 1) b v1 acc (nI j) = r) = (g_X5_owned_23s (g_X5_owned_23 fv) b v1 acc (nI j) = r) := fun _ => rfl
    by_cases h0 : a.1 0 j = 0
    · obtain ⟨r, r1, r2⟩ := ih (j + 1) acc fu fv (by omega) (by omega) (by omega) (by omega)
      refine ⟨r, ?_, ?_⟩
      · rw [s1]; simp [g_X3_countWithOwner_33, g_X3_countWithOwner_4s, g_X3_countWithOwner_0, f_X3_countWithOwner, x240, nI_ge hj2 (by decide), xi240 hj2, xc (show j < 1000 by omega), h0, xp1, r1]
      · rw [s2]; simp [g_X5_owned_70, g_X5_owned_63, g_X5_owned_62, g_X5_owned_23s, g_X5_owned_19, g_X5_owned_16, g_X5_owned_0, f_X5_owned, x240, nI_ge hj2 (by decide), xi240 hj2, xc (show j < 1000 by omega), h0, e0, hb, xp1, r2]
    · by_cases h1 : a.1 1 j = v1
      · obtain ⟨r, r1, r2⟩ := ih (j + 1) (acc + 1) fu fv (by omega) (by omega) (by omega) (by omega)
        refine ⟨r, ?_, ?_⟩
        · rw [s1]; simp [g_X3_countWithOwner_33, g_X3_countWithOwner_4s, g_X3_countWithOwner_0, f_X3_countWithOwner, x240, nI_ge hj2 (by decide), xi240 hj2, xc (show j < 1000 by omega), h0, h1, xp1, r1]
        · rw [s2]; simp [g_X5_owned_70, g_X5_owned_63, g_X5_owned_62, g_X5_owned_23s, g_X5_owned_19, g_X5_owned_16, g_X5_owned_0, f_X5_owned, x240, nI_ge hj2 (by decide), xi240 hj2, xc (show j < 1000 by omega), h0, h1, e0, e1, hb, xp1, r2]
      · obtain ⟨r, r1, r2⟩ := ih (j + 1) acc fu fv (by omega) (by omega) (by omega) (by omega)
        refine ⟨r, ?_, ?_⟩
        · rw [s1]; simp [g_X3_countWithOwner_33, g_X3_countWithOwner_4s, g_X3_countWithOwner_0, f_X3_countWithOwner, x240, nI_ge hj2 (by decide), xi240 hj2, xc (show j < 1000 by omega), h0, h1, xp1, r1]
        · rw [s2]; simp [g_X5_owned_70, g_X5_owned_63, g_X5_owned_62, g_X5_owned_23s, g_X5_owned_19, g_X5_owned_16, g_X5_owned_0, f_X5_owned, x240, nI_ge hj2 (by decide), xi240 hj2, xc (show j < 1000 by omega), h0, h1, e0, e1, hb, xp1, r2]
theorem ag_owned : xAg_owned xGd := by
  intro a b v1 h
  have h' := h
  obtain ⟨⟨e0, e1, e2, e3, e4, e5, e6, e7, e8, e10, e11, e12, e13, c1, c2, c3⟩, hl, n, k, e, hn, hk, he, d0, d1, d2, iF, iB, iSa, iSb, iSc, iO, iBy⟩ := h'
  rcases ca2_4 a v1 with ⟨w1, w2⟩ | ⟨w1, w2⟩
  · obtain ⟨r, r1, r2⟩ := ow_loop (a := a) (b := xn b 0 0) e0 e1 rfl v1 240 0 0 1000 1000 rfl (by decide) (by decide) (by decide)
    rw [z0] at r1 r2
    left; refine ⟨r, xn b 0 0, ?_, ?_, rfl, h.code 0⟩
    · simp [f_X4_owned, g_X4_owned_0, f_X3_countWithOwner, g_X3_countWithOwner_0, w1, r1]
    · simp [f_X5_owned, g_X5_owned_0, g_X5_owned_16, g_X5_owned_19, w2, r2]
  · right; refine ⟨0, xn b 0 1, ?_, ?_, rfl, h.code 1⟩
    · simp [f_X4_owned, g_X4_owned_0, w1]
    · have : g_X5_owned_23 1000 (xn b 0 1) v1 0 0 = some (0, xn b 0 1) := by
        show g_X5_owned_23s (g_X5_owned_23 999) (xn b 0 1) v1 0 0 = some (0, xn b 0 1)
        simp [g_X5_owned_70, g_X5_owned_63, g_X5_owned_62, g_X5_owned_23s, g_X5_owned_19, g_X5_owned_16, g_X5_owned_0, f_X5_owned, xn2]
      simp [f_X5_owned, g_X5_owned_0, g_X5_owned_16, g_X5_owned_19, w2, this]
theorem x_as (x y z : Int32) : x + (y - z) = x + y - z := by rw [Int32.sub_eq_add_neg, Int32.sub_eq_add_neg, Int32.add_assoc]
theorem de_loop {a b : xT} {n : Nat} (hn : n ≤ 60) (d0 : a.2 0 = nI n) (c1 : b.2 1 = a.2 0) (e3 : b.1 3 = a.1 3) (e4 : b.1 4 = a.1 4) (e6 : b.1 6 = a.1 6) (iSa : xSa a n) (hb : b.2 0 = 0) (v1 : Int32) : ∀ (d j : Nat) (acc : Int32) (fu fv : Nat), n - j = d → j ≤ n → d < fu → d < fv → ∃ r, g_X4_delay_9 a fu v1 acc (nI j) = some (.inr r) ∧ g_X5_delay_23 fv b v1 acc (nI j) = some (r, b) := by
  intro d
  induction d with
  | zero =>
    intro j acc fu fv hd hj hu hv
    obtain ⟨fu, rfl⟩ : ∃ q, fu = q + 1 := ⟨fu - 1, by omega⟩
    obtain ⟨fv, rfl⟩ : ∃ q, fv = q + 1 := ⟨fv - 1, by omega⟩
    have hj2 : j = n := by omega
    subst hj2
    refine ⟨acc, ?_, ?_⟩
    · show g_X4_delay_9s (g_X4_delay_9 a fu) a v1 acc (nI j) = some (.inr acc)
      simp [g_X4_delay_85, g_X4_delay_43, g_X4_delay_38, g_X4_delay_9s, g_X4_delay_0, f_X4_delay, d0]
    · show g_X5_delay_23s (g_X5_delay_23 fv) b v1 acc (nI j) = some (acc, b)
      simp [g_X5_delay_88, g_X5_delay_81, g_X5_delay_80, g_X5_delay_62, g_X5_delay_23s, g_X5_delay_19, g_X5_delay_16, g_X5_delay_0, f_X5_delay, c1, d0]
  | succ d ih =>
    intro j acc fu fv hd hj hu hv
    obtain ⟨fu, rfl⟩ : ∃ q, fu = q + 1 := ⟨fu - 1, by omega⟩
    obtain ⟨fv, rfl⟩ : ∃ q, fv = q + 1 := ⟨fv - 1, by omega⟩
    have hj2 : j < n := by omega
    have hj6 : j < 60 := by omega
    have hge := nI_ge hj2 (show n < 2 ^ 31 by omega)
    have j60 := xi60 hj6
    have jc := xc (show j < 1000 by omega)
    have s1 : ∀ r, (g_X4_delay_9 a (fu + 1) v1 acc (nI j) = r) = (g_X4_delay_9s (g_X4_delay_9 a fu) a v1 acc (nI j) = r) := fun _ => rfl
    have s2 : ∀ r, (g_X5_delay_23 (fv + 1) b v1 acc (nI j) = r) = (g_X5_delay_23s (g_X5_delay_23 fv) b v1 acc (nI j) = r) := fun _ => rfl
    have skip := ih (j + 1) acc fu fv (by omega) (by omega) (by omega) (by omega)
    rcases iSa j hj2 with h6 | ⟨m, hm, h6, h2⟩
    · obtain ⟨r, r1, r2⟩ := skip
      refine ⟨r, ?_, ?_⟩
      · rw [s1]; by_cases hv1 : v1 = -1
        · simp [g_X4_delay_85, g_X4_delay_43, g_X4_delay_38, g_X4_delay_9s, g_X4_delay_0, f_X4_delay, d0, hge, hv1, j60, jc, h6, xp1]; simpa [hv1] using r1
        · by_cases h3 : a.1 3 j = v1 <;> simp [g_X4_delay_85, g_X4_delay_43, g_X4_delay_38, g_X4_delay_9s, g_X4_delay_0, f_X4_delay, d0, hge, hv1, h3, j60, jc, h6, xp1, r1]
      · rw [s2]; simp [g_X5_delay_88, g_X5_delay_81, g_X5_delay_80, g_X5_delay_62, g_X5_delay_23s, g_X5_delay_19, g_X5_delay_16, g_X5_delay_0, f_X5_delay, c1, d0, hge, hb, j60, jc, e6, h6, xp1, r2]
    · obtain ⟨r', r1', r2'⟩ := ih (j + 1) (acc + (a.1 6 j - a.1 4 j)) fu fv (by omega) (by omega) (by omega) (by omega)
      have r2'' := r2'
      rw [x_as, h6] at r2''
      rw [h6] at r1'
      have mp := nI_pos (show m < 2 ^ 31 by omega)
      have mm := nI_m1 (show m < 2 ^ 31 by omega)
      by_cases hv1 : v1 = -1
      · subst hv1
        refine ⟨r', ?_, ?_⟩
        · rw [s1]; simp [g_X4_delay_85, g_X4_delay_43, g_X4_delay_38, g_X4_delay_9s, g_X4_delay_0, f_X4_delay, d0, hge, j60, jc, h6, mm, xp1, r1']
        · rw [s2]; simp [g_X5_delay_88, g_X5_delay_81, g_X5_delay_80, g_X5_delay_62, g_X5_delay_23s, g_X5_delay_19, g_X5_delay_16, g_X5_delay_0, f_X5_delay, c1, d0, hge, hb, j60, jc, e6, e4, h6, mp, xp1, r2'']
      · by_cases h3 : a.1 3 j = v1
        · refine ⟨r', ?_, ?_⟩
          · rw [s1]; simp [g_X4_delay_85, g_X4_delay_43, g_X4_delay_38, g_X4_delay_9s, g_X4_delay_0, f_X4_delay, d0, hge, hv1, h3, j60, jc, h6, mm, xp1, r1']
          · rw [s2]; simp [g_X5_delay_88, g_X5_delay_81, g_X5_delay_80, g_X5_delay_62, g_X5_delay_23s, g_X5_delay_19, g_X5_delay_16, g_X5_delay_0, f_X5_delay, c1, d0, hge, hb, hv1, e3, h3, j60, jc, e6, e4, h6, mp, xp1, r2'']
        · obtain ⟨r, r1, r2⟩ := skip
          refine ⟨r, ?_, ?_⟩
          · rw [s1]; simp [g_X4_delay_85, g_X4_delay_43, g_X4_delay_38, g_X4_delay_9s, g_X4_delay_0, f_X4_delay, d0, hge, hv1, h3, j60, jc, h6, mm, xp1, r1]
          · rw [s2]; simp [g_X5_delay_88, g_X5_delay_81, g_X5_delay_80, g_X5_delay_62, g_X5_delay_23s, g_X5_delay_19, g_X5_delay_16, g_X5_delay_0, f_X5_delay, c1, d0, hge, hb, hv1, e3, h3, j60, jc, e6, h6, mp, xp1, r2]
theorem ag_delay : xAg_delay xGd := by
  intro a b v1 h
  have h' := h
  obtain ⟨⟨e0, e1, e2, e3, e4, e5, e6, e7, e8, e10, e11, e12, e13, c1, c2, c3⟩, hl, n, k, e, hn, hk, he, d0, d1, d2, iF, iB, iSa, iSb, iSc, iO, iBy⟩ := h'
  rcases ca2_4 a v1 with ⟨w1, w2⟩ | ⟨w1, w2⟩
  · obtain ⟨r, r1, r2⟩ := de_loop (a := a) (b := xn b 0 0) hn d0 c1 e3 e4 e6 iSa rfl v1 n 0 0 1000 1000 rfl (by omega) (by omega) (by omega)
    rw [z0] at r1 r2
    left; refine ⟨r, xn b 0 0, ?_, ?_, rfl, h.code 0⟩
    · simp [f_X4_delay, g_X4_delay_0, w1, r1]
    · simp [f_X5_delay, g_X5_delay_0, g_X5_delay_16, g_X5_delay_19, w2, r2]
  · right; refine ⟨0, xn b 0 1, ?_, ?_, rfl, h.code 1⟩
    · simp [f_X4_delay, g_X4_delay_0, w1]
    · have : g_X5_delay_23 1000 (xn b 0 1) v1 0 0 = some (0, xn b 0 1) := by
        show g_X5_delay_23s (g_X5_delay_23 999) (xn b 0 1) v1 0 0 = some (0, xn b 0 1)
        simp [g_X5_delay_88, g_X5_delay_81, g_X5_delay_80, g_X5_delay_62, g_X5_delay_23s, g_X5_delay_19, g_X5_delay_16, g_X5_delay_0, f_X5_delay, xn2]
      simp [f_X5_delay, g_X5_delay_0, g_X5_delay_16, g_X5_delay_19, w2, this]
