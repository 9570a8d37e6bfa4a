theorem xEq.set {a b : xT} (h : xEq a b) (z i : Nat) (v : Int32) (hz : z ≤ 8 ∨ (10 ≤ z ∧ z ≤ 13)) : xEq (xs a z i v) (xs b z i v) := by
  obtain ⟨e0, e1, e2, e3, e4, e5, e6, e7, e8, e10, e11, e12, e13, c1, c2, c3⟩ := h
  have key : b.1 z = a.1 z := by
    have : z = 0 ∨ z = 1 ∨ z = 2 ∨ z = 3 ∨ z = 4 ∨ z = 5 ∨ z = 6 ∨ z = 7 ∨ z = 8 ∨ z = 10 ∨ z = 11 ∨ z = 12 ∨ z = 13 := by omega
    rcases this with rfl | rfl | rfl | rfl | rfl | rfl | rfl | rfl | rfl | rfl | rfl | rfl | rfl <;> assumption
  simp only [xEq, xs1, xs2, key, e0, e1, e2, e3, e4, e5, e6, e7, e8, e10, e11, e12, e13, c1, c2, c3, and_self]
theorem xLg.set {a b : xT} (h : xLg a b) (z i : Nat) (v : Int32) (hz : z < 14) : xLg (xs a z i v) (xs b z i v) := by
  intro q
  have h14 : ¬ 14 = z := by omega
  have h15 : ¬ 15 = z := by omega
  have h16 : ¬ 16 = z := by omega
  have h17 : ¬ 17 = z := by omega
  simp only [xs1, if_neg h14, if_neg h15, if_neg h16, if_neg h17]
  exact h q
theorem xEq.code {a b : xT} (h : xEq a b) (v : Int32) : xEq a (xn b 0 v) := h
theorem xLg.code {a b : xT} (h : xLg a b) (v : Int32) : xLg a (xn b 0 v) := h
theorem xIn.same {a a1 : xT} {n k e e1 : Nat} (h : xIn a n k e) (hz : ∀ z, z < 14 → a1.1 z = a.1 z) (h0 : a1.2 0 = a.2 0) (h1 : a1.2 1 = a.2 1) (h2 : a1.2 2 = nI e1) (he : e1 ≤ 200) : xIn a1 n k e1 := by
  obtain ⟨hn, hk, -, d0, d1, d2, iF, iB, iSa, iSb, iSc, iO, iBy⟩ := h
  refine ⟨hn, hk, he, h0.trans d0, h1.trans d1, h2, ?_, ?_, ?_, ?_, ?_, ?_, ?_⟩
  · simpa only [xF, hz 3 (by decide), hz 4 (by decide), hz 5 (by decide)] using iF
  · simpa only [xBl, hz 0 (by decide), hz 7 (by decide), hz 8 (by decide), hz 13 (by decide)] using iB
  · simpa only [xSa, hz 6 (by decide), hz 2 (by decide)] using iSa
  · simpa only [xSb, hz 6 (by decide), hz 2 (by decide), hz 1 (by decide), hz 3 (by decide)] using iSb
  · simpa only [xSc, hz 0 (by decide), hz 2 (by decide), hz 1 (by decide)] using iSc
  · simpa only [xOf, hz 11 (by decide), hz 12 (by decide)] using iO
  · simpa only [xBy, hz 9 (by decide), hz 4 (by decide)] using iBy
theorem x200 : (200 : Int32) = nI 200 := rfl
theorem x40 : (40 : Int32) = nI 40 := rfl
theorem x60 : (60 : Int32) = nI 60 := rfl
theorem xm4 (e : Nat) : (4 : Int32) * nI e = nI (4 * e) := by rw [show (4 : Int32) = nI 4 from rfl, pk_mul]
theorem xp1 (e : Nat) : nI e + (1 : Int32) = nI (e + 1) := nI_1 e
theorem xp2 (e : Nat) : nI e + (2 : Int32) = nI (e + 2) := nI_add e 2
theorem xp3 (e : Nat) : nI e + (3 : Int32) = nI (e + 3) := nI_add e 3
theorem xi800 {j : Nat} (h : j < 800) : xin (nI j) 800 = true := xin_t h (by decide)
/-- an entry is written on both sides -/
theorem nt_both {a b : xT} {e : Nat} (hE : xEq a b) (hL : xLg a b) (d2 : a.2 2 = nI e) (he : e ≤ 200) (v1 v2 v3 v4 : Int32) : ∃ a1 b1, f_X0_add a v1 v2 v3 v4 = some a1 ∧ f_X5_note b v1 v2 v3 v4 = some b1 ∧ xEq a1 b1 ∧ xLg a1 b1 ∧ (∃ e1, e1 ≤ 200 ∧ a1.2 2 = nI e1) ∧ (∀ z, z < 14 → a1.1 z = a.1 z) ∧ a1.2 0 = a.2 0 ∧ a1.2 1 = a.2 1 ∧ b1.2 0 = b.2 0 := by
  have hE' := hE
  obtain ⟨e0, e1, e2, e3, e4, e5, e6, e7, e8, e10, e11, e12, e13, c1, c2, c3⟩ := hE'
  by_cases hf : e = 200
  · subst hf
    refine ⟨a, b, ?_, ?_, hE, hL, ⟨200, by decide, d2⟩, fun _ _ => rfl, rfl, rfl, rfl⟩
    · simp [g_X0_add_61, g_X0_add_51, g_X0_add_40, g_X0_add_30, g_X0_add_20, g_X0_add_0, f_X0_add, d2, x200, nI_le (Nat.le_refl 200) (by decide)]
    · simp [g_X5_note_75, g_X5_note_65, g_X5_note_50, g_X5_note_36, g_X5_note_22, g_X5_note_0, f_X5_note, c3, d2, x200, nI_le (Nat.le_refl 200) (by decide)]
  · have hlt : e < 200 := by omega
    refine ⟨xn (xs (xs (xs (xs a 14 e v1) 15 e v2) 16 e v3) 17 e v4) 2 (nI (e + 1)), xn (xs (xs (xs (xs b 14 (4 * e) v1) 14 (4 * e + 1) v2) 14 (4 * e + 2) v3) 14 (4 * e + 3) v4) 3 (nI (e + 1)), ?_, ?_, ?_, ?_, ⟨e + 1, by omega, rfl⟩, ?_, rfl, rfl, rfl⟩
    · simp [g_X0_add_61, g_X0_add_51, g_X0_add_40, g_X0_add_30, g_X0_add_20, g_X0_add_0, f_X0_add, d2, x200, nI_ge hlt (by decide), xi200 hlt, xs2, xc (show e < 1000 by omega), xp1]
    · simp [g_X5_note_75, g_X5_note_65, g_X5_note_50, g_X5_note_36, g_X5_note_22, g_X5_note_0, f_X5_note, c3, d2, x200, nI_ge hlt (by decide), xm4, xp1, xp2, xp3, xi800 (show 4 * e < 800 by omega), xi800 (show 4 * e + 1 < 800 by omega), xi800 (show 4 * e + 2 < 800 by omega), xi800 (show 4 * e + 3 < 800 by omega), xs2, xc (show 4 * e < 1000 by omega), xc (show 4 * e + 1 < 1000 by omega), xc (show 4 * e + 2 < 1000 by omega), xc (show 4 * e + 3 < 1000 by omega)]
    · exact ⟨e0, e1, e2, e3, e4, e5, e6, e7, e8, e10, e11, e12, e13, c1, c2, rfl⟩
    · intro q
      have hq := hL q
      by_cases hqe : q = e
      · subst hqe
        simp [xn1, xs1, upd_e]
      · simp [xn1, xs1, upd_e, hqe]
        have f0 : ¬ 4 * q = 4 * e + 1 := by omega
        have f1 : ¬ 4 * q = 4 * e + 2 := by omega
        have f2 : ¬ 4 * q = 4 * e + 3 := by omega
        have f3 : ¬ 4 * q + 1 = 4 * e := by omega
        have f4 : ¬ 4 * q + 1 = 4 * e + 2 := by omega
        have f5 : ¬ 4 * q + 1 = 4 * e + 3 := by omega
        have f6 : ¬ 4 * q + 2 = 4 * e := by omega
        have f7 : ¬ 4 * q + 2 = 4 * e + 1 := by omega
        have f8 : ¬ 4 * q + 2 = 4 * e + 3 := by omega
        have f9 : ¬ 4 * q + 3 = 4 * e := by omega
        have fa : ¬ 4 * q + 3 = 4 * e + 1 := by omega
        have fb : ¬ 4 * q + 3 = 4 * e + 2 := by omega
        have fc : ¬ 4 * q = 4 * e := by omega
        simp [fc, f0, f1, f2, f3, f4, f5, f6, f7, f8, f9, fa, fb, hq]
    · intro z hz
      have h14 : ¬ z = 14 := by omega
      have h15 : ¬ z = 15 := by omega
      have h16 : ¬ z = 16 := by omega
      have h17 : ¬ z = 17 := by omega
      simp only [xn1, xs1, if_neg h14, if_neg h15, if_neg h16, if_neg h17]
theorem ag_drop : xAg_drop xGd := by
  intro a b v1 h
  have h' := h
  obtain ⟨⟨e0, e1, e2, e3, e4, e5, e6, e7, e8, e10, e11, e12, e13, c1, c2, c3⟩, hl, n, k, e, hn, hk, he, d0, d1, d2, iF, iB, iSa, iSb, iSc, iO, iBy⟩ := h'
  rcases xix v1 (n := k) (by omega) with h0 | ⟨h0, h1, h2⟩ | ⟨j, hj, rfl, h0, h1, h2⟩
  · right; refine ⟨0, _, ?_, ?_, ?_, h.code 1⟩ <;> simp [g_X4_drop_15, g_X4_drop_45, g_X4_drop_0, f_X4_drop, g_X5_drop_44, g_X5_drop_21, g_X5_drop_18, g_X5_drop_13, g_X5_drop_0, f_X5_drop, h0, xn1, xn2]
  · right; refine ⟨0, _, ?_, ?_, ?_, h.code 1⟩ <;> simp [g_X4_drop_15, g_X4_drop_45, g_X4_drop_0, f_X4_drop, g_X5_drop_44, g_X5_drop_21, g_X5_drop_18, g_X5_drop_13, g_X5_drop_0, f_X5_drop, h0, h1, h2, xn1, xn2, d1, c2]
  · have hzb : xzb (a.1 13 j) = true := decide_eq_true (iB j).2.2.2
    left; refine ⟨a.1 13 j, xs a 13 j 0, xs (xn b 0 0) 13 j 0, ?_, ?_, ?_, (h.1.code 0).set 13 j 0 (by omega), (h.2.1.code 0).set 13 j 0 (by omega), n, k, e, hn, hk, he, d0, d1, d2, iF, ?_, iSa, iSb, iSc, iO, iBy⟩
    · simp [g_X4_drop_15, g_X4_drop_45, g_X4_drop_0, f_X4_drop, h0, h1, h2, d1, xi40 (show j < 40 by omega), xc (show j < 1000 by omega), xnb0, hzb]
    · simp [g_X5_drop_44, g_X5_drop_21, g_X5_drop_18, g_X5_drop_13, g_X5_drop_0, f_X5_drop, h0, h1, h2, d1, c2, e13, xn1, xn2, xi40 (show j < 40 by omega), xc (show j < 1000 by omega), xnb0, hzb]
    · rfl
    · intro i
      refine ⟨(iB i).1, (iB i).2.1, (iB i).2.2.1, ?_⟩
      show (upd (a.1 13) j 0 i = 0 ∨ upd (a.1 13) j 0 i = 1)
      rw [upd_e]; split
      · exact Or.inl rfl
      · exact (iB i).2.2.2
