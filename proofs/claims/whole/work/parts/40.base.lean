/-! The two sides agree: their states' relation. -/
theorem xs1 (t : xT) (j i : Nat) (v : Int32) (z : Nat) : (xs t j i v).1 z = if z = j then upd (t.1 j) i v else t.1 z := rfl
theorem xs2 (t : xT) (j i : Nat) (v : Int32) : (xs t j i v).2 = t.2 := rfl
theorem xn1 (t : xT) (j : Nat) (v : Int32) : (xn t j v).1 = t.1 := rfl
theorem xn2 (t : xT) (j : Nat) (v : Int32) (z : Nat) : (xn t j v).2 z = if z = j then v else t.2 z := rfl
theorem upd_e (f : Nat → Int32) (k : Nat) (x : Int32) (j : Nat) : upd f k x j = if j = k then x else f j := rfl
theorem xnb0 : vp_nar .boolean 0 = 0 := rfl
theorem xnb1 : vp_nar .boolean 1 = 1 := rfl
theorem xzb0 : xzb 0 = true := rfl
theorem xzb1 : xzb 1 = true := rfl
theorem xin_t {j n : Nat} (h : j < n) (hn : n < 2 ^ 31) : xin (nI j) n = true := decide_eq_true (nI_in h hn)
theorem xi60 {j : Nat} (h : j < 60) : xin (nI j) 60 = true := xin_t h (by decide)
theorem xi240 {j : Nat} (h : j < 240) : xin (nI j) 240 = true := xin_t h (by decide)
theorem xi40 {j : Nat} (h : j < 40) : xin (nI j) 40 = true := xin_t h (by decide)
theorem xi200 {j : Nat} (h : j < 200) : xin (nI j) 200 = true := xin_t h (by decide)
theorem xc {j : Nat} (h : j < 1000) : (nI j).toNatClampNeg = j := nI_clamp (Nat.lt_trans h (by decide))
/-- the class's state is sound -/
def xF (a : xT) (n : Nat) : Prop := ∀ f, f < n → (∃ l, l < 8 ∧ a.1 3 f = nI l) ∧ (∃ t, t < 240 ∧ a.1 4 f = nI t) ∧ (∃ u, u ≤ 300 ∧ a.1 5 f = nI u)
def xBl (a : xT) : Prop := ∀ i, (a.1 0 i = 0 ∨ a.1 0 i = 1) ∧ (a.1 7 i = 0 ∨ a.1 7 i = 1) ∧ (a.1 8 i = 0 ∨ a.1 8 i = 1) ∧ (a.1 13 i = 0 ∨ a.1 13 i = 1)
def xSa (a : xT) (n : Nat) : Prop := ∀ f, f < n → a.1 6 f = -1 ∨ ∃ m, m < 240 ∧ a.1 6 f = nI m ∧ a.1 2 m = nI f
def xSb (a : xT) (n : Nat) : Prop := ∀ m, m < 240 → a.1 2 m = -1 ∨ ∃ f, f < n ∧ a.1 2 m = nI f ∧ a.1 6 f = nI m ∧ a.1 1 m = a.1 3 f
def xSc (a : xT) : Prop := ∀ m, m < 240 → a.1 0 m = 0 → a.1 2 m = -1 ∧ a.1 1 m = -1
def xOf (a : xT) (k : Nat) : Prop := ∀ o, o < k → ∃ g w, g < 240 ∧ w < 240 ∧ g ≠ w ∧ a.1 11 o = nI g ∧ a.1 12 o = nI w
def xBy (a : xT) (n : Nat) : Prop := (∀ i, i < n → ∃ f, f < n ∧ a.1 9 i = nI f) ∧ (∀ f, f < n → ∃ i, i < n ∧ a.1 9 i = nI f) ∧ ∀ i j f g, i < j → j < n → a.1 9 i = nI f → a.1 9 j = nI g → f < 60 → g < 60 → a.1 4 f < a.1 4 g ∨ (a.1 4 f = a.1 4 g ∧ f < g)
/-- n flights, k offers, e entries -/
def xIn (a : xT) (n k e : Nat) : Prop := n ≤ 60 ∧ k ≤ 40 ∧ e ≤ 200 ∧ a.2 0 = nI n ∧ a.2 1 = nI k ∧ a.2 2 = nI e ∧ xF a n ∧ xBl a ∧ xSa a n ∧ xSb a n ∧ xSc a ∧ xOf a k ∧ xBy a n
/-- the reference's state is the class's -/
def xEq (a b : xT) : Prop := b.1 0 = a.1 0 ∧ b.1 1 = a.1 1 ∧ b.1 2 = a.1 2 ∧ b.1 3 = a.1 3 ∧ b.1 4 = a.1 4 ∧ b.1 5 = a.1 5 ∧ b.1 6 = a.1 6 ∧ b.1 7 = a.1 7 ∧ b.1 8 = a.1 8 ∧ b.1 10 = a.1 10 ∧ b.1 11 = a.1 11 ∧ b.1 12 = a.1 12 ∧ b.1 13 = a.1 13 ∧ b.2 1 = a.2 0 ∧ b.2 2 = a.2 1 ∧ b.2 3 = a.2 2
def xLg (a b : xT) : Prop := ∀ i, b.1 14 (4 * i) = a.1 14 i ∧ b.1 14 (4 * i + 1) = a.1 15 i ∧ b.1 14 (4 * i + 2) = a.1 16 i ∧ b.1 14 (4 * i + 3) = a.1 17 i
def xGd (a b : xT) : Prop := xEq a b ∧ xLg a b ∧ ∃ n k e, xIn a n k e
theorem xGd.code {a b : xT} (h : xGd a b) (v : Int32) : xGd a (xn b 0 v) := ⟨h.1, h.2.1, h.2.2⟩
theorem xGd_init : xGd xi0 xi0 := by
  refine ⟨⟨rfl, rfl, rfl, rfl, rfl, rfl, rfl, rfl, rfl, rfl, rfl, rfl, rfl, rfl, rfl, rfl⟩, fun i => ⟨rfl, rfl, rfl, rfl⟩, 0, 0, 0, by decide, by decide, by decide, rfl, rfl, rfl, ?_, ?_, ?_, ?_, ?_, ?_, ?_⟩
  · intro f hf; omega
  · intro i; exact ⟨Or.inl rfl, Or.inl rfl, Or.inl rfl, Or.inl rfl⟩
  · intro f hf; omega
  · intro m hm; left; show (if m < 240 then (-1 : Int32) else 0) = -1; rw [if_pos hm]
  · intro m hm _; constructor <;> (show (if m < 240 then (-1 : Int32) else 0) = -1) <;> rw [if_pos hm]
  · intro f hf; omega
  · exact ⟨fun f hf => by omega, fun f hf => by omega, fun i j f g h1 h2 => by omega⟩
/-- a number is under n, or not -/
theorem xix (x : Int32) {n : Nat} (hn : n < 2 ^ 31) : (x < 0) ∨ (¬ x < 0 ∧ nI n ≤ x ∧ ¬ x < nI n) ∨ ∃ j, j < n ∧ x = nI j ∧ ¬ x < 0 ∧ x < nI n ∧ ¬ nI n ≤ x := by
  rcases pk_ix x hn with h | h | ⟨j, hj, rfl⟩
  · exact Or.inl h
  · by_cases h0 : x < 0
    · exact Or.inl h0
    · exact Or.inr (Or.inl ⟨h0, h, Int32.not_lt.mpr h⟩)
  · exact Or.inr (Or.inr ⟨j, hj, rfl, nI_pos (by omega), nI_lt hj hn, Int32.not_le.mpr (nI_lt hj hn)⟩)
