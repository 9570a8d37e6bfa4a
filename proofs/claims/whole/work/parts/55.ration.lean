/-- before rationing: the reference may have emptied slots that are closed and not frozen -/
def xCl (a b : xT) (n : Nat) : Prop := (b.1 0 = a.1 0 ∧ b.1 3 = a.1 3 ∧ b.1 4 = a.1 4 ∧ b.1 5 = a.1 5 ∧ b.1 7 = a.1 7 ∧ b.1 8 = a.1 8 ∧ b.1 10 = a.1 10 ∧ b.1 11 = a.1 11 ∧ b.1 12 = a.1 12 ∧ b.1 13 = a.1 13 ∧ b.2 1 = a.2 0 ∧ b.2 2 = a.2 1) ∧ (∀ m, m < 240 → ¬ a.1 0 m = 0 → b.1 2 m = a.1 2 m ∧ b.1 1 m = a.1 1 m) ∧ (∀ m, m < 240 → a.1 0 m = 0 → b.1 2 m = -1 ∧ b.1 1 m = -1 ∧ ¬ xfz a m) ∧ (∀ m, 240 ≤ m → b.1 2 m = a.1 2 m ∧ b.1 1 m = a.1 1 m) ∧ (∀ f, n ≤ f ∨ ¬ a.1 8 f = 0 → b.1 6 f = a.1 6 f) ∧ (∀ f, f < n → a.1 8 f = 0 → b.1 6 f = -1 ∨ ∃ m, m < 240 ∧ ¬ a.1 0 m = 0 ∧ b.1 2 m = nI f)
theorem cl_eq {a b s : xT} {n : Nat} (h : xCl a b n) (hJ : xJ (xn b 3 0) s n 240) : xEq (xn (xC6 (xC a 240) n) 2 0) s := by
  obtain ⟨⟨e0, e3, e4, e5, e7, e8, e10, e11, e12, e13, c1, c2⟩, q1, q2, q3, q4, q5⟩ := h
  obtain ⟨j1, j2, j3, j4, j5, j6⟩ := hJ
  have fzb : ∀ m, b.1 2 m = a.1 2 m → (xfz (xn b 3 0) m ↔ xfz a m) := by
    intro m hm
    show (¬ b.1 2 m = -1 ∧ ¬ b.1 8 (b.1 2 m).toNatClampNeg = 0) ↔ _
    rw [hm, e8]
  have z2 : ∀ m, s.1 2 m = (xC a 240).1 2 m ∧ s.1 1 m = (xC a 240).1 1 m := by
    intro m
    have t2 : (xC a 240).1 2 m = if m < 240 ∧ ¬ xfz a m then -1 else a.1 2 m := rfl
    have t1 : (xC a 240).1 1 m = if m < 240 ∧ ¬ xfz a m then -1 else a.1 1 m := rfl
    have u2 : s.1 2 m = if m < 240 ∧ ¬ b.1 0 m = 0 ∧ ¬ xfz (xn b 3 0) m then -1 else b.1 2 m := j3 m
    have u1 : s.1 1 m = if m < 240 ∧ ¬ b.1 0 m = 0 ∧ ¬ xfz (xn b 3 0) m then -1 else b.1 1 m := j4 m
    rw [t2, t1, u2, u1, e0]
    by_cases hm : m < 240
    · by_cases h0 : a.1 0 m = 0
      · have w := q2 m hm h0
        have nP : ¬ (m < 240 ∧ ¬ a.1 0 m = 0 ∧ ¬ xfz (xn b 3 0) m) := fun hh => hh.2.1 h0
        have pQ : m < 240 ∧ ¬ xfz a m := ⟨hm, w.2.2⟩
        rw [if_neg nP, if_neg nP, if_pos pQ, if_pos pQ]
        exact ⟨w.1, w.2.1⟩
      · have w := q1 m hm h0
        have f := fzb m w.1
        by_cases hz : xfz a m
        · have nP : ¬ (m < 240 ∧ ¬ a.1 0 m = 0 ∧ ¬ xfz (xn b 3 0) m) := fun hh => hh.2.2 (f.mpr hz)
          have nQ : ¬ (m < 240 ∧ ¬ xfz a m) := fun hh => hh.2 hz
          rw [if_neg nP, if_neg nP, if_neg nQ, if_neg nQ]
          exact w
        · have pP : m < 240 ∧ ¬ a.1 0 m = 0 ∧ ¬ xfz (xn b 3 0) m := ⟨hm, h0, fun hh => hz (f.mp hh)⟩
          have pQ : m < 240 ∧ ¬ xfz a m := ⟨hm, hz⟩
          rw [if_pos pP, if_pos pP, if_pos pQ, if_pos pQ]
          exact ⟨rfl, rfl⟩
    · have nP : ¬ (m < 240 ∧ ¬ a.1 0 m = 0 ∧ ¬ xfz (xn b 3 0) m) := fun hh => hm hh.1
      have nQ : ¬ (m < 240 ∧ ¬ xfz a m) := fun hh => hm hh.1
      rw [if_neg nP, if_neg nP, if_neg nQ, if_neg nQ]
      exact q3 m (by omega)
  have w : ∀ z, z ≠ 1 → z ≠ 2 → z ≠ 6 → s.1 z = b.1 z := fun z a1 a2 a3 => j2 z a1 a2 a3
  refine ⟨(w 0 (by decide) (by decide) (by decide)).trans e0, funext fun m => (z2 m).2, funext fun m => (z2 m).1, (w 3 (by decide) (by decide) (by decide)).trans e3, (w 4 (by decide) (by decide) (by decide)).trans e4, (w 5 (by decide) (by decide) (by decide)).trans e5, ?_, (w 7 (by decide) (by decide) (by decide)).trans e7, (w 8 (by decide) (by decide) (by decide)).trans e8, (w 10 (by decide) (by decide) (by decide)).trans e10, (w 11 (by decide) (by decide) (by decide)).trans e11, (w 12 (by decide) (by decide) (by decide)).trans e12, (w 13 (by decide) (by decide) (by decide)).trans e13, ?_, ?_, ?_⟩
  · funext f
    show s.1 6 f = if f < n ∧ a.1 8 f = 0 then -1 else a.1 6 f
    by_cases hf : f < n ∧ a.1 8 f = 0
    · rw [if_pos hf]
      rcases q5 f hf.1 hf.2 with h6 | ⟨m, hm, h0, h2⟩
      · rcases j5 f with hh | hh
        · rw [hh]; exact h6
        · exact hh.1
      · exact j6 f m hm (by show ¬ b.1 0 m = 0; rw [e0]; exact h0) h2 hf.1 (by show b.1 8 f = 0; rw [e8]; exact hf.2)
    · rw [if_neg hf]
      rcases j5 f with hh | ⟨-, h1, h2⟩
      · rw [hh]
        refine q4 f ?_
        by_cases hfn : f < n
        · exact Or.inr (fun h8 => hf ⟨hfn, h8⟩)
        · exact Or.inl (by omega)
      · exact absurd ⟨h1, by have h2' : b.1 8 f = 0 := h2; rw [e8] at h2'; exact h2'⟩ hf
  · rw [j1]; exact c1
  · rw [j1]; exact c2
  · rw [j1]; rfl
theorem cl_in {a : xT} {n k : Nat} (hn : n ≤ 60) (hk : k ≤ 40) (d0 : a.2 0 = nI n) (d1 : a.2 1 = nI k) (iF : xF a n) (iB : xBl a) (iSa : xSa a n) (iSb : xSb a n) (hcl : ∀ m, m < 240 → a.1 0 m = 0 → ¬ xfz a m) (iO : xOf a k) (iBy : xBy a n) : xIn (xn (xC6 (xC a 240) n) 2 0) n k 0 := by
  refine ⟨hn, hk, by omega, d0, d1, rfl, iF, iB, ?_, ?_, ?_, iO, iBy⟩
  · intro f hf
    show (if f < n ∧ a.1 8 f = 0 then (-1 : Int32) else a.1 6 f) = -1 ∨ ∃ m, m < 240 ∧ (if f < n ∧ a.1 8 f = 0 then (-1 : Int32) else a.1 6 f) = nI m ∧ (if m < 240 ∧ ¬ xfz a m then (-1 : Int32) else a.1 2 m) = nI f
    by_cases h8 : a.1 8 f = 0
    · left; rw [if_pos ⟨hf, h8⟩]
    · rw [if_neg (fun hh => h8 hh.2)]
      rcases iSa f hf with h | ⟨m, hm, h6, h2⟩
      · exact Or.inl h
      · right; refine ⟨m, hm, h6, ?_⟩
        rw [if_neg (fun hh => hh.2 ⟨by rw [h2]; exact nI_m1 (by omega), by rw [h2, xc (by omega)]; exact h8⟩)]; exact h2
  · intro m hm
    show (if m < 240 ∧ ¬ xfz a m then (-1 : Int32) else a.1 2 m) = -1 ∨ ∃ f, f < n ∧ (if m < 240 ∧ ¬ xfz a m then (-1 : Int32) else a.1 2 m) = nI f ∧ (if f < n ∧ a.1 8 f = 0 then (-1 : Int32) else a.1 6 f) = nI m ∧ (if m < 240 ∧ ¬ xfz a m then (-1 : Int32) else a.1 1 m) = a.1 3 f
    by_cases hz : xfz a m
    · have hno : ¬ (m < 240 ∧ ¬ xfz a m) := fun hh => hh.2 hz
      simp only [if_neg hno]
      rcases iSb m hm with h | ⟨f, hf, h2, h6, h1⟩
      · exact Or.inl h
      · right; refine ⟨f, hf, h2, ?_, h1⟩
        rw [if_neg (fun hh => hz.2 (by rw [h2, xc (by omega)]; exact hh.2))]; exact h6
    · left; rw [if_pos ⟨hm, hz⟩]
  · intro m hm h0
    have hz := hcl m hm h0
    show (if m < 240 ∧ ¬ xfz a m then (-1 : Int32) else a.1 2 m) = -1 ∧ (if m < 240 ∧ ¬ xfz a m then (-1 : Int32) else a.1 1 m) = -1
    rw [if_pos ⟨hm, hz⟩, if_pos ⟨hm, hz⟩]; exact ⟨rfl, rfl⟩
/-- the next flight: loose, not done, first by schedule and number -/
def xQn (b : xT) (f : Nat) : Prop := (b.1 7 f = 0 ∧ b.1 8 f = 0) ∧ b.1 9 f = 0
def xNf (b : xT) (j : Nat) (v : Int32) : Prop := (v = -1 ∧ ∀ g, g < j → ¬ xQn b g) ∨ ∃ f, f < j ∧ v = nI f ∧ xQn b f ∧ ∀ g, g < j → xQn b g → b.1 4 f < b.1 4 g ∨ (b.1 4 f = b.1 4 g ∧ f ≤ g)
theorem nf_5 {b : xT} {n : Nat} (hn : n ≤ 60) (d0 : b.2 1 = nI n) : ∀ (d j fu : Nat) (v : Int32), n - j = d → j ≤ n → d < fu → xNf b j v → ∃ r, g_X5_nextFlight_4 b fu v (nI j) = some r ∧ xNf b n r := by
  intro d
  induction d with
  | zero =>
    intro j fu v hd hj hu hv
    obtain ⟨fu, rfl⟩ : ∃ q, fu = q + 1 := ⟨fu - 1, by omega⟩
    have : j = n := by omega
    subst this
    refine ⟨v, ?_, hv⟩
    show g_X5_nextFlight_4s (g_X5_nextFlight_4 b fu) b v (nI j) = _
    simp [g_X5_nextFlight_53, g_X5_nextFlight_52, g_X5_nextFlight_48, g_X5_nextFlight_4s, g_X5_nextFlight_0, f_X5_nextFlight, d0]
  | succ d ih =>
    intro j fu v hd hj hu hv
    obtain ⟨fu, rfl⟩ : ∃ q, fu = q + 1 := ⟨fu - 1, by omega⟩
    have hj6 : j < 60 := by omega
    have hge := nI_ge (show j < n by omega) (show n < 2 ^ 31 by omega)
    have ji := xi60 hj6
    have jc := xc (show j < 1000 by omega)
    have s1 : ∀ r, (g_X5_nextFlight_4 b (fu + 1) v (nI j) = r) = (g_X5_nextFlight_4s (g_X5_nextFlight_4 b fu) b v (nI j) = r) := fun _ => rfl
    have hpl := pl_5 b hj6
    by_cases hQ : xQn b j
    · rw [if_pos hQ.1] at hpl
      rcases hv with ⟨p1, p2⟩ | ⟨f, hf, p1, p2, p3⟩
      · obtain ⟨r, r1, r2⟩ := ih (j + 1) fu (nI j) (by omega) (by omega) (by omega) (Or.inr ⟨j, by omega, rfl, hQ, fun g hg hQg => by
          by_cases hgj : g = j
          · subst hgj; exact Or.inr ⟨rfl, Nat.le_refl _⟩
          · exact absurd hQg (p2 g (by omega))⟩)
        refine ⟨r, ?_, r2⟩
        rw [s1, p1]
        simp [g_X5_nextFlight_53, g_X5_nextFlight_52, g_X5_nextFlight_48, g_X5_nextFlight_4s, g_X5_nextFlight_0, f_X5_nextFlight, d0, hge, hpl, ji, jc, hQ.2, xp1, r1]
      · have fi := xi60 (show f < 60 by omega)
        have fc := xc (show f < 1000 by omega)
        have fp := nI_pos (show f < 2 ^ 31 by omega)
        by_cases hle : b.1 4 f ≤ b.1 4 j
        · obtain ⟨r, r1, r2⟩ := ih (j + 1) fu (nI f) (by omega) (by omega) (by omega) (Or.inr ⟨f, by omega, rfl, p2, fun g hg hQg => by
            by_cases hgj : g = j
            · subst hgj
              by_cases he : b.1 4 f = b.1 4 g
              · exact Or.inr ⟨he, by omega⟩
              · exact Or.inl (Int32.lt_of_le_of_ne hle he)
            · exact p3 g (by omega) hQg⟩)
          refine ⟨r, ?_, r2⟩
          rw [s1, p1]
          simp [g_X5_nextFlight_53, g_X5_nextFlight_52, g_X5_nextFlight_48, g_X5_nextFlight_4s, g_X5_nextFlight_0, f_X5_nextFlight, d0, hge, hpl, ji, jc, fi, fc, fp, hQ.2, hle, xp1, r1]
        · have hlt := Int32.not_le.mp hle
          obtain ⟨r, r1, r2⟩ := ih (j + 1) fu (nI j) (by omega) (by omega) (by omega) (Or.inr ⟨j, by omega, rfl, hQ, fun g hg hQg => by
            by_cases hgj : g = j
            · subst hgj; exact Or.inr ⟨rfl, Nat.le_refl _⟩
            · rcases p3 g (by omega) hQg with hh | ⟨hh, -⟩
              · exact Or.inl (Int32.lt_trans hlt hh)
              · rw [← hh]; exact Or.inl hlt⟩)
          refine ⟨r, ?_, r2⟩
          rw [s1, p1]
          simp only [g_X5_nextFlight_53, g_X5_nextFlight_52, g_X5_nextFlight_48, g_X5_nextFlight_4s, g_X5_nextFlight_0, f_X5_nextFlight, d0, if_neg hge, hpl, Option.bind_some, if_neg (show ¬ (1 : Int32) = 0 by decide), ji, jc, if_true, if_pos hQ.2, if_neg fp, fi, fc, if_neg hle, xp1]
          exact r1
    · obtain ⟨r, r1, r2⟩ := ih (j + 1) fu v (by omega) (by omega) (by omega) (by
        rcases hv with ⟨p1, p2⟩ | ⟨f, hf, p1, p2, p3⟩
        · refine Or.inl ⟨p1, fun g hg => ?_⟩
          by_cases hgj : g = j
          · subst hgj; exact hQ
          · exact p2 g (by omega)
        · refine Or.inr ⟨f, by omega, p1, p2, fun g hg hQg => ?_⟩
          by_cases hgj : g = j
          · subst hgj; exact absurd hQg hQ
          · exact p3 g (by omega) hQg)
      refine ⟨r, ?_, r2⟩
      rw [s1]
      by_cases hp : b.1 7 j = 0 ∧ b.1 8 j = 0
      · rw [if_pos hp] at hpl
        have h9 : ¬ b.1 9 j = 0 := fun hh => hQ ⟨hp, hh⟩
        simp [g_X5_nextFlight_53, g_X5_nextFlight_52, g_X5_nextFlight_48, g_X5_nextFlight_4s, g_X5_nextFlight_0, f_X5_nextFlight, d0, hge, hpl, ji, jc, h9, xp1, r1]
      · rw [if_neg hp] at hpl
        simp [g_X5_nextFlight_53, g_X5_nextFlight_52, g_X5_nextFlight_48, g_X5_nextFlight_4s, g_X5_nextFlight_0, f_X5_nextFlight, d0, hge, hpl, xp1, r1]
theorem nf_all {b : xT} {n : Nat} (hn : n ≤ 60) (d0 : b.2 1 = nI n) : ∃ r, f_X5_nextFlight b = some r ∧ xNf b n r := nf_5 hn d0 n 0 1000 (-1) rfl (by omega) (by omega) (Or.inl ⟨rfl, fun g hg => by omega⟩)
/-- the search for the first empty slot on both sides -/
theorem fs_both {a b : xT} {n f : Nat} (hn : n ≤ 60) (hE : xEq a b) (iSb : xSb a n) (hf : f < n) (K79 : xT → Int32 → Int32 → Option (Int32 × xT)) (acc : Int32) : ∀ (d i fu fv : Nat), 240 - i = d → i ≤ 300 → d < fu → d < fv → (g_X4_putInFirstSlot_10 fu a (nI f) (nI i) = some (0, a) ∧ g_X5_rationed_97 K79 fv b acc (nI f) (nI i) = g_X5_rationed_167 K79 b (acc + 1)) ∨ ∃ m, m < 240 ∧ xEm a m ∧ g_X4_putInFirstSlot_10 fu a (nI f) (nI i) = some (1, xs (xs (xs a 2 m (nI f)) 6 f (nI m)) 1 m (a.1 3 f)) ∧ g_X5_rationed_97 K79 fv b acc (nI f) (nI i) = g_X5_rationed_167 K79 (xs (xs (xs b 2 m (nI f)) 6 f (nI m)) 1 m (a.1 3 f)) acc := by
  obtain ⟨e0, e1, e2, e3, e4, e5, e6, e7, e8, e10, e11, e12, e13, c1, c2, c3⟩ := hE
  have hf6 : f < 60 := by omega
  have fi := xi60 hf6
  have fc := xc (show f < 1000 by omega)
  intro d
  induction d with
  | zero =>
    intro i fu fv hd hi hu hv
    obtain ⟨fu, rfl⟩ : ∃ q, fu = q + 1 := ⟨fu - 1, by omega⟩
    obtain ⟨fv, rfl⟩ : ∃ q, fv = q + 1 := ⟨fv - 1, by omega⟩
    have hle := nI_le (show 240 ≤ i by omega) (show i < 2 ^ 31 by omega)
    left
    constructor
    · show g_X4_putInFirstSlot_10s (g_X4_putInFirstSlot_10 fu) a (nI f) (nI i) = _
      simp [g_X4_putInFirstSlot_52, g_X4_putInFirstSlot_10s, g_X4_putInFirstSlot_0, f_X4_putInFirstSlot, x240, hle]
    · show g_X5_rationed_97s K79 (g_X5_rationed_97 K79 fv) b acc (nI f) (nI i) = _
      simp [g_X5_rationed_97s, g_X5_rationed_128, x240, hle]
  | succ d ih =>
    intro i fu fv hd hi hu hv
    obtain ⟨fu, rfl⟩ : ∃ q, fu = q + 1 := ⟨fu - 1, by omega⟩
    obtain ⟨fv, rfl⟩ : ∃ q, fv = q + 1 := ⟨fv - 1, by omega⟩
    have hi2 : i < 240 := by omega
    have hge := nI_ge hi2 (show 240 < 2 ^ 31 by decide)
    have ii := xi240 hi2
    have ic := xc (show i < 1000 by omega)
    have hie := ie_4 a hi2
    have hi3 := neg_iff iSb hn hi2
    have s1 : ∀ r, (g_X4_putInFirstSlot_10 (fu + 1) a (nI f) (nI i) = r) = (g_X4_putInFirstSlot_10s (g_X4_putInFirstSlot_10 fu) a (nI f) (nI i) = r) := fun _ => rfl
    have s2 : ∀ r, (g_X5_rationed_97 K79 (fv + 1) b acc (nI f) (nI i) = r) = (g_X5_rationed_97s K79 (g_X5_rationed_97 K79 fv) b acc (nI f) (nI i) = r) := fun _ => rfl
    rw [s1, s2]
    by_cases hem : ¬ a.1 0 i = 0 ∧ a.1 2 i = -1
    · rw [if_pos hem] at hie
      right
      refine ⟨i, hi2, hem, ?_, ?_⟩
      · rw [s1]; simp [g_X4_putInFirstSlot_52, g_X4_putInFirstSlot_10s, g_X4_putInFirstSlot_0, f_X4_putInFirstSlot, x240, hge, hie, pi_4 _ hi2 hf6, fi, fc, ii, ic, xs1]
      · rw [s2]; simp [g_X5_rationed_97s, g_X5_rationed_128, g_X5_rationed_142, g_X5_rationed_149, g_X5_rationed_161, x240, hge, ii, ic, fi, fc, e0, e2, e3, hem, xs1]
    · rw [if_neg hem] at hie
      have st4 : g_X4_putInFirstSlot_10s (g_X4_putInFirstSlot_10 fu) a (nI f) (nI i) = g_X4_putInFirstSlot_10 fu a (nI f) (nI (i + 1)) := by
        simp [g_X4_putInFirstSlot_52, g_X4_putInFirstSlot_10s, g_X4_putInFirstSlot_0, f_X4_putInFirstSlot, x240, hge, hie, xp1]
      have st5 : g_X5_rationed_97s K79 (g_X5_rationed_97 K79 fv) b acc (nI f) (nI i) = g_X5_rationed_97 K79 fv b acc (nI f) (nI (i + 1)) := by
        by_cases h0 : a.1 0 i = 0
        · simp [g_X5_rationed_97s, g_X5_rationed_122, x240, hge, ii, ic, e0, h0, xp1]
        · have h2 : ¬ a.1 2 i < 0 := Int32.not_lt.mpr (hi3.mpr (fun hh => hem ⟨h0, hh⟩))
          simp only [g_X5_rationed_97s, g_X5_rationed_122, x240, hge, if_false, ii, ic, e0, e2, if_neg h0, if_neg h2, if_true, xp1]
      have r := ih (i + 1) fu fv (by omega) (by omega) (by omega) (by omega)
      rcases r with ⟨r1, r2⟩ | ⟨m, hm, hmE, r1, r2⟩
      · left; exact ⟨st4.trans r1, st5.trans r2⟩
      · right; exact ⟨m, hm, hmE, (s1 _).mpr (st4.trans r1), (s2 _).mpr (st5.trans r2)⟩
