abbrev xfz (a : xT) (m : Nat) : Prop := ¬ a.1 2 m = -1 ∧ ¬ a.1 8 (a.1 2 m).toNatClampNeg = 0
theorem fz_4 (s : xT) {m : Nat} (hm : m < 240) (h : s.1 2 m = -1 ∨ ∃ f, f < 60 ∧ s.1 2 m = nI f) : f_X4_isFrozen s (nI m) = some (if xfz s m then 1 else 0) := by
  rcases h with h | ⟨f, hf, h⟩
  · rw [if_neg (fun hh => hh.1 h)]; simp [g_X4_isFrozen_32, g_X4_isFrozen_31, g_X4_isFrozen_0, f_X4_isFrozen, xi240 hm, xc (show m < 1000 by omega), h, xzb0]
  · have fm := nI_m1 (show f < 2 ^ 31 by omega)
    by_cases h8 : s.1 8 f = 0
    · rw [if_neg (fun hh => hh.2 (by rw [h, xc (by omega)]; exact h8))]
      simp [g_X4_isFrozen_32, g_X4_isFrozen_31, g_X4_isFrozen_0, f_X4_isFrozen, xi240 hm, xc (show m < 1000 by omega), h, fm, xi60 hf, xc (show f < 1000 by omega), h8, xzb0]
    · rw [if_pos ⟨by rw [h]; exact fm, by rw [h, xc (by omega)]; exact h8⟩]
      simp [g_X4_isFrozen_32, g_X4_isFrozen_31, g_X4_isFrozen_0, f_X4_isFrozen, xi240 hm, xc (show m < 1000 by omega), h, fm, xi60 hf, xc (show f < 1000 by omega), h8, xzb1]
theorem fz_5 (s : xT) {m : Nat} (hm : m < 240) (h : s.1 2 m = -1 ∨ ∃ f, f < 60 ∧ s.1 2 m = nI f) : f_X5_isFrozen s (nI m) = some (if xfz s m then 1 else 0) := by
  rcases h with h | ⟨f, hf, h⟩
  · rw [if_neg (fun hh => hh.1 h)]; simp [g_X5_isFrozen_28, g_X5_isFrozen_27, g_X5_isFrozen_0, f_X5_isFrozen, xi240 hm, xc (show m < 1000 by omega), h, xzb0]
  · have fm := nI_m1 (show f < 2 ^ 31 by omega)
    have fp := nI_pos (show f < 2 ^ 31 by omega)
    by_cases h8 : s.1 8 f = 0
    · rw [if_neg (fun hh => hh.2 (by rw [h, xc (by omega)]; exact h8))]
      simp [g_X5_isFrozen_28, g_X5_isFrozen_27, g_X5_isFrozen_0, f_X5_isFrozen, xi240 hm, xc (show m < 1000 by omega), h, fp, xi60 hf, xc (show f < 1000 by omega), h8, xzb0]
    · rw [if_pos ⟨by rw [h]; exact fm, by rw [h, xc (by omega)]; exact h8⟩]
      simp [g_X5_isFrozen_28, g_X5_isFrozen_27, g_X5_isFrozen_0, f_X5_isFrozen, xi240 hm, xc (show m < 1000 by omega), h, fp, xi60 hf, xc (show f < 1000 by omega), h8, xzb1]
def xC (a : xT) (i : Nat) : xT := (fun z => if z = 2 then (fun m => if m < i ∧ ¬ xfz a m then -1 else a.1 2 m) else if z = 1 then (fun m => if m < i ∧ ¬ xfz a m then -1 else a.1 1 m) else a.1 z, a.2)
theorem xC_0 (a : xT) : xC a 0 = a := by
  refine Prod.ext ?_ rfl
  funext z
  simp only [xC]
  by_cases h2 : z = 2
  · rw [if_pos h2, h2]; funext m; rw [if_neg (by omega)]
  · rw [if_neg h2]
    by_cases h1 : z = 1
    · rw [if_pos h1, h1]; funext m; rw [if_neg (by omega)]
    · rw [if_neg h1]
theorem xC_f {a : xT} {i : Nat} (h : xfz a i) : xC a (i + 1) = xC a i := by
  have key : ∀ m, (m < i + 1 ∧ ¬ xfz a m) ↔ (m < i ∧ ¬ xfz a m) := by
    intro m
    constructor
    · intro hh
      refine ⟨?_, hh.2⟩
      have : m ≠ i := by intro he; subst he; exact hh.2 h
      omega
    · intro hh; exact ⟨by omega, hh.2⟩
  refine Prod.ext ?_ rfl
  funext z
  simp only [xC, key]
theorem xC_n {a : xT} {i : Nat} (h : ¬ xfz a i) : xs (xs (xC a i) 2 i (-1)) 1 i (-1) = xC a (i + 1) := by
  have key : ∀ m, m ≠ i → ((m < i + 1 ∧ ¬ xfz a m) ↔ (m < i ∧ ¬ xfz a m)) := by
    intro m hm
    constructor
    · intro hh; exact ⟨by omega, hh.2⟩
    · intro hh; exact ⟨by omega, hh.2⟩
  refine Prod.ext ?_ rfl
  funext z
  simp only [xs1, xC]
  by_cases h2 : z = 2
  · subst h2
    simp only [if_true, if_neg (show ¬ (2 : Nat) = 1 by decide)]
    funext m
    simp only [upd_e]
    by_cases hm : m = i
    · subst hm; rw [if_pos rfl, if_pos ⟨by omega, h⟩]
    · rw [if_neg hm]; simp only [key m hm]
  · by_cases h1 : z = 1
    · subst h1
      simp only [if_true, if_neg (show ¬ (1 : Nat) = 2 by decide)]
      funext m
      simp only [upd_e]
      by_cases hm : m = i
      · subst hm; rw [if_pos rfl, if_pos ⟨by omega, h⟩]
      · rw [if_neg hm]; simp only [key m hm]
    · simp only [if_neg h1, if_neg h2]
def xC6 (a : xT) (i : Nat) : xT := (fun z => if z = 6 then (fun f => if f < i ∧ a.1 8 f = 0 then -1 else a.1 6 f) else a.1 z, a.2)
theorem xC6_0 (a : xT) : xC6 a 0 = a := by
  refine Prod.ext ?_ rfl
  funext z
  simp only [xC6]
  by_cases h : z = 6
  · rw [if_pos h, h]; funext m; rw [if_neg (by omega)]
  · rw [if_neg h]
theorem xC6_f {a : xT} {i : Nat} (h : ¬ a.1 8 i = 0) : xC6 a (i + 1) = xC6 a i := by
  have key : ∀ m, (m < i + 1 ∧ a.1 8 m = 0) ↔ (m < i ∧ a.1 8 m = 0) := by
    intro m
    constructor
    · intro hh
      refine ⟨?_, hh.2⟩
      have : m ≠ i := by intro he; subst he; exact h hh.2
      omega
    · intro hh; exact ⟨by omega, hh.2⟩
  refine Prod.ext ?_ rfl
  funext z
  simp only [xC6, key]
theorem xC6_n {a : xT} {i : Nat} (h : a.1 8 i = 0) : xs (xC6 a i) 6 i (-1) = xC6 a (i + 1) := by
  refine Prod.ext ?_ rfl
  funext z
  simp only [xs1, xC6]
  by_cases h6 : z = 6
  · subst h6
    simp only [if_true]
    funext m
    simp only [upd_e]
    by_cases hm : m = i
    · subst hm; rw [if_pos rfl, if_pos ⟨by omega, h⟩]
    · rw [if_neg hm]
      have : (m < i + 1 ∧ a.1 8 m = 0) ↔ (m < i ∧ a.1 8 m = 0) := ⟨fun hh => ⟨by omega, hh.2⟩, fun hh => ⟨by omega, hh.2⟩⟩
      simp only [this]
  · simp only [if_neg h6]
theorem cw_45 {a : xT} {n : Nat} (hn : n ≤ 60) (d0 : a.2 0 = nI n) : ∀ (d i fu : Nat), n - i = d → i ≤ n → d < fu → g_X4_clearWhatIsNotFrozen_45 fu (xC6 a i) (nI i) = some (xC6 a n) := by
  intro d
  induction d with
  | zero =>
    intro i fu hd hi hu
    obtain ⟨fu, rfl⟩ : ∃ q, fu = q + 1 := ⟨fu - 1, by omega⟩
    have : i = n := by omega
    subst this
    show g_X4_clearWhatIsNotFrozen_45s (g_X4_clearWhatIsNotFrozen_45 fu) (xC6 a i) (nI i) = _
    have d0' : (xC6 a i).2 0 = nI i := d0
    simp [g_X4_clearWhatIsNotFrozen_78, g_X4_clearWhatIsNotFrozen_45s, g_X4_clearWhatIsNotFrozen_37, g_X4_clearWhatIsNotFrozen_27, g_X4_clearWhatIsNotFrozen_2s, g_X4_clearWhatIsNotFrozen_0, f_X4_clearWhatIsNotFrozen, d0']
  | succ d ih =>
    intro i fu hd hi hu
    obtain ⟨fu, rfl⟩ : ∃ q, fu = q + 1 := ⟨fu - 1, by omega⟩
    have hge := nI_ge (show i < n by omega) (show n < 2 ^ 31 by omega)
    have d0' : (xC6 a i).2 0 = nI n := d0
    have e8 : (xC6 a i).1 8 i = a.1 8 i := rfl
    have r := ih (i + 1) fu (by omega) (by omega) (by omega)
    show g_X4_clearWhatIsNotFrozen_45s (g_X4_clearWhatIsNotFrozen_45 fu) (xC6 a i) (nI i) = _
    by_cases h8 : a.1 8 i = 0
    · simp [g_X4_clearWhatIsNotFrozen_78, g_X4_clearWhatIsNotFrozen_45s, g_X4_clearWhatIsNotFrozen_37, g_X4_clearWhatIsNotFrozen_27, g_X4_clearWhatIsNotFrozen_2s, g_X4_clearWhatIsNotFrozen_0, f_X4_clearWhatIsNotFrozen, d0', hge, xi60 (show i < 60 by omega), xc (show i < 1000 by omega), e8, h8, xC6_n h8, xp1, r]
    · rw [xC6_f h8] at r
      simp [g_X4_clearWhatIsNotFrozen_78, g_X4_clearWhatIsNotFrozen_45s, g_X4_clearWhatIsNotFrozen_37, g_X4_clearWhatIsNotFrozen_27, g_X4_clearWhatIsNotFrozen_2s, g_X4_clearWhatIsNotFrozen_0, f_X4_clearWhatIsNotFrozen, d0', hge, xi60 (show i < 60 by omega), xc (show i < 1000 by omega), e8, h8, xp1, r]
theorem cw_2 {a : xT} (hr : ∀ m, m < 240 → a.1 2 m = -1 ∨ ∃ f, f < 60 ∧ a.1 2 m = nI f) : ∀ (d i fu : Nat), 240 - i = d → i ≤ 240 → d < fu → g_X4_clearWhatIsNotFrozen_2 fu (xC a i) (nI i) = g_X4_clearWhatIsNotFrozen_45 1000 (xC a 240) 0 := by
  intro d
  induction d with
  | zero =>
    intro i fu hd hi hu
    obtain ⟨fu, rfl⟩ : ∃ q, fu = q + 1 := ⟨fu - 1, by omega⟩
    have : i = 240 := by omega
    subst this
    show g_X4_clearWhatIsNotFrozen_2s (g_X4_clearWhatIsNotFrozen_2 fu) (xC a 240) (nI 240) = _
    simp [g_X4_clearWhatIsNotFrozen_2s, x240]
  | succ d ih =>
    intro i fu hd hi hu
    obtain ⟨fu, rfl⟩ : ∃ q, fu = q + 1 := ⟨fu - 1, by omega⟩
    have hi2 : i < 240 := by omega
    have hge := nI_ge hi2 (show 240 < 2 ^ 31 by decide)
    have e2 : (xC a i).1 2 i = a.1 2 i := by
      show (if i < i ∧ ¬ xfz a i then -1 else a.1 2 i) = _
      rw [if_neg (by omega)]
    have efz : xfz (xC a i) i ↔ xfz a i := by
      show (¬ (xC a i).1 2 i = -1 ∧ ¬ a.1 8 ((xC a i).1 2 i).toNatClampNeg = 0) ↔ _
      rw [e2]
    have hf := fz_4 (xC a i) hi2 (by rw [e2]; exact hr i hi2)
    have r := ih (i + 1) fu (by omega) (by omega) (by omega)
    show g_X4_clearWhatIsNotFrozen_2s (g_X4_clearWhatIsNotFrozen_2 fu) (xC a i) (nI i) = _
    by_cases h : xfz a i
    · rw [if_pos (efz.mpr h)] at hf
      rw [xC_f h] at r
      rw [← r]
      simp only [g_X4_clearWhatIsNotFrozen_2s, g_X4_clearWhatIsNotFrozen_37, x240, hge, if_false, hf, Option.bind_some, if_neg (show ¬ (1 : Int32) = 0 by decide), xp1]
    · rw [if_neg (fun hh => h (efz.mp hh))] at hf
      rw [← r]
      simp only [g_X4_clearWhatIsNotFrozen_2s, g_X4_clearWhatIsNotFrozen_27, g_X4_clearWhatIsNotFrozen_37, x240, hge, if_false, hf, Option.bind_some, if_true, xi240 hi2, xc (show i < 1000 by omega), xC_n h, xp1]
theorem cw_4 {a : xT} {n : Nat} (hn : n ≤ 60) (d0 : a.2 0 = nI n) (hr : ∀ m, m < 240 → a.1 2 m = -1 ∨ ∃ f, f < 60 ∧ a.1 2 m = nI f) : f_X4_clearWhatIsNotFrozen a = some (xC6 (xC a 240) n) := by
  have h1 := cw_2 hr 240 0 1000 rfl (by decide) (by decide)
  have h2 := cw_45 (a := xC a 240) hn d0 n 0 1000 rfl (by omega) (by omega)
  rw [xC_0, z0] at h1
  rw [xC6_0, z0] at h2
  show g_X4_clearWhatIsNotFrozen_2 1000 a 0 = _
  rw [h1, h2]
/-- the reference's clearing up to minute i -/
def xJ (b s : xT) (n i : Nat) : Prop := s.2 = b.2 ∧ (∀ z, z ≠ 1 → z ≠ 2 → z ≠ 6 → s.1 z = b.1 z) ∧ (∀ m, s.1 2 m = if m < i ∧ ¬ b.1 0 m = 0 ∧ ¬ xfz b m then -1 else b.1 2 m) ∧ (∀ m, s.1 1 m = if m < i ∧ ¬ b.1 0 m = 0 ∧ ¬ xfz b m then -1 else b.1 1 m) ∧ (∀ f, s.1 6 f = b.1 6 f ∨ (s.1 6 f = -1 ∧ f < n ∧ b.1 8 f = 0)) ∧ (∀ f m, m < i → ¬ b.1 0 m = 0 → b.1 2 m = nI f → f < n → b.1 8 f = 0 → s.1 6 f = -1)
theorem ck_7 {b : xT} {n : Nat} (hn : n ≤ 60) (hr : ∀ m, m < 240 → b.1 2 m = -1 ∨ ∃ f, f < n ∧ b.1 2 m = nI f) : ∀ (d i fu : Nat) (s : xT), xJ b s n i → 240 - i = d → i ≤ 240 → d < fu → ∃ s', g_X5_rationed_7 fu s (nI i) = g_X5_rationed_51 1000 s' 0 ∧ xJ b s' n 240 := by
  intro d
  induction d with
  | zero =>
    intro i fu s hJ hd hi hu
    obtain ⟨fu, rfl⟩ : ∃ q, fu = q + 1 := ⟨fu - 1, by omega⟩
    have : i = 240 := by omega
    subst this
    refine ⟨s, ?_, hJ⟩
    show g_X5_rationed_7s (g_X5_rationed_7 fu) s (nI 240) = _
    simp [g_X5_rationed_7s, x240]
  | succ d ih =>
    intro i fu s hJ hd hi hu
    obtain ⟨fu, rfl⟩ : ∃ q, fu = q + 1 := ⟨fu - 1, by omega⟩
    have hi2 : i < 240 := by omega
    have hge := nI_ge hi2 (show 240 < 2 ^ 31 by decide)
    have ii := xi240 hi2
    have ic := xc (show i < 1000 by omega)
    obtain ⟨j1, j2, j3, j4, j5, j6⟩ := hJ
    have e0 : s.1 0 i = b.1 0 i := by rw [j2 0 (by decide) (by decide) (by decide)]
    have e8 : s.1 8 = b.1 8 := j2 8 (by decide) (by decide) (by decide)
    have e2 : s.1 2 i = b.1 2 i := by rw [j3 i, if_neg (by omega)]
    have efz : xfz s i ↔ xfz b i := by
      show (¬ s.1 2 i = -1 ∧ ¬ s.1 8 (s.1 2 i).toNatClampNeg = 0) ↔ _
      rw [e2, e8]
    have keep : (b.1 0 i = 0 ∨ xfz b i) → ∃ s', g_X5_rationed_7 fu s (nI (i + 1)) = g_X5_rationed_51 1000 s' 0 ∧ xJ b s' n 240 := by
      intro hk
      have key : ∀ m, (m < i + 1 ∧ ¬ b.1 0 m = 0 ∧ ¬ xfz b m) ↔ (m < i ∧ ¬ b.1 0 m = 0 ∧ ¬ xfz b m) := by
        intro m
        constructor
        · intro hh
          refine ⟨?_, hh.2⟩
          have : m ≠ i := by
            intro he; subst he
            rcases hk with hk | hk
            · exact hh.2.1 hk
            · exact hh.2.2 hk
          omega
        · intro hh; exact ⟨by omega, hh.2⟩
      refine ih (i + 1) fu s ⟨j1, j2, fun m => by rw [j3 m]; simp only [key m], fun m => by rw [j4 m]; simp only [key m], j5, fun f m hm h0 h2 hf h8 => ?_⟩ (by omega) (by omega) (by omega)
      by_cases hmi : m = i
      · subst hmi
        rcases hk with hk | hk
        · exact absurd hk h0
        · exact absurd (show b.1 8 (b.1 2 m).toNatClampNeg = 0 by rw [h2, xc (by omega)]; exact h8) hk.2
      · exact j6 f m (by omega) h0 h2 hf h8
    by_cases h0 : b.1 0 i = 0
    · obtain ⟨s', r1, r2⟩ := keep (Or.inl h0)
      refine ⟨s', ?_, r2⟩
      rw [← r1]
      show g_X5_rationed_7s (g_X5_rationed_7 fu) s (nI i) = _
      simp [g_X5_rationed_7s, g_X5_rationed_43, x240, hge, ii, ic, e0, h0, xp1]
    have hf := fz_5 s hi2 (by rw [e2]; rcases hr i hi2 with hh | ⟨f, hf, hh⟩; exact Or.inl hh; exact Or.inr ⟨f, by omega, hh⟩)
    by_cases h : xfz b i
    · rw [if_pos (efz.mpr h)] at hf
      obtain ⟨s', r1, r2⟩ := keep (Or.inr h)
      refine ⟨s', ?_, r2⟩
      rw [← r1]
      show g_X5_rationed_7s (g_X5_rationed_7 fu) s (nI i) = _
      simp [g_X5_rationed_7s, g_X5_rationed_43, x240, hge, ii, ic, e0, h0, hf, xp1]
    rw [if_neg (fun hh => h (efz.mp hh))] at hf
    have key : ∀ m, m ≠ i → ((m < i + 1 ∧ ¬ b.1 0 m = 0 ∧ ¬ xfz b m) ↔ (m < i ∧ ¬ b.1 0 m = 0 ∧ ¬ xfz b m)) := by
      intro m hm
      exact ⟨fun hh => ⟨by omega, hh.2⟩, fun hh => ⟨by omega, hh.2⟩⟩
    rcases hr i hi2 with h2 | ⟨f, hfn, h2⟩
    · have hem : f_X5_empty s (nI i) = some (xs s 2 i (-1)) := by
        simp [g_X5_empty_28, g_X5_empty_21, g_X5_empty_0, f_X5_empty, ii, ic, e2, h2]
      obtain ⟨s', r1, r2⟩ := ih (i + 1) fu (xs (xs s 2 i (-1)) 1 i (-1)) ⟨j1, fun z z1 z2 z6 => by
          rw [xs1, if_neg z1, xs1, if_neg z2]; exact j2 z z1 z2 z6, fun m => by
          show upd (s.1 2) i (-1) m = _
          rw [upd_e]
          by_cases hm : m = i
          · subst hm; rw [if_pos rfl, if_pos ⟨by omega, h0, h⟩]
          · rw [if_neg hm, j3 m]; simp only [key m hm], fun m => by
          show upd (s.1 1) i (-1) m = _
          rw [upd_e]
          by_cases hm : m = i
          · subst hm; rw [if_pos rfl, if_pos ⟨by omega, h0, h⟩]
          · rw [if_neg hm, j4 m]; simp only [key m hm], j5, fun g m hm g0 g2 hg g8 => by
          by_cases hmi : m = i
          · subst hmi; exact absurd (g2.symm.trans h2) (nI_m1 (by omega))
          · exact j6 g m (by omega) g0 g2 hg g8⟩ (by omega) (by omega) (by omega)
      refine ⟨s', ?_, r2⟩
      rw [← r1]
      show g_X5_rationed_7s (g_X5_rationed_7 fu) s (nI i) = _
      simp [g_X5_rationed_7s, g_X5_rationed_43, x240, hge, ii, ic, e0, h0, hf, hem, xp1]
    · have fp := nI_pos (show f < 2 ^ 31 by omega)
      have h8 : b.1 8 f = 0 := by
        apply Classical.byContradiction
        intro hh
        exact h ⟨by rw [h2]; exact nI_m1 (by omega), by rw [h2, xc (by omega)]; exact hh⟩
      have hem : f_X5_empty s (nI i) = some (xs (xs s 6 f (-1)) 2 i (-1)) := by
        simp [g_X5_empty_28, g_X5_empty_21, g_X5_empty_0, f_X5_empty, ii, ic, e2, h2, fp, xi60 (show f < 60 by omega), xc (show f < 1000 by omega)]
      obtain ⟨s', r1, r2⟩ := ih (i + 1) fu (xs (xs (xs s 6 f (-1)) 2 i (-1)) 1 i (-1)) ⟨j1, fun z z1 z2 z6 => by
          rw [xs1, if_neg z1, xs1, if_neg z2, xs1, if_neg z6]; exact j2 z z1 z2 z6, fun m => by
          show upd (s.1 2) i (-1) m = _
          rw [upd_e]
          by_cases hm : m = i
          · subst hm; rw [if_pos rfl, if_pos ⟨by omega, h0, h⟩]
          · rw [if_neg hm, j3 m]; simp only [key m hm], fun m => by
          show upd (s.1 1) i (-1) m = _
          rw [upd_e]
          by_cases hm : m = i
          · subst hm; rw [if_pos rfl, if_pos ⟨by omega, h0, h⟩]
          · rw [if_neg hm, j4 m]; simp only [key m hm], fun g => by
          show upd (s.1 6) f (-1) g = _ ∨ (upd (s.1 6) f (-1) g = -1 ∧ _)
          rw [upd_e]
          by_cases hg : g = f
          · rw [if_pos hg, hg]; exact Or.inr ⟨rfl, hfn, h8⟩
          · rw [if_neg hg]; exact j5 g, fun g m hm g0 g2 hg g8 => by
          show upd (s.1 6) f (-1) g = -1
          rw [upd_e]
          by_cases hgf : g = f
          · rw [if_pos hgf]
          · rw [if_neg hgf]
            by_cases hmi : m = i
            · subst hmi; exact absurd (nI_j (by omega) (by omega) (g2.symm.trans h2)) hgf
            · exact j6 g m (by omega) g0 g2 hg g8⟩ (by omega) (by omega) (by omega)
      refine ⟨s', ?_, r2⟩
      rw [← r1]
      show g_X5_rationed_7s (g_X5_rationed_7 fu) s (nI i) = _
      simp [g_X5_rationed_7s, g_X5_rationed_43, x240, hge, ii, ic, e0, h0, hf, hem, xp1]
theorem dn_51 {n : Nat} (hn : n ≤ 60) : ∀ (d i fu : Nat) (s : xT), s.2 1 = nI n → (∀ f, f < i → s.1 9 f = 0) → n - i = d → i ≤ n → d < fu → ∃ s', g_X5_rationed_51 fu s (nI i) = (f_X5_nextFlight s').bind (fun r => g_X5_rationed_79 1000 s' 0 r) ∧ (∀ f, f < n → s'.1 9 f = 0) ∧ (∀ z, z ≠ 9 → s'.1 z = s.1 z) ∧ s'.2 = s.2 := by
  intro d
  induction d with
  | zero =>
    intro i fu s d0 h9 hd hi hu
    obtain ⟨fu, rfl⟩ : ∃ q, fu = q + 1 := ⟨fu - 1, by omega⟩
    have : i = n := by omega
    subst this
    refine ⟨s, ?_, h9, fun _ _ => rfl, rfl⟩
    show g_X5_rationed_51s (g_X5_rationed_51 fu) s (nI i) = _
    simp [g_X5_rationed_51s, d0]
  | succ d ih =>
    intro i fu s d0 h9 hd hi hu
    obtain ⟨fu, rfl⟩ : ∃ q, fu = q + 1 := ⟨fu - 1, by omega⟩
    have hge := nI_ge (show i < n by omega) (show n < 2 ^ 31 by omega)
    obtain ⟨s', r1, r2, r3, r4⟩ := ih (i + 1) fu (xs s 9 i 0) d0 (fun f hf => by
      show upd (s.1 9) i 0 f = 0
      rw [upd_e]; split
      · rfl
      · exact h9 f (by omega)) (by omega) (by omega) (by omega)
    refine ⟨s', ?_, r2, fun z hz => by rw [r3 z hz, xs1, if_neg hz], r4⟩
    rw [← r1]
    show g_X5_rationed_51s (g_X5_rationed_51 fu) s (nI i) = _
    simp [g_X5_rationed_51s, g_X5_rationed_66, d0, hge, xi60 (show i < 60 by omega), xc (show i < 1000 by omega), xnb0, xp1]
