/-! The world: the class's cells, the reference's cells, the law's own answer; their state as functions. -/
abbrev xT : Type := (Nat → Nat → Int32) × (Nat → Int32)
/-- array j gets v at i -/
def xs (t : xT) (j i : Nat) (v : Int32) : xT := (fun z => if z = j then upd (t.1 j) i v else t.1 z, t.2)
/-- number j becomes v -/
def xn (t : xT) (j : Nat) (v : Int32) : xT := (t.1, fun z => if z = j then v else t.2 z)
def xw (q : Nat → Nat) (k : Nat → ClassId) (a b : xT) (o : Nat → Int64) : va_W := [(q 0, .inr (4, [.ref (q 1), .ref (q 2), .ref (q 3), .ref (q 4)])),
  (q 1, .inr (3, [.ref (q 5), .ref (q 6), .ref (q 7)])),
  (q 2, .inr (1, [.ref (q 8), .ref (q 9), .ref (q 10), .ref (q 11), .ref (q 12), .ref (q 13), .ref (q 14), .int (a.2 0)])),
  (q 3, .inr (2, [.ref (q 15), .ref (q 16), .ref (q 17), .ref (q 18), .int (a.2 1)])),
  (q 4, .inr (0, [.ref (q 19), .ref (q 20), .ref (q 21), .ref (q 22), .int (a.2 2)])),
  (q 5, .inl (k 1, 240, .inl (a.1 0))),
  (q 6, .inl (k 0, 240, .inl (a.1 1))),
  (q 7, .inl (k 0, 240, .inl (a.1 2))),
  (q 8, .inl (k 0, 60, .inl (a.1 3))),
  (q 9, .inl (k 0, 60, .inl (a.1 4))),
  (q 10, .inl (k 0, 60, .inl (a.1 5))),
  (q 11, .inl (k 0, 60, .inl (a.1 6))),
  (q 12, .inl (k 1, 60, .inl (a.1 7))),
  (q 13, .inl (k 1, 60, .inl (a.1 8))),
  (q 14, .inl (k 0, 60, .inl (a.1 9))),
  (q 15, .inl (k 0, 40, .inl (a.1 10))),
  (q 16, .inl (k 0, 40, .inl (a.1 11))),
  (q 17, .inl (k 0, 40, .inl (a.1 12))),
  (q 18, .inl (k 1, 40, .inl (a.1 13))),
  (q 19, .inl (k 0, 200, .inl (a.1 14))),
  (q 20, .inl (k 0, 200, .inl (a.1 15))),
  (q 21, .inl (k 0, 200, .inl (a.1 16))),
  (q 22, .inl (k 0, 200, .inl (a.1 17))),
  (q 23, .inr (5, [.int (b.2 0), .ref (q 24), .ref (q 25), .ref (q 26), .int (b.2 1), .ref (q 27), .ref (q 28), .ref (q 29), .ref (q 30), .ref (q 31), .ref (q 32), .ref (q 33), .int (b.2 2), .ref (q 34), .ref (q 35), .ref (q 36), .ref (q 37), .int (b.2 3), .ref (q 38)])),
  (q 24, .inl (k 1, 240, .inl (b.1 0))),
  (q 25, .inl (k 0, 240, .inl (b.1 1))),
  (q 26, .inl (k 0, 240, .inl (b.1 2))),
  (q 27, .inl (k 0, 60, .inl (b.1 3))),
  (q 28, .inl (k 0, 60, .inl (b.1 4))),
  (q 29, .inl (k 0, 60, .inl (b.1 5))),
  (q 30, .inl (k 0, 60, .inl (b.1 6))),
  (q 31, .inl (k 1, 60, .inl (b.1 7))),
  (q 32, .inl (k 1, 60, .inl (b.1 8))),
  (q 33, .inl (k 1, 60, .inl (b.1 9))),
  (q 34, .inl (k 0, 40, .inl (b.1 10))),
  (q 35, .inl (k 0, 40, .inl (b.1 11))),
  (q 36, .inl (k 0, 40, .inl (b.1 12))),
  (q 37, .inl (k 1, 40, .inl (b.1 13))),
  (q 38, .inl (k 0, 800, .inl (b.1 14))),
  (q 39, .inl (k 2, 1, .inr (.inl o)))]
abbrev xty (k : Nat → ClassId) : List (ClassId × FieldType) := [(k 0, .int), (k 1, .boolean), (k 2, .long)]
theorem xw_n2_7 {q : Nat → Nat} {k : Nat → ClassId} {a b : xT} {o : Nat → Int64} {v : Int32} : (xw q k a b o).set 2 (q 2, .inr (1, List.set [.ref (q 8), .ref (q 9), .ref (q 10), .ref (q 11), .ref (q 12), .ref (q 13), .ref (q 14), .int (a.2 0)] 7 (.int v))) = xw q k (xn a 0 v) b o := rfl
theorem xw_n3_4 {q : Nat → Nat} {k : Nat → ClassId} {a b : xT} {o : Nat → Int64} {v : Int32} : (xw q k a b o).set 3 (q 3, .inr (2, List.set [.ref (q 15), .ref (q 16), .ref (q 17), .ref (q 18), .int (a.2 1)] 4 (.int v))) = xw q k (xn a 1 v) b o := rfl
theorem xw_n4_4 {q : Nat → Nat} {k : Nat → ClassId} {a b : xT} {o : Nat → Int64} {v : Int32} : (xw q k a b o).set 4 (q 4, .inr (0, List.set [.ref (q 19), .ref (q 20), .ref (q 21), .ref (q 22), .int (a.2 2)] 4 (.int v))) = xw q k (xn a 2 v) b o := rfl
theorem xw_s5 {q : Nat → Nat} {k : Nat → ClassId} {a b : xT} {o : Nat → Int64} {i : Nat} {v : Int32} : (xw q k a b o).set 5 (q 5, .inl (k 1, 240, .inl (upd (a.1 0) i v))) = xw q k (xs a 0 i v) b o := rfl
theorem xw_s6 {q : Nat → Nat} {k : Nat → ClassId} {a b : xT} {o : Nat → Int64} {i : Nat} {v : Int32} : (xw q k a b o).set 6 (q 6, .inl (k 0, 240, .inl (upd (a.1 1) i v))) = xw q k (xs a 1 i v) b o := rfl
theorem xw_s7 {q : Nat → Nat} {k : Nat → ClassId} {a b : xT} {o : Nat → Int64} {i : Nat} {v : Int32} : (xw q k a b o).set 7 (q 7, .inl (k 0, 240, .inl (upd (a.1 2) i v))) = xw q k (xs a 2 i v) b o := rfl
theorem xw_s8 {q : Nat → Nat} {k : Nat → ClassId} {a b : xT} {o : Nat → Int64} {i : Nat} {v : Int32} : (xw q k a b o).set 8 (q 8, .inl (k 0, 60, .inl (upd (a.1 3) i v))) = xw q k (xs a 3 i v) b o := rfl
theorem xw_s9 {q : Nat → Nat} {k : Nat → ClassId} {a b : xT} {o : Nat → Int64} {i : Nat} {v : Int32} : (xw q k a b o).set 9 (q 9, .inl (k 0, 60, .inl (upd (a.1 4) i v))) = xw q k (xs a 4 i v) b o := rfl
theorem xw_s10 {q : Nat → Nat} {k : Nat → ClassId} {a b : xT} {o : Nat → Int64} {i : Nat} {v : Int32} : (xw q k a b o).set 10 (q 10, .inl (k 0, 60, .inl (upd (a.1 5) i v))) = xw q k (xs a 5 i v) b o := rfl
theorem xw_s11 {q : Nat → Nat} {k : Nat → ClassId} {a b : xT} {o : Nat → Int64} {i : Nat} {v : Int32} : (xw q k a b o).set 11 (q 11, .inl (k 0, 60, .inl (upd (a.1 6) i v))) = xw q k (xs a 6 i v) b o := rfl
theorem xw_s12 {q : Nat → Nat} {k : Nat → ClassId} {a b : xT} {o : Nat → Int64} {i : Nat} {v : Int32} : (xw q k a b o).set 12 (q 12, .inl (k 1, 60, .inl (upd (a.1 7) i v))) = xw q k (xs a 7 i v) b o := rfl
theorem xw_s13 {q : Nat → Nat} {k : Nat → ClassId} {a b : xT} {o : Nat → Int64} {i : Nat} {v : Int32} : (xw q k a b o).set 13 (q 13, .inl (k 1, 60, .inl (upd (a.1 8) i v))) = xw q k (xs a 8 i v) b o := rfl
theorem xw_s14 {q : Nat → Nat} {k : Nat → ClassId} {a b : xT} {o : Nat → Int64} {i : Nat} {v : Int32} : (xw q k a b o).set 14 (q 14, .inl (k 0, 60, .inl (upd (a.1 9) i v))) = xw q k (xs a 9 i v) b o := rfl
theorem xw_s15 {q : Nat → Nat} {k : Nat → ClassId} {a b : xT} {o : Nat → Int64} {i : Nat} {v : Int32} : (xw q k a b o).set 15 (q 15, .inl (k 0, 40, .inl (upd (a.1 10) i v))) = xw q k (xs a 10 i v) b o := rfl
theorem xw_s16 {q : Nat → Nat} {k : Nat → ClassId} {a b : xT} {o : Nat → Int64} {i : Nat} {v : Int32} : (xw q k a b o).set 16 (q 16, .inl (k 0, 40, .inl (upd (a.1 11) i v))) = xw q k (xs a 11 i v) b o := rfl
theorem xw_s17 {q : Nat → Nat} {k : Nat → ClassId} {a b : xT} {o : Nat → Int64} {i : Nat} {v : Int32} : (xw q k a b o).set 17 (q 17, .inl (k 0, 40, .inl (upd (a.1 12) i v))) = xw q k (xs a 12 i v) b o := rfl
theorem xw_s18 {q : Nat → Nat} {k : Nat → ClassId} {a b : xT} {o : Nat → Int64} {i : Nat} {v : Int32} : (xw q k a b o).set 18 (q 18, .inl (k 1, 40, .inl (upd (a.1 13) i v))) = xw q k (xs a 13 i v) b o := rfl
theorem xw_s19 {q : Nat → Nat} {k : Nat → ClassId} {a b : xT} {o : Nat → Int64} {i : Nat} {v : Int32} : (xw q k a b o).set 19 (q 19, .inl (k 0, 200, .inl (upd (a.1 14) i v))) = xw q k (xs a 14 i v) b o := rfl
theorem xw_s20 {q : Nat → Nat} {k : Nat → ClassId} {a b : xT} {o : Nat → Int64} {i : Nat} {v : Int32} : (xw q k a b o).set 20 (q 20, .inl (k 0, 200, .inl (upd (a.1 15) i v))) = xw q k (xs a 15 i v) b o := rfl
theorem xw_s21 {q : Nat → Nat} {k : Nat → ClassId} {a b : xT} {o : Nat → Int64} {i : Nat} {v : Int32} : (xw q k a b o).set 21 (q 21, .inl (k 0, 200, .inl (upd (a.1 16) i v))) = xw q k (xs a 16 i v) b o := rfl
theorem xw_s22 {q : Nat → Nat} {k : Nat → ClassId} {a b : xT} {o : Nat → Int64} {i : Nat} {v : Int32} : (xw q k a b o).set 22 (q 22, .inl (k 0, 200, .inl (upd (a.1 17) i v))) = xw q k (xs a 17 i v) b o := rfl
theorem xw_n23_0 {q : Nat → Nat} {k : Nat → ClassId} {a b : xT} {o : Nat → Int64} {v : Int32} : (xw q k a b o).set 23 (q 23, .inr (5, List.set [.int (b.2 0), .ref (q 24), .ref (q 25), .ref (q 26), .int (b.2 1), .ref (q 27), .ref (q 28), .ref (q 29), .ref (q 30), .ref (q 31), .ref (q 32), .ref (q 33), .int (b.2 2), .ref (q 34), .ref (q 35), .ref (q 36), .ref (q 37), .int (b.2 3), .ref (q 38)] 0 (.int v))) = xw q k a (xn b 0 v) o := rfl
theorem xw_n23_4 {q : Nat → Nat} {k : Nat → ClassId} {a b : xT} {o : Nat → Int64} {v : Int32} : (xw q k a b o).set 23 (q 23, .inr (5, List.set [.int (b.2 0), .ref (q 24), .ref (q 25), .ref (q 26), .int (b.2 1), .ref (q 27), .ref (q 28), .ref (q 29), .ref (q 30), .ref (q 31), .ref (q 32), .ref (q 33), .int (b.2 2), .ref (q 34), .ref (q 35), .ref (q 36), .ref (q 37), .int (b.2 3), .ref (q 38)] 4 (.int v))) = xw q k a (xn b 1 v) o := rfl
theorem xw_n23_12 {q : Nat → Nat} {k : Nat → ClassId} {a b : xT} {o : Nat → Int64} {v : Int32} : (xw q k a b o).set 23 (q 23, .inr (5, List.set [.int (b.2 0), .ref (q 24), .ref (q 25), .ref (q 26), .int (b.2 1), .ref (q 27), .ref (q 28), .ref (q 29), .ref (q 30), .ref (q 31), .ref (q 32), .ref (q 33), .int (b.2 2), .ref (q 34), .ref (q 35), .ref (q 36), .ref (q 37), .int (b.2 3), .ref (q 38)] 12 (.int v))) = xw q k a (xn b 2 v) o := rfl
theorem xw_n23_17 {q : Nat → Nat} {k : Nat → ClassId} {a b : xT} {o : Nat → Int64} {v : Int32} : (xw q k a b o).set 23 (q 23, .inr (5, List.set [.int (b.2 0), .ref (q 24), .ref (q 25), .ref (q 26), .int (b.2 1), .ref (q 27), .ref (q 28), .ref (q 29), .ref (q 30), .ref (q 31), .ref (q 32), .ref (q 33), .int (b.2 2), .ref (q 34), .ref (q 35), .ref (q 36), .ref (q 37), .int (b.2 3), .ref (q 38)] 17 (.int v))) = xw q k a (xn b 3 v) o := rfl
theorem xw_s24 {q : Nat → Nat} {k : Nat → ClassId} {a b : xT} {o : Nat → Int64} {i : Nat} {v : Int32} : (xw q k a b o).set 24 (q 24, .inl (k 1, 240, .inl (upd (b.1 0) i v))) = xw q k a (xs b 0 i v) o := rfl
theorem xw_s25 {q : Nat → Nat} {k : Nat → ClassId} {a b : xT} {o : Nat → Int64} {i : Nat} {v : Int32} : (xw q k a b o).set 25 (q 25, .inl (k 0, 240, .inl (upd (b.1 1) i v))) = xw q k a (xs b 1 i v) o := rfl
theorem xw_s26 {q : Nat → Nat} {k : Nat → ClassId} {a b : xT} {o : Nat → Int64} {i : Nat} {v : Int32} : (xw q k a b o).set 26 (q 26, .inl (k 0, 240, .inl (upd (b.1 2) i v))) = xw q k a (xs b 2 i v) o := rfl
theorem xw_s27 {q : Nat → Nat} {k : Nat → ClassId} {a b : xT} {o : Nat → Int64} {i : Nat} {v : Int32} : (xw q k a b o).set 27 (q 27, .inl (k 0, 60, .inl (upd (b.1 3) i v))) = xw q k a (xs b 3 i v) o := rfl
theorem xw_s28 {q : Nat → Nat} {k : Nat → ClassId} {a b : xT} {o : Nat → Int64} {i : Nat} {v : Int32} : (xw q k a b o).set 28 (q 28, .inl (k 0, 60, .inl (upd (b.1 4) i v))) = xw q k a (xs b 4 i v) o := rfl
theorem xw_s29 {q : Nat → Nat} {k : Nat → ClassId} {a b : xT} {o : Nat → Int64} {i : Nat} {v : Int32} : (xw q k a b o).set 29 (q 29, .inl (k 0, 60, .inl (upd (b.1 5) i v))) = xw q k a (xs b 5 i v) o := rfl
theorem xw_s30 {q : Nat → Nat} {k : Nat → ClassId} {a b : xT} {o : Nat → Int64} {i : Nat} {v : Int32} : (xw q k a b o).set 30 (q 30, .inl (k 0, 60, .inl (upd (b.1 6) i v))) = xw q k a (xs b 6 i v) o := rfl
theorem xw_s31 {q : Nat → Nat} {k : Nat → ClassId} {a b : xT} {o : Nat → Int64} {i : Nat} {v : Int32} : (xw q k a b o).set 31 (q 31, .inl (k 1, 60, .inl (upd (b.1 7) i v))) = xw q k a (xs b 7 i v) o := rfl
theorem xw_s32 {q : Nat → Nat} {k : Nat → ClassId} {a b : xT} {o : Nat → Int64} {i : Nat} {v : Int32} : (xw q k a b o).set 32 (q 32, .inl (k 1, 60, .inl (upd (b.1 8) i v))) = xw q k a (xs b 8 i v) o := rfl
theorem xw_s33 {q : Nat → Nat} {k : Nat → ClassId} {a b : xT} {o : Nat → Int64} {i : Nat} {v : Int32} : (xw q k a b o).set 33 (q 33, .inl (k 1, 60, .inl (upd (b.1 9) i v))) = xw q k a (xs b 9 i v) o := rfl
theorem xw_s34 {q : Nat → Nat} {k : Nat → ClassId} {a b : xT} {o : Nat → Int64} {i : Nat} {v : Int32} : (xw q k a b o).set 34 (q 34, .inl (k 0, 40, .inl (upd (b.1 10) i v))) = xw q k a (xs b 10 i v) o := rfl
theorem xw_s35 {q : Nat → Nat} {k : Nat → ClassId} {a b : xT} {o : Nat → Int64} {i : Nat} {v : Int32} : (xw q k a b o).set 35 (q 35, .inl (k 0, 40, .inl (upd (b.1 11) i v))) = xw q k a (xs b 11 i v) o := rfl
theorem xw_s36 {q : Nat → Nat} {k : Nat → ClassId} {a b : xT} {o : Nat → Int64} {i : Nat} {v : Int32} : (xw q k a b o).set 36 (q 36, .inl (k 0, 40, .inl (upd (b.1 12) i v))) = xw q k a (xs b 12 i v) o := rfl
theorem xw_s37 {q : Nat → Nat} {k : Nat → ClassId} {a b : xT} {o : Nat → Int64} {i : Nat} {v : Int32} : (xw q k a b o).set 37 (q 37, .inl (k 1, 40, .inl (upd (b.1 13) i v))) = xw q k a (xs b 13 i v) o := rfl
theorem xw_s38 {q : Nat → Nat} {k : Nat → ClassId} {a b : xT} {o : Nat → Int64} {i : Nat} {v : Int32} : (xw q k a b o).set 38 (q 38, .inl (k 0, 800, .inl (upd (b.1 14) i v))) = xw q k a (xs b 14 i v) o := rfl
def xstrs : List (String × Nat × String) := [(RX4, 39, "no such quarter"), (RX4, 44, "no such rate"), (RX4, 52, "a frozen slot would be none any more"), (RX4, 67, "scheduled for no minute of the time"), (RX4, 75, "earliest minute out of bounds"), (RX4, 81, "no room for a flight"), (RX4, 122, "airborne, or in no slot"), (RX4, 127, "not two flights of one airline"), (RX4, 129, "one of them is in no slot"), (RX4, 134, "one of them is airborne or cannot use the other's slot"), (RX4, 142, "give and want are the same"), (RX4, 144, "the airline does not own what it gives"), (RX4, 147, "no room for an offer"), (RX4, 150, "no such offer"), (RX4, 187, "no such entry"), (RX4, 200, "an entry has no such part"), (RX4, 202, "no such flight"), (RX4, 204, "no such airline"), (RX4, 211, "no slot at that minute"), (RX4, 217, "cancelled or airborne")]

/-- an index within -/
def xin (i : Int32) (n : Nat) : Bool := decide (¬ (i < 0 ∨ n ≤ i.toNatClampNeg))
def xzb (v : Int32) : Bool := decide (v = 0 ∨ v = 1)
theorem xguard {α : Type} {i : Int32} {n : Nat} {A : Option α} {y : α} (h : (if xin i n = true then A else none) = some y) : vp_in i n ∧ A = some y := by
  by_cases hc : xin i n = true
  · rw [if_pos hc] at h
    exact ⟨of_decide_eq_true (p := ¬ (i < 0 ∨ n ≤ i.toNatClampNeg)) hc, h⟩
  · rw [if_neg hc] at h
    cases h
theorem xguz {α : Type} {v : Int32} {A : Option α} {y : α} (h : (if xzb v = true then A else none) = some y) : narrow .boolean (.int v) = .int v ∧ A = some y := by
  by_cases hc : xzb v = true
  · rw [if_pos hc] at h
    refine ⟨?_, h⟩
    rcases (of_decide_eq_true hc : v = 0 ∨ v = 1) with rfl | rfl <;> rfl
  · rw [if_neg hc] at h
    cases h
theorem xgne {α : Type} {v : Int32} {A : Option α} {y : α} (h : (if v = 0 then none else A) = some y) : ¬ v = 0 ∧ A = some y := by
  by_cases hc : v = 0
  · rw [if_pos hc] at h
    cases h
  · rw [if_neg hc] at h
    exact ⟨hc, h⟩
theorem xbind {α β : Type} {x : Option α} {f : α → Option β} {y : β} (h : x.bind f = some y) : ∃ r, x = some r ∧ f r = some y := by
  cases x with
  | none => cases h
  | some r => exact ⟨r, rfl, h⟩
theorem xinc {n : Int} {v : Int32} (h : Int32.ofInt n = v) (x : Int32) : x + Int32.ofInt n = x + v := by rw [h]
theorem xnp {d : String} {n : Nat} (h : (parseMethodDescriptor d).map (fun d => d.parameters.length) = some n) : ∀ sig, parseMethodDescriptor d = some sig → n = sig.parameters.length := by
  intro sig hs
  rw [hs] at h
  exact (Option.some.inj h).symm
theorem xz0 : narrow .boolean (.int 0) = .int 0 := rfl
theorem xz1 : narrow .boolean (.int 1) = .int 1 := rfl
abbrev xck (y : Option String) : xO := match y with
  | some E => .inl E
  | none => .inr none
abbrev xri (y : String ⊕ Int32) : xO := match y with
  | .inl E => .inl E
  | .inr r => .inr (some (.int r))
/-- what holds at every state of the run: the classes, the words, the literals -/
def xG (D : va_G) (k : Nat → ClassId) (U : State) : Prop := va_K D vwCl (xty k) U ∧ xE U ∧ ∀ z ∈ xstrs, ∃ sa : Nat, vk_R z.1 z.2.1 z.2.2 sa U
theorem xG.warm {D : va_G} {k : Nat → ClassId} {s U : State} (h : xG D k s) (hW : s.WarmedH U.vm) : xG D k U :=
  ⟨va_K.moved hW.alike h.1, h.2.1.warm hW, fun z hz => by
    obtain ⟨sa, hsa⟩ := h.2.2 z hz
    exact ⟨sa, vk_R.warm hW hsa⟩⟩
/-- a method's frame stands: the machine, the code, the class -/
def xCx (p : Program) (s : State) (m : MethodId) (meth : Method) (c : Code) (cc : ByteArray) (nL : Nat) (ret : Option FieldType) (own : String) (D : va_G) (k : Nat → ClassId) : Prop :=
  p.tables.exec = Jvm.exec ∧ c.code = cc ∧ c.maxLocals = nL ∧ meth.sig.returnType = ret ∧ meth.locks = false ∧ s.vm.findClass own = some m.cls ∧ (∀ x ∈ c.exceptionTable.toList, False) ∧ xG D k s
/-- a method's start: it reads; it may throw; it writes -/
def xPc (D : va_G) (q : Nat → Nat) (k : Nat → ClassId) (a b : xT) (o : Nat → Int64) (av : List Value) : Array Value → State → Prop := va_Pc av (fun U => va_P D vwCl (xw q k a b o) U.heap ∧ va_D (fun _ => True) (xw q k a b o) ∧ xG D k U)
def xPcT (D : va_G) (q : Nat → Nat) (k : Nat → ClassId) (a b : xT) (o : Nat → Int64) (av : List Value) : Array Value → State → Prop := va_Pc av (fun U => va_P D vwCl (xw q k a b o) U.heap ∧ va_D (fun _ => True) (xw q k a b o) ∧ xG D k U ∧ xSt U)
def xPcm (D : va_G) (q : Nat → Nat) (k : Nat → ClassId) (sz : Nat) (a b : xT) (o : Nat → Int64) (av : List Value) : Array Value → State → Prop := va_Pc av (fun U => U.heap.size = sz ∧ va_P D vwCl (xw q k a b o) U.heap ∧ va_D (fun _ => True) (xw q k a b o) ∧ xG D k U)
def xPcTm (D : va_G) (q : Nat → Nat) (k : Nat → ClassId) (sz : Nat) (a b : xT) (o : Nat → Int64) (av : List Value) : Array Value → State → Prop := va_Pc av (fun U => U.heap.size = sz ∧ va_P D vwCl (xw q k a b o) U.heap ∧ va_D (fun _ => True) (xw q k a b o) ∧ xG D k U ∧ xSt U)
theorem xG.call {D : va_G} {k : Nat → ClassId} {U : State} {g : JFrame} {mk : MethodId} {a : Array Value} (h : xG D k U) : xG D k (U.calling g mk a) := h.warm (State.WarmedH.refl U)
theorem xSt.call {U : State} {g : JFrame} {mk : MethodId} {a : Array Value} (h : xSt U) : xSt (U.calling g mk a) := h.moved (Vm.Alike.refl U.vm) (fun _ _ hz _ => hz)
section XC
variable {p : Program} {l : Launch} {e : Env} {R : Room} {s : State} {m : MethodId} {args : Array Value} {below : List Frame} {meth : Method} {c : Code} {H : Heap} {locs : List Loc} {cells slots : Nat} {Q : State → Prop}
variable {D : va_G} {q : Nat → Nat} {k : Nat → ClassId} {a b a1 b1 : xT} {o : Nat → Int64} {A : Nat → Prop} {av : List Value} {sz : Nat}
theorem xpre (hP : va_P D vwCl (xw q k a b o) H) (hD : va_D A (xw q k a b o)) (hG : xG D k s) : xPre s H (xPc D q k a b o av) av :=
  ⟨fun _ _ _ _ h => ⟨h.1, h.2.1, h.2.2.1, h.2.2.2.call⟩, fun U hU hW => ⟨rfl, by rw [hU]; exact hP, hD.weaken (fun _ _ _ _ => trivial), hG.warm hW⟩⟩
theorem xprem (hP : va_P D vwCl (xw q k a b o) H) (hD : va_D A (xw q k a b o)) (hG : xG D k s) : xPre s H (xPcm D q k H.size a b o av) av :=
  ⟨fun _ _ _ _ h => ⟨h.1, h.2.1, h.2.2.1, h.2.2.2.1, h.2.2.2.2.call⟩, fun U hU hW => ⟨rfl, by rw [hU], by rw [hU]; exact hP, hD.weaken (fun _ _ _ _ => trivial), hG.warm hW⟩⟩
theorem xpreT (hP : va_P D vwCl (xw q k a b o) s.heap) (hD : va_D A (xw q k a b o)) (hG : xG D k s) (hst : xSt s) : xPre s s.heap (xPcT D q k a b o av) av :=
  ⟨fun _ _ _ _ h => ⟨h.1, h.2.1, h.2.2.1, h.2.2.2.1.call, h.2.2.2.2.call⟩, fun U hU hW => ⟨rfl, by rw [hU]; exact hP, hD.weaken (fun _ _ _ _ => trivial), hG.warm hW, hst.moved hW.alike (fun z cell h _ => by rw [hU]; exact h)⟩⟩
theorem xfixm {y : MethodName} {n index maxL nL : Nat} {cc : ByteArray} {own : String} {rm : Room} (hy : (y.cls ≠ "java/lang/invoke/MethodHandle" ∧ y.cls ≠ "java/lang/invoke/VarHandle") ∧ ∀ sig, parseMethodDescriptor y.desc = some sig → n = sig.parameters.length)
    (hx : p.tables.exec = Jvm.exec) (hb : c.code = cc) (hml : c.maxLocals = nL) (hown : s.vm.findClass own = some m.cls) (h1 : rm.frames + 1 ≤ R.frames) (h2 : 8 + (maxL + 11) + rm.locals ≤ R.locals) (h3 : cells + rm.cells ≤ R.cells) (h4 : slots + rm.slots ≤ R.slots) :
    xFix p R s m c cc nL own y maxL rm index n cells slots := ⟨hx, hb, hml, hown, h1, h2, h3, h4, hy.1, hy.2⟩
/-- the end of a method that writes -/
abbrev xOm : Type := String ⊕ (Option Value × xT × xT)
def xQm (D : va_G) (q : Nat → Nat) (k : Nat → ClassId) (a b : xT) (o : Nat → Int64) (x : xOm) : Array Value → State → Outcome → State → Prop := fun _ st oc t => match x with
  | .inl E => ∃ u, oc = .threw u ∧ xThr E st u t
  | .inr (v, a1, b1) => oc = .returned v ∧ va_P D vwCl (xw q k a1 b1 o) t.heap ∧ va_F (va_A (xw q k a b o) st.heap.size) st t
def xmm (x : xOm) : Nat := match x with | .inl _ => 1 | .inr _ => 0
def xmn (x : xOm) : Nat := match x with | .inl _ => 6 | .inr _ => 0
def xfr (q : Nat → Nat) (k : Nat → ClassId) (a b : xT) (o : Nat → Int64) (sz : Nat) (x : xOm) : Addr → Prop := match x with
  | .inl _ => fun _ => False
  | .inr _ => va_A (xw q k a b o) sz
theorem xwD (h : va_D A (xw q k a b o)) : va_D A (xw q k a1 b1 o) := by
  have hm : (xw q k a1 b1 o).map (fun z => z.1) = (xw q k a b o).map (fun z => z.1) := rfl
  have key : ∀ (i : Nat) (z : Nat × va_E), (xw q k a1 b1 o)[i]? = some z → ∃ w, (xw q k a b o)[i]? = some (z.1, w) := by
    intro i z hz
    have h1 : ((xw q k a1 b1 o).map (fun z => z.1))[i]? = some z.1 := by rw [List.getElem?_map, hz]; rfl
    rw [hm, List.getElem?_map] at h1
    cases hw : (xw q k a b o)[i]? with
    | none => rw [hw] at h1; cases h1
    | some w =>
      rw [hw] at h1
      have h2 : w.1 = z.1 := Option.some.inj h1
      exact ⟨w.2, by rw [← h2]⟩
  refine ⟨fun i j u v hi hj huv => ?_, fun i u hi => ?_⟩
  · obtain ⟨wi, hwi⟩ := key i u hi
    obtain ⟨wj, hwj⟩ := key j v hj
    exact h.1 i j _ _ hwi hwj huv
  · obtain ⟨wi, hwi⟩ := key i u hi
    exact h.2 i (u.1, wi) hwi
variable {pc : Nat} {ls : Array Slot} {st0 rest : List Value} {ar : Array Value}
theorem xgo_m {v : Option Value} {H0 : Heap} (hr : xRun p l e R s m args below meth c H locs cells slots 0 0 (F0 m pc ls st0) rest (xQm D q k a b o (.inr (v, a1, b1)) ar) (va_A (xw q k a b o) H.size)) (hD : va_D A (xw q k a b o)) (hS : va_S A H0 H locs) (hA : ∀ u, H0.size ≤ u → A u)
    (kk : ∀ (H1 : Heap) (locs1 : List Loc), va_P D vwCl (xw q k a1 b1 o) H1 → va_D A (xw q k a1 b1 o) → va_S A H0 H1 locs1 → W p l e R s m args below meth c H1 locs1 cells slots Q (F0 m (pc + 3) ls (v.toList ++ rest))) : W p l e R s m args below meth c H locs cells slots Q (F0 m pc ls st0) := by
  intro T hT X
  obtain ⟨oc, st, t, T', L, h0, hal, X', hL, e1, e2, ⟨rfl, hP1, hz, hk⟩, go⟩ := hr T hT X
  rw [h0] at hz hk
  have hF : ∀ u, va_A (xw q k a b o) H.size u → A u := fun u h => by
    rcases h with ⟨i, w, h⟩ | h
    · exact hD.2 i _ h
    · exact hA u (Nat.le_trans hS.1 h)
  obtain ⟨t2, a2, b2⟩ := kk T'.heap (locs ++ L) (by rw [e1]; exact hP1) (xwD hD)
    ⟨Nat.le_trans hS.1 (by rw [e1]; exact hz), fun u h1 h2 => by rw [e1, hk u (Nat.lt_of_lt_of_le h1 hS.1) (fun h => h2 (hF u h))]; exact hS.2.1 u h1 h2, fun u hu => by
      rcases List.mem_append.mp hu with h | h
      · exact hS.2.2 u h
      · exact hF _ (hL u h)⟩ T' rfl X'
  exact ⟨t2, go t2 a2, b2⟩
theorem xretm_i {cc : ByteArray} {v : Int32} (hx : p.tables.exec = Jvm.exec) (hb : c.code = cc) (hr : meth.sig.returnType = some .int) (hlocks : meth.locks = false) (hP : va_P D vwCl (xw q k a1 b1 o) H) (hS : va_S (va_A (xw q k a b o) s.heap.size) s.heap H locs) (hdg : decode cc pc = .ok (.ireturn, 1)) :
    W p l e R s m args below meth c H locs 0 0 (xMQ below (xQm D q k a b o (.inr (some (.int v), a1, b1))) args s 0 0 (va_A (xw q k a b o) s.heap.size)) (F0 m pc ls [.int v]) :=
  xmono xmq (W.iret hx hb hr (fun t ht _ => ⟨rfl, by rw [ht]; exact hP, hS.F ht⟩) hS.2.2 hdg hlocks)
theorem xretm_z {cc : ByteArray} {v : Int32} (hx : p.tables.exec = Jvm.exec) (hb : c.code = cc) (hr : meth.sig.returnType = some .boolean) (hn : narrow .boolean (.int v) = .int v) (hlocks : meth.locks = false) (hP : va_P D vwCl (xw q k a1 b1 o) H) (hS : va_S (va_A (xw q k a b o) s.heap.size) s.heap H locs) (hdg : decode cc pc = .ok (.ireturn, 1)) :
    W p l e R s m args below meth c H locs 0 0 (xMQ below (xQm D q k a b o (.inr (some (.int v), a1, b1))) args s 0 0 (va_A (xw q k a b o) s.heap.size)) (F0 m pc ls [.int v]) :=
  xmono xmq (W.zret hx hb hr hn (fun t ht _ => ⟨rfl, by rw [ht]; exact hP, hS.F ht⟩) hS.2.2 hdg hlocks)
theorem xretm_v {cc : ByteArray} (hx : p.tables.exec = Jvm.exec) (hb : c.code = cc) (hr : meth.sig.returnType = none) (hlocks : meth.locks = false) (hP : va_P D vwCl (xw q k a1 b1 o) H) (hS : va_S (va_A (xw q k a b o) s.heap.size) s.heap H locs) (hdg : decode cc pc = .ok (.return_, 1)) :
    W p l e R s m args below meth c H locs 0 0 (xMQ below (xQm D q k a b o (.inr (none, a1, b1))) args s 0 0 (va_A (xw q k a b o) s.heap.size)) (F0 m pc ls []) :=
  xmono xmq (W.vret hx hb hr (fun t ht _ => ⟨rfl, by rw [ht]; exact hP, hS.F ht⟩) hS.2.2 hdg hlocks)
/-- past a table of four -/
theorem xswo {x : Int32} (h0 : ¬ x = 0) (h1 : ¬ x = 1) (h2 : ¬ x = 2) (h3 : ¬ x = 3) : x.toInt < 0 ∨ (3 : Int) < x.toInt := by
  have e0 : ¬ x.toInt = 0 := lv_neT h0 rfl
  have e1 : ¬ x.toInt = 1 := lv_neT h1 rfl
  have e2 : ¬ x.toInt = 2 := lv_neT h2 rfl
  have e3 : ¬ x.toInt = 3 := lv_neT h3 rfl
  omega
end XC

theorem okX4 : ∀ w ∈ u_ws RX4 TX4 4, xok w = true := by decide +kernel
theorem hwX4 {s : State} {args : Array Value} (hE : xE s) : ∀ w ∈ u_ws RX4 TX4 4, w.before args s = true := fun w h => hE w (inX4 w h) (okX4 w h) args
theorem okX3 : ∀ w ∈ u_ws RX3 TX3 3, xok w = true := by decide +kernel
theorem hwX3 {s : State} {args : Array Value} (hE : xE s) : ∀ w ∈ u_ws RX3 TX3 3, w.before args s = true := fun w h => hE w (inX3 w h) (okX3 w h) args
theorem okX1 : ∀ w ∈ u_ws RX1 TX1 8, xok w = true := by decide +kernel
theorem hwX1 {s : State} {args : Array Value} (hE : xE s) : ∀ w ∈ u_ws RX1 TX1 8, w.before args s = true := fun w h => hE w (inX1 w h) (okX1 w h) args
theorem okX2 : ∀ w ∈ u_ws RX2 TX2 5, xok w = true := by decide +kernel
theorem hwX2 {s : State} {args : Array Value} (hE : xE s) : ∀ w ∈ u_ws RX2 TX2 5, w.before args s = true := fun w h => hE w (inX2 w h) (okX2 w h) args
theorem okX0 : ∀ w ∈ u_ws RX0 TX0 5, xok w = true := by decide +kernel
theorem hwX0 {s : State} {args : Array Value} (hE : xE s) : ∀ w ∈ u_ws RX0 TX0 5, w.before args s = true := fun w h => hE w (inX0 w h) (okX0 w h) args
theorem okX5 : ∀ w ∈ u_ws RX5 TX5 19, xok w = true := by decide +kernel
theorem hwX5 {s : State} {args : Array Value} (hE : xE s) : ∀ w ∈ u_ws RX5 TX5 19, w.before args s = true := fun w h => hE w (inX5 w h) (okX5 w h) args
