/-! An exception that came out of a callee, caught by a row of this method's own table (the class of the row cold or warm). -/
section XK
variable {e : Env} {s s₀ : State} {f : JFrame} {a : Addr}
/-- where a table sends an exception of the class th that is thrown at pc -/
def xCat (pl : Platform) (s₀ : State) (d : ClassId) (pc : Nat) (th : ClassId) : List ExceptionTableEntry → Nat → Prop
  | [], _ => False
  | y :: ys, h => (covers y pc = false ∧ xCat pl s₀ d pc th ys h) ∨ (covers y pc = true ∧ y.catchType ≠ 0 ∧ ∃ c, s₀.vm.ClassLinks pl d y.catchType c ∧ ((s₀.vm.assignable th c = true ∧ h = y.handlerPc) ∨ (s₀.vm.assignable th c = false ∧ xCat pl s₀ d pc th ys h)))
theorem xgo_row {Q : Handler → Pre} {E : CtlPost} {d : Bool} {acts : List Action} {x : ExceptionTableEntry} {t : List ExceptionTableEntry} {c : ClassId} {cell : Cell} (hx : covers x f.pc = true) (h0 : x.catchType ≠ 0)
    (hl : s.vm.ClassLinks e.platform f.method.cls x.catchType c) (hcell : s.heap[a]? = some cell) (hobj : ∀ k, cell.vm ≠ .statics k) (hk : ∃ k, s.vm.classes[cell.cls]? = some k) (hc : ∃ k, s.vm.classes[c]? = some k) :
    wp (findHandler.go f a (x :: t)) Q E e d acts s ↔ if s.vm.assignable cell.cls c = true then Q (.found x.handlerPc) d acts (s.setVm (s.vm.noted f.method.cls x.catchType (.cls c))) else wp (findHandler.go f a t) Q E e d acts (s.setVm (s.vm.noted f.method.cls x.catchType (.cls c))) := by
  simp only [covers] at hx
  obtain ⟨ha, ht⟩ := (resolveClass_links e.toSetting hl).op (op := VmOp.resolveClass f.method.cls x.catchType) rfl
  have hal : s.vm.Alike (s.vm.noted f.method.cls x.catchType (.cls c)) := (Vm.Alike.refl s.vm).noted _ _ _
  obtain ⟨k1, hk1⟩ := hk
  obtain ⟨k2, hk2⟩ := hc
  obtain ⟨k1', hk1', -⟩ := hal.2.2 _ _ hk1
  obtain ⟨k2', hk2', -⟩ := hal.2.2 _ _ hk2
  cases hfit : s.vm.assignable cell.cls c with
  | true =>
    have hfit' : (s.vm.noted f.method.cls x.catchType (.cls c)).assignable cell.cls c = true := by rw [hal.assignable]; exact hfit
    simp [findHandler.go, hx, h0, ha, ht, hcell, hobj, hk1', hk2', hfit', VmOp.dirties, VmOp.acts]
  | false =>
    have hfit' : (s.vm.noted f.method.cls x.catchType (.cls c)).assignable cell.cls c = false := by rw [hal.assignable]; exact hfit
    simp [findHandler.go, hx, h0, ha, ht, hcell, hobj, hk1', hk2', hfit', VmOp.dirties, VmOp.acts]
theorem xsearch {cell : Cell} (hobj : ∀ k, cell.vm ≠ .statics k) (hk0 : ∃ k, s₀.vm.classes[cell.cls]? = some k) : ∀ (tb : List ExceptionTableEntry) (h : Nat) (S : State), s₀.WarmedH S.vm → S.heap[a]? = some cell → xCat e.platform s₀ f.method.cls f.pc cell.cls tb h →
    ∃ vm', s₀.WarmedH vm' ∧ ∀ (Q : Handler → Pre) (E : CtlPost) (d : Bool) (acts : List Action), wp (findHandler.go f a tb) Q E e d acts S ↔ Q (.found h) d acts (S.setVm vm') := by
  obtain ⟨k0, hk0⟩ := hk0
  intro tb
  induction tb with
  | nil => intro h S _ _ hc; exact hc.elim
  | cons y ys ih =>
    intro h S hW hcell hc
    obtain ⟨k0', hk0', -⟩ := hW.alike.2.2 _ _ hk0
    rcases hc with ⟨hsk, hc⟩ | ⟨hcov, h0, c, hl, hc⟩
    · obtain ⟨vm', hW', hq⟩ := ih h S hW hcell hc
      exact ⟨vm', hW', fun Q E d acts => (Jvm.W.findHandler_go_skip hsk).trans (hq Q E d acts)⟩
    · obtain ⟨dk, _, _, kt, hd, _, _, _, _, hkt, _, hopen⟩ := hl.here
      obtain ⟨kt', hkt', -⟩ := hW.alike.2.2 _ _ hkt
      have hW2 : s₀.WarmedH (S.vm.noted f.method.cls y.catchType (.cls c)) := hW.noted hd hopen (State.rightAt_cls hl)
      rcases hc with ⟨hfit, rfl⟩ | ⟨hno, hc⟩
      · refine ⟨_, hW2, fun Q E d acts => ?_⟩
        rw [xgo_row hcov h0 (hW.classLinks hl) hcell hobj ⟨k0', hk0'⟩ ⟨kt', hkt'⟩, if_pos (by rw [hW.alike.assignable]; exact hfit)]
      · obtain ⟨vm', hW', hq⟩ := ih h (S.setVm (S.vm.noted f.method.cls y.catchType (.cls c))) hW2 hcell hc
        refine ⟨vm', hW', fun Q E d acts => ?_⟩
        rw [xgo_row hcov h0 (hW.classLinks hl) hcell hobj ⟨k0', hk0'⟩ ⟨kt', hkt'⟩, if_neg (by rw [hW.alike.assignable, hno]; decide)]
        exact hq Q E d acts
theorem xinto {tb : Tables} {s target : State} {g : JFrame} {c : Code} {below : List Frame} (h : At s g.method c below) {pc : Nat} {vm' : Vm}
    (hfind : ∀ (Q : Handler → Pre) (E : CtlPost) (d : Bool) (acts : List Action), wp (findHandler g a) Q E e d acts ((s.setTop g).pushFrame (.throwing a)) ↔ Q (.found pc) d acts (((s.setTop g).pushFrame (.throwing a)).setVm vm'))
    (hrest : Steps tb e below ((s.setVm vm').setTop { g with pc := pc, stack := [.ref a] }) target) : Steps tb e below ((s.setTop g).pushFrame (.throwing a)) target := by
  obtain ⟨hgo, hw⟩ := h.throwing a
  refine Steps.head hgo hw ?_
  have hst : (stepThrowing e ((s.setTop g).pushFrame (.throwing a)) a (.java g :: s.frames.tail)).Is ((((s.setTop g).pushFrame (.throwing a)).setVm vm').setFrames (.java { g with pc := pc, stack := [.ref a] } :: s.frames.tail)) [] := by
    simp only [stepThrowing, searchFrame, vmDo]
    generalize hr : Sem.go _ e false [] ((s.setTop g).pushFrame (.throwing a)) = res
    obtain ⟨as, rfl, ha⟩ := Sem.eq_ok_of hr (a := Handler.found pc) (s' := ((s.setTop g).pushFrame (.throwing a)).setVm vm') (acts' := []) (by simp [hfind _ _ _ _])
    exact ⟨rfl, ha⟩
  rw [stepThread_throwing (frames_entered h.top _), hst.1]
  obtain ⟨g₀, hg⟩ := Option.isSome_iff_exists.mp h.top
  obtain ⟨r, hr⟩ := State.topJava?_eq_some.mp hg
  have hr' : (s.setVm vm').frames = .java g₀ :: r := hr
  rw [State.setTop_of_frames _ hr'] at hrest
  have e1 : ((((s.setTop g).pushFrame (.throwing a)).setVm vm').setFrames (.java { g with pc := pc, stack := [.ref a] } :: s.frames.tail)) = (s.setVm vm').setFrames (.java { g with pc := pc, stack := [.ref a] } :: r) := by
    rw [hr, List.tail_cons, State.setTop_of_frames _ hr, State.pushFrame]
    have e2 : ∀ (u : State) (F F2 : List Frame), ((u.setFrames F).setVm vm').setFrames F2 = (u.setVm vm').setFrames F2 := fun u F F2 => by
      rw [show (u.setFrames F).setVm vm' = (u.setVm vm').setFrames F from rfl, State.setFrames_setFrames]
    rw [State.setFrames_setFrames, e2]
  rw [e1]
  exact hrest
end XK
section XK2
variable {p : Program} {l : Launch} {e : Env} {R : Room} {s : State} {m : MethodId} {args : Array Value} {below : List Frame} {meth : Method} {c : Code} {H : Heap} {locs : List Loc} {cells slots : Nat} {Q : State → Prop} {pc hpc : Nat} {ls : Array Slot} {rest : List Value}
theorem xcatch {q : Addr} {E : String} {ce : Cell} (hcell : H[q]? = some ce) (hv : ce.vm = .none) (hcl : s.vm.findClass E = some ce.cls) (hcat : ∀ pl : Platform, pl.magicAccessors = ({} : Platform).magicAccessors → xCat pl s m.cls pc ce.cls c.exceptionTable.toList hpc)
    (kk : W p l e R s m args below meth c H locs cells slots Q (F0 m hpc ls [.ref q])) : xW p l e R s m args below meth c H locs cells slots Q (F0 m pc ls rest) q := by
  intro T hT X
  have hpl : e.platform.magicAccessors = ({} : Platform).magicAccessors := by rw [X.admits.platform]
  obtain ⟨kE, hkE, -⟩ := Vm.findClass_spec hcl
  obtain ⟨vm', hW', hq⟩ := xsearch (e := e) (s₀ := s) (f := F0 m pc ls rest) (a := q) (cell := ce) (fun k h => by rw [hv] at h; cases h) ⟨kE, hkE⟩ c.exceptionTable.toList hpc ((T.setTop (F0 m pc ls rest)).pushFrame (.throwing q)) X.warmed (by show T.heap[q]? = some ce; rw [hT]; exact hcell) (hcat e.platform hpl)
  obtain ⟨t, a1, b1⟩ := kk (T.setVm vm') hT (X.noted hW')
  refine ⟨t, ?_, b1⟩
  refine xinto (g := F0 m pc ls rest) (c := c) X.here (vm' := vm') (pc := hpc) ?_ a1
  intro Q E d acts
  rw [Jvm.W.findHandler_eq (meth := meth) (code := c) (show T.vm.method? m = some meth from X.method') X.code]
  exact hq Q E d acts
/-- the same by the rows' four numbers -/
def xCatQ (pl : Platform) (s₀ : State) (d : ClassId) (pc : Nat) (th : ClassId) : List (Nat × Nat × Nat × Nat) → Nat → Prop
  | [], _ => False
  | y :: ys, h => ((decide (y.1 ≤ pc) && decide (pc < y.2.1)) = false ∧ xCatQ pl s₀ d pc th ys h) ∨ ((decide (y.1 ≤ pc) && decide (pc < y.2.1)) = true ∧ y.2.2.2 ≠ 0 ∧ ∃ c, s₀.vm.ClassLinks pl d y.2.2.2 c ∧ ((s₀.vm.assignable th c = true ∧ h = y.2.2.1) ∨ (s₀.vm.assignable th c = false ∧ xCatQ pl s₀ d pc th ys h)))
theorem xCatQ.cat {pl : Platform} {s₀ : State} {d : ClassId} {pc : Nat} {th : ClassId} : ∀ (tb : List ExceptionTableEntry) (h : Nat), xCatQ pl s₀ d pc th (tb.map (fun h => (h.startPc, h.endPc, h.handlerPc, h.catchType))) h → xCat pl s₀ d pc th tb h := by
  intro tb
  induction tb with
  | nil => intro h hc; exact hc
  | cons y ys ih =>
    intro h hc
    rcases hc with ⟨h1, hc⟩ | ⟨h1, h2, c, h3, hc⟩
    · exact Or.inl ⟨h1, ih h hc⟩
    · rcases hc with hc | ⟨h4, hc⟩
      · exact Or.inr ⟨h1, h2, c, h3, Or.inl hc⟩
      · exact Or.inr ⟨h1, h2, c, h3, Or.inr ⟨h4, ih h hc⟩⟩
/-- a row that takes E -/
theorem xrowY {pl : Platform} (hpl : pl.magicAccessors = ({} : Platform).magicAccessors) {own E : String} {ce : Cell} {ix h st en : Nat} {ys : List (Nat × Nat × Nat × Nat)} (hown : s.vm.findClass own = some m.cls) (hE : xE s) (wk : Cond.classLink own ix E ∈ lw_tbl) (wc : Cond.castable E E ∈ lw_tbl) (hcl : s.vm.findClass E = some ce.cls) (h0 : ix ≠ 0) (hin : (decide (st ≤ pc) && decide (pc < en)) = true) :
    xCatQ pl s m.cls pc ce.cls ((st, en, h, ix) :: ys) h := by
  obtain ⟨c5, hc5, hl⟩ := Cond.classLink_spec hown (hE _ wk rfl #[]) pl hpl
  obtain ⟨c3, c4, hc3, hc4, hasg⟩ := Cond.castable_spec (hE _ wc rfl #[])
  cases Option.some.inj (hc3.symm.trans hc4)
  cases Option.some.inj (hc3.symm.trans hcl)
  cases Option.some.inj (hc5.symm.trans hcl)
  exact Or.inr ⟨hin, h0, _, hl, Or.inl ⟨hasg, rfl⟩⟩
/-- a row that passes E on -/
theorem xrowN {pl : Platform} (hpl : pl.magicAccessors = ({} : Platform).magicAccessors) {own E F : String} {ce : Cell} {ix h hh st en : Nat} {ys : List (Nat × Nat × Nat × Nat)} (hown : s.vm.findClass own = some m.cls) (hE : xE s) (wk : Cond.classLink own ix F ∈ lw_tbl) (hn : va_Nc E F s) (hcl : s.vm.findClass E = some ce.cls) (h0 : ix ≠ 0) (hin : (decide (st ≤ pc) && decide (pc < en)) = true)
    (hr : xCatQ pl s m.cls pc ce.cls ys h) : xCatQ pl s m.cls pc ce.cls ((st, en, hh, ix) :: ys) h := by
  obtain ⟨c5, hc5, hl⟩ := Cond.classLink_spec hown (hE _ wk rfl #[]) pl hpl
  obtain ⟨c3, c4, hc3, hc4, hno⟩ := hn
  cases Option.some.inj (hc3.symm.trans hcl)
  cases Option.some.inj (hc5.symm.trans hc4)
  exact Or.inr ⟨hin, h0, _, hl, Or.inr ⟨hno, hr⟩⟩
end XK2
section XK3
variable {l : Launch}
theorem xMet.ofWW {y : MethodName} {rm : Room} {Pc : Array Value → State → Prop} {Qc : Array Value → State → Outcome → State → Prop} {mc ms : Nat} {free : Addr → Prop} {cc : ByteArray} {maxL : Nat} {ret : Option FieldType} {hh : List (Nat × Nat × Nat × Nat)}
    (hy : plainName y.cls = true)
    (body : ∀ p e s m args below meth c, p.tables.exec = Jvm.exec → c.code = cc → c.maxLocals = maxL → meth.sig.returnType = ret → meth.locks = false → s.methodNamed? y = some m → c.exceptionTable.toList.map (fun h => (h.startPc, h.endPc, h.handlerPc, h.catchType)) = hh → Pc args s →
      W p l e rm s m args below meth c s.heap [] 0 0 (xMQ below Qc args s mc ms free) (entryFrame m args maxL)) : xMet l y (.codeWith y cc maxL ret hh) rm Pc Qc mc ms free := by
  refine MetFree.of_bodyS (code := cc) (maxLocals := maxL) (ret := ret) hy ?_ ?_
  · intro args s m h hn
    obtain ⟨m9, meth, c, hn9, h1, h2, h3, h4, -, h5, h6, -⟩ := Cond.codeWith_spec (atoms_spec (ws := [Cond.codeWith y cc maxL ret hh]) h _ List.mem_cons_self)
    cases hn.symm.trans hn9
    exact ⟨meth, c, h1, h2, h3, h4, h5, h6⟩
  · intro p e s m args below meth c s₁ B hml hP _
    have hh0 : s₁.heap = s.heap := by rw [B.state]; rfl
    obtain ⟨m9, meth9, c9, hn9, h1, h2, -, -, htb, -, -, -⟩ := Cond.codeWith_spec (atoms_spec (ws := [Cond.codeWith y cc maxL ret hh]) B.pre _ List.mem_cons_self)
    cases B.named.symm.trans hn9
    cases B.method.symm.trans h1
    cases (Stand.of_body B).code.symm.trans h2
    obtain ⟨t, a1, o, b1, b2, b3⟩ := body p e s m args below meth c B.exec B.bytes hml B.returns B.notSynchronized B.named htb hP s₁ hh0 (Stand.of_body B)
    exact ⟨t, o, a1, b1, b2, b3⟩
end XK3
section XK4
variable {p : Program} {l : Launch} {e : Env} {R : Room} {s : State} {m : MethodId} {args : Array Value} {below : List Frame} {meth : Method} {c : Code} {H : Heap} {locs : List Loc} {cells slots : Nat} {Q : State → Prop}
variable {y : MethodName} {cc bytes : ByteArray} {maxL nL mc ms n index : Nat} {ret : Option FieldType} {rm : Room} {Pc : Array Value → State → Prop} {Qc : Array Value → State → Outcome → State → Prop} {free : Addr → Prop} {own : String} {As rest : List Value} {g : JFrame} {hh : List (Nat × Nat × Nat × Nat)}
theorem xrunSW (F : xFix p R s m c cc nL own y maxL rm index n cells slots) (hE : xE s) (wl : Cond.methodLink own index y ∈ lw_tbl) (wi : Cond.static y ∈ lw_tbl) (wc : Cond.codeWith y bytes maxL ret hh ∈ lw_tbl) (wn : Cond.initialized y.cls ∈ lw_tbl)
    (hM : xMet l y (.codeWith y bytes maxL ret hh) rm Pc Qc mc ms free) (hp : xPre s H Pc As)
    (hg : g.method = m) (hn : As.length = n) (hsize : g.locals.size = nL) (hstack : g.stack = As.reverse ++ rest) (hW : 2 * g.monitorRoom + (rest.map fun v => v.category).sum ≤ 8) (hdg : decode cc g.pc = .ok (.invokestatic index, 3)) :
    xRun p l e R s m args below meth c H locs cells slots mc ms g rest (Qc As.toArray) free := by
  obtain ⟨hx, hb, hml, ho, hfr, hlo, hce, hsl, hy, hlen⟩ := F
  intro T hT X
  obtain ⟨mk, methM, cM, hnamed, hmethM, hcM, -, hlM, -, -, -, hsigM⟩ := Cond.codeWith_spec (hE _ wc rfl args)
  have hstatic : methM.isStatic = true := Cond.static_spec hnamed hmethM (hE _ wi rfl args)
  obtain ⟨kP, hkP, -⟩ := className_of_methodNamed hnamed
  have hinitP : kP.init = .initialized := Cond.initialized_spec (findClass_of_methodNamed hnamed) hkP (hE _ wn rfl args)
  have hdg' : decode c.code g.pc = .ok (.invokestatic index, 3) := by rw [hb]; exact hdg
  obtain ⟨vm₁, X₁, hstep₁⟩ := X.invokestatic hx ho (hE _ wl rfl args) hnamed hmethM hstatic hkP hinitP hy (g := g) hg (argsL := As) (rest := rest) (hn.trans (hlen _ hsigM)) hstack hdg'
  have hE₁ : xE (T.setVm vm₁) := hE.warm X₁.warmed
  obtain ⟨o, t, T', L, X', hL, e1, e2, hq, st⟩ := xcore X₁ hM hp.1 hfr hlo hce hsl (g := { g with stack := rest }) hg (hsize.trans hml.symm) hdg' hW (X₁.named hnamed)
    ⟨methM, cM, by rw [X₁.warmed.alike.method?]; exact hmethM, hcM, hlM⟩ (hE₁ _ wc rfl _) (hE₁ _ wn rfl _) (hp.2 (T.setVm vm₁) hT X₁.warmed)
  refine ⟨o, _, t, T', L, ?_, ?_, X', hL, e1, e2, hq, ?_⟩
  · exact hT
  · exact X₁.warmed.alike
  · cases o with
    | returned v => exact fun tg h => hstep₁ _ fun acts => by rw [doInvoke_state]; exact Steps.trans st h
    | threw x => exact hstep₁ _ fun acts => by rw [doInvoke_state]; exact st
end XK4
