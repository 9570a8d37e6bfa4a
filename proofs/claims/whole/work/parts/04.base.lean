/-! My own layer over the kit: contracts of methods that may return or throw; the tables' words carried along by one fact; calls, throws. -/
section XB
variable {p : Program} {l : Launch} {e : Env} {R : Room} {s : State} {m : MethodId} {args : Array Value} {below : List Frame} {meth : Method} {c : Code} {H : Heap} {locs : List Loc} {cells slots : Nat} {Q : State → Prop}
/-- words of the tables that stay true as the tables warm -/
def xok : Cond → Bool
  | .arrayClass _ => true
  | w => w.onTables && w.keepsFace
/-- all such words of the claim's tables hold at U, whatever the arguments -/
def xE (U : State) : Prop := ∀ w ∈ lw_tbl, xok w = true → ∀ a : Array Value, w.before a U = true
theorem xok_at {w : Cond} {a a' : Array Value} {s U : State} (hW : s.WarmedH U.vm) (hk : xok w = true) (h : w.before a s = true) : w.before a' U = true := by
  by_cases hc : ∃ ty, w = .arrayClass ty
  · obtain ⟨ty, rfl⟩ := hc
    have h1 : (Cond.arrayClass ty).before a (s.setVm U.vm) = true := Cond.before_shiftedFace (State.Shifted.of_warmed hW) _ rfl h
    exact h1
  · have hk2 : (w.onTables && w.keepsFace) = true := by
      cases w <;> first | exact hk | exact absurd ⟨_, rfl⟩ hc
    simp only [Bool.and_eq_true] at hk2
    have h1 : w.before a (s.setVm U.vm) = true := Cond.before_shiftedFace (State.Shifted.of_warmed hW) _ hk2.2 h
    rw [Cond.onTables_vm (A' := a') (U' := U) U.vm w hk2.1, State.setVm_self] at h1
    exact h1
theorem xE.warm {s U : State} (h : xE s) (hW : s.WarmedH U.vm) : xE U := fun w hw hk a => xok_at (a := a) hW hk (h w hw hk a)
theorem xE.same {s U : State} (h : xE s) (hv : U.vm = s.vm) : xE U := h.warm (by rw [hv]; exact State.WarmedH.refl s)
theorem xE.of {s : State} {a : Array Value} (hts : ∀ w ∈ lw_tbl, w.before a s = true) : xE s := fun w hw hk a' => xok_at (a := a) (State.WarmedH.refl s) hk (hts w hw)
/-- what a method wrote and made -/
def xFr (st t : State) (mc ms : Nat) (free : Addr → Prop) : Prop := st.WarmedH t.vm ∧ ∃ L, st.sameButNew ({ t with vm := st.vm } : State) L mc ms ∧ ∀ q ∈ L, free q.base
/-- a contract: the method ends, by an answer or an exception, as Qc says -/
def xMet (l : Launch) (y : MethodName) (cw : Cond) (rm : Room) (Pc : Array Value → State → Prop) (Qc : Array Value → State → Outcome → State → Prop) (mc ms : Nat) (free : Addr → Prop) : Prop :=
  MetFree l y (headSpec [cw] rm) Pc (fun _ _ _ _ _ => True) (fun a st o t => Qc a st o t ∧ xFr st t mc ms free)
/-- what a body owes at its end -/
def xMQ (below : List Frame) (Qc : Array Value → State → Outcome → State → Prop) (a : Array Value) (s : State) (mc ms : Nat) (free : Addr → Prop) : State → Prop := fun t =>
  ∃ o, t.status = .running ∧ Ended t below o ∧ Qc a s o t ∧ xFr s t mc ms free
theorem xMet.ofW {y : MethodName} {rm : Room} {Pc : Array Value → State → Prop} {Qc : Array Value → State → Outcome → State → Prop} {mc ms : Nat} {free : Addr → Prop} {cc : ByteArray} {maxL : Nat} {ret : Option FieldType}
    (hy : plainName y.cls = true)
    (body : ∀ p e s m args below meth c, p.tables.exec = Jvm.exec → c.code = cc → c.maxLocals = maxL → meth.sig.returnType = ret → meth.locks = false → s.methodNamed? y = some m → s.vm.method? m = some meth → (∀ x ∈ c.exceptionTable.toList, False) → Pc args s →
      W p l e rm s m args below meth c s.heap [] 0 0 (xMQ below Qc args s mc ms free) (entryFrame m args maxL)) : xMet l y (.code y cc maxL ret) rm Pc Qc mc ms free := by
  refine MetFree.of_bodyS (code := cc) (maxLocals := maxL) (ret := ret) hy ?_ ?_
  · intro args s m h hn
    obtain ⟨meth, c, h1, h2, h3, h4, h5, h6, -, -⟩ := Cond.code_spec hn (atoms_spec (ws := [Cond.code y cc maxL ret]) h _ List.mem_cons_self)
    exact ⟨meth, c, h1, h2, h3, h4, h5, h6⟩
  · intro p e s m args below meth c s₁ B hml hP _
    have hh0 : s₁.heap = s.heap := by rw [B.state]; rfl
    have hno := B.noHandlers (atoms_spec (ws := [Cond.code y cc maxL ret]) B.pre _ List.mem_cons_self)
    obtain ⟨t, a1, o, b1, b2, b3⟩ := body p e s m args below meth c B.exec B.bytes hml B.returns B.notSynchronized B.named B.method (fun x hx => by
      have h0 : c.exceptionTable.toList = [] := by simpa using hno
      rw [h0] at hx; cases hx) hP s₁ hh0 (Stand.of_body B)
    exact ⟨t, o, a1, b1, b2, b3⟩
/-- the call itself -/
theorem xcore {T : State} (X : Stand p l e R s m args below meth c T locs cells slots) {y : MethodName} {cw : Cond} {maxL : Nat} {rm : Room} {Pc : Array Value → State → Prop} {Qc : Array Value → State → Outcome → State → Prop} {mc ms : Nat} {free : Addr → Prop}
    (hM : xMet l y cw rm Pc Qc mc ms free) (hbl : FrameBlind Pc) (hfr : rm.frames + 1 ≤ R.frames) (hlo : 8 + (maxL + 11) + rm.locals ≤ R.locals) (hc : cells + rm.cells ≤ R.cells) (hs : slots + rm.slots ≤ R.slots)
    {g : JFrame} (hg : g.method = m) (hsize : g.locals.size = c.maxLocals) {ig : Instr} {len : Nat} (hdg : decode c.code g.pc = .ok (ig, len)) (hW : 2 * g.monitorRoom + (g.stack.map fun v => v.category).sum ≤ 8)
    {mk : MethodId} {a : Array Value} (hn : T.methodNamed? y = some mk) (hcs : ∃ (methY : Method) (cY : Code), T.vm.method? mk = some methY ∧ methY.code = some cY ∧ cY.maxLocals = maxL) (hcw : cw.before a T = true) (hini : (Cond.initialized y.cls).before a T = true) (hPc : Pc a T) :
    ∃ (o : Outcome) (t T' : State) (L : List Loc), Stand p l e R s m args below meth c T' (locs ++ L) (cells + mc) (slots + ms) ∧ (∀ q ∈ L, free q.base) ∧ T'.heap = t.heap ∧ T'.vm = t.vm ∧ Qc a (T.calling g mk a) o t ∧
      match o with
      | .returned v => Steps p.tables e below (doInvoke e (T.setTop g) [] mk a).1 (T'.setTop { g with pc := g.pc + len, stack := v.toList ++ g.stack })
      | .threw x => Steps p.tables e below (doInvoke e (T.setTop g) [] mk a).1 ((T'.setTop g).pushFrame (.throwing x)) := by
  obtain ⟨methY, cY, hmY, hcY, hlY⟩ := hcs
  obtain ⟨kY, hkY, -⟩ := className_of_methodNamed hn
  have hinitY : kY.init = .initialized := Cond.initialized_spec (findClass_of_methodNamed hn) hkY hini
  have h : At T g.method c below := by rw [hg]; exact X.here
  have hpre : (headSpec [cw] rm).pre.before a T = true := atoms_intro (fun w hw => by rw [List.mem_singleton.mp hw]; exact hcw)
  have hlo9 : 8 + (maxL + 11) + (headSpec [cw] rm).room.locals ≤ R.locals := hlo
  have happ : (headSpec [cw] rm).appliesLoose y e.platform (T.calling g mk a) = true :=
    Spec.appliesLoose_calling (g := g) h hdg hn hkY hinitY
      (X.room_calling (g := g) (R' := (headSpec [cw] rm).room) hsize hmY hcY hfr (by rw [hlY]; omega) hc hs) hpre
  obtain ⟨mid, hmid⟩ := h.above
  have hfr9 : (T.setTop g).frames = (.java g :: mid) ++ below := by rw [State.frames_setTop' g h.top, hmid]; rfl
  obtain ⟨o, t, hsteps, -, hend, hq⟩ := Steps.callFree hM p X.admits X.cas X.clock (acts := []) hfr9 happ (hbl _ _ _ _ hPc) trivial
  rw [State.frames_setTop' g h.top, X.tail] at hend
  obtain ⟨hQ, hWm, L, hsm, hL⟩ := hq
  cases o with
  | returned v =>
    obtain ⟨T', X', -, -, ht⟩ := X.outOf hg hdg (mk := mk) (a := a) (v := v) hend hWm hsm
    exact ⟨.returned v, t, T', L, X', hL, (congrArg State.heap ht).symm, (congrArg State.vm ht).symm, hQ, by have h9 := hsteps; rw [ht] at h9; exact h9⟩
  | threw x =>
    obtain ⟨T', X', -, -, ht⟩ := X.outOfThrown hg (mk := mk) (a := a) (x := x) hend hWm hsm
    exact ⟨.threw x, t, T', L, X', hL, (congrArg State.heap ht).symm, (congrArg State.vm ht).symm, hQ, by have h9 := hsteps; rw [ht] at h9; exact h9⟩
/-- a call, whatever its kind -/
def xRun (p : Program) (l : Launch) (e : Env) (R : Room) (s : State) (m : MethodId) (args : Array Value) (below : List Frame) (meth : Method) (c : Code) (H : Heap) (locs : List Loc) (cells slots mc ms : Nat) (g : JFrame) (rest : List Value) (Qa : State → Outcome → State → Prop) (free : Addr → Prop) : Prop :=
  ∀ T : State, T.heap = H → Stand p l e R s m args below meth c T locs cells slots → ∃ (o : Outcome) (st t T' : State) (L : List Loc), st.heap = H ∧ s.vm.Alike st.vm ∧ Stand p l e R s m args below meth c T' (locs ++ L) (cells + mc) (slots + ms) ∧ (∀ q ∈ L, free q.base) ∧ T'.heap = t.heap ∧ T'.vm = t.vm ∧ Qa st o t ∧
    match o with
    | .returned v => ∀ tg, Steps p.tables e below (T'.setTop { g with pc := g.pc + 3, stack := v.toList ++ rest }) tg → Steps p.tables e below (T.setTop g) tg
    | .threw x => Steps p.tables e below (T.setTop g) ((T'.setTop { g with stack := rest }).pushFrame (.throwing x))
/-- what the callee asks of the caller's state -/
def xPre (s : State) (H : Heap) (Pc : Array Value → State → Prop) (As : List Value) : Prop := FrameBlind Pc ∧ ∀ U : State, U.heap = H → s.WarmedH U.vm → Pc As.toArray U
variable {y : MethodName} {cc bytes : ByteArray} {maxL nL mc ms n index : Nat} {ret : Option FieldType} {rm : Room} {Pc : Array Value → State → Prop} {Qc : Array Value → State → Outcome → State → Prop} {free : Addr → Prop} {own C : String} {b : Addr} {As rest : List Value} {g : JFrame}
/-- the parts of a call that don't change: the machine, the caller, the callee's code, the room -/
def xFix (p : Program) (R : Room) (s : State) (m : MethodId) (c : Code) (cc : ByteArray) (nL : Nat) (own : String) (y : MethodName) (maxL : Nat) (rm : Room) (index n cells slots : Nat) : Prop :=
  p.tables.exec = Jvm.exec ∧ c.code = cc ∧ c.maxLocals = nL ∧ s.vm.findClass own = some m.cls ∧ rm.frames + 1 ≤ R.frames ∧ 8 + (maxL + 11) + rm.locals ≤ R.locals ∧ cells + rm.cells ≤ R.cells ∧ slots + rm.slots ≤ R.slots ∧
  (y.cls ≠ "java/lang/invoke/MethodHandle" ∧ y.cls ≠ "java/lang/invoke/VarHandle") ∧ (∀ sig, parseMethodDescriptor y.desc = some sig → n = sig.parameters.length)
theorem xrunV (F : xFix p R s m c cc nL own y maxL rm index n cells slots) (hE : xE s) (wl : Cond.methodLink own index y ∈ lw_tbl) (wi : Cond.instanceMethod y ∈ lw_tbl) (wse : Cond.selects C y y ∈ lw_tbl) (wc : Cond.code y bytes maxL ret ∈ lw_tbl) (wn : Cond.initialized y.cls ∈ lw_tbl)
    (hM : xMet l y (.code y bytes maxL ret) rm Pc Qc mc ms free) (hr : ∃ cellB : Cell, H[b]? = some cellB ∧ cellB.vm.isStatics = false ∧ s.vm.findClass C = some cellB.cls) (hp : xPre s H Pc (.ref b :: As))
    (hg : g.method = m) (hn : As.length = n) (hsize : g.locals.size = nL) (hstack : g.stack = As.reverse ++ .ref b :: rest) (hW : 2 * g.monitorRoom + (rest.map fun v => v.category).sum ≤ 8) (hdg : decode cc g.pc = .ok (.invokevirtual index, 3)) :
    xRun p l e R s m args below meth c H locs cells slots mc ms g rest (Qc (Value.ref b :: As).toArray) free := by
  obtain ⟨hx, hb, hml, ho, hfr, hlo, hce, hsl, hy, hlen⟩ := F
  intro T hT X
  obtain ⟨mk, methM, hnamed, hmethM, hstM, habM⟩ := Cond.instanceMethod_spec (hE _ wi rfl args)
  obtain ⟨methM', cM, hmethM', hcM, -, hlM, -, -, -, hsigM⟩ := Cond.code_spec hnamed (hE _ wc rfl args)
  cases hmethM.symm.trans hmethM'
  obtain ⟨cellB, hcB, hoB, hclB⟩ := hr
  obtain ⟨c2, r2, m2, q1, q2, q3, q4, kP, hkP, hkPi⟩ := Cond.selects_spec (hE _ wse rfl args)
  cases hclB.symm.trans q1
  cases (State.methodFound?_of_named hnamed hy).symm.trans q2
  cases hnamed.symm.trans q3
  have hselP : selectMethod e.platform s.vm cellB.cls mk = .method mk := by rw [Launch.admits_selectMethod X.admits]; exact q4
  have hdg' : decode c.code g.pc = .ok (.invokevirtual index, 3) := by rw [hb]; exact hdg
  obtain ⟨vm₁, X₁, hstep₁⟩ := X.invokevirtual hx ho (hE _ wl rfl args) hnamed hmethM hstM hkP hkPi hy (a := b) (cell := cellB) (by rw [hT]; exact hcB)
    (fun z h => by rw [h] at hoB; cases hoB) hselP hmethM habM hkP hkPi (g := g) hg (argsL := As) (rest := rest) (hn.trans (hlen _ hsigM)) hstack hdg'
  have hE₁ : xE (T.setVm vm₁) := hE.warm X₁.warmed
  obtain ⟨o, t, T', L, X', hL, e1, e2, hq, st⟩ := xcore X₁ hM hp.1 hfr hlo hce hsl (g := { g with stack := rest }) hg (hsize.trans hml.symm) hdg' hW (X₁.named hnamed)
    ⟨methM, cM, by rw [X₁.warmed.alike.method?]; exact hmethM, hcM, hlM⟩ (hE₁ _ wc rfl _) (hE₁ _ wn rfl _) (hp.2 (T.setVm vm₁) hT X₁.warmed)
  refine ⟨o, _, t, T', L, ?_, ?_, X', hL, e1, e2, hq, ?_⟩
  · exact hT
  · exact X₁.warmed.alike
  · cases o with
    | returned v => exact fun tg h => hstep₁ _ fun acts => by rw [doInvoke_state]; exact Steps.trans st h
    | threw x => exact hstep₁ _ fun acts => by rw [doInvoke_state]; exact st
theorem xrunS (F : xFix p R s m c cc nL own y maxL rm index n cells slots) (hE : xE s) (wl : Cond.methodLink own index y ∈ lw_tbl) (wi : Cond.static y ∈ lw_tbl) (wc : Cond.code y bytes maxL ret ∈ lw_tbl) (wn : Cond.initialized y.cls ∈ lw_tbl)
    (hM : xMet l y (.code y bytes maxL ret) rm Pc Qc mc ms free) (hp : xPre s H Pc As)
    (hg : g.method = m) (hn : As.length = n) (hsize : g.locals.size = nL) (hstack : g.stack = As.reverse ++ rest) (hW : 2 * g.monitorRoom + (rest.map fun v => v.category).sum ≤ 8) (hdg : decode cc g.pc = .ok (.invokestatic index, 3)) :
    xRun p l e R s m args below meth c H locs cells slots mc ms g rest (Qc As.toArray) free := by
  obtain ⟨hx, hb, hml, ho, hfr, hlo, hce, hsl, hy, hlen⟩ := F
  intro T hT X
  obtain ⟨mk, hnamed⟩ := Cond.code_named (hE _ wc rfl args)
  obtain ⟨methM, cM, hmethM, hcM, -, hlM, -, -, -, hsigM⟩ := Cond.code_spec hnamed (hE _ wc rfl args)
  have hstatic : methM.isStatic = true := Cond.static_spec hnamed hmethM (hE _ wi rfl args)
  obtain ⟨kP, hkP, -⟩ := className_of_methodNamed hnamed
  have hinitP : kP.init = .initialized := Cond.initialized_spec (findClass_of_methodNamed hnamed) hkP (hE _ wn rfl args)
  have hdg' : decode c.code g.pc = .ok (.invokestatic index, 3) := by rw [hb]; exact hdg
  obtain ⟨vm₁, X₁, hstep₁⟩ := X.invokestatic hx ho (hE _ wl rfl args) hnamed hmethM hstatic hkP hinitP hy (g := g) hg (argsL := As) (rest := rest) (hn.trans (hlen _ hsigM)) hstack hdg'
  have hE₁ : xE (T.setVm vm₁) := hE.warm X₁.warmed
  obtain ⟨o, t, T', L, X', hL, e1, e2, hq, st⟩ := xcore X₁ hM hp.1 hfr hlo hce hsl (g := { g with stack := rest }) hg (hsize.trans hml.symm) hdg' hW (X₁.named hnamed)
    ⟨methM, cM, by rw [X₁.warmed.alike.method?]; exact hmethM, hcM, hlM⟩ (hE₁ _ wc rfl _) (hE₁ _ wn rfl _) (hp.2 (T.setVm vm₁) hT X₁.warmed)
  refine ⟨o, _, t, T', L, ?_, ?_, X', hL, e1, e2, hq, ?_⟩
  · exact hT
  · exact X₁.warmed.alike
  · cases o with
    | returned v => exact fun tg h => hstep₁ _ fun acts => by rw [doInvoke_state]; exact Steps.trans st h
    | threw x => exact hstep₁ _ fun acts => by rw [doInvoke_state]; exact st
/-- q has been thrown over the frame g -/
def xW (p : Program) (l : Launch) (e : Env) (R : Room) (s : State) (m : MethodId) (args : Array Value) (below : List Frame) (meth : Method) (c : Code) (H : Heap) (locs : List Loc) (cells slots : Nat) (Q : State → Prop) (g : JFrame) (q : Addr) : Prop :=
  ∀ T : State, T.heap = H → Stand p l e R s m args below meth c T locs cells slots → ∃ t, Steps p.tables e below ((T.setTop g).pushFrame (.throwing q)) t ∧ Q t
/-- an exception of the class E came out, and nothing that was there has changed -/
def xThr (E : String) (st : State) (q : Addr) (t : State) : Prop := ∃ ce : Cell, t.heap[q]? = some ce ∧ ce.vm = .none ∧ st.vm.findClass E = some ce.cls ∧ st.heap.size ≤ t.heap.size ∧ ∀ a : Nat, a < st.heap.size → t.heap[a]? = st.heap[a]?
/-- the end of a method that only reads: an answer, or an exception -/
abbrev xO : Type := String ⊕ Option Value
def xQr (x : xO) : Array Value → State → Outcome → State → Prop := fun _ st o t => match x with
  | .inl E => ∃ q, o = .threw q ∧ xThr E st q t
  | .inr v => o = .returned v ∧ t.heap = st.heap
def xmc (x : xO) : Nat := match x with | .inl _ => 1 | .inr _ => 0
def xms (x : xO) : Nat := match x with | .inl _ => 6 | .inr _ => 0
variable {pc : Nat} {ls : Array Slot} {st0 : List Value} {a : Array Value}
theorem xgo_r {v : Option Value} (hr : xRun p l e R s m args below meth c H locs cells slots (xmc (.inr v)) (xms (.inr v)) (F0 m pc ls st0) rest (xQr (.inr v) a) (fun _ => False)) (kk : W p l e R s m args below meth c H locs cells slots Q (F0 m (pc + 3) ls (v.toList ++ rest))) : W p l e R s m args below meth c H locs cells slots Q (F0 m pc ls st0) := by
  intro T hT X
  obtain ⟨o, st, t, T', L, h0, -, X', hL, e1, -, ⟨rfl, hh⟩, go⟩ := hr T hT X
  obtain ⟨t2, a1, b1⟩ := kk T' (by rw [e1, hh, h0]) (Stand.forget X' (fun q h => (hL q h).elim))
  exact ⟨t2, go t2 a1, b1⟩
theorem xgo_t {E : String} (hr : xRun p l e R s m args below meth c H locs cells slots (xmc (.inl E)) (xms (.inl E)) (F0 m pc ls st0) rest (xQr (.inl E) a) (fun _ => False))
    (kk : ∀ (q : Addr) (H1 : Heap) (ce : Cell), H1[q]? = some ce → ce.vm = .none → s.vm.findClass E = some ce.cls → H.size ≤ H1.size → (∀ a : Nat, a < H.size → H1[a]? = H[a]?) → xW p l e R s m args below meth c H1 locs (cells + 1) (slots + 6) Q (F0 m pc ls rest) q) : W p l e R s m args below meth c H locs cells slots Q (F0 m pc ls st0) := by
  intro T hT X
  obtain ⟨o, st, t, T', L, h0, hal, X', hL, e1, -, ⟨q, rfl, ce, hce, hcv, hcl, hz, hk⟩, go⟩ := hr T hT X
  rw [h0] at hz hk
  obtain ⟨t2, a1, b1⟩ := kk q T'.heap ce (by rw [e1]; exact hce) hcv (by rw [← hal.findClass]; exact hcl) (by rw [e1]; exact hz) (fun a h => by rw [e1]; exact hk a h) T' rfl (Stand.forget X' (fun q h => (hL q h).elim))
  exact ⟨t2, Steps.trans go a1, b1⟩
/-- it isn't caught here -/
theorem xout {Qc : Array Value → State → Outcome → State → Prop} {q : Addr} {E : String} {ce : Cell} {H1 : Heap} (hno : ∀ x ∈ c.exceptionTable.toList, False) (hlocks : meth.locks = false) (hq : ∀ (q : Addr) (t : State), xThr E s q t → Qc args s (.threw q) t) (hcell : H1[q]? = some ce) (hv : ce.vm = .none) (hcl : s.vm.findClass E = some ce.cls) (hz : s.heap.size ≤ H1.size) (hk : ∀ a : Nat, a < s.heap.size → H1[a]? = s.heap[a]?) :
    xW p l e R s m args below meth c H1 [] 1 6 (xMQ below Qc args s 1 6 (fun _ => False)) (F0 m pc ls rest) q := by
  intro T hT X
  obtain ⟨st1, hrun, hend, hW, hsm⟩ := X.leaveThrown q (g := F0 m pc ls rest) rfl rfl rfl (fun x hx => (hno x hx).elim) hlocks
  refine ⟨_, st1, .threw q, hrun, hend, hq q _ ⟨ce, ?_, hv, hcl, ?_, ?_⟩, hW, [], hsm, fun _ h => nomatch h⟩
  · show T.heap[q]? = some ce
    rw [hT]; exact hcell
  · show s.heap.size ≤ T.heap.size
    rw [hT]; exact hz
  · intro a h
    show T.heap[a]? = s.heap[a]?
    rw [hT]; exact hk a h
theorem xmono {g : JFrame} {Q1 Q2 : State → Prop} (h : ∀ t, Q1 t → Q2 t) (k : W p l e R s m args below meth c H locs cells slots Q1 g) : W p l e R s m args below meth c H locs cells slots Q2 g := by
  intro T hT X
  obtain ⟨t, a1, b1⟩ := k T hT X
  exact ⟨t, a1, h t b1⟩
theorem xmq {Qc : Array Value → State → Outcome → State → Prop} {mc ms : Nat} {free : Addr → Prop} : ∀ t, MQ below Qc args s mc ms free t → xMQ below Qc args s mc ms free t := by
  intro t ⟨o, h1, h2, h3, L, h4, h5⟩
  exact ⟨o, h1, h2, h3, h4.2.1, L, h4.2.2, h5⟩
/-- a reader's answers -/
theorem xret_i {cc : ByteArray} {v : Int32} (hx : p.tables.exec = Jvm.exec) (hb : c.code = cc) (hr : meth.sig.returnType = some .int) (hlocks : meth.locks = false) (hdg : decode cc pc = .ok (.ireturn, 1)) :
    W p l e R s m args below meth c s.heap [] 0 0 (xMQ below (xQr (.inr (some (.int v)))) args s 0 0 (fun _ => False)) (F0 m pc ls [.int v]) :=
  xmono xmq (W.iret (locs := []) (free := fun _ => False) hx hb hr (fun t ht _ => ⟨rfl, ht⟩) (fun _ h => nomatch h) hdg hlocks)
theorem xret_z {cc : ByteArray} {v : Int32} (hx : p.tables.exec = Jvm.exec) (hb : c.code = cc) (hr : meth.sig.returnType = some .boolean) (hn : narrow .boolean (.int v) = .int v) (hlocks : meth.locks = false) (hdg : decode cc pc = .ok (.ireturn, 1)) :
    W p l e R s m args below meth c s.heap [] 0 0 (xMQ below (xQr (.inr (some (.int v)))) args s 0 0 (fun _ => False)) (F0 m pc ls [.int v]) :=
  xmono xmq (W.zret (locs := []) (free := fun _ => False) hx hb hr hn (fun t ht _ => ⟨rfl, ht⟩) (fun _ h => nomatch h) hdg hlocks)
theorem xret_v {cc : ByteArray} (hx : p.tables.exec = Jvm.exec) (hb : c.code = cc) (hr : meth.sig.returnType = none) (hlocks : meth.locks = false) (hdg : decode cc pc = .ok (.return_, 1)) :
    W p l e R s m args below meth c s.heap [] 0 0 (xMQ below (xQr (.inr none)) args s 0 0 (fun _ => False)) (F0 m pc ls []) :=
  xmono xmq (W.vret (locs := []) (free := fun _ => False) hx hb hr (fun t ht _ => ⟨rfl, ht⟩) (fun _ h => nomatch h) hdg hlocks)
/-- a static field of Throwable that holds a reference or null, and where it lies -/
def xL (n d : String) (U : State) : Prop := ∃ (cl : ClassId) (k : Class) (i : Nat) (f : Field) (z : Nat) (cell : Cell) (v : Value), U.vm.findClass Bundle.tN = some cl ∧ U.fieldFound? Bundle.tN n d = some (cl, k, i, f) ∧ f.isStatic = true ∧ k.statics = some z ∧ U.heap[z]? = some cell ∧ cell.vm.isStatics = true ∧ cell.cls = cl ∧ f.slot < cell.slots.size ∧ k.staticTypes[f.slot]? = some f.type ∧ cell.slots[f.slot]? = some v ∧ v.isRef = true
theorem xL.of {n d : String} {U : State} {a : Array Value} (h1 : (Cond.laysStatic Bundle.tN n d).before a U = true) (h2 : (Cond.isRef (.static Bundle.tN n d)).before a U = true) : xL n d U := by
  obtain ⟨cl, k, i, f, z, cell, q1, q2, q3, q4, q5, q6, q7, q8, q9⟩ := Cond.laysStatic_spec h1
  obtain ⟨u, hu⟩ := Cond.staticRefV q2 q3 q4 q5 q6 h2
  exact ⟨cl, k, i, f, z, cell, u.v, q1, q2, q3, q4, q5, q6, q7, q8, q9, hu, u.ok⟩
theorem xL.moved {n d : String} {u U : State} (h : xL n d u) (hv : u.vm.Alike U.vm) (hh : ∀ (z : Nat) (cell : Cell), u.heap[z]? = some cell → cell.vm.isStatics = true → U.heap[z]? = some cell) : xL n d U := by
  obtain ⟨cl, k, i, f, z, cell, v, q1, q2, q3, q4, q5, q6, q7, q8, q9, q10, q11⟩ := h
  obtain ⟨k', hi', he⟩ := State.fieldFound?_setVm hv q2
  exact ⟨cl, k', i, f, z, cell, v, by rw [hv.findClass]; exact q1, hi', q3, by rw [he]; exact q4, hh z cell q5 q6, q6, q7, q8, by rw [he]; exact q9, q10, q11⟩
theorem xL.lays {n d : String} {U : State} {a : Array Value} (h : xL n d U) : (Cond.laysStatic Bundle.tN n d).before a U = true := by
  obtain ⟨cl, k, i, f, z, cell, v, q1, q2, q3, q4, q5, q6, q7, q8, q9, -, -⟩ := h
  exact Cond.laysStatic_of q1 q2 q3 q4 q5 q6 q7 q8 q9
theorem xL.isr {n d : String} {U : State} {a : Array Value} (h : xL n d U) : (Cond.isRef (.static Bundle.tN n d)).before a U = true := by
  obtain ⟨cl, k, i, f, z, cell, v, q1, q2, q3, q4, q5, q6, q7, q8, q9, q10, q11⟩ := h
  have he : (Term.static Bundle.tN n d).eval a U none [] U = some v := by
    simp [Term.eval, State.fieldNamed?, q2, q3, q4, q5, q6, q10]
  simp only [Cond.before, Cond.holds, Cond.value, he]
  cases v <;> simp_all [Value.isRef]
/-- what a throw asks of the heap -/
def xSt (U : State) : Prop := xL "UNASSIGNED_STACK" Bundle.steD U ∧ xL "SUPPRESSED_SENTINEL" Bundle.listD U
theorem xSt.moved {u U : State} (h : xSt u) (hv : u.vm.Alike U.vm) (hh : ∀ (z : Nat) (cell : Cell), u.heap[z]? = some cell → cell.vm.isStatics = true → U.heap[z]? = some cell) : xSt U := ⟨h.1.moved hv hh, h.2.moved hv hh⟩
/-- the words of a throw, but the four that speak of the heap -/
def xno (w : Cond) : Bool := decide (w ≠ .isRef (.static Bundle.tN "UNASSIGNED_STACK" Bundle.steD)) && (decide (w ≠ .isRef (.static Bundle.tN "SUPPRESSED_SENTINEL" Bundle.listD)) && (decide (w ≠ .laysStatic Bundle.tN "UNASSIGNED_STACK" Bundle.steD) && decide (w ≠ .laysStatic Bundle.tN "SUPPRESSED_SENTINEL" Bundle.listD)))
theorem xwords {own cls : String} {ic : Nat} {names : List String} {a : Array Value} (hE : xE s) (hst : xSt s) (h : ((Bundle.ownAtoms own ic cls names).filter xno).all (fun w => decide (w ∈ lw_tbl) && xok w) = true) : ∀ w ∈ Bundle.ownAtoms own ic cls names, w.before a s = true := by
  intro w hw
  by_cases e1 : w = .isRef (.static Bundle.tN "UNASSIGNED_STACK" Bundle.steD)
  · rw [e1]; exact hst.1.isr
  · by_cases e2 : w = .isRef (.static Bundle.tN "SUPPRESSED_SENTINEL" Bundle.listD)
    · rw [e2]; exact hst.2.isr
    · by_cases e3 : w = .laysStatic Bundle.tN "UNASSIGNED_STACK" Bundle.steD
      · rw [e3]; exact hst.1.lays
      · by_cases e4 : w = .laysStatic Bundle.tN "SUPPRESSED_SENTINEL" Bundle.listD
        · rw [e4]; exact hst.2.lays
        · have hx : xno w = true := by
            unfold xno
            rw [decide_eq_true e1, decide_eq_true e2, decide_eq_true e3, decide_eq_true e4]; rfl
          have h1 := List.all_eq_true.mp h w (List.mem_filter.mpr ⟨hw, hx⟩)
          simp only [Bool.and_eq_true, decide_eq_true_eq] at h1
          exact hE w h1.1 h1.2 a
theorem xsame {U : State} {k n : Nat} (h : s.sameButNew ({ U with vm := s.vm } : State) [] k n) : s.heap.size ≤ U.heap.size ∧ ∀ z : Nat, z < s.heap.size → U.heap[z]? = s.heap[z]? := by
  obtain ⟨-, h2, -, -, -, h6⟩ := h
  refine ⟨h2, fun z hz => ?_⟩
  obtain ⟨c9, e1, e2, -, e4⟩ := h6 z _ (Array.getElem?_eq_getElem hz)
  have hs : c9.slots = (s.heap[z]).slots := Array.ext_getElem? fun i => e4 i (fun hm => nomatch hm)
  have h9 : c9 = s.heap[z] := by
    rw [hs] at e2
    exact e2
  have e5 : U.heap[z]? = some c9 := e1
  rw [e5, h9, Array.getElem?_eq_getElem hz]
/-- 'throw new E("text")' in a method that has written nothing -/
theorem xthrow {Qc : Array Value → State → Outcome → State → Prop} {cc : ByteArray} {own cls text : String} {names : List String} {ik is ic sa : Nat} (hx : p.tables.exec = Jvm.exec) (hb : c.code = cc) (hl : l.stackTraces = false) (hown : s.vm.findClass own = some m.cls) (hE : xE s) (hst : xSt s)
    (hcls : Bundle.fit cls = true) (hnames : ∀ n ∈ names, Bundle.fit n = true) (hw : ((Bundle.ownAtoms own ic cls names).filter xno).all (fun w => decide (w ∈ lw_tbl) && xok w) = true) (wk : Cond.classLink own ik cls ∈ lw_tbl) (wn : Cond.initialized cls ∈ lw_tbl) (hstr : vk_R own is text sa s)
    (hno : ∀ x ∈ c.exceptionTable.toList, False) (hlocks : meth.locks = false) (hsize : ls.size = c.maxLocals)
    (d0 : decode cc pc = .ok (.new ik, 3)) (d3 : decode cc (pc + 3) = .ok (.dup, 1)) (d4 : decode cc (pc + 4) = .ok (.ldc is, 2)) (d6 : decode cc (pc + 6) = .ok (.invokespecial ic, 3)) (d9 : decode cc (pc + 9) = .ok (.athrow, 1))
    (hRframes : names.length + 3 < R.frames) (hRlocals : (rest.map fun v => v.category).sum + (13 * (names.length + 1) + 43) ≤ R.locals) (hRcells : 1 ≤ R.cells) (hRslots : 6 ≤ R.slots)
    (hq : ∀ (q : Addr) (t : State), xThr cls s q t → Qc args s (.threw q) t) :
    W p l e R s m args below meth c s.heap [] 0 0 (xMQ below Qc args s 1 6 (fun _ => False)) (F0 m pc ls rest) := by
  have hwords : ∀ w ∈ Bundle.ownAtoms own ic cls names, w.before args s = true := xwords hE hst hw
  have hins : (Cond.instantiable cls 6).before args s = true := hwords _ (by simp [Bundle.ownAtoms])
  refine W.newc (C := cls) (n := 6) hx hb hown (hE _ wk rfl args) hins (hE _ wn rfl args) rfl d0 (by omega) (by omega) (fun cX kX hfX hkX hord hn6 => ?_)
  refine W.eq (g2 := F0 m (pc + 3) ls (.ref s.heap.size :: rest)) rfl ?_
  refine lv_dup hx hb d3 rfl ?_
  refine va_ldcS hx hb hown hstr d4 ?_
  intro T hT X
  have htr : e.platform.stackTraces = false := (show e.platform.stackTraces = l.stackTraces by rw [X.admits.platform]).trans hl
  have hcat : (Value.ref s.heap.size).category = 1 := rfl
  obtain ⟨U, hsteps, hrun, hend, hW, hsm, ce, hce, hO⟩ := X.ctorThrowS hx htr (own := own) (cls := cls) (names := names) (ic := ic) hown hcls hnames hwords (fun x hx => nomatch hx) hfX hkX (a := s.heap.size) (by rw [hT]; first | exact Array.getElem?_push_size | simp [freshCell]) (Nat.le_refl _) (msg := .ref sa) rfl
    (g := F0 m (pc + 6) ls (.ref sa :: .ref s.heap.size :: .ref s.heap.size :: rest)) rfl hsize rfl rfl (rest := rest) rfl (by rw [hb]; exact d6) (by rw [hb]; exact d9) (fun x hx => (hno x hx).elim) hRframes (by
      show 2 * 0 + ((Value.ref s.heap.size :: rest).map fun v => v.category).sum + (13 * (names.length + 1) + 42) ≤ R.locals
      simp only [List.map_cons, List.sum_cons, hcat]; omega) hlocks
  obtain ⟨k1, k2⟩ := xsame hsm
  exact ⟨U, hsteps, .threw s.heap.size, hrun, hend, hq _ U ⟨ce, hce, hO.vm, hO.cls, k1, k2⟩, hW, [], hsm, fun _ h => nomatch h⟩
end XB
