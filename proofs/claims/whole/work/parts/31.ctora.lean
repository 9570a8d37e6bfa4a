abbrev cJ7_fill : ByteArray := prog_16_method_103_code
def yJ7_fill : MethodName := ⟨RJ7, "fill", "([II)V"⟩
theorem dJ7_fill_0 : decode cJ7_fill 0 = .ok (.iconst 0, 1) := by decide +kernel
theorem dJ7_fill_1 : decode cJ7_fill 1 = .ok (.istore_n 2, 1) := by decide +kernel
theorem dJ7_fill_2 : decode cJ7_fill 2 = .ok (.aload_n 0, 1) := by decide +kernel
theorem dJ7_fill_3 : decode cJ7_fill 3 = .ok (.arraylength, 1) := by decide +kernel
theorem dJ7_fill_4 : decode cJ7_fill 4 = .ok (.istore_n 3, 1) := by decide +kernel
theorem dJ7_fill_5 : decode cJ7_fill 5 = .ok (.iload_n 2, 1) := by decide +kernel
theorem dJ7_fill_6 : decode cJ7_fill 6 = .ok (.iload_n 3, 1) := by decide +kernel
theorem dJ7_fill_7 : decode cJ7_fill 7 = .ok (.if_icmp .ge 13, 3) := by decide +kernel
theorem dJ7_fill_10 : decode cJ7_fill 10 = .ok (.aload_n 0, 1) := by decide +kernel
theorem dJ7_fill_11 : decode cJ7_fill 11 = .ok (.iload_n 2, 1) := by decide +kernel
theorem dJ7_fill_12 : decode cJ7_fill 12 = .ok (.iload_n 1, 1) := by decide +kernel
theorem dJ7_fill_13 : decode cJ7_fill 13 = .ok (.iastore, 1) := by decide +kernel
theorem dJ7_fill_14 : decode cJ7_fill 14 = .ok (.iinc 2 1, 3) := by decide +kernel
theorem dJ7_fill_17 : decode cJ7_fill 17 = .ok (.goto (-12), 3) := by decide +kernel
theorem dJ7_fill_20 : decode cJ7_fill 20 = .ok (.return_, 1) := by decide +kernel
theorem wi_obj : Cond.instanceMethod objectInit ∈ lw_tbl := List.mem_append_right _ (List.mem_of_getElem? (i := 22) (by decide +kernel))
theorem wc_obj : Cond.code objectInit ⟨#[0xb1]⟩ 1 none ∈ lw_tbl := by decide +kernel
theorem wa_int : Cond.arrayClass .int ∈ lw_tbl := List.mem_append_right _ (List.mem_of_getElem? (i := 46) (by decide +kernel))
theorem wa_boolean : Cond.arrayClass .boolean ∈ lw_tbl := List.mem_append_right _ (List.mem_of_getElem? (i := 45) (by decide +kernel))
theorem wa_long : Cond.arrayClass .long ∈ lw_tbl := List.mem_append_right _ (List.mem_of_getElem? (i := 766) (by decide +kernel))
theorem ml_X0_3 : Cond.methodLink RX0 3 objectInit ∈ lw_tbl := List.mem_append_right _ (List.mem_of_getElem? (i := 118) (by decide +kernel))
theorem ml_X1_3 : Cond.methodLink RX1 3 objectInit ∈ lw_tbl := List.mem_append_right _ (List.mem_of_getElem? (i := 52) (by decide +kernel))
theorem ml_X2_3 : Cond.methodLink RX2 3 objectInit ∈ lw_tbl := List.mem_append_right _ (List.mem_of_getElem? (i := 91) (by decide +kernel))
theorem ml_X3_3 : Cond.methodLink RX3 3 objectInit ∈ lw_tbl := List.mem_append_right _ (List.mem_of_getElem? (i := 29) (by decide +kernel))
theorem wt_fill : Cond.static yJ7_fill ∈ lw_tbl := List.mem_append_right _ (List.mem_of_getElem? (i := 31) (by decide +kernel))
theorem wn_J7 : Cond.initialized RJ7 ∈ lw_tbl := List.mem_append_right _ (List.mem_of_getElem? (i := 3) (by decide +kernel))
theorem wc_fill : Cond.code yJ7_fill cJ7_fill 4 none ∈ lw_tbl := List.mem_append_right _ (List.mem_of_getElem? (i := 32) (by decide +kernel))
theorem fx_fill : (yJ7_fill.cls ≠ "java/lang/invoke/MethodHandle" ∧ yJ7_fill.cls ≠ "java/lang/invoke/VarHandle") ∧ ∀ sig, parseMethodDescriptor yJ7_fill.desc = some sig → 2 = sig.parameters.length := ⟨⟨by decide +kernel, by decide +kernel⟩, xnp (by decide +kernel)⟩
theorem ml_X3_22 : Cond.methodLink RX3 22 yJ7_fill ∈ lw_tbl := List.mem_append_right _ (List.mem_of_getElem? (i := 30) (by decide +kernel))
theorem ml_X5_1 : Cond.methodLink RX5 1 objectInit ∈ lw_tbl := List.mem_append_right _ (List.mem_of_getElem? (i := 557) (by decide +kernel))
/-! Constructors: what they make; Arrays.fill. -/
def xnest : List Cond := [.methodLinkNest "LandingSlots" 18 ⟨"LandingSlots$Flights", "<init>", "()V"⟩ "LandingSlots", .methodLinkNest "LandingSlots" 25 ⟨"LandingSlots$Offers", "<init>", "()V"⟩ "LandingSlots", .methodLinkNest "LandingSlots" 32 ⟨"LandingSlots$Entries", "<init>", "()V"⟩ "LandingSlots"]
/-- what holds where objects are made -/
def xGk (D : va_G) (k : Nat → ClassId) (U : State) : Prop := va_K D vwCl (xty k) U ∧ xE U ∧ ∀ w ∈ xnest, va_Nw w U
theorem xGk.warm {D : va_G} {k : Nat → ClassId} {s U : State} (h : xGk D k s) (hW : s.WarmedH U.vm) : xGk D k U :=
  ⟨va_K.moved hW.alike h.1, h.2.1.warm hW, fun w hw => by
    have h1 := h.2.2 w hw
    simp only [xnest, List.mem_cons, List.not_mem_nil, or_false] at hw
    rcases hw with rfl | rfl | rfl <;> exact va_Nw.warmM hW h1⟩
def xPk (D : va_G) (k : Nat → ClassId) (sz : Nat) (w : va_W) (av : List Value) : Array Value → State → Prop := va_Pc av (fun U => U.heap.size = sz ∧ va_P D vwCl w U.heap ∧ va_D (fun _ => True) w ∧ xGk D k U)
def xQk (w : va_W) (B : Heap → Prop) : Array Value → State → Outcome → State → Prop := fun _ st oc t => oc = .returned none ∧ B t.heap ∧ va_F (va_A w st.heap.size) st t
section XKC
variable {p : Program} {l : Launch} {e : Env} {R : Room} {s : State} {m : MethodId} {args : Array Value} {below : List Frame} {meth : Method} {c : Code} {H H0 : Heap} {locs : List Loc} {cells slots : Nat} {Q : State → Prop}
variable {y : MethodName} {cc bytes : ByteArray} {maxL nL mc ms n index : Nat} {ret : Option FieldType} {rm : Room} {Pc : Array Value → State → Prop} {Qc : Array Value → State → Outcome → State → Prop} {free : Addr → Prop} {own host : String} {b : Addr} {As rest st0 : List Value} {g : JFrame} {pc : Nat} {ls : Array Slot}
variable {D : va_G} {k : Nat → ClassId} {A : Nat → Prop} {w wc wr : va_W} {av : List Value} {ar : Array Value} {B : Heap → Prop}
theorem xrunI (F : xFix p R s m c cc nL own y maxL rm index n cells slots) (hE : xE s) (wl : Cond.methodLink own index y ∈ lw_tbl) (wi : Cond.instanceMethod y ∈ lw_tbl) (wc : Cond.code y bytes maxL none ∈ lw_tbl) (wn : Cond.initialized y.cls ∈ lw_tbl) (hy1 : y.name = "<init>")
    (hM : xMet l y (.code y bytes maxL none) rm Pc Qc mc ms free) (hp : xPre s H Pc (.ref b :: As))
    (hg : g.method = m) (hn : As.length = n) (hsize : g.locals.size = nL) (hstack : g.stack = As.reverse ++ .ref b :: rest) (hW : 2 * g.monitorRoom + (rest.map fun v => v.category).sum ≤ 8) (hdg : decode cc g.pc = .ok (.invokespecial index, 3)) :
    xRun p l e R s m args below meth c H locs cells slots mc ms g rest (Qc (Value.ref b :: As).toArray) free := by
  obtain ⟨hx, hb, hml, ho, hfr, hlo, hce, hsl, hy, hlen⟩ := F
  intro T hT X
  have hpl : e.platform.magicAccessors = ({} : Platform).magicAccessors := by rw [X.admits.platform]
  have hdg' : decode c.code g.pc = .ok (.invokespecial index, 3) := by rw [hb]; exact hdg
  subst hg
  obtain ⟨mk, methM, cM, kP, vm₁, hnamed, hmethM, hcM, -, hlM, -, hkP, -, hW₁, hstep₁⟩ := Steps.initColdArgs (e := e) X.here hx X.warmed hpl ho hy1 hy (hE _ wl rfl args) (hE _ wi rfl args) (hE _ wc rfl args) (f := g) rfl (fun sig h => hn.trans (hlen sig h)) hstack hdg'
  have X₁ := X.noted hW₁
  have hE₁ : xE (T.setVm vm₁) := hE.warm X₁.warmed
  obtain ⟨o, t, T', L, X', hL, e1, e2, hq, st⟩ := xcore X₁ hM hp.1 hfr hlo hce hsl (g := { g with stack := rest }) rfl (hsize.trans hml.symm) hdg' hW (X₁.named hnamed)
    ⟨methM, cM, by rw [X₁.warmed.alike.method?]; exact hmethM, hcM, hlM⟩ (hE₁ _ wc rfl _) (hE₁ _ wn rfl _) (hp.2 (T.setVm vm₁) hT X₁.warmed)
  refine ⟨o, _, t, T', L, ?_, ?_, X', hL, e1, e2, hq, ?_⟩
  · exact hT
  · exact X₁.warmed.alike
  · cases o with
    | returned v => exact fun tg h => hstep₁ _ fun acts => by rw [doInvoke_state]; exact Steps.trans st h
    | threw x => exact hstep₁ _ fun acts => by rw [doInvoke_state]; exact st
theorem xrunIN (F : xFix p R s m c cc nL own y maxL rm index n cells slots) (hE : xE s) (wl : va_Nw (.methodLinkNest own index y host) s) (wi : Cond.instanceMethod y ∈ lw_tbl) (wc : Cond.code y bytes maxL none ∈ lw_tbl) (wn : Cond.initialized y.cls ∈ lw_tbl) (hy1 : y.name = "<init>")
    (hM : xMet l y (.code y bytes maxL none) rm Pc Qc mc ms free) (hp : xPre s H Pc (.ref b :: As))
    (hg : g.method = m) (hn : As.length = n) (hsize : g.locals.size = nL) (hstack : g.stack = As.reverse ++ .ref b :: rest) (hW : 2 * g.monitorRoom + (rest.map fun v => v.category).sum ≤ 8) (hdg : decode cc g.pc = .ok (.invokespecial index, 3)) :
    xRun p l e R s m args below meth c H locs cells slots mc ms g rest (Qc (Value.ref b :: As).toArray) free := by
  obtain ⟨hx, hb, hml, ho, hfr, hlo, hce, hsl, hy, hlen⟩ := F
  intro T hT X
  have hpl : e.platform.magicAccessors = ({} : Platform).magicAccessors := by rw [X.admits.platform]
  have hdg' : decode c.code g.pc = .ok (.invokespecial index, 3) := by rw [hb]; exact hdg
  subst hg
  obtain ⟨mk, methM, cM, kP, vm₁, hnamed, hmethM, hcM, -, hlM, -, hkP, -, hW₁, hstep₁⟩ := Steps.initColdArgsNest (e := e) X.here hx X.warmed hpl ho hy1 hy (va_Nw.use (A := args) rfl wl) (hE _ wi rfl args) (hE _ wc rfl args) (f := g) rfl (fun sig h => hn.trans (hlen sig h)) hstack hdg'
  have X₁ := X.noted hW₁
  have hE₁ : xE (T.setVm vm₁) := hE.warm X₁.warmed
  obtain ⟨o, t, T', L, X', hL, e1, e2, hq, st⟩ := xcore X₁ hM hp.1 hfr hlo hce hsl (g := { g with stack := rest }) rfl (hsize.trans hml.symm) hdg' hW (X₁.named hnamed)
    ⟨methM, cM, by rw [X₁.warmed.alike.method?]; exact hmethM, hcM, hlM⟩ (hE₁ _ wc rfl _) (hE₁ _ wn rfl _) (hp.2 (T.setVm vm₁) hT X₁.warmed)
  refine ⟨o, _, t, T', L, ?_, ?_, X', hL, e1, e2, hq, ?_⟩
  · exact hT
  · exact X₁.warmed.alike
  · cases o with
    | returned v => exact fun tg h => hstep₁ _ fun acts => by rw [doInvoke_state]; exact Steps.trans st h
    | threw x => exact hstep₁ _ fun acts => by rw [doInvoke_state]; exact st
theorem xprek (hP : va_P D vwCl wc H) (hD : va_D A wc) (hG : xGk D k s) : xPre s H (xPk D k H.size wc av) av :=
  ⟨fun _ U _ _ h => ⟨h.1, h.2.1, h.2.2.1, h.2.2.2.1, h.2.2.2.2.warm (State.WarmedH.refl U)⟩, fun U hU hW => ⟨rfl, by rw [hU], by rw [hU]; exact hP, hD.weaken (fun _ _ _ _ => trivial), hG.warm hW⟩⟩
/-- behind a call that has a part of the world -/
theorem xgo_k (hr : xRun p l e R s m args below meth c H locs cells slots mc ms (F0 m pc ls st0) rest (xQk wc B ar) (va_A wc H.size)) (hP : va_P D vwCl w H) (hD : va_D A w) (hS : va_S A H0 H locs) (hA : ∀ u, H0.size ≤ u → A u) (isC isR : List Nat) (hC : isC.map (fun i => w[i]?) = wc.map some) (hR : isR.map (fun i => w[i]?) = wr.map some) (hn : va_nd isR = true) (hdis : ∀ i ∈ isR, i ∉ isC)
    (kk : ∀ (H1 : Heap) (locs1 : List Loc), B H1 → (∀ w1, va_P D vwCl w1 H1 → va_D (va_A wc H.size) w1 → va_P D vwCl (wr ++ w1) H1 ∧ va_D A (wr ++ w1)) → va_S A H0 H1 locs1 → W p l e R s m args below meth c H1 locs1 (cells + mc) (slots + ms) Q (F0 m (pc + 3) ls rest)) : W p l e R s m args below meth c H locs cells slots Q (F0 m pc ls st0) := by
  intro T hT X
  obtain ⟨oc, st, t, T', L, h0, hal, X', hL, e1, e2, ⟨rfl, hB, hz, hk⟩, go⟩ := hr T hT X
  rw [h0] at hz hk
  have hF := va_free hD hS hA isC hC
  obtain ⟨t2, a2, b2⟩ := kk T'.heap (locs ++ L) (by rw [e1]; exact hB) (fun w1 h1 h2 => va_join hP hD isC isR hC hR hn hdis (fun u h3 h4 => by rw [e1]; exact hk u h3 h4) hF h1 h2)
    ⟨Nat.le_trans hS.1 (by rw [e1]; exact hz), fun u h1 h2 => by rw [e1, hk u (Nat.lt_of_lt_of_le h1 hS.1) (fun h => h2 (hF u h))]; exact hS.2.1 u h1 h2, fun u hu => by
      rcases List.mem_append.mp hu with h | h
      · exact hS.2.2 u h
      · exact hF _ (hL u h)⟩ T' rfl X'
  exact ⟨t2, go t2 a2, b2⟩
theorem xretk {cc : ByteArray} (hx : p.tables.exec = Jvm.exec) (hb : c.code = cc) (hr : meth.sig.returnType = none) (hlocks : meth.locks = false) (hB : B H) (hS : va_S (va_A w s.heap.size) s.heap H locs) (hdg : decode cc pc = .ok (.return_, 1)) :
    W p l e R s m args below meth c H locs cells slots (xMQ below (xQk w B) args s cells slots (va_A w s.heap.size)) (F0 m pc ls []) :=
  xmono xmq (W.vret hx hb hr (fun t ht _ => ⟨rfl, by rw [ht]; exact hB, hS.F ht⟩) hS.2.2 hdg hlocks)
/-- a new array: its class is the one that the tables know -/
theorem xnewa (hx : p.tables.exec = Jvm.exec) (hb : c.code = cc) {atype : ArrayType} {ty : FieldType} (hty : newarray.typeOf atype = ty) (wa : Cond.arrayClass ty ∈ lw_tbl) (hE : xE s) (hK : va_K D vwCl (xty k) s) (hP : va_P D vwCl w H) (hD : va_D A w) (hS : va_S A H0 H locs) (hA : ∀ u, H0.size ≤ u → A u) {t0 : Nat} {kc : ClassId} (ht : (xty k)[t0]? = some (kc, ty)) {nm : String} (hra : ∀ u, va_RA s u ty → s.vm.findClass nm = some u)
    {n : Int32} {N' : Nat} {a0 : vp_A} (ha : ∀ cA : ClassId, vp_cell cA a0 = arrV cA N' (fun _ => defaultValue ty)) (hn : ¬ n < 0) (hN : n.toNatClampNeg = N') (hbytes : N' * componentBytes ty ≤ 536870912) (hcells : cells + 1 ≤ R.cells) (hslots : slots + N' ≤ R.slots) (hdg : decode cc pc = .ok (.newarray atype, 2))
    (kk : ∀ (u : Nat) (H1 : Heap), va_P D vwCl (w ++ [(u, .inl (kc, a0))]) H1 → va_D A (w ++ [(u, .inl (kc, a0))]) → va_S A H0 H1 locs → W p l e R s m args below meth c H1 locs (cells + 1) (slots + N') Q (F0 m (pc + 2) ls (.ref u :: rest))) : W p l e R s m args below meth c H locs cells slots Q (F0 m pc ls (.int n :: rest)) := by
  refine va_newa hx hb (by rw [hty]; exact hE _ wa rfl args) hty hK hP hD hS hA ha hn hN hbytes hcells hslots hdg (fun u cA H1 hK1 hP1 hD1 hS1 => ?_)
  have h1 := hra _ (hK1.2 3 (cA, ty) rfl).2
  have h2 := hra _ (hK.2 t0 (kc, ty) ht).2
  cases Option.some.inj (h1.symm.trans h2)
  exact kk u H1 hP1 hD1 hS1
end XKC
/-- the array that fill leaves -/
def xfill (f : Nat → Int32) (n : Nat) (v : Int32) : Nat → Int32 := fun i => if i < n then v else f i
theorem xfill_0 (f : Nat → Int32) (v : Int32) : xfill f 0 v = f := by funext i; simp [xfill]
theorem xfill_s (f : Nat → Int32) (j : Nat) (v : Int32) : upd (xfill f j v) j v = xfill f (j + 1) v := by
  funext i
  by_cases h : i = j
  · subst h; simp [upd, xfill]
  · have h2 : (i < j + 1) ↔ (i < j) := by omega
    simp [upd, xfill, h, h2]
abbrev r_J7_fill : Room := { frames := 0, cells := 0, slots := 0, locals := 0 }
set_option maxHeartbeats 4000000 in
theorem k_fill (l : Launch) (D : va_G) (k : Nat → ClassId) (sz h0 n : Nat) (f : Nat → Int32) (v : Int32) (hn : n < 2 ^ 31) : xMet l yJ7_fill (.code yJ7_fill cJ7_fill 4 none) r_J7_fill (xPk D k sz [(h0, .inl (k 0, n, .inl f))] [.ref h0, .int v]) (xQk [(h0, .inl (k 0, n, .inl f))] (fun H => va_P D vwCl [(h0, .inl (k 0, n, .inl (xfill f n v)))] H ∧ va_D (va_A [(h0, .inl (k 0, n, .inl f))] sz) [(h0, .inl (k 0, n, .inl (xfill f n v)))])) 0 0 (va_A [(h0, .inl (k 0, n, .inl f))] sz) := by
  refine xMet.ofW (by decide) ?_
  intro p e s m args below meth c hx hb hml hr hlocks hnm hme hno hv
  obtain ⟨rfl, hsz, hP, hD, hG⟩ := hv
  subst hsz
  have hK := hG.1
  have hl := lv_entry ([.ref h0, .int v]) (n := 4) (Nat.le_of_ble_eq_true rfl)
  rw [lg_entry_eq]
  generalize (lg_sl ([.ref h0, .int v]) ++ List.replicate (4 - (lg_sl ([.ref h0, .int v])).length) Slot.unset).toArray = ls at hl ⊢
  have hl : lv_has ls 4 [(0, .ref h0), (1, .int v)] := hl
  have hD := hD.self (sz := s.heap.size)
  have hS : va_S (va_A [(h0, .inl (k 0, n, .inl f))] s.heap.size) s.heap s.heap [] := va_S.rf
  have key : ∀ (d j : Nat), n - j = d → j ≤ n → ∀ (ls : Array Slot) (H : Heap) (locs : List Loc), va_P D vwCl [(h0, .inl (k 0, n, .inl (xfill f j v)))] H → va_D (va_A [(h0, .inl (k 0, n, .inl f))] s.heap.size) [(h0, .inl (k 0, n, .inl (xfill f j v)))] → va_S (va_A [(h0, .inl (k 0, n, .inl f))] s.heap.size) s.heap H locs → lv_has ls 4 [(0, .ref h0), (1, .int v), (2, .int (nI j)), (3, .int (nI n))] →
      W p l e r_J7_fill s m [.ref h0, .int v].toArray below meth c H locs 0 0 (xMQ below (xQk [(h0, .inl (k 0, n, .inl f))] (fun H => va_P D vwCl [(h0, .inl (k 0, n, .inl (xfill f n v)))] H ∧ va_D (va_A [(h0, .inl (k 0, n, .inl f))] s.heap.size) [(h0, .inl (k 0, n, .inl (xfill f n v)))])) [.ref h0, .int v].toArray s 0 0 (va_A [(h0, .inl (k 0, n, .inl f))] s.heap.size)) (F0 m 5 ls []) := by
    intro d
    induction d with
    | zero =>
      intro j hd hj ls H locs hP hD hS hl
      have e1 : j = n := by omega
      subst e1
      refine lv_iload_n hx hb dJ7_fill_5 rfl (lv_at hl 2 rfl) ?_
      refine lv_iload_n hx hb dJ7_fill_6 rfl (lv_at hl 3 rfl) ?_
      refine lv_icmp_ge hx hb dJ7_fill_7 rfl (fun hc => ?_) (fun hc => absurd (nI_le (Nat.le_refl j) hn) hc)
      exact xretk hx hb hr hlocks ⟨hP, hD⟩ hS dJ7_fill_20
    | succ d ih =>
      intro j hd hj ls H locs hP hD hS hl
      have hj2 : j < n := by omega
      refine lv_iload_n hx hb dJ7_fill_5 rfl (lv_at hl 2 rfl) ?_
      refine lv_iload_n hx hb dJ7_fill_6 rfl (lv_at hl 3 rfl) ?_
      refine lv_icmp_ge hx hb dJ7_fill_7 rfl (fun hc => absurd hc (nI_ge hj2 hn)) (fun hc => ?_)
      refine lv_aload_n hx hb dJ7_fill_10 rfl (lv_at hl 0 rfl) ?_
      refine lv_iload_n hx hb dJ7_fill_11 rfl (lv_at hl 2 rfl) ?_
      refine lv_iload_n hx hb dJ7_fill_12 rfl (lv_at hl 1 rfl) ?_
      refine va_iast hx hb hK hP hD hS 0 0 rfl rfl (vp_in_nI hj2 hn) dJ7_fill_13 (fun H locs hP hD hS => ?_)
      rw [nI_clamp (Nat.lt_trans hj2 hn), xfill_s] at hP hD
      refine lv_iinc (k := 2) (v := nI (j + 1)) (lv' := [(2, .int (nI (j + 1))), (0, .ref h0), (1, .int v), (3, .int (nI n))]) hx hb dJ7_fill_14 hl rfl (by rw [nI_succ]; rfl) (by decide) rfl (fun ls hl => ?_)
      refine lv_goto hx hb dJ7_fill_17 rfl ?_
      exact ih (j + 1) (by omega) (by omega) ls H locs hP hD hS (lv_sub hl [1, 2, 0, 3] rfl)
  refine lv_iconst (v := 0) hx hb dJ7_fill_0 (by decide) ?_
  refine lv_istore_n (lv' := [(2, .int 0), (0, .ref h0), (1, .int v)]) hx hb dJ7_fill_1 rfl hl (by decide) rfl (fun ls hl => ?_)
  refine lv_aload_n hx hb dJ7_fill_2 rfl (lv_at hl 1 rfl) ?_
  refine va_alen (v := nI n) hx hb hK hP 0 0 rfl rfl rfl dJ7_fill_3 ?_
  refine lv_istore_n (lv' := [(3, .int (nI n)), (2, .int 0), (0, .ref h0), (1, .int v)]) hx hb dJ7_fill_4 rfl hl (by decide) rfl (fun ls hl => ?_)
  exact key n 0 rfl (Nat.zero_le _) ls s.heap [] (by rw [xfill_0]; exact hP) (by rw [xfill_0]; exact hD) hS (lv_sub hl [2, 3, 1, 0] rfl)
