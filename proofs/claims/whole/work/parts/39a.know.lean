theorem wb_X4 : Cond.instantiable RX4 4 ∈ lw_tbl := List.mem_append_right _ (List.mem_of_getElem? (i := 17) (by decide +kernel))
theorem wc_X4_init : Cond.code yX4_init cX4_init 1 none ∈ lw_tbl := List.mem_append_right _ (List.mem_of_getElem? (i := 20) (by decide +kernel))
theorem wi_X4_init : Cond.instanceMethod yX4_init ∈ lw_tbl := List.mem_append_right _ (List.mem_of_getElem? (i := 19) (by decide +kernel))
theorem fx_X4_init : (yX4_init.cls ≠ "java/lang/invoke/MethodHandle" ∧ yX4_init.cls ≠ "java/lang/invoke/VarHandle") ∧ ∀ sig, parseMethodDescriptor yX4_init.desc = some sig → 0 = sig.parameters.length := ⟨⟨by decide +kernel, by decide +kernel⟩, xnp (by decide +kernel)⟩
theorem wb_X5 : Cond.instantiable RX5 19 ∈ lw_tbl := List.mem_append_right _ (List.mem_of_getElem? (i := 553) (by decide +kernel))
theorem wc_X5_init : Cond.code yX5_init cX5_init 2 none ∈ lw_tbl := List.mem_append_right _ (List.mem_of_getElem? (i := 556) (by decide +kernel))
theorem wi_X5_init : Cond.instanceMethod yX5_init ∈ lw_tbl := List.mem_append_right _ (List.mem_of_getElem? (i := 555) (by decide +kernel))
theorem fx_X5_init : (yX5_init.cls ≠ "java/lang/invoke/MethodHandle" ∧ yX5_init.cls ≠ "java/lang/invoke/VarHandle") ∧ ∀ sig, parseMethodDescriptor yX5_init.desc = some sig → 0 = sig.parameters.length := ⟨⟨by decide +kernel, by decide +kernel⟩, xnp (by decide +kernel)⟩
theorem kl_L_8 : Cond.classLink RL 8 RX4 ∈ lw_tbl := List.mem_append_right _ (List.mem_of_getElem? (i := 16) (by decide +kernel))
theorem kl_L_67 : Cond.classLink RL 67 RX5 ∈ lw_tbl := List.mem_append_right _ (List.mem_of_getElem? (i := 552) (by decide +kernel))
theorem ml_L_66 : Cond.methodLink RL 66 yX4_init ∈ lw_tbl := List.mem_append_right _ (List.mem_of_getElem? (i := 18) (by decide +kernel))
theorem ml_L_69 : Cond.methodLink RL 69 yX5_init ∈ lw_tbl := List.mem_append_right _ (List.mem_of_getElem? (i := 554) (by decide +kernel))
theorem ls_1 : Cond.laysStatic Bundle.tN "UNASSIGNED_STACK" Bundle.steD ∈ lw_tbl := List.mem_append_right _ (List.mem_of_getElem? (i := 298) (by decide +kernel))
theorem ls_2 : Cond.laysStatic Bundle.tN "SUPPRESSED_SENTINEL" Bundle.listD ∈ lw_tbl := List.mem_append_right _ (List.mem_of_getElem? (i := 300) (by decide +kernel))
theorem sr_39 : Cond.stringRef RX4 39 "no such quarter" ∈ lw_tbl := List.mem_append_right _ (List.mem_of_getElem? (i := 313) (by decide +kernel))
theorem sr_44 : Cond.stringRef RX4 44 "no such rate" ∈ lw_tbl := List.mem_append_right _ (List.mem_of_getElem? (i := 340) (by decide +kernel))
theorem sr_52 : Cond.stringRef RX4 52 "a frozen slot would be none any more" ∈ lw_tbl := List.mem_append_right _ (List.mem_of_getElem? (i := 357) (by decide +kernel))
theorem sr_67 : Cond.stringRef RX4 67 "scheduled for no minute of the time" ∈ lw_tbl := List.mem_append_right _ (List.mem_of_getElem? (i := 381) (by decide +kernel))
theorem sr_75 : Cond.stringRef RX4 75 "earliest minute out of bounds" ∈ lw_tbl := List.mem_append_right _ (List.mem_of_getElem? (i := 385) (by decide +kernel))
theorem sr_81 : Cond.stringRef RX4 81 "no room for a flight" ∈ lw_tbl := List.mem_append_right _ (List.mem_of_getElem? (i := 386) (by decide +kernel))
theorem sr_122 : Cond.stringRef RX4 122 "airborne, or in no slot" ∈ lw_tbl := List.mem_append_right _ (List.mem_of_getElem? (i := 472) (by decide +kernel))
theorem sr_127 : Cond.stringRef RX4 127 "not two flights of one airline" ∈ lw_tbl := List.mem_append_right _ (List.mem_of_getElem? (i := 480) (by decide +kernel))
theorem sr_129 : Cond.stringRef RX4 129 "one of them is in no slot" ∈ lw_tbl := List.mem_append_right _ (List.mem_of_getElem? (i := 481) (by decide +kernel))
theorem sr_134 : Cond.stringRef RX4 134 "one of them is airborne or cannot use the other's slot" ∈ lw_tbl := List.mem_append_right _ (List.mem_of_getElem? (i := 482) (by decide +kernel))
theorem sr_142 : Cond.stringRef RX4 142 "give and want are the same" ∈ lw_tbl := List.mem_append_right _ (List.mem_of_getElem? (i := 490) (by decide +kernel))
theorem sr_144 : Cond.stringRef RX4 144 "the airline does not own what it gives" ∈ lw_tbl := List.mem_append_right _ (List.mem_of_getElem? (i := 491) (by decide +kernel))
theorem sr_147 : Cond.stringRef RX4 147 "no room for an offer" ∈ lw_tbl := List.mem_append_right _ (List.mem_of_getElem? (i := 492) (by decide +kernel))
theorem sr_150 : Cond.stringRef RX4 150 "no such offer" ∈ lw_tbl := List.mem_append_right _ (List.mem_of_getElem? (i := 504) (by decide +kernel))
theorem sr_187 : Cond.stringRef RX4 187 "no such entry" ∈ lw_tbl := List.mem_append_right _ (List.mem_of_getElem? (i := 544) (by decide +kernel))
theorem sr_200 : Cond.stringRef RX4 200 "an entry has no such part" ∈ lw_tbl := List.mem_append_right _ (List.mem_of_getElem? (i := 551) (by decide +kernel))
theorem sr_202 : Cond.stringRef RX4 202 "no such flight" ∈ lw_tbl := List.mem_append_right _ (List.mem_of_getElem? (i := 406) (by decide +kernel))
theorem sr_204 : Cond.stringRef RX4 204 "no such airline" ∈ lw_tbl := List.mem_append_right _ (List.mem_of_getElem? (i := 380) (by decide +kernel))
theorem sr_211 : Cond.stringRef RX4 211 "no slot at that minute" ∈ lw_tbl := List.mem_append_right _ (List.mem_of_getElem? (i := 428) (by decide +kernel))
theorem sr_217 : Cond.stringRef RX4 217 "cancelled or airborne" ∈ lw_tbl := List.mem_append_right _ (List.mem_of_getElem? (i := 453) (by decide +kernel))
theorem nw_18 : Cond.methodLinkNest "LandingSlots" 18 ⟨"LandingSlots$Flights", "<init>", "()V"⟩ "LandingSlots" ∈ lw_tbl := List.mem_append_right _ (List.mem_of_getElem? (i := 49) (by decide +kernel))
theorem nw_25 : Cond.methodLinkNest "LandingSlots" 25 ⟨"LandingSlots$Offers", "<init>", "()V"⟩ "LandingSlots" ∈ lw_tbl := List.mem_append_right _ (List.mem_of_getElem? (i := 88) (by decide +kernel))
theorem nw_32 : Cond.methodLinkNest "LandingSlots" 32 ⟨"LandingSlots$Entries", "<init>", "()V"⟩ "LandingSlots" ∈ lw_tbl := List.mem_append_right _ (List.mem_of_getElem? (i := 115) (by decide +kernel))
theorem xstr {own tx : String} {k : Nat} {A : Array Value} {U : State} (h1 : (Cond.stringRef own k tx).before A U = true) (h2 : (Cond.exactly (.string own k) "java/lang/String").before A U = true) : ∃ sa : Nat, vk_R own k tx sa U := by
  obtain ⟨a, c, cell, kk, e1, -⟩ := Cond.exactly_spec h2
  exact ⟨a, vk_R.of h1 e1⟩
set_option maxHeartbeats 8000000 in
set_option maxRecDepth 100000 in
theorem xknow {A : Array Value} {s : State} (hts : ∀ w ∈ lw_tbl, w.before A s = true) (hgv : (Jvm.Cond.and given_1 narrow_1).before A s = true) : ∃ (D : va_G) (k : Nat → ClassId), xG D k s ∧ xSt s ∧ xN s ∧ ∀ w ∈ xnest, va_Nw w s := by
  have hE : xE s := xE.of hts
  have hs := flat_of_before _ hgv
  obtain ⟨c0, i0, h0⟩ := u_known (C := RX0) (T := TX0) (N := 5) (hwX0 (args := A) hE) (fun _ h => h) (hts _ wb_X0)
  obtain ⟨c1, i1, h1⟩ := u_known (C := RX1) (T := TX1) (N := 8) (hwX1 (args := A) hE) (fun _ h => h) (hts _ wb_X1)
  obtain ⟨c2, i2, h2⟩ := u_known (C := RX2) (T := TX2) (N := 5) (hwX2 (args := A) hE) (fun _ h => h) (hts _ wb_X2)
  obtain ⟨c3, i3, h3⟩ := u_known (C := RX3) (T := TX3) (N := 3) (hwX3 (args := A) hE) (fun _ h => h) (hts _ wb_X3)
  obtain ⟨c4, i4, h4⟩ := u_known (C := RX4) (T := TX4) (N := 4) (hwX4 (args := A) hE) (fun _ h => h) (hts _ wb_X4)
  obtain ⟨c5, i5, h5⟩ := u_known (C := RX5) (T := TX5) (N := 19) (hwX5 (args := A) hE) (fun _ h => h) (hts _ wb_X5)
  obtain ⟨k0, K0, C0, e0, f0, g0⟩ := Cond.arrayClass_spec (hts _ wa_int)
  obtain ⟨k1, K1, C1, e1, f1, g1⟩ := Cond.arrayClass_spec (hts _ wa_boolean)
  obtain ⟨k2, K2, C2, e2, f2, g2⟩ := Cond.arrayClass_spec (hts _ wa_long)
  refine ⟨(fun c => match c with | 0 => c0 | 1 => c1 | 2 => c2 | 3 => c3 | 4 => c4 | _ => c5, fun c => match c with | 0 => i0 | 1 => i1 | 2 => i2 | 3 => i3 | 4 => i4 | _ => i5), (fun z => match z with | 0 => k0 | 1 => k1 | _ => k2), ⟨⟨?_, ?_⟩, hE, ?_⟩, ⟨xL.of (hts _ ls_1) (hs _ (by decide +kernel)), xL.of (hts _ ls_2) (hs _ (by decide +kernel))⟩, ?_, ?_⟩
  · intro c q hq
    rcases c with _ | _ | _ | _ | _ | _ | c
    · obtain rfl := Option.some.inj (show some (RX0, TX0, 5) = some q from hq)
      exact h0
    · obtain rfl := Option.some.inj (show some (RX1, TX1, 8) = some q from hq)
      exact h1
    · obtain rfl := Option.some.inj (show some (RX2, TX2, 5) = some q from hq)
      exact h2
    · obtain rfl := Option.some.inj (show some (RX3, TX3, 3) = some q from hq)
      exact h3
    · obtain rfl := Option.some.inj (show some (RX4, TX4, 4) = some q from hq)
      exact h4
    · obtain rfl := Option.some.inj (show some (RX5, TX5, 19) = some q from hq)
      exact h5
    · cases hq
  · intro z q hq
    rcases z with _ | _ | _ | z
    · obtain rfl := Option.some.inj (show some (k0, FieldType.int) = some q from hq)
      exact ⟨fun n z => ⟨fun k h => (by cases h), K0, f0, C0, g0⟩, e0⟩
    · obtain rfl := Option.some.inj (show some (k1, FieldType.boolean) = some q from hq)
      exact ⟨fun n z => ⟨fun k h => (by cases h), K1, f1, C1, g1⟩, e1⟩
    · obtain rfl := Option.some.inj (show some (k2, FieldType.long) = some q from hq)
      exact ⟨fun n z => ⟨fun k h => (by cases h), K2, f2, C2, g2⟩, e2⟩
    · cases hq
  · intro z hz
    simp only [xstrs, List.mem_cons, List.not_mem_nil, or_false] at hz
    rcases hz with rfl | rfl | rfl | rfl | rfl | rfl | rfl | rfl | rfl | rfl | rfl | rfl | rfl | rfl | rfl | rfl | rfl | rfl | rfl | rfl
    · exact xstr (hts _ sr_39) (hs _ (by decide +kernel))
    · exact xstr (hts _ sr_44) (hs _ (by decide +kernel))
    · exact xstr (hts _ sr_52) (hs _ (by decide +kernel))
    · exact xstr (hts _ sr_67) (hs _ (by decide +kernel))
    · exact xstr (hts _ sr_75) (hs _ (by decide +kernel))
    · exact xstr (hts _ sr_81) (hs _ (by decide +kernel))
    · exact xstr (hts _ sr_122) (hs _ (by decide +kernel))
    · exact xstr (hts _ sr_127) (hs _ (by decide +kernel))
    · exact xstr (hts _ sr_129) (hs _ (by decide +kernel))
    · exact xstr (hts _ sr_134) (hs _ (by decide +kernel))
    · exact xstr (hts _ sr_142) (hs _ (by decide +kernel))
    · exact xstr (hts _ sr_144) (hs _ (by decide +kernel))
    · exact xstr (hts _ sr_147) (hs _ (by decide +kernel))
    · exact xstr (hts _ sr_150) (hs _ (by decide +kernel))
    · exact xstr (hts _ sr_187) (hs _ (by decide +kernel))
    · exact xstr (hts _ sr_200) (hs _ (by decide +kernel))
    · exact xstr (hts _ sr_202) (hs _ (by decide +kernel))
    · exact xstr (hts _ sr_204) (hs _ (by decide +kernel))
    · exact xstr (hts _ sr_211) (hs _ (by decide +kernel))
    · exact xstr (hts _ sr_217) (hs _ (by decide +kernel))
  · intro z hz
    simp only [xncs, List.mem_cons, List.not_mem_nil, or_false] at hz
    rcases hz with rfl | rfl | rfl | rfl
    all_goals exact va_Nc.of (hs _ (by decide +kernel))
  · intro w hw
    simp only [xnest, List.mem_cons, List.not_mem_nil, or_false] at hw
    rcases hw with rfl | rfl | rfl
    · exact va_Nw.of rfl (hts _ nw_18)
    · exact va_Nw.of rfl (hts _ nw_25)
    · exact va_Nw.of rfl (hts _ nw_32)
