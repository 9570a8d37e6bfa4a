theorem fl_X0_24 : Cond.fieldLink RX0 24 "LandingSlots$Entries" "count" "I" ∈ lw_tbl := List.mem_append_right _ (List.mem_of_getElem? (i := 127) (by decide +kernel))
theorem fl_X0_21 : Cond.fieldLink RX0 21 "LandingSlots$Entries" "to" "[I" ∈ lw_tbl := List.mem_append_right _ (List.mem_of_getElem? (i := 125) (by decide +kernel))
theorem fl_X0_18 : Cond.fieldLink RX0 18 "LandingSlots$Entries" "from" "[I" ∈ lw_tbl := List.mem_append_right _ (List.mem_of_getElem? (i := 123) (by decide +kernel))
theorem fl_X0_15 : Cond.fieldLink RX0 15 "LandingSlots$Entries" "flight" "[I" ∈ lw_tbl := List.mem_append_right _ (List.mem_of_getElem? (i := 121) (by decide +kernel))
theorem fl_X0_9 : Cond.fieldLink RX0 9 "LandingSlots$Entries" "kind" "[I" ∈ lw_tbl := List.mem_append_right _ (List.mem_of_getElem? (i := 119) (by decide +kernel))
theorem fl_X1_31 : Cond.fieldLink RX1 31 "LandingSlots$Flights" "bySchedule" "[I" ∈ lw_tbl := List.mem_append_right _ (List.mem_of_getElem? (i := 65) (by decide +kernel))
theorem fl_X1_15 : Cond.fieldLink RX1 15 "LandingSlots$Flights" "scheduled" "[I" ∈ lw_tbl := List.mem_append_right _ (List.mem_of_getElem? (i := 55) (by decide +kernel))
theorem fx_X1_insertBySchedule : (yX1_insertBySchedule.cls ≠ "java/lang/invoke/MethodHandle" ∧ yX1_insertBySchedule.cls ≠ "java/lang/invoke/VarHandle") ∧ ∀ sig, parseMethodDescriptor yX1_insertBySchedule.desc = some sig → 1 = sig.parameters.length := ⟨⟨by decide +kernel, by decide +kernel⟩, xnp (by decide +kernel)⟩
theorem ml_X1_38 : Cond.methodLink RX1 38 yX1_insertBySchedule ∈ lw_tbl := List.mem_append_right _ (List.mem_of_getElem? (i := 391) (by decide +kernel))
theorem wi_X1_insertBySchedule : Cond.instanceMethod yX1_insertBySchedule ∈ lw_tbl := List.mem_append_right _ (List.mem_of_getElem? (i := 393) (by decide +kernel))
theorem wz_X1_insertBySchedule : Cond.selects RX1 yX1_insertBySchedule yX1_insertBySchedule ∈ lw_tbl := by decide +kernel
theorem wc_X1_insertBySchedule : Cond.code yX1_insertBySchedule cX1_insertBySchedule 3 none ∈ lw_tbl := List.mem_append_right _ (List.mem_of_getElem? (i := 394) (by decide +kernel))
theorem wn_X1 : Cond.initialized RX1 ∈ lw_tbl := List.mem_append_right _ (List.mem_of_getElem? (i := 4) (by decide +kernel))
theorem fl_X1_34 : Cond.fieldLink RX1 34 "LandingSlots$Flights" "count" "I" ∈ lw_tbl := List.mem_append_right _ (List.mem_of_getElem? (i := 67) (by decide +kernel))
theorem fl_X1_21 : Cond.fieldLink RX1 21 "LandingSlots$Flights" "slot" "[I" ∈ lw_tbl := List.mem_append_right _ (List.mem_of_getElem? (i := 59) (by decide +kernel))
theorem fl_X1_18 : Cond.fieldLink RX1 18 "LandingSlots$Flights" "earliest" "[I" ∈ lw_tbl := List.mem_append_right _ (List.mem_of_getElem? (i := 57) (by decide +kernel))
theorem fl_X1_9 : Cond.fieldLink RX1 9 "LandingSlots$Flights" "airline" "[I" ∈ lw_tbl := List.mem_append_right _ (List.mem_of_getElem? (i := 53) (by decide +kernel))
theorem fl_X1_24 : Cond.fieldLink RX1 24 "LandingSlots$Flights" "cancelled" "[Z" ∈ lw_tbl := List.mem_append_right _ (List.mem_of_getElem? (i := 61) (by decide +kernel))
theorem fl_X1_28 : Cond.fieldLink RX1 28 "LandingSlots$Flights" "airborne" "[Z" ∈ lw_tbl := List.mem_append_right _ (List.mem_of_getElem? (i := 63) (by decide +kernel))
theorem fl_X2_25 : Cond.fieldLink RX2 25 "LandingSlots$Offers" "count" "I" ∈ lw_tbl := List.mem_append_right _ (List.mem_of_getElem? (i := 100) (by decide +kernel))
theorem fl_X2_21 : Cond.fieldLink RX2 21 "LandingSlots$Offers" "standing" "[Z" ∈ lw_tbl := List.mem_append_right _ (List.mem_of_getElem? (i := 98) (by decide +kernel))
theorem fl_X2_18 : Cond.fieldLink RX2 18 "LandingSlots$Offers" "want" "[I" ∈ lw_tbl := List.mem_append_right _ (List.mem_of_getElem? (i := 96) (by decide +kernel))
theorem fl_X2_15 : Cond.fieldLink RX2 15 "LandingSlots$Offers" "give" "[I" ∈ lw_tbl := List.mem_append_right _ (List.mem_of_getElem? (i := 94) (by decide +kernel))
theorem fl_X2_9 : Cond.fieldLink RX2 9 "LandingSlots$Offers" "airline" "[I" ∈ lw_tbl := List.mem_append_right _ (List.mem_of_getElem? (i := 92) (by decide +kernel))
theorem fl_X3_9 : Cond.fieldLink RX3 9 "LandingSlots$Slots" "open" "[Z" ∈ lw_tbl := List.mem_append_right _ (List.mem_of_getElem? (i := 33) (by decide +kernel))
theorem fl_X3_15 : Cond.fieldLink RX3 15 "LandingSlots$Slots" "owner" "[I" ∈ lw_tbl := List.mem_append_right _ (List.mem_of_getElem? (i := 34) (by decide +kernel))
theorem fx_X3_isSlot : (yX3_isSlot.cls ≠ "java/lang/invoke/MethodHandle" ∧ yX3_isSlot.cls ≠ "java/lang/invoke/VarHandle") ∧ ∀ sig, parseMethodDescriptor yX3_isSlot.desc = some sig → 1 = sig.parameters.length := ⟨⟨by decide +kernel, by decide +kernel⟩, xnp (by decide +kernel)⟩
theorem ml_X3_28 : Cond.methodLink RX3 28 yX3_isSlot ∈ lw_tbl := List.mem_append_right _ (List.mem_of_getElem? (i := 185) (by decide +kernel))
theorem wi_X3_isSlot : Cond.instanceMethod yX3_isSlot ∈ lw_tbl := List.mem_append_right _ (List.mem_of_getElem? (i := 186) (by decide +kernel))
theorem wz_X3_isSlot : Cond.selects RX3 yX3_isSlot yX3_isSlot ∈ lw_tbl := List.mem_append_right _ (List.mem_of_getElem? (i := 187) (by decide +kernel))
theorem wc_X3_isSlot : Cond.code yX3_isSlot cX3_isSlot 2 (some .boolean) ∈ lw_tbl := List.mem_append_right _ (List.mem_of_getElem? (i := 188) (by decide +kernel))
theorem wn_X3 : Cond.initialized RX3 ∈ lw_tbl := List.mem_append_right _ (List.mem_of_getElem? (i := 2) (by decide +kernel))
theorem fl_X3_19 : Cond.fieldLink RX3 19 "LandingSlots$Slots" "flight" "[I" ∈ lw_tbl := List.mem_append_right _ (List.mem_of_getElem? (i := 36) (by decide +kernel))
theorem fx_X3_isOffsetAtRate : (yX3_isOffsetAtRate.cls ≠ "java/lang/invoke/MethodHandle" ∧ yX3_isOffsetAtRate.cls ≠ "java/lang/invoke/VarHandle") ∧ ∀ sig, parseMethodDescriptor yX3_isOffsetAtRate.desc = some sig → 2 = sig.parameters.length := ⟨⟨by decide +kernel, by decide +kernel⟩, xnp (by decide +kernel)⟩
theorem ml_X3_32 : Cond.methodLink RX3 32 yX3_isOffsetAtRate ∈ lw_tbl := List.mem_append_right _ (List.mem_of_getElem? (i := 368) (by decide +kernel))
theorem wt_X3_isOffsetAtRate : Cond.static yX3_isOffsetAtRate ∈ lw_tbl := List.mem_append_right _ (List.mem_of_getElem? (i := 346) (by decide +kernel))
theorem wc_X3_isOffsetAtRate : Cond.code yX3_isOffsetAtRate cX3_isOffsetAtRate 3 (some .boolean) ∈ lw_tbl := List.mem_append_right _ (List.mem_of_getElem? (i := 347) (by decide +kernel))
set_option maxRecDepth 100000 in
theorem tw_X4_41 : ((Bundle.ownAtoms RX4 41 "java/lang/IllegalArgumentException" ["java/lang/RuntimeException", "java/lang/Exception"]).filter xno).all (fun w => decide (w ∈ lw_tbl) && xok w) = true := by decide +kernel
theorem kl_X4_37 : Cond.classLink RX4 37 "java/lang/IllegalArgumentException" ∈ lw_tbl := List.mem_append_right _ (List.mem_of_getElem? (i := 271) (by decide +kernel))
theorem wn_IllegalArgumentException : Cond.initialized "java/lang/IllegalArgumentException" ∈ lw_tbl := List.mem_append_right _ (List.mem_of_getElem? (i := 11) (by decide +kernel))
theorem fl_X4_19 : Cond.fieldLink RX4 19 "LandingSlots" "flights" "LLandingSlots$Flights;" ∈ lw_tbl := List.mem_append_right _ (List.mem_of_getElem? (i := 141) (by decide +kernel))
theorem fl_X4_77 : Cond.fieldLink RX4 77 "LandingSlots$Flights" "count" "I" ∈ lw_tbl := List.mem_append_right _ (List.mem_of_getElem? (i := 68) (by decide +kernel))
set_option maxRecDepth 100000 in
theorem tw_X4_54 : ((Bundle.ownAtoms RX4 54 "java/lang/IllegalStateException" ["java/lang/RuntimeException", "java/lang/Exception"]).filter xno).all (fun w => decide (w ∈ lw_tbl) && xok w) = true := by decide +kernel
theorem kl_X4_50 : Cond.classLink RX4 50 "java/lang/IllegalStateException" ∈ lw_tbl := List.mem_append_right _ (List.mem_of_getElem? (i := 348) (by decide +kernel))
theorem wn_IllegalStateException : Cond.initialized "java/lang/IllegalStateException" ∈ lw_tbl := List.mem_append_right _ (List.mem_of_getElem? (i := 12) (by decide +kernel))
theorem fx_X4_checkFlight : (yX4_checkFlight.cls ≠ "java/lang/invoke/MethodHandle" ∧ yX4_checkFlight.cls ≠ "java/lang/invoke/VarHandle") ∧ ∀ sig, parseMethodDescriptor yX4_checkFlight.desc = some sig → 1 = sig.parameters.length := ⟨⟨by decide +kernel, by decide +kernel⟩, xnp (by decide +kernel)⟩
theorem ml_X4_87 : Cond.methodLink RX4 87 yX4_checkFlight ∈ lw_tbl := List.mem_append_right _ (List.mem_of_getElem? (i := 402) (by decide +kernel))
theorem wi_X4_checkFlight : Cond.instanceMethod yX4_checkFlight ∈ lw_tbl := List.mem_append_right _ (List.mem_of_getElem? (i := 404) (by decide +kernel))
theorem wz_X4_checkFlight : Cond.selects RX4 yX4_checkFlight yX4_checkFlight ∈ lw_tbl := by decide +kernel
theorem wc_X4_checkFlight : Cond.code yX4_checkFlight cX4_checkFlight 2 none ∈ lw_tbl := List.mem_append_right _ (List.mem_of_getElem? (i := 405) (by decide +kernel))
theorem wn_X4 : Cond.initialized RX4 ∈ lw_tbl := List.mem_append_right _ (List.mem_of_getElem? (i := 1) (by decide +kernel))
theorem fl_X4_119 : Cond.fieldLink RX4 119 "LandingSlots$Flights" "airborne" "[Z" ∈ lw_tbl := List.mem_append_right _ (List.mem_of_getElem? (i := 64) (by decide +kernel))
theorem fl_X4_90 : Cond.fieldLink RX4 90 "LandingSlots$Flights" "slot" "[I" ∈ lw_tbl := List.mem_append_right _ (List.mem_of_getElem? (i := 60) (by decide +kernel))
theorem fx_X1_isPlannable : (yX1_isPlannable.cls ≠ "java/lang/invoke/MethodHandle" ∧ yX1_isPlannable.cls ≠ "java/lang/invoke/VarHandle") ∧ ∀ sig, parseMethodDescriptor yX1_isPlannable.desc = some sig → 1 = sig.parameters.length := ⟨⟨by decide +kernel, by decide +kernel⟩, xnp (by decide +kernel)⟩
theorem ml_X4_214 : Cond.methodLink RX4 214 yX1_isPlannable ∈ lw_tbl := List.mem_append_right _ (List.mem_of_getElem? (i := 173) (by decide +kernel))
theorem wi_X1_isPlannable : Cond.instanceMethod yX1_isPlannable ∈ lw_tbl := List.mem_append_right _ (List.mem_of_getElem? (i := 174) (by decide +kernel))
theorem wz_X1_isPlannable : Cond.selects RX1 yX1_isPlannable yX1_isPlannable ∈ lw_tbl := List.mem_append_right _ (List.mem_of_getElem? (i := 175) (by decide +kernel))
theorem wc_X1_isPlannable : Cond.code yX1_isPlannable cX1_isPlannable 2 (some .boolean) ∈ lw_tbl := List.mem_append_right _ (List.mem_of_getElem? (i := 176) (by decide +kernel))
theorem fl_X4_33 : Cond.fieldLink RX4 33 "LandingSlots" "entries" "LLandingSlots$Entries;" ∈ lw_tbl := List.mem_append_right _ (List.mem_of_getElem? (i := 143) (by decide +kernel))
theorem fx_X0_add : (yX0_add.cls ≠ "java/lang/invoke/MethodHandle" ∧ yX0_add.cls ≠ "java/lang/invoke/VarHandle") ∧ ∀ sig, parseMethodDescriptor yX0_add.desc = some sig → 4 = sig.parameters.length := ⟨⟨by decide +kernel, by decide +kernel⟩, xnp (by decide +kernel)⟩
theorem ml_X4_139 : Cond.methodLink RX4 139 yX0_add ∈ lw_tbl := List.mem_append_right _ (List.mem_of_getElem? (i := 218) (by decide +kernel))
theorem wi_X0_add : Cond.instanceMethod yX0_add ∈ lw_tbl := List.mem_append_right _ (List.mem_of_getElem? (i := 219) (by decide +kernel))
theorem wz_X0_add : Cond.selects RX0 yX0_add yX0_add ∈ lw_tbl := List.mem_append_right _ (List.mem_of_getElem? (i := 220) (by decide +kernel))
theorem wc_X0_add : Cond.code yX0_add cX0_add 5 none ∈ lw_tbl := List.mem_append_right _ (List.mem_of_getElem? (i := 221) (by decide +kernel))
theorem wn_X0 : Cond.initialized RX0 ∈ lw_tbl := List.mem_append_right _ (List.mem_of_getElem? (i := 6) (by decide +kernel))
theorem fl_X4_12 : Cond.fieldLink RX4 12 "LandingSlots" "slots" "LLandingSlots$Slots;" ∈ lw_tbl := List.mem_append_right _ (List.mem_of_getElem? (i := 140) (by decide +kernel))
theorem fl_X4_100 : Cond.fieldLink RX4 100 "LandingSlots$Slots" "flight" "[I" ∈ lw_tbl := List.mem_append_right _ (List.mem_of_getElem? (i := 37) (by decide +kernel))
theorem fx_X4_takeOut : (yX4_takeOut.cls ≠ "java/lang/invoke/MethodHandle" ∧ yX4_takeOut.cls ≠ "java/lang/invoke/VarHandle") ∧ ∀ sig, parseMethodDescriptor yX4_takeOut.desc = some sig → 2 = sig.parameters.length := ⟨⟨by decide +kernel, by decide +kernel⟩, xnp (by decide +kernel)⟩
theorem ml_X4_112 : Cond.methodLink RX4 112 yX4_takeOut ∈ lw_tbl := List.mem_append_right _ (List.mem_of_getElem? (i := 454) (by decide +kernel))
theorem wi_X4_takeOut : Cond.instanceMethod yX4_takeOut ∈ lw_tbl := List.mem_append_right _ (List.mem_of_getElem? (i := 456) (by decide +kernel))
theorem wz_X4_takeOut : Cond.selects RX4 yX4_takeOut yX4_takeOut ∈ lw_tbl := by decide +kernel
theorem wc_X4_takeOut : Cond.code yX4_takeOut cX4_takeOut 4 none ∈ lw_tbl := List.mem_append_right _ (List.mem_of_getElem? (i := 457) (by decide +kernel))
theorem fx_X4_checkPlannable : (yX4_checkPlannable.cls ≠ "java/lang/invoke/MethodHandle" ∧ yX4_checkPlannable.cls ≠ "java/lang/invoke/VarHandle") ∧ ∀ sig, parseMethodDescriptor yX4_checkPlannable.desc = some sig → 1 = sig.parameters.length := ⟨⟨by decide +kernel, by decide +kernel⟩, xnp (by decide +kernel)⟩
theorem ml_X4_106 : Cond.methodLink RX4 106 yX4_checkPlannable ∈ lw_tbl := List.mem_append_right _ (List.mem_of_getElem? (i := 449) (by decide +kernel))
theorem wi_X4_checkPlannable : Cond.instanceMethod yX4_checkPlannable ∈ lw_tbl := List.mem_append_right _ (List.mem_of_getElem? (i := 451) (by decide +kernel))
theorem wz_X4_checkPlannable : Cond.selects RX4 yX4_checkPlannable yX4_checkPlannable ∈ lw_tbl := by decide +kernel
theorem wc_X4_checkPlannable : Cond.code yX4_checkPlannable cX4_checkPlannable 2 none ∈ lw_tbl := List.mem_append_right _ (List.mem_of_getElem? (i := 452) (by decide +kernel))
theorem fl_X4_115 : Cond.fieldLink RX4 115 "LandingSlots$Flights" "cancelled" "[Z" ∈ lw_tbl := List.mem_append_right _ (List.mem_of_getElem? (i := 62) (by decide +kernel))
theorem fl_X4_26 : Cond.fieldLink RX4 26 "LandingSlots" "offers" "LLandingSlots$Offers;" ∈ lw_tbl := List.mem_append_right _ (List.mem_of_getElem? (i := 142) (by decide +kernel))
theorem fl_X4_240 : Cond.fieldLink RX4 240 "LandingSlots$Offers" "want" "[I" ∈ lw_tbl := List.mem_append_right _ (List.mem_of_getElem? (i := 97) (by decide +kernel))
theorem fl_X4_237 : Cond.fieldLink RX4 237 "LandingSlots$Offers" "give" "[I" ∈ lw_tbl := List.mem_append_right _ (List.mem_of_getElem? (i := 95) (by decide +kernel))
theorem fl_X4_152 : Cond.fieldLink RX4 152 "LandingSlots$Offers" "standing" "[Z" ∈ lw_tbl := List.mem_append_right _ (List.mem_of_getElem? (i := 99) (by decide +kernel))
theorem fx_X4_putIn : (yX4_putIn.cls ≠ "java/lang/invoke/MethodHandle" ∧ yX4_putIn.cls ≠ "java/lang/invoke/VarHandle") ∧ ∀ sig, parseMethodDescriptor yX4_putIn.desc = some sig → 2 = sig.parameters.length := ⟨⟨by decide +kernel, by decide +kernel⟩, xnp (by decide +kernel)⟩
theorem ml_X4_136 : Cond.methodLink RX4 136 yX4_putIn ∈ lw_tbl := List.mem_append_right _ (List.mem_of_getElem? (i := 189) (by decide +kernel))
theorem wi_X4_putIn : Cond.instanceMethod yX4_putIn ∈ lw_tbl := List.mem_append_right _ (List.mem_of_getElem? (i := 191) (by decide +kernel))
theorem wz_X4_putIn : Cond.selects RX4 yX4_putIn yX4_putIn ∈ lw_tbl := by decide +kernel
theorem wc_X4_putIn : Cond.code yX4_putIn cX4_putIn 3 none ∈ lw_tbl := List.mem_append_right _ (List.mem_of_getElem? (i := 192) (by decide +kernel))
theorem fl_X4_97 : Cond.fieldLink RX4 97 "LandingSlots$Slots" "owner" "[I" ∈ lw_tbl := List.mem_append_right _ (List.mem_of_getElem? (i := 35) (by decide +kernel))
theorem fx_X1_canUse : (yX1_canUse.cls ≠ "java/lang/invoke/MethodHandle" ∧ yX1_canUse.cls ≠ "java/lang/invoke/VarHandle") ∧ ∀ sig, parseMethodDescriptor yX1_canUse.desc = some sig → 2 = sig.parameters.length := ⟨⟨by decide +kernel, by decide +kernel⟩, xnp (by decide +kernel)⟩
theorem ml_X4_109 : Cond.methodLink RX4 109 yX1_canUse ∈ lw_tbl := List.mem_append_right _ (List.mem_of_getElem? (i := 206) (by decide +kernel))
theorem wi_X1_canUse : Cond.instanceMethod yX1_canUse ∈ lw_tbl := List.mem_append_right _ (List.mem_of_getElem? (i := 207) (by decide +kernel))
theorem wz_X1_canUse : Cond.selects RX1 yX1_canUse yX1_canUse ∈ lw_tbl := List.mem_append_right _ (List.mem_of_getElem? (i := 208) (by decide +kernel))
theorem wc_X1_canUse : Cond.code yX1_canUse cX1_canUse 3 (some .boolean) ∈ lw_tbl := List.mem_append_right _ (List.mem_of_getElem? (i := 209) (by decide +kernel))
theorem ml_X4_206 : Cond.methodLink RX4 206 yX3_isSlot ∈ lw_tbl := List.mem_append_right _ (List.mem_of_getElem? (i := 201) (by decide +kernel))
theorem fl_X4_243 : Cond.fieldLink RX4 243 "LandingSlots$Offers" "airline" "[I" ∈ lw_tbl := List.mem_append_right _ (List.mem_of_getElem? (i := 93) (by decide +kernel))
theorem fx_X4_isFrozen : (yX4_isFrozen.cls ≠ "java/lang/invoke/MethodHandle" ∧ yX4_isFrozen.cls ≠ "java/lang/invoke/VarHandle") ∧ ∀ sig, parseMethodDescriptor yX4_isFrozen.desc = some sig → 1 = sig.parameters.length := ⟨⟨by decide +kernel, by decide +kernel⟩, xnp (by decide +kernel)⟩
theorem ml_X4_219 : Cond.methodLink RX4 219 yX4_isFrozen ∈ lw_tbl := List.mem_append_right _ (List.mem_of_getElem? (i := 165) (by decide +kernel))
theorem wi_X4_isFrozen : Cond.instanceMethod yX4_isFrozen ∈ lw_tbl := List.mem_append_right _ (List.mem_of_getElem? (i := 167) (by decide +kernel))
theorem wz_X4_isFrozen : Cond.selects RX4 yX4_isFrozen yX4_isFrozen ∈ lw_tbl := by decide +kernel
theorem wc_X4_isFrozen : Cond.code yX4_isFrozen cX4_isFrozen 3 (some .boolean) ∈ lw_tbl := List.mem_append_right _ (List.mem_of_getElem? (i := 168) (by decide +kernel))
theorem fx_X4_contentCanUse : (yX4_contentCanUse.cls ≠ "java/lang/invoke/MethodHandle" ∧ yX4_contentCanUse.cls ≠ "java/lang/invoke/VarHandle") ∧ ∀ sig, parseMethodDescriptor yX4_contentCanUse.desc = some sig → 2 = sig.parameters.length := ⟨⟨by decide +kernel, by decide +kernel⟩, xnp (by decide +kernel)⟩
theorem ml_X4_244 : Cond.methodLink RX4 244 yX4_contentCanUse ∈ lw_tbl := List.mem_append_right _ (List.mem_of_getElem? (i := 202) (by decide +kernel))
theorem wi_X4_contentCanUse : Cond.instanceMethod yX4_contentCanUse ∈ lw_tbl := List.mem_append_right _ (List.mem_of_getElem? (i := 204) (by decide +kernel))
theorem wz_X4_contentCanUse : Cond.selects RX4 yX4_contentCanUse yX4_contentCanUse ∈ lw_tbl := by decide +kernel
theorem wc_X4_contentCanUse : Cond.code yX4_contentCanUse cX4_contentCanUse 4 (some .boolean) ∈ lw_tbl := List.mem_append_right _ (List.mem_of_getElem? (i := 205) (by decide +kernel))
theorem fl_X4_146 : Cond.fieldLink RX4 146 "LandingSlots$Offers" "count" "I" ∈ lw_tbl := List.mem_append_right _ (List.mem_of_getElem? (i := 101) (by decide +kernel))
theorem fx_X2_areOpposite : (yX2_areOpposite.cls ≠ "java/lang/invoke/MethodHandle" ∧ yX2_areOpposite.cls ≠ "java/lang/invoke/VarHandle") ∧ ∀ sig, parseMethodDescriptor yX2_areOpposite.desc = some sig → 2 = sig.parameters.length := ⟨⟨by decide +kernel, by decide +kernel⟩, xnp (by decide +kernel)⟩
theorem ml_X4_256 : Cond.methodLink RX4 256 yX2_areOpposite ∈ lw_tbl := List.mem_append_right _ (List.mem_of_getElem? (i := 230) (by decide +kernel))
theorem wi_X2_areOpposite : Cond.instanceMethod yX2_areOpposite ∈ lw_tbl := List.mem_append_right _ (List.mem_of_getElem? (i := 231) (by decide +kernel))
theorem wz_X2_areOpposite : Cond.selects RX2 yX2_areOpposite yX2_areOpposite ∈ lw_tbl := List.mem_append_right _ (List.mem_of_getElem? (i := 232) (by decide +kernel))
theorem wc_X2_areOpposite : Cond.code yX2_areOpposite cX2_areOpposite 3 (some .boolean) ∈ lw_tbl := List.mem_append_right _ (List.mem_of_getElem? (i := 233) (by decide +kernel))
theorem wn_X2 : Cond.initialized RX2 ∈ lw_tbl := List.mem_append_right _ (List.mem_of_getElem? (i := 5) (by decide +kernel))
theorem fx_X4_isGood : (yX4_isGood.cls ≠ "java/lang/invoke/MethodHandle" ∧ yX4_isGood.cls ≠ "java/lang/invoke/VarHandle") ∧ ∀ sig, parseMethodDescriptor yX4_isGood.desc = some sig → 1 = sig.parameters.length := ⟨⟨by decide +kernel, by decide +kernel⟩, xnp (by decide +kernel)⟩
theorem ml_X4_155 : Cond.methodLink RX4 155 yX4_isGood ∈ lw_tbl := List.mem_append_right _ (List.mem_of_getElem? (i := 197) (by decide +kernel))
theorem wi_X4_isGood : Cond.instanceMethod yX4_isGood ∈ lw_tbl := List.mem_append_right _ (List.mem_of_getElem? (i := 199) (by decide +kernel))
theorem wz_X4_isGood : Cond.selects RX4 yX4_isGood yX4_isGood ∈ lw_tbl := by decide +kernel
theorem wc_X4_isGood : Cond.code yX4_isGood cX4_isGood 4 (some .boolean) ∈ lw_tbl := List.mem_append_right _ (List.mem_of_getElem? (i := 200) (by decide +kernel))
theorem fx_X4_partnerOf : (yX4_partnerOf.cls ≠ "java/lang/invoke/MethodHandle" ∧ yX4_partnerOf.cls ≠ "java/lang/invoke/VarHandle") ∧ ∀ sig, parseMethodDescriptor yX4_partnerOf.desc = some sig → 1 = sig.parameters.length := ⟨⟨by decide +kernel, by decide +kernel⟩, xnp (by decide +kernel)⟩
theorem ml_X4_253 : Cond.methodLink RX4 253 yX4_partnerOf ∈ lw_tbl := List.mem_append_right _ (List.mem_of_getElem? (i := 226) (by decide +kernel))
theorem wi_X4_partnerOf : Cond.instanceMethod yX4_partnerOf ∈ lw_tbl := List.mem_append_right _ (List.mem_of_getElem? (i := 228) (by decide +kernel))
theorem wz_X4_partnerOf : Cond.selects RX4 yX4_partnerOf yX4_partnerOf ∈ lw_tbl := by decide +kernel
theorem wc_X4_partnerOf : Cond.code yX4_partnerOf cX4_partnerOf 3 (some .int) ∈ lw_tbl := List.mem_append_right _ (List.mem_of_getElem? (i := 229) (by decide +kernel))
theorem fx_X4_endAsTraded : (yX4_endAsTraded.cls ≠ "java/lang/invoke/MethodHandle" ∧ yX4_endAsTraded.cls ≠ "java/lang/invoke/VarHandle") ∧ ∀ sig, parseMethodDescriptor yX4_endAsTraded.desc = some sig → 1 = sig.parameters.length := ⟨⟨by decide +kernel, by decide +kernel⟩, xnp (by decide +kernel)⟩
theorem ml_X4_247 : Cond.methodLink RX4 247 yX4_endAsTraded ∈ lw_tbl := List.mem_append_right _ (List.mem_of_getElem? (i := 214) (by decide +kernel))
theorem wi_X4_endAsTraded : Cond.instanceMethod yX4_endAsTraded ∈ lw_tbl := List.mem_append_right _ (List.mem_of_getElem? (i := 216) (by decide +kernel))
theorem wz_X4_endAsTraded : Cond.selects RX4 yX4_endAsTraded yX4_endAsTraded ∈ lw_tbl := by decide +kernel
theorem wc_X4_endAsTraded : Cond.code yX4_endAsTraded cX4_endAsTraded 3 none ∈ lw_tbl := List.mem_append_right _ (List.mem_of_getElem? (i := 217) (by decide +kernel))
theorem fx_X4_exchange : (yX4_exchange.cls ≠ "java/lang/invoke/MethodHandle" ∧ yX4_exchange.cls ≠ "java/lang/invoke/VarHandle") ∧ ∀ sig, parseMethodDescriptor yX4_exchange.desc = some sig → 2 = sig.parameters.length := ⟨⟨by decide +kernel, by decide +kernel⟩, xnp (by decide +kernel)⟩
theorem ml_X4_250 : Cond.methodLink RX4 250 yX4_exchange ∈ lw_tbl := List.mem_append_right _ (List.mem_of_getElem? (i := 222) (by decide +kernel))
theorem wi_X4_exchange : Cond.instanceMethod yX4_exchange ∈ lw_tbl := List.mem_append_right _ (List.mem_of_getElem? (i := 224) (by decide +kernel))
theorem wz_X4_exchange : Cond.selects RX4 yX4_exchange yX4_exchange ∈ lw_tbl := by decide +kernel
theorem wc_X4_exchange : Cond.code yX4_exchange cX4_exchange 5 none ∈ lw_tbl := List.mem_append_right _ (List.mem_of_getElem? (i := 225) (by decide +kernel))
theorem fx_X4_checkAirline : (yX4_checkAirline.cls ≠ "java/lang/invoke/MethodHandle" ∧ yX4_checkAirline.cls ≠ "java/lang/invoke/VarHandle") ∧ ∀ sig, parseMethodDescriptor yX4_checkAirline.desc = some sig → 1 = sig.parameters.length := ⟨⟨by decide +kernel, by decide +kernel⟩, xnp (by decide +kernel)⟩
theorem ml_X4_63 : Cond.methodLink RX4 63 yX4_checkAirline ∈ lw_tbl := List.mem_append_right _ (List.mem_of_getElem? (i := 376) (by decide +kernel))
theorem wi_X4_checkAirline : Cond.instanceMethod yX4_checkAirline ∈ lw_tbl := List.mem_append_right _ (List.mem_of_getElem? (i := 378) (by decide +kernel))
theorem wz_X4_checkAirline : Cond.selects RX4 yX4_checkAirline yX4_checkAirline ∈ lw_tbl := by decide +kernel
theorem wc_X4_checkAirline : Cond.code yX4_checkAirline cX4_checkAirline 2 none ∈ lw_tbl := List.mem_append_right _ (List.mem_of_getElem? (i := 379) (by decide +kernel))
set_option maxRecDepth 100000 in
theorem tw_X4_213 : ((xatoms RX4 213 "java/util/NoSuchElementException" "java/lang/RuntimeException" 13 prog_17_method_4_code ["java/lang/Exception"]).filter xno).all (fun w => decide (w ∈ lw_tbl) && xok w) = true := by decide +kernel
theorem kl_X4_209 : Cond.classLink RX4 209 "java/util/NoSuchElementException" ∈ lw_tbl := List.mem_append_right _ (List.mem_of_getElem? (i := 419) (by decide +kernel))
theorem wn_NoSuchElementException : Cond.initialized "java/util/NoSuchElementException" ∈ lw_tbl := List.mem_append_right _ (List.mem_of_getElem? (i := 14) (by decide +kernel))
theorem fx_X4_couldMove : (yX4_couldMove.cls ≠ "java/lang/invoke/MethodHandle" ∧ yX4_couldMove.cls ≠ "java/lang/invoke/VarHandle") ∧ ∀ sig, parseMethodDescriptor yX4_couldMove.desc = some sig → 2 = sig.parameters.length := ⟨⟨by decide +kernel, by decide +kernel⟩, xnp (by decide +kernel)⟩
theorem ml_X4_131 : Cond.methodLink RX4 131 yX4_couldMove ∈ lw_tbl := List.mem_append_right _ (List.mem_of_getElem? (i := 242) (by decide +kernel))
theorem wi_X4_couldMove : Cond.instanceMethod yX4_couldMove ∈ lw_tbl := List.mem_append_right _ (List.mem_of_getElem? (i := 244) (by decide +kernel))
theorem wz_X4_couldMove : Cond.selects RX4 yX4_couldMove yX4_couldMove ∈ lw_tbl := by decide +kernel
theorem wc_X4_couldMove : Cond.code yX4_couldMove cX4_couldMove 3 (some .boolean) ∈ lw_tbl := List.mem_append_right _ (List.mem_of_getElem? (i := 245) (by decide +kernel))
theorem fl_X4_124 : Cond.fieldLink RX4 124 "LandingSlots$Flights" "airline" "[I" ∈ lw_tbl := List.mem_append_right _ (List.mem_of_getElem? (i := 54) (by decide +kernel))
theorem fx_X3_isEmpty : (yX3_isEmpty.cls ≠ "java/lang/invoke/MethodHandle" ∧ yX3_isEmpty.cls ≠ "java/lang/invoke/VarHandle") ∧ ∀ sig, parseMethodDescriptor yX3_isEmpty.desc = some sig → 1 = sig.parameters.length := ⟨⟨by decide +kernel, by decide +kernel⟩, xnp (by decide +kernel)⟩
theorem ml_X4_169 : Cond.methodLink RX4 169 yX3_isEmpty ∈ lw_tbl := List.mem_append_right _ (List.mem_of_getElem? (i := 181) (by decide +kernel))
theorem wi_X3_isEmpty : Cond.instanceMethod yX3_isEmpty ∈ lw_tbl := List.mem_append_right _ (List.mem_of_getElem? (i := 182) (by decide +kernel))
theorem wz_X3_isEmpty : Cond.selects RX3 yX3_isEmpty yX3_isEmpty ∈ lw_tbl := List.mem_append_right _ (List.mem_of_getElem? (i := 183) (by decide +kernel))
theorem wc_X3_isEmpty : Cond.code yX3_isEmpty cX3_isEmpty 2 (some .boolean) ∈ lw_tbl := List.mem_append_right _ (List.mem_of_getElem? (i := 184) (by decide +kernel))
theorem fx_X4_flightToMoveTo : (yX4_flightToMoveTo.cls ≠ "java/lang/invoke/MethodHandle" ∧ yX4_flightToMoveTo.cls ≠ "java/lang/invoke/VarHandle") ∧ ∀ sig, parseMethodDescriptor yX4_flightToMoveTo.desc = some sig → 1 = sig.parameters.length := ⟨⟨by decide +kernel, by decide +kernel⟩, xnp (by decide +kernel)⟩
theorem ml_X4_163 : Cond.methodLink RX4 163 yX4_flightToMoveTo ∈ lw_tbl := List.mem_append_right _ (List.mem_of_getElem? (i := 238) (by decide +kernel))
theorem wi_X4_flightToMoveTo : Cond.instanceMethod yX4_flightToMoveTo ∈ lw_tbl := List.mem_append_right _ (List.mem_of_getElem? (i := 240) (by decide +kernel))
theorem wz_X4_flightToMoveTo : Cond.selects RX4 yX4_flightToMoveTo yX4_flightToMoveTo ∈ lw_tbl := by decide +kernel
theorem wc_X4_flightToMoveTo : Cond.code yX4_flightToMoveTo cX4_flightToMoveTo 5 (some .int) ∈ lw_tbl := List.mem_append_right _ (List.mem_of_getElem? (i := 241) (by decide +kernel))
theorem fx_X4_moveForward : (yX4_moveForward.cls ≠ "java/lang/invoke/MethodHandle" ∧ yX4_moveForward.cls ≠ "java/lang/invoke/VarHandle") ∧ ∀ sig, parseMethodDescriptor yX4_moveForward.desc = some sig → 2 = sig.parameters.length := ⟨⟨by decide +kernel, by decide +kernel⟩, xnp (by decide +kernel)⟩
theorem ml_X4_166 : Cond.methodLink RX4 166 yX4_moveForward ∈ lw_tbl := List.mem_append_right _ (List.mem_of_getElem? (i := 246) (by decide +kernel))
theorem wi_X4_moveForward : Cond.instanceMethod yX4_moveForward ∈ lw_tbl := List.mem_append_right _ (List.mem_of_getElem? (i := 248) (by decide +kernel))
theorem wz_X4_moveForward : Cond.selects RX4 yX4_moveForward yX4_moveForward ∈ lw_tbl := by decide +kernel
theorem wc_X4_moveForward : Cond.code yX4_moveForward cX4_moveForward 6 none ∈ lw_tbl := List.mem_append_right _ (List.mem_of_getElem? (i := 249) (by decide +kernel))
theorem fl_X4_178 : Cond.fieldLink RX4 178 "LandingSlots$Flights" "scheduled" "[I" ∈ lw_tbl := List.mem_append_right _ (List.mem_of_getElem? (i := 56) (by decide +kernel))
theorem fx_X4_checkAirlineOrNone : (yX4_checkAirlineOrNone.cls ≠ "java/lang/invoke/MethodHandle" ∧ yX4_checkAirlineOrNone.cls ≠ "java/lang/invoke/VarHandle") ∧ ∀ sig, parseMethodDescriptor yX4_checkAirlineOrNone.desc = some sig → 1 = sig.parameters.length := ⟨⟨by decide +kernel, by decide +kernel⟩, xnp (by decide +kernel)⟩
theorem ml_X4_175 : Cond.methodLink RX4 175 yX4_checkAirlineOrNone ∈ lw_tbl := List.mem_append_right _ (List.mem_of_getElem? (i := 512) (by decide +kernel))
theorem wi_X4_checkAirlineOrNone : Cond.instanceMethod yX4_checkAirlineOrNone ∈ lw_tbl := List.mem_append_right _ (List.mem_of_getElem? (i := 514) (by decide +kernel))
theorem wz_X4_checkAirlineOrNone : Cond.selects RX4 yX4_checkAirlineOrNone yX4_checkAirlineOrNone ∈ lw_tbl := by decide +kernel
theorem wc_X4_checkAirlineOrNone : Cond.code yX4_checkAirlineOrNone cX4_checkAirlineOrNone 2 none ∈ lw_tbl := List.mem_append_right _ (List.mem_of_getElem? (i := 515) (by decide +kernel))
set_option maxRecDepth 100000 in
theorem tw_X4_189 : ((Bundle.ownAtoms RX4 189 "java/lang/IndexOutOfBoundsException" ["java/lang/RuntimeException", "java/lang/Exception"]).filter xno).all (fun w => decide (w ∈ lw_tbl) && xok w) = true := by decide +kernel
theorem kl_X4_185 : Cond.classLink RX4 185 "java/lang/IndexOutOfBoundsException" ∈ lw_tbl := List.mem_append_right _ (List.mem_of_getElem? (i := 535) (by decide +kernel))
theorem wn_IndexOutOfBoundsException : Cond.initialized "java/lang/IndexOutOfBoundsException" ∈ lw_tbl := List.mem_append_right _ (List.mem_of_getElem? (i := 15) (by decide +kernel))
theorem fl_X4_184 : Cond.fieldLink RX4 184 "LandingSlots$Entries" "count" "I" ∈ lw_tbl := List.mem_append_right _ (List.mem_of_getElem? (i := 128) (by decide +kernel))
theorem fl_X4_190 : Cond.fieldLink RX4 190 "LandingSlots$Entries" "kind" "[I" ∈ lw_tbl := List.mem_append_right _ (List.mem_of_getElem? (i := 120) (by decide +kernel))
theorem fl_X4_193 : Cond.fieldLink RX4 193 "LandingSlots$Entries" "flight" "[I" ∈ lw_tbl := List.mem_append_right _ (List.mem_of_getElem? (i := 122) (by decide +kernel))
theorem fl_X4_194 : Cond.fieldLink RX4 194 "LandingSlots$Entries" "from" "[I" ∈ lw_tbl := List.mem_append_right _ (List.mem_of_getElem? (i := 124) (by decide +kernel))
theorem fl_X4_197 : Cond.fieldLink RX4 197 "LandingSlots$Entries" "to" "[I" ∈ lw_tbl := List.mem_append_right _ (List.mem_of_getElem? (i := 126) (by decide +kernel))
theorem wt_Mmax : Cond.static Lib.Math.max.name ∈ lw_tbl := List.mem_append_right _ (List.mem_of_getElem? (i := 383) (by decide +kernel))
theorem wn_Mmax : Cond.initialized "java/lang/Math" ∈ lw_tbl := List.mem_append_right _ (List.mem_of_getElem? (i := 13) (by decide +kernel))
theorem wc_Mmax : Cond.code Lib.Math.max.name Lib.Math.max.code 2 (some .int) ∈ lw_tbl := by decide +kernel
theorem ml_X4_69 : Cond.methodLink RX4 69 Lib.Math.max.name ∈ lw_tbl := List.mem_append_right _ (List.mem_of_getElem? (i := 382) (by decide +kernel))
theorem fx_X1_add : (yX1_add.cls ≠ "java/lang/invoke/MethodHandle" ∧ yX1_add.cls ≠ "java/lang/invoke/VarHandle") ∧ ∀ sig, parseMethodDescriptor yX1_add.desc = some sig → 3 = sig.parameters.length := ⟨⟨by decide +kernel, by decide +kernel⟩, xnp (by decide +kernel)⟩
theorem ml_X4_83 : Cond.methodLink RX4 83 yX1_add ∈ lw_tbl := List.mem_append_right _ (List.mem_of_getElem? (i := 387) (by decide +kernel))
theorem wi_X1_add : Cond.instanceMethod yX1_add ∈ lw_tbl := List.mem_append_right _ (List.mem_of_getElem? (i := 388) (by decide +kernel))
theorem wz_X1_add : Cond.selects RX1 yX1_add yX1_add ∈ lw_tbl := List.mem_append_right _ (List.mem_of_getElem? (i := 389) (by decide +kernel))
theorem wc_X1_add : Cond.code yX1_add cX1_add 5 (some .int) ∈ lw_tbl := List.mem_append_right _ (List.mem_of_getElem? (i := 390) (by decide +kernel))
theorem fx_X4_checkSlot : (yX4_checkSlot.cls ≠ "java/lang/invoke/MethodHandle" ∧ yX4_checkSlot.cls ≠ "java/lang/invoke/VarHandle") ∧ ∀ sig, parseMethodDescriptor yX4_checkSlot.desc = some sig → 1 = sig.parameters.length := ⟨⟨by decide +kernel, by decide +kernel⟩, xnp (by decide +kernel)⟩
theorem ml_X4_94 : Cond.methodLink RX4 94 yX4_checkSlot ∈ lw_tbl := List.mem_append_right _ (List.mem_of_getElem? (i := 415) (by decide +kernel))
theorem wi_X4_checkSlot : Cond.instanceMethod yX4_checkSlot ∈ lw_tbl := List.mem_append_right _ (List.mem_of_getElem? (i := 417) (by decide +kernel))
theorem wz_X4_checkSlot : Cond.selects RX4 yX4_checkSlot yX4_checkSlot ∈ lw_tbl := by decide +kernel
theorem wc_X4_checkSlot : Cond.code yX4_checkSlot cX4_checkSlot 2 none ∈ lw_tbl := List.mem_append_right _ (List.mem_of_getElem? (i := 418) (by decide +kernel))
theorem fx_X4_flightsThatCouldMoveTo : (yX4_flightsThatCouldMoveTo.cls ≠ "java/lang/invoke/MethodHandle" ∧ yX4_flightsThatCouldMoveTo.cls ≠ "java/lang/invoke/VarHandle") ∧ ∀ sig, parseMethodDescriptor yX4_flightsThatCouldMoveTo.desc = some sig → 1 = sig.parameters.length := ⟨⟨by decide +kernel, by decide +kernel⟩, xnp (by decide +kernel)⟩
theorem ml_X4_172 : Cond.methodLink RX4 172 yX4_flightsThatCouldMoveTo ∈ lw_tbl := List.mem_append_right _ (List.mem_of_getElem? (i := 254) (by decide +kernel))
theorem wi_X4_flightsThatCouldMoveTo : Cond.instanceMethod yX4_flightsThatCouldMoveTo ∈ lw_tbl := List.mem_append_right _ (List.mem_of_getElem? (i := 256) (by decide +kernel))
theorem wz_X4_flightsThatCouldMoveTo : Cond.selects RX4 yX4_flightsThatCouldMoveTo yX4_flightsThatCouldMoveTo ∈ lw_tbl := by decide +kernel
theorem wc_X4_flightsThatCouldMoveTo : Cond.code yX4_flightsThatCouldMoveTo cX4_flightsThatCouldMoveTo 4 (some .int) ∈ lw_tbl := List.mem_append_right _ (List.mem_of_getElem? (i := 257) (by decide +kernel))
theorem fl_X4_103 : Cond.fieldLink RX4 103 "LandingSlots$Flights" "earliest" "[I" ∈ lw_tbl := List.mem_append_right _ (List.mem_of_getElem? (i := 58) (by decide +kernel))
theorem ml_X4_222 : Cond.methodLink RX4 222 yX3_isOffsetAtRate ∈ lw_tbl := List.mem_append_right _ (List.mem_of_getElem? (i := 345) (by decide +kernel))
theorem fx_X2_add : (yX2_add.cls ≠ "java/lang/invoke/MethodHandle" ∧ yX2_add.cls ≠ "java/lang/invoke/VarHandle") ∧ ∀ sig, parseMethodDescriptor yX2_add.desc = some sig → 3 = sig.parameters.length := ⟨⟨by decide +kernel, by decide +kernel⟩, xnp (by decide +kernel)⟩
theorem ml_X4_149 : Cond.methodLink RX4 149 yX2_add ∈ lw_tbl := List.mem_append_right _ (List.mem_of_getElem? (i := 493) (by decide +kernel))
theorem wi_X2_add : Cond.instanceMethod yX2_add ∈ lw_tbl := List.mem_append_right _ (List.mem_of_getElem? (i := 494) (by decide +kernel))
theorem wz_X2_add : Cond.selects RX2 yX2_add yX2_add ∈ lw_tbl := List.mem_append_right _ (List.mem_of_getElem? (i := 495) (by decide +kernel))
theorem wc_X2_add : Cond.code yX2_add cX2_add 5 (some .int) ∈ lw_tbl := List.mem_append_right _ (List.mem_of_getElem? (i := 496) (by decide +kernel))
theorem fx_X3_countWithOwner : (yX3_countWithOwner.cls ≠ "java/lang/invoke/MethodHandle" ∧ yX3_countWithOwner.cls ≠ "java/lang/invoke/VarHandle") ∧ ∀ sig, parseMethodDescriptor yX3_countWithOwner.desc = some sig → 1 = sig.parameters.length := ⟨⟨by decide +kernel, by decide +kernel⟩, xnp (by decide +kernel)⟩
theorem ml_X4_181 : Cond.methodLink RX4 181 yX3_countWithOwner ∈ lw_tbl := List.mem_append_right _ (List.mem_of_getElem? (i := 523) (by decide +kernel))
theorem wi_X3_countWithOwner : Cond.instanceMethod yX3_countWithOwner ∈ lw_tbl := List.mem_append_right _ (List.mem_of_getElem? (i := 524) (by decide +kernel))
theorem wz_X3_countWithOwner : Cond.selects RX3 yX3_countWithOwner yX3_countWithOwner ∈ lw_tbl := List.mem_append_right _ (List.mem_of_getElem? (i := 525) (by decide +kernel))
theorem wc_X3_countWithOwner : Cond.code yX3_countWithOwner cX3_countWithOwner 4 (some .int) ∈ lw_tbl := List.mem_append_right _ (List.mem_of_getElem? (i := 526) (by decide +kernel))
theorem fl_X4_231 : Cond.fieldLink RX4 231 "LandingSlots$Flights" "bySchedule" "[I" ∈ lw_tbl := List.mem_append_right _ (List.mem_of_getElem? (i := 66) (by decide +kernel))
theorem fx_X4_putInFirstSlot : (yX4_putInFirstSlot.cls ≠ "java/lang/invoke/MethodHandle" ∧ yX4_putInFirstSlot.cls ≠ "java/lang/invoke/VarHandle") ∧ ∀ sig, parseMethodDescriptor yX4_putInFirstSlot.desc = some sig → 1 = sig.parameters.length := ⟨⟨by decide +kernel, by decide +kernel⟩, xnp (by decide +kernel)⟩
theorem ml_X4_234 : Cond.methodLink RX4 234 yX4_putInFirstSlot ∈ lw_tbl := List.mem_append_right _ (List.mem_of_getElem? (i := 177) (by decide +kernel))
theorem wi_X4_putInFirstSlot : Cond.instanceMethod yX4_putInFirstSlot ∈ lw_tbl := List.mem_append_right _ (List.mem_of_getElem? (i := 179) (by decide +kernel))
theorem wz_X4_putInFirstSlot : Cond.selects RX4 yX4_putInFirstSlot yX4_putInFirstSlot ∈ lw_tbl := by decide +kernel
theorem wc_X4_putInFirstSlot : Cond.code yX4_putInFirstSlot cX4_putInFirstSlot 3 (some .boolean) ∈ lw_tbl := List.mem_append_right _ (List.mem_of_getElem? (i := 180) (by decide +kernel))
theorem fx_X4_clearWhatIsNotFrozen : (yX4_clearWhatIsNotFrozen.cls ≠ "java/lang/invoke/MethodHandle" ∧ yX4_clearWhatIsNotFrozen.cls ≠ "java/lang/invoke/VarHandle") ∧ ∀ sig, parseMethodDescriptor yX4_clearWhatIsNotFrozen.desc = some sig → 0 = sig.parameters.length := ⟨⟨by decide +kernel, by decide +kernel⟩, xnp (by decide +kernel)⟩
theorem ml_X4_225 : Cond.methodLink RX4 225 yX4_clearWhatIsNotFrozen ∈ lw_tbl := List.mem_append_right _ (List.mem_of_getElem? (i := 161) (by decide +kernel))
theorem wi_X4_clearWhatIsNotFrozen : Cond.instanceMethod yX4_clearWhatIsNotFrozen ∈ lw_tbl := List.mem_append_right _ (List.mem_of_getElem? (i := 163) (by decide +kernel))
theorem wz_X4_clearWhatIsNotFrozen : Cond.selects RX4 yX4_clearWhatIsNotFrozen yX4_clearWhatIsNotFrozen ∈ lw_tbl := by decide +kernel
theorem wc_X4_clearWhatIsNotFrozen : Cond.code yX4_clearWhatIsNotFrozen cX4_clearWhatIsNotFrozen 2 none ∈ lw_tbl := List.mem_append_right _ (List.mem_of_getElem? (i := 164) (by decide +kernel))
theorem fx_X0_clear : (yX0_clear.cls ≠ "java/lang/invoke/MethodHandle" ∧ yX0_clear.cls ≠ "java/lang/invoke/VarHandle") ∧ ∀ sig, parseMethodDescriptor yX0_clear.desc = some sig → 0 = sig.parameters.length := ⟨⟨by decide +kernel, by decide +kernel⟩, xnp (by decide +kernel)⟩
theorem ml_X4_228 : Cond.methodLink RX4 228 yX0_clear ∈ lw_tbl := List.mem_append_right _ (List.mem_of_getElem? (i := 169) (by decide +kernel))
theorem wi_X0_clear : Cond.instanceMethod yX0_clear ∈ lw_tbl := List.mem_append_right _ (List.mem_of_getElem? (i := 170) (by decide +kernel))
theorem wz_X0_clear : Cond.selects RX0 yX0_clear yX0_clear ∈ lw_tbl := List.mem_append_right _ (List.mem_of_getElem? (i := 171) (by decide +kernel))
theorem wc_X0_clear : Cond.code yX0_clear cX0_clear 1 none ∈ lw_tbl := List.mem_append_right _ (List.mem_of_getElem? (i := 172) (by decide +kernel))
theorem fx_X4_losesFrozenSlot : (yX4_losesFrozenSlot.cls ≠ "java/lang/invoke/MethodHandle" ∧ yX4_losesFrozenSlot.cls ≠ "java/lang/invoke/VarHandle") ∧ ∀ sig, parseMethodDescriptor yX4_losesFrozenSlot.desc = some sig → 2 = sig.parameters.length := ⟨⟨by decide +kernel, by decide +kernel⟩, xnp (by decide +kernel)⟩
theorem ml_X4_46 : Cond.methodLink RX4 46 yX4_losesFrozenSlot ∈ lw_tbl := List.mem_append_right _ (List.mem_of_getElem? (i := 341) (by decide +kernel))
theorem wi_X4_losesFrozenSlot : Cond.instanceMethod yX4_losesFrozenSlot ∈ lw_tbl := List.mem_append_right _ (List.mem_of_getElem? (i := 343) (by decide +kernel))
theorem wz_X4_losesFrozenSlot : Cond.selects RX4 yX4_losesFrozenSlot yX4_losesFrozenSlot ∈ lw_tbl := by decide +kernel
theorem wc_X4_losesFrozenSlot : Cond.code yX4_losesFrozenSlot cX4_losesFrozenSlot 5 (some .boolean) ∈ lw_tbl := List.mem_append_right _ (List.mem_of_getElem? (i := 344) (by decide +kernel))
theorem fx_X3_setRate : (yX3_setRate.cls ≠ "java/lang/invoke/MethodHandle" ∧ yX3_setRate.cls ≠ "java/lang/invoke/VarHandle") ∧ ∀ sig, parseMethodDescriptor yX3_setRate.desc = some sig → 2 = sig.parameters.length := ⟨⟨by decide +kernel, by decide +kernel⟩, xnp (by decide +kernel)⟩
theorem ml_X4_55 : Cond.methodLink RX4 55 yX3_setRate ∈ lw_tbl := List.mem_append_right _ (List.mem_of_getElem? (i := 364) (by decide +kernel))
theorem wi_X3_setRate : Cond.instanceMethod yX3_setRate ∈ lw_tbl := List.mem_append_right _ (List.mem_of_getElem? (i := 365) (by decide +kernel))
theorem wz_X3_setRate : Cond.selects RX3 yX3_setRate yX3_setRate ∈ lw_tbl := List.mem_append_right _ (List.mem_of_getElem? (i := 366) (by decide +kernel))
theorem wc_X3_setRate : Cond.code yX3_setRate cX3_setRate 5 none ∈ lw_tbl := List.mem_append_right _ (List.mem_of_getElem? (i := 367) (by decide +kernel))
theorem fx_X4_rationAll : (yX4_rationAll.cls ≠ "java/lang/invoke/MethodHandle" ∧ yX4_rationAll.cls ≠ "java/lang/invoke/VarHandle") ∧ ∀ sig, parseMethodDescriptor yX4_rationAll.desc = some sig → 0 = sig.parameters.length := ⟨⟨by decide +kernel, by decide +kernel⟩, xnp (by decide +kernel)⟩
theorem ml_X4_59 : Cond.methodLink RX4 59 yX4_rationAll ∈ lw_tbl := List.mem_append_right _ (List.mem_of_getElem? (i := 157) (by decide +kernel))
theorem wi_X4_rationAll : Cond.instanceMethod yX4_rationAll ∈ lw_tbl := List.mem_append_right _ (List.mem_of_getElem? (i := 159) (by decide +kernel))
theorem wz_X4_rationAll : Cond.selects RX4 yX4_rationAll yX4_rationAll ∈ lw_tbl := by decide +kernel
theorem wc_X4_rationAll : Cond.code yX4_rationAll cX4_rationAll 4 (some .int) ∈ lw_tbl := List.mem_append_right _ (List.mem_of_getElem? (i := 160) (by decide +kernel))
theorem fx_X4_carryOutIfPossible : (yX4_carryOutIfPossible.cls ≠ "java/lang/invoke/MethodHandle" ∧ yX4_carryOutIfPossible.cls ≠ "java/lang/invoke/VarHandle") ∧ ∀ sig, parseMethodDescriptor yX4_carryOutIfPossible.desc = some sig → 1 = sig.parameters.length := ⟨⟨by decide +kernel, by decide +kernel⟩, xnp (by decide +kernel)⟩
theorem ml_X4_159 : Cond.methodLink RX4 159 yX4_carryOutIfPossible ∈ lw_tbl := List.mem_append_right _ (List.mem_of_getElem? (i := 210) (by decide +kernel))
theorem wi_X4_carryOutIfPossible : Cond.instanceMethod yX4_carryOutIfPossible ∈ lw_tbl := List.mem_append_right _ (List.mem_of_getElem? (i := 212) (by decide +kernel))
theorem wz_X4_carryOutIfPossible : Cond.selects RX4 yX4_carryOutIfPossible yX4_carryOutIfPossible ∈ lw_tbl := by decide +kernel
theorem wc_X4_carryOutIfPossible : Cond.code yX4_carryOutIfPossible cX4_carryOutIfPossible 5 (some .int) ∈ lw_tbl := List.mem_append_right _ (List.mem_of_getElem? (i := 213) (by decide +kernel))
theorem fl_X5_60 : Cond.fieldLink RX5 60 "LandingSlotsModel" "flights" "I" ∈ lw_tbl := List.mem_append_right _ (List.mem_of_getElem? (i := 562) (by decide +kernel))
theorem fl_X5_56 : Cond.fieldLink RX5 56 "LandingSlotsModel" "code" "I" ∈ lw_tbl := List.mem_append_right _ (List.mem_of_getElem? (i := 558) (by decide +kernel))
theorem fl_X5_35 : Cond.fieldLink RX5 35 "LandingSlotsModel" "airborne" "[Z" ∈ lw_tbl := List.mem_append_right _ (List.mem_of_getElem? (i := 568) (by decide +kernel))
theorem fx_X5_isFlight : (yX5_isFlight.cls ≠ "java/lang/invoke/MethodHandle" ∧ yX5_isFlight.cls ≠ "java/lang/invoke/VarHandle") ∧ ∀ sig, parseMethodDescriptor yX5_isFlight.desc = some sig → 1 = sig.parameters.length := ⟨⟨by decide +kernel, by decide +kernel⟩, xnp (by decide +kernel)⟩
theorem ml_X5_91 : Cond.methodLink RX5 91 yX5_isFlight ∈ lw_tbl := List.mem_append_right _ (List.mem_of_getElem? (i := 662) (by decide +kernel))
theorem wi_X5_isFlight : Cond.instanceMethod yX5_isFlight ∈ lw_tbl := List.mem_append_right _ (List.mem_of_getElem? (i := 664) (by decide +kernel))
theorem wz_X5_isFlight : Cond.selects RX5 yX5_isFlight yX5_isFlight ∈ lw_tbl := by decide +kernel
theorem wc_X5_isFlight : Cond.code yX5_isFlight cX5_isFlight 2 (some .boolean) ∈ lw_tbl := List.mem_append_right _ (List.mem_of_getElem? (i := 665) (by decide +kernel))
theorem wn_X5 : Cond.initialized RX5 ∈ lw_tbl := List.mem_append_right _ (List.mem_of_getElem? (i := 7) (by decide +kernel))
theorem fl_X5_29 : Cond.fieldLink RX5 29 "LandingSlotsModel" "at" "[I" ∈ lw_tbl := List.mem_append_right _ (List.mem_of_getElem? (i := 566) (by decide +kernel))
theorem fl_X5_32 : Cond.fieldLink RX5 32 "LandingSlotsModel" "cancelled" "[Z" ∈ lw_tbl := List.mem_append_right _ (List.mem_of_getElem? (i := 567) (by decide +kernel))
theorem fl_X5_17 : Cond.fieldLink RX5 17 "LandingSlotsModel" "in" "[I" ∈ lw_tbl := List.mem_append_right _ (List.mem_of_getElem? (i := 561) (by decide +kernel))
theorem fl_X5_63 : Cond.fieldLink RX5 63 "LandingSlotsModel" "entries" "I" ∈ lw_tbl := List.mem_append_right _ (List.mem_of_getElem? (i := 575) (by decide +kernel))
theorem fl_X5_53 : Cond.fieldLink RX5 53 "LandingSlotsModel" "log" "[I" ∈ lw_tbl := List.mem_append_right _ (List.mem_of_getElem? (i := 576) (by decide +kernel))
theorem fx_X5_empty : (yX5_empty.cls ≠ "java/lang/invoke/MethodHandle" ∧ yX5_empty.cls ≠ "java/lang/invoke/VarHandle") ∧ ∀ sig, parseMethodDescriptor yX5_empty.desc = some sig → 1 = sig.parameters.length := ⟨⟨by decide +kernel, by decide +kernel⟩, xnp (by decide +kernel)⟩
theorem ml_X5_73 : Cond.methodLink RX5 73 yX5_empty ∈ lw_tbl := List.mem_append_right _ (List.mem_of_getElem? (i := 632) (by decide +kernel))
theorem wi_X5_empty : Cond.instanceMethod yX5_empty ∈ lw_tbl := List.mem_append_right _ (List.mem_of_getElem? (i := 634) (by decide +kernel))
theorem wz_X5_empty : Cond.selects RX5 yX5_empty yX5_empty ∈ lw_tbl := by decide +kernel
theorem wc_X5_empty : Cond.code yX5_empty cX5_empty 2 none ∈ lw_tbl := List.mem_append_right _ (List.mem_of_getElem? (i := 635) (by decide +kernel))
theorem fx_X5_note : (yX5_note.cls ≠ "java/lang/invoke/MethodHandle" ∧ yX5_note.cls ≠ "java/lang/invoke/VarHandle") ∧ ∀ sig, parseMethodDescriptor yX5_note.desc = some sig → 4 = sig.parameters.length := ⟨⟨by decide +kernel, by decide +kernel⟩, xnp (by decide +kernel)⟩
theorem ml_X5_97 : Cond.methodLink RX5 97 yX5_note ∈ lw_tbl := List.mem_append_right _ (List.mem_of_getElem? (i := 682) (by decide +kernel))
theorem wi_X5_note : Cond.instanceMethod yX5_note ∈ lw_tbl := List.mem_append_right _ (List.mem_of_getElem? (i := 684) (by decide +kernel))
theorem wz_X5_note : Cond.selects RX5 yX5_note yX5_note ∈ lw_tbl := by decide +kernel
theorem wc_X5_note : Cond.code yX5_note cX5_note 5 none ∈ lw_tbl := List.mem_append_right _ (List.mem_of_getElem? (i := 685) (by decide +kernel))
theorem fx_X5_isLoose : (yX5_isLoose.cls ≠ "java/lang/invoke/MethodHandle" ∧ yX5_isLoose.cls ≠ "java/lang/invoke/VarHandle") ∧ ∀ sig, parseMethodDescriptor yX5_isLoose.desc = some sig → 1 = sig.parameters.length := ⟨⟨by decide +kernel, by decide +kernel⟩, xnp (by decide +kernel)⟩
theorem ml_X5_66 : Cond.methodLink RX5 66 yX5_isLoose ∈ lw_tbl := List.mem_append_right _ (List.mem_of_getElem? (i := 640) (by decide +kernel))
theorem wi_X5_isLoose : Cond.instanceMethod yX5_isLoose ∈ lw_tbl := List.mem_append_right _ (List.mem_of_getElem? (i := 642) (by decide +kernel))
theorem wz_X5_isLoose : Cond.selects RX5 yX5_isLoose yX5_isLoose ∈ lw_tbl := by decide +kernel
theorem wc_X5_isLoose : Cond.code yX5_isLoose cX5_isLoose 2 (some .boolean) ∈ lw_tbl := List.mem_append_right _ (List.mem_of_getElem? (i := 643) (by decide +kernel))
theorem fl_X5_44 : Cond.fieldLink RX5 44 "LandingSlotsModel" "give" "[I" ∈ lw_tbl := List.mem_append_right _ (List.mem_of_getElem? (i := 572) (by decide +kernel))
theorem fl_X5_47 : Cond.fieldLink RX5 47 "LandingSlotsModel" "want" "[I" ∈ lw_tbl := List.mem_append_right _ (List.mem_of_getElem? (i := 573) (by decide +kernel))
theorem fl_X5_50 : Cond.fieldLink RX5 50 "LandingSlotsModel" "stands" "[Z" ∈ lw_tbl := List.mem_append_right _ (List.mem_of_getElem? (i := 574) (by decide +kernel))
theorem fl_X5_7 : Cond.fieldLink RX5 7 "LandingSlotsModel" "slot" "[Z" ∈ lw_tbl := List.mem_append_right _ (List.mem_of_getElem? (i := 559) (by decide +kernel))
theorem fl_X5_26 : Cond.fieldLink RX5 26 "LandingSlotsModel" "earliest" "[I" ∈ lw_tbl := List.mem_append_right _ (List.mem_of_getElem? (i := 565) (by decide +kernel))
theorem fx_X5_isGap : (yX5_isGap.cls ≠ "java/lang/invoke/MethodHandle" ∧ yX5_isGap.cls ≠ "java/lang/invoke/VarHandle") ∧ ∀ sig, parseMethodDescriptor yX5_isGap.desc = some sig → 2 = sig.parameters.length := ⟨⟨by decide +kernel, by decide +kernel⟩, xnp (by decide +kernel)⟩
theorem ml_X5_121 : Cond.methodLink RX5 121 yX5_isGap ∈ lw_tbl := List.mem_append_right _ (List.mem_of_getElem? (i := 742) (by decide +kernel))
theorem wi_X5_isGap : Cond.instanceMethod yX5_isGap ∈ lw_tbl := List.mem_append_right _ (List.mem_of_getElem? (i := 744) (by decide +kernel))
theorem wz_X5_isGap : Cond.selects RX5 yX5_isGap yX5_isGap ∈ lw_tbl := by decide +kernel
theorem wc_X5_isGap : Cond.code yX5_isGap cX5_isGap 3 (some .boolean) ∈ lw_tbl := List.mem_append_right _ (List.mem_of_getElem? (i := 745) (by decide +kernel))
theorem fl_X5_20 : Cond.fieldLink RX5 20 "LandingSlotsModel" "airline" "[I" ∈ lw_tbl := List.mem_append_right _ (List.mem_of_getElem? (i := 563) (by decide +kernel))
theorem fx_X5_put : (yX5_put.cls ≠ "java/lang/invoke/MethodHandle" ∧ yX5_put.cls ≠ "java/lang/invoke/VarHandle") ∧ ∀ sig, parseMethodDescriptor yX5_put.desc = some sig → 2 = sig.parameters.length := ⟨⟨by decide +kernel, by decide +kernel⟩, xnp (by decide +kernel)⟩
theorem ml_X5_101 : Cond.methodLink RX5 101 yX5_put ∈ lw_tbl := List.mem_append_right _ (List.mem_of_getElem? (i := 702) (by decide +kernel))
theorem wi_X5_put : Cond.instanceMethod yX5_put ∈ lw_tbl := List.mem_append_right _ (List.mem_of_getElem? (i := 704) (by decide +kernel))
theorem wz_X5_put : Cond.selects RX5 yX5_put yX5_put ∈ lw_tbl := by decide +kernel
theorem wc_X5_put : Cond.code yX5_put cX5_put 3 none ∈ lw_tbl := List.mem_append_right _ (List.mem_of_getElem? (i := 705) (by decide +kernel))
theorem fl_X5_13 : Cond.fieldLink RX5 13 "LandingSlotsModel" "owner" "[I" ∈ lw_tbl := List.mem_append_right _ (List.mem_of_getElem? (i := 560) (by decide +kernel))
theorem fx_X5_follower : (yX5_follower.cls ≠ "java/lang/invoke/MethodHandle" ∧ yX5_follower.cls ≠ "java/lang/invoke/VarHandle") ∧ ∀ sig, parseMethodDescriptor yX5_follower.desc = some sig → 2 = sig.parameters.length := ⟨⟨by decide +kernel, by decide +kernel⟩, xnp (by decide +kernel)⟩
theorem ml_X5_125 : Cond.methodLink RX5 125 yX5_follower ∈ lw_tbl := List.mem_append_right _ (List.mem_of_getElem? (i := 738) (by decide +kernel))
theorem wi_X5_follower : Cond.instanceMethod yX5_follower ∈ lw_tbl := List.mem_append_right _ (List.mem_of_getElem? (i := 740) (by decide +kernel))
theorem wz_X5_follower : Cond.selects RX5 yX5_follower yX5_follower ∈ lw_tbl := by decide +kernel
theorem wc_X5_follower : Cond.code yX5_follower cX5_follower 6 (some .int) ∈ lw_tbl := List.mem_append_right _ (List.mem_of_getElem? (i := 741) (by decide +kernel))
theorem fx_X5_moves : (yX5_moves.cls ≠ "java/lang/invoke/MethodHandle" ∧ yX5_moves.cls ≠ "java/lang/invoke/VarHandle") ∧ ∀ sig, parseMethodDescriptor yX5_moves.desc = some sig → 0 = sig.parameters.length := ⟨⟨by decide +kernel, by decide +kernel⟩, xnp (by decide +kernel)⟩
theorem ml_X5_129 : Cond.methodLink RX5 129 yX5_moves ∈ lw_tbl := List.mem_append_right _ (List.mem_of_getElem? (i := 734) (by decide +kernel))
theorem wi_X5_moves : Cond.instanceMethod yX5_moves ∈ lw_tbl := List.mem_append_right _ (List.mem_of_getElem? (i := 736) (by decide +kernel))
theorem wz_X5_moves : Cond.selects RX5 yX5_moves yX5_moves ∈ lw_tbl := by decide +kernel
theorem wc_X5_moves : Cond.code yX5_moves cX5_moves 4 (some .boolean) ∈ lw_tbl := List.mem_append_right _ (List.mem_of_getElem? (i := 737) (by decide +kernel))
theorem fl_X5_23 : Cond.fieldLink RX5 23 "LandingSlotsModel" "scheduled" "[I" ∈ lw_tbl := List.mem_append_right _ (List.mem_of_getElem? (i := 564) (by decide +kernel))
theorem fx_X5_within : (yX5_within.cls ≠ "java/lang/invoke/MethodHandle" ∧ yX5_within.cls ≠ "java/lang/invoke/VarHandle") ∧ ∀ sig, parseMethodDescriptor yX5_within.desc = some sig → 3 = sig.parameters.length := ⟨⟨by decide +kernel, by decide +kernel⟩, xnp (by decide +kernel)⟩
theorem ml_X5_84 : Cond.methodLink RX5 84 yX5_within ∈ lw_tbl := List.mem_append_right _ (List.mem_of_getElem? (i := 648) (by decide +kernel))
theorem wt_X5_within : Cond.static yX5_within ∈ lw_tbl := List.mem_append_right _ (List.mem_of_getElem? (i := 649) (by decide +kernel))
theorem wc_X5_within : Cond.code yX5_within cX5_within 3 (some .boolean) ∈ lw_tbl := List.mem_append_right _ (List.mem_of_getElem? (i := 650) (by decide +kernel))
theorem fl_X5_108 : Cond.fieldLink RX5 108 "LandingSlotsModel" "offers" "I" ∈ lw_tbl := List.mem_append_right _ (List.mem_of_getElem? (i := 570) (by decide +kernel))
theorem fx_X5_isSlot : (yX5_isSlot.cls ≠ "java/lang/invoke/MethodHandle" ∧ yX5_isSlot.cls ≠ "java/lang/invoke/VarHandle") ∧ ∀ sig, parseMethodDescriptor yX5_isSlot.desc = some sig → 1 = sig.parameters.length := ⟨⟨by decide +kernel, by decide +kernel⟩, xnp (by decide +kernel)⟩
theorem ml_X5_94 : Cond.methodLink RX5 94 yX5_isSlot ∈ lw_tbl := List.mem_append_right _ (List.mem_of_getElem? (i := 670) (by decide +kernel))
theorem wi_X5_isSlot : Cond.instanceMethod yX5_isSlot ∈ lw_tbl := List.mem_append_right _ (List.mem_of_getElem? (i := 672) (by decide +kernel))
theorem wz_X5_isSlot : Cond.selects RX5 yX5_isSlot yX5_isSlot ∈ lw_tbl := by decide +kernel
theorem wc_X5_isSlot : Cond.code yX5_isSlot cX5_isSlot 2 (some .boolean) ∈ lw_tbl := List.mem_append_right _ (List.mem_of_getElem? (i := 673) (by decide +kernel))
theorem fl_X5_41 : Cond.fieldLink RX5 41 "LandingSlotsModel" "offerer" "[I" ∈ lw_tbl := List.mem_append_right _ (List.mem_of_getElem? (i := 571) (by decide +kernel))
theorem fx_X5_isFrozen : (yX5_isFrozen.cls ≠ "java/lang/invoke/MethodHandle" ∧ yX5_isFrozen.cls ≠ "java/lang/invoke/VarHandle") ∧ ∀ sig, parseMethodDescriptor yX5_isFrozen.desc = some sig → 1 = sig.parameters.length := ⟨⟨by decide +kernel, by decide +kernel⟩, xnp (by decide +kernel)⟩
theorem ml_X5_70 : Cond.methodLink RX5 70 yX5_isFrozen ∈ lw_tbl := List.mem_append_right _ (List.mem_of_getElem? (i := 628) (by decide +kernel))
theorem wi_X5_isFrozen : Cond.instanceMethod yX5_isFrozen ∈ lw_tbl := List.mem_append_right _ (List.mem_of_getElem? (i := 630) (by decide +kernel))
theorem wz_X5_isFrozen : Cond.selects RX5 yX5_isFrozen yX5_isFrozen ∈ lw_tbl := by decide +kernel
theorem wc_X5_isFrozen : Cond.code yX5_isFrozen cX5_isFrozen 2 (some .boolean) ∈ lw_tbl := List.mem_append_right _ (List.mem_of_getElem? (i := 631) (by decide +kernel))
theorem fl_X5_38 : Cond.fieldLink RX5 38 "LandingSlotsModel" "done" "[Z" ∈ lw_tbl := List.mem_append_right _ (List.mem_of_getElem? (i := 569) (by decide +kernel))
theorem fx_X5_isGood : (yX5_isGood.cls ≠ "java/lang/invoke/MethodHandle" ∧ yX5_isGood.cls ≠ "java/lang/invoke/VarHandle") ∧ ∀ sig, parseMethodDescriptor yX5_isGood.desc = some sig → 1 = sig.parameters.length := ⟨⟨by decide +kernel, by decide +kernel⟩, xnp (by decide +kernel)⟩
theorem ml_X5_111 : Cond.methodLink RX5 111 yX5_isGood ∈ lw_tbl := List.mem_append_right _ (List.mem_of_getElem? (i := 718) (by decide +kernel))
theorem wi_X5_isGood : Cond.instanceMethod yX5_isGood ∈ lw_tbl := List.mem_append_right _ (List.mem_of_getElem? (i := 720) (by decide +kernel))
theorem wz_X5_isGood : Cond.selects RX5 yX5_isGood yX5_isGood ∈ lw_tbl := by decide +kernel
theorem wc_X5_isGood : Cond.code yX5_isGood cX5_isGood 5 (some .boolean) ∈ lw_tbl := List.mem_append_right _ (List.mem_of_getElem? (i := 721) (by decide +kernel))
theorem fx_X5_nextFlight : (yX5_nextFlight.cls ≠ "java/lang/invoke/MethodHandle" ∧ yX5_nextFlight.cls ≠ "java/lang/invoke/VarHandle") ∧ ∀ sig, parseMethodDescriptor yX5_nextFlight.desc = some sig → 0 = sig.parameters.length := ⟨⟨by decide +kernel, by decide +kernel⟩, xnp (by decide +kernel)⟩
theorem ml_X5_77 : Cond.methodLink RX5 77 yX5_nextFlight ∈ lw_tbl := List.mem_append_right _ (List.mem_of_getElem? (i := 636) (by decide +kernel))
theorem wi_X5_nextFlight : Cond.instanceMethod yX5_nextFlight ∈ lw_tbl := List.mem_append_right _ (List.mem_of_getElem? (i := 638) (by decide +kernel))
theorem wz_X5_nextFlight : Cond.selects RX5 yX5_nextFlight yX5_nextFlight ∈ lw_tbl := by decide +kernel
theorem wc_X5_nextFlight : Cond.code yX5_nextFlight cX5_nextFlight 3 (some .int) ∈ lw_tbl := List.mem_append_right _ (List.mem_of_getElem? (i := 639) (by decide +kernel))
theorem fx_X5_rationed : (yX5_rationed.cls ≠ "java/lang/invoke/MethodHandle" ∧ yX5_rationed.cls ≠ "java/lang/invoke/VarHandle") ∧ ∀ sig, parseMethodDescriptor yX5_rationed.desc = some sig → 0 = sig.parameters.length := ⟨⟨by decide +kernel, by decide +kernel⟩, xnp (by decide +kernel)⟩
theorem ml_X5_81 : Cond.methodLink RX5 81 yX5_rationed ∈ lw_tbl := List.mem_append_right _ (List.mem_of_getElem? (i := 624) (by decide +kernel))
theorem wi_X5_rationed : Cond.instanceMethod yX5_rationed ∈ lw_tbl := List.mem_append_right _ (List.mem_of_getElem? (i := 626) (by decide +kernel))
theorem wz_X5_rationed : Cond.selects RX5 yX5_rationed yX5_rationed ∈ lw_tbl := by decide +kernel
theorem wc_X5_rationed : Cond.code yX5_rationed cX5_rationed 4 (some .int) ∈ lw_tbl := List.mem_append_right _ (List.mem_of_getElem? (i := 627) (by decide +kernel))
theorem fx_X5_has : (yX5_has.cls ≠ "java/lang/invoke/MethodHandle" ∧ yX5_has.cls ≠ "java/lang/invoke/VarHandle") ∧ ∀ sig, parseMethodDescriptor yX5_has.desc = some sig → 3 = sig.parameters.length := ⟨⟨by decide +kernel, by decide +kernel⟩, xnp (by decide +kernel)⟩
theorem ml_X5_88 : Cond.methodLink RX5 88 yX5_has ∈ lw_tbl := List.mem_append_right _ (List.mem_of_getElem? (i := 651) (by decide +kernel))
theorem wt_X5_has : Cond.static yX5_has ∈ lw_tbl := List.mem_append_right _ (List.mem_of_getElem? (i := 652) (by decide +kernel))
theorem wc_X5_has : Cond.code yX5_has cX5_has 5 (some .boolean) ∈ lw_tbl := List.mem_append_right _ (List.mem_of_getElem? (i := 653) (by decide +kernel))
theorem fx_X5_exchange : (yX5_exchange.cls ≠ "java/lang/invoke/MethodHandle" ∧ yX5_exchange.cls ≠ "java/lang/invoke/VarHandle") ∧ ∀ sig, parseMethodDescriptor yX5_exchange.desc = some sig → 2 = sig.parameters.length := ⟨⟨by decide +kernel, by decide +kernel⟩, xnp (by decide +kernel)⟩
theorem ml_X5_105 : Cond.methodLink RX5 105 yX5_exchange ∈ lw_tbl := List.mem_append_right _ (List.mem_of_getElem? (i := 698) (by decide +kernel))
theorem wi_X5_exchange : Cond.instanceMethod yX5_exchange ∈ lw_tbl := List.mem_append_right _ (List.mem_of_getElem? (i := 700) (by decide +kernel))
theorem wz_X5_exchange : Cond.selects RX5 yX5_exchange yX5_exchange ∈ lw_tbl := by decide +kernel
theorem wc_X5_exchange : Cond.code yX5_exchange cX5_exchange 5 none ∈ lw_tbl := List.mem_append_right _ (List.mem_of_getElem? (i := 701) (by decide +kernel))
theorem fx_X5_close : (yX5_close.cls ≠ "java/lang/invoke/MethodHandle" ∧ yX5_close.cls ≠ "java/lang/invoke/VarHandle") ∧ ∀ sig, parseMethodDescriptor yX5_close.desc = some sig → 1 = sig.parameters.length := ⟨⟨by decide +kernel, by decide +kernel⟩, xnp (by decide +kernel)⟩
theorem ml_X5_118 : Cond.methodLink RX5 118 yX5_close ∈ lw_tbl := List.mem_append_right _ (List.mem_of_getElem? (i := 726) (by decide +kernel))
theorem wi_X5_close : Cond.instanceMethod yX5_close ∈ lw_tbl := List.mem_append_right _ (List.mem_of_getElem? (i := 728) (by decide +kernel))
theorem wz_X5_close : Cond.selects RX5 yX5_close yX5_close ∈ lw_tbl := by decide +kernel
theorem wc_X5_close : Cond.code yX5_close cX5_close 2 none ∈ lw_tbl := List.mem_append_right _ (List.mem_of_getElem? (i := 729) (by decide +kernel))
theorem fx_X5_partner : (yX5_partner.cls ≠ "java/lang/invoke/MethodHandle" ∧ yX5_partner.cls ≠ "java/lang/invoke/VarHandle") ∧ ∀ sig, parseMethodDescriptor yX5_partner.desc = some sig → 1 = sig.parameters.length := ⟨⟨by decide +kernel, by decide +kernel⟩, xnp (by decide +kernel)⟩
theorem ml_X5_114 : Cond.methodLink RX5 114 yX5_partner ∈ lw_tbl := List.mem_append_right _ (List.mem_of_getElem? (i := 722) (by decide +kernel))
theorem wi_X5_partner : Cond.instanceMethod yX5_partner ∈ lw_tbl := List.mem_append_right _ (List.mem_of_getElem? (i := 724) (by decide +kernel))
theorem wz_X5_partner : Cond.selects RX5 yX5_partner yX5_partner ∈ lw_tbl := by decide +kernel
theorem wc_X5_partner : Cond.code yX5_partner cX5_partner 5 (some .int) ∈ lw_tbl := List.mem_append_right _ (List.mem_of_getElem? (i := 725) (by decide +kernel))
