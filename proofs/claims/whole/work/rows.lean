section
-- ===== PART A: goes FIRST, ahead of the names: the tables' words, and 'selects' of the private methods out of them =====
/-- a private method of a class that the tables say can be made, by its rows of tables_1 -/
def lw_okq (q : MethodName × Nat) : Prop := (q.1.cls ≠ "java/lang/invoke/MethodHandle" ∧ q.1.cls ≠ "java/lang/invoke/VarHandle") ∧ Cond.instantiable q.1.cls q.2 ∈ tables_1 ∧ Cond.privateMethod q.1 ∈ tables_1 ∧ Cond.instanceMethod q.1 ∈ tables_1
theorem lw_p0 : lw_okq (⟨"LandingSlots", "rationAll", "()I"⟩, 4) := ⟨⟨by decide +kernel, by decide +kernel⟩, List.mem_of_getElem? (i := 17) (by decide +kernel), List.mem_of_getElem? (i := 158) (by decide +kernel), List.mem_of_getElem? (i := 159) (by decide +kernel)⟩
theorem lw_p1 : lw_okq (⟨"LandingSlots", "clearWhatIsNotFrozen", "()V"⟩, 4) := ⟨⟨by decide +kernel, by decide +kernel⟩, List.mem_of_getElem? (i := 17) (by decide +kernel), List.mem_of_getElem? (i := 162) (by decide +kernel), List.mem_of_getElem? (i := 163) (by decide +kernel)⟩
theorem lw_p2 : lw_okq (⟨"LandingSlots", "isFrozen", "(I)Z"⟩, 4) := ⟨⟨by decide +kernel, by decide +kernel⟩, List.mem_of_getElem? (i := 17) (by decide +kernel), List.mem_of_getElem? (i := 166) (by decide +kernel), List.mem_of_getElem? (i := 167) (by decide +kernel)⟩
theorem lw_p3 : lw_okq (⟨"LandingSlots", "putInFirstSlot", "(I)Z"⟩, 4) := ⟨⟨by decide +kernel, by decide +kernel⟩, List.mem_of_getElem? (i := 17) (by decide +kernel), List.mem_of_getElem? (i := 178) (by decide +kernel), List.mem_of_getElem? (i := 179) (by decide +kernel)⟩
theorem lw_p4 : lw_okq (⟨"LandingSlots", "putIn", "(II)V"⟩, 4) := ⟨⟨by decide +kernel, by decide +kernel⟩, List.mem_of_getElem? (i := 17) (by decide +kernel), List.mem_of_getElem? (i := 190) (by decide +kernel), List.mem_of_getElem? (i := 191) (by decide +kernel)⟩
theorem lw_p5 : lw_okq (⟨"LandingSlots", "isGood", "(I)Z"⟩, 4) := ⟨⟨by decide +kernel, by decide +kernel⟩, List.mem_of_getElem? (i := 17) (by decide +kernel), List.mem_of_getElem? (i := 198) (by decide +kernel), List.mem_of_getElem? (i := 199) (by decide +kernel)⟩
theorem lw_p6 : lw_okq (⟨"LandingSlots", "contentCanUse", "(II)Z"⟩, 4) := ⟨⟨by decide +kernel, by decide +kernel⟩, List.mem_of_getElem? (i := 17) (by decide +kernel), List.mem_of_getElem? (i := 203) (by decide +kernel), List.mem_of_getElem? (i := 204) (by decide +kernel)⟩
theorem lw_p7 : lw_okq (⟨"LandingSlots", "carryOutIfPossible", "(I)I"⟩, 4) := ⟨⟨by decide +kernel, by decide +kernel⟩, List.mem_of_getElem? (i := 17) (by decide +kernel), List.mem_of_getElem? (i := 211) (by decide +kernel), List.mem_of_getElem? (i := 212) (by decide +kernel)⟩
theorem lw_p8 : lw_okq (⟨"LandingSlots", "endAsTraded", "(I)V"⟩, 4) := ⟨⟨by decide +kernel, by decide +kernel⟩, List.mem_of_getElem? (i := 17) (by decide +kernel), List.mem_of_getElem? (i := 215) (by decide +kernel), List.mem_of_getElem? (i := 216) (by decide +kernel)⟩
theorem lw_p9 : lw_okq (⟨"LandingSlots", "exchange", "(II)V"⟩, 4) := ⟨⟨by decide +kernel, by decide +kernel⟩, List.mem_of_getElem? (i := 17) (by decide +kernel), List.mem_of_getElem? (i := 223) (by decide +kernel), List.mem_of_getElem? (i := 224) (by decide +kernel)⟩
theorem lw_p10 : lw_okq (⟨"LandingSlots", "partnerOf", "(I)I"⟩, 4) := ⟨⟨by decide +kernel, by decide +kernel⟩, List.mem_of_getElem? (i := 17) (by decide +kernel), List.mem_of_getElem? (i := 227) (by decide +kernel), List.mem_of_getElem? (i := 228) (by decide +kernel)⟩
theorem lw_p11 : lw_okq (⟨"LandingSlots", "flightToMoveTo", "(I)I"⟩, 4) := ⟨⟨by decide +kernel, by decide +kernel⟩, List.mem_of_getElem? (i := 17) (by decide +kernel), List.mem_of_getElem? (i := 239) (by decide +kernel), List.mem_of_getElem? (i := 240) (by decide +kernel)⟩
theorem lw_p12 : lw_okq (⟨"LandingSlots", "couldMove", "(II)Z"⟩, 4) := ⟨⟨by decide +kernel, by decide +kernel⟩, List.mem_of_getElem? (i := 17) (by decide +kernel), List.mem_of_getElem? (i := 243) (by decide +kernel), List.mem_of_getElem? (i := 244) (by decide +kernel)⟩
theorem lw_p13 : lw_okq (⟨"LandingSlots", "moveForward", "(II)V"⟩, 4) := ⟨⟨by decide +kernel, by decide +kernel⟩, List.mem_of_getElem? (i := 17) (by decide +kernel), List.mem_of_getElem? (i := 247) (by decide +kernel), List.mem_of_getElem? (i := 248) (by decide +kernel)⟩
theorem lw_p14 : lw_okq (⟨"LandingSlots", "flightsThatCouldMoveTo", "(I)I"⟩, 4) := ⟨⟨by decide +kernel, by decide +kernel⟩, List.mem_of_getElem? (i := 17) (by decide +kernel), List.mem_of_getElem? (i := 255) (by decide +kernel), List.mem_of_getElem? (i := 256) (by decide +kernel)⟩
theorem lw_p15 : lw_okq (⟨"java/lang/Throwable", "fillInStackTrace", "(I)Ljava/lang/Throwable;"⟩, 6) := ⟨⟨by decide +kernel, by decide +kernel⟩, List.mem_of_getElem? (i := 311) (by decide +kernel), List.mem_of_getElem? (i := 309) (by decide +kernel), List.mem_of_getElem? (i := 310) (by decide +kernel)⟩
def lw_privs_1 : List (MethodName × Nat) := [(⟨"LandingSlots", "rationAll", "()I"⟩, 4), (⟨"LandingSlots", "clearWhatIsNotFrozen", "()V"⟩, 4), (⟨"LandingSlots", "isFrozen", "(I)Z"⟩, 4), (⟨"LandingSlots", "putInFirstSlot", "(I)Z"⟩, 4), (⟨"LandingSlots", "putIn", "(II)V"⟩, 4), (⟨"LandingSlots", "isGood", "(I)Z"⟩, 4), (⟨"LandingSlots", "contentCanUse", "(II)Z"⟩, 4), (⟨"LandingSlots", "carryOutIfPossible", "(I)I"⟩, 4), (⟨"LandingSlots", "endAsTraded", "(I)V"⟩, 4), (⟨"LandingSlots", "exchange", "(II)V"⟩, 4), (⟨"LandingSlots", "partnerOf", "(I)I"⟩, 4), (⟨"LandingSlots", "flightToMoveTo", "(I)I"⟩, 4), (⟨"LandingSlots", "couldMove", "(II)Z"⟩, 4), (⟨"LandingSlots", "moveForward", "(II)V"⟩, 4), (⟨"LandingSlots", "flightsThatCouldMoveTo", "(I)I"⟩, 4), (⟨"java/lang/Throwable", "fillInStackTrace", "(I)Ljava/lang/Throwable;"⟩, 6)]
theorem lw_r1 : ∀ q ∈ lw_privs_1, lw_okq q := List.forall_mem_cons.mpr ⟨lw_p0, List.forall_mem_cons.mpr ⟨lw_p1, List.forall_mem_cons.mpr ⟨lw_p2, List.forall_mem_cons.mpr ⟨lw_p3, List.forall_mem_cons.mpr ⟨lw_p4, List.forall_mem_cons.mpr ⟨lw_p5, List.forall_mem_cons.mpr ⟨lw_p6, List.forall_mem_cons.mpr ⟨lw_p7, List.forall_mem_cons.mpr ⟨lw_p8, List.forall_mem_cons.mpr ⟨lw_p9, List.forall_mem_cons.mpr ⟨lw_p10, List.forall_mem_cons.mpr ⟨lw_p11, List.forall_mem_cons.mpr ⟨lw_p12, List.forall_mem_cons.mpr ⟨lw_p13, List.forall_mem_cons.mpr ⟨lw_p14, List.forall_mem_cons.mpr ⟨lw_p15, fun _ h => absurd h List.not_mem_nil⟩⟩⟩⟩⟩⟩⟩⟩⟩⟩⟩⟩⟩⟩⟩⟩
theorem lw_p16 : lw_okq (⟨"LandingSlots", "losesFrozenSlot", "(II)Z"⟩, 4) := ⟨⟨by decide +kernel, by decide +kernel⟩, List.mem_of_getElem? (i := 17) (by decide +kernel), List.mem_of_getElem? (i := 342) (by decide +kernel), List.mem_of_getElem? (i := 343) (by decide +kernel)⟩
theorem lw_p17 : lw_okq (⟨"LandingSlots", "checkAirline", "(I)V"⟩, 4) := ⟨⟨by decide +kernel, by decide +kernel⟩, List.mem_of_getElem? (i := 17) (by decide +kernel), List.mem_of_getElem? (i := 377) (by decide +kernel), List.mem_of_getElem? (i := 378) (by decide +kernel)⟩
theorem lw_p18 : lw_okq (⟨"LandingSlots$Flights", "insertBySchedule", "(I)V"⟩, 8) := ⟨⟨by decide +kernel, by decide +kernel⟩, List.mem_of_getElem? (i := 48) (by decide +kernel), List.mem_of_getElem? (i := 392) (by decide +kernel), List.mem_of_getElem? (i := 393) (by decide +kernel)⟩
theorem lw_p19 : lw_okq (⟨"LandingSlots", "checkFlight", "(I)V"⟩, 4) := ⟨⟨by decide +kernel, by decide +kernel⟩, List.mem_of_getElem? (i := 17) (by decide +kernel), List.mem_of_getElem? (i := 403) (by decide +kernel), List.mem_of_getElem? (i := 404) (by decide +kernel)⟩
theorem lw_p20 : lw_okq (⟨"LandingSlots", "checkSlot", "(I)V"⟩, 4) := ⟨⟨by decide +kernel, by decide +kernel⟩, List.mem_of_getElem? (i := 17) (by decide +kernel), List.mem_of_getElem? (i := 416) (by decide +kernel), List.mem_of_getElem? (i := 417) (by decide +kernel)⟩
theorem lw_p21 : lw_okq (⟨"LandingSlots", "checkPlannable", "(I)V"⟩, 4) := ⟨⟨by decide +kernel, by decide +kernel⟩, List.mem_of_getElem? (i := 17) (by decide +kernel), List.mem_of_getElem? (i := 450) (by decide +kernel), List.mem_of_getElem? (i := 451) (by decide +kernel)⟩
theorem lw_p22 : lw_okq (⟨"LandingSlots", "takeOut", "(II)V"⟩, 4) := ⟨⟨by decide +kernel, by decide +kernel⟩, List.mem_of_getElem? (i := 17) (by decide +kernel), List.mem_of_getElem? (i := 455) (by decide +kernel), List.mem_of_getElem? (i := 456) (by decide +kernel)⟩
theorem lw_p23 : lw_okq (⟨"LandingSlots", "checkAirlineOrNone", "(I)V"⟩, 4) := ⟨⟨by decide +kernel, by decide +kernel⟩, List.mem_of_getElem? (i := 17) (by decide +kernel), List.mem_of_getElem? (i := 513) (by decide +kernel), List.mem_of_getElem? (i := 514) (by decide +kernel)⟩
theorem lw_p24 : lw_okq (⟨"LandingSlotsModel", "rationed", "()I"⟩, 19) := ⟨⟨by decide +kernel, by decide +kernel⟩, List.mem_of_getElem? (i := 553) (by decide +kernel), List.mem_of_getElem? (i := 625) (by decide +kernel), List.mem_of_getElem? (i := 626) (by decide +kernel)⟩
theorem lw_p25 : lw_okq (⟨"LandingSlotsModel", "isFrozen", "(I)Z"⟩, 19) := ⟨⟨by decide +kernel, by decide +kernel⟩, List.mem_of_getElem? (i := 553) (by decide +kernel), List.mem_of_getElem? (i := 629) (by decide +kernel), List.mem_of_getElem? (i := 630) (by decide +kernel)⟩
theorem lw_p26 : lw_okq (⟨"LandingSlotsModel", "empty", "(I)V"⟩, 19) := ⟨⟨by decide +kernel, by decide +kernel⟩, List.mem_of_getElem? (i := 553) (by decide +kernel), List.mem_of_getElem? (i := 633) (by decide +kernel), List.mem_of_getElem? (i := 634) (by decide +kernel)⟩
theorem lw_p27 : lw_okq (⟨"LandingSlotsModel", "nextFlight", "()I"⟩, 19) := ⟨⟨by decide +kernel, by decide +kernel⟩, List.mem_of_getElem? (i := 553) (by decide +kernel), List.mem_of_getElem? (i := 637) (by decide +kernel), List.mem_of_getElem? (i := 638) (by decide +kernel)⟩
theorem lw_p28 : lw_okq (⟨"LandingSlotsModel", "isLoose", "(I)Z"⟩, 19) := ⟨⟨by decide +kernel, by decide +kernel⟩, List.mem_of_getElem? (i := 553) (by decide +kernel), List.mem_of_getElem? (i := 641) (by decide +kernel), List.mem_of_getElem? (i := 642) (by decide +kernel)⟩
theorem lw_p29 : lw_okq (⟨"LandingSlotsModel", "isFlight", "(I)Z"⟩, 19) := ⟨⟨by decide +kernel, by decide +kernel⟩, List.mem_of_getElem? (i := 553) (by decide +kernel), List.mem_of_getElem? (i := 663) (by decide +kernel), List.mem_of_getElem? (i := 664) (by decide +kernel)⟩
theorem lw_p30 : lw_okq (⟨"LandingSlotsModel", "isSlot", "(I)Z"⟩, 19) := ⟨⟨by decide +kernel, by decide +kernel⟩, List.mem_of_getElem? (i := 553) (by decide +kernel), List.mem_of_getElem? (i := 671) (by decide +kernel), List.mem_of_getElem? (i := 672) (by decide +kernel)⟩
theorem lw_p31 : lw_okq (⟨"LandingSlotsModel", "note", "(IIII)V"⟩, 19) := ⟨⟨by decide +kernel, by decide +kernel⟩, List.mem_of_getElem? (i := 553) (by decide +kernel), List.mem_of_getElem? (i := 683) (by decide +kernel), List.mem_of_getElem? (i := 684) (by decide +kernel)⟩
def lw_privs_2 : List (MethodName × Nat) := [(⟨"LandingSlots", "losesFrozenSlot", "(II)Z"⟩, 4), (⟨"LandingSlots", "checkAirline", "(I)V"⟩, 4), (⟨"LandingSlots$Flights", "insertBySchedule", "(I)V"⟩, 8), (⟨"LandingSlots", "checkFlight", "(I)V"⟩, 4), (⟨"LandingSlots", "checkSlot", "(I)V"⟩, 4), (⟨"LandingSlots", "checkPlannable", "(I)V"⟩, 4), (⟨"LandingSlots", "takeOut", "(II)V"⟩, 4), (⟨"LandingSlots", "checkAirlineOrNone", "(I)V"⟩, 4), (⟨"LandingSlotsModel", "rationed", "()I"⟩, 19), (⟨"LandingSlotsModel", "isFrozen", "(I)Z"⟩, 19), (⟨"LandingSlotsModel", "empty", "(I)V"⟩, 19), (⟨"LandingSlotsModel", "nextFlight", "()I"⟩, 19), (⟨"LandingSlotsModel", "isLoose", "(I)Z"⟩, 19), (⟨"LandingSlotsModel", "isFlight", "(I)Z"⟩, 19), (⟨"LandingSlotsModel", "isSlot", "(I)Z"⟩, 19), (⟨"LandingSlotsModel", "note", "(IIII)V"⟩, 19)]
theorem lw_r2 : ∀ q ∈ lw_privs_2, lw_okq q := List.forall_mem_cons.mpr ⟨lw_p16, List.forall_mem_cons.mpr ⟨lw_p17, List.forall_mem_cons.mpr ⟨lw_p18, List.forall_mem_cons.mpr ⟨lw_p19, List.forall_mem_cons.mpr ⟨lw_p20, List.forall_mem_cons.mpr ⟨lw_p21, List.forall_mem_cons.mpr ⟨lw_p22, List.forall_mem_cons.mpr ⟨lw_p23, List.forall_mem_cons.mpr ⟨lw_p24, List.forall_mem_cons.mpr ⟨lw_p25, List.forall_mem_cons.mpr ⟨lw_p26, List.forall_mem_cons.mpr ⟨lw_p27, List.forall_mem_cons.mpr ⟨lw_p28, List.forall_mem_cons.mpr ⟨lw_p29, List.forall_mem_cons.mpr ⟨lw_p30, List.forall_mem_cons.mpr ⟨lw_p31, fun _ h => absurd h List.not_mem_nil⟩⟩⟩⟩⟩⟩⟩⟩⟩⟩⟩⟩⟩⟩⟩⟩
theorem lw_p32 : lw_okq (⟨"LandingSlotsModel", "exchange", "(II)V"⟩, 19) := ⟨⟨by decide +kernel, by decide +kernel⟩, List.mem_of_getElem? (i := 553) (by decide +kernel), List.mem_of_getElem? (i := 699) (by decide +kernel), List.mem_of_getElem? (i := 700) (by decide +kernel)⟩
theorem lw_p33 : lw_okq (⟨"LandingSlotsModel", "put", "(II)V"⟩, 19) := ⟨⟨by decide +kernel, by decide +kernel⟩, List.mem_of_getElem? (i := 553) (by decide +kernel), List.mem_of_getElem? (i := 703) (by decide +kernel), List.mem_of_getElem? (i := 704) (by decide +kernel)⟩
theorem lw_p34 : lw_okq (⟨"LandingSlotsModel", "isGood", "(I)Z"⟩, 19) := ⟨⟨by decide +kernel, by decide +kernel⟩, List.mem_of_getElem? (i := 553) (by decide +kernel), List.mem_of_getElem? (i := 719) (by decide +kernel), List.mem_of_getElem? (i := 720) (by decide +kernel)⟩
theorem lw_p35 : lw_okq (⟨"LandingSlotsModel", "partner", "(I)I"⟩, 19) := ⟨⟨by decide +kernel, by decide +kernel⟩, List.mem_of_getElem? (i := 553) (by decide +kernel), List.mem_of_getElem? (i := 723) (by decide +kernel), List.mem_of_getElem? (i := 724) (by decide +kernel)⟩
theorem lw_p36 : lw_okq (⟨"LandingSlotsModel", "close", "(I)V"⟩, 19) := ⟨⟨by decide +kernel, by decide +kernel⟩, List.mem_of_getElem? (i := 553) (by decide +kernel), List.mem_of_getElem? (i := 727) (by decide +kernel), List.mem_of_getElem? (i := 728) (by decide +kernel)⟩
theorem lw_p37 : lw_okq (⟨"LandingSlotsModel", "moves", "()Z"⟩, 19) := ⟨⟨by decide +kernel, by decide +kernel⟩, List.mem_of_getElem? (i := 553) (by decide +kernel), List.mem_of_getElem? (i := 735) (by decide +kernel), List.mem_of_getElem? (i := 736) (by decide +kernel)⟩
theorem lw_p38 : lw_okq (⟨"LandingSlotsModel", "follower", "(II)I"⟩, 19) := ⟨⟨by decide +kernel, by decide +kernel⟩, List.mem_of_getElem? (i := 553) (by decide +kernel), List.mem_of_getElem? (i := 739) (by decide +kernel), List.mem_of_getElem? (i := 740) (by decide +kernel)⟩
theorem lw_p39 : lw_okq (⟨"LandingSlotsModel", "isGap", "(II)Z"⟩, 19) := ⟨⟨by decide +kernel, by decide +kernel⟩, List.mem_of_getElem? (i := 553) (by decide +kernel), List.mem_of_getElem? (i := 743) (by decide +kernel), List.mem_of_getElem? (i := 744) (by decide +kernel)⟩
def lw_privs_3 : List (MethodName × Nat) := [(⟨"LandingSlotsModel", "exchange", "(II)V"⟩, 19), (⟨"LandingSlotsModel", "put", "(II)V"⟩, 19), (⟨"LandingSlotsModel", "isGood", "(I)Z"⟩, 19), (⟨"LandingSlotsModel", "partner", "(I)I"⟩, 19), (⟨"LandingSlotsModel", "close", "(I)V"⟩, 19), (⟨"LandingSlotsModel", "moves", "()Z"⟩, 19), (⟨"LandingSlotsModel", "follower", "(II)I"⟩, 19), (⟨"LandingSlotsModel", "isGap", "(II)Z"⟩, 19)]
theorem lw_r3 : ∀ q ∈ lw_privs_3, lw_okq q := List.forall_mem_cons.mpr ⟨lw_p32, List.forall_mem_cons.mpr ⟨lw_p33, List.forall_mem_cons.mpr ⟨lw_p34, List.forall_mem_cons.mpr ⟨lw_p35, List.forall_mem_cons.mpr ⟨lw_p36, List.forall_mem_cons.mpr ⟨lw_p37, List.forall_mem_cons.mpr ⟨lw_p38, List.forall_mem_cons.mpr ⟨lw_p39, fun _ h => absurd h List.not_mem_nil⟩⟩⟩⟩⟩⟩⟩⟩
def lw_privs : List (MethodName × Nat) := lw_privs_1 ++ (lw_privs_2 ++ (lw_privs_3))
def lw_tbl : List Cond := k2_sels lw_privs ++ tables_1
theorem lw_privs_ok : ∀ q ∈ lw_privs, lw_okq q := by
  show ∀ q ∈ lw_privs_1 ++ (lw_privs_2 ++ (lw_privs_3)), lw_okq q
  exact List.forall_mem_append.mpr ⟨lw_r1, List.forall_mem_append.mpr ⟨lw_r2, lw_r3⟩⟩
end
section
/-! Names: classes, fields, methods (by program, out of the listing and the tables). -/
def RX0 : String := "LandingSlots$Entries"
def TX0 : u_T := fun k => match k with
  | 0 => ("LandingSlots$Entries", "kind", "[I", true)
  | 1 => ("LandingSlots$Entries", "flight", "[I", true)
  | 2 => ("LandingSlots$Entries", "from", "[I", true)
  | 3 => ("LandingSlots$Entries", "to", "[I", true)
  | _ => ("LandingSlots$Entries", "count", "I", false)
def tyX0 : Nat → FieldType := fun k => match k with
  | 0 => .array .int
  | 1 => .array .int
  | 2 => .array .int
  | 3 => .array .int
  | _ => .int
theorem nmX0 : ∀ a, a < 5 → ∀ b, b < 5 → a ≠ b → (TX0 a).2.1 ≠ (TX0 b).2.1 := by decide +kernel
theorem tyX0_ok : ∀ k, k < 5 → parseFieldDescriptor (TX0 k).2.2.1 = some (tyX0 k) := by decide +kernel
set_option maxRecDepth 20000 in
theorem inX0 : ∀ w ∈ u_ws RX0 TX0 5, w ∈ lw_tbl := by decide +kernel
abbrev cX0_init : ByteArray := prog_2_method_1_code
def yX0_init : MethodName := ⟨RX0, "<init>", "()V"⟩
abbrev cX0_clear : ByteArray := prog_2_method_2_code
def yX0_clear : MethodName := ⟨RX0, "clear", "()V"⟩
abbrev cX0_add : ByteArray := prog_2_method_3_code
def yX0_add : MethodName := ⟨RX0, "add", "(IIII)V"⟩
def RX1 : String := "LandingSlots$Flights"
def TX1 : u_T := fun k => match k with
  | 0 => ("LandingSlots$Flights", "airline", "[I", true)
  | 1 => ("LandingSlots$Flights", "scheduled", "[I", true)
  | 2 => ("LandingSlots$Flights", "earliest", "[I", true)
  | 3 => ("LandingSlots$Flights", "slot", "[I", true)
  | 4 => ("LandingSlots$Flights", "cancelled", "[Z", true)
  | 5 => ("LandingSlots$Flights", "airborne", "[Z", true)
  | 6 => ("LandingSlots$Flights", "bySchedule", "[I", true)
  | _ => ("LandingSlots$Flights", "count", "I", false)
def tyX1 : Nat → FieldType := fun k => match k with
  | 0 => .array .int
  | 1 => .array .int
  | 2 => .array .int
  | 3 => .array .int
  | 4 => .array .boolean
  | 5 => .array .boolean
  | 6 => .array .int
  | _ => .int
theorem nmX1 : ∀ a, a < 8 → ∀ b, b < 8 → a ≠ b → (TX1 a).2.1 ≠ (TX1 b).2.1 := by decide +kernel
theorem tyX1_ok : ∀ k, k < 8 → parseFieldDescriptor (TX1 k).2.2.1 = some (tyX1 k) := by decide +kernel
set_option maxRecDepth 20000 in
theorem inX1 : ∀ w ∈ u_ws RX1 TX1 8, w ∈ lw_tbl := by decide +kernel
abbrev cX1_init : ByteArray := prog_3_method_1_code
def yX1_init : MethodName := ⟨RX1, "<init>", "()V"⟩
abbrev cX1_add : ByteArray := prog_3_method_2_code
def yX1_add : MethodName := ⟨RX1, "add", "(III)I"⟩
abbrev cX1_insertBySchedule : ByteArray := prog_3_method_3_code
def yX1_insertBySchedule : MethodName := ⟨RX1, "insertBySchedule", "(I)V"⟩
abbrev cX1_isPlannable : ByteArray := prog_3_method_4_code
def yX1_isPlannable : MethodName := ⟨RX1, "isPlannable", "(I)Z"⟩
abbrev cX1_canUse : ByteArray := prog_3_method_5_code
def yX1_canUse : MethodName := ⟨RX1, "canUse", "(II)Z"⟩
def RX2 : String := "LandingSlots$Offers"
def TX2 : u_T := fun k => match k with
  | 0 => ("LandingSlots$Offers", "airline", "[I", true)
  | 1 => ("LandingSlots$Offers", "give", "[I", true)
  | 2 => ("LandingSlots$Offers", "want", "[I", true)
  | 3 => ("LandingSlots$Offers", "standing", "[Z", true)
  | _ => ("LandingSlots$Offers", "count", "I", false)
def tyX2 : Nat → FieldType := fun k => match k with
  | 0 => .array .int
  | 1 => .array .int
  | 2 => .array .int
  | 3 => .array .boolean
  | _ => .int
theorem nmX2 : ∀ a, a < 5 → ∀ b, b < 5 → a ≠ b → (TX2 a).2.1 ≠ (TX2 b).2.1 := by decide +kernel
theorem tyX2_ok : ∀ k, k < 5 → parseFieldDescriptor (TX2 k).2.2.1 = some (tyX2 k) := by decide +kernel
set_option maxRecDepth 20000 in
theorem inX2 : ∀ w ∈ u_ws RX2 TX2 5, w ∈ lw_tbl := by decide +kernel
abbrev cX2_init : ByteArray := prog_4_method_1_code
def yX2_init : MethodName := ⟨RX2, "<init>", "()V"⟩
abbrev cX2_add : ByteArray := prog_4_method_2_code
def yX2_add : MethodName := ⟨RX2, "add", "(III)I"⟩
abbrev cX2_areOpposite : ByteArray := prog_4_method_3_code
def yX2_areOpposite : MethodName := ⟨RX2, "areOpposite", "(II)Z"⟩
def RX3 : String := "LandingSlots$Slots"
def TX3 : u_T := fun k => match k with
  | 0 => ("LandingSlots$Slots", "open", "[Z", true)
  | 1 => ("LandingSlots$Slots", "owner", "[I", true)
  | _ => ("LandingSlots$Slots", "flight", "[I", true)
def tyX3 : Nat → FieldType := fun k => match k with
  | 0 => .array .boolean
  | 1 => .array .int
  | _ => .array .int
theorem nmX3 : ∀ a, a < 3 → ∀ b, b < 3 → a ≠ b → (TX3 a).2.1 ≠ (TX3 b).2.1 := by decide +kernel
theorem tyX3_ok : ∀ k, k < 3 → parseFieldDescriptor (TX3 k).2.2.1 = some (tyX3 k) := by decide +kernel
set_option maxRecDepth 20000 in
theorem inX3 : ∀ w ∈ u_ws RX3 TX3 3, w ∈ lw_tbl := by decide +kernel
abbrev cX3_init : ByteArray := prog_5_method_1_code
def yX3_init : MethodName := ⟨RX3, "<init>", "()V"⟩
abbrev cX3_isSlot : ByteArray := prog_5_method_2_code
def yX3_isSlot : MethodName := ⟨RX3, "isSlot", "(I)Z"⟩
abbrev cX3_isEmpty : ByteArray := prog_5_method_3_code
def yX3_isEmpty : MethodName := ⟨RX3, "isEmpty", "(I)Z"⟩
abbrev cX3_isOffsetAtRate : ByteArray := prog_5_method_4_code
def yX3_isOffsetAtRate : MethodName := ⟨RX3, "isOffsetAtRate", "(II)Z"⟩
abbrev cX3_setRate : ByteArray := prog_5_method_5_code
def yX3_setRate : MethodName := ⟨RX3, "setRate", "(II)V"⟩
abbrev cX3_countWithOwner : ByteArray := prog_5_method_6_code
def yX3_countWithOwner : MethodName := ⟨RX3, "countWithOwner", "(I)I"⟩
def RX4 : String := "LandingSlots"
def TX4 : u_T := fun k => match k with
  | 0 => ("LandingSlots", "slots", "LLandingSlots$Slots;", true)
  | 1 => ("LandingSlots", "flights", "LLandingSlots$Flights;", true)
  | 2 => ("LandingSlots", "offers", "LLandingSlots$Offers;", true)
  | _ => ("LandingSlots", "entries", "LLandingSlots$Entries;", true)
def tyX4 : Nat → FieldType := fun k => match k with
  | 0 => .object "LandingSlots$Slots"
  | 1 => .object "LandingSlots$Flights"
  | 2 => .object "LandingSlots$Offers"
  | _ => .object "LandingSlots$Entries"
theorem nmX4 : ∀ a, a < 4 → ∀ b, b < 4 → a ≠ b → (TX4 a).2.1 ≠ (TX4 b).2.1 := by decide +kernel
theorem tyX4_ok : ∀ k, k < 4 → parseFieldDescriptor (TX4 k).2.2.1 = some (tyX4 k) := by decide +kernel
set_option maxRecDepth 20000 in
theorem inX4 : ∀ w ∈ u_ws RX4 TX4 4, w ∈ lw_tbl := by decide +kernel
abbrev cX4_init : ByteArray := prog_1_method_1_code
def yX4_init : MethodName := ⟨RX4, "<init>", "()V"⟩
abbrev cX4_rate : ByteArray := prog_1_method_2_code
def yX4_rate : MethodName := ⟨RX4, "rate", "(II)I"⟩
abbrev cX4_flight : ByteArray := prog_1_method_3_code
def yX4_flight : MethodName := ⟨RX4, "flight", "(III)I"⟩
abbrev cX4_ration : ByteArray := prog_1_method_4_code
def yX4_ration : MethodName := ⟨RX4, "ration", "()I"⟩
abbrev cX4_slotOf : ByteArray := prog_1_method_5_code
def yX4_slotOf : MethodName := ⟨RX4, "slotOf", "(I)I"⟩
abbrev cX4_ownerOf : ByteArray := prog_1_method_6_code
def yX4_ownerOf : MethodName := ⟨RX4, "ownerOf", "(I)I"⟩
abbrev cX4_flightIn : ByteArray := prog_1_method_7_code
def yX4_flightIn : MethodName := ⟨RX4, "flightIn", "(I)I"⟩
abbrev cX4_later : ByteArray := prog_1_method_8_code
def yX4_later : MethodName := ⟨RX4, "later", "(II)Z"⟩
abbrev cX4_cancel : ByteArray := prog_1_method_9_code
def yX4_cancel : MethodName := ⟨RX4, "cancel", "(I)Z"⟩
abbrev cX4_airborne : ByteArray := prog_1_method_10_code
def yX4_airborne : MethodName := ⟨RX4, "airborne", "(I)V"⟩
abbrev cX4_swap : ByteArray := prog_1_method_11_code
def yX4_swap : MethodName := ⟨RX4, "swap", "(II)V"⟩
abbrev cX4_offer : ByteArray := prog_1_method_12_code
def yX4_offer : MethodName := ⟨RX4, "offer", "(III)I"⟩
abbrev cX4_drop : ByteArray := prog_1_method_13_code
def yX4_drop : MethodName := ⟨RX4, "drop", "(I)Z"⟩
abbrev cX4_trade : ByteArray := prog_1_method_14_code
def yX4_trade : MethodName := ⟨RX4, "trade", "()I"⟩
abbrev cX4_compress : ByteArray := prog_1_method_15_code
def yX4_compress : MethodName := ⟨RX4, "compress", "()I"⟩
abbrev cX4_gaps : ByteArray := prog_1_method_16_code
def yX4_gaps : MethodName := ⟨RX4, "gaps", "()I"⟩
abbrev cX4_delay : ByteArray := prog_1_method_17_code
def yX4_delay : MethodName := ⟨RX4, "delay", "(I)I"⟩
abbrev cX4_owned : ByteArray := prog_1_method_18_code
def yX4_owned : MethodName := ⟨RX4, "owned", "(I)I"⟩
abbrev cX4_log : ByteArray := prog_1_method_19_code
def yX4_log : MethodName := ⟨RX4, "log", "()I"⟩
abbrev cX4_entry : ByteArray := prog_1_method_20_code
def yX4_entry : MethodName := ⟨RX4, "entry", "(II)I"⟩
abbrev cX4_checkFlight : ByteArray := prog_1_method_21_code
def yX4_checkFlight : MethodName := ⟨RX4, "checkFlight", "(I)V"⟩
abbrev cX4_checkAirline : ByteArray := prog_1_method_22_code
def yX4_checkAirline : MethodName := ⟨RX4, "checkAirline", "(I)V"⟩
abbrev cX4_checkAirlineOrNone : ByteArray := prog_1_method_23_code
def yX4_checkAirlineOrNone : MethodName := ⟨RX4, "checkAirlineOrNone", "(I)V"⟩
abbrev cX4_checkSlot : ByteArray := prog_1_method_24_code
def yX4_checkSlot : MethodName := ⟨RX4, "checkSlot", "(I)V"⟩
abbrev cX4_checkPlannable : ByteArray := prog_1_method_25_code
def yX4_checkPlannable : MethodName := ⟨RX4, "checkPlannable", "(I)V"⟩
abbrev cX4_isFrozen : ByteArray := prog_1_method_26_code
def yX4_isFrozen : MethodName := ⟨RX4, "isFrozen", "(I)Z"⟩
abbrev cX4_losesFrozenSlot : ByteArray := prog_1_method_27_code
def yX4_losesFrozenSlot : MethodName := ⟨RX4, "losesFrozenSlot", "(II)Z"⟩
abbrev cX4_rationAll : ByteArray := prog_1_method_28_code
def yX4_rationAll : MethodName := ⟨RX4, "rationAll", "()I"⟩
abbrev cX4_clearWhatIsNotFrozen : ByteArray := prog_1_method_29_code
def yX4_clearWhatIsNotFrozen : MethodName := ⟨RX4, "clearWhatIsNotFrozen", "()V"⟩
abbrev cX4_putInFirstSlot : ByteArray := prog_1_method_30_code
def yX4_putInFirstSlot : MethodName := ⟨RX4, "putInFirstSlot", "(I)Z"⟩
abbrev cX4_putIn : ByteArray := prog_1_method_31_code
def yX4_putIn : MethodName := ⟨RX4, "putIn", "(II)V"⟩
abbrev cX4_takeOut : ByteArray := prog_1_method_32_code
def yX4_takeOut : MethodName := ⟨RX4, "takeOut", "(II)V"⟩
abbrev cX4_couldMove : ByteArray := prog_1_method_33_code
def yX4_couldMove : MethodName := ⟨RX4, "couldMove", "(II)Z"⟩
abbrev cX4_isGood : ByteArray := prog_1_method_34_code
def yX4_isGood : MethodName := ⟨RX4, "isGood", "(I)Z"⟩
abbrev cX4_contentCanUse : ByteArray := prog_1_method_35_code
def yX4_contentCanUse : MethodName := ⟨RX4, "contentCanUse", "(II)Z"⟩
abbrev cX4_carryOutIfPossible : ByteArray := prog_1_method_36_code
def yX4_carryOutIfPossible : MethodName := ⟨RX4, "carryOutIfPossible", "(I)I"⟩
abbrev cX4_partnerOf : ByteArray := prog_1_method_37_code
def yX4_partnerOf : MethodName := ⟨RX4, "partnerOf", "(I)I"⟩
abbrev cX4_endAsTraded : ByteArray := prog_1_method_38_code
def yX4_endAsTraded : MethodName := ⟨RX4, "endAsTraded", "(I)V"⟩
abbrev cX4_exchange : ByteArray := prog_1_method_39_code
def yX4_exchange : MethodName := ⟨RX4, "exchange", "(II)V"⟩
abbrev cX4_flightsThatCouldMoveTo : ByteArray := prog_1_method_40_code
def yX4_flightsThatCouldMoveTo : MethodName := ⟨RX4, "flightsThatCouldMoveTo", "(I)I"⟩
abbrev cX4_flightToMoveTo : ByteArray := prog_1_method_41_code
def yX4_flightToMoveTo : MethodName := ⟨RX4, "flightToMoveTo", "(I)I"⟩
abbrev cX4_moveForward : ByteArray := prog_1_method_42_code
def yX4_moveForward : MethodName := ⟨RX4, "moveForward", "(II)V"⟩
def RX5 : String := "LandingSlotsModel"
def TX5 : u_T := fun k => match k with
  | 0 => ("LandingSlotsModel", "code", "I", false)
  | 1 => ("LandingSlotsModel", "slot", "[Z", true)
  | 2 => ("LandingSlotsModel", "owner", "[I", true)
  | 3 => ("LandingSlotsModel", "in", "[I", true)
  | 4 => ("LandingSlotsModel", "flights", "I", false)
  | 5 => ("LandingSlotsModel", "airline", "[I", true)
  | 6 => ("LandingSlotsModel", "scheduled", "[I", true)
  | 7 => ("LandingSlotsModel", "earliest", "[I", true)
  | 8 => ("LandingSlotsModel", "at", "[I", true)
  | 9 => ("LandingSlotsModel", "cancelled", "[Z", true)
  | 10 => ("LandingSlotsModel", "airborne", "[Z", true)
  | 11 => ("LandingSlotsModel", "done", "[Z", true)
  | 12 => ("LandingSlotsModel", "offers", "I", false)
  | 13 => ("LandingSlotsModel", "offerer", "[I", true)
  | 14 => ("LandingSlotsModel", "give", "[I", true)
  | 15 => ("LandingSlotsModel", "want", "[I", true)
  | 16 => ("LandingSlotsModel", "stands", "[Z", true)
  | 17 => ("LandingSlotsModel", "entries", "I", false)
  | _ => ("LandingSlotsModel", "log", "[I", true)
def tyX5 : Nat → FieldType := fun k => match k with
  | 0 => .int
  | 1 => .array .boolean
  | 2 => .array .int
  | 3 => .array .int
  | 4 => .int
  | 5 => .array .int
  | 6 => .array .int
  | 7 => .array .int
  | 8 => .array .int
  | 9 => .array .boolean
  | 10 => .array .boolean
  | 11 => .array .boolean
  | 12 => .int
  | 13 => .array .int
  | 14 => .array .int
  | 15 => .array .int
  | 16 => .array .boolean
  | 17 => .int
  | _ => .array .int
theorem nmX5 : ∀ a, a < 19 → ∀ b, b < 19 → a ≠ b → (TX5 a).2.1 ≠ (TX5 b).2.1 := by decide +kernel
theorem tyX5_ok : ∀ k, k < 19 → parseFieldDescriptor (TX5 k).2.2.1 = some (tyX5 k) := by decide +kernel
set_option maxRecDepth 20000 in
theorem inX5 : ∀ w ∈ u_ws RX5 TX5 19, w ∈ lw_tbl := by decide +kernel
abbrev cX5_init : ByteArray := prog_7_method_1_code
def yX5_init : MethodName := ⟨RX5, "<init>", "()V"⟩
abbrev cX5_thrown : ByteArray := prog_7_method_2_code
def yX5_thrown : MethodName := ⟨RX5, "thrown", "()I"⟩
abbrev cX5_within : ByteArray := prog_7_method_3_code
def yX5_within : MethodName := ⟨RX5, "within", "(III)Z"⟩
abbrev cX5_isFlight : ByteArray := prog_7_method_4_code
def yX5_isFlight : MethodName := ⟨RX5, "isFlight", "(I)Z"⟩
abbrev cX5_isSlot : ByteArray := prog_7_method_5_code
def yX5_isSlot : MethodName := ⟨RX5, "isSlot", "(I)Z"⟩
abbrev cX5_isFrozen : ByteArray := prog_7_method_6_code
def yX5_isFrozen : MethodName := ⟨RX5, "isFrozen", "(I)Z"⟩
abbrev cX5_isLoose : ByteArray := prog_7_method_7_code
def yX5_isLoose : MethodName := ⟨RX5, "isLoose", "(I)Z"⟩
abbrev cX5_note : ByteArray := prog_7_method_8_code
def yX5_note : MethodName := ⟨RX5, "note", "(IIII)V"⟩
abbrev cX5_empty : ByteArray := prog_7_method_9_code
def yX5_empty : MethodName := ⟨RX5, "empty", "(I)V"⟩
abbrev cX5_nextFlight : ByteArray := prog_7_method_10_code
def yX5_nextFlight : MethodName := ⟨RX5, "nextFlight", "()I"⟩
abbrev cX5_rationed : ByteArray := prog_7_method_11_code
def yX5_rationed : MethodName := ⟨RX5, "rationed", "()I"⟩
abbrev cX5_ration : ByteArray := prog_7_method_12_code
def yX5_ration : MethodName := ⟨RX5, "ration", "()I"⟩
abbrev cX5_has : ByteArray := prog_7_method_13_code
def yX5_has : MethodName := ⟨RX5, "has", "(III)Z"⟩
abbrev cX5_rate : ByteArray := prog_7_method_14_code
def yX5_rate : MethodName := ⟨RX5, "rate", "(II)I"⟩
abbrev cX5_flight : ByteArray := prog_7_method_15_code
def yX5_flight : MethodName := ⟨RX5, "flight", "(III)I"⟩
abbrev cX5_slotOf : ByteArray := prog_7_method_16_code
def yX5_slotOf : MethodName := ⟨RX5, "slotOf", "(I)I"⟩
abbrev cX5_ownerOf : ByteArray := prog_7_method_17_code
def yX5_ownerOf : MethodName := ⟨RX5, "ownerOf", "(I)I"⟩
abbrev cX5_flightIn : ByteArray := prog_7_method_18_code
def yX5_flightIn : MethodName := ⟨RX5, "flightIn", "(I)I"⟩
abbrev cX5_later : ByteArray := prog_7_method_19_code
def yX5_later : MethodName := ⟨RX5, "later", "(II)Z"⟩
abbrev cX5_cancel : ByteArray := prog_7_method_20_code
def yX5_cancel : MethodName := ⟨RX5, "cancel", "(I)Z"⟩
abbrev cX5_airborne : ByteArray := prog_7_method_21_code
def yX5_airborne : MethodName := ⟨RX5, "airborne", "(I)V"⟩
abbrev cX5_put : ByteArray := prog_7_method_22_code
def yX5_put : MethodName := ⟨RX5, "put", "(II)V"⟩
abbrev cX5_exchange : ByteArray := prog_7_method_23_code
def yX5_exchange : MethodName := ⟨RX5, "exchange", "(II)V"⟩
abbrev cX5_swap : ByteArray := prog_7_method_24_code
def yX5_swap : MethodName := ⟨RX5, "swap", "(II)V"⟩
abbrev cX5_offer : ByteArray := prog_7_method_25_code
def yX5_offer : MethodName := ⟨RX5, "offer", "(III)I"⟩
abbrev cX5_drop : ByteArray := prog_7_method_26_code
def yX5_drop : MethodName := ⟨RX5, "drop", "(I)Z"⟩
abbrev cX5_isGood : ByteArray := prog_7_method_27_code
def yX5_isGood : MethodName := ⟨RX5, "isGood", "(I)Z"⟩
abbrev cX5_partner : ByteArray := prog_7_method_28_code
def yX5_partner : MethodName := ⟨RX5, "partner", "(I)I"⟩
abbrev cX5_close : ByteArray := prog_7_method_29_code
def yX5_close : MethodName := ⟨RX5, "close", "(I)V"⟩
abbrev cX5_trade : ByteArray := prog_7_method_30_code
def yX5_trade : MethodName := ⟨RX5, "trade", "()I"⟩
abbrev cX5_isGap : ByteArray := prog_7_method_31_code
def yX5_isGap : MethodName := ⟨RX5, "isGap", "(II)Z"⟩
abbrev cX5_follower : ByteArray := prog_7_method_32_code
def yX5_follower : MethodName := ⟨RX5, "follower", "(II)I"⟩
abbrev cX5_moves : ByteArray := prog_7_method_33_code
def yX5_moves : MethodName := ⟨RX5, "moves", "()Z"⟩
abbrev cX5_compress : ByteArray := prog_7_method_34_code
def yX5_compress : MethodName := ⟨RX5, "compress", "()I"⟩
abbrev cX5_gaps : ByteArray := prog_7_method_35_code
def yX5_gaps : MethodName := ⟨RX5, "gaps", "()I"⟩
abbrev cX5_delay : ByteArray := prog_7_method_36_code
def yX5_delay : MethodName := ⟨RX5, "delay", "(I)I"⟩
abbrev cX5_owned : ByteArray := prog_7_method_37_code
def yX5_owned : MethodName := ⟨RX5, "owned", "(I)I"⟩
abbrev cX5_log : ByteArray := prog_7_method_38_code
def yX5_log : MethodName := ⟨RX5, "log", "()I"⟩
abbrev cX5_entry : ByteArray := prog_7_method_39_code
def yX5_entry : MethodName := ⟨RX5, "entry", "(II)I"⟩
def RL : String := "LandingSlotsLaw"
abbrev cL_rate : ByteArray := method_3_code
def yL_rate : MethodName := ⟨RL, "rate", "(LLandingSlots;II[J)I"⟩
abbrev cL_flight : ByteArray := method_4_code
def yL_flight : MethodName := ⟨RL, "flight", "(LLandingSlots;III[J)I"⟩
abbrev cL_slotOf : ByteArray := method_5_code
def yL_slotOf : MethodName := ⟨RL, "slotOf", "(LLandingSlots;I[J)I"⟩
abbrev cL_ownerOf : ByteArray := method_6_code
def yL_ownerOf : MethodName := ⟨RL, "ownerOf", "(LLandingSlots;I[J)I"⟩
abbrev cL_flightIn : ByteArray := method_7_code
def yL_flightIn : MethodName := ⟨RL, "flightIn", "(LLandingSlots;I[J)I"⟩
abbrev cL_later : ByteArray := method_8_code
def yL_later : MethodName := ⟨RL, "later", "(LLandingSlots;II[J)I"⟩
abbrev cL_cancel : ByteArray := method_9_code
def yL_cancel : MethodName := ⟨RL, "cancel", "(LLandingSlots;I[J)I"⟩
abbrev cL_airborne : ByteArray := method_10_code
def yL_airborne : MethodName := ⟨RL, "airborne", "(LLandingSlots;I)I"⟩
abbrev cL_swap : ByteArray := method_11_code
def yL_swap : MethodName := ⟨RL, "swap", "(LLandingSlots;II)I"⟩
abbrev cL_offer : ByteArray := method_12_code
def yL_offer : MethodName := ⟨RL, "offer", "(LLandingSlots;III[J)I"⟩
abbrev cL_drop : ByteArray := method_13_code
def yL_drop : MethodName := ⟨RL, "drop", "(LLandingSlots;I[J)I"⟩
abbrev cL_delay : ByteArray := method_14_code
def yL_delay : MethodName := ⟨RL, "delay", "(LLandingSlots;I[J)I"⟩
abbrev cL_owned : ByteArray := method_15_code
def yL_owned : MethodName := ⟨RL, "owned", "(LLandingSlots;I[J)I"⟩
abbrev cL_entry : ByteArray := method_16_code
def yL_entry : MethodName := ⟨RL, "entry", "(LLandingSlots;II[J)I"⟩
abbrev cL_law : ByteArray := code
def yL_law : MethodName := ⟨RL, "law", "([I)Z"⟩
def RJ7 : String := "java/util/Arrays"
abbrev vwCl : List vw_C := [(RX0, TX0, 5), (RX1, TX1, 8), (RX2, TX2, 5), (RX3, TX3, 3), (RX4, TX4, 4), (RX5, TX5, 19)]
end
section
/-! My own layer over the kit: contracts of methods that may return or throw; the tables' words carried along by one fact; calls, throws. -/
section XB
variable {p : Program} {l : Launch} {e : Env} {R : Room} {s : State} {m : MethodId} {args : Array Value} {below : List Frame} {meth : Method} {c : Code} {H : Heap} {locs : List Loc} {cells slots : Nat} {Q : State → Prop}
/-- words of the tables that stay true as the tables warm -/
def xok : Cond → Bool
  | .arrayClass _ => true
  | w => w.onTables && w.keepsFace
/-- all such words of the claim's tables hold at U, whatever the arguments -/
def xE (U : State) : Prop := ∀ w ∈ lw_tbl, xok w = true → ∀ a : Array Value, w.before a U = true
theorem xok_at {w : Cond} {a a' : Array Value} {s U : State} (hW : s.WarmedH U.vm) (hk : xok w = true) (h : w.before a s = true) : w.before a' U = true := by
  by_cases hc : ∃ ty, w = .arrayClass ty
  · obtain ⟨ty, rfl⟩ := hc
    have h1 : (Cond.arrayClass ty).before a (s.setVm U.vm) = true := Cond.before_shiftedFace (State.Shifted.of_warmed hW) _ rfl h
    exact h1
  · have hk2 : (w.onTables && w.keepsFace) = true := by
      cases w <;> first | exact hk | exact absurd ⟨_, rfl⟩ hc
    simp only [Bool.and_eq_true] at hk2
    have h1 : w.before a (s.setVm U.vm) = true := Cond.before_shiftedFace (State.Shifted.of_warmed hW) _ hk2.2 h
    rw [Cond.onTables_vm (A' := a') (U' := U) U.vm w hk2.1, State.setVm_self] at h1
    exact h1
theorem xE.warm {s U : State} (h : xE s) (hW : s.WarmedH U.vm) : xE U := fun w hw hk a => xok_at (a := a) hW hk (h w hw hk a)
theorem xE.same {s U : State} (h : xE s) (hv : U.vm = s.vm) : xE U := h.warm (by rw [hv]; exact State.WarmedH.refl s)
theorem xE.of {s : State} {a : Array Value} (hts : ∀ w ∈ lw_tbl, w.before a s = true) : xE s := fun w hw hk a' => xok_at (a := a) (State.WarmedH.refl s) hk (hts w hw)
/-- what a method wrote and made -/
def xFr (st t : State) (mc ms : Nat) (free : Addr → Prop) : Prop := st.WarmedH t.vm ∧ ∃ L, st.sameButNew ({ t with vm := st.vm } : State) L mc ms ∧ ∀ q ∈ L, free q.base
/-- a contract: the method ends, by an answer or an exception, as Qc says -/
def xMet (l : Launch) (y : MethodName) (cw : Cond) (rm : Room) (Pc : Array Value → State → Prop) (Qc : Array Value → State → Outcome → State → Prop) (mc ms : Nat) (free : Addr → Prop) : Prop :=
  MetFree l y (headSpec [cw] rm) Pc (fun _ _ _ _ _ => True) (fun a st o t => Qc a st o t ∧ xFr st t mc ms free)
/-- what a body owes at its end -/
def xMQ (below : List Frame) (Qc : Array Value → State → Outcome → State → Prop) (a : Array Value) (s : State) (mc ms : Nat) (free : Addr → Prop) : State → Prop := fun t =>
  ∃ o, t.status = .running ∧ Ended t below o ∧ Qc a s o t ∧ xFr s t mc ms free
theorem xMet.ofW {y : MethodName} {rm : Room} {Pc : Array Value → State → Prop} {Qc : Array Value → State → Outcome → State → Prop} {mc ms : Nat} {free : Addr → Prop} {cc : ByteArray} {maxL : Nat} {ret : Option FieldType}
    (hy : plainName y.cls = true)
    (body : ∀ p e s m args below meth c, p.tables.exec = Jvm.exec → c.code = cc → c.maxLocals = maxL → meth.sig.returnType = ret → meth.locks = false → s.methodNamed? y = some m → s.vm.method? m = some meth → (∀ x ∈ c.exceptionTable.toList, False) → Pc args s →
      W p l e rm s m args below meth c s.heap [] 0 0 (xMQ below Qc args s mc ms free) (entryFrame m args maxL)) : xMet l y (.code y cc maxL ret) rm Pc Qc mc ms free := by
  refine MetFree.of_bodyS (code := cc) (maxLocals := maxL) (ret := ret) hy ?_ ?_
  · intro args s m h hn
    obtain ⟨meth, c, h1, h2, h3, h4, h5, h6, -, -⟩ := Cond.code_spec hn (atoms_spec (ws := [Cond.code y cc maxL ret]) h _ List.mem_cons_self)
    exact ⟨meth, c, h1, h2, h3, h4, h5, h6⟩
  · intro p e s m args below meth c s₁ B hml hP _
    have hh0 : s₁.heap = s.heap := by rw [B.state]; rfl
    have hno := B.noHandlers (atoms_spec (ws := [Cond.code y cc maxL ret]) B.pre _ List.mem_cons_self)
    obtain ⟨t, a1, o, b1, b2, b3⟩ := body p e s m args below meth c B.exec B.bytes hml B.returns B.notSynchronized B.named B.method (fun x hx => by
      have h0 : c.exceptionTable.toList = [] := by simpa using hno
      rw [h0] at hx; cases hx) hP s₁ hh0 (Stand.of_body B)
    exact ⟨t, o, a1, b1, b2, b3⟩
/-- the call itself -/
theorem xcore {T : State} (X : Stand p l e R s m args below meth c T locs cells slots) {y : MethodName} {cw : Cond} {maxL : Nat} {rm : Room} {Pc : Array Value → State → Prop} {Qc : Array Value → State → Outcome → State → Prop} {mc ms : Nat} {free : Addr → Prop}
    (hM : xMet l y cw rm Pc Qc mc ms free) (hbl : FrameBlind Pc) (hfr : rm.frames + 1 ≤ R.frames) (hlo : 8 + (maxL + 11) + rm.locals ≤ R.locals) (hc : cells + rm.cells ≤ R.cells) (hs : slots + rm.slots ≤ R.slots)
    {g : JFrame} (hg : g.method = m) (hsize : g.locals.size = c.maxLocals) {ig : Instr} {len : Nat} (hdg : decode c.code g.pc = .ok (ig, len)) (hW : 2 * g.monitorRoom + (g.stack.map fun v => v.category).sum ≤ 8)
    {mk : MethodId} {a : Array Value} (hn : T.methodNamed? y = some mk) (hcs : ∃ (methY : Method) (cY : Code), T.vm.method? mk = some methY ∧ methY.code = some cY ∧ cY.maxLocals = maxL) (hcw : cw.before a T = true) (hini : (Cond.initialized y.cls).before a T = true) (hPc : Pc a T) :
    ∃ (o : Outcome) (t T' : State) (L : List Loc), Stand p l e R s m args below meth c T' (locs ++ L) (cells + mc) (slots + ms) ∧ (∀ q ∈ L, free q.base) ∧ T'.heap = t.heap ∧ T'.vm = t.vm ∧ Qc a (T.calling g mk a) o t ∧
      match o with
      | .returned v => Steps p.tables e below (doInvoke e (T.setTop g) [] mk a).1 (T'.setTop { g with pc := g.pc + len, stack := v.toList ++ g.stack })
      | .threw x => Steps p.tables e below (doInvoke e (T.setTop g) [] mk a).1 ((T'.setTop g).pushFrame (.throwing x)) := by
  obtain ⟨methY, cY, hmY, hcY, hlY⟩ := hcs
  obtain ⟨kY, hkY, -⟩ := className_of_methodNamed hn
  have hinitY : kY.init = .initialized := Cond.initialized_spec (findClass_of_methodNamed hn) hkY hini
  have h : At T g.method c below := by rw [hg]; exact X.here
  have hpre : (headSpec [cw] rm).pre.before a T = true := atoms_intro (fun w hw => by rw [List.mem_singleton.mp hw]; exact hcw)
  have hlo9 : 8 + (maxL + 11) + (headSpec [cw] rm).room.locals ≤ R.locals := hlo
  have happ : (headSpec [cw] rm).appliesLoose y e.platform (T.calling g mk a) = true :=
    Spec.appliesLoose_calling (g := g) h hdg hn hkY hinitY
      (X.room_calling (g := g) (R' := (headSpec [cw] rm).room) hsize hmY hcY hfr (by rw [hlY]; omega) hc hs) hpre
  obtain ⟨mid, hmid⟩ := h.above
  have hfr9 : (T.setTop g).frames = (.java g :: mid) ++ below := by rw [State.frames_setTop' g h.top, hmid]; rfl
  obtain ⟨o, t, hsteps, -, hend, hq⟩ := Steps.callFree hM p X.admits X.cas X.clock (acts := []) hfr9 happ (hbl _ _ _ _ hPc) trivial
  rw [State.frames_setTop' g h.top, X.tail] at hend
  obtain ⟨hQ, hWm, L, hsm, hL⟩ := hq
  cases o with
  | returned v =>
    obtain ⟨T', X', -, -, ht⟩ := X.outOf hg hdg (mk := mk) (a := a) (v := v) hend hWm hsm
    exact ⟨.returned v, t, T', L, X', hL, (congrArg State.heap ht).symm, (congrArg State.vm ht).symm, hQ, by have h9 := hsteps; rw [ht] at h9; exact h9⟩
  | threw x =>
    obtain ⟨T', X', -, -, ht⟩ := X.outOfThrown hg (mk := mk) (a := a) (x := x) hend hWm hsm
    exact ⟨.threw x, t, T', L, X', hL, (congrArg State.heap ht).symm, (congrArg State.vm ht).symm, hQ, by have h9 := hsteps; rw [ht] at h9; exact h9⟩
/-- a call, whatever its kind -/
def xRun (p : Program) (l : Launch) (e : Env) (R : Room) (s : State) (m : MethodId) (args : Array Value) (below : List Frame) (meth : Method) (c : Code) (H : Heap) (locs : List Loc) (cells slots mc ms : Nat) (g : JFrame) (rest : List Value) (Qa : State → Outcome → State → Prop) (free : Addr → Prop) : Prop :=
  ∀ T : State, T.heap = H → Stand p l e R s m args below meth c T locs cells slots → ∃ (o : Outcome) (st t T' : State) (L : List Loc), st.heap = H ∧ s.vm.Alike st.vm ∧ Stand p l e R s m args below meth c T' (locs ++ L) (cells + mc) (slots + ms) ∧ (∀ q ∈ L, free q.base) ∧ T'.heap = t.heap ∧ T'.vm = t.vm ∧ Qa st o t ∧
    match o with
    | .returned v => ∀ tg, Steps p.tables e below (T'.setTop { g with pc := g.pc + 3, stack := v.toList ++ rest }) tg → Steps p.tables e below (T.setTop g) tg
    | .threw x => Steps p.tables e below (T.setTop g) ((T'.setTop { g with stack := rest }).pushFrame (.throwing x))
/-- what the callee asks of the caller's state -/
def xPre (s : State) (H : Heap) (Pc : Array Value → State → Prop) (As : List Value) : Prop := FrameBlind Pc ∧ ∀ U : State, U.heap = H → s.WarmedH U.vm → Pc As.toArray U
variable {y : MethodName} {cc bytes : ByteArray} {maxL nL mc ms n index : Nat} {ret : Option FieldType} {rm : Room} {Pc : Array Value → State → Prop} {Qc : Array Value → State → Outcome → State → Prop} {free : Addr → Prop} {own C : String} {b : Addr} {As rest : List Value} {g : JFrame}
/-- the parts of a call that don't change: the machine, the caller, the callee's code, the room -/
def xFix (p : Program) (R : Room) (s : State) (m : MethodId) (c : Code) (cc : ByteArray) (nL : Nat) (own : String) (y : MethodName) (maxL : Nat) (rm : Room) (index n cells slots : Nat) : Prop :=
  p.tables.exec = Jvm.exec ∧ c.code = cc ∧ c.maxLocals = nL ∧ s.vm.findClass own = some m.cls ∧ rm.frames + 1 ≤ R.frames ∧ 8 + (maxL + 11) + rm.locals ≤ R.locals ∧ cells + rm.cells ≤ R.cells ∧ slots + rm.slots ≤ R.slots ∧
  (y.cls ≠ "java/lang/invoke/MethodHandle" ∧ y.cls ≠ "java/lang/invoke/VarHandle") ∧ (∀ sig, parseMethodDescriptor y.desc = some sig → n = sig.parameters.length)
theorem xrunV (F : xFix p R s m c cc nL own y maxL rm index n cells slots) (hE : xE s) (wl : Cond.methodLink own index y ∈ lw_tbl) (wi : Cond.instanceMethod y ∈ lw_tbl) (wse : Cond.selects C y y ∈ lw_tbl) (wc : Cond.code y bytes maxL ret ∈ lw_tbl) (wn : Cond.initialized y.cls ∈ lw_tbl)
    (hM : xMet l y (.code y bytes maxL ret) rm Pc Qc mc ms free) (hr : ∃ cellB : Cell, H[b]? = some cellB ∧ cellB.vm.isStatics = false ∧ s.vm.findClass C = some cellB.cls) (hp : xPre s H Pc (.ref b :: As))
    (hg : g.method = m) (hn : As.length = n) (hsize : g.locals.size = nL) (hstack : g.stack = As.reverse ++ .ref b :: rest) (hW : 2 * g.monitorRoom + (rest.map fun v => v.category).sum ≤ 8) (hdg : decode cc g.pc = .ok (.invokevirtual index, 3)) :
    xRun p l e R s m args below meth c H locs cells slots mc ms g rest (Qc (Value.ref b :: As).toArray) free := by
  obtain ⟨hx, hb, hml, ho, hfr, hlo, hce, hsl, hy, hlen⟩ := F
  intro T hT X
  obtain ⟨mk, methM, hnamed, hmethM, hstM, habM⟩ := Cond.instanceMethod_spec (hE _ wi rfl args)
  obtain ⟨methM', cM, hmethM', hcM, -, hlM, -, -, -, hsigM⟩ := Cond.code_spec hnamed (hE _ wc rfl args)
  cases hmethM.symm.trans hmethM'
  obtain ⟨cellB, hcB, hoB, hclB⟩ := hr
  obtain ⟨c2, r2, m2, q1, q2, q3, q4, kP, hkP, hkPi⟩ := Cond.selects_spec (hE _ wse rfl args)
  cases hclB.symm.trans q1
  cases (State.methodFound?_of_named hnamed hy).symm.trans q2
  cases hnamed.symm.trans q3
  have hselP : selectMethod e.platform s.vm cellB.cls mk = .method mk := by rw [Launch.admits_selectMethod X.admits]; exact q4
  have hdg' : decode c.code g.pc = .ok (.invokevirtual index, 3) := by rw [hb]; exact hdg
  obtain ⟨vm₁, X₁, hstep₁⟩ := X.invokevirtual hx ho (hE _ wl rfl args) hnamed hmethM hstM hkP hkPi hy (a := b) (cell := cellB) (by rw [hT]; exact hcB)
    (fun z h => by rw [h] at hoB; cases hoB) hselP hmethM habM hkP hkPi (g := g) hg (argsL := As) (rest := rest) (hn.trans (hlen _ hsigM)) hstack hdg'
  have hE₁ : xE (T.setVm vm₁) := hE.warm X₁.warmed
  obtain ⟨o, t, T', L, X', hL, e1, e2, hq, st⟩ := xcore X₁ hM hp.1 hfr hlo hce hsl (g := { g with stack := rest }) hg (hsize.trans hml.symm) hdg' hW (X₁.named hnamed)
    ⟨methM, cM, by rw [X₁.warmed.alike.method?]; exact hmethM, hcM, hlM⟩ (hE₁ _ wc rfl _) (hE₁ _ wn rfl _) (hp.2 (T.setVm vm₁) hT X₁.warmed)
  refine ⟨o, _, t, T', L, ?_, ?_, X', hL, e1, e2, hq, ?_⟩
  · exact hT
  · exact X₁.warmed.alike
  · cases o with
    | returned v => exact fun tg h => hstep₁ _ fun acts => by rw [doInvoke_state]; exact Steps.trans st h
    | threw x => exact hstep₁ _ fun acts => by rw [doInvoke_state]; exact st
theorem xrunS (F : xFix p R s m c cc nL own y maxL rm index n cells slots) (hE : xE s) (wl : Cond.methodLink own index y ∈ lw_tbl) (wi : Cond.static y ∈ lw_tbl) (wc : Cond.code y bytes maxL ret ∈ lw_tbl) (wn : Cond.initialized y.cls ∈ lw_tbl)
    (hM : xMet l y (.code y bytes maxL ret) rm Pc Qc mc ms free) (hp : xPre s H Pc As)
    (hg : g.method = m) (hn : As.length = n) (hsize : g.locals.size = nL) (hstack : g.stack = As.reverse ++ rest) (hW : 2 * g.monitorRoom + (rest.map fun v => v.category).sum ≤ 8) (hdg : decode cc g.pc = .ok (.invokestatic index, 3)) :
    xRun p l e R s m args below meth c H locs cells slots mc ms g rest (Qc As.toArray) free := by
  obtain ⟨hx, hb, hml, ho, hfr, hlo, hce, hsl, hy, hlen⟩ := F
  intro T hT X
  obtain ⟨mk, hnamed⟩ := Cond.code_named (hE _ wc rfl args)
  obtain ⟨methM, cM, hmethM, hcM, -, hlM, -, -, -, hsigM⟩ := Cond.code_spec hnamed (hE _ wc rfl args)
  have hstatic : methM.isStatic = true := Cond.static_spec hnamed hmethM (hE _ wi rfl args)
  obtain ⟨kP, hkP, -⟩ := className_of_methodNamed hnamed
  have hinitP : kP.init = .initialized := Cond.initialized_spec (findClass_of_methodNamed hnamed) hkP (hE _ wn rfl args)
  have hdg' : decode c.code g.pc = .ok (.invokestatic index, 3) := by rw [hb]; exact hdg
  obtain ⟨vm₁, X₁, hstep₁⟩ := X.invokestatic hx ho (hE _ wl rfl args) hnamed hmethM hstatic hkP hinitP hy (g := g) hg (argsL := As) (rest := rest) (hn.trans (hlen _ hsigM)) hstack hdg'
  have hE₁ : xE (T.setVm vm₁) := hE.warm X₁.warmed
  obtain ⟨o, t, T', L, X', hL, e1, e2, hq, st⟩ := xcore X₁ hM hp.1 hfr hlo hce hsl (g := { g with stack := rest }) hg (hsize.trans hml.symm) hdg' hW (X₁.named hnamed)
    ⟨methM, cM, by rw [X₁.warmed.alike.method?]; exact hmethM, hcM, hlM⟩ (hE₁ _ wc rfl _) (hE₁ _ wn rfl _) (hp.2 (T.setVm vm₁) hT X₁.warmed)
  refine ⟨o, _, t, T', L, ?_, ?_, X', hL, e1, e2, hq, ?_⟩
  · exact hT
  · exact X₁.warmed.alike
  · cases o with
    | returned v => exact fun tg h => hstep₁ _ fun acts => by rw [doInvoke_state]; exact Steps.trans st h
    | threw x => exact hstep₁ _ fun acts => by rw [doInvoke_state]; exact st
/-- q has been thrown over the frame g -/
def xW (p : Program) (l : Launch) (e : Env) (R : Room) (s : State) (m : MethodId) (args : Array Value) (below : List Frame) (meth : Method) (c : Code) (H : Heap) (locs : List Loc) (cells slots : Nat) (Q : State → Prop) (g : JFrame) (q : Addr) : Prop :=
  ∀ T : State, T.heap = H → Stand p l e R s m args below meth c T locs cells slots → ∃ t, Steps p.tables e below ((T.setTop g).pushFrame (.throwing q)) t ∧ Q t
/-- an exception of the class E came out, and nothing that was there has changed -/
def xThr (E : String) (st : State) (q : Addr) (t : State) : Prop := ∃ ce : Cell, t.heap[q]? = some ce ∧ ce.vm = .none ∧ st.vm.findClass E = some ce.cls ∧ st.heap.size ≤ t.heap.size ∧ ∀ a : Nat, a < st.heap.size → t.heap[a]? = st.heap[a]?
/-- the end of a method that only reads: an answer, or an exception -/
abbrev xO : Type := String ⊕ Option Value
def xQr (x : xO) : Array Value → State → Outcome → State → Prop := fun _ st o t => match x with
  | .inl E => ∃ q, o = .threw q ∧ xThr E st q t
  | .inr v => o = .returned v ∧ t.heap = st.heap
def xmc (x : xO) : Nat := match x with | .inl _ => 1 | .inr _ => 0
def xms (x : xO) : Nat := match x with | .inl _ => 6 | .inr _ => 0
variable {pc : Nat} {ls : Array Slot} {st0 : List Value} {a : Array Value}
theorem xgo_r {v : Option Value} (hr : xRun p l e R s m args below meth c H locs cells slots (xmc (.inr v)) (xms (.inr v)) (F0 m pc ls st0) rest (xQr (.inr v) a) (fun _ => False)) (kk : W p l e R s m args below meth c H locs cells slots Q (F0 m (pc + 3) ls (v.toList ++ rest))) : W p l e R s m args below meth c H locs cells slots Q (F0 m pc ls st0) := by
  intro T hT X
  obtain ⟨o, st, t, T', L, h0, -, X', hL, e1, -, ⟨rfl, hh⟩, go⟩ := hr T hT X
  obtain ⟨t2, a1, b1⟩ := kk T' (by rw [e1, hh, h0]) (Stand.forget X' (fun q h => (hL q h).elim))
  exact ⟨t2, go t2 a1, b1⟩
theorem xgo_t {E : String} (hr : xRun p l e R s m args below meth c H locs cells slots (xmc (.inl E)) (xms (.inl E)) (F0 m pc ls st0) rest (xQr (.inl E) a) (fun _ => False))
    (kk : ∀ (q : Addr) (H1 : Heap) (ce : Cell), H1[q]? = some ce → ce.vm = .none → s.vm.findClass E = some ce.cls → H.size ≤ H1.size → (∀ a : Nat, a < H.size → H1[a]? = H[a]?) → xW p l e R s m args below meth c H1 locs (cells + 1) (slots + 6) Q (F0 m pc ls rest) q) : W p l e R s m args below meth c H locs cells slots Q (F0 m pc ls st0) := by
  intro T hT X
  obtain ⟨o, st, t, T', L, h0, hal, X', hL, e1, -, ⟨q, rfl, ce, hce, hcv, hcl, hz, hk⟩, go⟩ := hr T hT X
  rw [h0] at hz hk
  obtain ⟨t2, a1, b1⟩ := kk q T'.heap ce (by rw [e1]; exact hce) hcv (by rw [← hal.findClass]; exact hcl) (by rw [e1]; exact hz) (fun a h => by rw [e1]; exact hk a h) T' rfl (Stand.forget X' (fun q h => (hL q h).elim))
  exact ⟨t2, Steps.trans go a1, b1⟩
/-- it isn't caught here -/
theorem xout {Qc : Array Value → State → Outcome → State → Prop} {q : Addr} {E : String} {ce : Cell} {H1 : Heap} (hno : ∀ x ∈ c.exceptionTable.toList, False) (hlocks : meth.locks = false) (hq : ∀ (q : Addr) (t : State), xThr E s q t → Qc args s (.threw q) t) (hcell : H1[q]? = some ce) (hv : ce.vm = .none) (hcl : s.vm.findClass E = some ce.cls) (hz : s.heap.size ≤ H1.size) (hk : ∀ a : Nat, a < s.heap.size → H1[a]? = s.heap[a]?) :
    xW p l e R s m args below meth c H1 [] 1 6 (xMQ below Qc args s 1 6 (fun _ => False)) (F0 m pc ls rest) q := by
  intro T hT X
  obtain ⟨st1, hrun, hend, hW, hsm⟩ := X.leaveThrown q (g := F0 m pc ls rest) rfl rfl rfl (fun x hx => (hno x hx).elim) hlocks
  refine ⟨_, st1, .threw q, hrun, hend, hq q _ ⟨ce, ?_, hv, hcl, ?_, ?_⟩, hW, [], hsm, fun _ h => nomatch h⟩
  · show T.heap[q]? = some ce
    rw [hT]; exact hcell
  · show s.heap.size ≤ T.heap.size
    rw [hT]; exact hz
  · intro a h
    show T.heap[a]? = s.heap[a]?
    rw [hT]; exact hk a h
theorem xmono {g : JFrame} {Q1 Q2 : State → Prop} (h : ∀ t, Q1 t → Q2 t) (k : W p l e R s m args below meth c H locs cells slots Q1 g) : W p l e R s m args below meth c H locs cells slots Q2 g := by
  intro T hT X
  obtain ⟨t, a1, b1⟩ := k T hT X
  exact ⟨t, a1, h t b1⟩
theorem xmq {Qc : Array Value → State → Outcome → State → Prop} {mc ms : Nat} {free : Addr → Prop} : ∀ t, MQ below Qc args s mc ms free t → xMQ below Qc args s mc ms free t := by
  intro t ⟨o, h1, h2, h3, L, h4, h5⟩
  exact ⟨o, h1, h2, h3, h4.2.1, L, h4.2.2, h5⟩
/-- a reader's answers -/
theorem xret_i {cc : ByteArray} {v : Int32} (hx : p.tables.exec = Jvm.exec) (hb : c.code = cc) (hr : meth.sig.returnType = some .int) (hlocks : meth.locks = false) (hdg : decode cc pc = .ok (.ireturn, 1)) :
    W p l e R s m args below meth c s.heap [] 0 0 (xMQ below (xQr (.inr (some (.int v)))) args s 0 0 (fun _ => False)) (F0 m pc ls [.int v]) :=
  xmono xmq (W.iret (locs := []) (free := fun _ => False) hx hb hr (fun t ht _ => ⟨rfl, ht⟩) (fun _ h => nomatch h) hdg hlocks)
theorem xret_z {cc : ByteArray} {v : Int32} (hx : p.tables.exec = Jvm.exec) (hb : c.code = cc) (hr : meth.sig.returnType = some .boolean) (hn : narrow .boolean (.int v) = .int v) (hlocks : meth.locks = false) (hdg : decode cc pc = .ok (.ireturn, 1)) :
    W p l e R s m args below meth c s.heap [] 0 0 (xMQ below (xQr (.inr (some (.int v)))) args s 0 0 (fun _ => False)) (F0 m pc ls [.int v]) :=
  xmono xmq (W.zret (locs := []) (free := fun _ => False) hx hb hr hn (fun t ht _ => ⟨rfl, ht⟩) (fun _ h => nomatch h) hdg hlocks)
theorem xret_v {cc : ByteArray} (hx : p.tables.exec = Jvm.exec) (hb : c.code = cc) (hr : meth.sig.returnType = none) (hlocks : meth.locks = false) (hdg : decode cc pc = .ok (.return_, 1)) :
    W p l e R s m args below meth c s.heap [] 0 0 (xMQ below (xQr (.inr none)) args s 0 0 (fun _ => False)) (F0 m pc ls []) :=
  xmono xmq (W.vret (locs := []) (free := fun _ => False) hx hb hr (fun t ht _ => ⟨rfl, ht⟩) (fun _ h => nomatch h) hdg hlocks)
/-- a static field of Throwable that holds a reference or null, and where it lies -/
def xL (n d : String) (U : State) : Prop := ∃ (cl : ClassId) (k : Class) (i : Nat) (f : Field) (z : Nat) (cell : Cell) (v : Value), U.vm.findClass Bundle.tN = some cl ∧ U.fieldFound? Bundle.tN n d = some (cl, k, i, f) ∧ f.isStatic = true ∧ k.statics = some z ∧ U.heap[z]? = some cell ∧ cell.vm.isStatics = true ∧ cell.cls = cl ∧ f.slot < cell.slots.size ∧ k.staticTypes[f.slot]? = some f.type ∧ cell.slots[f.slot]? = some v ∧ v.isRef = true
theorem xL.of {n d : String} {U : State} {a : Array Value} (h1 : (Cond.laysStatic Bundle.tN n d).before a U = true) (h2 : (Cond.isRef (.static Bundle.tN n d)).before a U = true) : xL n d U := by
  obtain ⟨cl, k, i, f, z, cell, q1, q2, q3, q4, q5, q6, q7, q8, q9⟩ := Cond.laysStatic_spec h1
  obtain ⟨u, hu⟩ := Cond.staticRefV q2 q3 q4 q5 q6 h2
  exact ⟨cl, k, i, f, z, cell, u.v, q1, q2, q3, q4, q5, q6, q7, q8, q9, hu, u.ok⟩
theorem xL.moved {n d : String} {u U : State} (h : xL n d u) (hv : u.vm.Alike U.vm) (hh : ∀ (z : Nat) (cell : Cell), u.heap[z]? = some cell → cell.vm.isStatics = true → U.heap[z]? = some cell) : xL n d U := by
  obtain ⟨cl, k, i, f, z, cell, v, q1, q2, q3, q4, q5, q6, q7, q8, q9, q10, q11⟩ := h
  obtain ⟨k', hi', he⟩ := State.fieldFound?_setVm hv q2
  exact ⟨cl, k', i, f, z, cell, v, by rw [hv.findClass]; exact q1, hi', q3, by rw [he]; exact q4, hh z cell q5 q6, q6, q7, q8, by rw [he]; exact q9, q10, q11⟩
theorem xL.lays {n d : String} {U : State} {a : Array Value} (h : xL n d U) : (Cond.laysStatic Bundle.tN n d).before a U = true := by
  obtain ⟨cl, k, i, f, z, cell, v, q1, q2, q3, q4, q5, q6, q7, q8, q9, -, -⟩ := h
  exact Cond.laysStatic_of q1 q2 q3 q4 q5 q6 q7 q8 q9
theorem xL.isr {n d : String} {U : State} {a : Array Value} (h : xL n d U) : (Cond.isRef (.static Bundle.tN n d)).before a U = true := by
  obtain ⟨cl, k, i, f, z, cell, v, q1, q2, q3, q4, q5, q6, q7, q8, q9, q10, q11⟩ := h
  have he : (Term.static Bundle.tN n d).eval a U none [] U = some v := by
    simp [Term.eval, State.fieldNamed?, q2, q3, q4, q5, q6, q10]
  simp only [Cond.before, Cond.holds, Cond.value, he]
  cases v <;> simp_all [Value.isRef]
/-- what a throw asks of the heap -/
def xSt (U : State) : Prop := xL "UNASSIGNED_STACK" Bundle.steD U ∧ xL "SUPPRESSED_SENTINEL" Bundle.listD U
theorem xSt.moved {u U : State} (h : xSt u) (hv : u.vm.Alike U.vm) (hh : ∀ (z : Nat) (cell : Cell), u.heap[z]? = some cell → cell.vm.isStatics = true → U.heap[z]? = some cell) : xSt U := ⟨h.1.moved hv hh, h.2.moved hv hh⟩
/-- the words of a throw, but the four that speak of the heap -/
def xno (w : Cond) : Bool := decide (w ≠ .isRef (.static Bundle.tN "UNASSIGNED_STACK" Bundle.steD)) && (decide (w ≠ .isRef (.static Bundle.tN "SUPPRESSED_SENTINEL" Bundle.listD)) && (decide (w ≠ .laysStatic Bundle.tN "UNASSIGNED_STACK" Bundle.steD) && decide (w ≠ .laysStatic Bundle.tN "SUPPRESSED_SENTINEL" Bundle.listD)))
theorem xwords {own cls : String} {ic : Nat} {names : List String} {a : Array Value} (hE : xE s) (hst : xSt s) (h : ((Bundle.ownAtoms own ic cls names).filter xno).all (fun w => decide (w ∈ lw_tbl) && xok w) = true) : ∀ w ∈ Bundle.ownAtoms own ic cls names, w.before a s = true := by
  intro w hw
  by_cases e1 : w = .isRef (.static Bundle.tN "UNASSIGNED_STACK" Bundle.steD)
  · rw [e1]; exact hst.1.isr
  · by_cases e2 : w = .isRef (.static Bundle.tN "SUPPRESSED_SENTINEL" Bundle.listD)
    · rw [e2]; exact hst.2.isr
    · by_cases e3 : w = .laysStatic Bundle.tN "UNASSIGNED_STACK" Bundle.steD
      · rw [e3]; exact hst.1.lays
      · by_cases e4 : w = .laysStatic Bundle.tN "SUPPRESSED_SENTINEL" Bundle.listD
        · rw [e4]; exact hst.2.lays
        · have hx : xno w = true := by
            unfold xno
            rw [decide_eq_true e1, decide_eq_true e2, decide_eq_true e3, decide_eq_true e4]; rfl
          have h1 := List.all_eq_true.mp h w (List.mem_filter.mpr ⟨hw, hx⟩)
          simp only [Bool.and_eq_true, decide_eq_true_eq] at h1
          exact hE w h1.1 h1.2 a
theorem xsame {U : State} {k n : Nat} (h : s.sameButNew ({ U with vm := s.vm } : State) [] k n) : s.heap.size ≤ U.heap.size ∧ ∀ z : Nat, z < s.heap.size → U.heap[z]? = s.heap[z]? := by
  obtain ⟨-, h2, -, -, -, h6⟩ := h
  refine ⟨h2, fun z hz => ?_⟩
  obtain ⟨c9, e1, e2, -, e4⟩ := h6 z _ (Array.getElem?_eq_getElem hz)
  have hs : c9.slots = (s.heap[z]).slots := Array.ext_getElem? fun i => e4 i (fun hm => nomatch hm)
  have h9 : c9 = s.heap[z] := by
    rw [hs] at e2
    exact e2
  have e5 : U.heap[z]? = some c9 := e1
  rw [e5, h9, Array.getElem?_eq_getElem hz]
/-- 'throw new E("text")' in a method that has written nothing -/
theorem xthrow {Qc : Array Value → State → Outcome → State → Prop} {cc : ByteArray} {own cls text : String} {names : List String} {ik is ic sa : Nat} (hx : p.tables.exec = Jvm.exec) (hb : c.code = cc) (hl : l.stackTraces = false) (hown : s.vm.findClass own = some m.cls) (hE : xE s) (hst : xSt s)
    (hcls : Bundle.fit cls = true) (hnames : ∀ n ∈ names, Bundle.fit n = true) (hw : ((Bundle.ownAtoms own ic cls names).filter xno).all (fun w => decide (w ∈ lw_tbl) && xok w) = true) (wk : Cond.classLink own ik cls ∈ lw_tbl) (wn : Cond.initialized cls ∈ lw_tbl) (hstr : vk_R own is text sa s)
    (hno : ∀ x ∈ c.exceptionTable.toList, False) (hlocks : meth.locks = false) (hsize : ls.size = c.maxLocals)
    (d0 : decode cc pc = .ok (.new ik, 3)) (d3 : decode cc (pc + 3) = .ok (.dup, 1)) (d4 : decode cc (pc + 4) = .ok (.ldc is, 2)) (d6 : decode cc (pc + 6) = .ok (.invokespecial ic, 3)) (d9 : decode cc (pc + 9) = .ok (.athrow, 1))
    (hRframes : names.length + 3 < R.frames) (hRlocals : (rest.map fun v => v.category).sum + (13 * (names.length + 1) + 43) ≤ R.locals) (hRcells : 1 ≤ R.cells) (hRslots : 6 ≤ R.slots)
    (hq : ∀ (q : Addr) (t : State), xThr cls s q t → Qc args s (.threw q) t) :
    W p l e R s m args below meth c s.heap [] 0 0 (xMQ below Qc args s 1 6 (fun _ => False)) (F0 m pc ls rest) := by
  have hwords : ∀ w ∈ Bundle.ownAtoms own ic cls names, w.before args s = true := xwords hE hst hw
  have hins : (Cond.instantiable cls 6).before args s = true := hwords _ (by simp [Bundle.ownAtoms])
  refine W.newc (C := cls) (n := 6) hx hb hown (hE _ wk rfl args) hins (hE _ wn rfl args) rfl d0 (by omega) (by omega) (fun cX kX hfX hkX hord hn6 => ?_)
  refine W.eq (g2 := F0 m (pc + 3) ls (.ref s.heap.size :: rest)) rfl ?_
  refine lv_dup hx hb d3 rfl ?_
  refine va_ldcS hx hb hown hstr d4 ?_
  intro T hT X
  have htr : e.platform.stackTraces = false := (show e.platform.stackTraces = l.stackTraces by rw [X.admits.platform]).trans hl
  have hcat : (Value.ref s.heap.size).category = 1 := rfl
  obtain ⟨U, hsteps, hrun, hend, hW, hsm, ce, hce, hO⟩ := X.ctorThrowS hx htr (own := own) (cls := cls) (names := names) (ic := ic) hown hcls hnames hwords (fun x hx => nomatch hx) hfX hkX (a := s.heap.size) (by rw [hT]; first | exact Array.getElem?_push_size | simp [freshCell]) (Nat.le_refl _) (msg := .ref sa) rfl
    (g := F0 m (pc + 6) ls (.ref sa :: .ref s.heap.size :: .ref s.heap.size :: rest)) rfl hsize rfl rfl (rest := rest) rfl (by rw [hb]; exact d6) (by rw [hb]; exact d9) (fun x hx => (hno x hx).elim) hRframes (by
      show 2 * 0 + ((Value.ref s.heap.size :: rest).map fun v => v.category).sum + (13 * (names.length + 1) + 42) ≤ R.locals
      simp only [List.map_cons, List.sum_cons, hcat]; omega) hlocks
  obtain ⟨k1, k2⟩ := xsame hsm
  exact ⟨U, hsteps, .threw s.heap.size, hrun, hend, hq _ U ⟨ce, hce, hO.vm, hO.cls, k1, k2⟩, hW, [], hsm, fun _ h => nomatch h⟩
end XB
end
section
/-! 'throw new E("text")' where E's own constructor calls its superclass's by any entry of its pool (NoSuchElementException's is 13). -/
section XN
variable {p : Program} {l : Launch} {e : Env} {R : Room} {s : State} {m : MethodId} {args : Array Value} {below : List Frame} {meth : Method} {c : Code} {V : State} {H : Heap} {locs : List Loc} {cells slots : Nat}
/-- the words of such a throw -/
def xatoms (own : String) (ic : Nat) (X Y : String) (ix : Nat) (bytes : ByteArray) (names : List String) : List Cond :=
  Bundle.throwableAtoms ++ (Bundle.throwableSAtoms ++ (Bundle.passSAtoms X Y ix bytes ++ (Bundle.chainSAtoms Y names ++
  [.methodLink own ic (Bundle.initS X), .instantiable X 6, .selects X Bundle.tFill0 Bundle.tFill0, .selects X Bundle.tFill Bundle.tFill,
   .lays X Bundle.tN "cause" "Ljava/lang/Throwable;", .lays X Bundle.tN "stackTrace" Bundle.steD, .lays X Bundle.tN "suppressedExceptions" Bundle.listD, .lays X Bundle.tN "detailMessage" "Ljava/lang/String;",
   .isRef (.static Bundle.tN "UNASSIGNED_STACK" Bundle.steD), .isRef (.static Bundle.tN "SUPPRESSED_SENTINEL" Bundle.listD),
   .fieldLink Bundle.tN 198 Bundle.tN "backtrace" "Ljava/lang/Object;", .lays Bundle.tN Bundle.tN "backtrace" "Ljava/lang/Object;", .lays X Bundle.tN "backtrace" "Ljava/lang/Object;"])))
set_option maxHeartbeats 4000000 in
theorem xctorS (X : Stand p l e R s m args below meth c V [] cells slots) (hexec : p.tables.exec = Jvm.exec) (htr : e.platform.stackTraces = false) {own cls Y1 : String} {names : List String} {ic ix : Nat} {bytes : ByteArray}
    (b0 : decode bytes 0 = .ok (.aload_n 0, 1)) (b1 : decode bytes 1 = .ok (.aload_n 1, 1)) (b2 : decode bytes 2 = .ok (.invokespecial ix, 3)) (b5 : decode bytes 5 = .ok (.return_, 1))
    (hown : s.vm.findClass own = some m.cls) (hcls : Bundle.fit cls = true) (hY1 : Bundle.fit Y1 = true) (hnames : ∀ n ∈ names, Bundle.fit n = true)
    (h : ∀ w ∈ xatoms own ic cls Y1 ix bytes names, w.before args s = true)
    {a : Addr} {cX : ClassId} {kX : Class} (hfoundX : s.vm.findClass cls = some cX) (hkX : s.vm.classes[cX]? = some kX) (hcell : V.heap[a]? = some (freshCell cX kX)) (hnew : s.heap.size ≤ a)
    {msg : Value} (hmsg : msg.isRef = true) {g : JFrame} (hg : g.method = m) (hsize : g.locals.size = c.maxLocals) (hlocked : g.locked = none) (hentered : g.entered = []) {rest : List Value} (hstack : g.stack = msg :: .ref a :: .ref a :: rest)
    (hd6 : decode c.code g.pc = .ok (.invokespecial ic, 3)) (hd9 : decode c.code (g.pc + 3) = .ok (.athrow, 1)) (hout : ∀ x ∈ c.exceptionTable.toList, covers x (g.pc + 3) = false)
    (hRframes : names.length + 4 < R.frames) (hRlocals : 2 * g.monitorRoom + ((Value.ref a :: rest).map fun v => v.category).sum + (13 * (names.length + 2) + 42) ≤ R.locals) (hlocks : meth.locks = false) :
    ∃ U : State, Steps p.tables e below (V.setTop g) U ∧ U.status = .running ∧ Ended U below (.threw a) ∧ s.WarmedH U.vm ∧ s.sameButNew ({ U with vm := s.vm } : State) [] cells slots ∧
      ∃ ce : Cell, U.heap[a]? = some ce ∧ ce.vm = .none ∧ s.vm.findClass cls = some ce.cls := by
  have howns : e.platform.frameOwnsMonitors = true := by rw [X.admits.platform]
  have hfin : e.platform.finalization = false := by rw [X.admits.platform]
  have hpl : e.platform.magicAccessors = ({} : Platform).magicAccessors := by rw [X.admits.platform]
  obtain ⟨T, Z0, L, -, Y⟩ := ThrowableC.of_atoms (args := args) howns hfin hpl (fun w hw => h w (by simp [xatoms, hw]))
  obtain ⟨Z, M, LZ, LM, hnZ⟩ := Init0T.ofS_atoms (args := args) hpl L Y (fun w hw => h w (by simp [xatoms, hw]))
  obtain ⟨P2, Ps, hlen, L2, hL, hP2m, hlink2, hlink⟩ := Bundle.chainS (args := args) hpl hnZ names Y1 hY1 hnames (fun w hw => h w (by simp [xatoms, hw]))
  obtain ⟨P1, L1, hP1m, hP1s⟩ := PassC.ofS_atoms (args := args) (s := s) hpl (X := cls) (Y := Y1) (Bundle.fit_spec hcls).1 (Bundle.fit_spec hY1).2 b0 b1 b2 b5 (fun w hw => h w (by simp [xatoms, hw]))
  have hlink1 : P1.sup = P2.m := Option.some.inj (hP1s.symm.trans hP2m)
  have hfound : s.vm.findClass cls = some P1.m.cls := findClass_of_methodNamed hP1m
  cases Option.some.inj (hfoundX.symm.trans hfound)
  obtain ⟨c1, kX', hc1, hk, hord, -, -, hn6⟩ := Cond.instantiable_spec (h (.instantiable cls 6) (by simp [xatoms]))
  cases Option.some.inj (hc1.symm.trans hfound)
  cases Option.some.inj (hkX.symm.trans hk)
  have hsel0 : selectMethod e.platform s.vm P1.m.cls T.fill0 = .method T.fill0 := by
    obtain ⟨c2, r2, m2, q1, q2, q3, q4, -⟩ := Cond.selects_spec (h (.selects cls Bundle.tFill0 Bundle.tFill0) (by simp [xatoms]))
    cases Option.some.inj (q1.symm.trans hfound)
    cases Option.some.inj (q2.symm.trans (State.methodFound?_of_named Y.fill0 (by decide)))
    cases Option.some.inj (q3.symm.trans Y.fill0)
    rw [Launch.admits_selectMethod X.admits]; exact q4
  have hselF : selectMethod e.platform s.vm P1.m.cls T.fill = .method T.fill := by
    obtain ⟨c2, r2, m2, q1, q2, q3, q4, -⟩ := Cond.selects_spec (h (.selects cls Bundle.tFill Bundle.tFill) (by simp [xatoms]))
    cases Option.some.inj (q1.symm.trans hfound)
    cases Option.some.inj (q2.symm.trans (State.methodFound?_of_named Y.fill (by decide)))
    cases Option.some.inj (q3.symm.trans Y.fill)
    rw [Launch.admits_selectMethod X.admits]; exact q4
  obtain ⟨cellS0, hcS0, hiss⟩ := Y.statics
  obtain ⟨u0, hu0⟩ := Cond.staticRefV Y.unassigned L.unassignedStatic L.statics hcS0 hiss (h (.isRef (.static Bundle.tN "UNASSIGNED_STACK" Bundle.steD)) (by simp [xatoms]))
  obtain ⟨sen, hsen⟩ := Cond.staticRefV Y.sentinel L.sentinelStatic L.statics hcS0 hiss (h (.isRef (.static Bundle.tN "SUPPRESSED_SENTINEL" Bundle.listD)) (by simp [xatoms]))
  obtain ⟨ci198, i198, fB, hk198, hg198, ha198, hsB, -, hnB, htB, hffB⟩ := Cond.ownField (t := .object "java/lang/Object") Y.found L.cls (by decide +kernel) (h (.fieldLink Bundle.tN 198 Bundle.tN "backtrace" "Ljava/lang/Object;") (by simp [xatoms])) (h (.lays Bundle.tN Bundle.tN "backtrace" "Ljava/lang/Object;") (by simp [xatoms])) e.platform hpl
  obtain ⟨cellS, hcS', heS, -, hkeep⟩ := X.same.2.2.2.2.2 T.aS cellS0 hcS0
  have hcellS : V.heap[T.aS]? = some cellS := hcS'
  have hout' : ∀ i, (⟨T.aS, i⟩ : Loc) ∉ ([] : List Loc) := fun i hm => nomatch hm
  have hknownS : cellS.vm ≠ .unknown := by
    rw [heS]; intro hu
    rw [show cellS0.vm = .unknown from hu] at hiss
    cases hiss
  have hneS : T.aS ≠ a := Nat.ne_of_lt (Nat.lt_of_lt_of_le (Array.getElem?_eq_some_iff.mp hcS0).1 hnew)
  obtain ⟨iM, hffM⟩ := Y.msg
  obtain ⟨tyC, dC, hdC, hdnC⟩ := Cond.laysAt hfound hk Y.cause (h (.lays cls Bundle.tN "cause" "Ljava/lang/Throwable;") (by simp [xatoms]))
  obtain ⟨tyS, dS, hdS, hdnS⟩ := Cond.laysAt hfound hk Y.stack (h (.lays cls Bundle.tN "stackTrace" Bundle.steD) (by simp [xatoms]))
  obtain ⟨tyP, dP, hdP, hdnP⟩ := Cond.laysAt hfound hk Y.supp (h (.lays cls Bundle.tN "suppressedExceptions" Bundle.listD) (by simp [xatoms]))
  obtain ⟨tyM, dM, hdM, hdnM⟩ := Cond.laysAt hfound hk hffM (h (.lays cls Bundle.tN "detailMessage" "Ljava/lang/String;") (by simp [xatoms]))
  obtain ⟨tyB, dB, hdB, hdnB⟩ := Cond.laysAt hfound hk hffB (h (.lays cls Bundle.tN "backtrace" "Ljava/lang/Object;") (by simp [xatoms]))
  have bC := Cond.laysApart hdB hdC hdnB hdnC (by rw [hnB, Y.causeName]; decide)
  have bS := Cond.laysApart hdB hdS hdnB hdnS (by rw [hnB, Y.stackName]; decide)
  have bP := Cond.laysApart hdB hdP hdnB hdnP (by rw [hnB, Y.suppName]; decide)
  have hskip : SkipFacts T e.platform s (fun u => u) u0 ((preparedCellV T.toThrowableT (freshCell P1.m.cls kX) a u0 sen).withEntry V.cur) :=
    ⟨{ ci198 := ci198, i198 := i198, fBack := fB }, ⟨hk198, hg198, ha198, hsB⟩, by
      have h9 := fresh_default (c := P1.m.cls) tyB
      rw [htB] at h9
      simpa [preparedCellV, Cell.setSlot, Cell.withEntry, Array.getElem?_setIfInBounds, bC, bS, bP, bC.symm, bS.symm, bP.symm, defaultValue] using h9, fun _ _ => rfl⟩
  obtain ⟨tm, methC, cdC, kC, vm₁, hnC, -, -, -, -, -, -, -, hW₁, st1⟩ := Steps.initColdS (tb := p.tables) (e := e) (below := below) (s := s) (U := V) X.here hexec X.warmed hpl hown (t := Bundle.initS cls) rfl rfl (Bundle.fit_spec hcls).2
    (h (.methodLink own ic (Bundle.initS cls)) (by simp [xatoms])) (h (.instanceMethod (Bundle.initS cls)) (by simp [xatoms, Bundle.passSAtoms])) (bytes := bytes) (maxL := 2) (h (.code (Bundle.initS cls) bytes 2 none) (by simp [xatoms, Bundle.passSAtoms]))
    (f := g) hg (a := a) (msg := msg) (rest := .ref a :: rest) hstack hd6
  cases Option.some.inj (hnC.symm.trans hP1m)
  have X₁ := X.noted hW₁
  obtain ⟨vm₂, X₂, st2⟩ := X₁.ctorMessageOffV hexec (g := { g with stack := .ref a :: rest }) hg hsize T L Z LZ M LM (P1 :: P2 :: Ps)
    (fun P hP => by rcases List.mem_cons.mp hP with rfl | hP; exact L1; rcases List.mem_cons.mp hP with rfl | hP; exact L2; exact hL P hP) ⟨hlink1, hlink2, hlink⟩ (u0 := u0) (sen := sen) (self := a) hmsg (cell := freshCell P1.m.cls kX) (cellS := cellS)
    hcell (fun _ => by simp) (by simp) rfl rfl hsel0 hselF hcellS hneS hknownS (by rw [hkeep _ (hout' _)]; exact hu0) (by rw [hkeep _ (hout' _)]; exact hsen)
    (Takes.of_laid hk hord tyC (by rw [Y.causeType]; rfl)) (Takes.of_laid hk hord tyS (by rw [Y.stackType]; exact fits_refV_array _ u0)) (Takes.of_laid hk hord tyP (by rw [Y.suppType]; exact fits_refV_object _ sen))
    (Takes.of_laid hk hord tyM (by rw [Y.msgType]; exact fits_refV_object _ ⟨msg, hmsg⟩)) Y.objLocals hskip htr [] hd6
    (by simp only [List.length_cons, hlen]; omega) (by simp only [List.length_cons, hlen]; exact hRlocals)
  obtain ⟨hwalk, hrun, hended, hWU, hsame⟩ := X₂.athrowLeaves hexec (g := { g with stack := .ref a :: rest, pc := g.pc + 3 }) hg hlocked hentered hout (a := a) (rest := rest) rfl hd9
  have hlt : a < ((V.setVm vm₁).setVm vm₂).heap.size := (Array.getElem?_eq_some_iff.mp hcell).1
  have hU := heapAt_setCell_self (s := (V.setVm vm₁).setVm vm₂) (plainBareV T.toThrowableT (freshCell P1.m.cls kX) a u0 sen msg) hlt
  refine ⟨_, st1 _ (fun acts => ?_), hrun, hended, hWU, hsame.weaken (fun y hy hlt' => ?_) (Nat.le_refl _) (Nat.le_refl _), _, hU, rfl, hfound⟩
  · rw [doInvoke_state]
    exact st2 _ hwalk
  · exfalso
    have hb : y.base = a := by
      rw [List.nil_append] at hy
      simp only [List.mem_cons, List.not_mem_nil, or_false] at hy
      rcases hy with rfl | rfl | rfl | rfl | rfl <;> rfl
    rw [hb] at hlt'
    exact Nat.not_lt.mpr hnew hlt'
theorem xwordsN {own cls Y1 : String} {ic ix : Nat} {bytes : ByteArray} {names : List String} {a : Array Value} (hE : xE s) (hst : xSt s) (h : ((xatoms own ic cls Y1 ix bytes names).filter xno).all (fun w => decide (w ∈ lw_tbl) && xok w) = true) : ∀ w ∈ xatoms own ic cls Y1 ix bytes names, w.before a s = true := by
  intro w hw
  by_cases e1 : w = .isRef (.static Bundle.tN "UNASSIGNED_STACK" Bundle.steD)
  · rw [e1]; exact hst.1.isr
  · by_cases e2 : w = .isRef (.static Bundle.tN "SUPPRESSED_SENTINEL" Bundle.listD)
    · rw [e2]; exact hst.2.isr
    · by_cases e3 : w = .laysStatic Bundle.tN "UNASSIGNED_STACK" Bundle.steD
      · rw [e3]; exact hst.1.lays
      · by_cases e4 : w = .laysStatic Bundle.tN "SUPPRESSED_SENTINEL" Bundle.listD
        · rw [e4]; exact hst.2.lays
        · have hx : xno w = true := by
            unfold xno
            rw [decide_eq_true e1, decide_eq_true e2, decide_eq_true e3, decide_eq_true e4]; rfl
          have h1 := List.all_eq_true.mp h w (List.mem_filter.mpr ⟨hw, hx⟩)
          simp only [Bool.and_eq_true, decide_eq_true_eq] at h1
          exact hE w h1.1 h1.2 a
theorem xthrowN {pc : Nat} {ls : Array Slot} {rest : List Value} {Qc : Array Value → State → Outcome → State → Prop} {cc bytes : ByteArray} {own cls Y1 text : String} {names : List String} {ik is ic ix sa : Nat} (hx : p.tables.exec = Jvm.exec) (hb : c.code = cc) (hl : l.stackTraces = false) (hown : s.vm.findClass own = some m.cls) (hE : xE s) (hst : xSt s)
    (b0 : decode bytes 0 = .ok (.aload_n 0, 1)) (b1 : decode bytes 1 = .ok (.aload_n 1, 1)) (b2 : decode bytes 2 = .ok (.invokespecial ix, 3)) (b5 : decode bytes 5 = .ok (.return_, 1))
    (hcls : Bundle.fit cls = true) (hY1 : Bundle.fit Y1 = true) (hnames : ∀ n ∈ names, Bundle.fit n = true) (hw : ((xatoms own ic cls Y1 ix bytes names).filter xno).all (fun w => decide (w ∈ lw_tbl) && xok w) = true) (wk : Cond.classLink own ik cls ∈ lw_tbl) (wn : Cond.initialized cls ∈ lw_tbl) (hstr : vk_R own is text sa s)
    (hno : ∀ x ∈ c.exceptionTable.toList, False) (hlocks : meth.locks = false) (hsize : ls.size = c.maxLocals)
    (d0 : decode cc pc = .ok (.new ik, 3)) (d3 : decode cc (pc + 3) = .ok (.dup, 1)) (d4 : decode cc (pc + 4) = .ok (.ldc is, 2)) (d6 : decode cc (pc + 6) = .ok (.invokespecial ic, 3)) (d9 : decode cc (pc + 9) = .ok (.athrow, 1))
    (hRframes : names.length + 4 < R.frames) (hRlocals : (rest.map fun v => v.category).sum + (13 * (names.length + 2) + 43) ≤ R.locals) (hRcells : 1 ≤ R.cells) (hRslots : 6 ≤ R.slots)
    (hq : ∀ (q : Addr) (t : State), xThr cls s q t → Qc args s (.threw q) t) :
    W p l e R s m args below meth c s.heap [] 0 0 (xMQ below Qc args s 1 6 (fun _ => False)) (F0 m pc ls rest) := by
  have hwords : ∀ w ∈ xatoms own ic cls Y1 ix bytes names, w.before args s = true := xwordsN hE hst hw
  have hins : (Cond.instantiable cls 6).before args s = true := hwords _ (by simp [xatoms])
  refine W.newc (C := cls) (n := 6) hx hb hown (hE _ wk rfl args) hins (hE _ wn rfl args) rfl d0 (by omega) (by omega) (fun cX kX hfX hkX hord hn6 => ?_)
  refine W.eq (g2 := F0 m (pc + 3) ls (.ref s.heap.size :: rest)) rfl ?_
  refine lv_dup hx hb d3 rfl ?_
  refine va_ldcS hx hb hown hstr d4 ?_
  intro T hT X
  have htr : e.platform.stackTraces = false := (show e.platform.stackTraces = l.stackTraces by rw [X.admits.platform]).trans hl
  have hcat : (Value.ref s.heap.size).category = 1 := rfl
  obtain ⟨U, hsteps, hrun, hend, hW, hsm, ce, hce, hcv, hcc⟩ := xctorS X hx htr (own := own) (cls := cls) (Y1 := Y1) (names := names) (ic := ic) b0 b1 b2 b5 hown hcls hY1 hnames hwords hfX hkX (a := s.heap.size) (by rw [hT]; first | exact Array.getElem?_push_size | simp [freshCell]) (Nat.le_refl _) (msg := .ref sa) rfl
    (g := F0 m (pc + 6) ls (.ref sa :: .ref s.heap.size :: .ref s.heap.size :: rest)) rfl hsize rfl rfl (rest := rest) rfl (by rw [hb]; exact d6) (by rw [hb]; exact d9) (fun x hx => (hno x hx).elim) hRframes (by
      show 2 * 0 + ((Value.ref s.heap.size :: rest).map fun v => v.category).sum + (13 * (names.length + 2) + 42) ≤ R.locals
      simp only [List.map_cons, List.sum_cons, hcat]; omega) hlocks
  obtain ⟨k1, k2⟩ := xsame hsm
  exact ⟨U, hsteps, .threw s.heap.size, hrun, hend, hq _ U ⟨ce, hce, hcv, hcc, k1, k2⟩, hW, [], hsm, fun _ h => nomatch h⟩
end XN
end
