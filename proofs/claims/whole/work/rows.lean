section
-- ===== PART A: goes FIRST, ahead of the names: the tables' words, and 'selects' of the private methods out of them =====
/-- a private method of a class that the tables say can be made, by its rows of tables_1 -/
def lw_okq (q : MethodName × Nat) : Prop := (q.1.cls ≠ "java/lang/invoke/MethodHandle" ∧ q.1.cls ≠ "java/lang/invoke/VarHandle") ∧ Cond.instantiable q.1.cls q.2 ∈ tables_1 ∧ Cond.privateMethod q.1 ∈ tables_1 ∧ Cond.instanceMethod q.1 ∈ tables_1
theorem lw_p0 : lw_okq (⟨"LandingSlots", "rationAll", "()I"⟩, 4) := ⟨⟨by decide +kernel, by decide +kernel⟩, List.mem_of_getElem? (i := 17) (by decide +kernel), List.mem_of_getElem? (i := 158) (by decide +kernel), List.mem_of_getElem? (i := 159) (by decide +kernel)⟩
theorem lw_p1 : lw_okq (⟨"LandingSlots", "clearWhatIsNotFrozen", "()V"⟩, 4) := ⟨⟨by decide +kernel, by decide +kernel⟩, List.mem_of_getElem? (i := 17) (by decide +kernel), List.mem_of_getElem? (i := 162) (by decide +kernel), List.mem_of_getElem? (i := 163) (by decide +kernel)⟩
theorem lw_p2 : lw_okq (⟨"LandingSlots", "isFrozen", "(I)Z"⟩, 4) := ⟨⟨by decide +kernel, by decide +kernel⟩, List.mem_of_getElem? (i := 17) (by decide +kernel), List.mem_of_getElem? (i := 166) (by decide +kernel), List.mem_of_getElem? (i := 167) (by decide +kernel)⟩
theorem lw_p3 : lw_okq (⟨"LandingSlots", "putInFirstSlot", "(I)Z"⟩, 4) := ⟨⟨by decide +kernel, by decide +kernel⟩, List.mem_of_getElem? (i := 17) (by decide +kernel), List.mem_of_getElem? (i := 178) (by decide +kernel), List.mem_of_getElem? (i := 179) (by decide +kernel)⟩
theorem lw_p4 : lw_okq (⟨"LandingSlots", "putIn", "(II)V"⟩, 4) := ⟨⟨by decide +kernel, by decide +kernel⟩, List.mem_of_getElem? (i := 17) (by decide +kernel), List.mem_of_getElem? (i := 190) (by decide +kernel), List.mem_of_getElem? (i := 191) (by decide +kernel)⟩
theorem lw_p5 : lw_okq (⟨"LandingSlots", "isGood", "(I)Z"⟩, 4) := ⟨⟨by decide +kernel, by decide +kernel⟩, List.mem_of_getElem? (i := 17) (by decide +kernel), List.mem_of_getElem? (i := 198) (by decide +kernel), List.mem_of_getElem? (i := 199) (by decide +kernel)⟩
theorem lw_p6 : lw_okq (⟨"LandingSlots", "contentCanUse", "(II)Z"⟩, 4) := ⟨⟨by decide +kernel, by decide +kernel⟩, List.mem_of_getElem? (i := 17) (by decide +kernel), List.mem_of_getElem? (i := 203) (by decide +kernel), List.mem_of_getElem? (i := 204) (by decide +kernel)⟩
theorem lw_p7 : lw_okq (⟨"LandingSlots", "carryOutIfPossible", "(I)I"⟩, 4) := ⟨⟨by decide +kernel, by decide +kernel⟩, List.mem_of_getElem? (i := 17) (by decide +kernel), List.mem_of_getElem? (i := 211) (by decide +kernel), List.mem_of_getElem? (i := 212) (by decide +kernel)⟩
theorem lw_p8 : lw_okq (⟨"LandingSlots", "endAsTraded", "(I)V"⟩, 4) := ⟨⟨by decide +kernel, by decide +kernel⟩, List.mem_of_getElem? (i := 17) (by decide +kernel), List.mem_of_getElem? (i := 215) (by decide +kernel), List.mem_of_getElem? (i := 216) (by decide +kernel)⟩
theorem lw_p9 : lw_okq (⟨"LandingSlots", "exchange", "(II)V"⟩, 4) := ⟨⟨by decide +kernel, by decide +kernel⟩, List.mem_of_getElem? (i := 17) (by decide +kernel), List.mem_of_getElem? (i := 223) (by decide +kernel), List.mem_of_getElem? (i := 224) (by decide +kernel)⟩
theorem lw_p10 : lw_okq (⟨"LandingSlots", "partnerOf", "(I)I"⟩, 4) := ⟨⟨by decide +kernel, by decide +kernel⟩, List.mem_of_getElem? (i := 17) (by decide +kernel), List.mem_of_getElem? (i := 227) (by decide +kernel), List.mem_of_getElem? (i := 228) (by decide +kernel)⟩
theorem lw_p11 : lw_okq (⟨"LandingSlots", "flightToMoveTo", "(I)I"⟩, 4) := ⟨⟨by decide +kernel, by decide +kernel⟩, List.mem_of_getElem? (i := 17) (by decide +kernel), List.mem_of_getElem? (i := 239) (by decide +kernel), List.mem_of_getElem? (i := 240) (by decide +kernel)⟩
theorem lw_p12 : lw_okq (⟨"LandingSlots", "couldMove", "(II)Z"⟩, 4) := ⟨⟨by decide +kernel, by decide +kernel⟩, List.mem_of_getElem? (i := 17) (by decide +kernel), List.mem_of_getElem? (i := 243) (by decide +kernel), List.mem_of_getElem? (i := 244) (by decide +kernel)⟩
theorem lw_p13 : lw_okq (⟨"LandingSlots", "moveForward", "(II)V"⟩, 4) := ⟨⟨by decide +kernel, by decide +kernel⟩, List.mem_of_getElem? (i := 17) (by decide +kernel), List.mem_of_getElem? (i := 247) (by decide +kernel), List.mem_of_getElem? (i := 248) (by decide +kernel)⟩
theorem lw_p14 : lw_okq (⟨"LandingSlots", "flightsThatCouldMoveTo", "(I)I"⟩, 4) := ⟨⟨by decide +kernel, by decide +kernel⟩, List.mem_of_getElem? (i := 17) (by decide +kernel), List.mem_of_getElem? (i := 255) (by decide +kernel), List.mem_of_getElem? (i := 256) (by decide +kernel)⟩
theorem lw_p15 : lw_okq (⟨"java/lang/Throwable", "fillInStackTrace", "(I)Ljava/lang/Throwable;"⟩, 6) := ⟨⟨by decide +kernel, by decide +kernel⟩, List.mem_of_getElem? (i := 311) (by decide +kernel), List.mem_of_getElem? (i := 309) (by decide +kernel), List.mem_of_getElem? (i := 310) (by decide +kernel)⟩
def lw_privs_1 : List (MethodName × Nat) := [(⟨"LandingSlots", "rationAll", "()I"⟩, 4), (⟨"LandingSlots", "clearWhatIsNotFrozen", "()V"⟩, 4), (⟨"LandingSlots", "isFrozen", "(I)Z"⟩, 4), (⟨"LandingSlots", "putInFirstSlot", "(I)Z"⟩, 4), (⟨"LandingSlots", "putIn", "(II)V"⟩, 4), (⟨"LandingSlots", "isGood", "(I)Z"⟩, 4), (⟨"LandingSlots", "contentCanUse", "(II)Z"⟩, 4), (⟨"LandingSlots", "carryOutIfPossible", "(I)I"⟩, 4), (⟨"LandingSlots", "endAsTraded", "(I)V"⟩, 4), (⟨"LandingSlots", "exchange", "(II)V"⟩, 4), (⟨"LandingSlots", "partnerOf", "(I)I"⟩, 4), (⟨"LandingSlots", "flightToMoveTo", "(I)I"⟩, 4), (⟨"LandingSlots", "couldMove", "(II)Z"⟩, 4), (⟨"LandingSlots", "moveForward", "(II)V"⟩, 4), (⟨"LandingSlots", "flightsThatCouldMoveTo", "(I)I"⟩, 4), (⟨"java/lang/Throwable", "fillInStackTrace", "(I)Ljava/lang/Throwable;"⟩, 6)]
theorem lw_r1 : ∀ q ∈ lw_privs_1, lw_okq q := List.forall_mem_cons.mpr ⟨lw_p0, List.forall_mem_cons.mpr ⟨lw_p1, List.forall_mem_cons.mpr ⟨lw_p2, List.forall_mem_cons.mpr ⟨lw_p3, List.forall_mem_cons.mpr ⟨lw_p4, List.forall_mem_cons.mpr ⟨lw_p5, List.forall_mem_cons.mpr ⟨lw_p6, List.forall_mem_cons.mpr ⟨lw_p7, List.forall_mem_cons.mpr ⟨lw_p8, List.forall_mem_cons.mpr ⟨lw_p9, List.forall_mem_cons.mpr ⟨lw_p10, List.forall_mem_cons.mpr ⟨lw_p11, List.forall_mem_cons.mpr ⟨lw_p12, List.forall_mem_cons.mpr ⟨lw_p13, List.forall_mem_cons.mpr ⟨lw_p14, List.forall_mem_cons.mpr ⟨lw_p15, fun _ h => absurd h List.not_mem_nil⟩⟩⟩⟩⟩⟩⟩⟩⟩⟩⟩⟩⟩⟩⟩⟩
theorem lw_p16 : lw_okq (⟨"LandingSlots", "losesFrozenSlot", "(II)Z"⟩, 4) := ⟨⟨by decide +kernel, by decide +kernel⟩, List.mem_of_getElem? (i := 17) (by decide +kernel), List.mem_of_getElem? (i := 342) (by decide +kernel), List.mem_of_getElem? (i := 343) (by decide +kernel)⟩
theorem lw_p17 : lw_okq (⟨"LandingSlots", "checkAirline", "(I)V"⟩, 4) := ⟨⟨by decide +kernel, by decide +kernel⟩, List.mem_of_getElem? (i := 17) (by decide +kernel), List.mem_of_getElem? (i := 377) (by decide +kernel), List.mem_of_getElem? (i := 378) (by decide +kernel)⟩
theorem lw_p18 : lw_okq (⟨"LandingSlots$Flights", "insertBySchedule", "(I)V"⟩, 8) := ⟨⟨by decide +kernel, by decide +kernel⟩, List.mem_of_getElem? (i := 48) (by decide +kernel), List.mem_of_getElem? (i := 392) (by decide +kernel), List.mem_of_getElem? (i := 393) (by decide +kernel)⟩
theorem lw_p19 : lw_okq (⟨"LandingSlots", "checkFlight", "(I)V"⟩, 4) := ⟨⟨by decide +kernel, by decide +kernel⟩, List.mem_of_getElem? (i := 17) (by decide +kernel), List.mem_of_getElem? (i := 403) (by decide +kernel), List.mem_of_getElem? (i := 404) (by decide +kernel)⟩
theorem lw_p20 : lw_okq (⟨"LandingSlots", "checkSlot", "(I)V"⟩, 4) := ⟨⟨by decide +kernel, by decide +kernel⟩, List.mem_of_getElem? (i := 17) (by decide +kernel), List.mem_of_getElem? (i := 416) (by decide +kernel), List.mem_of_getElem? (i := 417) (by decide +kernel)⟩
theorem lw_p21 : lw_okq (⟨"LandingSlots", "checkPlannable", "(I)V"⟩, 4) := ⟨⟨by decide +kernel, by decide +kernel⟩, List.mem_of_getElem? (i := 17) (by decide +kernel), List.mem_of_getElem? (i := 450) (by decide +kernel), List.mem_of_getElem? (i := 451) (by decide +kernel)⟩
theorem lw_p22 : lw_okq (⟨"LandingSlots", "takeOut", "(II)V"⟩, 4) := ⟨⟨by decide +kernel, by decide +kernel⟩, List.mem_of_getElem? (i := 17) (by decide +kernel), List.mem_of_getElem? (i := 455) (by decide +kernel), List.mem_of_getElem? (i := 456) (by decide +kernel)⟩
theorem lw_p23 : lw_okq (⟨"LandingSlots", "checkAirlineOrNone", "(I)V"⟩, 4) := ⟨⟨by decide +kernel, by decide +kernel⟩, List.mem_of_getElem? (i := 17) (by decide +kernel), List.mem_of_getElem? (i := 513) (by decide +kernel), List.mem_of_getElem? (i := 514) (by decide +kernel)⟩
theorem lw_p24 : lw_okq (⟨"LandingSlotsModel", "rationed", "()I"⟩, 19) := ⟨⟨by decide +kernel, by decide +kernel⟩, List.mem_of_getElem? (i := 553) (by decide +kernel), List.mem_of_getElem? (i := 625) (by decide +kernel), List.mem_of_getElem? (i := 626) (by decide +kernel)⟩
theorem lw_p25 : lw_okq (⟨"LandingSlotsModel", "isFrozen", "(I)Z"⟩, 19) := ⟨⟨by decide +kernel, by decide +kernel⟩, List.mem_of_getElem? (i := 553) (by decide +kernel), List.mem_of_getElem? (i := 629) (by decide +kernel), List.mem_of_getElem? (i := 630) (by decide +kernel)⟩
theorem lw_p26 : lw_okq (⟨"LandingSlotsModel", "empty", "(I)V"⟩, 19) := ⟨⟨by decide +kernel, by decide +kernel⟩, List.mem_of_getElem? (i := 553) (by decide +kernel), List.mem_of_getElem? (i := 633) (by decide +kernel), List.mem_of_getElem? (i := 634) (by decide +kernel)⟩
theorem lw_p27 : lw_okq (⟨"LandingSlotsModel", "nextFlight", "()I"⟩, 19) := ⟨⟨by decide +kernel, by decide +kernel⟩, List.mem_of_getElem? (i := 553) (by decide +kernel), List.mem_of_getElem? (i := 637) (by decide +kernel), List.mem_of_getElem? (i := 638) (by decide +kernel)⟩
theorem lw_p28 : lw_okq (⟨"LandingSlotsModel", "isLoose", "(I)Z"⟩, 19) := ⟨⟨by decide +kernel, by decide +kernel⟩, List.mem_of_getElem? (i := 553) (by decide +kernel), List.mem_of_getElem? (i := 641) (by decide +kernel), List.mem_of_getElem? (i := 642) (by decide +kernel)⟩
theorem lw_p29 : lw_okq (⟨"LandingSlotsModel", "isFlight", "(I)Z"⟩, 19) := ⟨⟨by decide +kernel, by decide +kernel⟩, List.mem_of_getElem? (i := 553) (by decide +kernel), List.mem_of_getElem? (i := 663) (by decide +kernel), List.mem_of_getElem? (i := 664) (by decide +kernel)⟩
theorem lw_p30 : lw_okq (⟨"LandingSlotsModel", "isSlot", "(I)Z"⟩, 19) := ⟨⟨by decide +kernel, by decide +kernel⟩, List.mem_of_getElem? (i := 553) (by decide +kernel), List.mem_of_getElem? (i := 671) (by decide +kernel), List.mem_of_getElem? (i := 672) (by decide +kernel)⟩
theorem lw_p31 : lw_okq (⟨"LandingSlotsModel", "note", "(IIII)V"⟩, 19) := ⟨⟨by decide +kernel, by decide +kernel⟩, List.mem_of_getElem? (i := 553) (by decide +kernel), List.mem_of_getElem? (i := 683) (by decide +kernel), List.mem_of_getElem? (i := 684) (by decide +kernel)⟩
def lw_privs_2 : List (MethodName × Nat) := [(⟨"LandingSlots", "losesFrozenSlot", "(II)Z"⟩, 4), (⟨"LandingSlots", "checkAirline", "(I)V"⟩, 4), (⟨"LandingSlots$Flights", "insertBySchedule", "(I)V"⟩, 8), (⟨"LandingSlots", "checkFlight", "(I)V"⟩, 4), (⟨"LandingSlots", "checkSlot", "(I)V"⟩, 4), (⟨"LandingSlots", "checkPlannable", "(I)V"⟩, 4), (⟨"LandingSlots", "takeOut", "(II)V"⟩, 4), (⟨"LandingSlots", "checkAirlineOrNone", "(I)V"⟩, 4), (⟨"LandingSlotsModel", "rationed", "()I"⟩, 19), (⟨"LandingSlotsModel", "isFrozen", "(I)Z"⟩, 19), (⟨"LandingSlotsModel", "empty", "(I)V"⟩, 19), (⟨"LandingSlotsModel", "nextFlight", "()I"⟩, 19), (⟨"LandingSlotsModel", "isLoose", "(I)Z"⟩, 19), (⟨"LandingSlotsModel", "isFlight", "(I)Z"⟩, 19), (⟨"LandingSlotsModel", "isSlot", "(I)Z"⟩, 19), (⟨"LandingSlotsModel", "note", "(IIII)V"⟩, 19)]
theorem lw_r2 : ∀ q ∈ lw_privs_2, lw_okq q := List.forall_mem_cons.mpr ⟨lw_p16, List.forall_mem_cons.mpr ⟨lw_p17, List.forall_mem_cons.mpr ⟨lw_p18, List.forall_mem_cons.mpr ⟨lw_p19, List.forall_mem_cons.mpr ⟨lw_p20, List.forall_mem_cons.mpr ⟨lw_p21, List.forall_mem_cons.mpr ⟨lw_p22, List.forall_mem_cons.mpr ⟨lw_p23, List.forall_mem_cons.mpr ⟨lw_p24, List.forall_mem_cons.mpr ⟨lw_p25, List.forall_mem_cons.mpr ⟨lw_p26, List.forall_mem_cons.mpr ⟨lw_p27, List.forall_mem_cons.mpr ⟨lw_p28, List.forall_mem_cons.mpr ⟨lw_p29, List.forall_mem_cons.mpr ⟨lw_p30, List.forall_mem_cons.mpr ⟨lw_p31, fun _ h => absurd h List.not_mem_nil⟩⟩⟩⟩⟩⟩⟩⟩⟩⟩⟩⟩⟩⟩⟩⟩
theorem lw_p32 : lw_okq (⟨"LandingSlotsModel", "exchange", "(II)V"⟩, 19) := ⟨⟨by decide +kernel, by decide +kernel⟩, List.mem_of_getElem? (i := 553) (by decide +kernel), List.mem_of_getElem? (i := 699) (by decide +kernel), List.mem_of_getElem? (i := 700) (by decide +kernel)⟩
theorem lw_p33 : lw_okq (⟨"LandingSlotsModel", "put", "(II)V"⟩, 19) := ⟨⟨by decide +kernel, by decide +kernel⟩, List.mem_of_getElem? (i := 553) (by decide +kernel), List.mem_of_getElem? (i := 703) (by decide +kernel), List.mem_of_getElem? (i := 704) (by decide +kernel)⟩
theorem lw_p34 : lw_okq (⟨"LandingSlotsModel", "isGood", "(I)Z"⟩, 19) := ⟨⟨by decide +kernel, by decide +kernel⟩, List.mem_of_getElem? (i := 553) (by decide +kernel), List.mem_of_getElem? (i := 719) (by decide +kernel), List.mem_of_getElem? (i := 720) (by decide +kernel)⟩
theorem lw_p35 : lw_okq (⟨"LandingSlotsModel", "partner", "(I)I"⟩, 19) := ⟨⟨by decide +kernel, by decide +kernel⟩, List.mem_of_getElem? (i := 553) (by decide +kernel), List.mem_of_getElem? (i := 723) (by decide +kernel), List.mem_of_getElem? (i := 724) (by decide +kernel)⟩
theorem lw_p36 : lw_okq (⟨"LandingSlotsModel", "close", "(I)V"⟩, 19) := ⟨⟨by decide +kernel, by decide +kernel⟩, List.mem_of_getElem? (i := 553) (by decide +kernel), List.mem_of_getElem? (i := 727) (by decide +kernel), List.mem_of_getElem? (i := 728) (by decide +kernel)⟩
theorem lw_p37 : lw_okq (⟨"LandingSlotsModel", "moves", "()Z"⟩, 19) := ⟨⟨by decide +kernel, by decide +kernel⟩, List.mem_of_getElem? (i := 553) (by decide +kernel), List.mem_of_getElem? (i := 735) (by decide +kernel), List.mem_of_getElem? (i := 736) (by decide +kernel)⟩
theorem lw_p38 : lw_okq (⟨"LandingSlotsModel", "follower", "(II)I"⟩, 19) := ⟨⟨by decide +kernel, by decide +kernel⟩, List.mem_of_getElem? (i := 553) (by decide +kernel), List.mem_of_getElem? (i := 739) (by decide +kernel), List.mem_of_getElem? (i := 740) (by decide +kernel)⟩
theorem lw_p39 : lw_okq (⟨"LandingSlotsModel", "isGap", "(II)Z"⟩, 19) := ⟨⟨by decide +kernel, by decide +kernel⟩, List.mem_of_getElem? (i := 553) (by decide +kernel), List.mem_of_getElem? (i := 743) (by decide +kernel), List.mem_of_getElem? (i := 744) (by decide +kernel)⟩
def lw_privs_3 : List (MethodName × Nat) := [(⟨"LandingSlotsModel", "exchange", "(II)V"⟩, 19), (⟨"LandingSlotsModel", "put", "(II)V"⟩, 19), (⟨"LandingSlotsModel", "isGood", "(I)Z"⟩, 19), (⟨"LandingSlotsModel", "partner", "(I)I"⟩, 19), (⟨"LandingSlotsModel", "close", "(I)V"⟩, 19), (⟨"LandingSlotsModel", "moves", "()Z"⟩, 19), (⟨"LandingSlotsModel", "follower", "(II)I"⟩, 19), (⟨"LandingSlotsModel", "isGap", "(II)Z"⟩, 19)]
theorem lw_r3 : ∀ q ∈ lw_privs_3, lw_okq q := List.forall_mem_cons.mpr ⟨lw_p32, List.forall_mem_cons.mpr ⟨lw_p33, List.forall_mem_cons.mpr ⟨lw_p34, List.forall_mem_cons.mpr ⟨lw_p35, List.forall_mem_cons.mpr ⟨lw_p36, List.forall_mem_cons.mpr ⟨lw_p37, List.forall_mem_cons.mpr ⟨lw_p38, List.forall_mem_cons.mpr ⟨lw_p39, fun _ h => absurd h List.not_mem_nil⟩⟩⟩⟩⟩⟩⟩⟩
def lw_privs : List (MethodName × Nat) := lw_privs_1 ++ (lw_privs_2 ++ (lw_privs_3))
def lw_tbl : List Cond := k2_sels lw_privs ++ tables_1
theorem lw_privs_ok : ∀ q ∈ lw_privs, lw_okq q := by
  show ∀ q ∈ lw_privs_1 ++ (lw_privs_2 ++ (lw_privs_3)), lw_okq q
  exact List.forall_mem_append.mpr ⟨lw_r1, List.forall_mem_append.mpr ⟨lw_r2, lw_r3⟩⟩
end
section
/-! Names: classes, fields, methods (by program, out of the listing and the tables). -/
def RX0 : String := "LandingSlots$Entries"
def TX0 : u_T := fun k => match k with
  | 0 => ("LandingSlots$Entries", "kind", "[I", true)
  | 1 => ("LandingSlots$Entries", "flight", "[I", true)
  | 2 => ("LandingSlots$Entries", "from", "[I", true)
  | 3 => ("LandingSlots$Entries", "to", "[I", true)
  | _ => ("LandingSlots$Entries", "count", "I", false)
def tyX0 : Nat → FieldType := fun k => match k with
  | 0 => .array .int
  | 1 => .array .int
  | 2 => .array .int
  | 3 => .array .int
  | _ => .int
theorem nmX0 : ∀ a, a < 5 → ∀ b, b < 5 → a ≠ b → (TX0 a).2.1 ≠ (TX0 b).2.1 := by decide +kernel
theorem tyX0_ok : ∀ k, k < 5 → parseFieldDescriptor (TX0 k).2.2.1 = some (tyX0 k) := by decide +kernel
set_option maxRecDepth 20000 in
theorem inX0 : ∀ w ∈ u_ws RX0 TX0 5, w ∈ lw_tbl := by decide +kernel
abbrev cX0_init : ByteArray := prog_2_method_1_code
def yX0_init : MethodName := ⟨RX0, "<init>", "()V"⟩
abbrev cX0_clear : ByteArray := prog_2_method_2_code
def yX0_clear : MethodName := ⟨RX0, "clear", "()V"⟩
abbrev cX0_add : ByteArray := prog_2_method_3_code
def yX0_add : MethodName := ⟨RX0, "add", "(IIII)V"⟩
def RX1 : String := "LandingSlots$Flights"
def TX1 : u_T := fun k => match k with
  | 0 => ("LandingSlots$Flights", "airline", "[I", true)
  | 1 => ("LandingSlots$Flights", "scheduled", "[I", true)
  | 2 => ("LandingSlots$Flights", "earliest", "[I", true)
  | 3 => ("LandingSlots$Flights", "slot", "[I", true)
  | 4 => ("LandingSlots$Flights", "cancelled", "[Z", true)
  | 5 => ("LandingSlots$Flights", "airborne", "[Z", true)
  | 6 => ("LandingSlots$Flights", "bySchedule", "[I", true)
  | _ => ("LandingSlots$Flights", "count", "I", false)
def tyX1 : Nat → FieldType := fun k => match k with
  | 0 => .array .int
  | 1 => .array .int
  | 2 => .array .int
  | 3 => .array .int
  | 4 => .array .boolean
  | 5 => .array .boolean
  | 6 => .array .int
  | _ => .int
theorem nmX1 : ∀ a, a < 8 → ∀ b, b < 8 → a ≠ b → (TX1 a).2.1 ≠ (TX1 b).2.1 := by decide +kernel
theorem tyX1_ok : ∀ k, k < 8 → parseFieldDescriptor (TX1 k).2.2.1 = some (tyX1 k) := by decide +kernel
set_option maxRecDepth 20000 in
theorem inX1 : ∀ w ∈ u_ws RX1 TX1 8, w ∈ lw_tbl := by decide +kernel
abbrev cX1_init : ByteArray := prog_3_method_1_code
def yX1_init : MethodName := ⟨RX1, "<init>", "()V"⟩
abbrev cX1_add : ByteArray := prog_3_method_2_code
def yX1_add : MethodName := ⟨RX1, "add", "(III)I"⟩
abbrev cX1_insertBySchedule : ByteArray := prog_3_method_3_code
def yX1_insertBySchedule : MethodName := ⟨RX1, "insertBySchedule", "(I)V"⟩
abbrev cX1_isPlannable : ByteArray := prog_3_method_4_code
def yX1_isPlannable : MethodName := ⟨RX1, "isPlannable", "(I)Z"⟩
abbrev cX1_canUse : ByteArray := prog_3_method_5_code
def yX1_canUse : MethodName := ⟨RX1, "canUse", "(II)Z"⟩
def RX2 : String := "LandingSlots$Offers"
def TX2 : u_T := fun k => match k with
  | 0 => ("LandingSlots$Offers", "airline", "[I", true)
  | 1 => ("LandingSlots$Offers", "give", "[I", true)
  | 2 => ("LandingSlots$Offers", "want", "[I", true)
  | 3 => ("LandingSlots$Offers", "standing", "[Z", true)
  | _ => ("LandingSlots$Offers", "count", "I", false)
def tyX2 : Nat → FieldType := fun k => match k with
  | 0 => .array .int
  | 1 => .array .int
  | 2 => .array .int
  | 3 => .array .boolean
  | _ => .int
theorem nmX2 : ∀ a, a < 5 → ∀ b, b < 5 → a ≠ b → (TX2 a).2.1 ≠ (TX2 b).2.1 := by decide +kernel
theorem tyX2_ok : ∀ k, k < 5 → parseFieldDescriptor (TX2 k).2.2.1 = some (tyX2 k) := by decide +kernel
set_option maxRecDepth 20000 in
theorem inX2 : ∀ w ∈ u_ws RX2 TX2 5, w ∈ lw_tbl := by decide +kernel
abbrev cX2_init : ByteArray := prog_4_method_1_code
def yX2_init : MethodName := ⟨RX2, "<init>", "()V"⟩
abbrev cX2_add : ByteArray := prog_4_method_2_code
def yX2_add : MethodName := ⟨RX2, "add", "(III)I"⟩
abbrev cX2_areOpposite : ByteArray := prog_4_method_3_code
def yX2_areOpposite : MethodName := ⟨RX2, "areOpposite", "(II)Z"⟩
def RX3 : String := "LandingSlots$Slots"
def TX3 : u_T := fun k => match k with
  | 0 => ("LandingSlots$Slots", "open", "[Z", true)
  | 1 => ("LandingSlots$Slots", "owner", "[I", true)
  | _ => ("LandingSlots$Slots", "flight", "[I", true)
def tyX3 : Nat → FieldType := fun k => match k with
  | 0 => .array .boolean
  | 1 => .array .int
  | _ => .array .int
theorem nmX3 : ∀ a, a < 3 → ∀ b, b < 3 → a ≠ b → (TX3 a).2.1 ≠ (TX3 b).2.1 := by decide +kernel
theorem tyX3_ok : ∀ k, k < 3 → parseFieldDescriptor (TX3 k).2.2.1 = some (tyX3 k) := by decide +kernel
set_option maxRecDepth 20000 in
theorem inX3 : ∀ w ∈ u_ws RX3 TX3 3, w ∈ lw_tbl := by decide +kernel
abbrev cX3_init : ByteArray := prog_5_method_1_code
def yX3_init : MethodName := ⟨RX3, "<init>", "()V"⟩
abbrev cX3_isSlot : ByteArray := prog_5_method_2_code
def yX3_isSlot : MethodName := ⟨RX3, "isSlot", "(I)Z"⟩
abbrev cX3_isEmpty : ByteArray := prog_5_method_3_code
def yX3_isEmpty : MethodName := ⟨RX3, "isEmpty", "(I)Z"⟩
abbrev cX3_isOffsetAtRate : ByteArray := prog_5_method_4_code
def yX3_isOffsetAtRate : MethodName := ⟨RX3, "isOffsetAtRate", "(II)Z"⟩
abbrev cX3_setRate : ByteArray := prog_5_method_5_code
def yX3_setRate : MethodName := ⟨RX3, "setRate", "(II)V"⟩
abbrev cX3_countWithOwner : ByteArray := prog_5_method_6_code
def yX3_countWithOwner : MethodName := ⟨RX3, "countWithOwner", "(I)I"⟩
def RX4 : String := "LandingSlots"
def TX4 : u_T := fun k => match k with
  | 0 => ("LandingSlots", "slots", "LLandingSlots$Slots;", true)
  | 1 => ("LandingSlots", "flights", "LLandingSlots$Flights;", true)
  | 2 => ("LandingSlots", "offers", "LLandingSlots$Offers;", true)
  | _ => ("LandingSlots", "entries", "LLandingSlots$Entries;", true)
def tyX4 : Nat → FieldType := fun k => match k with
  | 0 => .object "LandingSlots$Slots"
  | 1 => .object "LandingSlots$Flights"
  | 2 => .object "LandingSlots$Offers"
  | _ => .object "LandingSlots$Entries"
theorem nmX4 : ∀ a, a < 4 → ∀ b, b < 4 → a ≠ b → (TX4 a).2.1 ≠ (TX4 b).2.1 := by decide +kernel
theorem tyX4_ok : ∀ k, k < 4 → parseFieldDescriptor (TX4 k).2.2.1 = some (tyX4 k) := by decide +kernel
set_option maxRecDepth 20000 in
theorem inX4 : ∀ w ∈ u_ws RX4 TX4 4, w ∈ lw_tbl := by decide +kernel
abbrev cX4_init : ByteArray := prog_1_method_1_code
def yX4_init : MethodName := ⟨RX4, "<init>", "()V"⟩
abbrev cX4_rate : ByteArray := prog_1_method_2_code
def yX4_rate : MethodName := ⟨RX4, "rate", "(II)I"⟩
abbrev cX4_flight : ByteArray := prog_1_method_3_code
def yX4_flight : MethodName := ⟨RX4, "flight", "(III)I"⟩
abbrev cX4_ration : ByteArray := prog_1_method_4_code
def yX4_ration : MethodName := ⟨RX4, "ration", "()I"⟩
abbrev cX4_slotOf : ByteArray := prog_1_method_5_code
def yX4_slotOf : MethodName := ⟨RX4, "slotOf", "(I)I"⟩
abbrev cX4_ownerOf : ByteArray := prog_1_method_6_code
def yX4_ownerOf : MethodName := ⟨RX4, "ownerOf", "(I)I"⟩
abbrev cX4_flightIn : ByteArray := prog_1_method_7_code
def yX4_flightIn : MethodName := ⟨RX4, "flightIn", "(I)I"⟩
abbrev cX4_later : ByteArray := prog_1_method_8_code
def yX4_later : MethodName := ⟨RX4, "later", "(II)Z"⟩
abbrev cX4_cancel : ByteArray := prog_1_method_9_code
def yX4_cancel : MethodName := ⟨RX4, "cancel", "(I)Z"⟩
abbrev cX4_airborne : ByteArray := prog_1_method_10_code
def yX4_airborne : MethodName := ⟨RX4, "airborne", "(I)V"⟩
abbrev cX4_swap : ByteArray := prog_1_method_11_code
def yX4_swap : MethodName := ⟨RX4, "swap", "(II)V"⟩
abbrev cX4_offer : ByteArray := prog_1_method_12_code
def yX4_offer : MethodName := ⟨RX4, "offer", "(III)I"⟩
abbrev cX4_drop : ByteArray := prog_1_method_13_code
def yX4_drop : MethodName := ⟨RX4, "drop", "(I)Z"⟩
abbrev cX4_trade : ByteArray := prog_1_method_14_code
def yX4_trade : MethodName := ⟨RX4, "trade", "()I"⟩
abbrev cX4_compress : ByteArray := prog_1_method_15_code
def yX4_compress : MethodName := ⟨RX4, "compress", "()I"⟩
abbrev cX4_gaps : ByteArray := prog_1_method_16_code
def yX4_gaps : MethodName := ⟨RX4, "gaps", "()I"⟩
abbrev cX4_delay : ByteArray := prog_1_method_17_code
def yX4_delay : MethodName := ⟨RX4, "delay", "(I)I"⟩
abbrev cX4_owned : ByteArray := prog_1_method_18_code
def yX4_owned : MethodName := ⟨RX4, "owned", "(I)I"⟩
abbrev cX4_log : ByteArray := prog_1_method_19_code
def yX4_log : MethodName := ⟨RX4, "log", "()I"⟩
abbrev cX4_entry : ByteArray := prog_1_method_20_code
def yX4_entry : MethodName := ⟨RX4, "entry", "(II)I"⟩
abbrev cX4_checkFlight : ByteArray := prog_1_method_21_code
def yX4_checkFlight : MethodName := ⟨RX4, "checkFlight", "(I)V"⟩
abbrev cX4_checkAirline : ByteArray := prog_1_method_22_code
def yX4_checkAirline : MethodName := ⟨RX4, "checkAirline", "(I)V"⟩
abbrev cX4_checkAirlineOrNone : ByteArray := prog_1_method_23_code
def yX4_checkAirlineOrNone : MethodName := ⟨RX4, "checkAirlineOrNone", "(I)V"⟩
abbrev cX4_checkSlot : ByteArray := prog_1_method_24_code
def yX4_checkSlot : MethodName := ⟨RX4, "checkSlot", "(I)V"⟩
abbrev cX4_checkPlannable : ByteArray := prog_1_method_25_code
def yX4_checkPlannable : MethodName := ⟨RX4, "checkPlannable", "(I)V"⟩
abbrev cX4_isFrozen : ByteArray := prog_1_method_26_code
def yX4_isFrozen : MethodName := ⟨RX4, "isFrozen", "(I)Z"⟩
abbrev cX4_losesFrozenSlot : ByteArray := prog_1_method_27_code
def yX4_losesFrozenSlot : MethodName := ⟨RX4, "losesFrozenSlot", "(II)Z"⟩
abbrev cX4_rationAll : ByteArray := prog_1_method_28_code
def yX4_rationAll : MethodName := ⟨RX4, "rationAll", "()I"⟩
abbrev cX4_clearWhatIsNotFrozen : ByteArray := prog_1_method_29_code
def yX4_clearWhatIsNotFrozen : MethodName := ⟨RX4, "clearWhatIsNotFrozen", "()V"⟩
abbrev cX4_putInFirstSlot : ByteArray := prog_1_method_30_code
def yX4_putInFirstSlot : MethodName := ⟨RX4, "putInFirstSlot", "(I)Z"⟩
abbrev cX4_putIn : ByteArray := prog_1_method_31_code
def yX4_putIn : MethodName := ⟨RX4, "putIn", "(II)V"⟩
abbrev cX4_takeOut : ByteArray := prog_1_method_32_code
def yX4_takeOut : MethodName := ⟨RX4, "takeOut", "(II)V"⟩
abbrev cX4_couldMove : ByteArray := prog_1_method_33_code
def yX4_couldMove : MethodName := ⟨RX4, "couldMove", "(II)Z"⟩
abbrev cX4_isGood : ByteArray := prog_1_method_34_code
def yX4_isGood : MethodName := ⟨RX4, "isGood", "(I)Z"⟩
abbrev cX4_contentCanUse : ByteArray := prog_1_method_35_code
def yX4_contentCanUse : MethodName := ⟨RX4, "contentCanUse", "(II)Z"⟩
abbrev cX4_carryOutIfPossible : ByteArray := prog_1_method_36_code
def yX4_carryOutIfPossible : MethodName := ⟨RX4, "carryOutIfPossible", "(I)I"⟩
abbrev cX4_partnerOf : ByteArray := prog_1_method_37_code
def yX4_partnerOf : MethodName := ⟨RX4, "partnerOf", "(I)I"⟩
abbrev cX4_endAsTraded : ByteArray := prog_1_method_38_code
def yX4_endAsTraded : MethodName := ⟨RX4, "endAsTraded", "(I)V"⟩
abbrev cX4_exchange : ByteArray := prog_1_method_39_code
def yX4_exchange : MethodName := ⟨RX4, "exchange", "(II)V"⟩
abbrev cX4_flightsThatCouldMoveTo : ByteArray := prog_1_method_40_code
def yX4_flightsThatCouldMoveTo : MethodName := ⟨RX4, "flightsThatCouldMoveTo", "(I)I"⟩
abbrev cX4_flightToMoveTo : ByteArray := prog_1_method_41_code
def yX4_flightToMoveTo : MethodName := ⟨RX4, "flightToMoveTo", "(I)I"⟩
abbrev cX4_moveForward : ByteArray := prog_1_method_42_code
def yX4_moveForward : MethodName := ⟨RX4, "moveForward", "(II)V"⟩
def RX5 : String := "LandingSlotsModel"
def TX5 : u_T := fun k => match k with
  | 0 => ("LandingSlotsModel", "code", "I", false)
  | 1 => ("LandingSlotsModel", "slot", "[Z", true)
  | 2 => ("LandingSlotsModel", "owner", "[I", true)
  | 3 => ("LandingSlotsModel", "in", "[I", true)
  | 4 => ("LandingSlotsModel", "flights", "I", false)
  | 5 => ("LandingSlotsModel", "airline", "[I", true)
  | 6 => ("LandingSlotsModel", "scheduled", "[I", true)
  | 7 => ("LandingSlotsModel", "earliest", "[I", true)
  | 8 => ("LandingSlotsModel", "at", "[I", true)
  | 9 => ("LandingSlotsModel", "cancelled", "[Z", true)
  | 10 => ("LandingSlotsModel", "airborne", "[Z", true)
  | 11 => ("LandingSlotsModel", "done", "[Z", true)
  | 12 => ("LandingSlotsModel", "offers", "I", false)
  | 13 => ("LandingSlotsModel", "offerer", "[I", true)
  | 14 => ("LandingSlotsModel", "give", "[I", true)
  | 15 => ("LandingSlotsModel", "want", "[I", true)
  | 16 => ("LandingSlotsModel", "stands", "[Z", true)
  | 17 => ("LandingSlotsModel", "entries", "I", false)
  | _ => ("LandingSlotsModel", "log", "[I", true)
def tyX5 : Nat → FieldType := fun k => match k with
  | 0 => .int
  | 1 => .array .boolean
  | 2 => .array .int
  | 3 => .array .int
  | 4 => .int
  | 5 => .array .int
  | 6 => .array .int
  | 7 => .array .int
  | 8 => .array .int
  | 9 => .array .boolean
  | 10 => .array .boolean
  | 11 => .array .boolean
  | 12 => .int
  | 13 => .array .int
  | 14 => .array .int
  | 15 => .array .int
  | 16 => .array .boolean
  | 17 => .int
  | _ => .array .int
theorem nmX5 : ∀ a, a < 19 → ∀ b, b < 19 → a ≠ b → (TX5 a).2.1 ≠ (TX5 b).2.1 := by decide +kernel
theorem tyX5_ok : ∀ k, k < 19 → parseFieldDescriptor (TX5 k).2.2.1 = some (tyX5 k) := by decide +kernel
set_option maxRecDepth 20000 in
theorem inX5 : ∀ w ∈ u_ws RX5 TX5 19, w ∈ lw_tbl := by decide +kernel
abbrev cX5_init : ByteArray := prog_7_method_1_code
def yX5_init : MethodName := ⟨RX5, "<init>", "()V"⟩
abbrev cX5_thrown : ByteArray := prog_7_method_2_code
def yX5_thrown : MethodName := ⟨RX5, "thrown", "()I"⟩
abbrev cX5_within : ByteArray := prog_7_method_3_code
def yX5_within : MethodName := ⟨RX5, "within", "(III)Z"⟩
abbrev cX5_isFlight : ByteArray := prog_7_method_4_code
def yX5_isFlight : MethodName := ⟨RX5, "isFlight", "(I)Z"⟩
abbrev cX5_isSlot : ByteArray := prog_7_method_5_code
def yX5_isSlot : MethodName := ⟨RX5, "isSlot", "(I)Z"⟩
abbrev cX5_isFrozen : ByteArray := prog_7_method_6_code
def yX5_isFrozen : MethodName := ⟨RX5, "isFrozen", "(I)Z"⟩
abbrev cX5_isLoose : ByteArray := prog_7_method_7_code
def yX5_isLoose : MethodName := ⟨RX5, "isLoose", "(I)Z"⟩
abbrev cX5_note : ByteArray := prog_7_method_8_code
def yX5_note : MethodName := ⟨RX5, "note", "(IIII)V"⟩
abbrev cX5_empty : ByteArray := prog_7_method_9_code
def yX5_empty : MethodName := ⟨RX5, "empty", "(I)V"⟩
abbrev cX5_nextFlight : ByteArray := prog_7_method_10_code
def yX5_nextFlight : MethodName := ⟨RX5, "nextFlight", "()I"⟩
abbrev cX5_rationed : ByteArray := prog_7_method_11_code
def yX5_rationed : MethodName := ⟨RX5, "rationed", "()I"⟩
abbrev cX5_ration : ByteArray := prog_7_method_12_code
def yX5_ration : MethodName := ⟨RX5, "ration", "()I"⟩
abbrev cX5_has : ByteArray := prog_7_method_13_code
def yX5_has : MethodName := ⟨RX5, "has", "(III)Z"⟩
abbrev cX5_rate : ByteArray := prog_7_method_14_code
def yX5_rate : MethodName := ⟨RX5, "rate", "(II)I"⟩
abbrev cX5_flight : ByteArray := prog_7_method_15_code
def yX5_flight : MethodName := ⟨RX5, "flight", "(III)I"⟩
abbrev cX5_slotOf : ByteArray := prog_7_method_16_code
def yX5_slotOf : MethodName := ⟨RX5, "slotOf", "(I)I"⟩
abbrev cX5_ownerOf : ByteArray := prog_7_method_17_code
def yX5_ownerOf : MethodName := ⟨RX5, "ownerOf", "(I)I"⟩
abbrev cX5_flightIn : ByteArray := prog_7_method_18_code
def yX5_flightIn : MethodName := ⟨RX5, "flightIn", "(I)I"⟩
abbrev cX5_later : ByteArray := prog_7_method_19_code
def yX5_later : MethodName := ⟨RX5, "later", "(II)Z"⟩
abbrev cX5_cancel : ByteArray := prog_7_method_20_code
def yX5_cancel : MethodName := ⟨RX5, "cancel", "(I)Z"⟩
abbrev cX5_airborne : ByteArray := prog_7_method_21_code
def yX5_airborne : MethodName := ⟨RX5, "airborne", "(I)V"⟩
abbrev cX5_put : ByteArray := prog_7_method_22_code
def yX5_put : MethodName := ⟨RX5, "put", "(II)V"⟩
abbrev cX5_exchange : ByteArray := prog_7_method_23_code
def yX5_exchange : MethodName := ⟨RX5, "exchange", "(II)V"⟩
abbrev cX5_swap : ByteArray := prog_7_method_24_code
def yX5_swap : MethodName := ⟨RX5, "swap", "(II)V"⟩
abbrev cX5_offer : ByteArray := prog_7_method_25_code
def yX5_offer : MethodName := ⟨RX5, "offer", "(III)I"⟩
abbrev cX5_drop : ByteArray := prog_7_method_26_code
def yX5_drop : MethodName := ⟨RX5, "drop", "(I)Z"⟩
abbrev cX5_isGood : ByteArray := prog_7_method_27_code
def yX5_isGood : MethodName := ⟨RX5, "isGood", "(I)Z"⟩
abbrev cX5_partner : ByteArray := prog_7_method_28_code
def yX5_partner : MethodName := ⟨RX5, "partner", "(I)I"⟩
abbrev cX5_close : ByteArray := prog_7_method_29_code
def yX5_close : MethodName := ⟨RX5, "close", "(I)V"⟩
abbrev cX5_trade : ByteArray := prog_7_method_30_code
def yX5_trade : MethodName := ⟨RX5, "trade", "()I"⟩
abbrev cX5_isGap : ByteArray := prog_7_method_31_code
def yX5_isGap : MethodName := ⟨RX5, "isGap", "(II)Z"⟩
abbrev cX5_follower : ByteArray := prog_7_method_32_code
def yX5_follower : MethodName := ⟨RX5, "follower", "(II)I"⟩
abbrev cX5_moves : ByteArray := prog_7_method_33_code
def yX5_moves : MethodName := ⟨RX5, "moves", "()Z"⟩
abbrev cX5_compress : ByteArray := prog_7_method_34_code
def yX5_compress : MethodName := ⟨RX5, "compress", "()I"⟩
abbrev cX5_gaps : ByteArray := prog_7_method_35_code
def yX5_gaps : MethodName := ⟨RX5, "gaps", "()I"⟩
abbrev cX5_delay : ByteArray := prog_7_method_36_code
def yX5_delay : MethodName := ⟨RX5, "delay", "(I)I"⟩
abbrev cX5_owned : ByteArray := prog_7_method_37_code
def yX5_owned : MethodName := ⟨RX5, "owned", "(I)I"⟩
abbrev cX5_log : ByteArray := prog_7_method_38_code
def yX5_log : MethodName := ⟨RX5, "log", "()I"⟩
abbrev cX5_entry : ByteArray := prog_7_method_39_code
def yX5_entry : MethodName := ⟨RX5, "entry", "(II)I"⟩
def RL : String := "LandingSlotsLaw"
abbrev cL_rate : ByteArray := method_3_code
def yL_rate : MethodName := ⟨RL, "rate", "(LLandingSlots;II[J)I"⟩
abbrev cL_flight : ByteArray := method_4_code
def yL_flight : MethodName := ⟨RL, "flight", "(LLandingSlots;III[J)I"⟩
abbrev cL_slotOf : ByteArray := method_5_code
def yL_slotOf : MethodName := ⟨RL, "slotOf", "(LLandingSlots;I[J)I"⟩
abbrev cL_ownerOf : ByteArray := method_6_code
def yL_ownerOf : MethodName := ⟨RL, "ownerOf", "(LLandingSlots;I[J)I"⟩
abbrev cL_flightIn : ByteArray := method_7_code
def yL_flightIn : MethodName := ⟨RL, "flightIn", "(LLandingSlots;I[J)I"⟩
abbrev cL_later : ByteArray := method_8_code
def yL_later : MethodName := ⟨RL, "later", "(LLandingSlots;II[J)I"⟩
abbrev cL_cancel : ByteArray := method_9_code
def yL_cancel : MethodName := ⟨RL, "cancel", "(LLandingSlots;I[J)I"⟩
abbrev cL_airborne : ByteArray := method_10_code
def yL_airborne : MethodName := ⟨RL, "airborne", "(LLandingSlots;I)I"⟩
abbrev cL_swap : ByteArray := method_11_code
def yL_swap : MethodName := ⟨RL, "swap", "(LLandingSlots;II)I"⟩
abbrev cL_offer : ByteArray := method_12_code
def yL_offer : MethodName := ⟨RL, "offer", "(LLandingSlots;III[J)I"⟩
abbrev cL_drop : ByteArray := method_13_code
def yL_drop : MethodName := ⟨RL, "drop", "(LLandingSlots;I[J)I"⟩
abbrev cL_delay : ByteArray := method_14_code
def yL_delay : MethodName := ⟨RL, "delay", "(LLandingSlots;I[J)I"⟩
abbrev cL_owned : ByteArray := method_15_code
def yL_owned : MethodName := ⟨RL, "owned", "(LLandingSlots;I[J)I"⟩
abbrev cL_entry : ByteArray := method_16_code
def yL_entry : MethodName := ⟨RL, "entry", "(LLandingSlots;II[J)I"⟩
abbrev cL_law : ByteArray := code
def yL_law : MethodName := ⟨RL, "law", "([I)Z"⟩
def RJ7 : String := "java/util/Arrays"
abbrev vwCl : List vw_C := [(RX0, TX0, 5), (RX1, TX1, 8), (RX2, TX2, 5), (RX3, TX3, 3), (RX4, TX4, 4), (RX5, TX5, 19)]
end
section
theorem dX0_add_0 : decode cX0_add 0 = .ok (.aload_n 0, 1) := by decide +kernel
theorem dX0_add_1 : decode cX0_add 1 = .ok (.getfield 24, 3) := by decide +kernel
theorem dX0_add_4 : decode cX0_add 4 = .ok (.sipush 200, 3) := by decide +kernel
theorem dX0_add_7 : decode cX0_add 7 = .ok (.if_icmp .ge 54, 3) := by decide +kernel
theorem dX0_add_10 : decode cX0_add 10 = .ok (.aload_n 0, 1) := by decide +kernel
theorem dX0_add_11 : decode cX0_add 11 = .ok (.getfield 9, 3) := by decide +kernel
theorem dX0_add_14 : decode cX0_add 14 = .ok (.aload_n 0, 1) := by decide +kernel
theorem dX0_add_15 : decode cX0_add 15 = .ok (.getfield 24, 3) := by decide +kernel
theorem dX0_add_18 : decode cX0_add 18 = .ok (.iload_n 1, 1) := by decide +kernel
theorem dX0_add_19 : decode cX0_add 19 = .ok (.iastore, 1) := by decide +kernel
theorem dX0_add_20 : decode cX0_add 20 = .ok (.aload_n 0, 1) := by decide +kernel
theorem dX0_add_21 : decode cX0_add 21 = .ok (.getfield 15, 3) := by decide +kernel
theorem dX0_add_24 : decode cX0_add 24 = .ok (.aload_n 0, 1) := by decide +kernel
theorem dX0_add_25 : decode cX0_add 25 = .ok (.getfield 24, 3) := by decide +kernel
theorem dX0_add_28 : decode cX0_add 28 = .ok (.iload_n 2, 1) := by decide +kernel
theorem dX0_add_29 : decode cX0_add 29 = .ok (.iastore, 1) := by decide +kernel
theorem dX0_add_30 : decode cX0_add 30 = .ok (.aload_n 0, 1) := by decide +kernel
theorem dX0_add_31 : decode cX0_add 31 = .ok (.getfield 18, 3) := by decide +kernel
theorem dX0_add_34 : decode cX0_add 34 = .ok (.aload_n 0, 1) := by decide +kernel
theorem dX0_add_35 : decode cX0_add 35 = .ok (.getfield 24, 3) := by decide +kernel
theorem dX0_add_38 : decode cX0_add 38 = .ok (.iload_n 3, 1) := by decide +kernel
theorem dX0_add_39 : decode cX0_add 39 = .ok (.iastore, 1) := by decide +kernel
theorem dX0_add_40 : decode cX0_add 40 = .ok (.aload_n 0, 1) := by decide +kernel
theorem dX0_add_41 : decode cX0_add 41 = .ok (.getfield 21, 3) := by decide +kernel
theorem dX0_add_44 : decode cX0_add 44 = .ok (.aload_n 0, 1) := by decide +kernel
theorem dX0_add_45 : decode cX0_add 45 = .ok (.getfield 24, 3) := by decide +kernel
theorem dX0_add_48 : decode cX0_add 48 = .ok (.iload 4, 2) := by decide +kernel
theorem dX0_add_50 : decode cX0_add 50 = .ok (.iastore, 1) := by decide +kernel
theorem dX0_add_51 : decode cX0_add 51 = .ok (.aload_n 0, 1) := by decide +kernel
theorem dX0_add_52 : decode cX0_add 52 = .ok (.dup, 1) := by decide +kernel
theorem dX0_add_53 : decode cX0_add 53 = .ok (.getfield 24, 3) := by decide +kernel
theorem dX0_add_56 : decode cX0_add 56 = .ok (.iconst 1, 1) := by decide +kernel
theorem dX0_add_57 : decode cX0_add 57 = .ok (.iadd, 1) := by decide +kernel
theorem dX0_add_58 : decode cX0_add 58 = .ok (.putfield 24, 3) := by decide +kernel
theorem dX0_add_61 : decode cX0_add 61 = .ok (.return_, 1) := by decide +kernel
theorem dX0_clear_0 : decode cX0_clear 0 = .ok (.aload_n 0, 1) := by decide +kernel
theorem dX0_clear_1 : decode cX0_clear 1 = .ok (.iconst 0, 1) := by decide +kernel
theorem dX0_clear_2 : decode cX0_clear 2 = .ok (.putfield 24, 3) := by decide +kernel
theorem dX0_clear_5 : decode cX0_clear 5 = .ok (.return_, 1) := by decide +kernel
theorem dX0_init_0 : decode cX0_init 0 = .ok (.aload_n 0, 1) := by decide +kernel
theorem dX0_init_1 : decode cX0_init 1 = .ok (.invokespecial 3, 3) := by decide +kernel
theorem dX0_init_4 : decode cX0_init 4 = .ok (.aload_n 0, 1) := by decide +kernel
theorem dX0_init_5 : decode cX0_init 5 = .ok (.sipush 200, 3) := by decide +kernel
theorem dX0_init_8 : decode cX0_init 8 = .ok (.newarray .int, 2) := by decide +kernel
theorem dX0_init_10 : decode cX0_init 10 = .ok (.putfield 9, 3) := by decide +kernel
theorem dX0_init_13 : decode cX0_init 13 = .ok (.aload_n 0, 1) := by decide +kernel
theorem dX0_init_14 : decode cX0_init 14 = .ok (.sipush 200, 3) := by decide +kernel
theorem dX0_init_17 : decode cX0_init 17 = .ok (.newarray .int, 2) := by decide +kernel
theorem dX0_init_19 : decode cX0_init 19 = .ok (.putfield 15, 3) := by decide +kernel
theorem dX0_init_22 : decode cX0_init 22 = .ok (.aload_n 0, 1) := by decide +kernel
theorem dX0_init_23 : decode cX0_init 23 = .ok (.sipush 200, 3) := by decide +kernel
theorem dX0_init_26 : decode cX0_init 26 = .ok (.newarray .int, 2) := by decide +kernel
theorem dX0_init_28 : decode cX0_init 28 = .ok (.putfield 18, 3) := by decide +kernel
theorem dX0_init_31 : decode cX0_init 31 = .ok (.aload_n 0, 1) := by decide +kernel
theorem dX0_init_32 : decode cX0_init 32 = .ok (.sipush 200, 3) := by decide +kernel
theorem dX0_init_35 : decode cX0_init 35 = .ok (.newarray .int, 2) := by decide +kernel
theorem dX0_init_37 : decode cX0_init 37 = .ok (.putfield 21, 3) := by decide +kernel
theorem dX0_init_40 : decode cX0_init 40 = .ok (.return_, 1) := by decide +kernel
theorem dX1_add_0 : decode cX1_add 0 = .ok (.aload_n 0, 1) := by decide +kernel
theorem dX1_add_1 : decode cX1_add 1 = .ok (.getfield 34, 3) := by decide +kernel
theorem dX1_add_4 : decode cX1_add 4 = .ok (.istore 4, 2) := by decide +kernel
theorem dX1_add_6 : decode cX1_add 6 = .ok (.aload_n 0, 1) := by decide +kernel
theorem dX1_add_7 : decode cX1_add 7 = .ok (.getfield 9, 3) := by decide +kernel
theorem dX1_add_10 : decode cX1_add 10 = .ok (.iload 4, 2) := by decide +kernel
theorem dX1_add_12 : decode cX1_add 12 = .ok (.iload_n 1, 1) := by decide +kernel
theorem dX1_add_13 : decode cX1_add 13 = .ok (.iastore, 1) := by decide +kernel
theorem dX1_add_14 : decode cX1_add 14 = .ok (.aload_n 0, 1) := by decide +kernel
theorem dX1_add_15 : decode cX1_add 15 = .ok (.getfield 15, 3) := by decide +kernel
theorem dX1_add_18 : decode cX1_add 18 = .ok (.iload 4, 2) := by decide +kernel
theorem dX1_add_20 : decode cX1_add 20 = .ok (.iload_n 2, 1) := by decide +kernel
theorem dX1_add_21 : decode cX1_add 21 = .ok (.iastore, 1) := by decide +kernel
theorem dX1_add_22 : decode cX1_add 22 = .ok (.aload_n 0, 1) := by decide +kernel
theorem dX1_add_23 : decode cX1_add 23 = .ok (.getfield 18, 3) := by decide +kernel
theorem dX1_add_26 : decode cX1_add 26 = .ok (.iload 4, 2) := by decide +kernel
theorem dX1_add_28 : decode cX1_add 28 = .ok (.iload_n 3, 1) := by decide +kernel
theorem dX1_add_29 : decode cX1_add 29 = .ok (.iastore, 1) := by decide +kernel
theorem dX1_add_30 : decode cX1_add 30 = .ok (.aload_n 0, 1) := by decide +kernel
theorem dX1_add_31 : decode cX1_add 31 = .ok (.getfield 21, 3) := by decide +kernel
theorem dX1_add_34 : decode cX1_add 34 = .ok (.iload 4, 2) := by decide +kernel
theorem dX1_add_36 : decode cX1_add 36 = .ok (.iconst (-1), 1) := by decide +kernel
theorem dX1_add_37 : decode cX1_add 37 = .ok (.iastore, 1) := by decide +kernel
theorem dX1_add_38 : decode cX1_add 38 = .ok (.aload_n 0, 1) := by decide +kernel
theorem dX1_add_39 : decode cX1_add 39 = .ok (.iload 4, 2) := by decide +kernel
theorem dX1_add_41 : decode cX1_add 41 = .ok (.invokevirtual 38, 3) := by decide +kernel
theorem dX1_add_44 : decode cX1_add 44 = .ok (.aload_n 0, 1) := by decide +kernel
theorem dX1_add_45 : decode cX1_add 45 = .ok (.dup, 1) := by decide +kernel
theorem dX1_add_46 : decode cX1_add 46 = .ok (.getfield 34, 3) := by decide +kernel
theorem dX1_add_49 : decode cX1_add 49 = .ok (.iconst 1, 1) := by decide +kernel
theorem dX1_add_50 : decode cX1_add 50 = .ok (.iadd, 1) := by decide +kernel
theorem dX1_add_51 : decode cX1_add 51 = .ok (.putfield 34, 3) := by decide +kernel
theorem dX1_add_54 : decode cX1_add 54 = .ok (.iload 4, 2) := by decide +kernel
theorem dX1_add_56 : decode cX1_add 56 = .ok (.ireturn, 1) := by decide +kernel
theorem dX1_canUse_0 : decode cX1_canUse 0 = .ok (.iload_n 2, 1) := by decide +kernel
theorem dX1_canUse_1 : decode cX1_canUse 1 = .ok (.aload_n 0, 1) := by decide +kernel
theorem dX1_canUse_2 : decode cX1_canUse 2 = .ok (.getfield 18, 3) := by decide +kernel
theorem dX1_canUse_5 : decode cX1_canUse 5 = .ok (.iload_n 1, 1) := by decide +kernel
theorem dX1_canUse_6 : decode cX1_canUse 6 = .ok (.iaload, 1) := by decide +kernel
theorem dX1_canUse_7 : decode cX1_canUse 7 = .ok (.if_icmp .lt 7, 3) := by decide +kernel
theorem dX1_canUse_10 : decode cX1_canUse 10 = .ok (.iconst 1, 1) := by decide +kernel
theorem dX1_canUse_11 : decode cX1_canUse 11 = .ok (.goto 4, 3) := by decide +kernel
theorem dX1_canUse_14 : decode cX1_canUse 14 = .ok (.iconst 0, 1) := by decide +kernel
theorem dX1_canUse_15 : decode cX1_canUse 15 = .ok (.ireturn, 1) := by decide +kernel
theorem dX1_init_0 : decode cX1_init 0 = .ok (.aload_n 0, 1) := by decide +kernel
theorem dX1_init_1 : decode cX1_init 1 = .ok (.invokespecial 3, 3) := by decide +kernel
theorem dX1_init_4 : decode cX1_init 4 = .ok (.aload_n 0, 1) := by decide +kernel
theorem dX1_init_5 : decode cX1_init 5 = .ok (.bipush 60, 2) := by decide +kernel
theorem dX1_init_7 : decode cX1_init 7 = .ok (.newarray .int, 2) := by decide +kernel
theorem dX1_init_9 : decode cX1_init 9 = .ok (.putfield 9, 3) := by decide +kernel
theorem dX1_init_12 : decode cX1_init 12 = .ok (.aload_n 0, 1) := by decide +kernel
theorem dX1_init_13 : decode cX1_init 13 = .ok (.bipush 60, 2) := by decide +kernel
theorem dX1_init_15 : decode cX1_init 15 = .ok (.newarray .int, 2) := by decide +kernel
theorem dX1_init_17 : decode cX1_init 17 = .ok (.putfield 15, 3) := by decide +kernel
theorem dX1_init_20 : decode cX1_init 20 = .ok (.aload_n 0, 1) := by decide +kernel
theorem dX1_init_21 : decode cX1_init 21 = .ok (.bipush 60, 2) := by decide +kernel
theorem dX1_init_23 : decode cX1_init 23 = .ok (.newarray .int, 2) := by decide +kernel
theorem dX1_init_25 : decode cX1_init 25 = .ok (.putfield 18, 3) := by decide +kernel
theorem dX1_init_28 : decode cX1_init 28 = .ok (.aload_n 0, 1) := by decide +kernel
theorem dX1_init_29 : decode cX1_init 29 = .ok (.bipush 60, 2) := by decide +kernel
theorem dX1_init_31 : decode cX1_init 31 = .ok (.newarray .int, 2) := by decide +kernel
theorem dX1_init_33 : decode cX1_init 33 = .ok (.putfield 21, 3) := by decide +kernel
theorem dX1_init_36 : decode cX1_init 36 = .ok (.aload_n 0, 1) := by decide +kernel
theorem dX1_init_37 : decode cX1_init 37 = .ok (.bipush 60, 2) := by decide +kernel
theorem dX1_init_39 : decode cX1_init 39 = .ok (.newarray .boolean, 2) := by decide +kernel
theorem dX1_init_41 : decode cX1_init 41 = .ok (.putfield 24, 3) := by decide +kernel
theorem dX1_init_44 : decode cX1_init 44 = .ok (.aload_n 0, 1) := by decide +kernel
theorem dX1_init_45 : decode cX1_init 45 = .ok (.bipush 60, 2) := by decide +kernel
theorem dX1_init_47 : decode cX1_init 47 = .ok (.newarray .boolean, 2) := by decide +kernel
theorem dX1_init_49 : decode cX1_init 49 = .ok (.putfield 28, 3) := by decide +kernel
theorem dX1_init_52 : decode cX1_init 52 = .ok (.aload_n 0, 1) := by decide +kernel
theorem dX1_init_53 : decode cX1_init 53 = .ok (.bipush 60, 2) := by decide +kernel
theorem dX1_init_55 : decode cX1_init 55 = .ok (.newarray .int, 2) := by decide +kernel
theorem dX1_init_57 : decode cX1_init 57 = .ok (.putfield 31, 3) := by decide +kernel
theorem dX1_init_60 : decode cX1_init 60 = .ok (.return_, 1) := by decide +kernel
theorem dX1_insertBySchedule_0 : decode cX1_insertBySchedule 0 = .ok (.iload_n 1, 1) := by decide +kernel
theorem dX1_insertBySchedule_1 : decode cX1_insertBySchedule 1 = .ok (.istore_n 2, 1) := by decide +kernel
theorem dX1_insertBySchedule_2 : decode cX1_insertBySchedule 2 = .ok (.iload_n 2, 1) := by decide +kernel
theorem dX1_insertBySchedule_3 : decode cX1_insertBySchedule 3 = .ok (.ifCond .le 45, 3) := by decide +kernel
theorem dX1_insertBySchedule_6 : decode cX1_insertBySchedule 6 = .ok (.aload_n 0, 1) := by decide +kernel
theorem dX1_insertBySchedule_7 : decode cX1_insertBySchedule 7 = .ok (.getfield 15, 3) := by decide +kernel
theorem dX1_insertBySchedule_10 : decode cX1_insertBySchedule 10 = .ok (.aload_n 0, 1) := by decide +kernel
theorem dX1_insertBySchedule_11 : decode cX1_insertBySchedule 11 = .ok (.getfield 31, 3) := by decide +kernel
theorem dX1_insertBySchedule_14 : decode cX1_insertBySchedule 14 = .ok (.iload_n 2, 1) := by decide +kernel
theorem dX1_insertBySchedule_15 : decode cX1_insertBySchedule 15 = .ok (.iconst 1, 1) := by decide +kernel
theorem dX1_insertBySchedule_16 : decode cX1_insertBySchedule 16 = .ok (.isub, 1) := by decide +kernel
theorem dX1_insertBySchedule_17 : decode cX1_insertBySchedule 17 = .ok (.iaload, 1) := by decide +kernel
theorem dX1_insertBySchedule_18 : decode cX1_insertBySchedule 18 = .ok (.iaload, 1) := by decide +kernel
theorem dX1_insertBySchedule_19 : decode cX1_insertBySchedule 19 = .ok (.aload_n 0, 1) := by decide +kernel
theorem dX1_insertBySchedule_20 : decode cX1_insertBySchedule 20 = .ok (.getfield 15, 3) := by decide +kernel
theorem dX1_insertBySchedule_23 : decode cX1_insertBySchedule 23 = .ok (.iload_n 1, 1) := by decide +kernel
theorem dX1_insertBySchedule_24 : decode cX1_insertBySchedule 24 = .ok (.iaload, 1) := by decide +kernel
theorem dX1_insertBySchedule_25 : decode cX1_insertBySchedule 25 = .ok (.if_icmp .le 23, 3) := by decide +kernel
theorem dX1_insertBySchedule_28 : decode cX1_insertBySchedule 28 = .ok (.aload_n 0, 1) := by decide +kernel
theorem dX1_insertBySchedule_29 : decode cX1_insertBySchedule 29 = .ok (.getfield 31, 3) := by decide +kernel
theorem dX1_insertBySchedule_32 : decode cX1_insertBySchedule 32 = .ok (.iload_n 2, 1) := by decide +kernel
theorem dX1_insertBySchedule_33 : decode cX1_insertBySchedule 33 = .ok (.aload_n 0, 1) := by decide +kernel
theorem dX1_insertBySchedule_34 : decode cX1_insertBySchedule 34 = .ok (.getfield 31, 3) := by decide +kernel
theorem dX1_insertBySchedule_37 : decode cX1_insertBySchedule 37 = .ok (.iload_n 2, 1) := by decide +kernel
theorem dX1_insertBySchedule_38 : decode cX1_insertBySchedule 38 = .ok (.iconst 1, 1) := by decide +kernel
theorem dX1_insertBySchedule_39 : decode cX1_insertBySchedule 39 = .ok (.isub, 1) := by decide +kernel
theorem dX1_insertBySchedule_40 : decode cX1_insertBySchedule 40 = .ok (.iaload, 1) := by decide +kernel
theorem dX1_insertBySchedule_41 : decode cX1_insertBySchedule 41 = .ok (.iastore, 1) := by decide +kernel
theorem dX1_insertBySchedule_42 : decode cX1_insertBySchedule 42 = .ok (.iinc 2 (-1), 3) := by decide +kernel
theorem dX1_insertBySchedule_45 : decode cX1_insertBySchedule 45 = .ok (.goto (-43), 3) := by decide +kernel
theorem dX1_insertBySchedule_48 : decode cX1_insertBySchedule 48 = .ok (.aload_n 0, 1) := by decide +kernel
theorem dX1_insertBySchedule_49 : decode cX1_insertBySchedule 49 = .ok (.getfield 31, 3) := by decide +kernel
theorem dX1_insertBySchedule_52 : decode cX1_insertBySchedule 52 = .ok (.iload_n 2, 1) := by decide +kernel
theorem dX1_insertBySchedule_53 : decode cX1_insertBySchedule 53 = .ok (.iload_n 1, 1) := by decide +kernel
theorem dX1_insertBySchedule_54 : decode cX1_insertBySchedule 54 = .ok (.iastore, 1) := by decide +kernel
theorem dX1_insertBySchedule_55 : decode cX1_insertBySchedule 55 = .ok (.return_, 1) := by decide +kernel
theorem dX1_isPlannable_0 : decode cX1_isPlannable 0 = .ok (.aload_n 0, 1) := by decide +kernel
theorem dX1_isPlannable_1 : decode cX1_isPlannable 1 = .ok (.getfield 24, 3) := by decide +kernel
theorem dX1_isPlannable_4 : decode cX1_isPlannable 4 = .ok (.iload_n 1, 1) := by decide +kernel
theorem dX1_isPlannable_5 : decode cX1_isPlannable 5 = .ok (.baload, 1) := by decide +kernel
theorem dX1_isPlannable_6 : decode cX1_isPlannable 6 = .ok (.ifCond .ne 16, 3) := by decide +kernel
theorem dX1_isPlannable_9 : decode cX1_isPlannable 9 = .ok (.aload_n 0, 1) := by decide +kernel
theorem dX1_isPlannable_10 : decode cX1_isPlannable 10 = .ok (.getfield 28, 3) := by decide +kernel
theorem dX1_isPlannable_13 : decode cX1_isPlannable 13 = .ok (.iload_n 1, 1) := by decide +kernel
theorem dX1_isPlannable_14 : decode cX1_isPlannable 14 = .ok (.baload, 1) := by decide +kernel
theorem dX1_isPlannable_15 : decode cX1_isPlannable 15 = .ok (.ifCond .ne 7, 3) := by decide +kernel
theorem dX1_isPlannable_18 : decode cX1_isPlannable 18 = .ok (.iconst 1, 1) := by decide +kernel
theorem dX1_isPlannable_19 : decode cX1_isPlannable 19 = .ok (.goto 4, 3) := by decide +kernel
theorem dX1_isPlannable_22 : decode cX1_isPlannable 22 = .ok (.iconst 0, 1) := by decide +kernel
theorem dX1_isPlannable_23 : decode cX1_isPlannable 23 = .ok (.ireturn, 1) := by decide +kernel
theorem dX2_add_0 : decode cX2_add 0 = .ok (.aload_n 0, 1) := by decide +kernel
theorem dX2_add_1 : decode cX2_add 1 = .ok (.getfield 25, 3) := by decide +kernel
theorem dX2_add_4 : decode cX2_add 4 = .ok (.istore 4, 2) := by decide +kernel
theorem dX2_add_6 : decode cX2_add 6 = .ok (.aload_n 0, 1) := by decide +kernel
theorem dX2_add_7 : decode cX2_add 7 = .ok (.getfield 9, 3) := by decide +kernel
theorem dX2_add_10 : decode cX2_add 10 = .ok (.iload 4, 2) := by decide +kernel
theorem dX2_add_12 : decode cX2_add 12 = .ok (.iload_n 1, 1) := by decide +kernel
theorem dX2_add_13 : decode cX2_add 13 = .ok (.iastore, 1) := by decide +kernel
theorem dX2_add_14 : decode cX2_add 14 = .ok (.aload_n 0, 1) := by decide +kernel
theorem dX2_add_15 : decode cX2_add 15 = .ok (.getfield 15, 3) := by decide +kernel
theorem dX2_add_18 : decode cX2_add 18 = .ok (.iload 4, 2) := by decide +kernel
theorem dX2_add_20 : decode cX2_add 20 = .ok (.iload_n 2, 1) := by decide +kernel
theorem dX2_add_21 : decode cX2_add 21 = .ok (.iastore, 1) := by decide +kernel
theorem dX2_add_22 : decode cX2_add 22 = .ok (.aload_n 0, 1) := by decide +kernel
theorem dX2_add_23 : decode cX2_add 23 = .ok (.getfield 18, 3) := by decide +kernel
theorem dX2_add_26 : decode cX2_add 26 = .ok (.iload 4, 2) := by decide +kernel
theorem dX2_add_28 : decode cX2_add 28 = .ok (.iload_n 3, 1) := by decide +kernel
theorem dX2_add_29 : decode cX2_add 29 = .ok (.iastore, 1) := by decide +kernel
theorem dX2_add_30 : decode cX2_add 30 = .ok (.aload_n 0, 1) := by decide +kernel
theorem dX2_add_31 : decode cX2_add 31 = .ok (.getfield 21, 3) := by decide +kernel
theorem dX2_add_34 : decode cX2_add 34 = .ok (.iload 4, 2) := by decide +kernel
theorem dX2_add_36 : decode cX2_add 36 = .ok (.iconst 1, 1) := by decide +kernel
theorem dX2_add_37 : decode cX2_add 37 = .ok (.bastore, 1) := by decide +kernel
theorem dX2_add_38 : decode cX2_add 38 = .ok (.aload_n 0, 1) := by decide +kernel
theorem dX2_add_39 : decode cX2_add 39 = .ok (.dup, 1) := by decide +kernel
theorem dX2_add_40 : decode cX2_add 40 = .ok (.getfield 25, 3) := by decide +kernel
theorem dX2_add_43 : decode cX2_add 43 = .ok (.iconst 1, 1) := by decide +kernel
theorem dX2_add_44 : decode cX2_add 44 = .ok (.iadd, 1) := by decide +kernel
theorem dX2_add_45 : decode cX2_add 45 = .ok (.putfield 25, 3) := by decide +kernel
theorem dX2_add_48 : decode cX2_add 48 = .ok (.iload 4, 2) := by decide +kernel
theorem dX2_add_50 : decode cX2_add 50 = .ok (.ireturn, 1) := by decide +kernel
theorem dX2_areOpposite_0 : decode cX2_areOpposite 0 = .ok (.aload_n 0, 1) := by decide +kernel
theorem dX2_areOpposite_1 : decode cX2_areOpposite 1 = .ok (.getfield 9, 3) := by decide +kernel
theorem dX2_areOpposite_4 : decode cX2_areOpposite 4 = .ok (.iload_n 1, 1) := by decide +kernel
theorem dX2_areOpposite_5 : decode cX2_areOpposite 5 = .ok (.iaload, 1) := by decide +kernel
theorem dX2_areOpposite_6 : decode cX2_areOpposite 6 = .ok (.aload_n 0, 1) := by decide +kernel
theorem dX2_areOpposite_7 : decode cX2_areOpposite 7 = .ok (.getfield 9, 3) := by decide +kernel
theorem dX2_areOpposite_10 : decode cX2_areOpposite 10 = .ok (.iload_n 2, 1) := by decide +kernel
theorem dX2_areOpposite_11 : decode cX2_areOpposite 11 = .ok (.iaload, 1) := by decide +kernel
theorem dX2_areOpposite_12 : decode cX2_areOpposite 12 = .ok (.if_icmp .eq 37, 3) := by decide +kernel
theorem dX2_areOpposite_15 : decode cX2_areOpposite 15 = .ok (.aload_n 0, 1) := by decide +kernel
theorem dX2_areOpposite_16 : decode cX2_areOpposite 16 = .ok (.getfield 15, 3) := by decide +kernel
theorem dX2_areOpposite_19 : decode cX2_areOpposite 19 = .ok (.iload_n 1, 1) := by decide +kernel
theorem dX2_areOpposite_20 : decode cX2_areOpposite 20 = .ok (.iaload, 1) := by decide +kernel
theorem dX2_areOpposite_21 : decode cX2_areOpposite 21 = .ok (.aload_n 0, 1) := by decide +kernel
theorem dX2_areOpposite_22 : decode cX2_areOpposite 22 = .ok (.getfield 18, 3) := by decide +kernel
theorem dX2_areOpposite_25 : decode cX2_areOpposite 25 = .ok (.iload_n 2, 1) := by decide +kernel
theorem dX2_areOpposite_26 : decode cX2_areOpposite 26 = .ok (.iaload, 1) := by decide +kernel
theorem dX2_areOpposite_27 : decode cX2_areOpposite 27 = .ok (.if_icmp .ne 22, 3) := by decide +kernel
theorem dX2_areOpposite_30 : decode cX2_areOpposite 30 = .ok (.aload_n 0, 1) := by decide +kernel
theorem dX2_areOpposite_31 : decode cX2_areOpposite 31 = .ok (.getfield 18, 3) := by decide +kernel
theorem dX2_areOpposite_34 : decode cX2_areOpposite 34 = .ok (.iload_n 1, 1) := by decide +kernel
theorem dX2_areOpposite_35 : decode cX2_areOpposite 35 = .ok (.iaload, 1) := by decide +kernel
theorem dX2_areOpposite_36 : decode cX2_areOpposite 36 = .ok (.aload_n 0, 1) := by decide +kernel
theorem dX2_areOpposite_37 : decode cX2_areOpposite 37 = .ok (.getfield 15, 3) := by decide +kernel
theorem dX2_areOpposite_40 : decode cX2_areOpposite 40 = .ok (.iload_n 2, 1) := by decide +kernel
theorem dX2_areOpposite_41 : decode cX2_areOpposite 41 = .ok (.iaload, 1) := by decide +kernel
theorem dX2_areOpposite_42 : decode cX2_areOpposite 42 = .ok (.if_icmp .ne 7, 3) := by decide +kernel
theorem dX2_areOpposite_45 : decode cX2_areOpposite 45 = .ok (.iconst 1, 1) := by decide +kernel
theorem dX2_areOpposite_46 : decode cX2_areOpposite 46 = .ok (.goto 4, 3) := by decide +kernel
theorem dX2_areOpposite_49 : decode cX2_areOpposite 49 = .ok (.iconst 0, 1) := by decide +kernel
theorem dX2_areOpposite_50 : decode cX2_areOpposite 50 = .ok (.ireturn, 1) := by decide +kernel
theorem dX2_init_0 : decode cX2_init 0 = .ok (.aload_n 0, 1) := by decide +kernel
theorem dX2_init_1 : decode cX2_init 1 = .ok (.invokespecial 3, 3) := by decide +kernel
theorem dX2_init_4 : decode cX2_init 4 = .ok (.aload_n 0, 1) := by decide +kernel
theorem dX2_init_5 : decode cX2_init 5 = .ok (.bipush 40, 2) := by decide +kernel
theorem dX2_init_7 : decode cX2_init 7 = .ok (.newarray .int, 2) := by decide +kernel
theorem dX2_init_9 : decode cX2_init 9 = .ok (.putfield 9, 3) := by decide +kernel
theorem dX2_init_12 : decode cX2_init 12 = .ok (.aload_n 0, 1) := by decide +kernel
theorem dX2_init_13 : decode cX2_init 13 = .ok (.bipush 40, 2) := by decide +kernel
theorem dX2_init_15 : decode cX2_init 15 = .ok (.newarray .int, 2) := by decide +kernel
theorem dX2_init_17 : decode cX2_init 17 = .ok (.putfield 15, 3) := by decide +kernel
theorem dX2_init_20 : decode cX2_init 20 = .ok (.aload_n 0, 1) := by decide +kernel
theorem dX2_init_21 : decode cX2_init 21 = .ok (.bipush 40, 2) := by decide +kernel
theorem dX2_init_23 : decode cX2_init 23 = .ok (.newarray .int, 2) := by decide +kernel
theorem dX2_init_25 : decode cX2_init 25 = .ok (.putfield 18, 3) := by decide +kernel
theorem dX2_init_28 : decode cX2_init 28 = .ok (.aload_n 0, 1) := by decide +kernel
theorem dX2_init_29 : decode cX2_init 29 = .ok (.bipush 40, 2) := by decide +kernel
theorem dX2_init_31 : decode cX2_init 31 = .ok (.newarray .boolean, 2) := by decide +kernel
theorem dX2_init_33 : decode cX2_init 33 = .ok (.putfield 21, 3) := by decide +kernel
theorem dX2_init_36 : decode cX2_init 36 = .ok (.return_, 1) := by decide +kernel
theorem dX3_countWithOwner_0 : decode cX3_countWithOwner 0 = .ok (.iconst 0, 1) := by decide +kernel
theorem dX3_countWithOwner_1 : decode cX3_countWithOwner 1 = .ok (.istore_n 2, 1) := by decide +kernel
theorem dX3_countWithOwner_2 : decode cX3_countWithOwner 2 = .ok (.iconst 0, 1) := by decide +kernel
theorem dX3_countWithOwner_3 : decode cX3_countWithOwner 3 = .ok (.istore_n 3, 1) := by decide +kernel
theorem dX3_countWithOwner_4 : decode cX3_countWithOwner 4 = .ok (.iload_n 3, 1) := by decide +kernel
theorem dX3_countWithOwner_5 : decode cX3_countWithOwner 5 = .ok (.sipush 240, 3) := by decide +kernel
theorem dX3_countWithOwner_8 : decode cX3_countWithOwner 8 = .ok (.if_icmp .ge 31, 3) := by decide +kernel
theorem dX3_countWithOwner_11 : decode cX3_countWithOwner 11 = .ok (.aload_n 0, 1) := by decide +kernel
theorem dX3_countWithOwner_12 : decode cX3_countWithOwner 12 = .ok (.getfield 9, 3) := by decide +kernel
theorem dX3_countWithOwner_15 : decode cX3_countWithOwner 15 = .ok (.iload_n 3, 1) := by decide +kernel
theorem dX3_countWithOwner_16 : decode cX3_countWithOwner 16 = .ok (.baload, 1) := by decide +kernel
theorem dX3_countWithOwner_17 : decode cX3_countWithOwner 17 = .ok (.ifCond .eq 16, 3) := by decide +kernel
theorem dX3_countWithOwner_20 : decode cX3_countWithOwner 20 = .ok (.aload_n 0, 1) := by decide +kernel
theorem dX3_countWithOwner_21 : decode cX3_countWithOwner 21 = .ok (.getfield 15, 3) := by decide +kernel
theorem dX3_countWithOwner_24 : decode cX3_countWithOwner 24 = .ok (.iload_n 3, 1) := by decide +kernel
theorem dX3_countWithOwner_25 : decode cX3_countWithOwner 25 = .ok (.iaload, 1) := by decide +kernel
theorem dX3_countWithOwner_26 : decode cX3_countWithOwner 26 = .ok (.iload_n 1, 1) := by decide +kernel
theorem dX3_countWithOwner_27 : decode cX3_countWithOwner 27 = .ok (.if_icmp .ne 6, 3) := by decide +kernel
theorem dX3_countWithOwner_30 : decode cX3_countWithOwner 30 = .ok (.iinc 2 1, 3) := by decide +kernel
theorem dX3_countWithOwner_33 : decode cX3_countWithOwner 33 = .ok (.iinc 3 1, 3) := by decide +kernel
theorem dX3_countWithOwner_36 : decode cX3_countWithOwner 36 = .ok (.goto (-32), 3) := by decide +kernel
theorem dX3_countWithOwner_39 : decode cX3_countWithOwner 39 = .ok (.iload_n 2, 1) := by decide +kernel
theorem dX3_countWithOwner_40 : decode cX3_countWithOwner 40 = .ok (.ireturn, 1) := by decide +kernel
theorem dX3_init_0 : decode cX3_init 0 = .ok (.aload_n 0, 1) := by decide +kernel
theorem dX3_init_1 : decode cX3_init 1 = .ok (.invokespecial 3, 3) := by decide +kernel
theorem dX3_init_4 : decode cX3_init 4 = .ok (.aload_n 0, 1) := by decide +kernel
theorem dX3_init_5 : decode cX3_init 5 = .ok (.sipush 240, 3) := by decide +kernel
theorem dX3_init_8 : decode cX3_init 8 = .ok (.newarray .boolean, 2) := by decide +kernel
theorem dX3_init_10 : decode cX3_init 10 = .ok (.putfield 9, 3) := by decide +kernel
theorem dX3_init_13 : decode cX3_init 13 = .ok (.aload_n 0, 1) := by decide +kernel
theorem dX3_init_14 : decode cX3_init 14 = .ok (.sipush 240, 3) := by decide +kernel
theorem dX3_init_17 : decode cX3_init 17 = .ok (.newarray .int, 2) := by decide +kernel
theorem dX3_init_19 : decode cX3_init 19 = .ok (.putfield 15, 3) := by decide +kernel
theorem dX3_init_22 : decode cX3_init 22 = .ok (.aload_n 0, 1) := by decide +kernel
theorem dX3_init_23 : decode cX3_init 23 = .ok (.sipush 240, 3) := by decide +kernel
theorem dX3_init_26 : decode cX3_init 26 = .ok (.newarray .int, 2) := by decide +kernel
theorem dX3_init_28 : decode cX3_init 28 = .ok (.putfield 19, 3) := by decide +kernel
theorem dX3_init_31 : decode cX3_init 31 = .ok (.aload_n 0, 1) := by decide +kernel
theorem dX3_init_32 : decode cX3_init 32 = .ok (.getfield 15, 3) := by decide +kernel
theorem dX3_init_35 : decode cX3_init 35 = .ok (.iconst (-1), 1) := by decide +kernel
theorem dX3_init_36 : decode cX3_init 36 = .ok (.invokestatic 22, 3) := by decide +kernel
theorem dX3_init_39 : decode cX3_init 39 = .ok (.aload_n 0, 1) := by decide +kernel
theorem dX3_init_40 : decode cX3_init 40 = .ok (.getfield 19, 3) := by decide +kernel
theorem dX3_init_43 : decode cX3_init 43 = .ok (.iconst (-1), 1) := by decide +kernel
theorem dX3_init_44 : decode cX3_init 44 = .ok (.invokestatic 22, 3) := by decide +kernel
theorem dX3_init_47 : decode cX3_init 47 = .ok (.return_, 1) := by decide +kernel
theorem dX3_isEmpty_0 : decode cX3_isEmpty 0 = .ok (.aload_n 0, 1) := by decide +kernel
theorem dX3_isEmpty_1 : decode cX3_isEmpty 1 = .ok (.iload_n 1, 1) := by decide +kernel
theorem dX3_isEmpty_2 : decode cX3_isEmpty 2 = .ok (.invokevirtual 28, 3) := by decide +kernel
theorem dX3_isEmpty_5 : decode cX3_isEmpty 5 = .ok (.ifCond .eq 17, 3) := by decide +kernel
theorem dX3_isEmpty_8 : decode cX3_isEmpty 8 = .ok (.aload_n 0, 1) := by decide +kernel
theorem dX3_isEmpty_9 : decode cX3_isEmpty 9 = .ok (.getfield 19, 3) := by decide +kernel
theorem dX3_isEmpty_12 : decode cX3_isEmpty 12 = .ok (.iload_n 1, 1) := by decide +kernel
theorem dX3_isEmpty_13 : decode cX3_isEmpty 13 = .ok (.iaload, 1) := by decide +kernel
theorem dX3_isEmpty_14 : decode cX3_isEmpty 14 = .ok (.iconst (-1), 1) := by decide +kernel
theorem dX3_isEmpty_15 : decode cX3_isEmpty 15 = .ok (.if_icmp .ne 7, 3) := by decide +kernel
theorem dX3_isEmpty_18 : decode cX3_isEmpty 18 = .ok (.iconst 1, 1) := by decide +kernel
theorem dX3_isEmpty_19 : decode cX3_isEmpty 19 = .ok (.goto 4, 3) := by decide +kernel
theorem dX3_isEmpty_22 : decode cX3_isEmpty 22 = .ok (.iconst 0, 1) := by decide +kernel
theorem dX3_isEmpty_23 : decode cX3_isEmpty 23 = .ok (.ireturn, 1) := by decide +kernel
theorem dX3_isOffsetAtRate_0 : decode cX3_isOffsetAtRate 0 = .ok (.iconst 0, 1) := by decide +kernel
theorem dX3_isOffsetAtRate_1 : decode cX3_isOffsetAtRate 1 = .ok (.istore_n 2, 1) := by decide +kernel
theorem dX3_isOffsetAtRate_2 : decode cX3_isOffsetAtRate 2 = .ok (.iload_n 2, 1) := by decide +kernel
theorem dX3_isOffsetAtRate_3 : decode cX3_isOffsetAtRate 3 = .ok (.iload_n 1, 1) := by decide +kernel
theorem dX3_isOffsetAtRate_4 : decode cX3_isOffsetAtRate 4 = .ok (.if_icmp .ge 21, 3) := by decide +kernel
theorem dX3_isOffsetAtRate_7 : decode cX3_isOffsetAtRate 7 = .ok (.bipush 15, 2) := by decide +kernel
theorem dX3_isOffsetAtRate_9 : decode cX3_isOffsetAtRate 9 = .ok (.iload_n 2, 1) := by decide +kernel
theorem dX3_isOffsetAtRate_10 : decode cX3_isOffsetAtRate 10 = .ok (.imul, 1) := by decide +kernel
theorem dX3_isOffsetAtRate_11 : decode cX3_isOffsetAtRate 11 = .ok (.iload_n 1, 1) := by decide +kernel
theorem dX3_isOffsetAtRate_12 : decode cX3_isOffsetAtRate 12 = .ok (.idiv, 1) := by decide +kernel
theorem dX3_isOffsetAtRate_13 : decode cX3_isOffsetAtRate 13 = .ok (.iload_n 0, 1) := by decide +kernel
theorem dX3_isOffsetAtRate_14 : decode cX3_isOffsetAtRate 14 = .ok (.if_icmp .ne 5, 3) := by decide +kernel
theorem dX3_isOffsetAtRate_17 : decode cX3_isOffsetAtRate 17 = .ok (.iconst 1, 1) := by decide +kernel
theorem dX3_isOffsetAtRate_18 : decode cX3_isOffsetAtRate 18 = .ok (.ireturn, 1) := by decide +kernel
theorem dX3_isOffsetAtRate_19 : decode cX3_isOffsetAtRate 19 = .ok (.iinc 2 1, 3) := by decide +kernel
theorem dX3_isOffsetAtRate_22 : decode cX3_isOffsetAtRate 22 = .ok (.goto (-20), 3) := by decide +kernel
theorem dX3_isOffsetAtRate_25 : decode cX3_isOffsetAtRate 25 = .ok (.iconst 0, 1) := by decide +kernel
theorem dX3_isOffsetAtRate_26 : decode cX3_isOffsetAtRate 26 = .ok (.ireturn, 1) := by decide +kernel
theorem dX3_isSlot_0 : decode cX3_isSlot 0 = .ok (.iload_n 1, 1) := by decide +kernel
theorem dX3_isSlot_1 : decode cX3_isSlot 1 = .ok (.ifCond .lt 23, 3) := by decide +kernel
theorem dX3_isSlot_4 : decode cX3_isSlot 4 = .ok (.iload_n 1, 1) := by decide +kernel
theorem dX3_isSlot_5 : decode cX3_isSlot 5 = .ok (.sipush 240, 3) := by decide +kernel
theorem dX3_isSlot_8 : decode cX3_isSlot 8 = .ok (.if_icmp .ge 16, 3) := by decide +kernel
theorem dX3_isSlot_11 : decode cX3_isSlot 11 = .ok (.aload_n 0, 1) := by decide +kernel
theorem dX3_isSlot_12 : decode cX3_isSlot 12 = .ok (.getfield 9, 3) := by decide +kernel
theorem dX3_isSlot_15 : decode cX3_isSlot 15 = .ok (.iload_n 1, 1) := by decide +kernel
theorem dX3_isSlot_16 : decode cX3_isSlot 16 = .ok (.baload, 1) := by decide +kernel
theorem dX3_isSlot_17 : decode cX3_isSlot 17 = .ok (.ifCond .eq 7, 3) := by decide +kernel
theorem dX3_isSlot_20 : decode cX3_isSlot 20 = .ok (.iconst 1, 1) := by decide +kernel
theorem dX3_isSlot_21 : decode cX3_isSlot 21 = .ok (.goto 4, 3) := by decide +kernel
theorem dX3_isSlot_24 : decode cX3_isSlot 24 = .ok (.iconst 0, 1) := by decide +kernel
theorem dX3_isSlot_25 : decode cX3_isSlot 25 = .ok (.ireturn, 1) := by decide +kernel
theorem dX3_setRate_0 : decode cX3_setRate 0 = .ok (.iload_n 1, 1) := by decide +kernel
theorem dX3_setRate_1 : decode cX3_setRate 1 = .ok (.bipush 15, 2) := by decide +kernel
theorem dX3_setRate_3 : decode cX3_setRate 3 = .ok (.imul, 1) := by decide +kernel
theorem dX3_setRate_4 : decode cX3_setRate 4 = .ok (.istore_n 3, 1) := by decide +kernel
theorem dX3_setRate_5 : decode cX3_setRate 5 = .ok (.iconst 0, 1) := by decide +kernel
theorem dX3_setRate_6 : decode cX3_setRate 6 = .ok (.istore 4, 2) := by decide +kernel
theorem dX3_setRate_8 : decode cX3_setRate 8 = .ok (.iload 4, 2) := by decide +kernel
theorem dX3_setRate_10 : decode cX3_setRate 10 = .ok (.bipush 15, 2) := by decide +kernel
theorem dX3_setRate_12 : decode cX3_setRate 12 = .ok (.if_icmp .ge 24, 3) := by decide +kernel
theorem dX3_setRate_15 : decode cX3_setRate 15 = .ok (.aload_n 0, 1) := by decide +kernel
theorem dX3_setRate_16 : decode cX3_setRate 16 = .ok (.getfield 9, 3) := by decide +kernel
theorem dX3_setRate_19 : decode cX3_setRate 19 = .ok (.iload_n 3, 1) := by decide +kernel
theorem dX3_setRate_20 : decode cX3_setRate 20 = .ok (.iload 4, 2) := by decide +kernel
theorem dX3_setRate_22 : decode cX3_setRate 22 = .ok (.iadd, 1) := by decide +kernel
theorem dX3_setRate_23 : decode cX3_setRate 23 = .ok (.iload 4, 2) := by decide +kernel
theorem dX3_setRate_25 : decode cX3_setRate 25 = .ok (.iload_n 2, 1) := by decide +kernel
theorem dX3_setRate_26 : decode cX3_setRate 26 = .ok (.invokestatic 32, 3) := by decide +kernel
theorem dX3_setRate_29 : decode cX3_setRate 29 = .ok (.bastore, 1) := by decide +kernel
theorem dX3_setRate_30 : decode cX3_setRate 30 = .ok (.iinc 4 1, 3) := by decide +kernel
theorem dX3_setRate_33 : decode cX3_setRate 33 = .ok (.goto (-25), 3) := by decide +kernel
theorem dX3_setRate_36 : decode cX3_setRate 36 = .ok (.return_, 1) := by decide +kernel
end
section
theorem dX4_airborne_0 : decode cX4_airborne 0 = .ok (.aload_n 0, 1) := by decide +kernel
theorem dX4_airborne_1 : decode cX4_airborne 1 = .ok (.iload_n 1, 1) := by decide +kernel
theorem dX4_airborne_2 : decode cX4_airborne 2 = .ok (.invokevirtual 87, 3) := by decide +kernel
theorem dX4_airborne_5 : decode cX4_airborne 5 = .ok (.aload_n 0, 1) := by decide +kernel
theorem dX4_airborne_6 : decode cX4_airborne 6 = .ok (.getfield 19, 3) := by decide +kernel
theorem dX4_airborne_9 : decode cX4_airborne 9 = .ok (.getfield 119, 3) := by decide +kernel
theorem dX4_airborne_12 : decode cX4_airborne 12 = .ok (.iload_n 1, 1) := by decide +kernel
theorem dX4_airborne_13 : decode cX4_airborne 13 = .ok (.baload, 1) := by decide +kernel
theorem dX4_airborne_14 : decode cX4_airborne 14 = .ok (.ifCond .ne 16, 3) := by decide +kernel
theorem dX4_airborne_17 : decode cX4_airborne 17 = .ok (.aload_n 0, 1) := by decide +kernel
theorem dX4_airborne_18 : decode cX4_airborne 18 = .ok (.getfield 19, 3) := by decide +kernel
theorem dX4_airborne_21 : decode cX4_airborne 21 = .ok (.getfield 90, 3) := by decide +kernel
theorem dX4_airborne_24 : decode cX4_airborne 24 = .ok (.iload_n 1, 1) := by decide +kernel
theorem dX4_airborne_25 : decode cX4_airborne 25 = .ok (.iaload, 1) := by decide +kernel
theorem dX4_airborne_26 : decode cX4_airborne 26 = .ok (.iconst (-1), 1) := by decide +kernel
theorem dX4_airborne_27 : decode cX4_airborne 27 = .ok (.if_icmp .ne 13, 3) := by decide +kernel
theorem dX4_airborne_30 : decode cX4_airborne 30 = .ok (.new 50, 3) := by decide +kernel
theorem dX4_airborne_33 : decode cX4_airborne 33 = .ok (.dup, 1) := by decide +kernel
theorem dX4_airborne_34 : decode cX4_airborne 34 = .ok (.ldc 122, 2) := by decide +kernel
theorem dX4_airborne_36 : decode cX4_airborne 36 = .ok (.invokespecial 54, 3) := by decide +kernel
theorem dX4_airborne_39 : decode cX4_airborne 39 = .ok (.athrow, 1) := by decide +kernel
theorem dX4_airborne_40 : decode cX4_airborne 40 = .ok (.aload_n 0, 1) := by decide +kernel
theorem dX4_airborne_41 : decode cX4_airborne 41 = .ok (.getfield 19, 3) := by decide +kernel
theorem dX4_airborne_44 : decode cX4_airborne 44 = .ok (.getfield 119, 3) := by decide +kernel
theorem dX4_airborne_47 : decode cX4_airborne 47 = .ok (.iload_n 1, 1) := by decide +kernel
theorem dX4_airborne_48 : decode cX4_airborne 48 = .ok (.iconst 1, 1) := by decide +kernel
theorem dX4_airborne_49 : decode cX4_airborne 49 = .ok (.bastore, 1) := by decide +kernel
theorem dX4_airborne_50 : decode cX4_airborne 50 = .ok (.return_, 1) := by decide +kernel
theorem dX4_cancel_0 : decode cX4_cancel 0 = .ok (.aload_n 0, 1) := by decide +kernel
theorem dX4_cancel_1 : decode cX4_cancel 1 = .ok (.iload_n 1, 1) := by decide +kernel
theorem dX4_cancel_2 : decode cX4_cancel 2 = .ok (.invokevirtual 87, 3) := by decide +kernel
theorem dX4_cancel_5 : decode cX4_cancel 5 = .ok (.aload_n 0, 1) := by decide +kernel
theorem dX4_cancel_6 : decode cX4_cancel 6 = .ok (.iload_n 1, 1) := by decide +kernel
theorem dX4_cancel_7 : decode cX4_cancel 7 = .ok (.invokevirtual 106, 3) := by decide +kernel
theorem dX4_cancel_10 : decode cX4_cancel 10 = .ok (.aload_n 0, 1) := by decide +kernel
theorem dX4_cancel_11 : decode cX4_cancel 11 = .ok (.getfield 19, 3) := by decide +kernel
theorem dX4_cancel_14 : decode cX4_cancel 14 = .ok (.getfield 115, 3) := by decide +kernel
theorem dX4_cancel_17 : decode cX4_cancel 17 = .ok (.iload_n 1, 1) := by decide +kernel
theorem dX4_cancel_18 : decode cX4_cancel 18 = .ok (.iconst 1, 1) := by decide +kernel
theorem dX4_cancel_19 : decode cX4_cancel 19 = .ok (.bastore, 1) := by decide +kernel
theorem dX4_cancel_20 : decode cX4_cancel 20 = .ok (.aload_n 0, 1) := by decide +kernel
theorem dX4_cancel_21 : decode cX4_cancel 21 = .ok (.getfield 19, 3) := by decide +kernel
theorem dX4_cancel_24 : decode cX4_cancel 24 = .ok (.getfield 90, 3) := by decide +kernel
theorem dX4_cancel_27 : decode cX4_cancel 27 = .ok (.iload_n 1, 1) := by decide +kernel
theorem dX4_cancel_28 : decode cX4_cancel 28 = .ok (.iaload, 1) := by decide +kernel
theorem dX4_cancel_29 : decode cX4_cancel 29 = .ok (.iconst (-1), 1) := by decide +kernel
theorem dX4_cancel_30 : decode cX4_cancel 30 = .ok (.if_icmp .ne 5, 3) := by decide +kernel
theorem dX4_cancel_33 : decode cX4_cancel 33 = .ok (.iconst 0, 1) := by decide +kernel
theorem dX4_cancel_34 : decode cX4_cancel 34 = .ok (.ireturn, 1) := by decide +kernel
theorem dX4_cancel_35 : decode cX4_cancel 35 = .ok (.aload_n 0, 1) := by decide +kernel
theorem dX4_cancel_36 : decode cX4_cancel 36 = .ok (.iload_n 1, 1) := by decide +kernel
theorem dX4_cancel_37 : decode cX4_cancel 37 = .ok (.iconst 5, 1) := by decide +kernel
theorem dX4_cancel_38 : decode cX4_cancel 38 = .ok (.invokevirtual 112, 3) := by decide +kernel
theorem dX4_cancel_41 : decode cX4_cancel 41 = .ok (.iconst 1, 1) := by decide +kernel
theorem dX4_cancel_42 : decode cX4_cancel 42 = .ok (.ireturn, 1) := by decide +kernel
theorem dX4_carryOutIfPossible_0 : decode cX4_carryOutIfPossible 0 = .ok (.aload_n 0, 1) := by decide +kernel
theorem dX4_carryOutIfPossible_1 : decode cX4_carryOutIfPossible 1 = .ok (.getfield 26, 3) := by decide +kernel
theorem dX4_carryOutIfPossible_4 : decode cX4_carryOutIfPossible 4 = .ok (.getfield 237, 3) := by decide +kernel
theorem dX4_carryOutIfPossible_7 : decode cX4_carryOutIfPossible 7 = .ok (.iload_n 1, 1) := by decide +kernel
theorem dX4_carryOutIfPossible_8 : decode cX4_carryOutIfPossible 8 = .ok (.iaload, 1) := by decide +kernel
theorem dX4_carryOutIfPossible_9 : decode cX4_carryOutIfPossible 9 = .ok (.istore_n 2, 1) := by decide +kernel
theorem dX4_carryOutIfPossible_10 : decode cX4_carryOutIfPossible 10 = .ok (.aload_n 0, 1) := by decide +kernel
theorem dX4_carryOutIfPossible_11 : decode cX4_carryOutIfPossible 11 = .ok (.getfield 26, 3) := by decide +kernel
theorem dX4_carryOutIfPossible_14 : decode cX4_carryOutIfPossible 14 = .ok (.getfield 240, 3) := by decide +kernel
theorem dX4_carryOutIfPossible_17 : decode cX4_carryOutIfPossible 17 = .ok (.iload_n 1, 1) := by decide +kernel
theorem dX4_carryOutIfPossible_18 : decode cX4_carryOutIfPossible 18 = .ok (.iaload, 1) := by decide +kernel
theorem dX4_carryOutIfPossible_19 : decode cX4_carryOutIfPossible 19 = .ok (.istore_n 3, 1) := by decide +kernel
theorem dX4_carryOutIfPossible_20 : decode cX4_carryOutIfPossible 20 = .ok (.aload_n 0, 1) := by decide +kernel
theorem dX4_carryOutIfPossible_21 : decode cX4_carryOutIfPossible 21 = .ok (.getfield 12, 3) := by decide +kernel
theorem dX4_carryOutIfPossible_24 : decode cX4_carryOutIfPossible 24 = .ok (.getfield 97, 3) := by decide +kernel
theorem dX4_carryOutIfPossible_27 : decode cX4_carryOutIfPossible 27 = .ok (.iload_n 3, 1) := by decide +kernel
theorem dX4_carryOutIfPossible_28 : decode cX4_carryOutIfPossible 28 = .ok (.iaload, 1) := by decide +kernel
theorem dX4_carryOutIfPossible_29 : decode cX4_carryOutIfPossible 29 = .ok (.iconst (-1), 1) := by decide +kernel
theorem dX4_carryOutIfPossible_30 : decode cX4_carryOutIfPossible 30 = .ok (.if_icmp .ne 16, 3) := by decide +kernel
theorem dX4_carryOutIfPossible_33 : decode cX4_carryOutIfPossible 33 = .ok (.aload_n 0, 1) := by decide +kernel
theorem dX4_carryOutIfPossible_34 : decode cX4_carryOutIfPossible 34 = .ok (.iload_n 1, 1) := by decide +kernel
theorem dX4_carryOutIfPossible_35 : decode cX4_carryOutIfPossible 35 = .ok (.invokevirtual 247, 3) := by decide +kernel
theorem dX4_carryOutIfPossible_38 : decode cX4_carryOutIfPossible 38 = .ok (.aload_n 0, 1) := by decide +kernel
theorem dX4_carryOutIfPossible_39 : decode cX4_carryOutIfPossible 39 = .ok (.iload_n 2, 1) := by decide +kernel
theorem dX4_carryOutIfPossible_40 : decode cX4_carryOutIfPossible 40 = .ok (.iload_n 3, 1) := by decide +kernel
theorem dX4_carryOutIfPossible_41 : decode cX4_carryOutIfPossible 41 = .ok (.invokevirtual 250, 3) := by decide +kernel
theorem dX4_carryOutIfPossible_44 : decode cX4_carryOutIfPossible 44 = .ok (.iconst 1, 1) := by decide +kernel
theorem dX4_carryOutIfPossible_45 : decode cX4_carryOutIfPossible 45 = .ok (.ireturn, 1) := by decide +kernel
theorem dX4_carryOutIfPossible_46 : decode cX4_carryOutIfPossible 46 = .ok (.aload_n 0, 1) := by decide +kernel
theorem dX4_carryOutIfPossible_47 : decode cX4_carryOutIfPossible 47 = .ok (.iload_n 1, 1) := by decide +kernel
theorem dX4_carryOutIfPossible_48 : decode cX4_carryOutIfPossible 48 = .ok (.invokevirtual 253, 3) := by decide +kernel
theorem dX4_carryOutIfPossible_51 : decode cX4_carryOutIfPossible 51 = .ok (.istore 4, 2) := by decide +kernel
theorem dX4_carryOutIfPossible_53 : decode cX4_carryOutIfPossible 53 = .ok (.iload 4, 2) := by decide +kernel
theorem dX4_carryOutIfPossible_55 : decode cX4_carryOutIfPossible 55 = .ok (.iconst (-1), 1) := by decide +kernel
theorem dX4_carryOutIfPossible_56 : decode cX4_carryOutIfPossible 56 = .ok (.if_icmp .ne 5, 3) := by decide +kernel
theorem dX4_carryOutIfPossible_59 : decode cX4_carryOutIfPossible 59 = .ok (.iconst 0, 1) := by decide +kernel
theorem dX4_carryOutIfPossible_60 : decode cX4_carryOutIfPossible 60 = .ok (.ireturn, 1) := by decide +kernel
theorem dX4_carryOutIfPossible_61 : decode cX4_carryOutIfPossible 61 = .ok (.aload_n 0, 1) := by decide +kernel
theorem dX4_carryOutIfPossible_62 : decode cX4_carryOutIfPossible 62 = .ok (.iload_n 1, 1) := by decide +kernel
theorem dX4_carryOutIfPossible_63 : decode cX4_carryOutIfPossible 63 = .ok (.invokevirtual 247, 3) := by decide +kernel
theorem dX4_carryOutIfPossible_66 : decode cX4_carryOutIfPossible 66 = .ok (.aload_n 0, 1) := by decide +kernel
theorem dX4_carryOutIfPossible_67 : decode cX4_carryOutIfPossible 67 = .ok (.iload 4, 2) := by decide +kernel
theorem dX4_carryOutIfPossible_69 : decode cX4_carryOutIfPossible 69 = .ok (.invokevirtual 247, 3) := by decide +kernel
theorem dX4_carryOutIfPossible_72 : decode cX4_carryOutIfPossible 72 = .ok (.aload_n 0, 1) := by decide +kernel
theorem dX4_carryOutIfPossible_73 : decode cX4_carryOutIfPossible 73 = .ok (.iload_n 2, 1) := by decide +kernel
theorem dX4_carryOutIfPossible_74 : decode cX4_carryOutIfPossible 74 = .ok (.iload_n 3, 1) := by decide +kernel
theorem dX4_carryOutIfPossible_75 : decode cX4_carryOutIfPossible 75 = .ok (.invokevirtual 250, 3) := by decide +kernel
theorem dX4_carryOutIfPossible_78 : decode cX4_carryOutIfPossible 78 = .ok (.iconst 2, 1) := by decide +kernel
theorem dX4_carryOutIfPossible_79 : decode cX4_carryOutIfPossible 79 = .ok (.ireturn, 1) := by decide +kernel
theorem dX4_checkAirline_0 : decode cX4_checkAirline 0 = .ok (.iload_n 1, 1) := by decide +kernel
theorem dX4_checkAirline_1 : decode cX4_checkAirline 1 = .ok (.ifCond .lt 9, 3) := by decide +kernel
theorem dX4_checkAirline_4 : decode cX4_checkAirline 4 = .ok (.iload_n 1, 1) := by decide +kernel
theorem dX4_checkAirline_5 : decode cX4_checkAirline 5 = .ok (.bipush 8, 2) := by decide +kernel
theorem dX4_checkAirline_7 : decode cX4_checkAirline 7 = .ok (.if_icmp .lt 13, 3) := by decide +kernel
theorem dX4_checkAirline_10 : decode cX4_checkAirline 10 = .ok (.new 37, 3) := by decide +kernel
theorem dX4_checkAirline_13 : decode cX4_checkAirline 13 = .ok (.dup, 1) := by decide +kernel
theorem dX4_checkAirline_14 : decode cX4_checkAirline 14 = .ok (.ldc 204, 2) := by decide +kernel
theorem dX4_checkAirline_16 : decode cX4_checkAirline 16 = .ok (.invokespecial 41, 3) := by decide +kernel
theorem dX4_checkAirline_19 : decode cX4_checkAirline 19 = .ok (.athrow, 1) := by decide +kernel
theorem dX4_checkAirline_20 : decode cX4_checkAirline 20 = .ok (.return_, 1) := by decide +kernel
theorem dX4_checkAirlineOrNone_0 : decode cX4_checkAirlineOrNone 0 = .ok (.iload_n 1, 1) := by decide +kernel
theorem dX4_checkAirlineOrNone_1 : decode cX4_checkAirlineOrNone 1 = .ok (.iconst (-1), 1) := by decide +kernel
theorem dX4_checkAirlineOrNone_2 : decode cX4_checkAirlineOrNone 2 = .ok (.if_icmp .eq 8, 3) := by decide +kernel
theorem dX4_checkAirlineOrNone_5 : decode cX4_checkAirlineOrNone 5 = .ok (.aload_n 0, 1) := by decide +kernel
theorem dX4_checkAirlineOrNone_6 : decode cX4_checkAirlineOrNone 6 = .ok (.iload_n 1, 1) := by decide +kernel
theorem dX4_checkAirlineOrNone_7 : decode cX4_checkAirlineOrNone 7 = .ok (.invokevirtual 63, 3) := by decide +kernel
theorem dX4_checkAirlineOrNone_10 : decode cX4_checkAirlineOrNone 10 = .ok (.return_, 1) := by decide +kernel
theorem dX4_checkFlight_0 : decode cX4_checkFlight 0 = .ok (.iload_n 1, 1) := by decide +kernel
theorem dX4_checkFlight_1 : decode cX4_checkFlight 1 = .ok (.ifCond .lt 14, 3) := by decide +kernel
theorem dX4_checkFlight_4 : decode cX4_checkFlight 4 = .ok (.iload_n 1, 1) := by decide +kernel
theorem dX4_checkFlight_5 : decode cX4_checkFlight 5 = .ok (.aload_n 0, 1) := by decide +kernel
theorem dX4_checkFlight_6 : decode cX4_checkFlight 6 = .ok (.getfield 19, 3) := by decide +kernel
theorem dX4_checkFlight_9 : decode cX4_checkFlight 9 = .ok (.getfield 77, 3) := by decide +kernel
theorem dX4_checkFlight_12 : decode cX4_checkFlight 12 = .ok (.if_icmp .lt 13, 3) := by decide +kernel
theorem dX4_checkFlight_15 : decode cX4_checkFlight 15 = .ok (.new 37, 3) := by decide +kernel
theorem dX4_checkFlight_18 : decode cX4_checkFlight 18 = .ok (.dup, 1) := by decide +kernel
theorem dX4_checkFlight_19 : decode cX4_checkFlight 19 = .ok (.ldc 202, 2) := by decide +kernel
theorem dX4_checkFlight_21 : decode cX4_checkFlight 21 = .ok (.invokespecial 41, 3) := by decide +kernel
theorem dX4_checkFlight_24 : decode cX4_checkFlight 24 = .ok (.athrow, 1) := by decide +kernel
theorem dX4_checkFlight_25 : decode cX4_checkFlight 25 = .ok (.return_, 1) := by decide +kernel
theorem dX4_checkPlannable_0 : decode cX4_checkPlannable 0 = .ok (.aload_n 0, 1) := by decide +kernel
theorem dX4_checkPlannable_1 : decode cX4_checkPlannable 1 = .ok (.getfield 19, 3) := by decide +kernel
theorem dX4_checkPlannable_4 : decode cX4_checkPlannable 4 = .ok (.iload_n 1, 1) := by decide +kernel
theorem dX4_checkPlannable_5 : decode cX4_checkPlannable 5 = .ok (.invokevirtual 214, 3) := by decide +kernel
theorem dX4_checkPlannable_8 : decode cX4_checkPlannable 8 = .ok (.ifCond .ne 13, 3) := by decide +kernel
theorem dX4_checkPlannable_11 : decode cX4_checkPlannable 11 = .ok (.new 50, 3) := by decide +kernel
theorem dX4_checkPlannable_14 : decode cX4_checkPlannable 14 = .ok (.dup, 1) := by decide +kernel
theorem dX4_checkPlannable_15 : decode cX4_checkPlannable 15 = .ok (.ldc 217, 2) := by decide +kernel
theorem dX4_checkPlannable_17 : decode cX4_checkPlannable 17 = .ok (.invokespecial 54, 3) := by decide +kernel
theorem dX4_checkPlannable_20 : decode cX4_checkPlannable 20 = .ok (.athrow, 1) := by decide +kernel
theorem dX4_checkPlannable_21 : decode cX4_checkPlannable 21 = .ok (.return_, 1) := by decide +kernel
theorem dX4_checkSlot_0 : decode cX4_checkSlot 0 = .ok (.aload_n 0, 1) := by decide +kernel
theorem dX4_checkSlot_1 : decode cX4_checkSlot 1 = .ok (.getfield 12, 3) := by decide +kernel
theorem dX4_checkSlot_4 : decode cX4_checkSlot 4 = .ok (.iload_n 1, 1) := by decide +kernel
theorem dX4_checkSlot_5 : decode cX4_checkSlot 5 = .ok (.invokevirtual 206, 3) := by decide +kernel
theorem dX4_checkSlot_8 : decode cX4_checkSlot 8 = .ok (.ifCond .ne 13, 3) := by decide +kernel
theorem dX4_checkSlot_11 : decode cX4_checkSlot 11 = .ok (.new 209, 3) := by decide +kernel
theorem dX4_checkSlot_14 : decode cX4_checkSlot 14 = .ok (.dup, 1) := by decide +kernel
theorem dX4_checkSlot_15 : decode cX4_checkSlot 15 = .ok (.ldc 211, 2) := by decide +kernel
theorem dX4_checkSlot_17 : decode cX4_checkSlot 17 = .ok (.invokespecial 213, 3) := by decide +kernel
theorem dX4_checkSlot_20 : decode cX4_checkSlot 20 = .ok (.athrow, 1) := by decide +kernel
theorem dX4_checkSlot_21 : decode cX4_checkSlot 21 = .ok (.return_, 1) := by decide +kernel
theorem dX4_clearWhatIsNotFrozen_0 : decode cX4_clearWhatIsNotFrozen 0 = .ok (.iconst 0, 1) := by decide +kernel
theorem dX4_clearWhatIsNotFrozen_1 : decode cX4_clearWhatIsNotFrozen 1 = .ok (.istore_n 1, 1) := by decide +kernel
theorem dX4_clearWhatIsNotFrozen_2 : decode cX4_clearWhatIsNotFrozen 2 = .ok (.iload_n 1, 1) := by decide +kernel
theorem dX4_clearWhatIsNotFrozen_3 : decode cX4_clearWhatIsNotFrozen 3 = .ok (.sipush 240, 3) := by decide +kernel
theorem dX4_clearWhatIsNotFrozen_6 : decode cX4_clearWhatIsNotFrozen 6 = .ok (.if_icmp .ge 37, 3) := by decide +kernel
theorem dX4_clearWhatIsNotFrozen_9 : decode cX4_clearWhatIsNotFrozen 9 = .ok (.aload_n 0, 1) := by decide +kernel
theorem dX4_clearWhatIsNotFrozen_10 : decode cX4_clearWhatIsNotFrozen 10 = .ok (.iload_n 1, 1) := by decide +kernel
theorem dX4_clearWhatIsNotFrozen_11 : decode cX4_clearWhatIsNotFrozen 11 = .ok (.invokevirtual 219, 3) := by decide +kernel
theorem dX4_clearWhatIsNotFrozen_14 : decode cX4_clearWhatIsNotFrozen 14 = .ok (.ifCond .ne 23, 3) := by decide +kernel
theorem dX4_clearWhatIsNotFrozen_17 : decode cX4_clearWhatIsNotFrozen 17 = .ok (.aload_n 0, 1) := by decide +kernel
theorem dX4_clearWhatIsNotFrozen_18 : decode cX4_clearWhatIsNotFrozen 18 = .ok (.getfield 12, 3) := by decide +kernel
theorem dX4_clearWhatIsNotFrozen_21 : decode cX4_clearWhatIsNotFrozen 21 = .ok (.getfield 100, 3) := by decide +kernel
theorem dX4_clearWhatIsNotFrozen_24 : decode cX4_clearWhatIsNotFrozen 24 = .ok (.iload_n 1, 1) := by decide +kernel
theorem dX4_clearWhatIsNotFrozen_25 : decode cX4_clearWhatIsNotFrozen 25 = .ok (.iconst (-1), 1) := by decide +kernel
theorem dX4_clearWhatIsNotFrozen_26 : decode cX4_clearWhatIsNotFrozen 26 = .ok (.iastore, 1) := by decide +kernel
theorem dX4_clearWhatIsNotFrozen_27 : decode cX4_clearWhatIsNotFrozen 27 = .ok (.aload_n 0, 1) := by decide +kernel
theorem dX4_clearWhatIsNotFrozen_28 : decode cX4_clearWhatIsNotFrozen 28 = .ok (.getfield 12, 3) := by decide +kernel
theorem dX4_clearWhatIsNotFrozen_31 : decode cX4_clearWhatIsNotFrozen 31 = .ok (.getfield 97, 3) := by decide +kernel
theorem dX4_clearWhatIsNotFrozen_34 : decode cX4_clearWhatIsNotFrozen 34 = .ok (.iload_n 1, 1) := by decide +kernel
theorem dX4_clearWhatIsNotFrozen_35 : decode cX4_clearWhatIsNotFrozen 35 = .ok (.iconst (-1), 1) := by decide +kernel
theorem dX4_clearWhatIsNotFrozen_36 : decode cX4_clearWhatIsNotFrozen 36 = .ok (.iastore, 1) := by decide +kernel
theorem dX4_clearWhatIsNotFrozen_37 : decode cX4_clearWhatIsNotFrozen 37 = .ok (.iinc 1 1, 3) := by decide +kernel
theorem dX4_clearWhatIsNotFrozen_40 : decode cX4_clearWhatIsNotFrozen 40 = .ok (.goto (-38), 3) := by decide +kernel
theorem dX4_clearWhatIsNotFrozen_43 : decode cX4_clearWhatIsNotFrozen 43 = .ok (.iconst 0, 1) := by decide +kernel
theorem dX4_clearWhatIsNotFrozen_44 : decode cX4_clearWhatIsNotFrozen 44 = .ok (.istore_n 1, 1) := by decide +kernel
theorem dX4_clearWhatIsNotFrozen_45 : decode cX4_clearWhatIsNotFrozen 45 = .ok (.iload_n 1, 1) := by decide +kernel
theorem dX4_clearWhatIsNotFrozen_46 : decode cX4_clearWhatIsNotFrozen 46 = .ok (.aload_n 0, 1) := by decide +kernel
theorem dX4_clearWhatIsNotFrozen_47 : decode cX4_clearWhatIsNotFrozen 47 = .ok (.getfield 19, 3) := by decide +kernel
theorem dX4_clearWhatIsNotFrozen_50 : decode cX4_clearWhatIsNotFrozen 50 = .ok (.getfield 77, 3) := by decide +kernel
theorem dX4_clearWhatIsNotFrozen_53 : decode cX4_clearWhatIsNotFrozen 53 = .ok (.if_icmp .ge 31, 3) := by decide +kernel
theorem dX4_clearWhatIsNotFrozen_56 : decode cX4_clearWhatIsNotFrozen 56 = .ok (.aload_n 0, 1) := by decide +kernel
theorem dX4_clearWhatIsNotFrozen_57 : decode cX4_clearWhatIsNotFrozen 57 = .ok (.getfield 19, 3) := by decide +kernel
theorem dX4_clearWhatIsNotFrozen_60 : decode cX4_clearWhatIsNotFrozen 60 = .ok (.getfield 119, 3) := by decide +kernel
theorem dX4_clearWhatIsNotFrozen_63 : decode cX4_clearWhatIsNotFrozen 63 = .ok (.iload_n 1, 1) := by decide +kernel
theorem dX4_clearWhatIsNotFrozen_64 : decode cX4_clearWhatIsNotFrozen 64 = .ok (.baload, 1) := by decide +kernel
theorem dX4_clearWhatIsNotFrozen_65 : decode cX4_clearWhatIsNotFrozen 65 = .ok (.ifCond .ne 13, 3) := by decide +kernel
theorem dX4_clearWhatIsNotFrozen_68 : decode cX4_clearWhatIsNotFrozen 68 = .ok (.aload_n 0, 1) := by decide +kernel
theorem dX4_clearWhatIsNotFrozen_69 : decode cX4_clearWhatIsNotFrozen 69 = .ok (.getfield 19, 3) := by decide +kernel
theorem dX4_clearWhatIsNotFrozen_72 : decode cX4_clearWhatIsNotFrozen 72 = .ok (.getfield 90, 3) := by decide +kernel
theorem dX4_clearWhatIsNotFrozen_75 : decode cX4_clearWhatIsNotFrozen 75 = .ok (.iload_n 1, 1) := by decide +kernel
theorem dX4_clearWhatIsNotFrozen_76 : decode cX4_clearWhatIsNotFrozen 76 = .ok (.iconst (-1), 1) := by decide +kernel
theorem dX4_clearWhatIsNotFrozen_77 : decode cX4_clearWhatIsNotFrozen 77 = .ok (.iastore, 1) := by decide +kernel
theorem dX4_clearWhatIsNotFrozen_78 : decode cX4_clearWhatIsNotFrozen 78 = .ok (.iinc 1 1, 3) := by decide +kernel
theorem dX4_clearWhatIsNotFrozen_81 : decode cX4_clearWhatIsNotFrozen 81 = .ok (.goto (-36), 3) := by decide +kernel
theorem dX4_clearWhatIsNotFrozen_84 : decode cX4_clearWhatIsNotFrozen 84 = .ok (.return_, 1) := by decide +kernel
theorem dX4_compress_0 : decode cX4_compress 0 = .ok (.iconst 0, 1) := by decide +kernel
theorem dX4_compress_1 : decode cX4_compress 1 = .ok (.istore_n 1, 1) := by decide +kernel
theorem dX4_compress_2 : decode cX4_compress 2 = .ok (.iconst 0, 1) := by decide +kernel
theorem dX4_compress_3 : decode cX4_compress 3 = .ok (.istore_n 2, 1) := by decide +kernel
theorem dX4_compress_4 : decode cX4_compress 4 = .ok (.iload_n 2, 1) := by decide +kernel
theorem dX4_compress_5 : decode cX4_compress 5 = .ok (.sipush 240, 3) := by decide +kernel
theorem dX4_compress_8 : decode cX4_compress 8 = .ok (.if_icmp .ge 29, 3) := by decide +kernel
theorem dX4_compress_11 : decode cX4_compress 11 = .ok (.aload_n 0, 1) := by decide +kernel
theorem dX4_compress_12 : decode cX4_compress 12 = .ok (.iload_n 2, 1) := by decide +kernel
theorem dX4_compress_13 : decode cX4_compress 13 = .ok (.invokevirtual 163, 3) := by decide +kernel
theorem dX4_compress_16 : decode cX4_compress 16 = .ok (.istore_n 3, 1) := by decide +kernel
theorem dX4_compress_17 : decode cX4_compress 17 = .ok (.iload_n 3, 1) := by decide +kernel
theorem dX4_compress_18 : decode cX4_compress 18 = .ok (.iconst (-1), 1) := by decide +kernel
theorem dX4_compress_19 : decode cX4_compress 19 = .ok (.if_icmp .eq 12, 3) := by decide +kernel
theorem dX4_compress_22 : decode cX4_compress 22 = .ok (.aload_n 0, 1) := by decide +kernel
theorem dX4_compress_23 : decode cX4_compress 23 = .ok (.iload_n 3, 1) := by decide +kernel
theorem dX4_compress_24 : decode cX4_compress 24 = .ok (.iload_n 2, 1) := by decide +kernel
theorem dX4_compress_25 : decode cX4_compress 25 = .ok (.invokevirtual 166, 3) := by decide +kernel
theorem dX4_compress_28 : decode cX4_compress 28 = .ok (.iinc 1 1, 3) := by decide +kernel
theorem dX4_compress_31 : decode cX4_compress 31 = .ok (.iinc 2 1, 3) := by decide +kernel
theorem dX4_compress_34 : decode cX4_compress 34 = .ok (.goto (-30), 3) := by decide +kernel
theorem dX4_compress_37 : decode cX4_compress 37 = .ok (.iload_n 1, 1) := by decide +kernel
theorem dX4_compress_38 : decode cX4_compress 38 = .ok (.ireturn, 1) := by decide +kernel
theorem dX4_contentCanUse_0 : decode cX4_contentCanUse 0 = .ok (.aload_n 0, 1) := by decide +kernel
theorem dX4_contentCanUse_1 : decode cX4_contentCanUse 1 = .ok (.getfield 12, 3) := by decide +kernel
theorem dX4_contentCanUse_4 : decode cX4_contentCanUse 4 = .ok (.getfield 100, 3) := by decide +kernel
theorem dX4_contentCanUse_7 : decode cX4_contentCanUse 7 = .ok (.iload_n 1, 1) := by decide +kernel
theorem dX4_contentCanUse_8 : decode cX4_contentCanUse 8 = .ok (.iaload, 1) := by decide +kernel
theorem dX4_contentCanUse_9 : decode cX4_contentCanUse 9 = .ok (.istore_n 3, 1) := by decide +kernel
theorem dX4_contentCanUse_10 : decode cX4_contentCanUse 10 = .ok (.iload_n 3, 1) := by decide +kernel
theorem dX4_contentCanUse_11 : decode cX4_contentCanUse 11 = .ok (.iconst (-1), 1) := by decide +kernel
theorem dX4_contentCanUse_12 : decode cX4_contentCanUse 12 = .ok (.if_icmp .eq 15, 3) := by decide +kernel
theorem dX4_contentCanUse_15 : decode cX4_contentCanUse 15 = .ok (.aload_n 0, 1) := by decide +kernel
theorem dX4_contentCanUse_16 : decode cX4_contentCanUse 16 = .ok (.getfield 19, 3) := by decide +kernel
theorem dX4_contentCanUse_19 : decode cX4_contentCanUse 19 = .ok (.iload_n 3, 1) := by decide +kernel
theorem dX4_contentCanUse_20 : decode cX4_contentCanUse 20 = .ok (.iload_n 2, 1) := by decide +kernel
theorem dX4_contentCanUse_21 : decode cX4_contentCanUse 21 = .ok (.invokevirtual 109, 3) := by decide +kernel
theorem dX4_contentCanUse_24 : decode cX4_contentCanUse 24 = .ok (.ifCond .eq 7, 3) := by decide +kernel
theorem dX4_contentCanUse_27 : decode cX4_contentCanUse 27 = .ok (.iconst 1, 1) := by decide +kernel
theorem dX4_contentCanUse_28 : decode cX4_contentCanUse 28 = .ok (.goto 4, 3) := by decide +kernel
theorem dX4_contentCanUse_31 : decode cX4_contentCanUse 31 = .ok (.iconst 0, 1) := by decide +kernel
theorem dX4_contentCanUse_32 : decode cX4_contentCanUse 32 = .ok (.ireturn, 1) := by decide +kernel
theorem dX4_couldMove_0 : decode cX4_couldMove 0 = .ok (.aload_n 0, 1) := by decide +kernel
theorem dX4_couldMove_1 : decode cX4_couldMove 1 = .ok (.getfield 19, 3) := by decide +kernel
theorem dX4_couldMove_4 : decode cX4_couldMove 4 = .ok (.getfield 119, 3) := by decide +kernel
theorem dX4_couldMove_7 : decode cX4_couldMove 7 = .ok (.iload_n 1, 1) := by decide +kernel
theorem dX4_couldMove_8 : decode cX4_couldMove 8 = .ok (.baload, 1) := by decide +kernel
theorem dX4_couldMove_9 : decode cX4_couldMove 9 = .ok (.ifCond .ne 19, 3) := by decide +kernel
theorem dX4_couldMove_12 : decode cX4_couldMove 12 = .ok (.aload_n 0, 1) := by decide +kernel
theorem dX4_couldMove_13 : decode cX4_couldMove 13 = .ok (.getfield 19, 3) := by decide +kernel
theorem dX4_couldMove_16 : decode cX4_couldMove 16 = .ok (.iload_n 1, 1) := by decide +kernel
theorem dX4_couldMove_17 : decode cX4_couldMove 17 = .ok (.iload_n 2, 1) := by decide +kernel
theorem dX4_couldMove_18 : decode cX4_couldMove 18 = .ok (.invokevirtual 109, 3) := by decide +kernel
theorem dX4_couldMove_21 : decode cX4_couldMove 21 = .ok (.ifCond .eq 7, 3) := by decide +kernel
theorem dX4_couldMove_24 : decode cX4_couldMove 24 = .ok (.iconst 1, 1) := by decide +kernel
theorem dX4_couldMove_25 : decode cX4_couldMove 25 = .ok (.goto 4, 3) := by decide +kernel
theorem dX4_couldMove_28 : decode cX4_couldMove 28 = .ok (.iconst 0, 1) := by decide +kernel
theorem dX4_couldMove_29 : decode cX4_couldMove 29 = .ok (.ireturn, 1) := by decide +kernel
theorem dX4_delay_0 : decode cX4_delay 0 = .ok (.aload_n 0, 1) := by decide +kernel
theorem dX4_delay_1 : decode cX4_delay 1 = .ok (.iload_n 1, 1) := by decide +kernel
theorem dX4_delay_2 : decode cX4_delay 2 = .ok (.invokevirtual 175, 3) := by decide +kernel
theorem dX4_delay_5 : decode cX4_delay 5 = .ok (.iconst 0, 1) := by decide +kernel
theorem dX4_delay_6 : decode cX4_delay 6 = .ok (.istore_n 2, 1) := by decide +kernel
theorem dX4_delay_7 : decode cX4_delay 7 = .ok (.iconst 0, 1) := by decide +kernel
theorem dX4_delay_8 : decode cX4_delay 8 = .ok (.istore_n 3, 1) := by decide +kernel
theorem dX4_delay_9 : decode cX4_delay 9 = .ok (.iload_n 3, 1) := by decide +kernel
theorem dX4_delay_10 : decode cX4_delay 10 = .ok (.aload_n 0, 1) := by decide +kernel
theorem dX4_delay_11 : decode cX4_delay 11 = .ok (.getfield 19, 3) := by decide +kernel
theorem dX4_delay_14 : decode cX4_delay 14 = .ok (.getfield 77, 3) := by decide +kernel
theorem dX4_delay_17 : decode cX4_delay 17 = .ok (.if_icmp .ge 74, 3) := by decide +kernel
theorem dX4_delay_20 : decode cX4_delay 20 = .ok (.iload_n 1, 1) := by decide +kernel
theorem dX4_delay_21 : decode cX4_delay 21 = .ok (.iconst (-1), 1) := by decide +kernel
theorem dX4_delay_22 : decode cX4_delay 22 = .ok (.if_icmp .eq 16, 3) := by decide +kernel
theorem dX4_delay_25 : decode cX4_delay 25 = .ok (.aload_n 0, 1) := by decide +kernel
theorem dX4_delay_26 : decode cX4_delay 26 = .ok (.getfield 19, 3) := by decide +kernel
theorem dX4_delay_29 : decode cX4_delay 29 = .ok (.getfield 124, 3) := by decide +kernel
theorem dX4_delay_32 : decode cX4_delay 32 = .ok (.iload_n 3, 1) := by decide +kernel
theorem dX4_delay_33 : decode cX4_delay 33 = .ok (.iaload, 1) := by decide +kernel
theorem dX4_delay_34 : decode cX4_delay 34 = .ok (.iload_n 1, 1) := by decide +kernel
theorem dX4_delay_35 : decode cX4_delay 35 = .ok (.if_icmp .ne 7, 3) := by decide +kernel
theorem dX4_delay_38 : decode cX4_delay 38 = .ok (.iconst 1, 1) := by decide +kernel
theorem dX4_delay_39 : decode cX4_delay 39 = .ok (.goto 4, 3) := by decide +kernel
theorem dX4_delay_42 : decode cX4_delay 42 = .ok (.iconst 0, 1) := by decide +kernel
theorem dX4_delay_43 : decode cX4_delay 43 = .ok (.istore 4, 2) := by decide +kernel
theorem dX4_delay_45 : decode cX4_delay 45 = .ok (.iload 4, 2) := by decide +kernel
theorem dX4_delay_47 : decode cX4_delay 47 = .ok (.ifCond .eq 38, 3) := by decide +kernel
theorem dX4_delay_50 : decode cX4_delay 50 = .ok (.aload_n 0, 1) := by decide +kernel
theorem dX4_delay_51 : decode cX4_delay 51 = .ok (.getfield 19, 3) := by decide +kernel
theorem dX4_delay_54 : decode cX4_delay 54 = .ok (.getfield 90, 3) := by decide +kernel
theorem dX4_delay_57 : decode cX4_delay 57 = .ok (.iload_n 3, 1) := by decide +kernel
theorem dX4_delay_58 : decode cX4_delay 58 = .ok (.iaload, 1) := by decide +kernel
theorem dX4_delay_59 : decode cX4_delay 59 = .ok (.iconst (-1), 1) := by decide +kernel
theorem dX4_delay_60 : decode cX4_delay 60 = .ok (.if_icmp .eq 25, 3) := by decide +kernel
theorem dX4_delay_63 : decode cX4_delay 63 = .ok (.iload_n 2, 1) := by decide +kernel
theorem dX4_delay_64 : decode cX4_delay 64 = .ok (.aload_n 0, 1) := by decide +kernel
theorem dX4_delay_65 : decode cX4_delay 65 = .ok (.getfield 19, 3) := by decide +kernel
theorem dX4_delay_68 : decode cX4_delay 68 = .ok (.getfield 90, 3) := by decide +kernel
theorem dX4_delay_71 : decode cX4_delay 71 = .ok (.iload_n 3, 1) := by decide +kernel
theorem dX4_delay_72 : decode cX4_delay 72 = .ok (.iaload, 1) := by decide +kernel
theorem dX4_delay_73 : decode cX4_delay 73 = .ok (.aload_n 0, 1) := by decide +kernel
theorem dX4_delay_74 : decode cX4_delay 74 = .ok (.getfield 19, 3) := by decide +kernel
theorem dX4_delay_77 : decode cX4_delay 77 = .ok (.getfield 178, 3) := by decide +kernel
theorem dX4_delay_80 : decode cX4_delay 80 = .ok (.iload_n 3, 1) := by decide +kernel
theorem dX4_delay_81 : decode cX4_delay 81 = .ok (.iaload, 1) := by decide +kernel
theorem dX4_delay_82 : decode cX4_delay 82 = .ok (.isub, 1) := by decide +kernel
theorem dX4_delay_83 : decode cX4_delay 83 = .ok (.iadd, 1) := by decide +kernel
theorem dX4_delay_84 : decode cX4_delay 84 = .ok (.istore_n 2, 1) := by decide +kernel
theorem dX4_delay_85 : decode cX4_delay 85 = .ok (.iinc 3 1, 3) := by decide +kernel
theorem dX4_delay_88 : decode cX4_delay 88 = .ok (.goto (-79), 3) := by decide +kernel
theorem dX4_delay_91 : decode cX4_delay 91 = .ok (.iload_n 2, 1) := by decide +kernel
theorem dX4_delay_92 : decode cX4_delay 92 = .ok (.ireturn, 1) := by decide +kernel
theorem dX4_drop_0 : decode cX4_drop 0 = .ok (.iload_n 1, 1) := by decide +kernel
theorem dX4_drop_1 : decode cX4_drop 1 = .ok (.ifCond .lt 14, 3) := by decide +kernel
theorem dX4_drop_4 : decode cX4_drop 4 = .ok (.iload_n 1, 1) := by decide +kernel
theorem dX4_drop_5 : decode cX4_drop 5 = .ok (.aload_n 0, 1) := by decide +kernel
theorem dX4_drop_6 : decode cX4_drop 6 = .ok (.getfield 26, 3) := by decide +kernel
theorem dX4_drop_9 : decode cX4_drop 9 = .ok (.getfield 146, 3) := by decide +kernel
theorem dX4_drop_12 : decode cX4_drop 12 = .ok (.if_icmp .lt 13, 3) := by decide +kernel
theorem dX4_drop_15 : decode cX4_drop 15 = .ok (.new 37, 3) := by decide +kernel
theorem dX4_drop_18 : decode cX4_drop 18 = .ok (.dup, 1) := by decide +kernel
theorem dX4_drop_19 : decode cX4_drop 19 = .ok (.ldc 150, 2) := by decide +kernel
theorem dX4_drop_21 : decode cX4_drop 21 = .ok (.invokespecial 41, 3) := by decide +kernel
theorem dX4_drop_24 : decode cX4_drop 24 = .ok (.athrow, 1) := by decide +kernel
theorem dX4_drop_25 : decode cX4_drop 25 = .ok (.aload_n 0, 1) := by decide +kernel
theorem dX4_drop_26 : decode cX4_drop 26 = .ok (.getfield 26, 3) := by decide +kernel
theorem dX4_drop_29 : decode cX4_drop 29 = .ok (.getfield 152, 3) := by decide +kernel
theorem dX4_drop_32 : decode cX4_drop 32 = .ok (.iload_n 1, 1) := by decide +kernel
theorem dX4_drop_33 : decode cX4_drop 33 = .ok (.baload, 1) := by decide +kernel
theorem dX4_drop_34 : decode cX4_drop 34 = .ok (.istore_n 2, 1) := by decide +kernel
theorem dX4_drop_35 : decode cX4_drop 35 = .ok (.aload_n 0, 1) := by decide +kernel
theorem dX4_drop_36 : decode cX4_drop 36 = .ok (.getfield 26, 3) := by decide +kernel
theorem dX4_drop_39 : decode cX4_drop 39 = .ok (.getfield 152, 3) := by decide +kernel
theorem dX4_drop_42 : decode cX4_drop 42 = .ok (.iload_n 1, 1) := by decide +kernel
theorem dX4_drop_43 : decode cX4_drop 43 = .ok (.iconst 0, 1) := by decide +kernel
theorem dX4_drop_44 : decode cX4_drop 44 = .ok (.bastore, 1) := by decide +kernel
theorem dX4_drop_45 : decode cX4_drop 45 = .ok (.iload_n 2, 1) := by decide +kernel
theorem dX4_drop_46 : decode cX4_drop 46 = .ok (.ireturn, 1) := by decide +kernel
theorem dX4_endAsTraded_0 : decode cX4_endAsTraded 0 = .ok (.aload_n 0, 1) := by decide +kernel
theorem dX4_endAsTraded_1 : decode cX4_endAsTraded 1 = .ok (.getfield 26, 3) := by decide +kernel
theorem dX4_endAsTraded_4 : decode cX4_endAsTraded 4 = .ok (.getfield 237, 3) := by decide +kernel
theorem dX4_endAsTraded_7 : decode cX4_endAsTraded 7 = .ok (.iload_n 1, 1) := by decide +kernel
theorem dX4_endAsTraded_8 : decode cX4_endAsTraded 8 = .ok (.iaload, 1) := by decide +kernel
theorem dX4_endAsTraded_9 : decode cX4_endAsTraded 9 = .ok (.istore_n 2, 1) := by decide +kernel
theorem dX4_endAsTraded_10 : decode cX4_endAsTraded 10 = .ok (.aload_n 0, 1) := by decide +kernel
theorem dX4_endAsTraded_11 : decode cX4_endAsTraded 11 = .ok (.getfield 26, 3) := by decide +kernel
theorem dX4_endAsTraded_14 : decode cX4_endAsTraded 14 = .ok (.getfield 152, 3) := by decide +kernel
theorem dX4_endAsTraded_17 : decode cX4_endAsTraded 17 = .ok (.iload_n 1, 1) := by decide +kernel
theorem dX4_endAsTraded_18 : decode cX4_endAsTraded 18 = .ok (.iconst 0, 1) := by decide +kernel
theorem dX4_endAsTraded_19 : decode cX4_endAsTraded 19 = .ok (.bastore, 1) := by decide +kernel
theorem dX4_endAsTraded_20 : decode cX4_endAsTraded 20 = .ok (.aload_n 0, 1) := by decide +kernel
theorem dX4_endAsTraded_21 : decode cX4_endAsTraded 21 = .ok (.getfield 33, 3) := by decide +kernel
theorem dX4_endAsTraded_24 : decode cX4_endAsTraded 24 = .ok (.iconst 2, 1) := by decide +kernel
theorem dX4_endAsTraded_25 : decode cX4_endAsTraded 25 = .ok (.aload_n 0, 1) := by decide +kernel
theorem dX4_endAsTraded_26 : decode cX4_endAsTraded 26 = .ok (.getfield 12, 3) := by decide +kernel
theorem dX4_endAsTraded_29 : decode cX4_endAsTraded 29 = .ok (.getfield 100, 3) := by decide +kernel
theorem dX4_endAsTraded_32 : decode cX4_endAsTraded 32 = .ok (.iload_n 2, 1) := by decide +kernel
theorem dX4_endAsTraded_33 : decode cX4_endAsTraded 33 = .ok (.iaload, 1) := by decide +kernel
theorem dX4_endAsTraded_34 : decode cX4_endAsTraded 34 = .ok (.iload_n 2, 1) := by decide +kernel
theorem dX4_endAsTraded_35 : decode cX4_endAsTraded 35 = .ok (.aload_n 0, 1) := by decide +kernel
theorem dX4_endAsTraded_36 : decode cX4_endAsTraded 36 = .ok (.getfield 26, 3) := by decide +kernel
theorem dX4_endAsTraded_39 : decode cX4_endAsTraded 39 = .ok (.getfield 240, 3) := by decide +kernel
theorem dX4_endAsTraded_42 : decode cX4_endAsTraded 42 = .ok (.iload_n 1, 1) := by decide +kernel
theorem dX4_endAsTraded_43 : decode cX4_endAsTraded 43 = .ok (.iaload, 1) := by decide +kernel
theorem dX4_endAsTraded_44 : decode cX4_endAsTraded 44 = .ok (.invokevirtual 139, 3) := by decide +kernel
theorem dX4_endAsTraded_47 : decode cX4_endAsTraded 47 = .ok (.return_, 1) := by decide +kernel
theorem dX4_entry_0 : decode cX4_entry 0 = .ok (.iload_n 1, 1) := by decide +kernel
theorem dX4_entry_1 : decode cX4_entry 1 = .ok (.ifCond .lt 14, 3) := by decide +kernel
theorem dX4_entry_4 : decode cX4_entry 4 = .ok (.iload_n 1, 1) := by decide +kernel
theorem dX4_entry_5 : decode cX4_entry 5 = .ok (.aload_n 0, 1) := by decide +kernel
theorem dX4_entry_6 : decode cX4_entry 6 = .ok (.getfield 33, 3) := by decide +kernel
theorem dX4_entry_9 : decode cX4_entry 9 = .ok (.getfield 184, 3) := by decide +kernel
theorem dX4_entry_12 : decode cX4_entry 12 = .ok (.if_icmp .lt 13, 3) := by decide +kernel
theorem dX4_entry_15 : decode cX4_entry 15 = .ok (.new 185, 3) := by decide +kernel
theorem dX4_entry_18 : decode cX4_entry 18 = .ok (.dup, 1) := by decide +kernel
theorem dX4_entry_19 : decode cX4_entry 19 = .ok (.ldc 187, 2) := by decide +kernel
theorem dX4_entry_21 : decode cX4_entry 21 = .ok (.invokespecial 189, 3) := by decide +kernel
theorem dX4_entry_24 : decode cX4_entry 24 = .ok (.athrow, 1) := by decide +kernel
theorem dX4_entry_25 : decode cX4_entry 25 = .ok (.iload_n 2, 1) := by decide +kernel
theorem dX4_entry_26 : decode cX4_entry 26 = .ok (.tableswitch 70 0 3 #[30, 40, 50, 60], 30) := by decide +kernel
theorem dX4_entry_56 : decode cX4_entry 56 = .ok (.aload_n 0, 1) := by decide +kernel
theorem dX4_entry_57 : decode cX4_entry 57 = .ok (.getfield 33, 3) := by decide +kernel
theorem dX4_entry_60 : decode cX4_entry 60 = .ok (.getfield 190, 3) := by decide +kernel
theorem dX4_entry_63 : decode cX4_entry 63 = .ok (.iload_n 1, 1) := by decide +kernel
theorem dX4_entry_64 : decode cX4_entry 64 = .ok (.iaload, 1) := by decide +kernel
theorem dX4_entry_65 : decode cX4_entry 65 = .ok (.ireturn, 1) := by decide +kernel
theorem dX4_entry_66 : decode cX4_entry 66 = .ok (.aload_n 0, 1) := by decide +kernel
theorem dX4_entry_67 : decode cX4_entry 67 = .ok (.getfield 33, 3) := by decide +kernel
theorem dX4_entry_70 : decode cX4_entry 70 = .ok (.getfield 193, 3) := by decide +kernel
theorem dX4_entry_73 : decode cX4_entry 73 = .ok (.iload_n 1, 1) := by decide +kernel
theorem dX4_entry_74 : decode cX4_entry 74 = .ok (.iaload, 1) := by decide +kernel
theorem dX4_entry_75 : decode cX4_entry 75 = .ok (.ireturn, 1) := by decide +kernel
theorem dX4_entry_76 : decode cX4_entry 76 = .ok (.aload_n 0, 1) := by decide +kernel
theorem dX4_entry_77 : decode cX4_entry 77 = .ok (.getfield 33, 3) := by decide +kernel
theorem dX4_entry_80 : decode cX4_entry 80 = .ok (.getfield 194, 3) := by decide +kernel
theorem dX4_entry_83 : decode cX4_entry 83 = .ok (.iload_n 1, 1) := by decide +kernel
theorem dX4_entry_84 : decode cX4_entry 84 = .ok (.iaload, 1) := by decide +kernel
theorem dX4_entry_85 : decode cX4_entry 85 = .ok (.ireturn, 1) := by decide +kernel
theorem dX4_entry_86 : decode cX4_entry 86 = .ok (.aload_n 0, 1) := by decide +kernel
theorem dX4_entry_87 : decode cX4_entry 87 = .ok (.getfield 33, 3) := by decide +kernel
theorem dX4_entry_90 : decode cX4_entry 90 = .ok (.getfield 197, 3) := by decide +kernel
theorem dX4_entry_93 : decode cX4_entry 93 = .ok (.iload_n 1, 1) := by decide +kernel
theorem dX4_entry_94 : decode cX4_entry 94 = .ok (.iaload, 1) := by decide +kernel
theorem dX4_entry_95 : decode cX4_entry 95 = .ok (.ireturn, 1) := by decide +kernel
theorem dX4_entry_96 : decode cX4_entry 96 = .ok (.new 37, 3) := by decide +kernel
theorem dX4_entry_99 : decode cX4_entry 99 = .ok (.dup, 1) := by decide +kernel
theorem dX4_entry_100 : decode cX4_entry 100 = .ok (.ldc 200, 2) := by decide +kernel
theorem dX4_entry_102 : decode cX4_entry 102 = .ok (.invokespecial 41, 3) := by decide +kernel
theorem dX4_entry_105 : decode cX4_entry 105 = .ok (.athrow, 1) := by decide +kernel
theorem dX4_exchange_0 : decode cX4_exchange 0 = .ok (.aload_n 0, 1) := by decide +kernel
theorem dX4_exchange_1 : decode cX4_exchange 1 = .ok (.getfield 12, 3) := by decide +kernel
theorem dX4_exchange_4 : decode cX4_exchange 4 = .ok (.getfield 100, 3) := by decide +kernel
theorem dX4_exchange_7 : decode cX4_exchange 7 = .ok (.iload_n 1, 1) := by decide +kernel
theorem dX4_exchange_8 : decode cX4_exchange 8 = .ok (.iaload, 1) := by decide +kernel
theorem dX4_exchange_9 : decode cX4_exchange 9 = .ok (.istore_n 3, 1) := by decide +kernel
theorem dX4_exchange_10 : decode cX4_exchange 10 = .ok (.aload_n 0, 1) := by decide +kernel
theorem dX4_exchange_11 : decode cX4_exchange 11 = .ok (.getfield 12, 3) := by decide +kernel
theorem dX4_exchange_14 : decode cX4_exchange 14 = .ok (.getfield 97, 3) := by decide +kernel
theorem dX4_exchange_17 : decode cX4_exchange 17 = .ok (.iload_n 1, 1) := by decide +kernel
theorem dX4_exchange_18 : decode cX4_exchange 18 = .ok (.iaload, 1) := by decide +kernel
theorem dX4_exchange_19 : decode cX4_exchange 19 = .ok (.istore 4, 2) := by decide +kernel
theorem dX4_exchange_21 : decode cX4_exchange 21 = .ok (.aload_n 0, 1) := by decide +kernel
theorem dX4_exchange_22 : decode cX4_exchange 22 = .ok (.iload_n 1, 1) := by decide +kernel
theorem dX4_exchange_23 : decode cX4_exchange 23 = .ok (.aload_n 0, 1) := by decide +kernel
theorem dX4_exchange_24 : decode cX4_exchange 24 = .ok (.getfield 12, 3) := by decide +kernel
theorem dX4_exchange_27 : decode cX4_exchange 27 = .ok (.getfield 100, 3) := by decide +kernel
theorem dX4_exchange_30 : decode cX4_exchange 30 = .ok (.iload_n 2, 1) := by decide +kernel
theorem dX4_exchange_31 : decode cX4_exchange 31 = .ok (.iaload, 1) := by decide +kernel
theorem dX4_exchange_32 : decode cX4_exchange 32 = .ok (.invokevirtual 136, 3) := by decide +kernel
theorem dX4_exchange_35 : decode cX4_exchange 35 = .ok (.aload_n 0, 1) := by decide +kernel
theorem dX4_exchange_36 : decode cX4_exchange 36 = .ok (.getfield 12, 3) := by decide +kernel
theorem dX4_exchange_39 : decode cX4_exchange 39 = .ok (.getfield 97, 3) := by decide +kernel
theorem dX4_exchange_42 : decode cX4_exchange 42 = .ok (.iload_n 1, 1) := by decide +kernel
theorem dX4_exchange_43 : decode cX4_exchange 43 = .ok (.aload_n 0, 1) := by decide +kernel
theorem dX4_exchange_44 : decode cX4_exchange 44 = .ok (.getfield 12, 3) := by decide +kernel
theorem dX4_exchange_47 : decode cX4_exchange 47 = .ok (.getfield 97, 3) := by decide +kernel
theorem dX4_exchange_50 : decode cX4_exchange 50 = .ok (.iload_n 2, 1) := by decide +kernel
theorem dX4_exchange_51 : decode cX4_exchange 51 = .ok (.iaload, 1) := by decide +kernel
theorem dX4_exchange_52 : decode cX4_exchange 52 = .ok (.iastore, 1) := by decide +kernel
theorem dX4_exchange_53 : decode cX4_exchange 53 = .ok (.aload_n 0, 1) := by decide +kernel
theorem dX4_exchange_54 : decode cX4_exchange 54 = .ok (.iload_n 2, 1) := by decide +kernel
theorem dX4_exchange_55 : decode cX4_exchange 55 = .ok (.iload_n 3, 1) := by decide +kernel
theorem dX4_exchange_56 : decode cX4_exchange 56 = .ok (.invokevirtual 136, 3) := by decide +kernel
theorem dX4_exchange_59 : decode cX4_exchange 59 = .ok (.aload_n 0, 1) := by decide +kernel
theorem dX4_exchange_60 : decode cX4_exchange 60 = .ok (.getfield 12, 3) := by decide +kernel
theorem dX4_exchange_63 : decode cX4_exchange 63 = .ok (.getfield 97, 3) := by decide +kernel
theorem dX4_exchange_66 : decode cX4_exchange 66 = .ok (.iload_n 2, 1) := by decide +kernel
theorem dX4_exchange_67 : decode cX4_exchange 67 = .ok (.iload 4, 2) := by decide +kernel
theorem dX4_exchange_69 : decode cX4_exchange 69 = .ok (.iastore, 1) := by decide +kernel
theorem dX4_exchange_70 : decode cX4_exchange 70 = .ok (.return_, 1) := by decide +kernel
theorem dX4_flight_0 : decode cX4_flight 0 = .ok (.aload_n 0, 1) := by decide +kernel
theorem dX4_flight_1 : decode cX4_flight 1 = .ok (.iload_n 1, 1) := by decide +kernel
theorem dX4_flight_2 : decode cX4_flight 2 = .ok (.invokevirtual 63, 3) := by decide +kernel
theorem dX4_flight_5 : decode cX4_flight 5 = .ok (.iload_n 2, 1) := by decide +kernel
theorem dX4_flight_6 : decode cX4_flight 6 = .ok (.ifCond .lt 10, 3) := by decide +kernel
theorem dX4_flight_9 : decode cX4_flight 9 = .ok (.iload_n 2, 1) := by decide +kernel
theorem dX4_flight_10 : decode cX4_flight 10 = .ok (.sipush 240, 3) := by decide +kernel
theorem dX4_flight_13 : decode cX4_flight 13 = .ok (.if_icmp .lt 13, 3) := by decide +kernel
theorem dX4_flight_16 : decode cX4_flight 16 = .ok (.new 37, 3) := by decide +kernel
theorem dX4_flight_19 : decode cX4_flight 19 = .ok (.dup, 1) := by decide +kernel
theorem dX4_flight_20 : decode cX4_flight 20 = .ok (.ldc 67, 2) := by decide +kernel
theorem dX4_flight_22 : decode cX4_flight 22 = .ok (.invokespecial 41, 3) := by decide +kernel
theorem dX4_flight_25 : decode cX4_flight 25 = .ok (.athrow, 1) := by decide +kernel
theorem dX4_flight_26 : decode cX4_flight 26 = .ok (.iload_n 3, 1) := by decide +kernel
theorem dX4_flight_27 : decode cX4_flight 27 = .ok (.iconst 0, 1) := by decide +kernel
theorem dX4_flight_28 : decode cX4_flight 28 = .ok (.iload_n 2, 1) := by decide +kernel
theorem dX4_flight_29 : decode cX4_flight 29 = .ok (.bipush 15, 2) := by decide +kernel
theorem dX4_flight_31 : decode cX4_flight 31 = .ok (.isub, 1) := by decide +kernel
theorem dX4_flight_32 : decode cX4_flight 32 = .ok (.invokestatic 69, 3) := by decide +kernel
theorem dX4_flight_35 : decode cX4_flight 35 = .ok (.if_icmp .lt 10, 3) := by decide +kernel
theorem dX4_flight_38 : decode cX4_flight 38 = .ok (.iload_n 3, 1) := by decide +kernel
theorem dX4_flight_39 : decode cX4_flight 39 = .ok (.sipush 300, 3) := by decide +kernel
theorem dX4_flight_42 : decode cX4_flight 42 = .ok (.if_icmp .le 13, 3) := by decide +kernel
theorem dX4_flight_45 : decode cX4_flight 45 = .ok (.new 37, 3) := by decide +kernel
theorem dX4_flight_48 : decode cX4_flight 48 = .ok (.dup, 1) := by decide +kernel
theorem dX4_flight_49 : decode cX4_flight 49 = .ok (.ldc 75, 2) := by decide +kernel
theorem dX4_flight_51 : decode cX4_flight 51 = .ok (.invokespecial 41, 3) := by decide +kernel
theorem dX4_flight_54 : decode cX4_flight 54 = .ok (.athrow, 1) := by decide +kernel
theorem dX4_flight_55 : decode cX4_flight 55 = .ok (.aload_n 0, 1) := by decide +kernel
theorem dX4_flight_56 : decode cX4_flight 56 = .ok (.getfield 19, 3) := by decide +kernel
theorem dX4_flight_59 : decode cX4_flight 59 = .ok (.getfield 77, 3) := by decide +kernel
theorem dX4_flight_62 : decode cX4_flight 62 = .ok (.bipush 60, 2) := by decide +kernel
theorem dX4_flight_64 : decode cX4_flight 64 = .ok (.if_icmp .lt 13, 3) := by decide +kernel
theorem dX4_flight_67 : decode cX4_flight 67 = .ok (.new 50, 3) := by decide +kernel
theorem dX4_flight_70 : decode cX4_flight 70 = .ok (.dup, 1) := by decide +kernel
theorem dX4_flight_71 : decode cX4_flight 71 = .ok (.ldc 81, 2) := by decide +kernel
theorem dX4_flight_73 : decode cX4_flight 73 = .ok (.invokespecial 54, 3) := by decide +kernel
theorem dX4_flight_76 : decode cX4_flight 76 = .ok (.athrow, 1) := by decide +kernel
theorem dX4_flight_77 : decode cX4_flight 77 = .ok (.aload_n 0, 1) := by decide +kernel
theorem dX4_flight_78 : decode cX4_flight 78 = .ok (.getfield 19, 3) := by decide +kernel
theorem dX4_flight_81 : decode cX4_flight 81 = .ok (.iload_n 1, 1) := by decide +kernel
theorem dX4_flight_82 : decode cX4_flight 82 = .ok (.iload_n 2, 1) := by decide +kernel
theorem dX4_flight_83 : decode cX4_flight 83 = .ok (.iload_n 3, 1) := by decide +kernel
theorem dX4_flight_84 : decode cX4_flight 84 = .ok (.invokevirtual 83, 3) := by decide +kernel
theorem dX4_flight_87 : decode cX4_flight 87 = .ok (.ireturn, 1) := by decide +kernel
theorem dX4_flightIn_0 : decode cX4_flightIn 0 = .ok (.aload_n 0, 1) := by decide +kernel
theorem dX4_flightIn_1 : decode cX4_flightIn 1 = .ok (.iload_n 1, 1) := by decide +kernel
theorem dX4_flightIn_2 : decode cX4_flightIn 2 = .ok (.invokevirtual 94, 3) := by decide +kernel
theorem dX4_flightIn_5 : decode cX4_flightIn 5 = .ok (.aload_n 0, 1) := by decide +kernel
theorem dX4_flightIn_6 : decode cX4_flightIn 6 = .ok (.getfield 12, 3) := by decide +kernel
theorem dX4_flightIn_9 : decode cX4_flightIn 9 = .ok (.getfield 100, 3) := by decide +kernel
theorem dX4_flightIn_12 : decode cX4_flightIn 12 = .ok (.iload_n 1, 1) := by decide +kernel
theorem dX4_flightIn_13 : decode cX4_flightIn 13 = .ok (.iaload, 1) := by decide +kernel
theorem dX4_flightIn_14 : decode cX4_flightIn 14 = .ok (.ireturn, 1) := by decide +kernel
theorem dX4_flightToMoveTo_0 : decode cX4_flightToMoveTo 0 = .ok (.aload_n 0, 1) := by decide +kernel
theorem dX4_flightToMoveTo_1 : decode cX4_flightToMoveTo 1 = .ok (.getfield 12, 3) := by decide +kernel
theorem dX4_flightToMoveTo_4 : decode cX4_flightToMoveTo 4 = .ok (.iload_n 1, 1) := by decide +kernel
theorem dX4_flightToMoveTo_5 : decode cX4_flightToMoveTo 5 = .ok (.invokevirtual 169, 3) := by decide +kernel
theorem dX4_flightToMoveTo_8 : decode cX4_flightToMoveTo 8 = .ok (.ifCond .ne 5, 3) := by decide +kernel
theorem dX4_flightToMoveTo_11 : decode cX4_flightToMoveTo 11 = .ok (.iconst (-1), 1) := by decide +kernel
theorem dX4_flightToMoveTo_12 : decode cX4_flightToMoveTo 12 = .ok (.ireturn, 1) := by decide +kernel
theorem dX4_flightToMoveTo_13 : decode cX4_flightToMoveTo 13 = .ok (.iconst (-1), 1) := by decide +kernel
theorem dX4_flightToMoveTo_14 : decode cX4_flightToMoveTo 14 = .ok (.istore_n 2, 1) := by decide +kernel
theorem dX4_flightToMoveTo_15 : decode cX4_flightToMoveTo 15 = .ok (.iload_n 1, 1) := by decide +kernel
theorem dX4_flightToMoveTo_16 : decode cX4_flightToMoveTo 16 = .ok (.iconst 1, 1) := by decide +kernel
theorem dX4_flightToMoveTo_17 : decode cX4_flightToMoveTo 17 = .ok (.iadd, 1) := by decide +kernel
theorem dX4_flightToMoveTo_18 : decode cX4_flightToMoveTo 18 = .ok (.istore_n 3, 1) := by decide +kernel
theorem dX4_flightToMoveTo_19 : decode cX4_flightToMoveTo 19 = .ok (.iload_n 3, 1) := by decide +kernel
theorem dX4_flightToMoveTo_20 : decode cX4_flightToMoveTo 20 = .ok (.sipush 240, 3) := by decide +kernel
theorem dX4_flightToMoveTo_23 : decode cX4_flightToMoveTo 23 = .ok (.if_icmp .ge 69, 3) := by decide +kernel
theorem dX4_flightToMoveTo_26 : decode cX4_flightToMoveTo 26 = .ok (.aload_n 0, 1) := by decide +kernel
theorem dX4_flightToMoveTo_27 : decode cX4_flightToMoveTo 27 = .ok (.getfield 12, 3) := by decide +kernel
theorem dX4_flightToMoveTo_30 : decode cX4_flightToMoveTo 30 = .ok (.getfield 100, 3) := by decide +kernel
theorem dX4_flightToMoveTo_33 : decode cX4_flightToMoveTo 33 = .ok (.iload_n 3, 1) := by decide +kernel
theorem dX4_flightToMoveTo_34 : decode cX4_flightToMoveTo 34 = .ok (.iaload, 1) := by decide +kernel
theorem dX4_flightToMoveTo_35 : decode cX4_flightToMoveTo 35 = .ok (.istore 4, 2) := by decide +kernel
theorem dX4_flightToMoveTo_37 : decode cX4_flightToMoveTo 37 = .ok (.iload 4, 2) := by decide +kernel
theorem dX4_flightToMoveTo_39 : decode cX4_flightToMoveTo 39 = .ok (.iconst (-1), 1) := by decide +kernel
theorem dX4_flightToMoveTo_40 : decode cX4_flightToMoveTo 40 = .ok (.if_icmp .eq 46, 3) := by decide +kernel
theorem dX4_flightToMoveTo_43 : decode cX4_flightToMoveTo 43 = .ok (.aload_n 0, 1) := by decide +kernel
theorem dX4_flightToMoveTo_44 : decode cX4_flightToMoveTo 44 = .ok (.iload 4, 2) := by decide +kernel
theorem dX4_flightToMoveTo_46 : decode cX4_flightToMoveTo 46 = .ok (.iload_n 1, 1) := by decide +kernel
theorem dX4_flightToMoveTo_47 : decode cX4_flightToMoveTo 47 = .ok (.invokevirtual 131, 3) := by decide +kernel
theorem dX4_flightToMoveTo_50 : decode cX4_flightToMoveTo 50 = .ok (.ifCond .eq 36, 3) := by decide +kernel
theorem dX4_flightToMoveTo_53 : decode cX4_flightToMoveTo 53 = .ok (.aload_n 0, 1) := by decide +kernel
theorem dX4_flightToMoveTo_54 : decode cX4_flightToMoveTo 54 = .ok (.getfield 19, 3) := by decide +kernel
theorem dX4_flightToMoveTo_57 : decode cX4_flightToMoveTo 57 = .ok (.getfield 124, 3) := by decide +kernel
theorem dX4_flightToMoveTo_60 : decode cX4_flightToMoveTo 60 = .ok (.iload 4, 2) := by decide +kernel
theorem dX4_flightToMoveTo_62 : decode cX4_flightToMoveTo 62 = .ok (.iaload, 1) := by decide +kernel
theorem dX4_flightToMoveTo_63 : decode cX4_flightToMoveTo 63 = .ok (.aload_n 0, 1) := by decide +kernel
theorem dX4_flightToMoveTo_64 : decode cX4_flightToMoveTo 64 = .ok (.getfield 12, 3) := by decide +kernel
theorem dX4_flightToMoveTo_67 : decode cX4_flightToMoveTo 67 = .ok (.getfield 97, 3) := by decide +kernel
theorem dX4_flightToMoveTo_70 : decode cX4_flightToMoveTo 70 = .ok (.iload_n 1, 1) := by decide +kernel
theorem dX4_flightToMoveTo_71 : decode cX4_flightToMoveTo 71 = .ok (.iaload, 1) := by decide +kernel
theorem dX4_flightToMoveTo_72 : decode cX4_flightToMoveTo 72 = .ok (.if_icmp .ne 6, 3) := by decide +kernel
theorem dX4_flightToMoveTo_75 : decode cX4_flightToMoveTo 75 = .ok (.iload 4, 2) := by decide +kernel
theorem dX4_flightToMoveTo_77 : decode cX4_flightToMoveTo 77 = .ok (.ireturn, 1) := by decide +kernel
theorem dX4_flightToMoveTo_78 : decode cX4_flightToMoveTo 78 = .ok (.iload_n 2, 1) := by decide +kernel
theorem dX4_flightToMoveTo_79 : decode cX4_flightToMoveTo 79 = .ok (.iconst (-1), 1) := by decide +kernel
theorem dX4_flightToMoveTo_80 : decode cX4_flightToMoveTo 80 = .ok (.if_icmp .ne 6, 3) := by decide +kernel
theorem dX4_flightToMoveTo_83 : decode cX4_flightToMoveTo 83 = .ok (.iload 4, 2) := by decide +kernel
theorem dX4_flightToMoveTo_85 : decode cX4_flightToMoveTo 85 = .ok (.istore_n 2, 1) := by decide +kernel
theorem dX4_flightToMoveTo_86 : decode cX4_flightToMoveTo 86 = .ok (.iinc 3 1, 3) := by decide +kernel
theorem dX4_flightToMoveTo_89 : decode cX4_flightToMoveTo 89 = .ok (.goto (-70), 3) := by decide +kernel
theorem dX4_flightToMoveTo_92 : decode cX4_flightToMoveTo 92 = .ok (.iload_n 2, 1) := by decide +kernel
theorem dX4_flightToMoveTo_93 : decode cX4_flightToMoveTo 93 = .ok (.ireturn, 1) := by decide +kernel
theorem dX4_flightsThatCouldMoveTo_0 : decode cX4_flightsThatCouldMoveTo 0 = .ok (.iconst 0, 1) := by decide +kernel
theorem dX4_flightsThatCouldMoveTo_1 : decode cX4_flightsThatCouldMoveTo 1 = .ok (.istore_n 2, 1) := by decide +kernel
theorem dX4_flightsThatCouldMoveTo_2 : decode cX4_flightsThatCouldMoveTo 2 = .ok (.iconst 0, 1) := by decide +kernel
theorem dX4_flightsThatCouldMoveTo_3 : decode cX4_flightsThatCouldMoveTo 3 = .ok (.istore_n 3, 1) := by decide +kernel
theorem dX4_flightsThatCouldMoveTo_4 : decode cX4_flightsThatCouldMoveTo 4 = .ok (.iload_n 3, 1) := by decide +kernel
theorem dX4_flightsThatCouldMoveTo_5 : decode cX4_flightsThatCouldMoveTo 5 = .ok (.aload_n 0, 1) := by decide +kernel
theorem dX4_flightsThatCouldMoveTo_6 : decode cX4_flightsThatCouldMoveTo 6 = .ok (.getfield 19, 3) := by decide +kernel
theorem dX4_flightsThatCouldMoveTo_9 : decode cX4_flightsThatCouldMoveTo 9 = .ok (.getfield 77, 3) := by decide +kernel
theorem dX4_flightsThatCouldMoveTo_12 : decode cX4_flightsThatCouldMoveTo 12 = .ok (.if_icmp .ge 34, 3) := by decide +kernel
theorem dX4_flightsThatCouldMoveTo_15 : decode cX4_flightsThatCouldMoveTo 15 = .ok (.aload_n 0, 1) := by decide +kernel
theorem dX4_flightsThatCouldMoveTo_16 : decode cX4_flightsThatCouldMoveTo 16 = .ok (.getfield 19, 3) := by decide +kernel
theorem dX4_flightsThatCouldMoveTo_19 : decode cX4_flightsThatCouldMoveTo 19 = .ok (.getfield 90, 3) := by decide +kernel
theorem dX4_flightsThatCouldMoveTo_22 : decode cX4_flightsThatCouldMoveTo 22 = .ok (.iload_n 3, 1) := by decide +kernel
theorem dX4_flightsThatCouldMoveTo_23 : decode cX4_flightsThatCouldMoveTo 23 = .ok (.iaload, 1) := by decide +kernel
theorem dX4_flightsThatCouldMoveTo_24 : decode cX4_flightsThatCouldMoveTo 24 = .ok (.iload_n 1, 1) := by decide +kernel
theorem dX4_flightsThatCouldMoveTo_25 : decode cX4_flightsThatCouldMoveTo 25 = .ok (.if_icmp .le 15, 3) := by decide +kernel
theorem dX4_flightsThatCouldMoveTo_28 : decode cX4_flightsThatCouldMoveTo 28 = .ok (.aload_n 0, 1) := by decide +kernel
theorem dX4_flightsThatCouldMoveTo_29 : decode cX4_flightsThatCouldMoveTo 29 = .ok (.iload_n 3, 1) := by decide +kernel
theorem dX4_flightsThatCouldMoveTo_30 : decode cX4_flightsThatCouldMoveTo 30 = .ok (.iload_n 1, 1) := by decide +kernel
theorem dX4_flightsThatCouldMoveTo_31 : decode cX4_flightsThatCouldMoveTo 31 = .ok (.invokevirtual 131, 3) := by decide +kernel
theorem dX4_flightsThatCouldMoveTo_34 : decode cX4_flightsThatCouldMoveTo 34 = .ok (.ifCond .eq 6, 3) := by decide +kernel
theorem dX4_flightsThatCouldMoveTo_37 : decode cX4_flightsThatCouldMoveTo 37 = .ok (.iinc 2 1, 3) := by decide +kernel
theorem dX4_flightsThatCouldMoveTo_40 : decode cX4_flightsThatCouldMoveTo 40 = .ok (.iinc 3 1, 3) := by decide +kernel
theorem dX4_flightsThatCouldMoveTo_43 : decode cX4_flightsThatCouldMoveTo 43 = .ok (.goto (-39), 3) := by decide +kernel
theorem dX4_flightsThatCouldMoveTo_46 : decode cX4_flightsThatCouldMoveTo 46 = .ok (.iload_n 2, 1) := by decide +kernel
theorem dX4_flightsThatCouldMoveTo_47 : decode cX4_flightsThatCouldMoveTo 47 = .ok (.ireturn, 1) := by decide +kernel
end
section
theorem dX4_gaps_0 : decode cX4_gaps 0 = .ok (.iconst 0, 1) := by decide +kernel
theorem dX4_gaps_1 : decode cX4_gaps 1 = .ok (.istore_n 1, 1) := by decide +kernel
theorem dX4_gaps_2 : decode cX4_gaps 2 = .ok (.iconst 0, 1) := by decide +kernel
theorem dX4_gaps_3 : decode cX4_gaps 3 = .ok (.istore_n 2, 1) := by decide +kernel
theorem dX4_gaps_4 : decode cX4_gaps 4 = .ok (.iload_n 2, 1) := by decide +kernel
theorem dX4_gaps_5 : decode cX4_gaps 5 = .ok (.sipush 240, 3) := by decide +kernel
theorem dX4_gaps_8 : decode cX4_gaps 8 = .ok (.if_icmp .ge 28, 3) := by decide +kernel
theorem dX4_gaps_11 : decode cX4_gaps 11 = .ok (.aload_n 0, 1) := by decide +kernel
theorem dX4_gaps_12 : decode cX4_gaps 12 = .ok (.getfield 12, 3) := by decide +kernel
theorem dX4_gaps_15 : decode cX4_gaps 15 = .ok (.iload_n 2, 1) := by decide +kernel
theorem dX4_gaps_16 : decode cX4_gaps 16 = .ok (.invokevirtual 169, 3) := by decide +kernel
theorem dX4_gaps_19 : decode cX4_gaps 19 = .ok (.ifCond .eq 11, 3) := by decide +kernel
theorem dX4_gaps_22 : decode cX4_gaps 22 = .ok (.iload_n 1, 1) := by decide +kernel
theorem dX4_gaps_23 : decode cX4_gaps 23 = .ok (.aload_n 0, 1) := by decide +kernel
theorem dX4_gaps_24 : decode cX4_gaps 24 = .ok (.iload_n 2, 1) := by decide +kernel
theorem dX4_gaps_25 : decode cX4_gaps 25 = .ok (.invokevirtual 172, 3) := by decide +kernel
theorem dX4_gaps_28 : decode cX4_gaps 28 = .ok (.iadd, 1) := by decide +kernel
theorem dX4_gaps_29 : decode cX4_gaps 29 = .ok (.istore_n 1, 1) := by decide +kernel
theorem dX4_gaps_30 : decode cX4_gaps 30 = .ok (.iinc 2 1, 3) := by decide +kernel
theorem dX4_gaps_33 : decode cX4_gaps 33 = .ok (.goto (-29), 3) := by decide +kernel
theorem dX4_gaps_36 : decode cX4_gaps 36 = .ok (.iload_n 1, 1) := by decide +kernel
theorem dX4_gaps_37 : decode cX4_gaps 37 = .ok (.ireturn, 1) := by decide +kernel
theorem dX4_init_0 : decode cX4_init 0 = .ok (.aload_n 0, 1) := by decide +kernel
theorem dX4_init_1 : decode cX4_init 1 = .ok (.invokespecial 3, 3) := by decide +kernel
theorem dX4_init_4 : decode cX4_init 4 = .ok (.aload_n 0, 1) := by decide +kernel
theorem dX4_init_5 : decode cX4_init 5 = .ok (.new 9, 3) := by decide +kernel
theorem dX4_init_8 : decode cX4_init 8 = .ok (.dup, 1) := by decide +kernel
theorem dX4_init_9 : decode cX4_init 9 = .ok (.invokespecial 11, 3) := by decide +kernel
theorem dX4_init_12 : decode cX4_init 12 = .ok (.putfield 12, 3) := by decide +kernel
theorem dX4_init_15 : decode cX4_init 15 = .ok (.aload_n 0, 1) := by decide +kernel
theorem dX4_init_16 : decode cX4_init 16 = .ok (.new 16, 3) := by decide +kernel
theorem dX4_init_19 : decode cX4_init 19 = .ok (.dup, 1) := by decide +kernel
theorem dX4_init_20 : decode cX4_init 20 = .ok (.invokespecial 18, 3) := by decide +kernel
theorem dX4_init_23 : decode cX4_init 23 = .ok (.putfield 19, 3) := by decide +kernel
theorem dX4_init_26 : decode cX4_init 26 = .ok (.aload_n 0, 1) := by decide +kernel
theorem dX4_init_27 : decode cX4_init 27 = .ok (.new 23, 3) := by decide +kernel
theorem dX4_init_30 : decode cX4_init 30 = .ok (.dup, 1) := by decide +kernel
theorem dX4_init_31 : decode cX4_init 31 = .ok (.invokespecial 25, 3) := by decide +kernel
theorem dX4_init_34 : decode cX4_init 34 = .ok (.putfield 26, 3) := by decide +kernel
theorem dX4_init_37 : decode cX4_init 37 = .ok (.aload_n 0, 1) := by decide +kernel
theorem dX4_init_38 : decode cX4_init 38 = .ok (.new 30, 3) := by decide +kernel
theorem dX4_init_41 : decode cX4_init 41 = .ok (.dup, 1) := by decide +kernel
theorem dX4_init_42 : decode cX4_init 42 = .ok (.invokespecial 32, 3) := by decide +kernel
theorem dX4_init_45 : decode cX4_init 45 = .ok (.putfield 33, 3) := by decide +kernel
theorem dX4_init_48 : decode cX4_init 48 = .ok (.return_, 1) := by decide +kernel
theorem dX4_isFrozen_0 : decode cX4_isFrozen 0 = .ok (.aload_n 0, 1) := by decide +kernel
theorem dX4_isFrozen_1 : decode cX4_isFrozen 1 = .ok (.getfield 12, 3) := by decide +kernel
theorem dX4_isFrozen_4 : decode cX4_isFrozen 4 = .ok (.getfield 100, 3) := by decide +kernel
theorem dX4_isFrozen_7 : decode cX4_isFrozen 7 = .ok (.iload_n 1, 1) := by decide +kernel
theorem dX4_isFrozen_8 : decode cX4_isFrozen 8 = .ok (.iaload, 1) := by decide +kernel
theorem dX4_isFrozen_9 : decode cX4_isFrozen 9 = .ok (.istore_n 2, 1) := by decide +kernel
theorem dX4_isFrozen_10 : decode cX4_isFrozen 10 = .ok (.iload_n 2, 1) := by decide +kernel
theorem dX4_isFrozen_11 : decode cX4_isFrozen 11 = .ok (.iconst (-1), 1) := by decide +kernel
theorem dX4_isFrozen_12 : decode cX4_isFrozen 12 = .ok (.if_icmp .eq 19, 3) := by decide +kernel
theorem dX4_isFrozen_15 : decode cX4_isFrozen 15 = .ok (.aload_n 0, 1) := by decide +kernel
theorem dX4_isFrozen_16 : decode cX4_isFrozen 16 = .ok (.getfield 19, 3) := by decide +kernel
theorem dX4_isFrozen_19 : decode cX4_isFrozen 19 = .ok (.getfield 119, 3) := by decide +kernel
theorem dX4_isFrozen_22 : decode cX4_isFrozen 22 = .ok (.iload_n 2, 1) := by decide +kernel
theorem dX4_isFrozen_23 : decode cX4_isFrozen 23 = .ok (.baload, 1) := by decide +kernel
theorem dX4_isFrozen_24 : decode cX4_isFrozen 24 = .ok (.ifCond .eq 7, 3) := by decide +kernel
theorem dX4_isFrozen_27 : decode cX4_isFrozen 27 = .ok (.iconst 1, 1) := by decide +kernel
theorem dX4_isFrozen_28 : decode cX4_isFrozen 28 = .ok (.goto 4, 3) := by decide +kernel
theorem dX4_isFrozen_31 : decode cX4_isFrozen 31 = .ok (.iconst 0, 1) := by decide +kernel
theorem dX4_isFrozen_32 : decode cX4_isFrozen 32 = .ok (.ireturn, 1) := by decide +kernel
theorem dX4_isGood_0 : decode cX4_isGood 0 = .ok (.aload_n 0, 1) := by decide +kernel
theorem dX4_isGood_1 : decode cX4_isGood 1 = .ok (.getfield 26, 3) := by decide +kernel
theorem dX4_isGood_4 : decode cX4_isGood 4 = .ok (.getfield 237, 3) := by decide +kernel
theorem dX4_isGood_7 : decode cX4_isGood 7 = .ok (.iload_n 1, 1) := by decide +kernel
theorem dX4_isGood_8 : decode cX4_isGood 8 = .ok (.iaload, 1) := by decide +kernel
theorem dX4_isGood_9 : decode cX4_isGood 9 = .ok (.istore_n 2, 1) := by decide +kernel
theorem dX4_isGood_10 : decode cX4_isGood 10 = .ok (.aload_n 0, 1) := by decide +kernel
theorem dX4_isGood_11 : decode cX4_isGood 11 = .ok (.getfield 26, 3) := by decide +kernel
theorem dX4_isGood_14 : decode cX4_isGood 14 = .ok (.getfield 240, 3) := by decide +kernel
theorem dX4_isGood_17 : decode cX4_isGood 17 = .ok (.iload_n 1, 1) := by decide +kernel
theorem dX4_isGood_18 : decode cX4_isGood 18 = .ok (.iaload, 1) := by decide +kernel
theorem dX4_isGood_19 : decode cX4_isGood 19 = .ok (.istore_n 3, 1) := by decide +kernel
theorem dX4_isGood_20 : decode cX4_isGood 20 = .ok (.aload_n 0, 1) := by decide +kernel
theorem dX4_isGood_21 : decode cX4_isGood 21 = .ok (.getfield 26, 3) := by decide +kernel
theorem dX4_isGood_24 : decode cX4_isGood 24 = .ok (.getfield 152, 3) := by decide +kernel
theorem dX4_isGood_27 : decode cX4_isGood 27 = .ok (.iload_n 1, 1) := by decide +kernel
theorem dX4_isGood_28 : decode cX4_isGood 28 = .ok (.baload, 1) := by decide +kernel
theorem dX4_isGood_29 : decode cX4_isGood 29 = .ok (.ifCond .eq 75, 3) := by decide +kernel
theorem dX4_isGood_32 : decode cX4_isGood 32 = .ok (.aload_n 0, 1) := by decide +kernel
theorem dX4_isGood_33 : decode cX4_isGood 33 = .ok (.getfield 12, 3) := by decide +kernel
theorem dX4_isGood_36 : decode cX4_isGood 36 = .ok (.iload_n 2, 1) := by decide +kernel
theorem dX4_isGood_37 : decode cX4_isGood 37 = .ok (.invokevirtual 206, 3) := by decide +kernel
theorem dX4_isGood_40 : decode cX4_isGood 40 = .ok (.ifCond .eq 64, 3) := by decide +kernel
theorem dX4_isGood_43 : decode cX4_isGood 43 = .ok (.aload_n 0, 1) := by decide +kernel
theorem dX4_isGood_44 : decode cX4_isGood 44 = .ok (.getfield 12, 3) := by decide +kernel
theorem dX4_isGood_47 : decode cX4_isGood 47 = .ok (.getfield 97, 3) := by decide +kernel
theorem dX4_isGood_50 : decode cX4_isGood 50 = .ok (.iload_n 2, 1) := by decide +kernel
theorem dX4_isGood_51 : decode cX4_isGood 51 = .ok (.iaload, 1) := by decide +kernel
theorem dX4_isGood_52 : decode cX4_isGood 52 = .ok (.aload_n 0, 1) := by decide +kernel
theorem dX4_isGood_53 : decode cX4_isGood 53 = .ok (.getfield 26, 3) := by decide +kernel
theorem dX4_isGood_56 : decode cX4_isGood 56 = .ok (.getfield 243, 3) := by decide +kernel
theorem dX4_isGood_59 : decode cX4_isGood 59 = .ok (.iload_n 1, 1) := by decide +kernel
theorem dX4_isGood_60 : decode cX4_isGood 60 = .ok (.iaload, 1) := by decide +kernel
theorem dX4_isGood_61 : decode cX4_isGood 61 = .ok (.if_icmp .ne 43, 3) := by decide +kernel
theorem dX4_isGood_64 : decode cX4_isGood 64 = .ok (.aload_n 0, 1) := by decide +kernel
theorem dX4_isGood_65 : decode cX4_isGood 65 = .ok (.iload_n 2, 1) := by decide +kernel
theorem dX4_isGood_66 : decode cX4_isGood 66 = .ok (.invokevirtual 219, 3) := by decide +kernel
theorem dX4_isGood_69 : decode cX4_isGood 69 = .ok (.ifCond .ne 35, 3) := by decide +kernel
theorem dX4_isGood_72 : decode cX4_isGood 72 = .ok (.aload_n 0, 1) := by decide +kernel
theorem dX4_isGood_73 : decode cX4_isGood 73 = .ok (.getfield 12, 3) := by decide +kernel
theorem dX4_isGood_76 : decode cX4_isGood 76 = .ok (.iload_n 3, 1) := by decide +kernel
theorem dX4_isGood_77 : decode cX4_isGood 77 = .ok (.invokevirtual 206, 3) := by decide +kernel
theorem dX4_isGood_80 : decode cX4_isGood 80 = .ok (.ifCond .eq 24, 3) := by decide +kernel
theorem dX4_isGood_83 : decode cX4_isGood 83 = .ok (.aload_n 0, 1) := by decide +kernel
theorem dX4_isGood_84 : decode cX4_isGood 84 = .ok (.iload_n 3, 1) := by decide +kernel
theorem dX4_isGood_85 : decode cX4_isGood 85 = .ok (.invokevirtual 219, 3) := by decide +kernel
theorem dX4_isGood_88 : decode cX4_isGood 88 = .ok (.ifCond .ne 16, 3) := by decide +kernel
theorem dX4_isGood_91 : decode cX4_isGood 91 = .ok (.aload_n 0, 1) := by decide +kernel
theorem dX4_isGood_92 : decode cX4_isGood 92 = .ok (.iload_n 2, 1) := by decide +kernel
theorem dX4_isGood_93 : decode cX4_isGood 93 = .ok (.iload_n 3, 1) := by decide +kernel
theorem dX4_isGood_94 : decode cX4_isGood 94 = .ok (.invokevirtual 244, 3) := by decide +kernel
theorem dX4_isGood_97 : decode cX4_isGood 97 = .ok (.ifCond .eq 7, 3) := by decide +kernel
theorem dX4_isGood_100 : decode cX4_isGood 100 = .ok (.iconst 1, 1) := by decide +kernel
theorem dX4_isGood_101 : decode cX4_isGood 101 = .ok (.goto 4, 3) := by decide +kernel
theorem dX4_isGood_104 : decode cX4_isGood 104 = .ok (.iconst 0, 1) := by decide +kernel
theorem dX4_isGood_105 : decode cX4_isGood 105 = .ok (.ireturn, 1) := by decide +kernel
theorem dX4_later_0 : decode cX4_later 0 = .ok (.aload_n 0, 1) := by decide +kernel
theorem dX4_later_1 : decode cX4_later 1 = .ok (.iload_n 1, 1) := by decide +kernel
theorem dX4_later_2 : decode cX4_later 2 = .ok (.invokevirtual 87, 3) := by decide +kernel
theorem dX4_later_5 : decode cX4_later 5 = .ok (.iload_n 2, 1) := by decide +kernel
theorem dX4_later_6 : decode cX4_later 6 = .ok (.aload_n 0, 1) := by decide +kernel
theorem dX4_later_7 : decode cX4_later 7 = .ok (.getfield 19, 3) := by decide +kernel
theorem dX4_later_10 : decode cX4_later 10 = .ok (.getfield 103, 3) := by decide +kernel
theorem dX4_later_13 : decode cX4_later 13 = .ok (.iload_n 1, 1) := by decide +kernel
theorem dX4_later_14 : decode cX4_later 14 = .ok (.iaload, 1) := by decide +kernel
theorem dX4_later_15 : decode cX4_later 15 = .ok (.if_icmp .lt 10, 3) := by decide +kernel
theorem dX4_later_18 : decode cX4_later 18 = .ok (.iload_n 2, 1) := by decide +kernel
theorem dX4_later_19 : decode cX4_later 19 = .ok (.sipush 300, 3) := by decide +kernel
theorem dX4_later_22 : decode cX4_later 22 = .ok (.if_icmp .le 13, 3) := by decide +kernel
theorem dX4_later_25 : decode cX4_later 25 = .ok (.new 37, 3) := by decide +kernel
theorem dX4_later_28 : decode cX4_later 28 = .ok (.dup, 1) := by decide +kernel
theorem dX4_later_29 : decode cX4_later 29 = .ok (.ldc 75, 2) := by decide +kernel
theorem dX4_later_31 : decode cX4_later 31 = .ok (.invokespecial 41, 3) := by decide +kernel
theorem dX4_later_34 : decode cX4_later 34 = .ok (.athrow, 1) := by decide +kernel
theorem dX4_later_35 : decode cX4_later 35 = .ok (.aload_n 0, 1) := by decide +kernel
theorem dX4_later_36 : decode cX4_later 36 = .ok (.iload_n 1, 1) := by decide +kernel
theorem dX4_later_37 : decode cX4_later 37 = .ok (.invokevirtual 106, 3) := by decide +kernel
theorem dX4_later_40 : decode cX4_later 40 = .ok (.aload_n 0, 1) := by decide +kernel
theorem dX4_later_41 : decode cX4_later 41 = .ok (.getfield 19, 3) := by decide +kernel
theorem dX4_later_44 : decode cX4_later 44 = .ok (.getfield 103, 3) := by decide +kernel
theorem dX4_later_47 : decode cX4_later 47 = .ok (.iload_n 1, 1) := by decide +kernel
theorem dX4_later_48 : decode cX4_later 48 = .ok (.iload_n 2, 1) := by decide +kernel
theorem dX4_later_49 : decode cX4_later 49 = .ok (.iastore, 1) := by decide +kernel
theorem dX4_later_50 : decode cX4_later 50 = .ok (.aload_n 0, 1) := by decide +kernel
theorem dX4_later_51 : decode cX4_later 51 = .ok (.getfield 19, 3) := by decide +kernel
theorem dX4_later_54 : decode cX4_later 54 = .ok (.getfield 90, 3) := by decide +kernel
theorem dX4_later_57 : decode cX4_later 57 = .ok (.iload_n 1, 1) := by decide +kernel
theorem dX4_later_58 : decode cX4_later 58 = .ok (.iaload, 1) := by decide +kernel
theorem dX4_later_59 : decode cX4_later 59 = .ok (.iconst (-1), 1) := by decide +kernel
theorem dX4_later_60 : decode cX4_later 60 = .ok (.if_icmp .eq 23, 3) := by decide +kernel
theorem dX4_later_63 : decode cX4_later 63 = .ok (.aload_n 0, 1) := by decide +kernel
theorem dX4_later_64 : decode cX4_later 64 = .ok (.getfield 19, 3) := by decide +kernel
theorem dX4_later_67 : decode cX4_later 67 = .ok (.iload_n 1, 1) := by decide +kernel
theorem dX4_later_68 : decode cX4_later 68 = .ok (.aload_n 0, 1) := by decide +kernel
theorem dX4_later_69 : decode cX4_later 69 = .ok (.getfield 19, 3) := by decide +kernel
theorem dX4_later_72 : decode cX4_later 72 = .ok (.getfield 90, 3) := by decide +kernel
theorem dX4_later_75 : decode cX4_later 75 = .ok (.iload_n 1, 1) := by decide +kernel
theorem dX4_later_76 : decode cX4_later 76 = .ok (.iaload, 1) := by decide +kernel
theorem dX4_later_77 : decode cX4_later 77 = .ok (.invokevirtual 109, 3) := by decide +kernel
theorem dX4_later_80 : decode cX4_later 80 = .ok (.ifCond .eq 5, 3) := by decide +kernel
theorem dX4_later_83 : decode cX4_later 83 = .ok (.iconst 0, 1) := by decide +kernel
theorem dX4_later_84 : decode cX4_later 84 = .ok (.ireturn, 1) := by decide +kernel
theorem dX4_later_85 : decode cX4_later 85 = .ok (.aload_n 0, 1) := by decide +kernel
theorem dX4_later_86 : decode cX4_later 86 = .ok (.iload_n 1, 1) := by decide +kernel
theorem dX4_later_87 : decode cX4_later 87 = .ok (.iconst 4, 1) := by decide +kernel
theorem dX4_later_88 : decode cX4_later 88 = .ok (.invokevirtual 112, 3) := by decide +kernel
theorem dX4_later_91 : decode cX4_later 91 = .ok (.iconst 1, 1) := by decide +kernel
theorem dX4_later_92 : decode cX4_later 92 = .ok (.ireturn, 1) := by decide +kernel
theorem dX4_log_0 : decode cX4_log 0 = .ok (.aload_n 0, 1) := by decide +kernel
theorem dX4_log_1 : decode cX4_log 1 = .ok (.getfield 33, 3) := by decide +kernel
theorem dX4_log_4 : decode cX4_log 4 = .ok (.getfield 184, 3) := by decide +kernel
theorem dX4_log_7 : decode cX4_log 7 = .ok (.ireturn, 1) := by decide +kernel
theorem dX4_losesFrozenSlot_0 : decode cX4_losesFrozenSlot 0 = .ok (.iload_n 1, 1) := by decide +kernel
theorem dX4_losesFrozenSlot_1 : decode cX4_losesFrozenSlot 1 = .ok (.bipush 15, 2) := by decide +kernel
theorem dX4_losesFrozenSlot_3 : decode cX4_losesFrozenSlot 3 = .ok (.imul, 1) := by decide +kernel
theorem dX4_losesFrozenSlot_4 : decode cX4_losesFrozenSlot 4 = .ok (.istore_n 3, 1) := by decide +kernel
theorem dX4_losesFrozenSlot_5 : decode cX4_losesFrozenSlot 5 = .ok (.iconst 0, 1) := by decide +kernel
theorem dX4_losesFrozenSlot_6 : decode cX4_losesFrozenSlot 6 = .ok (.istore 4, 2) := by decide +kernel
theorem dX4_losesFrozenSlot_8 : decode cX4_losesFrozenSlot 8 = .ok (.iload 4, 2) := by decide +kernel
theorem dX4_losesFrozenSlot_10 : decode cX4_losesFrozenSlot 10 = .ok (.bipush 15, 2) := by decide +kernel
theorem dX4_losesFrozenSlot_12 : decode cX4_losesFrozenSlot 12 = .ok (.if_icmp .ge 31, 3) := by decide +kernel
theorem dX4_losesFrozenSlot_15 : decode cX4_losesFrozenSlot 15 = .ok (.aload_n 0, 1) := by decide +kernel
theorem dX4_losesFrozenSlot_16 : decode cX4_losesFrozenSlot 16 = .ok (.iload_n 3, 1) := by decide +kernel
theorem dX4_losesFrozenSlot_17 : decode cX4_losesFrozenSlot 17 = .ok (.iload 4, 2) := by decide +kernel
theorem dX4_losesFrozenSlot_19 : decode cX4_losesFrozenSlot 19 = .ok (.iadd, 1) := by decide +kernel
theorem dX4_losesFrozenSlot_20 : decode cX4_losesFrozenSlot 20 = .ok (.invokevirtual 219, 3) := by decide +kernel
theorem dX4_losesFrozenSlot_23 : decode cX4_losesFrozenSlot 23 = .ok (.ifCond .eq 14, 3) := by decide +kernel
theorem dX4_losesFrozenSlot_26 : decode cX4_losesFrozenSlot 26 = .ok (.iload 4, 2) := by decide +kernel
theorem dX4_losesFrozenSlot_28 : decode cX4_losesFrozenSlot 28 = .ok (.iload_n 2, 1) := by decide +kernel
theorem dX4_losesFrozenSlot_29 : decode cX4_losesFrozenSlot 29 = .ok (.invokestatic 222, 3) := by decide +kernel
theorem dX4_losesFrozenSlot_32 : decode cX4_losesFrozenSlot 32 = .ok (.ifCond .ne 5, 3) := by decide +kernel
theorem dX4_losesFrozenSlot_35 : decode cX4_losesFrozenSlot 35 = .ok (.iconst 1, 1) := by decide +kernel
theorem dX4_losesFrozenSlot_36 : decode cX4_losesFrozenSlot 36 = .ok (.ireturn, 1) := by decide +kernel
theorem dX4_losesFrozenSlot_37 : decode cX4_losesFrozenSlot 37 = .ok (.iinc 4 1, 3) := by decide +kernel
theorem dX4_losesFrozenSlot_40 : decode cX4_losesFrozenSlot 40 = .ok (.goto (-32), 3) := by decide +kernel
theorem dX4_losesFrozenSlot_43 : decode cX4_losesFrozenSlot 43 = .ok (.iconst 0, 1) := by decide +kernel
theorem dX4_losesFrozenSlot_44 : decode cX4_losesFrozenSlot 44 = .ok (.ireturn, 1) := by decide +kernel
theorem dX4_moveForward_0 : decode cX4_moveForward 0 = .ok (.aload_n 0, 1) := by decide +kernel
theorem dX4_moveForward_1 : decode cX4_moveForward 1 = .ok (.getfield 19, 3) := by decide +kernel
theorem dX4_moveForward_4 : decode cX4_moveForward 4 = .ok (.getfield 90, 3) := by decide +kernel
theorem dX4_moveForward_7 : decode cX4_moveForward 7 = .ok (.iload_n 1, 1) := by decide +kernel
theorem dX4_moveForward_8 : decode cX4_moveForward 8 = .ok (.iaload, 1) := by decide +kernel
theorem dX4_moveForward_9 : decode cX4_moveForward 9 = .ok (.istore_n 3, 1) := by decide +kernel
theorem dX4_moveForward_10 : decode cX4_moveForward 10 = .ok (.aload_n 0, 1) := by decide +kernel
theorem dX4_moveForward_11 : decode cX4_moveForward 11 = .ok (.iload_n 3, 1) := by decide +kernel
theorem dX4_moveForward_12 : decode cX4_moveForward 12 = .ok (.iconst (-1), 1) := by decide +kernel
theorem dX4_moveForward_13 : decode cX4_moveForward 13 = .ok (.invokevirtual 136, 3) := by decide +kernel
theorem dX4_moveForward_16 : decode cX4_moveForward 16 = .ok (.aload_n 0, 1) := by decide +kernel
theorem dX4_moveForward_17 : decode cX4_moveForward 17 = .ok (.iload_n 2, 1) := by decide +kernel
theorem dX4_moveForward_18 : decode cX4_moveForward 18 = .ok (.iload_n 1, 1) := by decide +kernel
theorem dX4_moveForward_19 : decode cX4_moveForward 19 = .ok (.invokevirtual 136, 3) := by decide +kernel
theorem dX4_moveForward_22 : decode cX4_moveForward 22 = .ok (.aload_n 0, 1) := by decide +kernel
theorem dX4_moveForward_23 : decode cX4_moveForward 23 = .ok (.getfield 19, 3) := by decide +kernel
theorem dX4_moveForward_26 : decode cX4_moveForward 26 = .ok (.getfield 124, 3) := by decide +kernel
theorem dX4_moveForward_29 : decode cX4_moveForward 29 = .ok (.iload_n 1, 1) := by decide +kernel
theorem dX4_moveForward_30 : decode cX4_moveForward 30 = .ok (.iaload, 1) := by decide +kernel
theorem dX4_moveForward_31 : decode cX4_moveForward 31 = .ok (.istore 4, 2) := by decide +kernel
theorem dX4_moveForward_33 : decode cX4_moveForward 33 = .ok (.aload_n 0, 1) := by decide +kernel
theorem dX4_moveForward_34 : decode cX4_moveForward 34 = .ok (.getfield 12, 3) := by decide +kernel
theorem dX4_moveForward_37 : decode cX4_moveForward 37 = .ok (.getfield 97, 3) := by decide +kernel
theorem dX4_moveForward_40 : decode cX4_moveForward 40 = .ok (.iload_n 2, 1) := by decide +kernel
theorem dX4_moveForward_41 : decode cX4_moveForward 41 = .ok (.iaload, 1) := by decide +kernel
theorem dX4_moveForward_42 : decode cX4_moveForward 42 = .ok (.istore 5, 2) := by decide +kernel
theorem dX4_moveForward_44 : decode cX4_moveForward 44 = .ok (.iload 5, 2) := by decide +kernel
theorem dX4_moveForward_46 : decode cX4_moveForward 46 = .ok (.iload 4, 2) := by decide +kernel
theorem dX4_moveForward_48 : decode cX4_moveForward 48 = .ok (.if_icmp .eq 14, 3) := by decide +kernel
theorem dX4_moveForward_51 : decode cX4_moveForward 51 = .ok (.aload_n 0, 1) := by decide +kernel
theorem dX4_moveForward_52 : decode cX4_moveForward 52 = .ok (.getfield 12, 3) := by decide +kernel
theorem dX4_moveForward_55 : decode cX4_moveForward 55 = .ok (.getfield 97, 3) := by decide +kernel
theorem dX4_moveForward_58 : decode cX4_moveForward 58 = .ok (.iload_n 3, 1) := by decide +kernel
theorem dX4_moveForward_59 : decode cX4_moveForward 59 = .ok (.iload 5, 2) := by decide +kernel
theorem dX4_moveForward_61 : decode cX4_moveForward 61 = .ok (.iastore, 1) := by decide +kernel
theorem dX4_moveForward_62 : decode cX4_moveForward 62 = .ok (.aload_n 0, 1) := by decide +kernel
theorem dX4_moveForward_63 : decode cX4_moveForward 63 = .ok (.getfield 12, 3) := by decide +kernel
theorem dX4_moveForward_66 : decode cX4_moveForward 66 = .ok (.getfield 97, 3) := by decide +kernel
theorem dX4_moveForward_69 : decode cX4_moveForward 69 = .ok (.iload_n 2, 1) := by decide +kernel
theorem dX4_moveForward_70 : decode cX4_moveForward 70 = .ok (.iload 4, 2) := by decide +kernel
theorem dX4_moveForward_72 : decode cX4_moveForward 72 = .ok (.iastore, 1) := by decide +kernel
theorem dX4_moveForward_73 : decode cX4_moveForward 73 = .ok (.aload_n 0, 1) := by decide +kernel
theorem dX4_moveForward_74 : decode cX4_moveForward 74 = .ok (.getfield 33, 3) := by decide +kernel
theorem dX4_moveForward_77 : decode cX4_moveForward 77 = .ok (.iconst 3, 1) := by decide +kernel
theorem dX4_moveForward_78 : decode cX4_moveForward 78 = .ok (.iload_n 1, 1) := by decide +kernel
theorem dX4_moveForward_79 : decode cX4_moveForward 79 = .ok (.iload_n 3, 1) := by decide +kernel
theorem dX4_moveForward_80 : decode cX4_moveForward 80 = .ok (.iload_n 2, 1) := by decide +kernel
theorem dX4_moveForward_81 : decode cX4_moveForward 81 = .ok (.invokevirtual 139, 3) := by decide +kernel
theorem dX4_moveForward_84 : decode cX4_moveForward 84 = .ok (.return_, 1) := by decide +kernel
theorem dX4_offer_0 : decode cX4_offer 0 = .ok (.aload_n 0, 1) := by decide +kernel
theorem dX4_offer_1 : decode cX4_offer 1 = .ok (.iload_n 1, 1) := by decide +kernel
theorem dX4_offer_2 : decode cX4_offer 2 = .ok (.invokevirtual 63, 3) := by decide +kernel
theorem dX4_offer_5 : decode cX4_offer 5 = .ok (.iload_n 2, 1) := by decide +kernel
theorem dX4_offer_6 : decode cX4_offer 6 = .ok (.iload_n 3, 1) := by decide +kernel
theorem dX4_offer_7 : decode cX4_offer 7 = .ok (.if_icmp .ne 13, 3) := by decide +kernel
theorem dX4_offer_10 : decode cX4_offer 10 = .ok (.new 37, 3) := by decide +kernel
theorem dX4_offer_13 : decode cX4_offer 13 = .ok (.dup, 1) := by decide +kernel
theorem dX4_offer_14 : decode cX4_offer 14 = .ok (.ldc 142, 2) := by decide +kernel
theorem dX4_offer_16 : decode cX4_offer 16 = .ok (.invokespecial 41, 3) := by decide +kernel
theorem dX4_offer_19 : decode cX4_offer 19 = .ok (.athrow, 1) := by decide +kernel
theorem dX4_offer_20 : decode cX4_offer 20 = .ok (.aload_n 0, 1) := by decide +kernel
theorem dX4_offer_21 : decode cX4_offer 21 = .ok (.iload_n 2, 1) := by decide +kernel
theorem dX4_offer_22 : decode cX4_offer 22 = .ok (.invokevirtual 94, 3) := by decide +kernel
theorem dX4_offer_25 : decode cX4_offer 25 = .ok (.aload_n 0, 1) := by decide +kernel
theorem dX4_offer_26 : decode cX4_offer 26 = .ok (.iload_n 3, 1) := by decide +kernel
theorem dX4_offer_27 : decode cX4_offer 27 = .ok (.invokevirtual 94, 3) := by decide +kernel
theorem dX4_offer_30 : decode cX4_offer 30 = .ok (.aload_n 0, 1) := by decide +kernel
theorem dX4_offer_31 : decode cX4_offer 31 = .ok (.getfield 12, 3) := by decide +kernel
theorem dX4_offer_34 : decode cX4_offer 34 = .ok (.getfield 97, 3) := by decide +kernel
theorem dX4_offer_37 : decode cX4_offer 37 = .ok (.iload_n 2, 1) := by decide +kernel
theorem dX4_offer_38 : decode cX4_offer 38 = .ok (.iaload, 1) := by decide +kernel
theorem dX4_offer_39 : decode cX4_offer 39 = .ok (.iload_n 1, 1) := by decide +kernel
theorem dX4_offer_40 : decode cX4_offer 40 = .ok (.if_icmp .eq 13, 3) := by decide +kernel
theorem dX4_offer_43 : decode cX4_offer 43 = .ok (.new 50, 3) := by decide +kernel
theorem dX4_offer_46 : decode cX4_offer 46 = .ok (.dup, 1) := by decide +kernel
theorem dX4_offer_47 : decode cX4_offer 47 = .ok (.ldc 144, 2) := by decide +kernel
theorem dX4_offer_49 : decode cX4_offer 49 = .ok (.invokespecial 54, 3) := by decide +kernel
theorem dX4_offer_52 : decode cX4_offer 52 = .ok (.athrow, 1) := by decide +kernel
theorem dX4_offer_53 : decode cX4_offer 53 = .ok (.aload_n 0, 1) := by decide +kernel
theorem dX4_offer_54 : decode cX4_offer 54 = .ok (.getfield 26, 3) := by decide +kernel
theorem dX4_offer_57 : decode cX4_offer 57 = .ok (.getfield 146, 3) := by decide +kernel
theorem dX4_offer_60 : decode cX4_offer 60 = .ok (.bipush 40, 2) := by decide +kernel
theorem dX4_offer_62 : decode cX4_offer 62 = .ok (.if_icmp .lt 13, 3) := by decide +kernel
theorem dX4_offer_65 : decode cX4_offer 65 = .ok (.new 50, 3) := by decide +kernel
theorem dX4_offer_68 : decode cX4_offer 68 = .ok (.dup, 1) := by decide +kernel
theorem dX4_offer_69 : decode cX4_offer 69 = .ok (.ldc 147, 2) := by decide +kernel
theorem dX4_offer_71 : decode cX4_offer 71 = .ok (.invokespecial 54, 3) := by decide +kernel
theorem dX4_offer_74 : decode cX4_offer 74 = .ok (.athrow, 1) := by decide +kernel
theorem dX4_offer_75 : decode cX4_offer 75 = .ok (.aload_n 0, 1) := by decide +kernel
theorem dX4_offer_76 : decode cX4_offer 76 = .ok (.getfield 26, 3) := by decide +kernel
theorem dX4_offer_79 : decode cX4_offer 79 = .ok (.iload_n 1, 1) := by decide +kernel
theorem dX4_offer_80 : decode cX4_offer 80 = .ok (.iload_n 2, 1) := by decide +kernel
theorem dX4_offer_81 : decode cX4_offer 81 = .ok (.iload_n 3, 1) := by decide +kernel
theorem dX4_offer_82 : decode cX4_offer 82 = .ok (.invokevirtual 149, 3) := by decide +kernel
theorem dX4_offer_85 : decode cX4_offer 85 = .ok (.ireturn, 1) := by decide +kernel
theorem dX4_owned_0 : decode cX4_owned 0 = .ok (.aload_n 0, 1) := by decide +kernel
theorem dX4_owned_1 : decode cX4_owned 1 = .ok (.iload_n 1, 1) := by decide +kernel
theorem dX4_owned_2 : decode cX4_owned 2 = .ok (.invokevirtual 175, 3) := by decide +kernel
theorem dX4_owned_5 : decode cX4_owned 5 = .ok (.aload_n 0, 1) := by decide +kernel
theorem dX4_owned_6 : decode cX4_owned 6 = .ok (.getfield 12, 3) := by decide +kernel
theorem dX4_owned_9 : decode cX4_owned 9 = .ok (.iload_n 1, 1) := by decide +kernel
theorem dX4_owned_10 : decode cX4_owned 10 = .ok (.invokevirtual 181, 3) := by decide +kernel
theorem dX4_owned_13 : decode cX4_owned 13 = .ok (.ireturn, 1) := by decide +kernel
theorem dX4_ownerOf_0 : decode cX4_ownerOf 0 = .ok (.aload_n 0, 1) := by decide +kernel
theorem dX4_ownerOf_1 : decode cX4_ownerOf 1 = .ok (.iload_n 1, 1) := by decide +kernel
theorem dX4_ownerOf_2 : decode cX4_ownerOf 2 = .ok (.invokevirtual 94, 3) := by decide +kernel
theorem dX4_ownerOf_5 : decode cX4_ownerOf 5 = .ok (.aload_n 0, 1) := by decide +kernel
theorem dX4_ownerOf_6 : decode cX4_ownerOf 6 = .ok (.getfield 12, 3) := by decide +kernel
theorem dX4_ownerOf_9 : decode cX4_ownerOf 9 = .ok (.getfield 97, 3) := by decide +kernel
theorem dX4_ownerOf_12 : decode cX4_ownerOf 12 = .ok (.iload_n 1, 1) := by decide +kernel
theorem dX4_ownerOf_13 : decode cX4_ownerOf 13 = .ok (.iaload, 1) := by decide +kernel
theorem dX4_ownerOf_14 : decode cX4_ownerOf 14 = .ok (.ireturn, 1) := by decide +kernel
theorem dX4_partnerOf_0 : decode cX4_partnerOf 0 = .ok (.iload_n 1, 1) := by decide +kernel
theorem dX4_partnerOf_1 : decode cX4_partnerOf 1 = .ok (.iconst 1, 1) := by decide +kernel
theorem dX4_partnerOf_2 : decode cX4_partnerOf 2 = .ok (.iadd, 1) := by decide +kernel
theorem dX4_partnerOf_3 : decode cX4_partnerOf 3 = .ok (.istore_n 2, 1) := by decide +kernel
theorem dX4_partnerOf_4 : decode cX4_partnerOf 4 = .ok (.iload_n 2, 1) := by decide +kernel
theorem dX4_partnerOf_5 : decode cX4_partnerOf 5 = .ok (.aload_n 0, 1) := by decide +kernel
theorem dX4_partnerOf_6 : decode cX4_partnerOf 6 = .ok (.getfield 26, 3) := by decide +kernel
theorem dX4_partnerOf_9 : decode cX4_partnerOf 9 = .ok (.getfield 146, 3) := by decide +kernel
theorem dX4_partnerOf_12 : decode cX4_partnerOf 12 = .ok (.if_icmp .ge 31, 3) := by decide +kernel
theorem dX4_partnerOf_15 : decode cX4_partnerOf 15 = .ok (.aload_n 0, 1) := by decide +kernel
theorem dX4_partnerOf_16 : decode cX4_partnerOf 16 = .ok (.getfield 26, 3) := by decide +kernel
theorem dX4_partnerOf_19 : decode cX4_partnerOf 19 = .ok (.iload_n 1, 1) := by decide +kernel
theorem dX4_partnerOf_20 : decode cX4_partnerOf 20 = .ok (.iload_n 2, 1) := by decide +kernel
theorem dX4_partnerOf_21 : decode cX4_partnerOf 21 = .ok (.invokevirtual 256, 3) := by decide +kernel
theorem dX4_partnerOf_24 : decode cX4_partnerOf 24 = .ok (.ifCond .eq 13, 3) := by decide +kernel
theorem dX4_partnerOf_27 : decode cX4_partnerOf 27 = .ok (.aload_n 0, 1) := by decide +kernel
theorem dX4_partnerOf_28 : decode cX4_partnerOf 28 = .ok (.iload_n 2, 1) := by decide +kernel
theorem dX4_partnerOf_29 : decode cX4_partnerOf 29 = .ok (.invokevirtual 155, 3) := by decide +kernel
theorem dX4_partnerOf_32 : decode cX4_partnerOf 32 = .ok (.ifCond .eq 5, 3) := by decide +kernel
theorem dX4_partnerOf_35 : decode cX4_partnerOf 35 = .ok (.iload_n 2, 1) := by decide +kernel
theorem dX4_partnerOf_36 : decode cX4_partnerOf 36 = .ok (.ireturn, 1) := by decide +kernel
theorem dX4_partnerOf_37 : decode cX4_partnerOf 37 = .ok (.iinc 2 1, 3) := by decide +kernel
theorem dX4_partnerOf_40 : decode cX4_partnerOf 40 = .ok (.goto (-36), 3) := by decide +kernel
theorem dX4_partnerOf_43 : decode cX4_partnerOf 43 = .ok (.iconst (-1), 1) := by decide +kernel
theorem dX4_partnerOf_44 : decode cX4_partnerOf 44 = .ok (.ireturn, 1) := by decide +kernel
theorem dX4_putIn_0 : decode cX4_putIn 0 = .ok (.aload_n 0, 1) := by decide +kernel
theorem dX4_putIn_1 : decode cX4_putIn 1 = .ok (.getfield 12, 3) := by decide +kernel
theorem dX4_putIn_4 : decode cX4_putIn 4 = .ok (.getfield 100, 3) := by decide +kernel
theorem dX4_putIn_7 : decode cX4_putIn 7 = .ok (.iload_n 1, 1) := by decide +kernel
theorem dX4_putIn_8 : decode cX4_putIn 8 = .ok (.iload_n 2, 1) := by decide +kernel
theorem dX4_putIn_9 : decode cX4_putIn 9 = .ok (.iastore, 1) := by decide +kernel
theorem dX4_putIn_10 : decode cX4_putIn 10 = .ok (.iload_n 2, 1) := by decide +kernel
theorem dX4_putIn_11 : decode cX4_putIn 11 = .ok (.iconst (-1), 1) := by decide +kernel
theorem dX4_putIn_12 : decode cX4_putIn 12 = .ok (.if_icmp .eq 13, 3) := by decide +kernel
theorem dX4_putIn_15 : decode cX4_putIn 15 = .ok (.aload_n 0, 1) := by decide +kernel
theorem dX4_putIn_16 : decode cX4_putIn 16 = .ok (.getfield 19, 3) := by decide +kernel
theorem dX4_putIn_19 : decode cX4_putIn 19 = .ok (.getfield 90, 3) := by decide +kernel
theorem dX4_putIn_22 : decode cX4_putIn 22 = .ok (.iload_n 2, 1) := by decide +kernel
theorem dX4_putIn_23 : decode cX4_putIn 23 = .ok (.iload_n 1, 1) := by decide +kernel
theorem dX4_putIn_24 : decode cX4_putIn 24 = .ok (.iastore, 1) := by decide +kernel
theorem dX4_putIn_25 : decode cX4_putIn 25 = .ok (.return_, 1) := by decide +kernel
theorem dX4_putInFirstSlot_0 : decode cX4_putInFirstSlot 0 = .ok (.aload_n 0, 1) := by decide +kernel
theorem dX4_putInFirstSlot_1 : decode cX4_putInFirstSlot 1 = .ok (.getfield 19, 3) := by decide +kernel
theorem dX4_putInFirstSlot_4 : decode cX4_putInFirstSlot 4 = .ok (.getfield 103, 3) := by decide +kernel
theorem dX4_putInFirstSlot_7 : decode cX4_putInFirstSlot 7 = .ok (.iload_n 1, 1) := by decide +kernel
theorem dX4_putInFirstSlot_8 : decode cX4_putInFirstSlot 8 = .ok (.iaload, 1) := by decide +kernel
theorem dX4_putInFirstSlot_9 : decode cX4_putInFirstSlot 9 = .ok (.istore_n 2, 1) := by decide +kernel
theorem dX4_putInFirstSlot_10 : decode cX4_putInFirstSlot 10 = .ok (.iload_n 2, 1) := by decide +kernel
theorem dX4_putInFirstSlot_11 : decode cX4_putInFirstSlot 11 = .ok (.sipush 240, 3) := by decide +kernel
theorem dX4_putInFirstSlot_14 : decode cX4_putInFirstSlot 14 = .ok (.if_icmp .ge 46, 3) := by decide +kernel
theorem dX4_putInFirstSlot_17 : decode cX4_putInFirstSlot 17 = .ok (.aload_n 0, 1) := by decide +kernel
theorem dX4_putInFirstSlot_18 : decode cX4_putInFirstSlot 18 = .ok (.getfield 12, 3) := by decide +kernel
theorem dX4_putInFirstSlot_21 : decode cX4_putInFirstSlot 21 = .ok (.iload_n 2, 1) := by decide +kernel
theorem dX4_putInFirstSlot_22 : decode cX4_putInFirstSlot 22 = .ok (.invokevirtual 169, 3) := by decide +kernel
theorem dX4_putInFirstSlot_25 : decode cX4_putInFirstSlot 25 = .ok (.ifCond .eq 29, 3) := by decide +kernel
theorem dX4_putInFirstSlot_28 : decode cX4_putInFirstSlot 28 = .ok (.aload_n 0, 1) := by decide +kernel
theorem dX4_putInFirstSlot_29 : decode cX4_putInFirstSlot 29 = .ok (.iload_n 2, 1) := by decide +kernel
theorem dX4_putInFirstSlot_30 : decode cX4_putInFirstSlot 30 = .ok (.iload_n 1, 1) := by decide +kernel
theorem dX4_putInFirstSlot_31 : decode cX4_putInFirstSlot 31 = .ok (.invokevirtual 136, 3) := by decide +kernel
theorem dX4_putInFirstSlot_34 : decode cX4_putInFirstSlot 34 = .ok (.aload_n 0, 1) := by decide +kernel
theorem dX4_putInFirstSlot_35 : decode cX4_putInFirstSlot 35 = .ok (.getfield 12, 3) := by decide +kernel
theorem dX4_putInFirstSlot_38 : decode cX4_putInFirstSlot 38 = .ok (.getfield 97, 3) := by decide +kernel
theorem dX4_putInFirstSlot_41 : decode cX4_putInFirstSlot 41 = .ok (.iload_n 2, 1) := by decide +kernel
theorem dX4_putInFirstSlot_42 : decode cX4_putInFirstSlot 42 = .ok (.aload_n 0, 1) := by decide +kernel
theorem dX4_putInFirstSlot_43 : decode cX4_putInFirstSlot 43 = .ok (.getfield 19, 3) := by decide +kernel
theorem dX4_putInFirstSlot_46 : decode cX4_putInFirstSlot 46 = .ok (.getfield 124, 3) := by decide +kernel
theorem dX4_putInFirstSlot_49 : decode cX4_putInFirstSlot 49 = .ok (.iload_n 1, 1) := by decide +kernel
theorem dX4_putInFirstSlot_50 : decode cX4_putInFirstSlot 50 = .ok (.iaload, 1) := by decide +kernel
theorem dX4_putInFirstSlot_51 : decode cX4_putInFirstSlot 51 = .ok (.iastore, 1) := by decide +kernel
theorem dX4_putInFirstSlot_52 : decode cX4_putInFirstSlot 52 = .ok (.iconst 1, 1) := by decide +kernel
theorem dX4_putInFirstSlot_53 : decode cX4_putInFirstSlot 53 = .ok (.ireturn, 1) := by decide +kernel
theorem dX4_putInFirstSlot_54 : decode cX4_putInFirstSlot 54 = .ok (.iinc 2 1, 3) := by decide +kernel
theorem dX4_putInFirstSlot_57 : decode cX4_putInFirstSlot 57 = .ok (.goto (-47), 3) := by decide +kernel
theorem dX4_putInFirstSlot_60 : decode cX4_putInFirstSlot 60 = .ok (.iconst 0, 1) := by decide +kernel
theorem dX4_putInFirstSlot_61 : decode cX4_putInFirstSlot 61 = .ok (.ireturn, 1) := by decide +kernel
theorem dX4_rate_0 : decode cX4_rate 0 = .ok (.iload_n 1, 1) := by decide +kernel
theorem dX4_rate_1 : decode cX4_rate 1 = .ok (.ifCond .lt 9, 3) := by decide +kernel
theorem dX4_rate_4 : decode cX4_rate 4 = .ok (.iload_n 1, 1) := by decide +kernel
theorem dX4_rate_5 : decode cX4_rate 5 = .ok (.bipush 16, 2) := by decide +kernel
theorem dX4_rate_7 : decode cX4_rate 7 = .ok (.if_icmp .lt 13, 3) := by decide +kernel
theorem dX4_rate_10 : decode cX4_rate 10 = .ok (.new 37, 3) := by decide +kernel
theorem dX4_rate_13 : decode cX4_rate 13 = .ok (.dup, 1) := by decide +kernel
theorem dX4_rate_14 : decode cX4_rate 14 = .ok (.ldc 39, 2) := by decide +kernel
theorem dX4_rate_16 : decode cX4_rate 16 = .ok (.invokespecial 41, 3) := by decide +kernel
theorem dX4_rate_19 : decode cX4_rate 19 = .ok (.athrow, 1) := by decide +kernel
theorem dX4_rate_20 : decode cX4_rate 20 = .ok (.iload_n 2, 1) := by decide +kernel
theorem dX4_rate_21 : decode cX4_rate 21 = .ok (.ifCond .lt 9, 3) := by decide +kernel
theorem dX4_rate_24 : decode cX4_rate 24 = .ok (.iload_n 2, 1) := by decide +kernel
theorem dX4_rate_25 : decode cX4_rate 25 = .ok (.bipush 8, 2) := by decide +kernel
theorem dX4_rate_27 : decode cX4_rate 27 = .ok (.if_icmp .le 13, 3) := by decide +kernel
theorem dX4_rate_30 : decode cX4_rate 30 = .ok (.new 37, 3) := by decide +kernel
theorem dX4_rate_33 : decode cX4_rate 33 = .ok (.dup, 1) := by decide +kernel
theorem dX4_rate_34 : decode cX4_rate 34 = .ok (.ldc 44, 2) := by decide +kernel
theorem dX4_rate_36 : decode cX4_rate 36 = .ok (.invokespecial 41, 3) := by decide +kernel
theorem dX4_rate_39 : decode cX4_rate 39 = .ok (.athrow, 1) := by decide +kernel
theorem dX4_rate_40 : decode cX4_rate 40 = .ok (.aload_n 0, 1) := by decide +kernel
theorem dX4_rate_41 : decode cX4_rate 41 = .ok (.iload_n 1, 1) := by decide +kernel
theorem dX4_rate_42 : decode cX4_rate 42 = .ok (.iload_n 2, 1) := by decide +kernel
theorem dX4_rate_43 : decode cX4_rate 43 = .ok (.invokevirtual 46, 3) := by decide +kernel
theorem dX4_rate_46 : decode cX4_rate 46 = .ok (.ifCond .eq 13, 3) := by decide +kernel
theorem dX4_rate_49 : decode cX4_rate 49 = .ok (.new 50, 3) := by decide +kernel
theorem dX4_rate_52 : decode cX4_rate 52 = .ok (.dup, 1) := by decide +kernel
theorem dX4_rate_53 : decode cX4_rate 53 = .ok (.ldc 52, 2) := by decide +kernel
theorem dX4_rate_55 : decode cX4_rate 55 = .ok (.invokespecial 54, 3) := by decide +kernel
theorem dX4_rate_58 : decode cX4_rate 58 = .ok (.athrow, 1) := by decide +kernel
theorem dX4_rate_59 : decode cX4_rate 59 = .ok (.aload_n 0, 1) := by decide +kernel
theorem dX4_rate_60 : decode cX4_rate 60 = .ok (.getfield 12, 3) := by decide +kernel
theorem dX4_rate_63 : decode cX4_rate 63 = .ok (.iload_n 1, 1) := by decide +kernel
theorem dX4_rate_64 : decode cX4_rate 64 = .ok (.iload_n 2, 1) := by decide +kernel
theorem dX4_rate_65 : decode cX4_rate 65 = .ok (.invokevirtual 55, 3) := by decide +kernel
theorem dX4_rate_68 : decode cX4_rate 68 = .ok (.aload_n 0, 1) := by decide +kernel
theorem dX4_rate_69 : decode cX4_rate 69 = .ok (.invokevirtual 59, 3) := by decide +kernel
theorem dX4_rate_72 : decode cX4_rate 72 = .ok (.ireturn, 1) := by decide +kernel
theorem dX4_ration_0 : decode cX4_ration 0 = .ok (.aload_n 0, 1) := by decide +kernel
theorem dX4_ration_1 : decode cX4_ration 1 = .ok (.invokevirtual 59, 3) := by decide +kernel
theorem dX4_ration_4 : decode cX4_ration 4 = .ok (.ireturn, 1) := by decide +kernel
theorem dX4_rationAll_0 : decode cX4_rationAll 0 = .ok (.aload_n 0, 1) := by decide +kernel
theorem dX4_rationAll_1 : decode cX4_rationAll 1 = .ok (.invokevirtual 225, 3) := by decide +kernel
theorem dX4_rationAll_4 : decode cX4_rationAll 4 = .ok (.aload_n 0, 1) := by decide +kernel
theorem dX4_rationAll_5 : decode cX4_rationAll 5 = .ok (.getfield 33, 3) := by decide +kernel
theorem dX4_rationAll_8 : decode cX4_rationAll 8 = .ok (.invokevirtual 228, 3) := by decide +kernel
theorem dX4_rationAll_11 : decode cX4_rationAll 11 = .ok (.iconst 0, 1) := by decide +kernel
theorem dX4_rationAll_12 : decode cX4_rationAll 12 = .ok (.istore_n 1, 1) := by decide +kernel
theorem dX4_rationAll_13 : decode cX4_rationAll 13 = .ok (.iconst 0, 1) := by decide +kernel
theorem dX4_rationAll_14 : decode cX4_rationAll 14 = .ok (.istore_n 2, 1) := by decide +kernel
theorem dX4_rationAll_15 : decode cX4_rationAll 15 = .ok (.iload_n 2, 1) := by decide +kernel
theorem dX4_rationAll_16 : decode cX4_rationAll 16 = .ok (.aload_n 0, 1) := by decide +kernel
theorem dX4_rationAll_17 : decode cX4_rationAll 17 = .ok (.getfield 19, 3) := by decide +kernel
theorem dX4_rationAll_20 : decode cX4_rationAll 20 = .ok (.getfield 77, 3) := by decide +kernel
theorem dX4_rationAll_23 : decode cX4_rationAll 23 = .ok (.if_icmp .ge 41, 3) := by decide +kernel
theorem dX4_rationAll_26 : decode cX4_rationAll 26 = .ok (.aload_n 0, 1) := by decide +kernel
theorem dX4_rationAll_27 : decode cX4_rationAll 27 = .ok (.getfield 19, 3) := by decide +kernel
theorem dX4_rationAll_30 : decode cX4_rationAll 30 = .ok (.getfield 231, 3) := by decide +kernel
theorem dX4_rationAll_33 : decode cX4_rationAll 33 = .ok (.iload_n 2, 1) := by decide +kernel
theorem dX4_rationAll_34 : decode cX4_rationAll 34 = .ok (.iaload, 1) := by decide +kernel
theorem dX4_rationAll_35 : decode cX4_rationAll 35 = .ok (.istore_n 3, 1) := by decide +kernel
theorem dX4_rationAll_36 : decode cX4_rationAll 36 = .ok (.aload_n 0, 1) := by decide +kernel
theorem dX4_rationAll_37 : decode cX4_rationAll 37 = .ok (.getfield 19, 3) := by decide +kernel
theorem dX4_rationAll_40 : decode cX4_rationAll 40 = .ok (.iload_n 3, 1) := by decide +kernel
theorem dX4_rationAll_41 : decode cX4_rationAll 41 = .ok (.invokevirtual 214, 3) := by decide +kernel
theorem dX4_rationAll_44 : decode cX4_rationAll 44 = .ok (.ifCond .eq 14, 3) := by decide +kernel
theorem dX4_rationAll_47 : decode cX4_rationAll 47 = .ok (.aload_n 0, 1) := by decide +kernel
theorem dX4_rationAll_48 : decode cX4_rationAll 48 = .ok (.iload_n 3, 1) := by decide +kernel
theorem dX4_rationAll_49 : decode cX4_rationAll 49 = .ok (.invokevirtual 234, 3) := by decide +kernel
theorem dX4_rationAll_52 : decode cX4_rationAll 52 = .ok (.ifCond .ne 6, 3) := by decide +kernel
theorem dX4_rationAll_55 : decode cX4_rationAll 55 = .ok (.iinc 1 1, 3) := by decide +kernel
theorem dX4_rationAll_58 : decode cX4_rationAll 58 = .ok (.iinc 2 1, 3) := by decide +kernel
theorem dX4_rationAll_61 : decode cX4_rationAll 61 = .ok (.goto (-46), 3) := by decide +kernel
theorem dX4_rationAll_64 : decode cX4_rationAll 64 = .ok (.iload_n 1, 1) := by decide +kernel
theorem dX4_rationAll_65 : decode cX4_rationAll 65 = .ok (.ireturn, 1) := by decide +kernel
theorem dX4_slotOf_0 : decode cX4_slotOf 0 = .ok (.aload_n 0, 1) := by decide +kernel
theorem dX4_slotOf_1 : decode cX4_slotOf 1 = .ok (.iload_n 1, 1) := by decide +kernel
theorem dX4_slotOf_2 : decode cX4_slotOf 2 = .ok (.invokevirtual 87, 3) := by decide +kernel
theorem dX4_slotOf_5 : decode cX4_slotOf 5 = .ok (.aload_n 0, 1) := by decide +kernel
theorem dX4_slotOf_6 : decode cX4_slotOf 6 = .ok (.getfield 19, 3) := by decide +kernel
theorem dX4_slotOf_9 : decode cX4_slotOf 9 = .ok (.getfield 90, 3) := by decide +kernel
theorem dX4_slotOf_12 : decode cX4_slotOf 12 = .ok (.iload_n 1, 1) := by decide +kernel
theorem dX4_slotOf_13 : decode cX4_slotOf 13 = .ok (.iaload, 1) := by decide +kernel
theorem dX4_slotOf_14 : decode cX4_slotOf 14 = .ok (.ireturn, 1) := by decide +kernel
theorem dX4_swap_0 : decode cX4_swap 0 = .ok (.aload_n 0, 1) := by decide +kernel
theorem dX4_swap_1 : decode cX4_swap 1 = .ok (.iload_n 1, 1) := by decide +kernel
theorem dX4_swap_2 : decode cX4_swap 2 = .ok (.invokevirtual 87, 3) := by decide +kernel
theorem dX4_swap_5 : decode cX4_swap 5 = .ok (.aload_n 0, 1) := by decide +kernel
theorem dX4_swap_6 : decode cX4_swap 6 = .ok (.iload_n 2, 1) := by decide +kernel
theorem dX4_swap_7 : decode cX4_swap 7 = .ok (.invokevirtual 87, 3) := by decide +kernel
theorem dX4_swap_10 : decode cX4_swap 10 = .ok (.iload_n 1, 1) := by decide +kernel
theorem dX4_swap_11 : decode cX4_swap 11 = .ok (.iload_n 2, 1) := by decide +kernel
theorem dX4_swap_12 : decode cX4_swap 12 = .ok (.if_icmp .eq 24, 3) := by decide +kernel
theorem dX4_swap_15 : decode cX4_swap 15 = .ok (.aload_n 0, 1) := by decide +kernel
theorem dX4_swap_16 : decode cX4_swap 16 = .ok (.getfield 19, 3) := by decide +kernel
theorem dX4_swap_19 : decode cX4_swap 19 = .ok (.getfield 124, 3) := by decide +kernel
theorem dX4_swap_22 : decode cX4_swap 22 = .ok (.iload_n 1, 1) := by decide +kernel
theorem dX4_swap_23 : decode cX4_swap 23 = .ok (.iaload, 1) := by decide +kernel
theorem dX4_swap_24 : decode cX4_swap 24 = .ok (.aload_n 0, 1) := by decide +kernel
theorem dX4_swap_25 : decode cX4_swap 25 = .ok (.getfield 19, 3) := by decide +kernel
theorem dX4_swap_28 : decode cX4_swap 28 = .ok (.getfield 124, 3) := by decide +kernel
theorem dX4_swap_31 : decode cX4_swap 31 = .ok (.iload_n 2, 1) := by decide +kernel
theorem dX4_swap_32 : decode cX4_swap 32 = .ok (.iaload, 1) := by decide +kernel
theorem dX4_swap_33 : decode cX4_swap 33 = .ok (.if_icmp .eq 13, 3) := by decide +kernel
theorem dX4_swap_36 : decode cX4_swap 36 = .ok (.new 37, 3) := by decide +kernel
theorem dX4_swap_39 : decode cX4_swap 39 = .ok (.dup, 1) := by decide +kernel
theorem dX4_swap_40 : decode cX4_swap 40 = .ok (.ldc 127, 2) := by decide +kernel
theorem dX4_swap_42 : decode cX4_swap 42 = .ok (.invokespecial 41, 3) := by decide +kernel
theorem dX4_swap_45 : decode cX4_swap 45 = .ok (.athrow, 1) := by decide +kernel
theorem dX4_swap_46 : decode cX4_swap 46 = .ok (.aload_n 0, 1) := by decide +kernel
theorem dX4_swap_47 : decode cX4_swap 47 = .ok (.getfield 19, 3) := by decide +kernel
theorem dX4_swap_50 : decode cX4_swap 50 = .ok (.getfield 90, 3) := by decide +kernel
theorem dX4_swap_53 : decode cX4_swap 53 = .ok (.iload_n 1, 1) := by decide +kernel
theorem dX4_swap_54 : decode cX4_swap 54 = .ok (.iaload, 1) := by decide +kernel
theorem dX4_swap_55 : decode cX4_swap 55 = .ok (.istore_n 3, 1) := by decide +kernel
theorem dX4_swap_56 : decode cX4_swap 56 = .ok (.aload_n 0, 1) := by decide +kernel
theorem dX4_swap_57 : decode cX4_swap 57 = .ok (.getfield 19, 3) := by decide +kernel
theorem dX4_swap_60 : decode cX4_swap 60 = .ok (.getfield 90, 3) := by decide +kernel
theorem dX4_swap_63 : decode cX4_swap 63 = .ok (.iload_n 2, 1) := by decide +kernel
theorem dX4_swap_64 : decode cX4_swap 64 = .ok (.iaload, 1) := by decide +kernel
theorem dX4_swap_65 : decode cX4_swap 65 = .ok (.istore 4, 2) := by decide +kernel
theorem dX4_swap_67 : decode cX4_swap 67 = .ok (.iload_n 3, 1) := by decide +kernel
theorem dX4_swap_68 : decode cX4_swap 68 = .ok (.iconst (-1), 1) := by decide +kernel
theorem dX4_swap_69 : decode cX4_swap 69 = .ok (.if_icmp .eq 9, 3) := by decide +kernel
theorem dX4_swap_72 : decode cX4_swap 72 = .ok (.iload 4, 2) := by decide +kernel
theorem dX4_swap_74 : decode cX4_swap 74 = .ok (.iconst (-1), 1) := by decide +kernel
theorem dX4_swap_75 : decode cX4_swap 75 = .ok (.if_icmp .ne 13, 3) := by decide +kernel
theorem dX4_swap_78 : decode cX4_swap 78 = .ok (.new 50, 3) := by decide +kernel
theorem dX4_swap_81 : decode cX4_swap 81 = .ok (.dup, 1) := by decide +kernel
theorem dX4_swap_82 : decode cX4_swap 82 = .ok (.ldc 129, 2) := by decide +kernel
theorem dX4_swap_84 : decode cX4_swap 84 = .ok (.invokespecial 54, 3) := by decide +kernel
theorem dX4_swap_87 : decode cX4_swap 87 = .ok (.athrow, 1) := by decide +kernel
theorem dX4_swap_88 : decode cX4_swap 88 = .ok (.aload_n 0, 1) := by decide +kernel
theorem dX4_swap_89 : decode cX4_swap 89 = .ok (.iload_n 1, 1) := by decide +kernel
theorem dX4_swap_90 : decode cX4_swap 90 = .ok (.iload 4, 2) := by decide +kernel
theorem dX4_swap_92 : decode cX4_swap 92 = .ok (.invokevirtual 131, 3) := by decide +kernel
theorem dX4_swap_95 : decode cX4_swap 95 = .ok (.ifCond .eq 12, 3) := by decide +kernel
theorem dX4_swap_98 : decode cX4_swap 98 = .ok (.aload_n 0, 1) := by decide +kernel
theorem dX4_swap_99 : decode cX4_swap 99 = .ok (.iload_n 2, 1) := by decide +kernel
theorem dX4_swap_100 : decode cX4_swap 100 = .ok (.iload_n 3, 1) := by decide +kernel
theorem dX4_swap_101 : decode cX4_swap 101 = .ok (.invokevirtual 131, 3) := by decide +kernel
theorem dX4_swap_104 : decode cX4_swap 104 = .ok (.ifCond .ne 13, 3) := by decide +kernel
theorem dX4_swap_107 : decode cX4_swap 107 = .ok (.new 50, 3) := by decide +kernel
theorem dX4_swap_110 : decode cX4_swap 110 = .ok (.dup, 1) := by decide +kernel
theorem dX4_swap_111 : decode cX4_swap 111 = .ok (.ldc 134, 2) := by decide +kernel
theorem dX4_swap_113 : decode cX4_swap 113 = .ok (.invokespecial 54, 3) := by decide +kernel
theorem dX4_swap_116 : decode cX4_swap 116 = .ok (.athrow, 1) := by decide +kernel
theorem dX4_swap_117 : decode cX4_swap 117 = .ok (.aload_n 0, 1) := by decide +kernel
theorem dX4_swap_118 : decode cX4_swap 118 = .ok (.iload 4, 2) := by decide +kernel
theorem dX4_swap_120 : decode cX4_swap 120 = .ok (.iload_n 1, 1) := by decide +kernel
theorem dX4_swap_121 : decode cX4_swap 121 = .ok (.invokevirtual 136, 3) := by decide +kernel
theorem dX4_swap_124 : decode cX4_swap 124 = .ok (.aload_n 0, 1) := by decide +kernel
theorem dX4_swap_125 : decode cX4_swap 125 = .ok (.iload_n 3, 1) := by decide +kernel
theorem dX4_swap_126 : decode cX4_swap 126 = .ok (.iload_n 2, 1) := by decide +kernel
theorem dX4_swap_127 : decode cX4_swap 127 = .ok (.invokevirtual 136, 3) := by decide +kernel
theorem dX4_swap_130 : decode cX4_swap 130 = .ok (.aload_n 0, 1) := by decide +kernel
theorem dX4_swap_131 : decode cX4_swap 131 = .ok (.getfield 33, 3) := by decide +kernel
theorem dX4_swap_134 : decode cX4_swap 134 = .ok (.iconst 1, 1) := by decide +kernel
theorem dX4_swap_135 : decode cX4_swap 135 = .ok (.iload_n 1, 1) := by decide +kernel
theorem dX4_swap_136 : decode cX4_swap 136 = .ok (.iload_n 3, 1) := by decide +kernel
theorem dX4_swap_137 : decode cX4_swap 137 = .ok (.iload 4, 2) := by decide +kernel
theorem dX4_swap_139 : decode cX4_swap 139 = .ok (.invokevirtual 139, 3) := by decide +kernel
theorem dX4_swap_142 : decode cX4_swap 142 = .ok (.return_, 1) := by decide +kernel
theorem dX4_takeOut_0 : decode cX4_takeOut 0 = .ok (.aload_n 0, 1) := by decide +kernel
theorem dX4_takeOut_1 : decode cX4_takeOut 1 = .ok (.getfield 19, 3) := by decide +kernel
theorem dX4_takeOut_4 : decode cX4_takeOut 4 = .ok (.getfield 90, 3) := by decide +kernel
theorem dX4_takeOut_7 : decode cX4_takeOut 7 = .ok (.iload_n 1, 1) := by decide +kernel
theorem dX4_takeOut_8 : decode cX4_takeOut 8 = .ok (.iaload, 1) := by decide +kernel
theorem dX4_takeOut_9 : decode cX4_takeOut 9 = .ok (.istore_n 3, 1) := by decide +kernel
theorem dX4_takeOut_10 : decode cX4_takeOut 10 = .ok (.aload_n 0, 1) := by decide +kernel
theorem dX4_takeOut_11 : decode cX4_takeOut 11 = .ok (.getfield 12, 3) := by decide +kernel
theorem dX4_takeOut_14 : decode cX4_takeOut 14 = .ok (.getfield 100, 3) := by decide +kernel
theorem dX4_takeOut_17 : decode cX4_takeOut 17 = .ok (.iload_n 3, 1) := by decide +kernel
theorem dX4_takeOut_18 : decode cX4_takeOut 18 = .ok (.iconst (-1), 1) := by decide +kernel
theorem dX4_takeOut_19 : decode cX4_takeOut 19 = .ok (.iastore, 1) := by decide +kernel
theorem dX4_takeOut_20 : decode cX4_takeOut 20 = .ok (.aload_n 0, 1) := by decide +kernel
theorem dX4_takeOut_21 : decode cX4_takeOut 21 = .ok (.getfield 19, 3) := by decide +kernel
theorem dX4_takeOut_24 : decode cX4_takeOut 24 = .ok (.getfield 90, 3) := by decide +kernel
theorem dX4_takeOut_27 : decode cX4_takeOut 27 = .ok (.iload_n 1, 1) := by decide +kernel
theorem dX4_takeOut_28 : decode cX4_takeOut 28 = .ok (.iconst (-1), 1) := by decide +kernel
theorem dX4_takeOut_29 : decode cX4_takeOut 29 = .ok (.iastore, 1) := by decide +kernel
theorem dX4_takeOut_30 : decode cX4_takeOut 30 = .ok (.aload_n 0, 1) := by decide +kernel
theorem dX4_takeOut_31 : decode cX4_takeOut 31 = .ok (.getfield 33, 3) := by decide +kernel
theorem dX4_takeOut_34 : decode cX4_takeOut 34 = .ok (.iload_n 2, 1) := by decide +kernel
theorem dX4_takeOut_35 : decode cX4_takeOut 35 = .ok (.iload_n 1, 1) := by decide +kernel
theorem dX4_takeOut_36 : decode cX4_takeOut 36 = .ok (.iload_n 3, 1) := by decide +kernel
theorem dX4_takeOut_37 : decode cX4_takeOut 37 = .ok (.iconst (-1), 1) := by decide +kernel
theorem dX4_takeOut_38 : decode cX4_takeOut 38 = .ok (.invokevirtual 139, 3) := by decide +kernel
theorem dX4_takeOut_41 : decode cX4_takeOut 41 = .ok (.return_, 1) := by decide +kernel
theorem dX4_trade_0 : decode cX4_trade 0 = .ok (.iconst 0, 1) := by decide +kernel
theorem dX4_trade_1 : decode cX4_trade 1 = .ok (.istore_n 1, 1) := by decide +kernel
theorem dX4_trade_2 : decode cX4_trade 2 = .ok (.iconst 0, 1) := by decide +kernel
theorem dX4_trade_3 : decode cX4_trade 3 = .ok (.istore_n 2, 1) := by decide +kernel
theorem dX4_trade_4 : decode cX4_trade 4 = .ok (.iload_n 2, 1) := by decide +kernel
theorem dX4_trade_5 : decode cX4_trade 5 = .ok (.aload_n 0, 1) := by decide +kernel
theorem dX4_trade_6 : decode cX4_trade 6 = .ok (.getfield 26, 3) := by decide +kernel
theorem dX4_trade_9 : decode cX4_trade 9 = .ok (.getfield 146, 3) := by decide +kernel
theorem dX4_trade_12 : decode cX4_trade 12 = .ok (.if_icmp .ge 25, 3) := by decide +kernel
theorem dX4_trade_15 : decode cX4_trade 15 = .ok (.aload_n 0, 1) := by decide +kernel
theorem dX4_trade_16 : decode cX4_trade 16 = .ok (.iload_n 2, 1) := by decide +kernel
theorem dX4_trade_17 : decode cX4_trade 17 = .ok (.invokevirtual 155, 3) := by decide +kernel
theorem dX4_trade_20 : decode cX4_trade 20 = .ok (.ifCond .eq 11, 3) := by decide +kernel
theorem dX4_trade_23 : decode cX4_trade 23 = .ok (.iload_n 1, 1) := by decide +kernel
theorem dX4_trade_24 : decode cX4_trade 24 = .ok (.aload_n 0, 1) := by decide +kernel
theorem dX4_trade_25 : decode cX4_trade 25 = .ok (.iload_n 2, 1) := by decide +kernel
theorem dX4_trade_26 : decode cX4_trade 26 = .ok (.invokevirtual 159, 3) := by decide +kernel
theorem dX4_trade_29 : decode cX4_trade 29 = .ok (.iadd, 1) := by decide +kernel
theorem dX4_trade_30 : decode cX4_trade 30 = .ok (.istore_n 1, 1) := by decide +kernel
theorem dX4_trade_31 : decode cX4_trade 31 = .ok (.iinc 2 1, 3) := by decide +kernel
theorem dX4_trade_34 : decode cX4_trade 34 = .ok (.goto (-30), 3) := by decide +kernel
theorem dX4_trade_37 : decode cX4_trade 37 = .ok (.iload_n 1, 1) := by decide +kernel
theorem dX4_trade_38 : decode cX4_trade 38 = .ok (.ireturn, 1) := by decide +kernel
end
section
theorem dX5_airborne_0 : decode cX5_airborne 0 = .ok (.aload_n 0, 1) := by decide +kernel
theorem dX5_airborne_1 : decode cX5_airborne 1 = .ok (.aload_n 0, 1) := by decide +kernel
theorem dX5_airborne_2 : decode cX5_airborne 2 = .ok (.iload_n 1, 1) := by decide +kernel
theorem dX5_airborne_3 : decode cX5_airborne 3 = .ok (.invokevirtual 91, 3) := by decide +kernel
theorem dX5_airborne_6 : decode cX5_airborne 6 = .ok (.ifCond .ne 7, 3) := by decide +kernel
theorem dX5_airborne_9 : decode cX5_airborne 9 = .ok (.iconst 1, 1) := by decide +kernel
theorem dX5_airborne_10 : decode cX5_airborne 10 = .ok (.goto 26, 3) := by decide +kernel
theorem dX5_airborne_13 : decode cX5_airborne 13 = .ok (.aload_n 0, 1) := by decide +kernel
theorem dX5_airborne_14 : decode cX5_airborne 14 = .ok (.getfield 35, 3) := by decide +kernel
theorem dX5_airborne_17 : decode cX5_airborne 17 = .ok (.iload_n 1, 1) := by decide +kernel
theorem dX5_airborne_18 : decode cX5_airborne 18 = .ok (.baload, 1) := by decide +kernel
theorem dX5_airborne_19 : decode cX5_airborne 19 = .ok (.ifCond .ne 12, 3) := by decide +kernel
theorem dX5_airborne_22 : decode cX5_airborne 22 = .ok (.aload_n 0, 1) := by decide +kernel
theorem dX5_airborne_23 : decode cX5_airborne 23 = .ok (.getfield 29, 3) := by decide +kernel
theorem dX5_airborne_26 : decode cX5_airborne 26 = .ok (.iload_n 1, 1) := by decide +kernel
theorem dX5_airborne_27 : decode cX5_airborne 27 = .ok (.iaload, 1) := by decide +kernel
theorem dX5_airborne_28 : decode cX5_airborne 28 = .ok (.ifCond .ge 7, 3) := by decide +kernel
theorem dX5_airborne_31 : decode cX5_airborne 31 = .ok (.iconst 2, 1) := by decide +kernel
theorem dX5_airborne_32 : decode cX5_airborne 32 = .ok (.goto 4, 3) := by decide +kernel
theorem dX5_airborne_35 : decode cX5_airborne 35 = .ok (.iconst 0, 1) := by decide +kernel
theorem dX5_airborne_36 : decode cX5_airborne 36 = .ok (.putfield 56, 3) := by decide +kernel
theorem dX5_airborne_39 : decode cX5_airborne 39 = .ok (.aload_n 0, 1) := by decide +kernel
theorem dX5_airborne_40 : decode cX5_airborne 40 = .ok (.getfield 56, 3) := by decide +kernel
theorem dX5_airborne_43 : decode cX5_airborne 43 = .ok (.ifCond .ne 10, 3) := by decide +kernel
theorem dX5_airborne_46 : decode cX5_airborne 46 = .ok (.aload_n 0, 1) := by decide +kernel
theorem dX5_airborne_47 : decode cX5_airborne 47 = .ok (.getfield 35, 3) := by decide +kernel
theorem dX5_airborne_50 : decode cX5_airborne 50 = .ok (.iload_n 1, 1) := by decide +kernel
theorem dX5_airborne_51 : decode cX5_airborne 51 = .ok (.iconst 1, 1) := by decide +kernel
theorem dX5_airborne_52 : decode cX5_airborne 52 = .ok (.bastore, 1) := by decide +kernel
theorem dX5_airborne_53 : decode cX5_airborne 53 = .ok (.return_, 1) := by decide +kernel
theorem dX5_cancel_0 : decode cX5_cancel 0 = .ok (.aload_n 0, 1) := by decide +kernel
theorem dX5_cancel_1 : decode cX5_cancel 1 = .ok (.aload_n 0, 1) := by decide +kernel
theorem dX5_cancel_2 : decode cX5_cancel 2 = .ok (.iload_n 1, 1) := by decide +kernel
theorem dX5_cancel_3 : decode cX5_cancel 3 = .ok (.invokevirtual 91, 3) := by decide +kernel
theorem dX5_cancel_6 : decode cX5_cancel 6 = .ok (.ifCond .ne 7, 3) := by decide +kernel
theorem dX5_cancel_9 : decode cX5_cancel 9 = .ok (.iconst 1, 1) := by decide +kernel
theorem dX5_cancel_10 : decode cX5_cancel 10 = .ok (.goto 16, 3) := by decide +kernel
theorem dX5_cancel_13 : decode cX5_cancel 13 = .ok (.aload_n 0, 1) := by decide +kernel
theorem dX5_cancel_14 : decode cX5_cancel 14 = .ok (.iload_n 1, 1) := by decide +kernel
theorem dX5_cancel_15 : decode cX5_cancel 15 = .ok (.invokevirtual 66, 3) := by decide +kernel
theorem dX5_cancel_18 : decode cX5_cancel 18 = .ok (.ifCond .ne 7, 3) := by decide +kernel
theorem dX5_cancel_21 : decode cX5_cancel 21 = .ok (.iconst 2, 1) := by decide +kernel
theorem dX5_cancel_22 : decode cX5_cancel 22 = .ok (.goto 4, 3) := by decide +kernel
theorem dX5_cancel_25 : decode cX5_cancel 25 = .ok (.iconst 0, 1) := by decide +kernel
theorem dX5_cancel_26 : decode cX5_cancel 26 = .ok (.putfield 56, 3) := by decide +kernel
theorem dX5_cancel_29 : decode cX5_cancel 29 = .ok (.aload_n 0, 1) := by decide +kernel
theorem dX5_cancel_30 : decode cX5_cancel 30 = .ok (.getfield 56, 3) := by decide +kernel
theorem dX5_cancel_33 : decode cX5_cancel 33 = .ok (.ifCond .le 5, 3) := by decide +kernel
theorem dX5_cancel_36 : decode cX5_cancel 36 = .ok (.iconst 0, 1) := by decide +kernel
theorem dX5_cancel_37 : decode cX5_cancel 37 = .ok (.ireturn, 1) := by decide +kernel
theorem dX5_cancel_38 : decode cX5_cancel 38 = .ok (.aload_n 0, 1) := by decide +kernel
theorem dX5_cancel_39 : decode cX5_cancel 39 = .ok (.getfield 32, 3) := by decide +kernel
theorem dX5_cancel_42 : decode cX5_cancel 42 = .ok (.iload_n 1, 1) := by decide +kernel
theorem dX5_cancel_43 : decode cX5_cancel 43 = .ok (.iconst 1, 1) := by decide +kernel
theorem dX5_cancel_44 : decode cX5_cancel 44 = .ok (.bastore, 1) := by decide +kernel
theorem dX5_cancel_45 : decode cX5_cancel 45 = .ok (.aload_n 0, 1) := by decide +kernel
theorem dX5_cancel_46 : decode cX5_cancel 46 = .ok (.getfield 29, 3) := by decide +kernel
theorem dX5_cancel_49 : decode cX5_cancel 49 = .ok (.iload_n 1, 1) := by decide +kernel
theorem dX5_cancel_50 : decode cX5_cancel 50 = .ok (.iaload, 1) := by decide +kernel
theorem dX5_cancel_51 : decode cX5_cancel 51 = .ok (.istore_n 2, 1) := by decide +kernel
theorem dX5_cancel_52 : decode cX5_cancel 52 = .ok (.iload_n 2, 1) := by decide +kernel
theorem dX5_cancel_53 : decode cX5_cancel 53 = .ok (.ifCond .ge 5, 3) := by decide +kernel
theorem dX5_cancel_56 : decode cX5_cancel 56 = .ok (.iconst 0, 1) := by decide +kernel
theorem dX5_cancel_57 : decode cX5_cancel 57 = .ok (.ireturn, 1) := by decide +kernel
theorem dX5_cancel_58 : decode cX5_cancel 58 = .ok (.aload_n 0, 1) := by decide +kernel
theorem dX5_cancel_59 : decode cX5_cancel 59 = .ok (.iload_n 2, 1) := by decide +kernel
theorem dX5_cancel_60 : decode cX5_cancel 60 = .ok (.invokevirtual 73, 3) := by decide +kernel
theorem dX5_cancel_63 : decode cX5_cancel 63 = .ok (.aload_n 0, 1) := by decide +kernel
theorem dX5_cancel_64 : decode cX5_cancel 64 = .ok (.iconst 5, 1) := by decide +kernel
theorem dX5_cancel_65 : decode cX5_cancel 65 = .ok (.iload_n 1, 1) := by decide +kernel
theorem dX5_cancel_66 : decode cX5_cancel 66 = .ok (.iload_n 2, 1) := by decide +kernel
theorem dX5_cancel_67 : decode cX5_cancel 67 = .ok (.iconst (-1), 1) := by decide +kernel
theorem dX5_cancel_68 : decode cX5_cancel 68 = .ok (.invokevirtual 97, 3) := by decide +kernel
theorem dX5_cancel_71 : decode cX5_cancel 71 = .ok (.iconst 1, 1) := by decide +kernel
theorem dX5_cancel_72 : decode cX5_cancel 72 = .ok (.ireturn, 1) := by decide +kernel
theorem dX5_close_0 : decode cX5_close 0 = .ok (.aload_n 0, 1) := by decide +kernel
theorem dX5_close_1 : decode cX5_close 1 = .ok (.getfield 50, 3) := by decide +kernel
theorem dX5_close_4 : decode cX5_close 4 = .ok (.iload_n 1, 1) := by decide +kernel
theorem dX5_close_5 : decode cX5_close 5 = .ok (.iconst 0, 1) := by decide +kernel
theorem dX5_close_6 : decode cX5_close 6 = .ok (.bastore, 1) := by decide +kernel
theorem dX5_close_7 : decode cX5_close 7 = .ok (.aload_n 0, 1) := by decide +kernel
theorem dX5_close_8 : decode cX5_close 8 = .ok (.iconst 2, 1) := by decide +kernel
theorem dX5_close_9 : decode cX5_close 9 = .ok (.aload_n 0, 1) := by decide +kernel
theorem dX5_close_10 : decode cX5_close 10 = .ok (.getfield 17, 3) := by decide +kernel
theorem dX5_close_13 : decode cX5_close 13 = .ok (.aload_n 0, 1) := by decide +kernel
theorem dX5_close_14 : decode cX5_close 14 = .ok (.getfield 44, 3) := by decide +kernel
theorem dX5_close_17 : decode cX5_close 17 = .ok (.iload_n 1, 1) := by decide +kernel
theorem dX5_close_18 : decode cX5_close 18 = .ok (.iaload, 1) := by decide +kernel
theorem dX5_close_19 : decode cX5_close 19 = .ok (.iaload, 1) := by decide +kernel
theorem dX5_close_20 : decode cX5_close 20 = .ok (.aload_n 0, 1) := by decide +kernel
theorem dX5_close_21 : decode cX5_close 21 = .ok (.getfield 44, 3) := by decide +kernel
theorem dX5_close_24 : decode cX5_close 24 = .ok (.iload_n 1, 1) := by decide +kernel
theorem dX5_close_25 : decode cX5_close 25 = .ok (.iaload, 1) := by decide +kernel
theorem dX5_close_26 : decode cX5_close 26 = .ok (.aload_n 0, 1) := by decide +kernel
theorem dX5_close_27 : decode cX5_close 27 = .ok (.getfield 47, 3) := by decide +kernel
theorem dX5_close_30 : decode cX5_close 30 = .ok (.iload_n 1, 1) := by decide +kernel
theorem dX5_close_31 : decode cX5_close 31 = .ok (.iaload, 1) := by decide +kernel
theorem dX5_close_32 : decode cX5_close 32 = .ok (.invokevirtual 97, 3) := by decide +kernel
theorem dX5_close_35 : decode cX5_close 35 = .ok (.return_, 1) := by decide +kernel
theorem dX5_compress_0 : decode cX5_compress 0 = .ok (.aload_n 0, 1) := by decide +kernel
theorem dX5_compress_1 : decode cX5_compress 1 = .ok (.iconst 0, 1) := by decide +kernel
theorem dX5_compress_2 : decode cX5_compress 2 = .ok (.putfield 56, 3) := by decide +kernel
theorem dX5_compress_5 : decode cX5_compress 5 = .ok (.iconst 0, 1) := by decide +kernel
theorem dX5_compress_6 : decode cX5_compress 6 = .ok (.istore_n 1, 1) := by decide +kernel
theorem dX5_compress_7 : decode cX5_compress 7 = .ok (.aload_n 0, 1) := by decide +kernel
theorem dX5_compress_8 : decode cX5_compress 8 = .ok (.invokevirtual 129, 3) := by decide +kernel
theorem dX5_compress_11 : decode cX5_compress 11 = .ok (.ifCond .eq 9, 3) := by decide +kernel
theorem dX5_compress_14 : decode cX5_compress 14 = .ok (.iinc 1 1, 3) := by decide +kernel
theorem dX5_compress_17 : decode cX5_compress 17 = .ok (.goto (-10), 3) := by decide +kernel
theorem dX5_compress_20 : decode cX5_compress 20 = .ok (.iload_n 1, 1) := by decide +kernel
theorem dX5_compress_21 : decode cX5_compress 21 = .ok (.ireturn, 1) := by decide +kernel
theorem dX5_delay_0 : decode cX5_delay 0 = .ok (.aload_n 0, 1) := by decide +kernel
theorem dX5_delay_1 : decode cX5_delay 1 = .ok (.iload_n 1, 1) := by decide +kernel
theorem dX5_delay_2 : decode cX5_delay 2 = .ok (.iconst (-1), 1) := by decide +kernel
theorem dX5_delay_3 : decode cX5_delay 3 = .ok (.bipush 7, 2) := by decide +kernel
theorem dX5_delay_5 : decode cX5_delay 5 = .ok (.invokestatic 84, 3) := by decide +kernel
theorem dX5_delay_8 : decode cX5_delay 8 = .ok (.ifCond .eq 7, 3) := by decide +kernel
theorem dX5_delay_11 : decode cX5_delay 11 = .ok (.iconst 0, 1) := by decide +kernel
theorem dX5_delay_12 : decode cX5_delay 12 = .ok (.goto 4, 3) := by decide +kernel
theorem dX5_delay_15 : decode cX5_delay 15 = .ok (.iconst 1, 1) := by decide +kernel
theorem dX5_delay_16 : decode cX5_delay 16 = .ok (.putfield 56, 3) := by decide +kernel
theorem dX5_delay_19 : decode cX5_delay 19 = .ok (.iconst 0, 1) := by decide +kernel
theorem dX5_delay_20 : decode cX5_delay 20 = .ok (.istore_n 2, 1) := by decide +kernel
theorem dX5_delay_21 : decode cX5_delay 21 = .ok (.iconst 0, 1) := by decide +kernel
theorem dX5_delay_22 : decode cX5_delay 22 = .ok (.istore_n 3, 1) := by decide +kernel
theorem dX5_delay_23 : decode cX5_delay 23 = .ok (.iload_n 3, 1) := by decide +kernel
theorem dX5_delay_24 : decode cX5_delay 24 = .ok (.aload_n 0, 1) := by decide +kernel
theorem dX5_delay_25 : decode cX5_delay 25 = .ok (.getfield 60, 3) := by decide +kernel
theorem dX5_delay_28 : decode cX5_delay 28 = .ok (.if_icmp .ge 60, 3) := by decide +kernel
theorem dX5_delay_31 : decode cX5_delay 31 = .ok (.aload_n 0, 1) := by decide +kernel
theorem dX5_delay_32 : decode cX5_delay 32 = .ok (.getfield 56, 3) := by decide +kernel
theorem dX5_delay_35 : decode cX5_delay 35 = .ok (.ifCond .ne 53, 3) := by decide +kernel
theorem dX5_delay_38 : decode cX5_delay 38 = .ok (.aload_n 0, 1) := by decide +kernel
theorem dX5_delay_39 : decode cX5_delay 39 = .ok (.getfield 29, 3) := by decide +kernel
theorem dX5_delay_42 : decode cX5_delay 42 = .ok (.iload_n 3, 1) := by decide +kernel
theorem dX5_delay_43 : decode cX5_delay 43 = .ok (.iaload, 1) := by decide +kernel
theorem dX5_delay_44 : decode cX5_delay 44 = .ok (.ifCond .lt 36, 3) := by decide +kernel
theorem dX5_delay_47 : decode cX5_delay 47 = .ok (.iload_n 1, 1) := by decide +kernel
theorem dX5_delay_48 : decode cX5_delay 48 = .ok (.iconst (-1), 1) := by decide +kernel
theorem dX5_delay_49 : decode cX5_delay 49 = .ok (.if_icmp .eq 13, 3) := by decide +kernel
theorem dX5_delay_52 : decode cX5_delay 52 = .ok (.aload_n 0, 1) := by decide +kernel
theorem dX5_delay_53 : decode cX5_delay 53 = .ok (.getfield 20, 3) := by decide +kernel
theorem dX5_delay_56 : decode cX5_delay 56 = .ok (.iload_n 3, 1) := by decide +kernel
theorem dX5_delay_57 : decode cX5_delay 57 = .ok (.iaload, 1) := by decide +kernel
theorem dX5_delay_58 : decode cX5_delay 58 = .ok (.iload_n 1, 1) := by decide +kernel
theorem dX5_delay_59 : decode cX5_delay 59 = .ok (.if_icmp .ne 21, 3) := by decide +kernel
theorem dX5_delay_62 : decode cX5_delay 62 = .ok (.iload_n 2, 1) := by decide +kernel
theorem dX5_delay_63 : decode cX5_delay 63 = .ok (.aload_n 0, 1) := by decide +kernel
theorem dX5_delay_64 : decode cX5_delay 64 = .ok (.getfield 29, 3) := by decide +kernel
theorem dX5_delay_67 : decode cX5_delay 67 = .ok (.iload_n 3, 1) := by decide +kernel
theorem dX5_delay_68 : decode cX5_delay 68 = .ok (.iaload, 1) := by decide +kernel
theorem dX5_delay_69 : decode cX5_delay 69 = .ok (.iadd, 1) := by decide +kernel
theorem dX5_delay_70 : decode cX5_delay 70 = .ok (.aload_n 0, 1) := by decide +kernel
theorem dX5_delay_71 : decode cX5_delay 71 = .ok (.getfield 23, 3) := by decide +kernel
theorem dX5_delay_74 : decode cX5_delay 74 = .ok (.iload_n 3, 1) := by decide +kernel
theorem dX5_delay_75 : decode cX5_delay 75 = .ok (.iaload, 1) := by decide +kernel
theorem dX5_delay_76 : decode cX5_delay 76 = .ok (.isub, 1) := by decide +kernel
theorem dX5_delay_77 : decode cX5_delay 77 = .ok (.goto 4, 3) := by decide +kernel
theorem dX5_delay_80 : decode cX5_delay 80 = .ok (.iload_n 2, 1) := by decide +kernel
theorem dX5_delay_81 : decode cX5_delay 81 = .ok (.istore_n 2, 1) := by decide +kernel
theorem dX5_delay_82 : decode cX5_delay 82 = .ok (.iinc 3 1, 3) := by decide +kernel
theorem dX5_delay_85 : decode cX5_delay 85 = .ok (.goto (-62), 3) := by decide +kernel
theorem dX5_delay_88 : decode cX5_delay 88 = .ok (.iload_n 2, 1) := by decide +kernel
theorem dX5_delay_89 : decode cX5_delay 89 = .ok (.ireturn, 1) := by decide +kernel
theorem dX5_drop_0 : decode cX5_drop 0 = .ok (.aload_n 0, 1) := by decide +kernel
theorem dX5_drop_1 : decode cX5_drop 1 = .ok (.iload_n 1, 1) := by decide +kernel
theorem dX5_drop_2 : decode cX5_drop 2 = .ok (.ifCond .lt 11, 3) := by decide +kernel
theorem dX5_drop_5 : decode cX5_drop 5 = .ok (.iload_n 1, 1) := by decide +kernel
theorem dX5_drop_6 : decode cX5_drop 6 = .ok (.aload_n 0, 1) := by decide +kernel
theorem dX5_drop_7 : decode cX5_drop 7 = .ok (.getfield 108, 3) := by decide +kernel
theorem dX5_drop_10 : decode cX5_drop 10 = .ok (.if_icmp .lt 7, 3) := by decide +kernel
theorem dX5_drop_13 : decode cX5_drop 13 = .ok (.iconst 1, 1) := by decide +kernel
theorem dX5_drop_14 : decode cX5_drop 14 = .ok (.goto 4, 3) := by decide +kernel
theorem dX5_drop_17 : decode cX5_drop 17 = .ok (.iconst 0, 1) := by decide +kernel
theorem dX5_drop_18 : decode cX5_drop 18 = .ok (.putfield 56, 3) := by decide +kernel
theorem dX5_drop_21 : decode cX5_drop 21 = .ok (.aload_n 0, 1) := by decide +kernel
theorem dX5_drop_22 : decode cX5_drop 22 = .ok (.getfield 56, 3) := by decide +kernel
theorem dX5_drop_25 : decode cX5_drop 25 = .ok (.ifCond .le 5, 3) := by decide +kernel
theorem dX5_drop_28 : decode cX5_drop 28 = .ok (.iconst 0, 1) := by decide +kernel
theorem dX5_drop_29 : decode cX5_drop 29 = .ok (.ireturn, 1) := by decide +kernel
theorem dX5_drop_30 : decode cX5_drop 30 = .ok (.aload_n 0, 1) := by decide +kernel
theorem dX5_drop_31 : decode cX5_drop 31 = .ok (.getfield 50, 3) := by decide +kernel
theorem dX5_drop_34 : decode cX5_drop 34 = .ok (.iload_n 1, 1) := by decide +kernel
theorem dX5_drop_35 : decode cX5_drop 35 = .ok (.baload, 1) := by decide +kernel
theorem dX5_drop_36 : decode cX5_drop 36 = .ok (.istore_n 2, 1) := by decide +kernel
theorem dX5_drop_37 : decode cX5_drop 37 = .ok (.aload_n 0, 1) := by decide +kernel
theorem dX5_drop_38 : decode cX5_drop 38 = .ok (.getfield 50, 3) := by decide +kernel
theorem dX5_drop_41 : decode cX5_drop 41 = .ok (.iload_n 1, 1) := by decide +kernel
theorem dX5_drop_42 : decode cX5_drop 42 = .ok (.iconst 0, 1) := by decide +kernel
theorem dX5_drop_43 : decode cX5_drop 43 = .ok (.bastore, 1) := by decide +kernel
theorem dX5_drop_44 : decode cX5_drop 44 = .ok (.iload_n 2, 1) := by decide +kernel
theorem dX5_drop_45 : decode cX5_drop 45 = .ok (.ireturn, 1) := by decide +kernel
theorem dX5_empty_0 : decode cX5_empty 0 = .ok (.aload_n 0, 1) := by decide +kernel
theorem dX5_empty_1 : decode cX5_empty 1 = .ok (.getfield 17, 3) := by decide +kernel
theorem dX5_empty_4 : decode cX5_empty 4 = .ok (.iload_n 1, 1) := by decide +kernel
theorem dX5_empty_5 : decode cX5_empty 5 = .ok (.iaload, 1) := by decide +kernel
theorem dX5_empty_6 : decode cX5_empty 6 = .ok (.ifCond .lt 15, 3) := by decide +kernel
theorem dX5_empty_9 : decode cX5_empty 9 = .ok (.aload_n 0, 1) := by decide +kernel
theorem dX5_empty_10 : decode cX5_empty 10 = .ok (.getfield 29, 3) := by decide +kernel
theorem dX5_empty_13 : decode cX5_empty 13 = .ok (.aload_n 0, 1) := by decide +kernel
theorem dX5_empty_14 : decode cX5_empty 14 = .ok (.getfield 17, 3) := by decide +kernel
theorem dX5_empty_17 : decode cX5_empty 17 = .ok (.iload_n 1, 1) := by decide +kernel
theorem dX5_empty_18 : decode cX5_empty 18 = .ok (.iaload, 1) := by decide +kernel
theorem dX5_empty_19 : decode cX5_empty 19 = .ok (.iconst (-1), 1) := by decide +kernel
theorem dX5_empty_20 : decode cX5_empty 20 = .ok (.iastore, 1) := by decide +kernel
theorem dX5_empty_21 : decode cX5_empty 21 = .ok (.aload_n 0, 1) := by decide +kernel
theorem dX5_empty_22 : decode cX5_empty 22 = .ok (.getfield 17, 3) := by decide +kernel
theorem dX5_empty_25 : decode cX5_empty 25 = .ok (.iload_n 1, 1) := by decide +kernel
theorem dX5_empty_26 : decode cX5_empty 26 = .ok (.iconst (-1), 1) := by decide +kernel
theorem dX5_empty_27 : decode cX5_empty 27 = .ok (.iastore, 1) := by decide +kernel
theorem dX5_empty_28 : decode cX5_empty 28 = .ok (.return_, 1) := by decide +kernel
theorem dX5_entry_0 : decode cX5_entry 0 = .ok (.aload_n 0, 1) := by decide +kernel
theorem dX5_entry_1 : decode cX5_entry 1 = .ok (.iload_n 1, 1) := by decide +kernel
theorem dX5_entry_2 : decode cX5_entry 2 = .ok (.ifCond .lt 11, 3) := by decide +kernel
theorem dX5_entry_5 : decode cX5_entry 5 = .ok (.iload_n 1, 1) := by decide +kernel
theorem dX5_entry_6 : decode cX5_entry 6 = .ok (.aload_n 0, 1) := by decide +kernel
theorem dX5_entry_7 : decode cX5_entry 7 = .ok (.getfield 63, 3) := by decide +kernel
theorem dX5_entry_10 : decode cX5_entry 10 = .ok (.if_icmp .lt 7, 3) := by decide +kernel
theorem dX5_entry_13 : decode cX5_entry 13 = .ok (.iconst 1, 1) := by decide +kernel
theorem dX5_entry_14 : decode cX5_entry 14 = .ok (.goto 17, 3) := by decide +kernel
theorem dX5_entry_17 : decode cX5_entry 17 = .ok (.iload_n 2, 1) := by decide +kernel
theorem dX5_entry_18 : decode cX5_entry 18 = .ok (.iconst 0, 1) := by decide +kernel
theorem dX5_entry_19 : decode cX5_entry 19 = .ok (.iconst 3, 1) := by decide +kernel
theorem dX5_entry_20 : decode cX5_entry 20 = .ok (.invokestatic 84, 3) := by decide +kernel
theorem dX5_entry_23 : decode cX5_entry 23 = .ok (.ifCond .ne 7, 3) := by decide +kernel
theorem dX5_entry_26 : decode cX5_entry 26 = .ok (.iconst 2, 1) := by decide +kernel
theorem dX5_entry_27 : decode cX5_entry 27 = .ok (.goto 4, 3) := by decide +kernel
theorem dX5_entry_30 : decode cX5_entry 30 = .ok (.iconst 0, 1) := by decide +kernel
theorem dX5_entry_31 : decode cX5_entry 31 = .ok (.putfield 56, 3) := by decide +kernel
theorem dX5_entry_34 : decode cX5_entry 34 = .ok (.aload_n 0, 1) := by decide +kernel
theorem dX5_entry_35 : decode cX5_entry 35 = .ok (.getfield 56, 3) := by decide +kernel
theorem dX5_entry_38 : decode cX5_entry 38 = .ok (.ifCond .le 7, 3) := by decide +kernel
theorem dX5_entry_41 : decode cX5_entry 41 = .ok (.iconst 0, 1) := by decide +kernel
theorem dX5_entry_42 : decode cX5_entry 42 = .ok (.goto 13, 3) := by decide +kernel
theorem dX5_entry_45 : decode cX5_entry 45 = .ok (.aload_n 0, 1) := by decide +kernel
theorem dX5_entry_46 : decode cX5_entry 46 = .ok (.getfield 53, 3) := by decide +kernel
theorem dX5_entry_49 : decode cX5_entry 49 = .ok (.iconst 4, 1) := by decide +kernel
theorem dX5_entry_50 : decode cX5_entry 50 = .ok (.iload_n 1, 1) := by decide +kernel
theorem dX5_entry_51 : decode cX5_entry 51 = .ok (.imul, 1) := by decide +kernel
theorem dX5_entry_52 : decode cX5_entry 52 = .ok (.iload_n 2, 1) := by decide +kernel
theorem dX5_entry_53 : decode cX5_entry 53 = .ok (.iadd, 1) := by decide +kernel
theorem dX5_entry_54 : decode cX5_entry 54 = .ok (.iaload, 1) := by decide +kernel
theorem dX5_entry_55 : decode cX5_entry 55 = .ok (.ireturn, 1) := by decide +kernel
theorem dX5_exchange_0 : decode cX5_exchange 0 = .ok (.aload_n 0, 1) := by decide +kernel
theorem dX5_exchange_1 : decode cX5_exchange 1 = .ok (.getfield 17, 3) := by decide +kernel
theorem dX5_exchange_4 : decode cX5_exchange 4 = .ok (.iload_n 1, 1) := by decide +kernel
theorem dX5_exchange_5 : decode cX5_exchange 5 = .ok (.iaload, 1) := by decide +kernel
theorem dX5_exchange_6 : decode cX5_exchange 6 = .ok (.istore_n 3, 1) := by decide +kernel
theorem dX5_exchange_7 : decode cX5_exchange 7 = .ok (.aload_n 0, 1) := by decide +kernel
theorem dX5_exchange_8 : decode cX5_exchange 8 = .ok (.getfield 13, 3) := by decide +kernel
theorem dX5_exchange_11 : decode cX5_exchange 11 = .ok (.iload_n 1, 1) := by decide +kernel
theorem dX5_exchange_12 : decode cX5_exchange 12 = .ok (.iaload, 1) := by decide +kernel
theorem dX5_exchange_13 : decode cX5_exchange 13 = .ok (.istore 4, 2) := by decide +kernel
theorem dX5_exchange_15 : decode cX5_exchange 15 = .ok (.aload_n 0, 1) := by decide +kernel
theorem dX5_exchange_16 : decode cX5_exchange 16 = .ok (.aload_n 0, 1) := by decide +kernel
theorem dX5_exchange_17 : decode cX5_exchange 17 = .ok (.getfield 17, 3) := by decide +kernel
theorem dX5_exchange_20 : decode cX5_exchange 20 = .ok (.iload_n 2, 1) := by decide +kernel
theorem dX5_exchange_21 : decode cX5_exchange 21 = .ok (.iaload, 1) := by decide +kernel
theorem dX5_exchange_22 : decode cX5_exchange 22 = .ok (.iload_n 1, 1) := by decide +kernel
theorem dX5_exchange_23 : decode cX5_exchange 23 = .ok (.invokevirtual 101, 3) := by decide +kernel
theorem dX5_exchange_26 : decode cX5_exchange 26 = .ok (.aload_n 0, 1) := by decide +kernel
theorem dX5_exchange_27 : decode cX5_exchange 27 = .ok (.iload_n 3, 1) := by decide +kernel
theorem dX5_exchange_28 : decode cX5_exchange 28 = .ok (.iload_n 2, 1) := by decide +kernel
theorem dX5_exchange_29 : decode cX5_exchange 29 = .ok (.invokevirtual 101, 3) := by decide +kernel
theorem dX5_exchange_32 : decode cX5_exchange 32 = .ok (.aload_n 0, 1) := by decide +kernel
theorem dX5_exchange_33 : decode cX5_exchange 33 = .ok (.getfield 13, 3) := by decide +kernel
theorem dX5_exchange_36 : decode cX5_exchange 36 = .ok (.iload_n 1, 1) := by decide +kernel
theorem dX5_exchange_37 : decode cX5_exchange 37 = .ok (.aload_n 0, 1) := by decide +kernel
theorem dX5_exchange_38 : decode cX5_exchange 38 = .ok (.getfield 13, 3) := by decide +kernel
theorem dX5_exchange_41 : decode cX5_exchange 41 = .ok (.iload_n 2, 1) := by decide +kernel
theorem dX5_exchange_42 : decode cX5_exchange 42 = .ok (.iaload, 1) := by decide +kernel
theorem dX5_exchange_43 : decode cX5_exchange 43 = .ok (.iastore, 1) := by decide +kernel
theorem dX5_exchange_44 : decode cX5_exchange 44 = .ok (.aload_n 0, 1) := by decide +kernel
theorem dX5_exchange_45 : decode cX5_exchange 45 = .ok (.getfield 13, 3) := by decide +kernel
theorem dX5_exchange_48 : decode cX5_exchange 48 = .ok (.iload_n 2, 1) := by decide +kernel
theorem dX5_exchange_49 : decode cX5_exchange 49 = .ok (.iload 4, 2) := by decide +kernel
theorem dX5_exchange_51 : decode cX5_exchange 51 = .ok (.iastore, 1) := by decide +kernel
theorem dX5_exchange_52 : decode cX5_exchange 52 = .ok (.return_, 1) := by decide +kernel
theorem dX5_flight_0 : decode cX5_flight 0 = .ok (.iload_n 2, 1) := by decide +kernel
theorem dX5_flight_1 : decode cX5_flight 1 = .ok (.bipush 15, 2) := by decide +kernel
theorem dX5_flight_3 : decode cX5_flight 3 = .ok (.if_icmp .ge 7, 3) := by decide +kernel
theorem dX5_flight_6 : decode cX5_flight 6 = .ok (.iconst 0, 1) := by decide +kernel
theorem dX5_flight_7 : decode cX5_flight 7 = .ok (.goto 7, 3) := by decide +kernel
theorem dX5_flight_10 : decode cX5_flight 10 = .ok (.iload_n 2, 1) := by decide +kernel
theorem dX5_flight_11 : decode cX5_flight 11 = .ok (.bipush 15, 2) := by decide +kernel
theorem dX5_flight_13 : decode cX5_flight 13 = .ok (.isub, 1) := by decide +kernel
theorem dX5_flight_14 : decode cX5_flight 14 = .ok (.istore 4, 2) := by decide +kernel
theorem dX5_flight_16 : decode cX5_flight 16 = .ok (.aload_n 0, 1) := by decide +kernel
theorem dX5_flight_17 : decode cX5_flight 17 = .ok (.iload_n 1, 1) := by decide +kernel
theorem dX5_flight_18 : decode cX5_flight 18 = .ok (.iconst 0, 1) := by decide +kernel
theorem dX5_flight_19 : decode cX5_flight 19 = .ok (.bipush 7, 2) := by decide +kernel
theorem dX5_flight_21 : decode cX5_flight 21 = .ok (.invokestatic 84, 3) := by decide +kernel
theorem dX5_flight_24 : decode cX5_flight 24 = .ok (.ifCond .eq 26, 3) := by decide +kernel
theorem dX5_flight_27 : decode cX5_flight 27 = .ok (.iload_n 2, 1) := by decide +kernel
theorem dX5_flight_28 : decode cX5_flight 28 = .ok (.iconst 0, 1) := by decide +kernel
theorem dX5_flight_29 : decode cX5_flight 29 = .ok (.sipush 239, 3) := by decide +kernel
theorem dX5_flight_32 : decode cX5_flight 32 = .ok (.invokestatic 84, 3) := by decide +kernel
theorem dX5_flight_35 : decode cX5_flight 35 = .ok (.ifCond .eq 15, 3) := by decide +kernel
theorem dX5_flight_38 : decode cX5_flight 38 = .ok (.iload_n 3, 1) := by decide +kernel
theorem dX5_flight_39 : decode cX5_flight 39 = .ok (.iload 4, 2) := by decide +kernel
theorem dX5_flight_41 : decode cX5_flight 41 = .ok (.sipush 300, 3) := by decide +kernel
theorem dX5_flight_44 : decode cX5_flight 44 = .ok (.invokestatic 84, 3) := by decide +kernel
theorem dX5_flight_47 : decode cX5_flight 47 = .ok (.ifCond .ne 7, 3) := by decide +kernel
theorem dX5_flight_50 : decode cX5_flight 50 = .ok (.iconst 1, 1) := by decide +kernel
theorem dX5_flight_51 : decode cX5_flight 51 = .ok (.goto 17, 3) := by decide +kernel
theorem dX5_flight_54 : decode cX5_flight 54 = .ok (.aload_n 0, 1) := by decide +kernel
theorem dX5_flight_55 : decode cX5_flight 55 = .ok (.getfield 60, 3) := by decide +kernel
theorem dX5_flight_58 : decode cX5_flight 58 = .ok (.bipush 60, 2) := by decide +kernel
theorem dX5_flight_60 : decode cX5_flight 60 = .ok (.if_icmp .ne 7, 3) := by decide +kernel
theorem dX5_flight_63 : decode cX5_flight 63 = .ok (.iconst 2, 1) := by decide +kernel
theorem dX5_flight_64 : decode cX5_flight 64 = .ok (.goto 4, 3) := by decide +kernel
theorem dX5_flight_67 : decode cX5_flight 67 = .ok (.iconst 0, 1) := by decide +kernel
theorem dX5_flight_68 : decode cX5_flight 68 = .ok (.putfield 56, 3) := by decide +kernel
theorem dX5_flight_71 : decode cX5_flight 71 = .ok (.aload_n 0, 1) := by decide +kernel
theorem dX5_flight_72 : decode cX5_flight 72 = .ok (.getfield 56, 3) := by decide +kernel
theorem dX5_flight_75 : decode cX5_flight 75 = .ok (.ifCond .le 5, 3) := by decide +kernel
theorem dX5_flight_78 : decode cX5_flight 78 = .ok (.iconst 0, 1) := by decide +kernel
theorem dX5_flight_79 : decode cX5_flight 79 = .ok (.ireturn, 1) := by decide +kernel
theorem dX5_flight_80 : decode cX5_flight 80 = .ok (.aload_n 0, 1) := by decide +kernel
theorem dX5_flight_81 : decode cX5_flight 81 = .ok (.getfield 20, 3) := by decide +kernel
theorem dX5_flight_84 : decode cX5_flight 84 = .ok (.aload_n 0, 1) := by decide +kernel
theorem dX5_flight_85 : decode cX5_flight 85 = .ok (.getfield 60, 3) := by decide +kernel
theorem dX5_flight_88 : decode cX5_flight 88 = .ok (.iload_n 1, 1) := by decide +kernel
theorem dX5_flight_89 : decode cX5_flight 89 = .ok (.iastore, 1) := by decide +kernel
theorem dX5_flight_90 : decode cX5_flight 90 = .ok (.aload_n 0, 1) := by decide +kernel
theorem dX5_flight_91 : decode cX5_flight 91 = .ok (.getfield 23, 3) := by decide +kernel
theorem dX5_flight_94 : decode cX5_flight 94 = .ok (.aload_n 0, 1) := by decide +kernel
theorem dX5_flight_95 : decode cX5_flight 95 = .ok (.getfield 60, 3) := by decide +kernel
theorem dX5_flight_98 : decode cX5_flight 98 = .ok (.iload_n 2, 1) := by decide +kernel
theorem dX5_flight_99 : decode cX5_flight 99 = .ok (.iastore, 1) := by decide +kernel
theorem dX5_flight_100 : decode cX5_flight 100 = .ok (.aload_n 0, 1) := by decide +kernel
theorem dX5_flight_101 : decode cX5_flight 101 = .ok (.getfield 26, 3) := by decide +kernel
theorem dX5_flight_104 : decode cX5_flight 104 = .ok (.aload_n 0, 1) := by decide +kernel
theorem dX5_flight_105 : decode cX5_flight 105 = .ok (.getfield 60, 3) := by decide +kernel
theorem dX5_flight_108 : decode cX5_flight 108 = .ok (.iload_n 3, 1) := by decide +kernel
theorem dX5_flight_109 : decode cX5_flight 109 = .ok (.iastore, 1) := by decide +kernel
theorem dX5_flight_110 : decode cX5_flight 110 = .ok (.aload_n 0, 1) := by decide +kernel
theorem dX5_flight_111 : decode cX5_flight 111 = .ok (.getfield 29, 3) := by decide +kernel
theorem dX5_flight_114 : decode cX5_flight 114 = .ok (.aload_n 0, 1) := by decide +kernel
theorem dX5_flight_115 : decode cX5_flight 115 = .ok (.getfield 60, 3) := by decide +kernel
theorem dX5_flight_118 : decode cX5_flight 118 = .ok (.iconst (-1), 1) := by decide +kernel
theorem dX5_flight_119 : decode cX5_flight 119 = .ok (.iastore, 1) := by decide +kernel
theorem dX5_flight_120 : decode cX5_flight 120 = .ok (.aload_n 0, 1) := by decide +kernel
theorem dX5_flight_121 : decode cX5_flight 121 = .ok (.dup, 1) := by decide +kernel
theorem dX5_flight_122 : decode cX5_flight 122 = .ok (.getfield 60, 3) := by decide +kernel
theorem dX5_flight_125 : decode cX5_flight 125 = .ok (.iconst 1, 1) := by decide +kernel
theorem dX5_flight_126 : decode cX5_flight 126 = .ok (.iadd, 1) := by decide +kernel
theorem dX5_flight_127 : decode cX5_flight 127 = .ok (.putfield 60, 3) := by decide +kernel
theorem dX5_flight_130 : decode cX5_flight 130 = .ok (.aload_n 0, 1) := by decide +kernel
theorem dX5_flight_131 : decode cX5_flight 131 = .ok (.getfield 60, 3) := by decide +kernel
theorem dX5_flight_134 : decode cX5_flight 134 = .ok (.iconst 1, 1) := by decide +kernel
theorem dX5_flight_135 : decode cX5_flight 135 = .ok (.isub, 1) := by decide +kernel
theorem dX5_flight_136 : decode cX5_flight 136 = .ok (.ireturn, 1) := by decide +kernel
theorem dX5_flightIn_0 : decode cX5_flightIn 0 = .ok (.aload_n 0, 1) := by decide +kernel
theorem dX5_flightIn_1 : decode cX5_flightIn 1 = .ok (.aload_n 0, 1) := by decide +kernel
theorem dX5_flightIn_2 : decode cX5_flightIn 2 = .ok (.iload_n 1, 1) := by decide +kernel
theorem dX5_flightIn_3 : decode cX5_flightIn 3 = .ok (.invokevirtual 94, 3) := by decide +kernel
theorem dX5_flightIn_6 : decode cX5_flightIn 6 = .ok (.ifCond .eq 7, 3) := by decide +kernel
theorem dX5_flightIn_9 : decode cX5_flightIn 9 = .ok (.iconst 0, 1) := by decide +kernel
theorem dX5_flightIn_10 : decode cX5_flightIn 10 = .ok (.goto 4, 3) := by decide +kernel
theorem dX5_flightIn_13 : decode cX5_flightIn 13 = .ok (.iconst 1, 1) := by decide +kernel
theorem dX5_flightIn_14 : decode cX5_flightIn 14 = .ok (.putfield 56, 3) := by decide +kernel
theorem dX5_flightIn_17 : decode cX5_flightIn 17 = .ok (.aload_n 0, 1) := by decide +kernel
theorem dX5_flightIn_18 : decode cX5_flightIn 18 = .ok (.getfield 56, 3) := by decide +kernel
theorem dX5_flightIn_21 : decode cX5_flightIn 21 = .ok (.ifCond .le 7, 3) := by decide +kernel
theorem dX5_flightIn_24 : decode cX5_flightIn 24 = .ok (.iconst 0, 1) := by decide +kernel
theorem dX5_flightIn_25 : decode cX5_flightIn 25 = .ok (.goto 9, 3) := by decide +kernel
theorem dX5_flightIn_28 : decode cX5_flightIn 28 = .ok (.aload_n 0, 1) := by decide +kernel
theorem dX5_flightIn_29 : decode cX5_flightIn 29 = .ok (.getfield 17, 3) := by decide +kernel
theorem dX5_flightIn_32 : decode cX5_flightIn 32 = .ok (.iload_n 1, 1) := by decide +kernel
theorem dX5_flightIn_33 : decode cX5_flightIn 33 = .ok (.iaload, 1) := by decide +kernel
theorem dX5_flightIn_34 : decode cX5_flightIn 34 = .ok (.ireturn, 1) := by decide +kernel
theorem dX5_follower_0 : decode cX5_follower 0 = .ok (.iconst (-1), 1) := by decide +kernel
theorem dX5_follower_1 : decode cX5_follower 1 = .ok (.istore_n 3, 1) := by decide +kernel
theorem dX5_follower_2 : decode cX5_follower 2 = .ok (.iconst 0, 1) := by decide +kernel
theorem dX5_follower_3 : decode cX5_follower 3 = .ok (.istore 4, 2) := by decide +kernel
theorem dX5_follower_5 : decode cX5_follower 5 = .ok (.iload 4, 2) := by decide +kernel
theorem dX5_follower_7 : decode cX5_follower 7 = .ok (.aload_n 0, 1) := by decide +kernel
theorem dX5_follower_8 : decode cX5_follower 8 = .ok (.getfield 60, 3) := by decide +kernel
theorem dX5_follower_11 : decode cX5_follower 11 = .ok (.if_icmp .ge 74, 3) := by decide +kernel
theorem dX5_follower_14 : decode cX5_follower 14 = .ok (.aload_n 0, 1) := by decide +kernel
theorem dX5_follower_15 : decode cX5_follower 15 = .ok (.iload_n 1, 1) := by decide +kernel
theorem dX5_follower_16 : decode cX5_follower 16 = .ok (.iload 4, 2) := by decide +kernel
theorem dX5_follower_18 : decode cX5_follower 18 = .ok (.invokevirtual 121, 3) := by decide +kernel
theorem dX5_follower_21 : decode cX5_follower 21 = .ok (.ifCond .eq 23, 3) := by decide +kernel
theorem dX5_follower_24 : decode cX5_follower 24 = .ok (.iload_n 2, 1) := by decide +kernel
theorem dX5_follower_25 : decode cX5_follower 25 = .ok (.iconst (-1), 1) := by decide +kernel
theorem dX5_follower_26 : decode cX5_follower 26 = .ok (.if_icmp .eq 14, 3) := by decide +kernel
theorem dX5_follower_29 : decode cX5_follower 29 = .ok (.aload_n 0, 1) := by decide +kernel
theorem dX5_follower_30 : decode cX5_follower 30 = .ok (.getfield 20, 3) := by decide +kernel
theorem dX5_follower_33 : decode cX5_follower 33 = .ok (.iload 4, 2) := by decide +kernel
theorem dX5_follower_35 : decode cX5_follower 35 = .ok (.iaload, 1) := by decide +kernel
theorem dX5_follower_36 : decode cX5_follower 36 = .ok (.iload_n 2, 1) := by decide +kernel
theorem dX5_follower_37 : decode cX5_follower 37 = .ok (.if_icmp .ne 7, 3) := by decide +kernel
theorem dX5_follower_40 : decode cX5_follower 40 = .ok (.iconst 1, 1) := by decide +kernel
theorem dX5_follower_41 : decode cX5_follower 41 = .ok (.goto 4, 3) := by decide +kernel
theorem dX5_follower_44 : decode cX5_follower 44 = .ok (.iconst 0, 1) := by decide +kernel
theorem dX5_follower_45 : decode cX5_follower 45 = .ok (.istore 5, 2) := by decide +kernel
theorem dX5_follower_47 : decode cX5_follower 47 = .ok (.iload 5, 2) := by decide +kernel
theorem dX5_follower_49 : decode cX5_follower 49 = .ok (.ifCond .eq 28, 3) := by decide +kernel
theorem dX5_follower_52 : decode cX5_follower 52 = .ok (.iload_n 3, 1) := by decide +kernel
theorem dX5_follower_53 : decode cX5_follower 53 = .ok (.ifCond .lt 19, 3) := by decide +kernel
theorem dX5_follower_56 : decode cX5_follower 56 = .ok (.aload_n 0, 1) := by decide +kernel
theorem dX5_follower_57 : decode cX5_follower 57 = .ok (.getfield 29, 3) := by decide +kernel
theorem dX5_follower_60 : decode cX5_follower 60 = .ok (.iload 4, 2) := by decide +kernel
theorem dX5_follower_62 : decode cX5_follower 62 = .ok (.iaload, 1) := by decide +kernel
theorem dX5_follower_63 : decode cX5_follower 63 = .ok (.aload_n 0, 1) := by decide +kernel
theorem dX5_follower_64 : decode cX5_follower 64 = .ok (.getfield 29, 3) := by decide +kernel
theorem dX5_follower_67 : decode cX5_follower 67 = .ok (.iload_n 3, 1) := by decide +kernel
theorem dX5_follower_68 : decode cX5_follower 68 = .ok (.iaload, 1) := by decide +kernel
theorem dX5_follower_69 : decode cX5_follower 69 = .ok (.if_icmp .ge 8, 3) := by decide +kernel
theorem dX5_follower_72 : decode cX5_follower 72 = .ok (.iload 4, 2) := by decide +kernel
theorem dX5_follower_74 : decode cX5_follower 74 = .ok (.goto 4, 3) := by decide +kernel
theorem dX5_follower_77 : decode cX5_follower 77 = .ok (.iload_n 3, 1) := by decide +kernel
theorem dX5_follower_78 : decode cX5_follower 78 = .ok (.istore_n 3, 1) := by decide +kernel
theorem dX5_follower_79 : decode cX5_follower 79 = .ok (.iinc 4 1, 3) := by decide +kernel
theorem dX5_follower_82 : decode cX5_follower 82 = .ok (.goto (-77), 3) := by decide +kernel
theorem dX5_follower_85 : decode cX5_follower 85 = .ok (.iload_n 3, 1) := by decide +kernel
theorem dX5_follower_86 : decode cX5_follower 86 = .ok (.ireturn, 1) := by decide +kernel
theorem dX5_gaps_0 : decode cX5_gaps 0 = .ok (.aload_n 0, 1) := by decide +kernel
theorem dX5_gaps_1 : decode cX5_gaps 1 = .ok (.iconst 0, 1) := by decide +kernel
theorem dX5_gaps_2 : decode cX5_gaps 2 = .ok (.putfield 56, 3) := by decide +kernel
theorem dX5_gaps_5 : decode cX5_gaps 5 = .ok (.iconst 0, 1) := by decide +kernel
theorem dX5_gaps_6 : decode cX5_gaps 6 = .ok (.istore_n 1, 1) := by decide +kernel
theorem dX5_gaps_7 : decode cX5_gaps 7 = .ok (.iconst 0, 1) := by decide +kernel
theorem dX5_gaps_8 : decode cX5_gaps 8 = .ok (.istore_n 2, 1) := by decide +kernel
theorem dX5_gaps_9 : decode cX5_gaps 9 = .ok (.iload_n 2, 1) := by decide +kernel
theorem dX5_gaps_10 : decode cX5_gaps 10 = .ok (.sipush 240, 3) := by decide +kernel
theorem dX5_gaps_13 : decode cX5_gaps 13 = .ok (.if_icmp .ge 42, 3) := by decide +kernel
theorem dX5_gaps_16 : decode cX5_gaps 16 = .ok (.iconst 0, 1) := by decide +kernel
theorem dX5_gaps_17 : decode cX5_gaps 17 = .ok (.istore_n 3, 1) := by decide +kernel
theorem dX5_gaps_18 : decode cX5_gaps 18 = .ok (.iload_n 3, 1) := by decide +kernel
theorem dX5_gaps_19 : decode cX5_gaps 19 = .ok (.aload_n 0, 1) := by decide +kernel
theorem dX5_gaps_20 : decode cX5_gaps 20 = .ok (.getfield 60, 3) := by decide +kernel
theorem dX5_gaps_23 : decode cX5_gaps 23 = .ok (.if_icmp .ge 26, 3) := by decide +kernel
theorem dX5_gaps_26 : decode cX5_gaps 26 = .ok (.aload_n 0, 1) := by decide +kernel
theorem dX5_gaps_27 : decode cX5_gaps 27 = .ok (.iload_n 2, 1) := by decide +kernel
theorem dX5_gaps_28 : decode cX5_gaps 28 = .ok (.iload_n 3, 1) := by decide +kernel
theorem dX5_gaps_29 : decode cX5_gaps 29 = .ok (.invokevirtual 121, 3) := by decide +kernel
theorem dX5_gaps_32 : decode cX5_gaps 32 = .ok (.ifCond .eq 9, 3) := by decide +kernel
theorem dX5_gaps_35 : decode cX5_gaps 35 = .ok (.iload_n 1, 1) := by decide +kernel
theorem dX5_gaps_36 : decode cX5_gaps 36 = .ok (.iconst 1, 1) := by decide +kernel
theorem dX5_gaps_37 : decode cX5_gaps 37 = .ok (.iadd, 1) := by decide +kernel
theorem dX5_gaps_38 : decode cX5_gaps 38 = .ok (.goto 4, 3) := by decide +kernel
theorem dX5_gaps_41 : decode cX5_gaps 41 = .ok (.iload_n 1, 1) := by decide +kernel
theorem dX5_gaps_42 : decode cX5_gaps 42 = .ok (.istore_n 1, 1) := by decide +kernel
theorem dX5_gaps_43 : decode cX5_gaps 43 = .ok (.iinc 3 1, 3) := by decide +kernel
theorem dX5_gaps_46 : decode cX5_gaps 46 = .ok (.goto (-28), 3) := by decide +kernel
theorem dX5_gaps_49 : decode cX5_gaps 49 = .ok (.iinc 2 1, 3) := by decide +kernel
theorem dX5_gaps_52 : decode cX5_gaps 52 = .ok (.goto (-43), 3) := by decide +kernel
theorem dX5_gaps_55 : decode cX5_gaps 55 = .ok (.iload_n 1, 1) := by decide +kernel
theorem dX5_gaps_56 : decode cX5_gaps 56 = .ok (.ireturn, 1) := by decide +kernel
theorem dX5_has_0 : decode cX5_has 0 = .ok (.iconst 0, 1) := by decide +kernel
theorem dX5_has_1 : decode cX5_has 1 = .ok (.istore_n 3, 1) := by decide +kernel
theorem dX5_has_2 : decode cX5_has 2 = .ok (.iconst 0, 1) := by decide +kernel
theorem dX5_has_3 : decode cX5_has 3 = .ok (.istore 4, 2) := by decide +kernel
theorem dX5_has_5 : decode cX5_has 5 = .ok (.iload 4, 2) := by decide +kernel
theorem dX5_has_7 : decode cX5_has 7 = .ok (.iload_n 1, 1) := by decide +kernel
theorem dX5_has_8 : decode cX5_has 8 = .ok (.if_icmp .ge 35, 3) := by decide +kernel
theorem dX5_has_11 : decode cX5_has 11 = .ok (.iload_n 3, 1) := by decide +kernel
theorem dX5_has_12 : decode cX5_has 12 = .ok (.ifCond .ne 19, 3) := by decide +kernel
theorem dX5_has_15 : decode cX5_has 15 = .ok (.bipush 15, 2) := by decide +kernel
theorem dX5_has_17 : decode cX5_has 17 = .ok (.iload_n 0, 1) := by decide +kernel
theorem dX5_has_18 : decode cX5_has 18 = .ok (.imul, 1) := by decide +kernel
theorem dX5_has_19 : decode cX5_has 19 = .ok (.bipush 15, 2) := by decide +kernel
theorem dX5_has_21 : decode cX5_has 21 = .ok (.iload 4, 2) := by decide +kernel
theorem dX5_has_23 : decode cX5_has 23 = .ok (.imul, 1) := by decide +kernel
theorem dX5_has_24 : decode cX5_has 24 = .ok (.iload_n 1, 1) := by decide +kernel
theorem dX5_has_25 : decode cX5_has 25 = .ok (.idiv, 1) := by decide +kernel
theorem dX5_has_26 : decode cX5_has 26 = .ok (.iadd, 1) := by decide +kernel
theorem dX5_has_27 : decode cX5_has 27 = .ok (.iload_n 2, 1) := by decide +kernel
theorem dX5_has_28 : decode cX5_has 28 = .ok (.if_icmp .ne 7, 3) := by decide +kernel
theorem dX5_has_31 : decode cX5_has 31 = .ok (.iconst 1, 1) := by decide +kernel
theorem dX5_has_32 : decode cX5_has 32 = .ok (.goto 4, 3) := by decide +kernel
theorem dX5_has_35 : decode cX5_has 35 = .ok (.iconst 0, 1) := by decide +kernel
theorem dX5_has_36 : decode cX5_has 36 = .ok (.istore_n 3, 1) := by decide +kernel
theorem dX5_has_37 : decode cX5_has 37 = .ok (.iinc 4 1, 3) := by decide +kernel
theorem dX5_has_40 : decode cX5_has 40 = .ok (.goto (-35), 3) := by decide +kernel
theorem dX5_has_43 : decode cX5_has 43 = .ok (.iload_n 3, 1) := by decide +kernel
theorem dX5_has_44 : decode cX5_has 44 = .ok (.ireturn, 1) := by decide +kernel
theorem dX5_init_0 : decode cX5_init 0 = .ok (.aload_n 0, 1) := by decide +kernel
theorem dX5_init_1 : decode cX5_init 1 = .ok (.invokespecial 1, 3) := by decide +kernel
theorem dX5_init_4 : decode cX5_init 4 = .ok (.aload_n 0, 1) := by decide +kernel
theorem dX5_init_5 : decode cX5_init 5 = .ok (.sipush 240, 3) := by decide +kernel
theorem dX5_init_8 : decode cX5_init 8 = .ok (.newarray .boolean, 2) := by decide +kernel
theorem dX5_init_10 : decode cX5_init 10 = .ok (.putfield 7, 3) := by decide +kernel
theorem dX5_init_13 : decode cX5_init 13 = .ok (.aload_n 0, 1) := by decide +kernel
theorem dX5_init_14 : decode cX5_init 14 = .ok (.sipush 240, 3) := by decide +kernel
theorem dX5_init_17 : decode cX5_init 17 = .ok (.newarray .int, 2) := by decide +kernel
theorem dX5_init_19 : decode cX5_init 19 = .ok (.putfield 13, 3) := by decide +kernel
theorem dX5_init_22 : decode cX5_init 22 = .ok (.aload_n 0, 1) := by decide +kernel
theorem dX5_init_23 : decode cX5_init 23 = .ok (.sipush 240, 3) := by decide +kernel
theorem dX5_init_26 : decode cX5_init 26 = .ok (.newarray .int, 2) := by decide +kernel
theorem dX5_init_28 : decode cX5_init 28 = .ok (.putfield 17, 3) := by decide +kernel
theorem dX5_init_31 : decode cX5_init 31 = .ok (.aload_n 0, 1) := by decide +kernel
theorem dX5_init_32 : decode cX5_init 32 = .ok (.bipush 60, 2) := by decide +kernel
theorem dX5_init_34 : decode cX5_init 34 = .ok (.newarray .int, 2) := by decide +kernel
theorem dX5_init_36 : decode cX5_init 36 = .ok (.putfield 20, 3) := by decide +kernel
theorem dX5_init_39 : decode cX5_init 39 = .ok (.aload_n 0, 1) := by decide +kernel
theorem dX5_init_40 : decode cX5_init 40 = .ok (.bipush 60, 2) := by decide +kernel
theorem dX5_init_42 : decode cX5_init 42 = .ok (.newarray .int, 2) := by decide +kernel
theorem dX5_init_44 : decode cX5_init 44 = .ok (.putfield 23, 3) := by decide +kernel
theorem dX5_init_47 : decode cX5_init 47 = .ok (.aload_n 0, 1) := by decide +kernel
theorem dX5_init_48 : decode cX5_init 48 = .ok (.bipush 60, 2) := by decide +kernel
theorem dX5_init_50 : decode cX5_init 50 = .ok (.newarray .int, 2) := by decide +kernel
theorem dX5_init_52 : decode cX5_init 52 = .ok (.putfield 26, 3) := by decide +kernel
theorem dX5_init_55 : decode cX5_init 55 = .ok (.aload_n 0, 1) := by decide +kernel
theorem dX5_init_56 : decode cX5_init 56 = .ok (.bipush 60, 2) := by decide +kernel
theorem dX5_init_58 : decode cX5_init 58 = .ok (.newarray .int, 2) := by decide +kernel
theorem dX5_init_60 : decode cX5_init 60 = .ok (.putfield 29, 3) := by decide +kernel
theorem dX5_init_63 : decode cX5_init 63 = .ok (.aload_n 0, 1) := by decide +kernel
theorem dX5_init_64 : decode cX5_init 64 = .ok (.bipush 60, 2) := by decide +kernel
theorem dX5_init_66 : decode cX5_init 66 = .ok (.newarray .boolean, 2) := by decide +kernel
theorem dX5_init_68 : decode cX5_init 68 = .ok (.putfield 32, 3) := by decide +kernel
theorem dX5_init_71 : decode cX5_init 71 = .ok (.aload_n 0, 1) := by decide +kernel
theorem dX5_init_72 : decode cX5_init 72 = .ok (.bipush 60, 2) := by decide +kernel
theorem dX5_init_74 : decode cX5_init 74 = .ok (.newarray .boolean, 2) := by decide +kernel
theorem dX5_init_76 : decode cX5_init 76 = .ok (.putfield 35, 3) := by decide +kernel
theorem dX5_init_79 : decode cX5_init 79 = .ok (.aload_n 0, 1) := by decide +kernel
theorem dX5_init_80 : decode cX5_init 80 = .ok (.bipush 60, 2) := by decide +kernel
theorem dX5_init_82 : decode cX5_init 82 = .ok (.newarray .boolean, 2) := by decide +kernel
theorem dX5_init_84 : decode cX5_init 84 = .ok (.putfield 38, 3) := by decide +kernel
theorem dX5_init_87 : decode cX5_init 87 = .ok (.aload_n 0, 1) := by decide +kernel
theorem dX5_init_88 : decode cX5_init 88 = .ok (.bipush 40, 2) := by decide +kernel
theorem dX5_init_90 : decode cX5_init 90 = .ok (.newarray .int, 2) := by decide +kernel
theorem dX5_init_92 : decode cX5_init 92 = .ok (.putfield 41, 3) := by decide +kernel
theorem dX5_init_95 : decode cX5_init 95 = .ok (.aload_n 0, 1) := by decide +kernel
theorem dX5_init_96 : decode cX5_init 96 = .ok (.bipush 40, 2) := by decide +kernel
theorem dX5_init_98 : decode cX5_init 98 = .ok (.newarray .int, 2) := by decide +kernel
theorem dX5_init_100 : decode cX5_init 100 = .ok (.putfield 44, 3) := by decide +kernel
theorem dX5_init_103 : decode cX5_init 103 = .ok (.aload_n 0, 1) := by decide +kernel
theorem dX5_init_104 : decode cX5_init 104 = .ok (.bipush 40, 2) := by decide +kernel
theorem dX5_init_106 : decode cX5_init 106 = .ok (.newarray .int, 2) := by decide +kernel
theorem dX5_init_108 : decode cX5_init 108 = .ok (.putfield 47, 3) := by decide +kernel
theorem dX5_init_111 : decode cX5_init 111 = .ok (.aload_n 0, 1) := by decide +kernel
theorem dX5_init_112 : decode cX5_init 112 = .ok (.bipush 40, 2) := by decide +kernel
theorem dX5_init_114 : decode cX5_init 114 = .ok (.newarray .boolean, 2) := by decide +kernel
theorem dX5_init_116 : decode cX5_init 116 = .ok (.putfield 50, 3) := by decide +kernel
theorem dX5_init_119 : decode cX5_init 119 = .ok (.aload_n 0, 1) := by decide +kernel
theorem dX5_init_120 : decode cX5_init 120 = .ok (.sipush 800, 3) := by decide +kernel
theorem dX5_init_123 : decode cX5_init 123 = .ok (.newarray .int, 2) := by decide +kernel
theorem dX5_init_125 : decode cX5_init 125 = .ok (.putfield 53, 3) := by decide +kernel
theorem dX5_init_128 : decode cX5_init 128 = .ok (.iconst 0, 1) := by decide +kernel
theorem dX5_init_129 : decode cX5_init 129 = .ok (.istore_n 1, 1) := by decide +kernel
theorem dX5_init_130 : decode cX5_init 130 = .ok (.iload_n 1, 1) := by decide +kernel
theorem dX5_init_131 : decode cX5_init 131 = .ok (.sipush 240, 3) := by decide +kernel
theorem dX5_init_134 : decode cX5_init 134 = .ok (.if_icmp .ge 23, 3) := by decide +kernel
theorem dX5_init_137 : decode cX5_init 137 = .ok (.aload_n 0, 1) := by decide +kernel
theorem dX5_init_138 : decode cX5_init 138 = .ok (.getfield 13, 3) := by decide +kernel
theorem dX5_init_141 : decode cX5_init 141 = .ok (.iload_n 1, 1) := by decide +kernel
theorem dX5_init_142 : decode cX5_init 142 = .ok (.iconst (-1), 1) := by decide +kernel
theorem dX5_init_143 : decode cX5_init 143 = .ok (.iastore, 1) := by decide +kernel
theorem dX5_init_144 : decode cX5_init 144 = .ok (.aload_n 0, 1) := by decide +kernel
theorem dX5_init_145 : decode cX5_init 145 = .ok (.getfield 17, 3) := by decide +kernel
theorem dX5_init_148 : decode cX5_init 148 = .ok (.iload_n 1, 1) := by decide +kernel
theorem dX5_init_149 : decode cX5_init 149 = .ok (.iconst (-1), 1) := by decide +kernel
theorem dX5_init_150 : decode cX5_init 150 = .ok (.iastore, 1) := by decide +kernel
theorem dX5_init_151 : decode cX5_init 151 = .ok (.iinc 1 1, 3) := by decide +kernel
theorem dX5_init_154 : decode cX5_init 154 = .ok (.goto (-24), 3) := by decide +kernel
theorem dX5_init_157 : decode cX5_init 157 = .ok (.return_, 1) := by decide +kernel
theorem dX5_isFlight_0 : decode cX5_isFlight 0 = .ok (.iload_n 1, 1) := by decide +kernel
theorem dX5_isFlight_1 : decode cX5_isFlight 1 = .ok (.ifCond .lt 15, 3) := by decide +kernel
theorem dX5_isFlight_4 : decode cX5_isFlight 4 = .ok (.iload_n 1, 1) := by decide +kernel
theorem dX5_isFlight_5 : decode cX5_isFlight 5 = .ok (.aload_n 0, 1) := by decide +kernel
theorem dX5_isFlight_6 : decode cX5_isFlight 6 = .ok (.getfield 60, 3) := by decide +kernel
theorem dX5_isFlight_9 : decode cX5_isFlight 9 = .ok (.if_icmp .ge 7, 3) := by decide +kernel
theorem dX5_isFlight_12 : decode cX5_isFlight 12 = .ok (.iconst 1, 1) := by decide +kernel
theorem dX5_isFlight_13 : decode cX5_isFlight 13 = .ok (.goto 4, 3) := by decide +kernel
theorem dX5_isFlight_16 : decode cX5_isFlight 16 = .ok (.iconst 0, 1) := by decide +kernel
theorem dX5_isFlight_17 : decode cX5_isFlight 17 = .ok (.ireturn, 1) := by decide +kernel
theorem dX5_isFrozen_0 : decode cX5_isFrozen 0 = .ok (.aload_n 0, 1) := by decide +kernel
theorem dX5_isFrozen_1 : decode cX5_isFrozen 1 = .ok (.getfield 17, 3) := by decide +kernel
theorem dX5_isFrozen_4 : decode cX5_isFrozen 4 = .ok (.iload_n 1, 1) := by decide +kernel
theorem dX5_isFrozen_5 : decode cX5_isFrozen 5 = .ok (.iaload, 1) := by decide +kernel
theorem dX5_isFrozen_6 : decode cX5_isFrozen 6 = .ok (.ifCond .lt 21, 3) := by decide +kernel
theorem dX5_isFrozen_9 : decode cX5_isFrozen 9 = .ok (.aload_n 0, 1) := by decide +kernel
theorem dX5_isFrozen_10 : decode cX5_isFrozen 10 = .ok (.getfield 35, 3) := by decide +kernel
theorem dX5_isFrozen_13 : decode cX5_isFrozen 13 = .ok (.aload_n 0, 1) := by decide +kernel
theorem dX5_isFrozen_14 : decode cX5_isFrozen 14 = .ok (.getfield 17, 3) := by decide +kernel
theorem dX5_isFrozen_17 : decode cX5_isFrozen 17 = .ok (.iload_n 1, 1) := by decide +kernel
theorem dX5_isFrozen_18 : decode cX5_isFrozen 18 = .ok (.iaload, 1) := by decide +kernel
theorem dX5_isFrozen_19 : decode cX5_isFrozen 19 = .ok (.baload, 1) := by decide +kernel
theorem dX5_isFrozen_20 : decode cX5_isFrozen 20 = .ok (.ifCond .eq 7, 3) := by decide +kernel
theorem dX5_isFrozen_23 : decode cX5_isFrozen 23 = .ok (.iconst 1, 1) := by decide +kernel
theorem dX5_isFrozen_24 : decode cX5_isFrozen 24 = .ok (.goto 4, 3) := by decide +kernel
theorem dX5_isFrozen_27 : decode cX5_isFrozen 27 = .ok (.iconst 0, 1) := by decide +kernel
theorem dX5_isFrozen_28 : decode cX5_isFrozen 28 = .ok (.ireturn, 1) := by decide +kernel
theorem dX5_isGap_0 : decode cX5_isGap 0 = .ok (.aload_n 0, 1) := by decide +kernel
theorem dX5_isGap_1 : decode cX5_isGap 1 = .ok (.getfield 7, 3) := by decide +kernel
theorem dX5_isGap_4 : decode cX5_isGap 4 = .ok (.iload_n 1, 1) := by decide +kernel
theorem dX5_isGap_5 : decode cX5_isGap 5 = .ok (.baload, 1) := by decide +kernel
theorem dX5_isGap_6 : decode cX5_isGap 6 = .ok (.ifCond .eq 45, 3) := by decide +kernel
theorem dX5_isGap_9 : decode cX5_isGap 9 = .ok (.aload_n 0, 1) := by decide +kernel
theorem dX5_isGap_10 : decode cX5_isGap 10 = .ok (.getfield 17, 3) := by decide +kernel
theorem dX5_isGap_13 : decode cX5_isGap 13 = .ok (.iload_n 1, 1) := by decide +kernel
theorem dX5_isGap_14 : decode cX5_isGap 14 = .ok (.iaload, 1) := by decide +kernel
theorem dX5_isGap_15 : decode cX5_isGap 15 = .ok (.ifCond .ge 36, 3) := by decide +kernel
theorem dX5_isGap_18 : decode cX5_isGap 18 = .ok (.aload_n 0, 1) := by decide +kernel
theorem dX5_isGap_19 : decode cX5_isGap 19 = .ok (.getfield 29, 3) := by decide +kernel
theorem dX5_isGap_22 : decode cX5_isGap 22 = .ok (.iload_n 2, 1) := by decide +kernel
theorem dX5_isGap_23 : decode cX5_isGap 23 = .ok (.iaload, 1) := by decide +kernel
theorem dX5_isGap_24 : decode cX5_isGap 24 = .ok (.iload_n 1, 1) := by decide +kernel
theorem dX5_isGap_25 : decode cX5_isGap 25 = .ok (.if_icmp .le 26, 3) := by decide +kernel
theorem dX5_isGap_28 : decode cX5_isGap 28 = .ok (.aload_n 0, 1) := by decide +kernel
theorem dX5_isGap_29 : decode cX5_isGap 29 = .ok (.getfield 35, 3) := by decide +kernel
theorem dX5_isGap_32 : decode cX5_isGap 32 = .ok (.iload_n 2, 1) := by decide +kernel
theorem dX5_isGap_33 : decode cX5_isGap 33 = .ok (.baload, 1) := by decide +kernel
theorem dX5_isGap_34 : decode cX5_isGap 34 = .ok (.ifCond .ne 17, 3) := by decide +kernel
theorem dX5_isGap_37 : decode cX5_isGap 37 = .ok (.iload_n 1, 1) := by decide +kernel
theorem dX5_isGap_38 : decode cX5_isGap 38 = .ok (.aload_n 0, 1) := by decide +kernel
theorem dX5_isGap_39 : decode cX5_isGap 39 = .ok (.getfield 26, 3) := by decide +kernel
theorem dX5_isGap_42 : decode cX5_isGap 42 = .ok (.iload_n 2, 1) := by decide +kernel
theorem dX5_isGap_43 : decode cX5_isGap 43 = .ok (.iaload, 1) := by decide +kernel
theorem dX5_isGap_44 : decode cX5_isGap 44 = .ok (.if_icmp .lt 7, 3) := by decide +kernel
theorem dX5_isGap_47 : decode cX5_isGap 47 = .ok (.iconst 1, 1) := by decide +kernel
theorem dX5_isGap_48 : decode cX5_isGap 48 = .ok (.goto 4, 3) := by decide +kernel
theorem dX5_isGap_51 : decode cX5_isGap 51 = .ok (.iconst 0, 1) := by decide +kernel
theorem dX5_isGap_52 : decode cX5_isGap 52 = .ok (.ireturn, 1) := by decide +kernel
theorem dX5_isGood_0 : decode cX5_isGood 0 = .ok (.aload_n 0, 1) := by decide +kernel
theorem dX5_isGood_1 : decode cX5_isGood 1 = .ok (.getfield 44, 3) := by decide +kernel
theorem dX5_isGood_4 : decode cX5_isGood 4 = .ok (.iload_n 1, 1) := by decide +kernel
theorem dX5_isGood_5 : decode cX5_isGood 5 = .ok (.iaload, 1) := by decide +kernel
theorem dX5_isGood_6 : decode cX5_isGood 6 = .ok (.istore_n 2, 1) := by decide +kernel
theorem dX5_isGood_7 : decode cX5_isGood 7 = .ok (.aload_n 0, 1) := by decide +kernel
theorem dX5_isGood_8 : decode cX5_isGood 8 = .ok (.getfield 47, 3) := by decide +kernel
theorem dX5_isGood_11 : decode cX5_isGood 11 = .ok (.iload_n 1, 1) := by decide +kernel
theorem dX5_isGood_12 : decode cX5_isGood 12 = .ok (.iaload, 1) := by decide +kernel
theorem dX5_isGood_13 : decode cX5_isGood 13 = .ok (.istore_n 3, 1) := by decide +kernel
theorem dX5_isGood_14 : decode cX5_isGood 14 = .ok (.aload_n 0, 1) := by decide +kernel
theorem dX5_isGood_15 : decode cX5_isGood 15 = .ok (.getfield 50, 3) := by decide +kernel
theorem dX5_isGood_18 : decode cX5_isGood 18 = .ok (.iload_n 1, 1) := by decide +kernel
theorem dX5_isGood_19 : decode cX5_isGood 19 = .ok (.baload, 1) := by decide +kernel
theorem dX5_isGood_20 : decode cX5_isGood 20 = .ok (.ifCond .eq 56, 3) := by decide +kernel
theorem dX5_isGood_23 : decode cX5_isGood 23 = .ok (.aload_n 0, 1) := by decide +kernel
theorem dX5_isGood_24 : decode cX5_isGood 24 = .ok (.getfield 7, 3) := by decide +kernel
theorem dX5_isGood_27 : decode cX5_isGood 27 = .ok (.iload_n 2, 1) := by decide +kernel
theorem dX5_isGood_28 : decode cX5_isGood 28 = .ok (.baload, 1) := by decide +kernel
theorem dX5_isGood_29 : decode cX5_isGood 29 = .ok (.ifCond .eq 47, 3) := by decide +kernel
theorem dX5_isGood_32 : decode cX5_isGood 32 = .ok (.aload_n 0, 1) := by decide +kernel
theorem dX5_isGood_33 : decode cX5_isGood 33 = .ok (.getfield 7, 3) := by decide +kernel
theorem dX5_isGood_36 : decode cX5_isGood 36 = .ok (.iload_n 3, 1) := by decide +kernel
theorem dX5_isGood_37 : decode cX5_isGood 37 = .ok (.baload, 1) := by decide +kernel
theorem dX5_isGood_38 : decode cX5_isGood 38 = .ok (.ifCond .eq 38, 3) := by decide +kernel
theorem dX5_isGood_41 : decode cX5_isGood 41 = .ok (.aload_n 0, 1) := by decide +kernel
theorem dX5_isGood_42 : decode cX5_isGood 42 = .ok (.getfield 13, 3) := by decide +kernel
theorem dX5_isGood_45 : decode cX5_isGood 45 = .ok (.iload_n 2, 1) := by decide +kernel
theorem dX5_isGood_46 : decode cX5_isGood 46 = .ok (.iaload, 1) := by decide +kernel
theorem dX5_isGood_47 : decode cX5_isGood 47 = .ok (.aload_n 0, 1) := by decide +kernel
theorem dX5_isGood_48 : decode cX5_isGood 48 = .ok (.getfield 41, 3) := by decide +kernel
theorem dX5_isGood_51 : decode cX5_isGood 51 = .ok (.iload_n 1, 1) := by decide +kernel
theorem dX5_isGood_52 : decode cX5_isGood 52 = .ok (.iaload, 1) := by decide +kernel
theorem dX5_isGood_53 : decode cX5_isGood 53 = .ok (.if_icmp .ne 23, 3) := by decide +kernel
theorem dX5_isGood_56 : decode cX5_isGood 56 = .ok (.aload_n 0, 1) := by decide +kernel
theorem dX5_isGood_57 : decode cX5_isGood 57 = .ok (.iload_n 2, 1) := by decide +kernel
theorem dX5_isGood_58 : decode cX5_isGood 58 = .ok (.invokevirtual 70, 3) := by decide +kernel
theorem dX5_isGood_61 : decode cX5_isGood 61 = .ok (.ifCond .ne 15, 3) := by decide +kernel
theorem dX5_isGood_64 : decode cX5_isGood 64 = .ok (.aload_n 0, 1) := by decide +kernel
theorem dX5_isGood_65 : decode cX5_isGood 65 = .ok (.iload_n 3, 1) := by decide +kernel
theorem dX5_isGood_66 : decode cX5_isGood 66 = .ok (.invokevirtual 70, 3) := by decide +kernel
theorem dX5_isGood_69 : decode cX5_isGood 69 = .ok (.ifCond .ne 7, 3) := by decide +kernel
theorem dX5_isGood_72 : decode cX5_isGood 72 = .ok (.iconst 1, 1) := by decide +kernel
theorem dX5_isGood_73 : decode cX5_isGood 73 = .ok (.goto 4, 3) := by decide +kernel
theorem dX5_isGood_76 : decode cX5_isGood 76 = .ok (.iconst 0, 1) := by decide +kernel
theorem dX5_isGood_77 : decode cX5_isGood 77 = .ok (.istore 4, 2) := by decide +kernel
theorem dX5_isGood_79 : decode cX5_isGood 79 = .ok (.iload 4, 2) := by decide +kernel
theorem dX5_isGood_81 : decode cX5_isGood 81 = .ok (.ifCond .eq 31, 3) := by decide +kernel
theorem dX5_isGood_84 : decode cX5_isGood 84 = .ok (.aload_n 0, 1) := by decide +kernel
theorem dX5_isGood_85 : decode cX5_isGood 85 = .ok (.getfield 17, 3) := by decide +kernel
theorem dX5_isGood_88 : decode cX5_isGood 88 = .ok (.iload_n 2, 1) := by decide +kernel
theorem dX5_isGood_89 : decode cX5_isGood 89 = .ok (.iaload, 1) := by decide +kernel
theorem dX5_isGood_90 : decode cX5_isGood 90 = .ok (.ifCond .lt 18, 3) := by decide +kernel
theorem dX5_isGood_93 : decode cX5_isGood 93 = .ok (.iload_n 3, 1) := by decide +kernel
theorem dX5_isGood_94 : decode cX5_isGood 94 = .ok (.aload_n 0, 1) := by decide +kernel
theorem dX5_isGood_95 : decode cX5_isGood 95 = .ok (.getfield 26, 3) := by decide +kernel
theorem dX5_isGood_98 : decode cX5_isGood 98 = .ok (.aload_n 0, 1) := by decide +kernel
theorem dX5_isGood_99 : decode cX5_isGood 99 = .ok (.getfield 17, 3) := by decide +kernel
theorem dX5_isGood_102 : decode cX5_isGood 102 = .ok (.iload_n 2, 1) := by decide +kernel
theorem dX5_isGood_103 : decode cX5_isGood 103 = .ok (.iaload, 1) := by decide +kernel
theorem dX5_isGood_104 : decode cX5_isGood 104 = .ok (.iaload, 1) := by decide +kernel
theorem dX5_isGood_105 : decode cX5_isGood 105 = .ok (.if_icmp .lt 7, 3) := by decide +kernel
theorem dX5_isGood_108 : decode cX5_isGood 108 = .ok (.iconst 1, 1) := by decide +kernel
theorem dX5_isGood_109 : decode cX5_isGood 109 = .ok (.goto 4, 3) := by decide +kernel
theorem dX5_isGood_112 : decode cX5_isGood 112 = .ok (.iconst 0, 1) := by decide +kernel
theorem dX5_isGood_113 : decode cX5_isGood 113 = .ok (.ireturn, 1) := by decide +kernel
end
section
theorem dX5_isLoose_0 : decode cX5_isLoose 0 = .ok (.aload_n 0, 1) := by decide +kernel
theorem dX5_isLoose_1 : decode cX5_isLoose 1 = .ok (.getfield 32, 3) := by decide +kernel
theorem dX5_isLoose_4 : decode cX5_isLoose 4 = .ok (.iload_n 1, 1) := by decide +kernel
theorem dX5_isLoose_5 : decode cX5_isLoose 5 = .ok (.baload, 1) := by decide +kernel
theorem dX5_isLoose_6 : decode cX5_isLoose 6 = .ok (.ifCond .ne 16, 3) := by decide +kernel
theorem dX5_isLoose_9 : decode cX5_isLoose 9 = .ok (.aload_n 0, 1) := by decide +kernel
theorem dX5_isLoose_10 : decode cX5_isLoose 10 = .ok (.getfield 35, 3) := by decide +kernel
theorem dX5_isLoose_13 : decode cX5_isLoose 13 = .ok (.iload_n 1, 1) := by decide +kernel
theorem dX5_isLoose_14 : decode cX5_isLoose 14 = .ok (.baload, 1) := by decide +kernel
theorem dX5_isLoose_15 : decode cX5_isLoose 15 = .ok (.ifCond .ne 7, 3) := by decide +kernel
theorem dX5_isLoose_18 : decode cX5_isLoose 18 = .ok (.iconst 1, 1) := by decide +kernel
theorem dX5_isLoose_19 : decode cX5_isLoose 19 = .ok (.goto 4, 3) := by decide +kernel
theorem dX5_isLoose_22 : decode cX5_isLoose 22 = .ok (.iconst 0, 1) := by decide +kernel
theorem dX5_isLoose_23 : decode cX5_isLoose 23 = .ok (.ireturn, 1) := by decide +kernel
theorem dX5_isSlot_0 : decode cX5_isSlot 0 = .ok (.iload_n 1, 1) := by decide +kernel
theorem dX5_isSlot_1 : decode cX5_isSlot 1 = .ok (.ifCond .lt 23, 3) := by decide +kernel
theorem dX5_isSlot_4 : decode cX5_isSlot 4 = .ok (.iload_n 1, 1) := by decide +kernel
theorem dX5_isSlot_5 : decode cX5_isSlot 5 = .ok (.sipush 240, 3) := by decide +kernel
theorem dX5_isSlot_8 : decode cX5_isSlot 8 = .ok (.if_icmp .ge 16, 3) := by decide +kernel
theorem dX5_isSlot_11 : decode cX5_isSlot 11 = .ok (.aload_n 0, 1) := by decide +kernel
theorem dX5_isSlot_12 : decode cX5_isSlot 12 = .ok (.getfield 7, 3) := by decide +kernel
theorem dX5_isSlot_15 : decode cX5_isSlot 15 = .ok (.iload_n 1, 1) := by decide +kernel
theorem dX5_isSlot_16 : decode cX5_isSlot 16 = .ok (.baload, 1) := by decide +kernel
theorem dX5_isSlot_17 : decode cX5_isSlot 17 = .ok (.ifCond .eq 7, 3) := by decide +kernel
theorem dX5_isSlot_20 : decode cX5_isSlot 20 = .ok (.iconst 1, 1) := by decide +kernel
theorem dX5_isSlot_21 : decode cX5_isSlot 21 = .ok (.goto 4, 3) := by decide +kernel
theorem dX5_isSlot_24 : decode cX5_isSlot 24 = .ok (.iconst 0, 1) := by decide +kernel
theorem dX5_isSlot_25 : decode cX5_isSlot 25 = .ok (.ireturn, 1) := by decide +kernel
theorem dX5_later_0 : decode cX5_later 0 = .ok (.aload_n 0, 1) := by decide +kernel
theorem dX5_later_1 : decode cX5_later 1 = .ok (.aload_n 0, 1) := by decide +kernel
theorem dX5_later_2 : decode cX5_later 2 = .ok (.iload_n 1, 1) := by decide +kernel
theorem dX5_later_3 : decode cX5_later 3 = .ok (.invokevirtual 91, 3) := by decide +kernel
theorem dX5_later_6 : decode cX5_later 6 = .ok (.ifCond .eq 20, 3) := by decide +kernel
theorem dX5_later_9 : decode cX5_later 9 = .ok (.iload_n 2, 1) := by decide +kernel
theorem dX5_later_10 : decode cX5_later 10 = .ok (.aload_n 0, 1) := by decide +kernel
theorem dX5_later_11 : decode cX5_later 11 = .ok (.getfield 26, 3) := by decide +kernel
theorem dX5_later_14 : decode cX5_later 14 = .ok (.iload_n 1, 1) := by decide +kernel
theorem dX5_later_15 : decode cX5_later 15 = .ok (.iaload, 1) := by decide +kernel
theorem dX5_later_16 : decode cX5_later 16 = .ok (.if_icmp .lt 10, 3) := by decide +kernel
theorem dX5_later_19 : decode cX5_later 19 = .ok (.iload_n 2, 1) := by decide +kernel
theorem dX5_later_20 : decode cX5_later 20 = .ok (.sipush 300, 3) := by decide +kernel
theorem dX5_later_23 : decode cX5_later 23 = .ok (.if_icmp .le 7, 3) := by decide +kernel
theorem dX5_later_26 : decode cX5_later 26 = .ok (.iconst 1, 1) := by decide +kernel
theorem dX5_later_27 : decode cX5_later 27 = .ok (.goto 16, 3) := by decide +kernel
theorem dX5_later_30 : decode cX5_later 30 = .ok (.aload_n 0, 1) := by decide +kernel
theorem dX5_later_31 : decode cX5_later 31 = .ok (.iload_n 1, 1) := by decide +kernel
theorem dX5_later_32 : decode cX5_later 32 = .ok (.invokevirtual 66, 3) := by decide +kernel
theorem dX5_later_35 : decode cX5_later 35 = .ok (.ifCond .ne 7, 3) := by decide +kernel
theorem dX5_later_38 : decode cX5_later 38 = .ok (.iconst 2, 1) := by decide +kernel
theorem dX5_later_39 : decode cX5_later 39 = .ok (.goto 4, 3) := by decide +kernel
theorem dX5_later_42 : decode cX5_later 42 = .ok (.iconst 0, 1) := by decide +kernel
theorem dX5_later_43 : decode cX5_later 43 = .ok (.putfield 56, 3) := by decide +kernel
theorem dX5_later_46 : decode cX5_later 46 = .ok (.aload_n 0, 1) := by decide +kernel
theorem dX5_later_47 : decode cX5_later 47 = .ok (.getfield 56, 3) := by decide +kernel
theorem dX5_later_50 : decode cX5_later 50 = .ok (.ifCond .le 5, 3) := by decide +kernel
theorem dX5_later_53 : decode cX5_later 53 = .ok (.iconst 0, 1) := by decide +kernel
theorem dX5_later_54 : decode cX5_later 54 = .ok (.ireturn, 1) := by decide +kernel
theorem dX5_later_55 : decode cX5_later 55 = .ok (.aload_n 0, 1) := by decide +kernel
theorem dX5_later_56 : decode cX5_later 56 = .ok (.getfield 26, 3) := by decide +kernel
theorem dX5_later_59 : decode cX5_later 59 = .ok (.iload_n 1, 1) := by decide +kernel
theorem dX5_later_60 : decode cX5_later 60 = .ok (.iload_n 2, 1) := by decide +kernel
theorem dX5_later_61 : decode cX5_later 61 = .ok (.iastore, 1) := by decide +kernel
theorem dX5_later_62 : decode cX5_later 62 = .ok (.aload_n 0, 1) := by decide +kernel
theorem dX5_later_63 : decode cX5_later 63 = .ok (.getfield 29, 3) := by decide +kernel
theorem dX5_later_66 : decode cX5_later 66 = .ok (.iload_n 1, 1) := by decide +kernel
theorem dX5_later_67 : decode cX5_later 67 = .ok (.iaload, 1) := by decide +kernel
theorem dX5_later_68 : decode cX5_later 68 = .ok (.istore_n 3, 1) := by decide +kernel
theorem dX5_later_69 : decode cX5_later 69 = .ok (.iload_n 3, 1) := by decide +kernel
theorem dX5_later_70 : decode cX5_later 70 = .ok (.ifCond .lt 8, 3) := by decide +kernel
theorem dX5_later_73 : decode cX5_later 73 = .ok (.iload_n 3, 1) := by decide +kernel
theorem dX5_later_74 : decode cX5_later 74 = .ok (.iload_n 2, 1) := by decide +kernel
theorem dX5_later_75 : decode cX5_later 75 = .ok (.if_icmp .lt 5, 3) := by decide +kernel
theorem dX5_later_78 : decode cX5_later 78 = .ok (.iconst 0, 1) := by decide +kernel
theorem dX5_later_79 : decode cX5_later 79 = .ok (.ireturn, 1) := by decide +kernel
theorem dX5_later_80 : decode cX5_later 80 = .ok (.aload_n 0, 1) := by decide +kernel
theorem dX5_later_81 : decode cX5_later 81 = .ok (.iload_n 3, 1) := by decide +kernel
theorem dX5_later_82 : decode cX5_later 82 = .ok (.invokevirtual 73, 3) := by decide +kernel
theorem dX5_later_85 : decode cX5_later 85 = .ok (.aload_n 0, 1) := by decide +kernel
theorem dX5_later_86 : decode cX5_later 86 = .ok (.iconst 4, 1) := by decide +kernel
theorem dX5_later_87 : decode cX5_later 87 = .ok (.iload_n 1, 1) := by decide +kernel
theorem dX5_later_88 : decode cX5_later 88 = .ok (.iload_n 3, 1) := by decide +kernel
theorem dX5_later_89 : decode cX5_later 89 = .ok (.iconst (-1), 1) := by decide +kernel
theorem dX5_later_90 : decode cX5_later 90 = .ok (.invokevirtual 97, 3) := by decide +kernel
theorem dX5_later_93 : decode cX5_later 93 = .ok (.iconst 1, 1) := by decide +kernel
theorem dX5_later_94 : decode cX5_later 94 = .ok (.ireturn, 1) := by decide +kernel
theorem dX5_log_0 : decode cX5_log 0 = .ok (.aload_n 0, 1) := by decide +kernel
theorem dX5_log_1 : decode cX5_log 1 = .ok (.iconst 0, 1) := by decide +kernel
theorem dX5_log_2 : decode cX5_log 2 = .ok (.putfield 56, 3) := by decide +kernel
theorem dX5_log_5 : decode cX5_log 5 = .ok (.aload_n 0, 1) := by decide +kernel
theorem dX5_log_6 : decode cX5_log 6 = .ok (.getfield 63, 3) := by decide +kernel
theorem dX5_log_9 : decode cX5_log 9 = .ok (.ireturn, 1) := by decide +kernel
theorem dX5_moves_0 : decode cX5_moves 0 = .ok (.iconst 0, 1) := by decide +kernel
theorem dX5_moves_1 : decode cX5_moves 1 = .ok (.istore_n 1, 1) := by decide +kernel
theorem dX5_moves_2 : decode cX5_moves 2 = .ok (.iload_n 1, 1) := by decide +kernel
theorem dX5_moves_3 : decode cX5_moves 3 = .ok (.sipush 240, 3) := by decide +kernel
theorem dX5_moves_6 : decode cX5_moves 6 = .ok (.if_icmp .ge 141, 3) := by decide +kernel
theorem dX5_moves_9 : decode cX5_moves 9 = .ok (.aload_n 0, 1) := by decide +kernel
theorem dX5_moves_10 : decode cX5_moves 10 = .ok (.getfield 7, 3) := by decide +kernel
theorem dX5_moves_13 : decode cX5_moves 13 = .ok (.iload_n 1, 1) := by decide +kernel
theorem dX5_moves_14 : decode cX5_moves 14 = .ok (.baload, 1) := by decide +kernel
theorem dX5_moves_15 : decode cX5_moves 15 = .ok (.ifCond .eq 27, 3) := by decide +kernel
theorem dX5_moves_18 : decode cX5_moves 18 = .ok (.aload_n 0, 1) := by decide +kernel
theorem dX5_moves_19 : decode cX5_moves 19 = .ok (.getfield 13, 3) := by decide +kernel
theorem dX5_moves_22 : decode cX5_moves 22 = .ok (.iload_n 1, 1) := by decide +kernel
theorem dX5_moves_23 : decode cX5_moves 23 = .ok (.iaload, 1) := by decide +kernel
theorem dX5_moves_24 : decode cX5_moves 24 = .ok (.iconst (-1), 1) := by decide +kernel
theorem dX5_moves_25 : decode cX5_moves 25 = .ok (.if_icmp .eq 17, 3) := by decide +kernel
theorem dX5_moves_28 : decode cX5_moves 28 = .ok (.aload_n 0, 1) := by decide +kernel
theorem dX5_moves_29 : decode cX5_moves 29 = .ok (.iload_n 1, 1) := by decide +kernel
theorem dX5_moves_30 : decode cX5_moves 30 = .ok (.aload_n 0, 1) := by decide +kernel
theorem dX5_moves_31 : decode cX5_moves 31 = .ok (.getfield 13, 3) := by decide +kernel
theorem dX5_moves_34 : decode cX5_moves 34 = .ok (.iload_n 1, 1) := by decide +kernel
theorem dX5_moves_35 : decode cX5_moves 35 = .ok (.iaload, 1) := by decide +kernel
theorem dX5_moves_36 : decode cX5_moves 36 = .ok (.invokevirtual 125, 3) := by decide +kernel
theorem dX5_moves_39 : decode cX5_moves 39 = .ok (.goto 4, 3) := by decide +kernel
theorem dX5_moves_42 : decode cX5_moves 42 = .ok (.iconst (-1), 1) := by decide +kernel
theorem dX5_moves_43 : decode cX5_moves 43 = .ok (.istore_n 2, 1) := by decide +kernel
theorem dX5_moves_44 : decode cX5_moves 44 = .ok (.iload_n 2, 1) := by decide +kernel
theorem dX5_moves_45 : decode cX5_moves 45 = .ok (.ifCond .ge 12, 3) := by decide +kernel
theorem dX5_moves_48 : decode cX5_moves 48 = .ok (.aload_n 0, 1) := by decide +kernel
theorem dX5_moves_49 : decode cX5_moves 49 = .ok (.iload_n 1, 1) := by decide +kernel
theorem dX5_moves_50 : decode cX5_moves 50 = .ok (.iconst (-1), 1) := by decide +kernel
theorem dX5_moves_51 : decode cX5_moves 51 = .ok (.invokevirtual 125, 3) := by decide +kernel
theorem dX5_moves_54 : decode cX5_moves 54 = .ok (.goto 4, 3) := by decide +kernel
theorem dX5_moves_57 : decode cX5_moves 57 = .ok (.iload_n 2, 1) := by decide +kernel
theorem dX5_moves_58 : decode cX5_moves 58 = .ok (.istore_n 2, 1) := by decide +kernel
theorem dX5_moves_59 : decode cX5_moves 59 = .ok (.iload_n 2, 1) := by decide +kernel
theorem dX5_moves_60 : decode cX5_moves 60 = .ok (.ifCond .lt 81, 3) := by decide +kernel
theorem dX5_moves_63 : decode cX5_moves 63 = .ok (.aload_n 0, 1) := by decide +kernel
theorem dX5_moves_64 : decode cX5_moves 64 = .ok (.getfield 29, 3) := by decide +kernel
theorem dX5_moves_67 : decode cX5_moves 67 = .ok (.iload_n 2, 1) := by decide +kernel
theorem dX5_moves_68 : decode cX5_moves 68 = .ok (.iaload, 1) := by decide +kernel
theorem dX5_moves_69 : decode cX5_moves 69 = .ok (.istore_n 3, 1) := by decide +kernel
theorem dX5_moves_70 : decode cX5_moves 70 = .ok (.aload_n 0, 1) := by decide +kernel
theorem dX5_moves_71 : decode cX5_moves 71 = .ok (.getfield 17, 3) := by decide +kernel
theorem dX5_moves_74 : decode cX5_moves 74 = .ok (.iload_n 3, 1) := by decide +kernel
theorem dX5_moves_75 : decode cX5_moves 75 = .ok (.iconst (-1), 1) := by decide +kernel
theorem dX5_moves_76 : decode cX5_moves 76 = .ok (.iastore, 1) := by decide +kernel
theorem dX5_moves_77 : decode cX5_moves 77 = .ok (.aload_n 0, 1) := by decide +kernel
theorem dX5_moves_78 : decode cX5_moves 78 = .ok (.getfield 13, 3) := by decide +kernel
theorem dX5_moves_81 : decode cX5_moves 81 = .ok (.iload_n 3, 1) := by decide +kernel
theorem dX5_moves_82 : decode cX5_moves 82 = .ok (.aload_n 0, 1) := by decide +kernel
theorem dX5_moves_83 : decode cX5_moves 83 = .ok (.getfield 13, 3) := by decide +kernel
theorem dX5_moves_86 : decode cX5_moves 86 = .ok (.iload_n 1, 1) := by decide +kernel
theorem dX5_moves_87 : decode cX5_moves 87 = .ok (.iaload, 1) := by decide +kernel
theorem dX5_moves_88 : decode cX5_moves 88 = .ok (.aload_n 0, 1) := by decide +kernel
theorem dX5_moves_89 : decode cX5_moves 89 = .ok (.getfield 20, 3) := by decide +kernel
theorem dX5_moves_92 : decode cX5_moves 92 = .ok (.iload_n 2, 1) := by decide +kernel
theorem dX5_moves_93 : decode cX5_moves 93 = .ok (.iaload, 1) := by decide +kernel
theorem dX5_moves_94 : decode cX5_moves 94 = .ok (.if_icmp .ne 12, 3) := by decide +kernel
theorem dX5_moves_97 : decode cX5_moves 97 = .ok (.aload_n 0, 1) := by decide +kernel
theorem dX5_moves_98 : decode cX5_moves 98 = .ok (.getfield 13, 3) := by decide +kernel
theorem dX5_moves_101 : decode cX5_moves 101 = .ok (.iload_n 3, 1) := by decide +kernel
theorem dX5_moves_102 : decode cX5_moves 102 = .ok (.iaload, 1) := by decide +kernel
theorem dX5_moves_103 : decode cX5_moves 103 = .ok (.goto 9, 3) := by decide +kernel
theorem dX5_moves_106 : decode cX5_moves 106 = .ok (.aload_n 0, 1) := by decide +kernel
theorem dX5_moves_107 : decode cX5_moves 107 = .ok (.getfield 13, 3) := by decide +kernel
theorem dX5_moves_110 : decode cX5_moves 110 = .ok (.iload_n 1, 1) := by decide +kernel
theorem dX5_moves_111 : decode cX5_moves 111 = .ok (.iaload, 1) := by decide +kernel
theorem dX5_moves_112 : decode cX5_moves 112 = .ok (.iastore, 1) := by decide +kernel
theorem dX5_moves_113 : decode cX5_moves 113 = .ok (.aload_n 0, 1) := by decide +kernel
theorem dX5_moves_114 : decode cX5_moves 114 = .ok (.getfield 13, 3) := by decide +kernel
theorem dX5_moves_117 : decode cX5_moves 117 = .ok (.iload_n 1, 1) := by decide +kernel
theorem dX5_moves_118 : decode cX5_moves 118 = .ok (.aload_n 0, 1) := by decide +kernel
theorem dX5_moves_119 : decode cX5_moves 119 = .ok (.getfield 20, 3) := by decide +kernel
theorem dX5_moves_122 : decode cX5_moves 122 = .ok (.iload_n 2, 1) := by decide +kernel
theorem dX5_moves_123 : decode cX5_moves 123 = .ok (.iaload, 1) := by decide +kernel
theorem dX5_moves_124 : decode cX5_moves 124 = .ok (.iastore, 1) := by decide +kernel
theorem dX5_moves_125 : decode cX5_moves 125 = .ok (.aload_n 0, 1) := by decide +kernel
theorem dX5_moves_126 : decode cX5_moves 126 = .ok (.iload_n 2, 1) := by decide +kernel
theorem dX5_moves_127 : decode cX5_moves 127 = .ok (.iload_n 1, 1) := by decide +kernel
theorem dX5_moves_128 : decode cX5_moves 128 = .ok (.invokevirtual 101, 3) := by decide +kernel
theorem dX5_moves_131 : decode cX5_moves 131 = .ok (.aload_n 0, 1) := by decide +kernel
theorem dX5_moves_132 : decode cX5_moves 132 = .ok (.iconst 3, 1) := by decide +kernel
theorem dX5_moves_133 : decode cX5_moves 133 = .ok (.iload_n 2, 1) := by decide +kernel
theorem dX5_moves_134 : decode cX5_moves 134 = .ok (.iload_n 3, 1) := by decide +kernel
theorem dX5_moves_135 : decode cX5_moves 135 = .ok (.iload_n 1, 1) := by decide +kernel
theorem dX5_moves_136 : decode cX5_moves 136 = .ok (.invokevirtual 97, 3) := by decide +kernel
theorem dX5_moves_139 : decode cX5_moves 139 = .ok (.iconst 1, 1) := by decide +kernel
theorem dX5_moves_140 : decode cX5_moves 140 = .ok (.ireturn, 1) := by decide +kernel
theorem dX5_moves_141 : decode cX5_moves 141 = .ok (.iinc 1 1, 3) := by decide +kernel
theorem dX5_moves_144 : decode cX5_moves 144 = .ok (.goto (-142), 3) := by decide +kernel
theorem dX5_moves_147 : decode cX5_moves 147 = .ok (.iconst 0, 1) := by decide +kernel
theorem dX5_moves_148 : decode cX5_moves 148 = .ok (.ireturn, 1) := by decide +kernel
theorem dX5_nextFlight_0 : decode cX5_nextFlight 0 = .ok (.iconst (-1), 1) := by decide +kernel
theorem dX5_nextFlight_1 : decode cX5_nextFlight 1 = .ok (.istore_n 1, 1) := by decide +kernel
theorem dX5_nextFlight_2 : decode cX5_nextFlight 2 = .ok (.iconst 0, 1) := by decide +kernel
theorem dX5_nextFlight_3 : decode cX5_nextFlight 3 = .ok (.istore_n 2, 1) := by decide +kernel
theorem dX5_nextFlight_4 : decode cX5_nextFlight 4 = .ok (.iload_n 2, 1) := by decide +kernel
theorem dX5_nextFlight_5 : decode cX5_nextFlight 5 = .ok (.aload_n 0, 1) := by decide +kernel
theorem dX5_nextFlight_6 : decode cX5_nextFlight 6 = .ok (.getfield 60, 3) := by decide +kernel
theorem dX5_nextFlight_9 : decode cX5_nextFlight 9 = .ok (.if_icmp .ge 51, 3) := by decide +kernel
theorem dX5_nextFlight_12 : decode cX5_nextFlight 12 = .ok (.aload_n 0, 1) := by decide +kernel
theorem dX5_nextFlight_13 : decode cX5_nextFlight 13 = .ok (.iload_n 2, 1) := by decide +kernel
theorem dX5_nextFlight_14 : decode cX5_nextFlight 14 = .ok (.invokevirtual 66, 3) := by decide +kernel
theorem dX5_nextFlight_17 : decode cX5_nextFlight 17 = .ok (.ifCond .eq 35, 3) := by decide +kernel
theorem dX5_nextFlight_20 : decode cX5_nextFlight 20 = .ok (.aload_n 0, 1) := by decide +kernel
theorem dX5_nextFlight_21 : decode cX5_nextFlight 21 = .ok (.getfield 38, 3) := by decide +kernel
theorem dX5_nextFlight_24 : decode cX5_nextFlight 24 = .ok (.iload_n 2, 1) := by decide +kernel
theorem dX5_nextFlight_25 : decode cX5_nextFlight 25 = .ok (.baload, 1) := by decide +kernel
theorem dX5_nextFlight_26 : decode cX5_nextFlight 26 = .ok (.ifCond .ne 26, 3) := by decide +kernel
theorem dX5_nextFlight_29 : decode cX5_nextFlight 29 = .ok (.iload_n 1, 1) := by decide +kernel
theorem dX5_nextFlight_30 : decode cX5_nextFlight 30 = .ok (.ifCond .lt 18, 3) := by decide +kernel
theorem dX5_nextFlight_33 : decode cX5_nextFlight 33 = .ok (.aload_n 0, 1) := by decide +kernel
theorem dX5_nextFlight_34 : decode cX5_nextFlight 34 = .ok (.getfield 23, 3) := by decide +kernel
theorem dX5_nextFlight_37 : decode cX5_nextFlight 37 = .ok (.iload_n 2, 1) := by decide +kernel
theorem dX5_nextFlight_38 : decode cX5_nextFlight 38 = .ok (.iaload, 1) := by decide +kernel
theorem dX5_nextFlight_39 : decode cX5_nextFlight 39 = .ok (.aload_n 0, 1) := by decide +kernel
theorem dX5_nextFlight_40 : decode cX5_nextFlight 40 = .ok (.getfield 23, 3) := by decide +kernel
theorem dX5_nextFlight_43 : decode cX5_nextFlight 43 = .ok (.iload_n 1, 1) := by decide +kernel
theorem dX5_nextFlight_44 : decode cX5_nextFlight 44 = .ok (.iaload, 1) := by decide +kernel
theorem dX5_nextFlight_45 : decode cX5_nextFlight 45 = .ok (.if_icmp .ge 7, 3) := by decide +kernel
theorem dX5_nextFlight_48 : decode cX5_nextFlight 48 = .ok (.iload_n 2, 1) := by decide +kernel
theorem dX5_nextFlight_49 : decode cX5_nextFlight 49 = .ok (.goto 4, 3) := by decide +kernel
theorem dX5_nextFlight_52 : decode cX5_nextFlight 52 = .ok (.iload_n 1, 1) := by decide +kernel
theorem dX5_nextFlight_53 : decode cX5_nextFlight 53 = .ok (.istore_n 1, 1) := by decide +kernel
theorem dX5_nextFlight_54 : decode cX5_nextFlight 54 = .ok (.iinc 2 1, 3) := by decide +kernel
theorem dX5_nextFlight_57 : decode cX5_nextFlight 57 = .ok (.goto (-53), 3) := by decide +kernel
theorem dX5_nextFlight_60 : decode cX5_nextFlight 60 = .ok (.iload_n 1, 1) := by decide +kernel
theorem dX5_nextFlight_61 : decode cX5_nextFlight 61 = .ok (.ireturn, 1) := by decide +kernel
theorem dX5_note_0 : decode cX5_note 0 = .ok (.aload_n 0, 1) := by decide +kernel
theorem dX5_note_1 : decode cX5_note 1 = .ok (.getfield 63, 3) := by decide +kernel
theorem dX5_note_4 : decode cX5_note 4 = .ok (.sipush 200, 3) := by decide +kernel
theorem dX5_note_7 : decode cX5_note 7 = .ok (.if_icmp .ge 68, 3) := by decide +kernel
theorem dX5_note_10 : decode cX5_note 10 = .ok (.aload_n 0, 1) := by decide +kernel
theorem dX5_note_11 : decode cX5_note 11 = .ok (.getfield 53, 3) := by decide +kernel
theorem dX5_note_14 : decode cX5_note 14 = .ok (.iconst 4, 1) := by decide +kernel
theorem dX5_note_15 : decode cX5_note 15 = .ok (.aload_n 0, 1) := by decide +kernel
theorem dX5_note_16 : decode cX5_note 16 = .ok (.getfield 63, 3) := by decide +kernel
theorem dX5_note_19 : decode cX5_note 19 = .ok (.imul, 1) := by decide +kernel
theorem dX5_note_20 : decode cX5_note 20 = .ok (.iload_n 1, 1) := by decide +kernel
theorem dX5_note_21 : decode cX5_note 21 = .ok (.iastore, 1) := by decide +kernel
theorem dX5_note_22 : decode cX5_note 22 = .ok (.aload_n 0, 1) := by decide +kernel
theorem dX5_note_23 : decode cX5_note 23 = .ok (.getfield 53, 3) := by decide +kernel
theorem dX5_note_26 : decode cX5_note 26 = .ok (.iconst 4, 1) := by decide +kernel
theorem dX5_note_27 : decode cX5_note 27 = .ok (.aload_n 0, 1) := by decide +kernel
theorem dX5_note_28 : decode cX5_note 28 = .ok (.getfield 63, 3) := by decide +kernel
theorem dX5_note_31 : decode cX5_note 31 = .ok (.imul, 1) := by decide +kernel
theorem dX5_note_32 : decode cX5_note 32 = .ok (.iconst 1, 1) := by decide +kernel
theorem dX5_note_33 : decode cX5_note 33 = .ok (.iadd, 1) := by decide +kernel
theorem dX5_note_34 : decode cX5_note 34 = .ok (.iload_n 2, 1) := by decide +kernel
theorem dX5_note_35 : decode cX5_note 35 = .ok (.iastore, 1) := by decide +kernel
theorem dX5_note_36 : decode cX5_note 36 = .ok (.aload_n 0, 1) := by decide +kernel
theorem dX5_note_37 : decode cX5_note 37 = .ok (.getfield 53, 3) := by decide +kernel
theorem dX5_note_40 : decode cX5_note 40 = .ok (.iconst 4, 1) := by decide +kernel
theorem dX5_note_41 : decode cX5_note 41 = .ok (.aload_n 0, 1) := by decide +kernel
theorem dX5_note_42 : decode cX5_note 42 = .ok (.getfield 63, 3) := by decide +kernel
theorem dX5_note_45 : decode cX5_note 45 = .ok (.imul, 1) := by decide +kernel
theorem dX5_note_46 : decode cX5_note 46 = .ok (.iconst 2, 1) := by decide +kernel
theorem dX5_note_47 : decode cX5_note 47 = .ok (.iadd, 1) := by decide +kernel
theorem dX5_note_48 : decode cX5_note 48 = .ok (.iload_n 3, 1) := by decide +kernel
theorem dX5_note_49 : decode cX5_note 49 = .ok (.iastore, 1) := by decide +kernel
theorem dX5_note_50 : decode cX5_note 50 = .ok (.aload_n 0, 1) := by decide +kernel
theorem dX5_note_51 : decode cX5_note 51 = .ok (.getfield 53, 3) := by decide +kernel
theorem dX5_note_54 : decode cX5_note 54 = .ok (.iconst 4, 1) := by decide +kernel
theorem dX5_note_55 : decode cX5_note 55 = .ok (.aload_n 0, 1) := by decide +kernel
theorem dX5_note_56 : decode cX5_note 56 = .ok (.getfield 63, 3) := by decide +kernel
theorem dX5_note_59 : decode cX5_note 59 = .ok (.imul, 1) := by decide +kernel
theorem dX5_note_60 : decode cX5_note 60 = .ok (.iconst 3, 1) := by decide +kernel
theorem dX5_note_61 : decode cX5_note 61 = .ok (.iadd, 1) := by decide +kernel
theorem dX5_note_62 : decode cX5_note 62 = .ok (.iload 4, 2) := by decide +kernel
theorem dX5_note_64 : decode cX5_note 64 = .ok (.iastore, 1) := by decide +kernel
theorem dX5_note_65 : decode cX5_note 65 = .ok (.aload_n 0, 1) := by decide +kernel
theorem dX5_note_66 : decode cX5_note 66 = .ok (.dup, 1) := by decide +kernel
theorem dX5_note_67 : decode cX5_note 67 = .ok (.getfield 63, 3) := by decide +kernel
theorem dX5_note_70 : decode cX5_note 70 = .ok (.iconst 1, 1) := by decide +kernel
theorem dX5_note_71 : decode cX5_note 71 = .ok (.iadd, 1) := by decide +kernel
theorem dX5_note_72 : decode cX5_note 72 = .ok (.putfield 63, 3) := by decide +kernel
theorem dX5_note_75 : decode cX5_note 75 = .ok (.return_, 1) := by decide +kernel
theorem dX5_offer_0 : decode cX5_offer 0 = .ok (.aload_n 0, 1) := by decide +kernel
theorem dX5_offer_1 : decode cX5_offer 1 = .ok (.iload_n 1, 1) := by decide +kernel
theorem dX5_offer_2 : decode cX5_offer 2 = .ok (.iconst 0, 1) := by decide +kernel
theorem dX5_offer_3 : decode cX5_offer 3 = .ok (.bipush 7, 2) := by decide +kernel
theorem dX5_offer_5 : decode cX5_offer 5 = .ok (.invokestatic 84, 3) := by decide +kernel
theorem dX5_offer_8 : decode cX5_offer 8 = .ok (.ifCond .eq 8, 3) := by decide +kernel
theorem dX5_offer_11 : decode cX5_offer 11 = .ok (.iload_n 2, 1) := by decide +kernel
theorem dX5_offer_12 : decode cX5_offer 12 = .ok (.iload_n 3, 1) := by decide +kernel
theorem dX5_offer_13 : decode cX5_offer 13 = .ok (.if_icmp .ne 7, 3) := by decide +kernel
theorem dX5_offer_16 : decode cX5_offer 16 = .ok (.iconst 1, 1) := by decide +kernel
theorem dX5_offer_17 : decode cX5_offer 17 = .ok (.goto 47, 3) := by decide +kernel
theorem dX5_offer_20 : decode cX5_offer 20 = .ok (.aload_n 0, 1) := by decide +kernel
theorem dX5_offer_21 : decode cX5_offer 21 = .ok (.iload_n 2, 1) := by decide +kernel
theorem dX5_offer_22 : decode cX5_offer 22 = .ok (.invokevirtual 94, 3) := by decide +kernel
theorem dX5_offer_25 : decode cX5_offer 25 = .ok (.ifCond .eq 11, 3) := by decide +kernel
theorem dX5_offer_28 : decode cX5_offer 28 = .ok (.aload_n 0, 1) := by decide +kernel
theorem dX5_offer_29 : decode cX5_offer 29 = .ok (.iload_n 3, 1) := by decide +kernel
theorem dX5_offer_30 : decode cX5_offer 30 = .ok (.invokevirtual 94, 3) := by decide +kernel
theorem dX5_offer_33 : decode cX5_offer 33 = .ok (.ifCond .ne 7, 3) := by decide +kernel
theorem dX5_offer_36 : decode cX5_offer 36 = .ok (.iconst 2, 1) := by decide +kernel
theorem dX5_offer_37 : decode cX5_offer 37 = .ok (.goto 27, 3) := by decide +kernel
theorem dX5_offer_40 : decode cX5_offer 40 = .ok (.aload_n 0, 1) := by decide +kernel
theorem dX5_offer_41 : decode cX5_offer 41 = .ok (.getfield 13, 3) := by decide +kernel
theorem dX5_offer_44 : decode cX5_offer 44 = .ok (.iload_n 2, 1) := by decide +kernel
theorem dX5_offer_45 : decode cX5_offer 45 = .ok (.iaload, 1) := by decide +kernel
theorem dX5_offer_46 : decode cX5_offer 46 = .ok (.iload_n 1, 1) := by decide +kernel
theorem dX5_offer_47 : decode cX5_offer 47 = .ok (.if_icmp .ne 12, 3) := by decide +kernel
theorem dX5_offer_50 : decode cX5_offer 50 = .ok (.aload_n 0, 1) := by decide +kernel
theorem dX5_offer_51 : decode cX5_offer 51 = .ok (.getfield 108, 3) := by decide +kernel
theorem dX5_offer_54 : decode cX5_offer 54 = .ok (.bipush 40, 2) := by decide +kernel
theorem dX5_offer_56 : decode cX5_offer 56 = .ok (.if_icmp .ne 7, 3) := by decide +kernel
theorem dX5_offer_59 : decode cX5_offer 59 = .ok (.iconst 3, 1) := by decide +kernel
theorem dX5_offer_60 : decode cX5_offer 60 = .ok (.goto 4, 3) := by decide +kernel
theorem dX5_offer_63 : decode cX5_offer 63 = .ok (.iconst 0, 1) := by decide +kernel
theorem dX5_offer_64 : decode cX5_offer 64 = .ok (.putfield 56, 3) := by decide +kernel
theorem dX5_offer_67 : decode cX5_offer 67 = .ok (.aload_n 0, 1) := by decide +kernel
theorem dX5_offer_68 : decode cX5_offer 68 = .ok (.getfield 56, 3) := by decide +kernel
theorem dX5_offer_71 : decode cX5_offer 71 = .ok (.ifCond .le 5, 3) := by decide +kernel
theorem dX5_offer_74 : decode cX5_offer 74 = .ok (.iconst 0, 1) := by decide +kernel
theorem dX5_offer_75 : decode cX5_offer 75 = .ok (.ireturn, 1) := by decide +kernel
theorem dX5_offer_76 : decode cX5_offer 76 = .ok (.aload_n 0, 1) := by decide +kernel
theorem dX5_offer_77 : decode cX5_offer 77 = .ok (.getfield 41, 3) := by decide +kernel
theorem dX5_offer_80 : decode cX5_offer 80 = .ok (.aload_n 0, 1) := by decide +kernel
theorem dX5_offer_81 : decode cX5_offer 81 = .ok (.getfield 108, 3) := by decide +kernel
theorem dX5_offer_84 : decode cX5_offer 84 = .ok (.iload_n 1, 1) := by decide +kernel
theorem dX5_offer_85 : decode cX5_offer 85 = .ok (.iastore, 1) := by decide +kernel
theorem dX5_offer_86 : decode cX5_offer 86 = .ok (.aload_n 0, 1) := by decide +kernel
theorem dX5_offer_87 : decode cX5_offer 87 = .ok (.getfield 44, 3) := by decide +kernel
theorem dX5_offer_90 : decode cX5_offer 90 = .ok (.aload_n 0, 1) := by decide +kernel
theorem dX5_offer_91 : decode cX5_offer 91 = .ok (.getfield 108, 3) := by decide +kernel
theorem dX5_offer_94 : decode cX5_offer 94 = .ok (.iload_n 2, 1) := by decide +kernel
theorem dX5_offer_95 : decode cX5_offer 95 = .ok (.iastore, 1) := by decide +kernel
theorem dX5_offer_96 : decode cX5_offer 96 = .ok (.aload_n 0, 1) := by decide +kernel
theorem dX5_offer_97 : decode cX5_offer 97 = .ok (.getfield 47, 3) := by decide +kernel
theorem dX5_offer_100 : decode cX5_offer 100 = .ok (.aload_n 0, 1) := by decide +kernel
theorem dX5_offer_101 : decode cX5_offer 101 = .ok (.getfield 108, 3) := by decide +kernel
theorem dX5_offer_104 : decode cX5_offer 104 = .ok (.iload_n 3, 1) := by decide +kernel
theorem dX5_offer_105 : decode cX5_offer 105 = .ok (.iastore, 1) := by decide +kernel
theorem dX5_offer_106 : decode cX5_offer 106 = .ok (.aload_n 0, 1) := by decide +kernel
theorem dX5_offer_107 : decode cX5_offer 107 = .ok (.getfield 50, 3) := by decide +kernel
theorem dX5_offer_110 : decode cX5_offer 110 = .ok (.aload_n 0, 1) := by decide +kernel
theorem dX5_offer_111 : decode cX5_offer 111 = .ok (.getfield 108, 3) := by decide +kernel
theorem dX5_offer_114 : decode cX5_offer 114 = .ok (.iconst 1, 1) := by decide +kernel
theorem dX5_offer_115 : decode cX5_offer 115 = .ok (.bastore, 1) := by decide +kernel
theorem dX5_offer_116 : decode cX5_offer 116 = .ok (.aload_n 0, 1) := by decide +kernel
theorem dX5_offer_117 : decode cX5_offer 117 = .ok (.dup, 1) := by decide +kernel
theorem dX5_offer_118 : decode cX5_offer 118 = .ok (.getfield 108, 3) := by decide +kernel
theorem dX5_offer_121 : decode cX5_offer 121 = .ok (.iconst 1, 1) := by decide +kernel
theorem dX5_offer_122 : decode cX5_offer 122 = .ok (.iadd, 1) := by decide +kernel
theorem dX5_offer_123 : decode cX5_offer 123 = .ok (.putfield 108, 3) := by decide +kernel
theorem dX5_offer_126 : decode cX5_offer 126 = .ok (.aload_n 0, 1) := by decide +kernel
theorem dX5_offer_127 : decode cX5_offer 127 = .ok (.getfield 108, 3) := by decide +kernel
theorem dX5_offer_130 : decode cX5_offer 130 = .ok (.iconst 1, 1) := by decide +kernel
theorem dX5_offer_131 : decode cX5_offer 131 = .ok (.isub, 1) := by decide +kernel
theorem dX5_offer_132 : decode cX5_offer 132 = .ok (.ireturn, 1) := by decide +kernel
theorem dX5_owned_0 : decode cX5_owned 0 = .ok (.aload_n 0, 1) := by decide +kernel
theorem dX5_owned_1 : decode cX5_owned 1 = .ok (.iload_n 1, 1) := by decide +kernel
theorem dX5_owned_2 : decode cX5_owned 2 = .ok (.iconst (-1), 1) := by decide +kernel
theorem dX5_owned_3 : decode cX5_owned 3 = .ok (.bipush 7, 2) := by decide +kernel
theorem dX5_owned_5 : decode cX5_owned 5 = .ok (.invokestatic 84, 3) := by decide +kernel
theorem dX5_owned_8 : decode cX5_owned 8 = .ok (.ifCond .eq 7, 3) := by decide +kernel
theorem dX5_owned_11 : decode cX5_owned 11 = .ok (.iconst 0, 1) := by decide +kernel
theorem dX5_owned_12 : decode cX5_owned 12 = .ok (.goto 4, 3) := by decide +kernel
theorem dX5_owned_15 : decode cX5_owned 15 = .ok (.iconst 1, 1) := by decide +kernel
theorem dX5_owned_16 : decode cX5_owned 16 = .ok (.putfield 56, 3) := by decide +kernel
theorem dX5_owned_19 : decode cX5_owned 19 = .ok (.iconst 0, 1) := by decide +kernel
theorem dX5_owned_20 : decode cX5_owned 20 = .ok (.istore_n 2, 1) := by decide +kernel
theorem dX5_owned_21 : decode cX5_owned 21 = .ok (.iconst 0, 1) := by decide +kernel
theorem dX5_owned_22 : decode cX5_owned 22 = .ok (.istore_n 3, 1) := by decide +kernel
theorem dX5_owned_23 : decode cX5_owned 23 = .ok (.iload_n 3, 1) := by decide +kernel
theorem dX5_owned_24 : decode cX5_owned 24 = .ok (.sipush 240, 3) := by decide +kernel
theorem dX5_owned_27 : decode cX5_owned 27 = .ok (.if_icmp .ge 43, 3) := by decide +kernel
theorem dX5_owned_30 : decode cX5_owned 30 = .ok (.aload_n 0, 1) := by decide +kernel
theorem dX5_owned_31 : decode cX5_owned 31 = .ok (.getfield 56, 3) := by decide +kernel
theorem dX5_owned_34 : decode cX5_owned 34 = .ok (.ifCond .ne 36, 3) := by decide +kernel
theorem dX5_owned_37 : decode cX5_owned 37 = .ok (.aload_n 0, 1) := by decide +kernel
theorem dX5_owned_38 : decode cX5_owned 38 = .ok (.getfield 7, 3) := by decide +kernel
theorem dX5_owned_41 : decode cX5_owned 41 = .ok (.iload_n 3, 1) := by decide +kernel
theorem dX5_owned_42 : decode cX5_owned 42 = .ok (.baload, 1) := by decide +kernel
theorem dX5_owned_43 : decode cX5_owned 43 = .ok (.ifCond .eq 19, 3) := by decide +kernel
theorem dX5_owned_46 : decode cX5_owned 46 = .ok (.aload_n 0, 1) := by decide +kernel
theorem dX5_owned_47 : decode cX5_owned 47 = .ok (.getfield 13, 3) := by decide +kernel
theorem dX5_owned_50 : decode cX5_owned 50 = .ok (.iload_n 3, 1) := by decide +kernel
theorem dX5_owned_51 : decode cX5_owned 51 = .ok (.iaload, 1) := by decide +kernel
theorem dX5_owned_52 : decode cX5_owned 52 = .ok (.iload_n 1, 1) := by decide +kernel
theorem dX5_owned_53 : decode cX5_owned 53 = .ok (.if_icmp .ne 9, 3) := by decide +kernel
theorem dX5_owned_56 : decode cX5_owned 56 = .ok (.iload_n 2, 1) := by decide +kernel
theorem dX5_owned_57 : decode cX5_owned 57 = .ok (.iconst 1, 1) := by decide +kernel
theorem dX5_owned_58 : decode cX5_owned 58 = .ok (.iadd, 1) := by decide +kernel
theorem dX5_owned_59 : decode cX5_owned 59 = .ok (.goto 4, 3) := by decide +kernel
theorem dX5_owned_62 : decode cX5_owned 62 = .ok (.iload_n 2, 1) := by decide +kernel
theorem dX5_owned_63 : decode cX5_owned 63 = .ok (.istore_n 2, 1) := by decide +kernel
theorem dX5_owned_64 : decode cX5_owned 64 = .ok (.iinc 3 1, 3) := by decide +kernel
theorem dX5_owned_67 : decode cX5_owned 67 = .ok (.goto (-44), 3) := by decide +kernel
theorem dX5_owned_70 : decode cX5_owned 70 = .ok (.iload_n 2, 1) := by decide +kernel
theorem dX5_owned_71 : decode cX5_owned 71 = .ok (.ireturn, 1) := by decide +kernel
theorem dX5_ownerOf_0 : decode cX5_ownerOf 0 = .ok (.aload_n 0, 1) := by decide +kernel
theorem dX5_ownerOf_1 : decode cX5_ownerOf 1 = .ok (.aload_n 0, 1) := by decide +kernel
theorem dX5_ownerOf_2 : decode cX5_ownerOf 2 = .ok (.iload_n 1, 1) := by decide +kernel
theorem dX5_ownerOf_3 : decode cX5_ownerOf 3 = .ok (.invokevirtual 94, 3) := by decide +kernel
theorem dX5_ownerOf_6 : decode cX5_ownerOf 6 = .ok (.ifCond .eq 7, 3) := by decide +kernel
theorem dX5_ownerOf_9 : decode cX5_ownerOf 9 = .ok (.iconst 0, 1) := by decide +kernel
theorem dX5_ownerOf_10 : decode cX5_ownerOf 10 = .ok (.goto 4, 3) := by decide +kernel
theorem dX5_ownerOf_13 : decode cX5_ownerOf 13 = .ok (.iconst 1, 1) := by decide +kernel
theorem dX5_ownerOf_14 : decode cX5_ownerOf 14 = .ok (.putfield 56, 3) := by decide +kernel
theorem dX5_ownerOf_17 : decode cX5_ownerOf 17 = .ok (.aload_n 0, 1) := by decide +kernel
theorem dX5_ownerOf_18 : decode cX5_ownerOf 18 = .ok (.getfield 56, 3) := by decide +kernel
theorem dX5_ownerOf_21 : decode cX5_ownerOf 21 = .ok (.ifCond .le 7, 3) := by decide +kernel
theorem dX5_ownerOf_24 : decode cX5_ownerOf 24 = .ok (.iconst 0, 1) := by decide +kernel
theorem dX5_ownerOf_25 : decode cX5_ownerOf 25 = .ok (.goto 9, 3) := by decide +kernel
theorem dX5_ownerOf_28 : decode cX5_ownerOf 28 = .ok (.aload_n 0, 1) := by decide +kernel
theorem dX5_ownerOf_29 : decode cX5_ownerOf 29 = .ok (.getfield 13, 3) := by decide +kernel
theorem dX5_ownerOf_32 : decode cX5_ownerOf 32 = .ok (.iload_n 1, 1) := by decide +kernel
theorem dX5_ownerOf_33 : decode cX5_ownerOf 33 = .ok (.iaload, 1) := by decide +kernel
theorem dX5_ownerOf_34 : decode cX5_ownerOf 34 = .ok (.ireturn, 1) := by decide +kernel
theorem dX5_partner_0 : decode cX5_partner 0 = .ok (.iconst (-1), 1) := by decide +kernel
theorem dX5_partner_1 : decode cX5_partner 1 = .ok (.istore_n 2, 1) := by decide +kernel
theorem dX5_partner_2 : decode cX5_partner 2 = .ok (.aload_n 0, 1) := by decide +kernel
theorem dX5_partner_3 : decode cX5_partner 3 = .ok (.getfield 108, 3) := by decide +kernel
theorem dX5_partner_6 : decode cX5_partner 6 = .ok (.iconst 1, 1) := by decide +kernel
theorem dX5_partner_7 : decode cX5_partner 7 = .ok (.isub, 1) := by decide +kernel
theorem dX5_partner_8 : decode cX5_partner 8 = .ok (.istore_n 3, 1) := by decide +kernel
theorem dX5_partner_9 : decode cX5_partner 9 = .ok (.iload_n 3, 1) := by decide +kernel
theorem dX5_partner_10 : decode cX5_partner 10 = .ok (.iload_n 1, 1) := by decide +kernel
theorem dX5_partner_11 : decode cX5_partner 11 = .ok (.if_icmp .le 80, 3) := by decide +kernel
theorem dX5_partner_14 : decode cX5_partner 14 = .ok (.aload_n 0, 1) := by decide +kernel
theorem dX5_partner_15 : decode cX5_partner 15 = .ok (.getfield 41, 3) := by decide +kernel
theorem dX5_partner_18 : decode cX5_partner 18 = .ok (.iload_n 3, 1) := by decide +kernel
theorem dX5_partner_19 : decode cX5_partner 19 = .ok (.iaload, 1) := by decide +kernel
theorem dX5_partner_20 : decode cX5_partner 20 = .ok (.aload_n 0, 1) := by decide +kernel
theorem dX5_partner_21 : decode cX5_partner 21 = .ok (.getfield 41, 3) := by decide +kernel
theorem dX5_partner_24 : decode cX5_partner 24 = .ok (.iload_n 1, 1) := by decide +kernel
theorem dX5_partner_25 : decode cX5_partner 25 = .ok (.iaload, 1) := by decide +kernel
theorem dX5_partner_26 : decode cX5_partner 26 = .ok (.if_icmp .eq 37, 3) := by decide +kernel
theorem dX5_partner_29 : decode cX5_partner 29 = .ok (.aload_n 0, 1) := by decide +kernel
theorem dX5_partner_30 : decode cX5_partner 30 = .ok (.getfield 44, 3) := by decide +kernel
theorem dX5_partner_33 : decode cX5_partner 33 = .ok (.iload_n 3, 1) := by decide +kernel
theorem dX5_partner_34 : decode cX5_partner 34 = .ok (.iaload, 1) := by decide +kernel
theorem dX5_partner_35 : decode cX5_partner 35 = .ok (.aload_n 0, 1) := by decide +kernel
theorem dX5_partner_36 : decode cX5_partner 36 = .ok (.getfield 47, 3) := by decide +kernel
theorem dX5_partner_39 : decode cX5_partner 39 = .ok (.iload_n 1, 1) := by decide +kernel
theorem dX5_partner_40 : decode cX5_partner 40 = .ok (.iaload, 1) := by decide +kernel
theorem dX5_partner_41 : decode cX5_partner 41 = .ok (.if_icmp .ne 22, 3) := by decide +kernel
theorem dX5_partner_44 : decode cX5_partner 44 = .ok (.aload_n 0, 1) := by decide +kernel
theorem dX5_partner_45 : decode cX5_partner 45 = .ok (.getfield 47, 3) := by decide +kernel
theorem dX5_partner_48 : decode cX5_partner 48 = .ok (.iload_n 3, 1) := by decide +kernel
theorem dX5_partner_49 : decode cX5_partner 49 = .ok (.iaload, 1) := by decide +kernel
theorem dX5_partner_50 : decode cX5_partner 50 = .ok (.aload_n 0, 1) := by decide +kernel
theorem dX5_partner_51 : decode cX5_partner 51 = .ok (.getfield 44, 3) := by decide +kernel
theorem dX5_partner_54 : decode cX5_partner 54 = .ok (.iload_n 1, 1) := by decide +kernel
theorem dX5_partner_55 : decode cX5_partner 55 = .ok (.iaload, 1) := by decide +kernel
theorem dX5_partner_56 : decode cX5_partner 56 = .ok (.if_icmp .ne 7, 3) := by decide +kernel
theorem dX5_partner_59 : decode cX5_partner 59 = .ok (.iconst 1, 1) := by decide +kernel
theorem dX5_partner_60 : decode cX5_partner 60 = .ok (.goto 4, 3) := by decide +kernel
theorem dX5_partner_63 : decode cX5_partner 63 = .ok (.iconst 0, 1) := by decide +kernel
theorem dX5_partner_64 : decode cX5_partner 64 = .ok (.istore 4, 2) := by decide +kernel
theorem dX5_partner_66 : decode cX5_partner 66 = .ok (.iload 4, 2) := by decide +kernel
theorem dX5_partner_68 : decode cX5_partner 68 = .ok (.ifCond .eq 15, 3) := by decide +kernel
theorem dX5_partner_71 : decode cX5_partner 71 = .ok (.aload_n 0, 1) := by decide +kernel
theorem dX5_partner_72 : decode cX5_partner 72 = .ok (.iload_n 3, 1) := by decide +kernel
theorem dX5_partner_73 : decode cX5_partner 73 = .ok (.invokevirtual 111, 3) := by decide +kernel
theorem dX5_partner_76 : decode cX5_partner 76 = .ok (.ifCond .eq 7, 3) := by decide +kernel
theorem dX5_partner_79 : decode cX5_partner 79 = .ok (.iload_n 3, 1) := by decide +kernel
theorem dX5_partner_80 : decode cX5_partner 80 = .ok (.goto 4, 3) := by decide +kernel
theorem dX5_partner_83 : decode cX5_partner 83 = .ok (.iload_n 2, 1) := by decide +kernel
theorem dX5_partner_84 : decode cX5_partner 84 = .ok (.istore_n 2, 1) := by decide +kernel
theorem dX5_partner_85 : decode cX5_partner 85 = .ok (.iinc 3 (-1), 3) := by decide +kernel
theorem dX5_partner_88 : decode cX5_partner 88 = .ok (.goto (-79), 3) := by decide +kernel
theorem dX5_partner_91 : decode cX5_partner 91 = .ok (.iload_n 2, 1) := by decide +kernel
theorem dX5_partner_92 : decode cX5_partner 92 = .ok (.ireturn, 1) := by decide +kernel
theorem dX5_put_0 : decode cX5_put 0 = .ok (.aload_n 0, 1) := by decide +kernel
theorem dX5_put_1 : decode cX5_put 1 = .ok (.getfield 17, 3) := by decide +kernel
theorem dX5_put_4 : decode cX5_put 4 = .ok (.iload_n 2, 1) := by decide +kernel
theorem dX5_put_5 : decode cX5_put 5 = .ok (.iload_n 1, 1) := by decide +kernel
theorem dX5_put_6 : decode cX5_put 6 = .ok (.iastore, 1) := by decide +kernel
theorem dX5_put_7 : decode cX5_put 7 = .ok (.iload_n 1, 1) := by decide +kernel
theorem dX5_put_8 : decode cX5_put 8 = .ok (.ifCond .lt 10, 3) := by decide +kernel
theorem dX5_put_11 : decode cX5_put 11 = .ok (.aload_n 0, 1) := by decide +kernel
theorem dX5_put_12 : decode cX5_put 12 = .ok (.getfield 29, 3) := by decide +kernel
theorem dX5_put_15 : decode cX5_put 15 = .ok (.iload_n 1, 1) := by decide +kernel
theorem dX5_put_16 : decode cX5_put 16 = .ok (.iload_n 2, 1) := by decide +kernel
theorem dX5_put_17 : decode cX5_put 17 = .ok (.iastore, 1) := by decide +kernel
theorem dX5_put_18 : decode cX5_put 18 = .ok (.return_, 1) := by decide +kernel
theorem dX5_rate_0 : decode cX5_rate 0 = .ok (.aload_n 0, 1) := by decide +kernel
theorem dX5_rate_1 : decode cX5_rate 1 = .ok (.iload_n 1, 1) := by decide +kernel
theorem dX5_rate_2 : decode cX5_rate 2 = .ok (.iconst 0, 1) := by decide +kernel
theorem dX5_rate_3 : decode cX5_rate 3 = .ok (.bipush 15, 2) := by decide +kernel
theorem dX5_rate_5 : decode cX5_rate 5 = .ok (.invokestatic 84, 3) := by decide +kernel
theorem dX5_rate_8 : decode cX5_rate 8 = .ok (.ifCond .eq 17, 3) := by decide +kernel
theorem dX5_rate_11 : decode cX5_rate 11 = .ok (.iload_n 2, 1) := by decide +kernel
theorem dX5_rate_12 : decode cX5_rate 12 = .ok (.iconst 0, 1) := by decide +kernel
theorem dX5_rate_13 : decode cX5_rate 13 = .ok (.bipush 8, 2) := by decide +kernel
theorem dX5_rate_15 : decode cX5_rate 15 = .ok (.invokestatic 84, 3) := by decide +kernel
theorem dX5_rate_18 : decode cX5_rate 18 = .ok (.ifCond .eq 7, 3) := by decide +kernel
theorem dX5_rate_21 : decode cX5_rate 21 = .ok (.iconst 0, 1) := by decide +kernel
theorem dX5_rate_22 : decode cX5_rate 22 = .ok (.goto 4, 3) := by decide +kernel
theorem dX5_rate_25 : decode cX5_rate 25 = .ok (.iconst 1, 1) := by decide +kernel
theorem dX5_rate_26 : decode cX5_rate 26 = .ok (.putfield 56, 3) := by decide +kernel
theorem dX5_rate_29 : decode cX5_rate 29 = .ok (.bipush 15, 2) := by decide +kernel
theorem dX5_rate_31 : decode cX5_rate 31 = .ok (.iload_n 1, 1) := by decide +kernel
theorem dX5_rate_32 : decode cX5_rate 32 = .ok (.imul, 1) := by decide +kernel
theorem dX5_rate_33 : decode cX5_rate 33 = .ok (.istore_n 3, 1) := by decide +kernel
theorem dX5_rate_34 : decode cX5_rate 34 = .ok (.iload_n 3, 1) := by decide +kernel
theorem dX5_rate_35 : decode cX5_rate 35 = .ok (.bipush 15, 2) := by decide +kernel
theorem dX5_rate_37 : decode cX5_rate 37 = .ok (.iload_n 1, 1) := by decide +kernel
theorem dX5_rate_38 : decode cX5_rate 38 = .ok (.imul, 1) := by decide +kernel
theorem dX5_rate_39 : decode cX5_rate 39 = .ok (.bipush 15, 2) := by decide +kernel
theorem dX5_rate_41 : decode cX5_rate 41 = .ok (.iadd, 1) := by decide +kernel
theorem dX5_rate_42 : decode cX5_rate 42 = .ok (.if_icmp .ge 55, 3) := by decide +kernel
theorem dX5_rate_45 : decode cX5_rate 45 = .ok (.aload_n 0, 1) := by decide +kernel
theorem dX5_rate_46 : decode cX5_rate 46 = .ok (.getfield 56, 3) := by decide +kernel
theorem dX5_rate_49 : decode cX5_rate 49 = .ok (.iconst 1, 1) := by decide +kernel
theorem dX5_rate_50 : decode cX5_rate 50 = .ok (.if_icmp .eq 47, 3) := by decide +kernel
theorem dX5_rate_53 : decode cX5_rate 53 = .ok (.aload_n 0, 1) := by decide +kernel
theorem dX5_rate_54 : decode cX5_rate 54 = .ok (.aload_n 0, 1) := by decide +kernel
theorem dX5_rate_55 : decode cX5_rate 55 = .ok (.getfield 7, 3) := by decide +kernel
theorem dX5_rate_58 : decode cX5_rate 58 = .ok (.iload_n 3, 1) := by decide +kernel
theorem dX5_rate_59 : decode cX5_rate 59 = .ok (.baload, 1) := by decide +kernel
theorem dX5_rate_60 : decode cX5_rate 60 = .ok (.ifCond .eq 24, 3) := by decide +kernel
theorem dX5_rate_63 : decode cX5_rate 63 = .ok (.aload_n 0, 1) := by decide +kernel
theorem dX5_rate_64 : decode cX5_rate 64 = .ok (.iload_n 3, 1) := by decide +kernel
theorem dX5_rate_65 : decode cX5_rate 65 = .ok (.invokevirtual 70, 3) := by decide +kernel
theorem dX5_rate_68 : decode cX5_rate 68 = .ok (.ifCond .eq 16, 3) := by decide +kernel
theorem dX5_rate_71 : decode cX5_rate 71 = .ok (.iload_n 1, 1) := by decide +kernel
theorem dX5_rate_72 : decode cX5_rate 72 = .ok (.iload_n 2, 1) := by decide +kernel
theorem dX5_rate_73 : decode cX5_rate 73 = .ok (.iload_n 3, 1) := by decide +kernel
theorem dX5_rate_74 : decode cX5_rate 74 = .ok (.invokestatic 88, 3) := by decide +kernel
theorem dX5_rate_77 : decode cX5_rate 77 = .ok (.ifCond .ne 7, 3) := by decide +kernel
theorem dX5_rate_80 : decode cX5_rate 80 = .ok (.iconst 2, 1) := by decide +kernel
theorem dX5_rate_81 : decode cX5_rate 81 = .ok (.goto 7, 3) := by decide +kernel
theorem dX5_rate_84 : decode cX5_rate 84 = .ok (.aload_n 0, 1) := by decide +kernel
theorem dX5_rate_85 : decode cX5_rate 85 = .ok (.getfield 56, 3) := by decide +kernel
theorem dX5_rate_88 : decode cX5_rate 88 = .ok (.putfield 56, 3) := by decide +kernel
theorem dX5_rate_91 : decode cX5_rate 91 = .ok (.iinc 3 1, 3) := by decide +kernel
theorem dX5_rate_94 : decode cX5_rate 94 = .ok (.goto (-60), 3) := by decide +kernel
theorem dX5_rate_97 : decode cX5_rate 97 = .ok (.aload_n 0, 1) := by decide +kernel
theorem dX5_rate_98 : decode cX5_rate 98 = .ok (.getfield 56, 3) := by decide +kernel
theorem dX5_rate_101 : decode cX5_rate 101 = .ok (.ifCond .le 5, 3) := by decide +kernel
theorem dX5_rate_104 : decode cX5_rate 104 = .ok (.iconst 0, 1) := by decide +kernel
theorem dX5_rate_105 : decode cX5_rate 105 = .ok (.ireturn, 1) := by decide +kernel
theorem dX5_rate_106 : decode cX5_rate 106 = .ok (.bipush 15, 2) := by decide +kernel
theorem dX5_rate_108 : decode cX5_rate 108 = .ok (.iload_n 1, 1) := by decide +kernel
theorem dX5_rate_109 : decode cX5_rate 109 = .ok (.imul, 1) := by decide +kernel
theorem dX5_rate_110 : decode cX5_rate 110 = .ok (.istore_n 3, 1) := by decide +kernel
theorem dX5_rate_111 : decode cX5_rate 111 = .ok (.iload_n 3, 1) := by decide +kernel
theorem dX5_rate_112 : decode cX5_rate 112 = .ok (.bipush 15, 2) := by decide +kernel
theorem dX5_rate_114 : decode cX5_rate 114 = .ok (.iload_n 1, 1) := by decide +kernel
theorem dX5_rate_115 : decode cX5_rate 115 = .ok (.imul, 1) := by decide +kernel
theorem dX5_rate_116 : decode cX5_rate 116 = .ok (.bipush 15, 2) := by decide +kernel
theorem dX5_rate_118 : decode cX5_rate 118 = .ok (.iadd, 1) := by decide +kernel
theorem dX5_rate_119 : decode cX5_rate 119 = .ok (.if_icmp .ge 42, 3) := by decide +kernel
theorem dX5_rate_122 : decode cX5_rate 122 = .ok (.iload_n 1, 1) := by decide +kernel
theorem dX5_rate_123 : decode cX5_rate 123 = .ok (.iload_n 2, 1) := by decide +kernel
theorem dX5_rate_124 : decode cX5_rate 124 = .ok (.iload_n 3, 1) := by decide +kernel
theorem dX5_rate_125 : decode cX5_rate 125 = .ok (.invokestatic 88, 3) := by decide +kernel
theorem dX5_rate_128 : decode cX5_rate 128 = .ok (.istore 4, 2) := by decide +kernel
theorem dX5_rate_130 : decode cX5_rate 130 = .ok (.iload 4, 2) := by decide +kernel
theorem dX5_rate_132 : decode cX5_rate 132 = .ok (.ifCond .ne 15, 3) := by decide +kernel
theorem dX5_rate_135 : decode cX5_rate 135 = .ok (.aload_n 0, 1) := by decide +kernel
theorem dX5_rate_136 : decode cX5_rate 136 = .ok (.iload_n 3, 1) := by decide +kernel
theorem dX5_rate_137 : decode cX5_rate 137 = .ok (.invokevirtual 73, 3) := by decide +kernel
theorem dX5_rate_140 : decode cX5_rate 140 = .ok (.aload_n 0, 1) := by decide +kernel
theorem dX5_rate_141 : decode cX5_rate 141 = .ok (.getfield 13, 3) := by decide +kernel
theorem dX5_rate_144 : decode cX5_rate 144 = .ok (.iload_n 3, 1) := by decide +kernel
theorem dX5_rate_145 : decode cX5_rate 145 = .ok (.iconst (-1), 1) := by decide +kernel
theorem dX5_rate_146 : decode cX5_rate 146 = .ok (.iastore, 1) := by decide +kernel
theorem dX5_rate_147 : decode cX5_rate 147 = .ok (.aload_n 0, 1) := by decide +kernel
theorem dX5_rate_148 : decode cX5_rate 148 = .ok (.getfield 7, 3) := by decide +kernel
theorem dX5_rate_151 : decode cX5_rate 151 = .ok (.iload_n 3, 1) := by decide +kernel
theorem dX5_rate_152 : decode cX5_rate 152 = .ok (.iload 4, 2) := by decide +kernel
theorem dX5_rate_154 : decode cX5_rate 154 = .ok (.bastore, 1) := by decide +kernel
theorem dX5_rate_155 : decode cX5_rate 155 = .ok (.iinc 3 1, 3) := by decide +kernel
theorem dX5_rate_158 : decode cX5_rate 158 = .ok (.goto (-47), 3) := by decide +kernel
theorem dX5_rate_161 : decode cX5_rate 161 = .ok (.aload_n 0, 1) := by decide +kernel
theorem dX5_rate_162 : decode cX5_rate 162 = .ok (.invokevirtual 81, 3) := by decide +kernel
theorem dX5_rate_165 : decode cX5_rate 165 = .ok (.ireturn, 1) := by decide +kernel
theorem dX5_ration_0 : decode cX5_ration 0 = .ok (.aload_n 0, 1) := by decide +kernel
theorem dX5_ration_1 : decode cX5_ration 1 = .ok (.iconst 0, 1) := by decide +kernel
theorem dX5_ration_2 : decode cX5_ration 2 = .ok (.putfield 56, 3) := by decide +kernel
theorem dX5_ration_5 : decode cX5_ration 5 = .ok (.aload_n 0, 1) := by decide +kernel
theorem dX5_ration_6 : decode cX5_ration 6 = .ok (.invokevirtual 81, 3) := by decide +kernel
theorem dX5_ration_9 : decode cX5_ration 9 = .ok (.ireturn, 1) := by decide +kernel
theorem dX5_rationed_0 : decode cX5_rationed 0 = .ok (.aload_n 0, 1) := by decide +kernel
theorem dX5_rationed_1 : decode cX5_rationed 1 = .ok (.iconst 0, 1) := by decide +kernel
theorem dX5_rationed_2 : decode cX5_rationed 2 = .ok (.putfield 63, 3) := by decide +kernel
theorem dX5_rationed_5 : decode cX5_rationed 5 = .ok (.iconst 0, 1) := by decide +kernel
theorem dX5_rationed_6 : decode cX5_rationed 6 = .ok (.istore_n 1, 1) := by decide +kernel
theorem dX5_rationed_7 : decode cX5_rationed 7 = .ok (.iload_n 1, 1) := by decide +kernel
theorem dX5_rationed_8 : decode cX5_rationed 8 = .ok (.sipush 240, 3) := by decide +kernel
theorem dX5_rationed_11 : decode cX5_rationed 11 = .ok (.if_icmp .ge 38, 3) := by decide +kernel
theorem dX5_rationed_14 : decode cX5_rationed 14 = .ok (.aload_n 0, 1) := by decide +kernel
theorem dX5_rationed_15 : decode cX5_rationed 15 = .ok (.getfield 7, 3) := by decide +kernel
theorem dX5_rationed_18 : decode cX5_rationed 18 = .ok (.iload_n 1, 1) := by decide +kernel
theorem dX5_rationed_19 : decode cX5_rationed 19 = .ok (.baload, 1) := by decide +kernel
theorem dX5_rationed_20 : decode cX5_rationed 20 = .ok (.ifCond .eq 23, 3) := by decide +kernel
theorem dX5_rationed_23 : decode cX5_rationed 23 = .ok (.aload_n 0, 1) := by decide +kernel
theorem dX5_rationed_24 : decode cX5_rationed 24 = .ok (.iload_n 1, 1) := by decide +kernel
theorem dX5_rationed_25 : decode cX5_rationed 25 = .ok (.invokevirtual 70, 3) := by decide +kernel
theorem dX5_rationed_28 : decode cX5_rationed 28 = .ok (.ifCond .ne 15, 3) := by decide +kernel
theorem dX5_rationed_31 : decode cX5_rationed 31 = .ok (.aload_n 0, 1) := by decide +kernel
theorem dX5_rationed_32 : decode cX5_rationed 32 = .ok (.iload_n 1, 1) := by decide +kernel
theorem dX5_rationed_33 : decode cX5_rationed 33 = .ok (.invokevirtual 73, 3) := by decide +kernel
theorem dX5_rationed_36 : decode cX5_rationed 36 = .ok (.aload_n 0, 1) := by decide +kernel
theorem dX5_rationed_37 : decode cX5_rationed 37 = .ok (.getfield 13, 3) := by decide +kernel
theorem dX5_rationed_40 : decode cX5_rationed 40 = .ok (.iload_n 1, 1) := by decide +kernel
theorem dX5_rationed_41 : decode cX5_rationed 41 = .ok (.iconst (-1), 1) := by decide +kernel
theorem dX5_rationed_42 : decode cX5_rationed 42 = .ok (.iastore, 1) := by decide +kernel
theorem dX5_rationed_43 : decode cX5_rationed 43 = .ok (.iinc 1 1, 3) := by decide +kernel
theorem dX5_rationed_46 : decode cX5_rationed 46 = .ok (.goto (-39), 3) := by decide +kernel
theorem dX5_rationed_49 : decode cX5_rationed 49 = .ok (.iconst 0, 1) := by decide +kernel
theorem dX5_rationed_50 : decode cX5_rationed 50 = .ok (.istore_n 1, 1) := by decide +kernel
theorem dX5_rationed_51 : decode cX5_rationed 51 = .ok (.iload_n 1, 1) := by decide +kernel
theorem dX5_rationed_52 : decode cX5_rationed 52 = .ok (.aload_n 0, 1) := by decide +kernel
theorem dX5_rationed_53 : decode cX5_rationed 53 = .ok (.getfield 60, 3) := by decide +kernel
theorem dX5_rationed_56 : decode cX5_rationed 56 = .ok (.if_icmp .ge 16, 3) := by decide +kernel
theorem dX5_rationed_59 : decode cX5_rationed 59 = .ok (.aload_n 0, 1) := by decide +kernel
theorem dX5_rationed_60 : decode cX5_rationed 60 = .ok (.getfield 38, 3) := by decide +kernel
theorem dX5_rationed_63 : decode cX5_rationed 63 = .ok (.iload_n 1, 1) := by decide +kernel
theorem dX5_rationed_64 : decode cX5_rationed 64 = .ok (.iconst 0, 1) := by decide +kernel
theorem dX5_rationed_65 : decode cX5_rationed 65 = .ok (.bastore, 1) := by decide +kernel
theorem dX5_rationed_66 : decode cX5_rationed 66 = .ok (.iinc 1 1, 3) := by decide +kernel
theorem dX5_rationed_69 : decode cX5_rationed 69 = .ok (.goto (-18), 3) := by decide +kernel
theorem dX5_rationed_72 : decode cX5_rationed 72 = .ok (.iconst 0, 1) := by decide +kernel
theorem dX5_rationed_73 : decode cX5_rationed 73 = .ok (.istore_n 1, 1) := by decide +kernel
theorem dX5_rationed_74 : decode cX5_rationed 74 = .ok (.aload_n 0, 1) := by decide +kernel
theorem dX5_rationed_75 : decode cX5_rationed 75 = .ok (.invokevirtual 77, 3) := by decide +kernel
theorem dX5_rationed_78 : decode cX5_rationed 78 = .ok (.istore_n 2, 1) := by decide +kernel
theorem dX5_rationed_79 : decode cX5_rationed 79 = .ok (.iload_n 2, 1) := by decide +kernel
theorem dX5_rationed_80 : decode cX5_rationed 80 = .ok (.ifCond .lt 95, 3) := by decide +kernel
theorem dX5_rationed_83 : decode cX5_rationed 83 = .ok (.aload_n 0, 1) := by decide +kernel
theorem dX5_rationed_84 : decode cX5_rationed 84 = .ok (.getfield 38, 3) := by decide +kernel
theorem dX5_rationed_87 : decode cX5_rationed 87 = .ok (.iload_n 2, 1) := by decide +kernel
theorem dX5_rationed_88 : decode cX5_rationed 88 = .ok (.iconst 1, 1) := by decide +kernel
theorem dX5_rationed_89 : decode cX5_rationed 89 = .ok (.bastore, 1) := by decide +kernel
theorem dX5_rationed_90 : decode cX5_rationed 90 = .ok (.aload_n 0, 1) := by decide +kernel
theorem dX5_rationed_91 : decode cX5_rationed 91 = .ok (.getfield 26, 3) := by decide +kernel
theorem dX5_rationed_94 : decode cX5_rationed 94 = .ok (.iload_n 2, 1) := by decide +kernel
theorem dX5_rationed_95 : decode cX5_rationed 95 = .ok (.iaload, 1) := by decide +kernel
theorem dX5_rationed_96 : decode cX5_rationed 96 = .ok (.istore_n 3, 1) := by decide +kernel
theorem dX5_rationed_97 : decode cX5_rationed 97 = .ok (.iload_n 3, 1) := by decide +kernel
theorem dX5_rationed_98 : decode cX5_rationed 98 = .ok (.sipush 240, 3) := by decide +kernel
theorem dX5_rationed_101 : decode cX5_rationed 101 = .ok (.if_icmp .ge 27, 3) := by decide +kernel
theorem dX5_rationed_104 : decode cX5_rationed 104 = .ok (.aload_n 0, 1) := by decide +kernel
theorem dX5_rationed_105 : decode cX5_rationed 105 = .ok (.getfield 7, 3) := by decide +kernel
theorem dX5_rationed_108 : decode cX5_rationed 108 = .ok (.iload_n 3, 1) := by decide +kernel
theorem dX5_rationed_109 : decode cX5_rationed 109 = .ok (.baload, 1) := by decide +kernel
theorem dX5_rationed_110 : decode cX5_rationed 110 = .ok (.ifCond .eq 12, 3) := by decide +kernel
theorem dX5_rationed_113 : decode cX5_rationed 113 = .ok (.aload_n 0, 1) := by decide +kernel
theorem dX5_rationed_114 : decode cX5_rationed 114 = .ok (.getfield 17, 3) := by decide +kernel
theorem dX5_rationed_117 : decode cX5_rationed 117 = .ok (.iload_n 3, 1) := by decide +kernel
theorem dX5_rationed_118 : decode cX5_rationed 118 = .ok (.iaload, 1) := by decide +kernel
theorem dX5_rationed_119 : decode cX5_rationed 119 = .ok (.ifCond .lt 9, 3) := by decide +kernel
theorem dX5_rationed_122 : decode cX5_rationed 122 = .ok (.iinc 3 1, 3) := by decide +kernel
theorem dX5_rationed_125 : decode cX5_rationed 125 = .ok (.goto (-28), 3) := by decide +kernel
theorem dX5_rationed_128 : decode cX5_rationed 128 = .ok (.iload_n 3, 1) := by decide +kernel
theorem dX5_rationed_129 : decode cX5_rationed 129 = .ok (.sipush 240, 3) := by decide +kernel
theorem dX5_rationed_132 : decode cX5_rationed 132 = .ok (.if_icmp .ge 32, 3) := by decide +kernel
theorem dX5_rationed_135 : decode cX5_rationed 135 = .ok (.aload_n 0, 1) := by decide +kernel
theorem dX5_rationed_136 : decode cX5_rationed 136 = .ok (.getfield 17, 3) := by decide +kernel
theorem dX5_rationed_139 : decode cX5_rationed 139 = .ok (.iload_n 3, 1) := by decide +kernel
theorem dX5_rationed_140 : decode cX5_rationed 140 = .ok (.iload_n 2, 1) := by decide +kernel
theorem dX5_rationed_141 : decode cX5_rationed 141 = .ok (.iastore, 1) := by decide +kernel
theorem dX5_rationed_142 : decode cX5_rationed 142 = .ok (.aload_n 0, 1) := by decide +kernel
theorem dX5_rationed_143 : decode cX5_rationed 143 = .ok (.getfield 29, 3) := by decide +kernel
theorem dX5_rationed_146 : decode cX5_rationed 146 = .ok (.iload_n 2, 1) := by decide +kernel
theorem dX5_rationed_147 : decode cX5_rationed 147 = .ok (.iload_n 3, 1) := by decide +kernel
theorem dX5_rationed_148 : decode cX5_rationed 148 = .ok (.iastore, 1) := by decide +kernel
theorem dX5_rationed_149 : decode cX5_rationed 149 = .ok (.aload_n 0, 1) := by decide +kernel
theorem dX5_rationed_150 : decode cX5_rationed 150 = .ok (.getfield 13, 3) := by decide +kernel
theorem dX5_rationed_153 : decode cX5_rationed 153 = .ok (.iload_n 3, 1) := by decide +kernel
theorem dX5_rationed_154 : decode cX5_rationed 154 = .ok (.aload_n 0, 1) := by decide +kernel
theorem dX5_rationed_155 : decode cX5_rationed 155 = .ok (.getfield 20, 3) := by decide +kernel
theorem dX5_rationed_158 : decode cX5_rationed 158 = .ok (.iload_n 2, 1) := by decide +kernel
theorem dX5_rationed_159 : decode cX5_rationed 159 = .ok (.iaload, 1) := by decide +kernel
theorem dX5_rationed_160 : decode cX5_rationed 160 = .ok (.iastore, 1) := by decide +kernel
theorem dX5_rationed_161 : decode cX5_rationed 161 = .ok (.goto 6, 3) := by decide +kernel
theorem dX5_rationed_164 : decode cX5_rationed 164 = .ok (.iinc 1 1, 3) := by decide +kernel
theorem dX5_rationed_167 : decode cX5_rationed 167 = .ok (.aload_n 0, 1) := by decide +kernel
theorem dX5_rationed_168 : decode cX5_rationed 168 = .ok (.invokevirtual 77, 3) := by decide +kernel
theorem dX5_rationed_171 : decode cX5_rationed 171 = .ok (.istore_n 2, 1) := by decide +kernel
theorem dX5_rationed_172 : decode cX5_rationed 172 = .ok (.goto (-93), 3) := by decide +kernel
theorem dX5_rationed_175 : decode cX5_rationed 175 = .ok (.iload_n 1, 1) := by decide +kernel
theorem dX5_rationed_176 : decode cX5_rationed 176 = .ok (.ireturn, 1) := by decide +kernel
theorem dX5_slotOf_0 : decode cX5_slotOf 0 = .ok (.aload_n 0, 1) := by decide +kernel
theorem dX5_slotOf_1 : decode cX5_slotOf 1 = .ok (.aload_n 0, 1) := by decide +kernel
theorem dX5_slotOf_2 : decode cX5_slotOf 2 = .ok (.iload_n 1, 1) := by decide +kernel
theorem dX5_slotOf_3 : decode cX5_slotOf 3 = .ok (.invokevirtual 91, 3) := by decide +kernel
theorem dX5_slotOf_6 : decode cX5_slotOf 6 = .ok (.ifCond .eq 7, 3) := by decide +kernel
theorem dX5_slotOf_9 : decode cX5_slotOf 9 = .ok (.iconst 0, 1) := by decide +kernel
theorem dX5_slotOf_10 : decode cX5_slotOf 10 = .ok (.goto 4, 3) := by decide +kernel
theorem dX5_slotOf_13 : decode cX5_slotOf 13 = .ok (.iconst 1, 1) := by decide +kernel
theorem dX5_slotOf_14 : decode cX5_slotOf 14 = .ok (.putfield 56, 3) := by decide +kernel
theorem dX5_slotOf_17 : decode cX5_slotOf 17 = .ok (.aload_n 0, 1) := by decide +kernel
theorem dX5_slotOf_18 : decode cX5_slotOf 18 = .ok (.getfield 56, 3) := by decide +kernel
theorem dX5_slotOf_21 : decode cX5_slotOf 21 = .ok (.ifCond .le 7, 3) := by decide +kernel
theorem dX5_slotOf_24 : decode cX5_slotOf 24 = .ok (.iconst 0, 1) := by decide +kernel
theorem dX5_slotOf_25 : decode cX5_slotOf 25 = .ok (.goto 9, 3) := by decide +kernel
theorem dX5_slotOf_28 : decode cX5_slotOf 28 = .ok (.aload_n 0, 1) := by decide +kernel
theorem dX5_slotOf_29 : decode cX5_slotOf 29 = .ok (.getfield 29, 3) := by decide +kernel
theorem dX5_slotOf_32 : decode cX5_slotOf 32 = .ok (.iload_n 1, 1) := by decide +kernel
theorem dX5_slotOf_33 : decode cX5_slotOf 33 = .ok (.iaload, 1) := by decide +kernel
theorem dX5_slotOf_34 : decode cX5_slotOf 34 = .ok (.ireturn, 1) := by decide +kernel
theorem dX5_swap_0 : decode cX5_swap 0 = .ok (.aload_n 0, 1) := by decide +kernel
theorem dX5_swap_1 : decode cX5_swap 1 = .ok (.aload_n 0, 1) := by decide +kernel
theorem dX5_swap_2 : decode cX5_swap 2 = .ok (.iload_n 1, 1) := by decide +kernel
theorem dX5_swap_3 : decode cX5_swap 3 = .ok (.invokevirtual 91, 3) := by decide +kernel
theorem dX5_swap_6 : decode cX5_swap 6 = .ok (.ifCond .eq 31, 3) := by decide +kernel
theorem dX5_swap_9 : decode cX5_swap 9 = .ok (.aload_n 0, 1) := by decide +kernel
theorem dX5_swap_10 : decode cX5_swap 10 = .ok (.iload_n 2, 1) := by decide +kernel
theorem dX5_swap_11 : decode cX5_swap 11 = .ok (.invokevirtual 91, 3) := by decide +kernel
theorem dX5_swap_14 : decode cX5_swap 14 = .ok (.ifCond .eq 23, 3) := by decide +kernel
theorem dX5_swap_17 : decode cX5_swap 17 = .ok (.iload_n 1, 1) := by decide +kernel
theorem dX5_swap_18 : decode cX5_swap 18 = .ok (.iload_n 2, 1) := by decide +kernel
theorem dX5_swap_19 : decode cX5_swap 19 = .ok (.if_icmp .eq 18, 3) := by decide +kernel
theorem dX5_swap_22 : decode cX5_swap 22 = .ok (.aload_n 0, 1) := by decide +kernel
theorem dX5_swap_23 : decode cX5_swap 23 = .ok (.getfield 20, 3) := by decide +kernel
theorem dX5_swap_26 : decode cX5_swap 26 = .ok (.iload_n 1, 1) := by decide +kernel
theorem dX5_swap_27 : decode cX5_swap 27 = .ok (.iaload, 1) := by decide +kernel
theorem dX5_swap_28 : decode cX5_swap 28 = .ok (.aload_n 0, 1) := by decide +kernel
theorem dX5_swap_29 : decode cX5_swap 29 = .ok (.getfield 20, 3) := by decide +kernel
theorem dX5_swap_32 : decode cX5_swap 32 = .ok (.iload_n 2, 1) := by decide +kernel
theorem dX5_swap_33 : decode cX5_swap 33 = .ok (.iaload, 1) := by decide +kernel
theorem dX5_swap_34 : decode cX5_swap 34 = .ok (.if_icmp .eq 7, 3) := by decide +kernel
theorem dX5_swap_37 : decode cX5_swap 37 = .ok (.iconst 1, 1) := by decide +kernel
theorem dX5_swap_38 : decode cX5_swap 38 = .ok (.goto 4, 3) := by decide +kernel
theorem dX5_swap_41 : decode cX5_swap 41 = .ok (.iconst 0, 1) := by decide +kernel
theorem dX5_swap_42 : decode cX5_swap 42 = .ok (.putfield 56, 3) := by decide +kernel
theorem dX5_swap_45 : decode cX5_swap 45 = .ok (.aload_n 0, 1) := by decide +kernel
theorem dX5_swap_46 : decode cX5_swap 46 = .ok (.getfield 56, 3) := by decide +kernel
theorem dX5_swap_49 : decode cX5_swap 49 = .ok (.ifCond .ne 74, 3) := by decide +kernel
theorem dX5_swap_52 : decode cX5_swap 52 = .ok (.aload_n 0, 1) := by decide +kernel
theorem dX5_swap_53 : decode cX5_swap 53 = .ok (.getfield 29, 3) := by decide +kernel
theorem dX5_swap_56 : decode cX5_swap 56 = .ok (.iload_n 1, 1) := by decide +kernel
theorem dX5_swap_57 : decode cX5_swap 57 = .ok (.iaload, 1) := by decide +kernel
theorem dX5_swap_58 : decode cX5_swap 58 = .ok (.ifCond .lt 60, 3) := by decide +kernel
theorem dX5_swap_61 : decode cX5_swap 61 = .ok (.aload_n 0, 1) := by decide +kernel
theorem dX5_swap_62 : decode cX5_swap 62 = .ok (.getfield 29, 3) := by decide +kernel
theorem dX5_swap_65 : decode cX5_swap 65 = .ok (.iload_n 2, 1) := by decide +kernel
theorem dX5_swap_66 : decode cX5_swap 66 = .ok (.iaload, 1) := by decide +kernel
theorem dX5_swap_67 : decode cX5_swap 67 = .ok (.ifCond .lt 51, 3) := by decide +kernel
theorem dX5_swap_70 : decode cX5_swap 70 = .ok (.aload_n 0, 1) := by decide +kernel
theorem dX5_swap_71 : decode cX5_swap 71 = .ok (.getfield 35, 3) := by decide +kernel
theorem dX5_swap_74 : decode cX5_swap 74 = .ok (.iload_n 1, 1) := by decide +kernel
theorem dX5_swap_75 : decode cX5_swap 75 = .ok (.baload, 1) := by decide +kernel
theorem dX5_swap_76 : decode cX5_swap 76 = .ok (.ifCond .ne 42, 3) := by decide +kernel
theorem dX5_swap_79 : decode cX5_swap 79 = .ok (.aload_n 0, 1) := by decide +kernel
theorem dX5_swap_80 : decode cX5_swap 80 = .ok (.getfield 35, 3) := by decide +kernel
theorem dX5_swap_83 : decode cX5_swap 83 = .ok (.iload_n 2, 1) := by decide +kernel
theorem dX5_swap_84 : decode cX5_swap 84 = .ok (.baload, 1) := by decide +kernel
theorem dX5_swap_85 : decode cX5_swap 85 = .ok (.ifCond .ne 33, 3) := by decide +kernel
theorem dX5_swap_88 : decode cX5_swap 88 = .ok (.aload_n 0, 1) := by decide +kernel
theorem dX5_swap_89 : decode cX5_swap 89 = .ok (.getfield 29, 3) := by decide +kernel
theorem dX5_swap_92 : decode cX5_swap 92 = .ok (.iload_n 2, 1) := by decide +kernel
theorem dX5_swap_93 : decode cX5_swap 93 = .ok (.iaload, 1) := by decide +kernel
theorem dX5_swap_94 : decode cX5_swap 94 = .ok (.aload_n 0, 1) := by decide +kernel
theorem dX5_swap_95 : decode cX5_swap 95 = .ok (.getfield 26, 3) := by decide +kernel
theorem dX5_swap_98 : decode cX5_swap 98 = .ok (.iload_n 1, 1) := by decide +kernel
theorem dX5_swap_99 : decode cX5_swap 99 = .ok (.iaload, 1) := by decide +kernel
theorem dX5_swap_100 : decode cX5_swap 100 = .ok (.if_icmp .lt 18, 3) := by decide +kernel
theorem dX5_swap_103 : decode cX5_swap 103 = .ok (.aload_n 0, 1) := by decide +kernel
theorem dX5_swap_104 : decode cX5_swap 104 = .ok (.getfield 29, 3) := by decide +kernel
theorem dX5_swap_107 : decode cX5_swap 107 = .ok (.iload_n 1, 1) := by decide +kernel
theorem dX5_swap_108 : decode cX5_swap 108 = .ok (.iaload, 1) := by decide +kernel
theorem dX5_swap_109 : decode cX5_swap 109 = .ok (.aload_n 0, 1) := by decide +kernel
theorem dX5_swap_110 : decode cX5_swap 110 = .ok (.getfield 26, 3) := by decide +kernel
theorem dX5_swap_113 : decode cX5_swap 113 = .ok (.iload_n 2, 1) := by decide +kernel
theorem dX5_swap_114 : decode cX5_swap 114 = .ok (.iaload, 1) := by decide +kernel
theorem dX5_swap_115 : decode cX5_swap 115 = .ok (.if_icmp .ge 8, 3) := by decide +kernel
theorem dX5_swap_118 : decode cX5_swap 118 = .ok (.aload_n 0, 1) := by decide +kernel
theorem dX5_swap_119 : decode cX5_swap 119 = .ok (.iconst 2, 1) := by decide +kernel
theorem dX5_swap_120 : decode cX5_swap 120 = .ok (.putfield 56, 3) := by decide +kernel
theorem dX5_swap_123 : decode cX5_swap 123 = .ok (.aload_n 0, 1) := by decide +kernel
theorem dX5_swap_124 : decode cX5_swap 124 = .ok (.getfield 56, 3) := by decide +kernel
theorem dX5_swap_127 : decode cX5_swap 127 = .ok (.ifCond .le 4, 3) := by decide +kernel
theorem dX5_swap_130 : decode cX5_swap 130 = .ok (.return_, 1) := by decide +kernel
theorem dX5_swap_131 : decode cX5_swap 131 = .ok (.aload_n 0, 1) := by decide +kernel
theorem dX5_swap_132 : decode cX5_swap 132 = .ok (.getfield 29, 3) := by decide +kernel
theorem dX5_swap_135 : decode cX5_swap 135 = .ok (.iload_n 1, 1) := by decide +kernel
theorem dX5_swap_136 : decode cX5_swap 136 = .ok (.iaload, 1) := by decide +kernel
theorem dX5_swap_137 : decode cX5_swap 137 = .ok (.istore_n 3, 1) := by decide +kernel
theorem dX5_swap_138 : decode cX5_swap 138 = .ok (.aload_n 0, 1) := by decide +kernel
theorem dX5_swap_139 : decode cX5_swap 139 = .ok (.aload_n 0, 1) := by decide +kernel
theorem dX5_swap_140 : decode cX5_swap 140 = .ok (.getfield 29, 3) := by decide +kernel
theorem dX5_swap_143 : decode cX5_swap 143 = .ok (.iload_n 1, 1) := by decide +kernel
theorem dX5_swap_144 : decode cX5_swap 144 = .ok (.iaload, 1) := by decide +kernel
theorem dX5_swap_145 : decode cX5_swap 145 = .ok (.aload_n 0, 1) := by decide +kernel
theorem dX5_swap_146 : decode cX5_swap 146 = .ok (.getfield 29, 3) := by decide +kernel
theorem dX5_swap_149 : decode cX5_swap 149 = .ok (.iload_n 2, 1) := by decide +kernel
theorem dX5_swap_150 : decode cX5_swap 150 = .ok (.iaload, 1) := by decide +kernel
theorem dX5_swap_151 : decode cX5_swap 151 = .ok (.invokevirtual 105, 3) := by decide +kernel
theorem dX5_swap_154 : decode cX5_swap 154 = .ok (.aload_n 0, 1) := by decide +kernel
theorem dX5_swap_155 : decode cX5_swap 155 = .ok (.iconst 1, 1) := by decide +kernel
theorem dX5_swap_156 : decode cX5_swap 156 = .ok (.iload_n 1, 1) := by decide +kernel
theorem dX5_swap_157 : decode cX5_swap 157 = .ok (.iload_n 3, 1) := by decide +kernel
theorem dX5_swap_158 : decode cX5_swap 158 = .ok (.aload_n 0, 1) := by decide +kernel
theorem dX5_swap_159 : decode cX5_swap 159 = .ok (.getfield 29, 3) := by decide +kernel
theorem dX5_swap_162 : decode cX5_swap 162 = .ok (.iload_n 1, 1) := by decide +kernel
theorem dX5_swap_163 : decode cX5_swap 163 = .ok (.iaload, 1) := by decide +kernel
theorem dX5_swap_164 : decode cX5_swap 164 = .ok (.invokevirtual 97, 3) := by decide +kernel
theorem dX5_swap_167 : decode cX5_swap 167 = .ok (.return_, 1) := by decide +kernel
theorem dX5_thrown_0 : decode cX5_thrown 0 = .ok (.aload_n 0, 1) := by decide +kernel
theorem dX5_thrown_1 : decode cX5_thrown 1 = .ok (.getfield 56, 3) := by decide +kernel
theorem dX5_thrown_4 : decode cX5_thrown 4 = .ok (.ireturn, 1) := by decide +kernel
theorem dX5_trade_0 : decode cX5_trade 0 = .ok (.aload_n 0, 1) := by decide +kernel
theorem dX5_trade_1 : decode cX5_trade 1 = .ok (.iconst 0, 1) := by decide +kernel
theorem dX5_trade_2 : decode cX5_trade 2 = .ok (.putfield 56, 3) := by decide +kernel
theorem dX5_trade_5 : decode cX5_trade 5 = .ok (.iconst 0, 1) := by decide +kernel
theorem dX5_trade_6 : decode cX5_trade 6 = .ok (.istore_n 1, 1) := by decide +kernel
theorem dX5_trade_7 : decode cX5_trade 7 = .ok (.iconst 0, 1) := by decide +kernel
theorem dX5_trade_8 : decode cX5_trade 8 = .ok (.istore_n 2, 1) := by decide +kernel
theorem dX5_trade_9 : decode cX5_trade 9 = .ok (.iload_n 2, 1) := by decide +kernel
theorem dX5_trade_10 : decode cX5_trade 10 = .ok (.aload_n 0, 1) := by decide +kernel
theorem dX5_trade_11 : decode cX5_trade 11 = .ok (.getfield 108, 3) := by decide +kernel
theorem dX5_trade_14 : decode cX5_trade 14 = .ok (.if_icmp .ge 100, 3) := by decide +kernel
theorem dX5_trade_17 : decode cX5_trade 17 = .ok (.aload_n 0, 1) := by decide +kernel
theorem dX5_trade_18 : decode cX5_trade 18 = .ok (.iload_n 2, 1) := by decide +kernel
theorem dX5_trade_19 : decode cX5_trade 19 = .ok (.invokevirtual 111, 3) := by decide +kernel
theorem dX5_trade_22 : decode cX5_trade 22 = .ok (.ifCond .eq 86, 3) := by decide +kernel
theorem dX5_trade_25 : decode cX5_trade 25 = .ok (.aload_n 0, 1) := by decide +kernel
theorem dX5_trade_26 : decode cX5_trade 26 = .ok (.getfield 13, 3) := by decide +kernel
theorem dX5_trade_29 : decode cX5_trade 29 = .ok (.aload_n 0, 1) := by decide +kernel
theorem dX5_trade_30 : decode cX5_trade 30 = .ok (.getfield 47, 3) := by decide +kernel
theorem dX5_trade_33 : decode cX5_trade 33 = .ok (.iload_n 2, 1) := by decide +kernel
theorem dX5_trade_34 : decode cX5_trade 34 = .ok (.iaload, 1) := by decide +kernel
theorem dX5_trade_35 : decode cX5_trade 35 = .ok (.iaload, 1) := by decide +kernel
theorem dX5_trade_36 : decode cX5_trade 36 = .ok (.iconst (-1), 1) := by decide +kernel
theorem dX5_trade_37 : decode cX5_trade 37 = .ok (.if_icmp .ne 7, 3) := by decide +kernel
theorem dX5_trade_40 : decode cX5_trade 40 = .ok (.iconst 1, 1) := by decide +kernel
theorem dX5_trade_41 : decode cX5_trade 41 = .ok (.goto 4, 3) := by decide +kernel
theorem dX5_trade_44 : decode cX5_trade 44 = .ok (.iconst 0, 1) := by decide +kernel
theorem dX5_trade_45 : decode cX5_trade 45 = .ok (.istore_n 3, 1) := by decide +kernel
theorem dX5_trade_46 : decode cX5_trade 46 = .ok (.iload_n 3, 1) := by decide +kernel
theorem dX5_trade_47 : decode cX5_trade 47 = .ok (.ifCond .eq 7, 3) := by decide +kernel
theorem dX5_trade_50 : decode cX5_trade 50 = .ok (.iconst (-1), 1) := by decide +kernel
theorem dX5_trade_51 : decode cX5_trade 51 = .ok (.goto 8, 3) := by decide +kernel
theorem dX5_trade_54 : decode cX5_trade 54 = .ok (.aload_n 0, 1) := by decide +kernel
theorem dX5_trade_55 : decode cX5_trade 55 = .ok (.iload_n 2, 1) := by decide +kernel
theorem dX5_trade_56 : decode cX5_trade 56 = .ok (.invokevirtual 114, 3) := by decide +kernel
theorem dX5_trade_59 : decode cX5_trade 59 = .ok (.istore 4, 2) := by decide +kernel
theorem dX5_trade_61 : decode cX5_trade 61 = .ok (.iload_n 3, 1) := by decide +kernel
theorem dX5_trade_62 : decode cX5_trade 62 = .ok (.ifCond .ne 8, 3) := by decide +kernel
theorem dX5_trade_65 : decode cX5_trade 65 = .ok (.iload 4, 2) := by decide +kernel
theorem dX5_trade_67 : decode cX5_trade 67 = .ok (.ifCond .lt 41, 3) := by decide +kernel
theorem dX5_trade_70 : decode cX5_trade 70 = .ok (.aload_n 0, 1) := by decide +kernel
theorem dX5_trade_71 : decode cX5_trade 71 = .ok (.iload_n 2, 1) := by decide +kernel
theorem dX5_trade_72 : decode cX5_trade 72 = .ok (.invokevirtual 118, 3) := by decide +kernel
theorem dX5_trade_75 : decode cX5_trade 75 = .ok (.iinc 1 1, 3) := by decide +kernel
theorem dX5_trade_78 : decode cX5_trade 78 = .ok (.iload 4, 2) := by decide +kernel
theorem dX5_trade_80 : decode cX5_trade 80 = .ok (.ifCond .lt 12, 3) := by decide +kernel
theorem dX5_trade_83 : decode cX5_trade 83 = .ok (.aload_n 0, 1) := by decide +kernel
theorem dX5_trade_84 : decode cX5_trade 84 = .ok (.iload 4, 2) := by decide +kernel
theorem dX5_trade_86 : decode cX5_trade 86 = .ok (.invokevirtual 118, 3) := by decide +kernel
theorem dX5_trade_89 : decode cX5_trade 89 = .ok (.iinc 1 1, 3) := by decide +kernel
theorem dX5_trade_92 : decode cX5_trade 92 = .ok (.aload_n 0, 1) := by decide +kernel
theorem dX5_trade_93 : decode cX5_trade 93 = .ok (.aload_n 0, 1) := by decide +kernel
theorem dX5_trade_94 : decode cX5_trade 94 = .ok (.getfield 44, 3) := by decide +kernel
theorem dX5_trade_97 : decode cX5_trade 97 = .ok (.iload_n 2, 1) := by decide +kernel
theorem dX5_trade_98 : decode cX5_trade 98 = .ok (.iaload, 1) := by decide +kernel
theorem dX5_trade_99 : decode cX5_trade 99 = .ok (.aload_n 0, 1) := by decide +kernel
theorem dX5_trade_100 : decode cX5_trade 100 = .ok (.getfield 47, 3) := by decide +kernel
theorem dX5_trade_103 : decode cX5_trade 103 = .ok (.iload_n 2, 1) := by decide +kernel
theorem dX5_trade_104 : decode cX5_trade 104 = .ok (.iaload, 1) := by decide +kernel
theorem dX5_trade_105 : decode cX5_trade 105 = .ok (.invokevirtual 105, 3) := by decide +kernel
theorem dX5_trade_108 : decode cX5_trade 108 = .ok (.iinc 2 1, 3) := by decide +kernel
theorem dX5_trade_111 : decode cX5_trade 111 = .ok (.goto (-102), 3) := by decide +kernel
theorem dX5_trade_114 : decode cX5_trade 114 = .ok (.iload_n 1, 1) := by decide +kernel
theorem dX5_trade_115 : decode cX5_trade 115 = .ok (.ireturn, 1) := by decide +kernel
theorem dX5_within_0 : decode cX5_within 0 = .ok (.iload_n 0, 1) := by decide +kernel
theorem dX5_within_1 : decode cX5_within 1 = .ok (.iload_n 1, 1) := by decide +kernel
theorem dX5_within_2 : decode cX5_within 2 = .ok (.if_icmp .lt 12, 3) := by decide +kernel
theorem dX5_within_5 : decode cX5_within 5 = .ok (.iload_n 0, 1) := by decide +kernel
theorem dX5_within_6 : decode cX5_within 6 = .ok (.iload_n 2, 1) := by decide +kernel
theorem dX5_within_7 : decode cX5_within 7 = .ok (.if_icmp .gt 7, 3) := by decide +kernel
theorem dX5_within_10 : decode cX5_within 10 = .ok (.iconst 1, 1) := by decide +kernel
theorem dX5_within_11 : decode cX5_within 11 = .ok (.goto 4, 3) := by decide +kernel
theorem dX5_within_14 : decode cX5_within 14 = .ok (.iconst 0, 1) := by decide +kernel
theorem dX5_within_15 : decode cX5_within 15 = .ok (.ireturn, 1) := by decide +kernel
end
section
/-! My own layer over the kit: contracts of methods that may return or throw; the tables' words carried along by one fact; calls, throws. -/
section XB
variable {p : Program} {l : Launch} {e : Env} {R : Room} {s : State} {m : MethodId} {args : Array Value} {below : List Frame} {meth : Method} {c : Code} {H : Heap} {locs : List Loc} {cells slots : Nat} {Q : State → Prop}
/-- words of the tables that stay true as the tables warm -/
def xok : Cond → Bool
  | .arrayClass _ => true
  | w => w.onTables && w.keepsFace
/-- all such words of the claim's tables hold at U, whatever the arguments -/
def xE (U : State) : Prop := ∀ w ∈ lw_tbl, xok w = true → ∀ a : Array Value, w.before a U = true
theorem xok_at {w : Cond} {a a' : Array Value} {s U : State} (hW : s.WarmedH U.vm) (hk : xok w = true) (h : w.before a s = true) : w.before a' U = true := by
  by_cases hc : ∃ ty, w = .arrayClass ty
  · obtain ⟨ty, rfl⟩ := hc
    have h1 : (Cond.arrayClass ty).before a (s.setVm U.vm) = true := Cond.before_shiftedFace (State.Shifted.of_warmed hW) _ rfl h
    exact h1
  · have hk2 : (w.onTables && w.keepsFace) = true := by
      cases w <;> first | exact hk | exact absurd ⟨_, rfl⟩ hc
    simp only [Bool.and_eq_true] at hk2
    have h1 : w.before a (s.setVm U.vm) = true := Cond.before_shiftedFace (State.Shifted.of_warmed hW) _ hk2.2 h
    rw [Cond.onTables_vm (A' := a') (U' := U) U.vm w hk2.1, State.setVm_self] at h1
    exact h1
theorem xE.warm {s U : State} (h : xE s) (hW : s.WarmedH U.vm) : xE U := fun w hw hk a => xok_at (a := a) hW hk (h w hw hk a)
theorem xE.same {s U : State} (h : xE s) (hv : U.vm = s.vm) : xE U := h.warm (by rw [hv]; exact State.WarmedH.refl s)
theorem xE.of {s : State} {a : Array Value} (hts : ∀ w ∈ lw_tbl, w.before a s = true) : xE s := fun w hw hk a' => xok_at (a := a) (State.WarmedH.refl s) hk (hts w hw)
/-- what a method wrote and made -/
def xFr (st t : State) (mc ms : Nat) (free : Addr → Prop) : Prop := st.WarmedH t.vm ∧ ∃ L, st.sameButNew ({ t with vm := st.vm } : State) L mc ms ∧ ∀ q ∈ L, free q.base
/-- a contract: the method ends, by an answer or an exception, as Qc says -/
def xMet (l : Launch) (y : MethodName) (cw : Cond) (rm : Room) (Pc : Array Value → State → Prop) (Qc : Array Value → State → Outcome → State → Prop) (mc ms : Nat) (free : Addr → Prop) : Prop :=
  MetFree l y (headSpec [cw] rm) Pc (fun _ _ _ _ _ => True) (fun a st o t => Qc a st o t ∧ xFr st t mc ms free)
/-- what a body owes at its end -/
def xMQ (below : List Frame) (Qc : Array Value → State → Outcome → State → Prop) (a : Array Value) (s : State) (mc ms : Nat) (free : Addr → Prop) : State → Prop := fun t =>
  ∃ o, t.status = .running ∧ Ended t below o ∧ Qc a s o t ∧ xFr s t mc ms free
theorem xMet.ofW {y : MethodName} {rm : Room} {Pc : Array Value → State → Prop} {Qc : Array Value → State → Outcome → State → Prop} {mc ms : Nat} {free : Addr → Prop} {cc : ByteArray} {maxL : Nat} {ret : Option FieldType}
    (hy : plainName y.cls = true)
    (body : ∀ p e s m args below meth c, p.tables.exec = Jvm.exec → c.code = cc → c.maxLocals = maxL → meth.sig.returnType = ret → meth.locks = false → s.methodNamed? y = some m → s.vm.method? m = some meth → (∀ x ∈ c.exceptionTable.toList, False) → Pc args s →
      W p l e rm s m args below meth c s.heap [] 0 0 (xMQ below Qc args s mc ms free) (entryFrame m args maxL)) : xMet l y (.code y cc maxL ret) rm Pc Qc mc ms free := by
  refine MetFree.of_bodyS (code := cc) (maxLocals := maxL) (ret := ret) hy ?_ ?_
  · intro args s m h hn
    obtain ⟨meth, c, h1, h2, h3, h4, h5, h6, -, -⟩ := Cond.code_spec hn (atoms_spec (ws := [Cond.code y cc maxL ret]) h _ List.mem_cons_self)
    exact ⟨meth, c, h1, h2, h3, h4, h5, h6⟩
  · intro p e s m args below meth c s₁ B hml hP _
    have hh0 : s₁.heap = s.heap := by rw [B.state]; rfl
    have hno := B.noHandlers (atoms_spec (ws := [Cond.code y cc maxL ret]) B.pre _ List.mem_cons_self)
    obtain ⟨t, a1, o, b1, b2, b3⟩ := body p e s m args below meth c B.exec B.bytes hml B.returns B.notSynchronized B.named B.method (fun x hx => by
      have h0 : c.exceptionTable.toList = [] := by simpa using hno
      rw [h0] at hx; cases hx) hP s₁ hh0 (Stand.of_body B)
    exact ⟨t, o, a1, b1, b2, b3⟩
/-- the call itself -/
theorem xcore {T : State} (X : Stand p l e R s m args below meth c T locs cells slots) {y : MethodName} {cw : Cond} {maxL : Nat} {rm : Room} {Pc : Array Value → State → Prop} {Qc : Array Value → State → Outcome → State → Prop} {mc ms : Nat} {free : Addr → Prop}
    (hM : xMet l y cw rm Pc Qc mc ms free) (hbl : FrameBlind Pc) (hfr : rm.frames + 1 ≤ R.frames) (hlo : 8 + (maxL + 11) + rm.locals ≤ R.locals) (hc : cells + rm.cells ≤ R.cells) (hs : slots + rm.slots ≤ R.slots)
    {g : JFrame} (hg : g.method = m) (hsize : g.locals.size = c.maxLocals) {ig : Instr} {len : Nat} (hdg : decode c.code g.pc = .ok (ig, len)) (hW : 2 * g.monitorRoom + (g.stack.map fun v => v.category).sum ≤ 8)
    {mk : MethodId} {a : Array Value} (hn : T.methodNamed? y = some mk) (hcs : ∃ (methY : Method) (cY : Code), T.vm.method? mk = some methY ∧ methY.code = some cY ∧ cY.maxLocals = maxL) (hcw : cw.before a T = true) (hini : (Cond.initialized y.cls).before a T = true) (hPc : Pc a T) :
    ∃ (o : Outcome) (t T' : State) (L : List Loc), Stand p l e R s m args below meth c T' (locs ++ L) (cells + mc) (slots + ms) ∧ (∀ q ∈ L, free q.base) ∧ T'.heap = t.heap ∧ T'.vm = t.vm ∧ Qc a (T.calling g mk a) o t ∧
      match o with
      | .returned v => Steps p.tables e below (doInvoke e (T.setTop g) [] mk a).1 (T'.setTop { g with pc := g.pc + len, stack := v.toList ++ g.stack })
      | .threw x => Steps p.tables e below (doInvoke e (T.setTop g) [] mk a).1 ((T'.setTop g).pushFrame (.throwing x)) := by
  obtain ⟨methY, cY, hmY, hcY, hlY⟩ := hcs
  obtain ⟨kY, hkY, -⟩ := className_of_methodNamed hn
  have hinitY : kY.init = .initialized := Cond.initialized_spec (findClass_of_methodNamed hn) hkY hini
  have h : At T g.method c below := by rw [hg]; exact X.here
  have hpre : (headSpec [cw] rm).pre.before a T = true := atoms_intro (fun w hw => by rw [List.mem_singleton.mp hw]; exact hcw)
  have hlo9 : 8 + (maxL + 11) + (headSpec [cw] rm).room.locals ≤ R.locals := hlo
  have happ : (headSpec [cw] rm).appliesLoose y e.platform (T.calling g mk a) = true :=
    Spec.appliesLoose_calling (g := g) h hdg hn hkY hinitY
      (X.room_calling (g := g) (R' := (headSpec [cw] rm).room) hsize hmY hcY hfr (by rw [hlY]; omega) hc hs) hpre
  obtain ⟨mid, hmid⟩ := h.above
  have hfr9 : (T.setTop g).frames = (.java g :: mid) ++ below := by rw [State.frames_setTop' g h.top, hmid]; rfl
  obtain ⟨o, t, hsteps, -, hend, hq⟩ := Steps.callFree hM p X.admits X.cas X.clock (acts := []) hfr9 happ (hbl _ _ _ _ hPc) trivial
  rw [State.frames_setTop' g h.top, X.tail] at hend
  obtain ⟨hQ, hWm, L, hsm, hL⟩ := hq
  cases o with
  | returned v =>
    obtain ⟨T', X', -, -, ht⟩ := X.outOf hg hdg (mk := mk) (a := a) (v := v) hend hWm hsm
    exact ⟨.returned v, t, T', L, X', hL, (congrArg State.heap ht).symm, (congrArg State.vm ht).symm, hQ, by have h9 := hsteps; rw [ht] at h9; exact h9⟩
  | threw x =>
    obtain ⟨T', X', -, -, ht⟩ := X.outOfThrown hg (mk := mk) (a := a) (x := x) hend hWm hsm
    exact ⟨.threw x, t, T', L, X', hL, (congrArg State.heap ht).symm, (congrArg State.vm ht).symm, hQ, by have h9 := hsteps; rw [ht] at h9; exact h9⟩
/-- a call, whatever its kind -/
def xRun (p : Program) (l : Launch) (e : Env) (R : Room) (s : State) (m : MethodId) (args : Array Value) (below : List Frame) (meth : Method) (c : Code) (H : Heap) (locs : List Loc) (cells slots mc ms : Nat) (g : JFrame) (rest : List Value) (Qa : State → Outcome → State → Prop) (free : Addr → Prop) : Prop :=
  ∀ T : State, T.heap = H → Stand p l e R s m args below meth c T locs cells slots → ∃ (o : Outcome) (st t T' : State) (L : List Loc), st.heap = H ∧ s.vm.Alike st.vm ∧ Stand p l e R s m args below meth c T' (locs ++ L) (cells + mc) (slots + ms) ∧ (∀ q ∈ L, free q.base) ∧ T'.heap = t.heap ∧ T'.vm = t.vm ∧ Qa st o t ∧
    match o with
    | .returned v => ∀ tg, Steps p.tables e below (T'.setTop { g with pc := g.pc + 3, stack := v.toList ++ rest }) tg → Steps p.tables e below (T.setTop g) tg
    | .threw x => Steps p.tables e below (T.setTop g) ((T'.setTop { g with stack := rest }).pushFrame (.throwing x))
/-- what the callee asks of the caller's state -/
def xPre (s : State) (H : Heap) (Pc : Array Value → State → Prop) (As : List Value) : Prop := FrameBlind Pc ∧ ∀ U : State, U.heap = H → s.WarmedH U.vm → Pc As.toArray U
variable {y : MethodName} {cc bytes : ByteArray} {maxL nL mc ms n index : Nat} {ret : Option FieldType} {rm : Room} {Pc : Array Value → State → Prop} {Qc : Array Value → State → Outcome → State → Prop} {free : Addr → Prop} {own C : String} {b : Addr} {As rest : List Value} {g : JFrame}
/-- the parts of a call that don't change: the machine, the caller, the callee's code, the room -/
def xFix (p : Program) (R : Room) (s : State) (m : MethodId) (c : Code) (cc : ByteArray) (nL : Nat) (own : String) (y : MethodName) (maxL : Nat) (rm : Room) (index n cells slots : Nat) : Prop :=
  p.tables.exec = Jvm.exec ∧ c.code = cc ∧ c.maxLocals = nL ∧ s.vm.findClass own = some m.cls ∧ rm.frames + 1 ≤ R.frames ∧ 8 + (maxL + 11) + rm.locals ≤ R.locals ∧ cells + rm.cells ≤ R.cells ∧ slots + rm.slots ≤ R.slots ∧
  (y.cls ≠ "java/lang/invoke/MethodHandle" ∧ y.cls ≠ "java/lang/invoke/VarHandle") ∧ (∀ sig, parseMethodDescriptor y.desc = some sig → n = sig.parameters.length)
theorem xrunV (F : xFix p R s m c cc nL own y maxL rm index n cells slots) (hE : xE s) (wl : Cond.methodLink own index y ∈ lw_tbl) (wi : Cond.instanceMethod y ∈ lw_tbl) (wse : Cond.selects C y y ∈ lw_tbl) (wc : Cond.code y bytes maxL ret ∈ lw_tbl) (wn : Cond.initialized y.cls ∈ lw_tbl)
    (hM : xMet l y (.code y bytes maxL ret) rm Pc Qc mc ms free) (hr : ∃ cellB : Cell, H[b]? = some cellB ∧ cellB.vm.isStatics = false ∧ s.vm.findClass C = some cellB.cls) (hp : xPre s H Pc (.ref b :: As))
    (hg : g.method = m) (hn : As.length = n) (hsize : g.locals.size = nL) (hstack : g.stack = As.reverse ++ .ref b :: rest) (hW : 2 * g.monitorRoom + (rest.map fun v => v.category).sum ≤ 8) (hdg : decode cc g.pc = .ok (.invokevirtual index, 3)) :
    xRun p l e R s m args below meth c H locs cells slots mc ms g rest (Qc (Value.ref b :: As).toArray) free := by
  obtain ⟨hx, hb, hml, ho, hfr, hlo, hce, hsl, hy, hlen⟩ := F
  intro T hT X
  obtain ⟨mk, methM, hnamed, hmethM, hstM, habM⟩ := Cond.instanceMethod_spec (hE _ wi rfl args)
  obtain ⟨methM', cM, hmethM', hcM, -, hlM, -, -, -, hsigM⟩ := Cond.code_spec hnamed (hE _ wc rfl args)
  cases hmethM.symm.trans hmethM'
  obtain ⟨cellB, hcB, hoB, hclB⟩ := hr
  obtain ⟨c2, r2, m2, q1, q2, q3, q4, kP, hkP, hkPi⟩ := Cond.selects_spec (hE _ wse rfl args)
  cases hclB.symm.trans q1
  cases (State.methodFound?_of_named hnamed hy).symm.trans q2
  cases hnamed.symm.trans q3
  have hselP : selectMethod e.platform s.vm cellB.cls mk = .method mk := by rw [Launch.admits_selectMethod X.admits]; exact q4
  have hdg' : decode c.code g.pc = .ok (.invokevirtual index, 3) := by rw [hb]; exact hdg
  obtain ⟨vm₁, X₁, hstep₁⟩ := X.invokevirtual hx ho (hE _ wl rfl args) hnamed hmethM hstM hkP hkPi hy (a := b) (cell := cellB) (by rw [hT]; exact hcB)
    (fun z h => by rw [h] at hoB; cases hoB) hselP hmethM habM hkP hkPi (g := g) hg (argsL := As) (rest := rest) (hn.trans (hlen _ hsigM)) hstack hdg'
  have hE₁ : xE (T.setVm vm₁) := hE.warm X₁.warmed
  obtain ⟨o, t, T', L, X', hL, e1, e2, hq, st⟩ := xcore X₁ hM hp.1 hfr hlo hce hsl (g := { g with stack := rest }) hg (hsize.trans hml.symm) hdg' hW (X₁.named hnamed)
    ⟨methM, cM, by rw [X₁.warmed.alike.method?]; exact hmethM, hcM, hlM⟩ (hE₁ _ wc rfl _) (hE₁ _ wn rfl _) (hp.2 (T.setVm vm₁) hT X₁.warmed)
  refine ⟨o, _, t, T', L, ?_, ?_, X', hL, e1, e2, hq, ?_⟩
  · exact hT
  · exact X₁.warmed.alike
  · cases o with
    | returned v => exact fun tg h => hstep₁ _ fun acts => by rw [doInvoke_state]; exact Steps.trans st h
    | threw x => exact hstep₁ _ fun acts => by rw [doInvoke_state]; exact st
theorem xrunS (F : xFix p R s m c cc nL own y maxL rm index n cells slots) (hE : xE s) (wl : Cond.methodLink own index y ∈ lw_tbl) (wi : Cond.static y ∈ lw_tbl) (wc : Cond.code y bytes maxL ret ∈ lw_tbl) (wn : Cond.initialized y.cls ∈ lw_tbl)
    (hM : xMet l y (.code y bytes maxL ret) rm Pc Qc mc ms free) (hp : xPre s H Pc As)
    (hg : g.method = m) (hn : As.length = n) (hsize : g.locals.size = nL) (hstack : g.stack = As.reverse ++ rest) (hW : 2 * g.monitorRoom + (rest.map fun v => v.category).sum ≤ 8) (hdg : decode cc g.pc = .ok (.invokestatic index, 3)) :
    xRun p l e R s m args below meth c H locs cells slots mc ms g rest (Qc As.toArray) free := by
  obtain ⟨hx, hb, hml, ho, hfr, hlo, hce, hsl, hy, hlen⟩ := F
  intro T hT X
  obtain ⟨mk, hnamed⟩ := Cond.code_named (hE _ wc rfl args)
  obtain ⟨methM, cM, hmethM, hcM, -, hlM, -, -, -, hsigM⟩ := Cond.code_spec hnamed (hE _ wc rfl args)
  have hstatic : methM.isStatic = true := Cond.static_spec hnamed hmethM (hE _ wi rfl args)
  obtain ⟨kP, hkP, -⟩ := className_of_methodNamed hnamed
  have hinitP : kP.init = .initialized := Cond.initialized_spec (findClass_of_methodNamed hnamed) hkP (hE _ wn rfl args)
  have hdg' : decode c.code g.pc = .ok (.invokestatic index, 3) := by rw [hb]; exact hdg
  obtain ⟨vm₁, X₁, hstep₁⟩ := X.invokestatic hx ho (hE _ wl rfl args) hnamed hmethM hstatic hkP hinitP hy (g := g) hg (argsL := As) (rest := rest) (hn.trans (hlen _ hsigM)) hstack hdg'
  have hE₁ : xE (T.setVm vm₁) := hE.warm X₁.warmed
  obtain ⟨o, t, T', L, X', hL, e1, e2, hq, st⟩ := xcore X₁ hM hp.1 hfr hlo hce hsl (g := { g with stack := rest }) hg (hsize.trans hml.symm) hdg' hW (X₁.named hnamed)
    ⟨methM, cM, by rw [X₁.warmed.alike.method?]; exact hmethM, hcM, hlM⟩ (hE₁ _ wc rfl _) (hE₁ _ wn rfl _) (hp.2 (T.setVm vm₁) hT X₁.warmed)
  refine ⟨o, _, t, T', L, ?_, ?_, X', hL, e1, e2, hq, ?_⟩
  · exact hT
  · exact X₁.warmed.alike
  · cases o with
    | returned v => exact fun tg h => hstep₁ _ fun acts => by rw [doInvoke_state]; exact Steps.trans st h
    | threw x => exact hstep₁ _ fun acts => by rw [doInvoke_state]; exact st
/-- q has been thrown over the frame g -/
def xW (p : Program) (l : Launch) (e : Env) (R : Room) (s : State) (m : MethodId) (args : Array Value) (below : List Frame) (meth : Method) (c : Code) (H : Heap) (locs : List Loc) (cells slots : Nat) (Q : State → Prop) (g : JFrame) (q : Addr) : Prop :=
  ∀ T : State, T.heap = H → Stand p l e R s m args below meth c T locs cells slots → ∃ t, Steps p.tables e below ((T.setTop g).pushFrame (.throwing q)) t ∧ Q t
/-- an exception of the class E came out, and nothing that was there has changed -/
def xThr (E : String) (st : State) (q : Addr) (t : State) : Prop := ∃ ce : Cell, t.heap[q]? = some ce ∧ ce.vm = .none ∧ st.vm.findClass E = some ce.cls ∧ st.heap.size ≤ t.heap.size ∧ ∀ a : Nat, a < st.heap.size → t.heap[a]? = st.heap[a]?
/-- the end of a method that only reads: an answer, or an exception -/
abbrev xO : Type := String ⊕ Option Value
def xQr (x : xO) : Array Value → State → Outcome → State → Prop := fun _ st o t => match x with
  | .inl E => ∃ q, o = .threw q ∧ xThr E st q t
  | .inr v => o = .returned v ∧ t.heap = st.heap
def xmc (x : xO) : Nat := match x with | .inl _ => 1 | .inr _ => 0
def xms (x : xO) : Nat := match x with | .inl _ => 6 | .inr _ => 0
variable {pc : Nat} {ls : Array Slot} {st0 : List Value} {a : Array Value}
theorem xgo_r {v : Option Value} (hr : xRun p l e R s m args below meth c H locs cells slots (xmc (.inr v)) (xms (.inr v)) (F0 m pc ls st0) rest (xQr (.inr v) a) (fun _ => False)) (kk : W p l e R s m args below meth c H locs cells slots Q (F0 m (pc + 3) ls (v.toList ++ rest))) : W p l e R s m args below meth c H locs cells slots Q (F0 m pc ls st0) := by
  intro T hT X
  obtain ⟨o, st, t, T', L, h0, -, X', hL, e1, -, ⟨rfl, hh⟩, go⟩ := hr T hT X
  obtain ⟨t2, a1, b1⟩ := kk T' (by rw [e1, hh, h0]) (Stand.forget X' (fun q h => (hL q h).elim))
  exact ⟨t2, go t2 a1, b1⟩
theorem xgo_t {E : String} (hr : xRun p l e R s m args below meth c H locs cells slots (xmc (.inl E)) (xms (.inl E)) (F0 m pc ls st0) rest (xQr (.inl E) a) (fun _ => False))
    (kk : ∀ (q : Addr) (H1 : Heap) (ce : Cell), H1[q]? = some ce → ce.vm = .none → s.vm.findClass E = some ce.cls → H.size ≤ H1.size → (∀ a : Nat, a < H.size → H1[a]? = H[a]?) → xW p l e R s m args below meth c H1 locs (cells + 1) (slots + 6) Q (F0 m pc ls rest) q) : W p l e R s m args below meth c H locs cells slots Q (F0 m pc ls st0) := by
  intro T hT X
  obtain ⟨o, st, t, T', L, h0, hal, X', hL, e1, -, ⟨q, rfl, ce, hce, hcv, hcl, hz, hk⟩, go⟩ := hr T hT X
  rw [h0] at hz hk
  obtain ⟨t2, a1, b1⟩ := kk q T'.heap ce (by rw [e1]; exact hce) hcv (by rw [← hal.findClass]; exact hcl) (by rw [e1]; exact hz) (fun a h => by rw [e1]; exact hk a h) T' rfl (Stand.forget X' (fun q h => (hL q h).elim))
  exact ⟨t2, Steps.trans go a1, b1⟩
/-- it isn't caught here -/
theorem xout {Qc : Array Value → State → Outcome → State → Prop} {q : Addr} {E : String} {ce : Cell} {H1 : Heap} (hno : ∀ x ∈ c.exceptionTable.toList, False) (hlocks : meth.locks = false) (hq : ∀ (q : Addr) (t : State), xThr E s q t → Qc args s (.threw q) t) (hcell : H1[q]? = some ce) (hv : ce.vm = .none) (hcl : s.vm.findClass E = some ce.cls) (hz : s.heap.size ≤ H1.size) (hk : ∀ a : Nat, a < s.heap.size → H1[a]? = s.heap[a]?) :
    xW p l e R s m args below meth c H1 [] 1 6 (xMQ below Qc args s 1 6 (fun _ => False)) (F0 m pc ls rest) q := by
  intro T hT X
  obtain ⟨st1, hrun, hend, hW, hsm⟩ := X.leaveThrown q (g := F0 m pc ls rest) rfl rfl rfl (fun x hx => (hno x hx).elim) hlocks
  refine ⟨_, st1, .threw q, hrun, hend, hq q _ ⟨ce, ?_, hv, hcl, ?_, ?_⟩, hW, [], hsm, fun _ h => nomatch h⟩
  · show T.heap[q]? = some ce
    rw [hT]; exact hcell
  · show s.heap.size ≤ T.heap.size
    rw [hT]; exact hz
  · intro a h
    show T.heap[a]? = s.heap[a]?
    rw [hT]; exact hk a h
theorem xmono {g : JFrame} {Q1 Q2 : State → Prop} (h : ∀ t, Q1 t → Q2 t) (k : W p l e R s m args below meth c H locs cells slots Q1 g) : W p l e R s m args below meth c H locs cells slots Q2 g := by
  intro T hT X
  obtain ⟨t, a1, b1⟩ := k T hT X
  exact ⟨t, a1, h t b1⟩
theorem xmq {Qc : Array Value → State → Outcome → State → Prop} {mc ms : Nat} {free : Addr → Prop} : ∀ t, MQ below Qc args s mc ms free t → xMQ below Qc args s mc ms free t := by
  intro t ⟨o, h1, h2, h3, L, h4, h5⟩
  exact ⟨o, h1, h2, h3, h4.2.1, L, h4.2.2, h5⟩
/-- a reader's answers -/
theorem xret_i {cc : ByteArray} {v : Int32} (hx : p.tables.exec = Jvm.exec) (hb : c.code = cc) (hr : meth.sig.returnType = some .int) (hlocks : meth.locks = false) (hdg : decode cc pc = .ok (.ireturn, 1)) :
    W p l e R s m args below meth c s.heap [] 0 0 (xMQ below (xQr (.inr (some (.int v)))) args s 0 0 (fun _ => False)) (F0 m pc ls [.int v]) :=
  xmono xmq (W.iret (locs := []) (free := fun _ => False) hx hb hr (fun t ht _ => ⟨rfl, ht⟩) (fun _ h => nomatch h) hdg hlocks)
theorem xret_z {cc : ByteArray} {v : Int32} (hx : p.tables.exec = Jvm.exec) (hb : c.code = cc) (hr : meth.sig.returnType = some .boolean) (hn : narrow .boolean (.int v) = .int v) (hlocks : meth.locks = false) (hdg : decode cc pc = .ok (.ireturn, 1)) :
    W p l e R s m args below meth c s.heap [] 0 0 (xMQ below (xQr (.inr (some (.int v)))) args s 0 0 (fun _ => False)) (F0 m pc ls [.int v]) :=
  xmono xmq (W.zret (locs := []) (free := fun _ => False) hx hb hr hn (fun t ht _ => ⟨rfl, ht⟩) (fun _ h => nomatch h) hdg hlocks)
theorem xret_v {cc : ByteArray} (hx : p.tables.exec = Jvm.exec) (hb : c.code = cc) (hr : meth.sig.returnType = none) (hlocks : meth.locks = false) (hdg : decode cc pc = .ok (.return_, 1)) :
    W p l e R s m args below meth c s.heap [] 0 0 (xMQ below (xQr (.inr none)) args s 0 0 (fun _ => False)) (F0 m pc ls []) :=
  xmono xmq (W.vret (locs := []) (free := fun _ => False) hx hb hr (fun t ht _ => ⟨rfl, ht⟩) (fun _ h => nomatch h) hdg hlocks)
/-- a static field of Throwable that holds a reference or null, and where it lies -/
def xL (n d : String) (U : State) : Prop := ∃ (cl : ClassId) (k : Class) (i : Nat) (f : Field) (z : Nat) (cell : Cell) (v : Value), U.vm.findClass Bundle.tN = some cl ∧ U.fieldFound? Bundle.tN n d = some (cl, k, i, f) ∧ f.isStatic = true ∧ k.statics = some z ∧ U.heap[z]? = some cell ∧ cell.vm.isStatics = true ∧ cell.cls = cl ∧ f.slot < cell.slots.size ∧ k.staticTypes[f.slot]? = some f.type ∧ cell.slots[f.slot]? = some v ∧ v.isRef = true
theorem xL.of {n d : String} {U : State} {a : Array Value} (h1 : (Cond.laysStatic Bundle.tN n d).before a U = true) (h2 : (Cond.isRef (.static Bundle.tN n d)).before a U = true) : xL n d U := by
  obtain ⟨cl, k, i, f, z, cell, q1, q2, q3, q4, q5, q6, q7, q8, q9⟩ := Cond.laysStatic_spec h1
  obtain ⟨u, hu⟩ := Cond.staticRefV q2 q3 q4 q5 q6 h2
  exact ⟨cl, k, i, f, z, cell, u.v, q1, q2, q3, q4, q5, q6, q7, q8, q9, hu, u.ok⟩
theorem xL.moved {n d : String} {u U : State} (h : xL n d u) (hv : u.vm.Alike U.vm) (hh : ∀ (z : Nat) (cell : Cell), u.heap[z]? = some cell → cell.vm.isStatics = true → U.heap[z]? = some cell) : xL n d U := by
  obtain ⟨cl, k, i, f, z, cell, v, q1, q2, q3, q4, q5, q6, q7, q8, q9, q10, q11⟩ := h
  obtain ⟨k', hi', he⟩ := State.fieldFound?_setVm hv q2
  exact ⟨cl, k', i, f, z, cell, v, by rw [hv.findClass]; exact q1, hi', q3, by rw [he]; exact q4, hh z cell q5 q6, q6, q7, q8, by rw [he]; exact q9, q10, q11⟩
theorem xL.lays {n d : String} {U : State} {a : Array Value} (h : xL n d U) : (Cond.laysStatic Bundle.tN n d).before a U = true := by
  obtain ⟨cl, k, i, f, z, cell, v, q1, q2, q3, q4, q5, q6, q7, q8, q9, -, -⟩ := h
  exact Cond.laysStatic_of q1 q2 q3 q4 q5 q6 q7 q8 q9
theorem xL.isr {n d : String} {U : State} {a : Array Value} (h : xL n d U) : (Cond.isRef (.static Bundle.tN n d)).before a U = true := by
  obtain ⟨cl, k, i, f, z, cell, v, q1, q2, q3, q4, q5, q6, q7, q8, q9, q10, q11⟩ := h
  have he : (Term.static Bundle.tN n d).eval a U none [] U = some v := by
    simp [Term.eval, State.fieldNamed?, q2, q3, q4, q5, q6, q10]
  simp only [Cond.before, Cond.holds, Cond.value, he]
  cases v <;> simp_all [Value.isRef]
/-- what a throw asks of the heap -/
def xSt (U : State) : Prop := xL "UNASSIGNED_STACK" Bundle.steD U ∧ xL "SUPPRESSED_SENTINEL" Bundle.listD U
theorem xSt.moved {u U : State} (h : xSt u) (hv : u.vm.Alike U.vm) (hh : ∀ (z : Nat) (cell : Cell), u.heap[z]? = some cell → cell.vm.isStatics = true → U.heap[z]? = some cell) : xSt U := ⟨h.1.moved hv hh, h.2.moved hv hh⟩
/-- the words of a throw, but the four that speak of the heap -/
def xno (w : Cond) : Bool := decide (w ≠ .isRef (.static Bundle.tN "UNASSIGNED_STACK" Bundle.steD)) && (decide (w ≠ .isRef (.static Bundle.tN "SUPPRESSED_SENTINEL" Bundle.listD)) && (decide (w ≠ .laysStatic Bundle.tN "UNASSIGNED_STACK" Bundle.steD) && decide (w ≠ .laysStatic Bundle.tN "SUPPRESSED_SENTINEL" Bundle.listD)))
theorem xwords {own cls : String} {ic : Nat} {names : List String} {a : Array Value} (hE : xE s) (hst : xSt s) (h : ((Bundle.ownAtoms own ic cls names).filter xno).all (fun w => decide (w ∈ lw_tbl) && xok w) = true) : ∀ w ∈ Bundle.ownAtoms own ic cls names, w.before a s = true := by
  intro w hw
  by_cases e1 : w = .isRef (.static Bundle.tN "UNASSIGNED_STACK" Bundle.steD)
  · rw [e1]; exact hst.1.isr
  · by_cases e2 : w = .isRef (.static Bundle.tN "SUPPRESSED_SENTINEL" Bundle.listD)
    · rw [e2]; exact hst.2.isr
    · by_cases e3 : w = .laysStatic Bundle.tN "UNASSIGNED_STACK" Bundle.steD
      · rw [e3]; exact hst.1.lays
      · by_cases e4 : w = .laysStatic Bundle.tN "SUPPRESSED_SENTINEL" Bundle.listD
        · rw [e4]; exact hst.2.lays
        · have hx : xno w = true := by
            unfold xno
            rw [decide_eq_true e1, decide_eq_true e2, decide_eq_true e3, decide_eq_true e4]; rfl
          have h1 := List.all_eq_true.mp h w (List.mem_filter.mpr ⟨hw, hx⟩)
          simp only [Bool.and_eq_true, decide_eq_true_eq] at h1
          exact hE w h1.1 h1.2 a
theorem xsame {U : State} {k n : Nat} (h : s.sameButNew ({ U with vm := s.vm } : State) [] k n) : s.heap.size ≤ U.heap.size ∧ ∀ z : Nat, z < s.heap.size → U.heap[z]? = s.heap[z]? := by
  obtain ⟨-, h2, -, -, -, h6⟩ := h
  refine ⟨h2, fun z hz => ?_⟩
  obtain ⟨c9, e1, e2, -, e4⟩ := h6 z _ (Array.getElem?_eq_getElem hz)
  have hs : c9.slots = (s.heap[z]).slots := Array.ext_getElem? fun i => e4 i (fun hm => nomatch hm)
  have h9 : c9 = s.heap[z] := by
    rw [hs] at e2
    exact e2
  have e5 : U.heap[z]? = some c9 := e1
  rw [e5, h9, Array.getElem?_eq_getElem hz]
/-- 'throw new E("text")' in a method that has written nothing -/
theorem xthrow {Qc : Array Value → State → Outcome → State → Prop} {cc : ByteArray} {own cls text : String} {names : List String} {ik is ic sa : Nat} (hx : p.tables.exec = Jvm.exec) (hb : c.code = cc) (hl : l.stackTraces = false) (hown : s.vm.findClass own = some m.cls) (hE : xE s) (hst : xSt s)
    (hcls : Bundle.fit cls = true) (hnames : ∀ n ∈ names, Bundle.fit n = true) (hw : ((Bundle.ownAtoms own ic cls names).filter xno).all (fun w => decide (w ∈ lw_tbl) && xok w) = true) (wk : Cond.classLink own ik cls ∈ lw_tbl) (wn : Cond.initialized cls ∈ lw_tbl) (hstr : vk_R own is text sa s)
    (hno : ∀ x ∈ c.exceptionTable.toList, False) (hlocks : meth.locks = false) (hsize : ls.size = c.maxLocals)
    (d0 : decode cc pc = .ok (.new ik, 3)) (d3 : decode cc (pc + 3) = .ok (.dup, 1)) (d4 : decode cc (pc + 4) = .ok (.ldc is, 2)) (d6 : decode cc (pc + 6) = .ok (.invokespecial ic, 3)) (d9 : decode cc (pc + 9) = .ok (.athrow, 1))
    (hRframes : names.length + 3 < R.frames) (hRlocals : (rest.map fun v => v.category).sum + (13 * (names.length + 1) + 43) ≤ R.locals) (hRcells : 1 ≤ R.cells) (hRslots : 6 ≤ R.slots)
    (hq : ∀ (q : Addr) (t : State), xThr cls s q t → Qc args s (.threw q) t) :
    W p l e R s m args below meth c s.heap [] 0 0 (xMQ below Qc args s 1 6 (fun _ => False)) (F0 m pc ls rest) := by
  have hwords : ∀ w ∈ Bundle.ownAtoms own ic cls names, w.before args s = true := xwords hE hst hw
  have hins : (Cond.instantiable cls 6).before args s = true := hwords _ (by simp [Bundle.ownAtoms])
  refine W.newc (C := cls) (n := 6) hx hb hown (hE _ wk rfl args) hins (hE _ wn rfl args) rfl d0 (by omega) (by omega) (fun cX kX hfX hkX hord hn6 => ?_)
  refine W.eq (g2 := F0 m (pc + 3) ls (.ref s.heap.size :: rest)) rfl ?_
  refine lv_dup hx hb d3 rfl ?_
  refine va_ldcS hx hb hown hstr d4 ?_
  intro T hT X
  have htr : e.platform.stackTraces = false := (show e.platform.stackTraces = l.stackTraces by rw [X.admits.platform]).trans hl
  have hcat : (Value.ref s.heap.size).category = 1 := rfl
  obtain ⟨U, hsteps, hrun, hend, hW, hsm, ce, hce, hO⟩ := X.ctorThrowS hx htr (own := own) (cls := cls) (names := names) (ic := ic) hown hcls hnames hwords (fun x hx => nomatch hx) hfX hkX (a := s.heap.size) (by rw [hT]; first | exact Array.getElem?_push_size | simp [freshCell]) (Nat.le_refl _) (msg := .ref sa) rfl
    (g := F0 m (pc + 6) ls (.ref sa :: .ref s.heap.size :: .ref s.heap.size :: rest)) rfl hsize rfl rfl (rest := rest) rfl (by rw [hb]; exact d6) (by rw [hb]; exact d9) (fun x hx => (hno x hx).elim) hRframes (by
      show 2 * 0 + ((Value.ref s.heap.size :: rest).map fun v => v.category).sum + (13 * (names.length + 1) + 42) ≤ R.locals
      simp only [List.map_cons, List.sum_cons, hcat]; omega) hlocks
  obtain ⟨k1, k2⟩ := xsame hsm
  exact ⟨U, hsteps, .threw s.heap.size, hrun, hend, hq _ U ⟨ce, hce, hO.vm, hO.cls, k1, k2⟩, hW, [], hsm, fun _ h => nomatch h⟩
end XB
end
section
/-! 'throw new E("text")' where E's own constructor calls its superclass's by any entry of its pool (NoSuchElementException's is 13). -/
section XN
variable {p : Program} {l : Launch} {e : Env} {R : Room} {s : State} {m : MethodId} {args : Array Value} {below : List Frame} {meth : Method} {c : Code} {V : State} {H : Heap} {locs : List Loc} {cells slots : Nat}
/-- the words of such a throw -/
def xatoms (own : String) (ic : Nat) (X Y : String) (ix : Nat) (bytes : ByteArray) (names : List String) : List Cond :=
  Bundle.throwableAtoms ++ (Bundle.throwableSAtoms ++ (Bundle.passSAtoms X Y ix bytes ++ (Bundle.chainSAtoms Y names ++
  [.methodLink own ic (Bundle.initS X), .instantiable X 6, .selects X Bundle.tFill0 Bundle.tFill0, .selects X Bundle.tFill Bundle.tFill,
   .lays X Bundle.tN "cause" "Ljava/lang/Throwable;", .lays X Bundle.tN "stackTrace" Bundle.steD, .lays X Bundle.tN "suppressedExceptions" Bundle.listD, .lays X Bundle.tN "detailMessage" "Ljava/lang/String;",
   .isRef (.static Bundle.tN "UNASSIGNED_STACK" Bundle.steD), .isRef (.static Bundle.tN "SUPPRESSED_SENTINEL" Bundle.listD),
   .fieldLink Bundle.tN 198 Bundle.tN "backtrace" "Ljava/lang/Object;", .lays Bundle.tN Bundle.tN "backtrace" "Ljava/lang/Object;", .lays X Bundle.tN "backtrace" "Ljava/lang/Object;"])))
set_option maxHeartbeats 4000000 in
theorem xctorS (X : Stand p l e R s m args below meth c V [] cells slots) (hexec : p.tables.exec = Jvm.exec) (htr : e.platform.stackTraces = false) {own cls Y1 : String} {names : List String} {ic ix : Nat} {bytes : ByteArray}
    (b0 : decode bytes 0 = .ok (.aload_n 0, 1)) (b1 : decode bytes 1 = .ok (.aload_n 1, 1)) (b2 : decode bytes 2 = .ok (.invokespecial ix, 3)) (b5 : decode bytes 5 = .ok (.return_, 1))
    (hown : s.vm.findClass own = some m.cls) (hcls : Bundle.fit cls = true) (hY1 : Bundle.fit Y1 = true) (hnames : ∀ n ∈ names, Bundle.fit n = true)
    (h : ∀ w ∈ xatoms own ic cls Y1 ix bytes names, w.before args s = true)
    {a : Addr} {cX : ClassId} {kX : Class} (hfoundX : s.vm.findClass cls = some cX) (hkX : s.vm.classes[cX]? = some kX) (hcell : V.heap[a]? = some (freshCell cX kX)) (hnew : s.heap.size ≤ a)
    {msg : Value} (hmsg : msg.isRef = true) {g : JFrame} (hg : g.method = m) (hsize : g.locals.size = c.maxLocals) (hlocked : g.locked = none) (hentered : g.entered = []) {rest : List Value} (hstack : g.stack = msg :: .ref a :: .ref a :: rest)
    (hd6 : decode c.code g.pc = .ok (.invokespecial ic, 3)) (hd9 : decode c.code (g.pc + 3) = .ok (.athrow, 1)) (hout : ∀ x ∈ c.exceptionTable.toList, covers x (g.pc + 3) = false)
    (hRframes : names.length + 4 < R.frames) (hRlocals : 2 * g.monitorRoom + ((Value.ref a :: rest).map fun v => v.category).sum + (13 * (names.length + 2) + 42) ≤ R.locals) (hlocks : meth.locks = false) :
    ∃ U : State, Steps p.tables e below (V.setTop g) U ∧ U.status = .running ∧ Ended U below (.threw a) ∧ s.WarmedH U.vm ∧ s.sameButNew ({ U with vm := s.vm } : State) [] cells slots ∧
      ∃ ce : Cell, U.heap[a]? = some ce ∧ ce.vm = .none ∧ s.vm.findClass cls = some ce.cls := by
  have howns : e.platform.frameOwnsMonitors = true := by rw [X.admits.platform]
  have hfin : e.platform.finalization = false := by rw [X.admits.platform]
  have hpl : e.platform.magicAccessors = ({} : Platform).magicAccessors := by rw [X.admits.platform]
  obtain ⟨T, Z0, L, -, Y⟩ := ThrowableC.of_atoms (args := args) howns hfin hpl (fun w hw => h w (by simp [xatoms, hw]))
  obtain ⟨Z, M, LZ, LM, hnZ⟩ := Init0T.ofS_atoms (args := args) hpl L Y (fun w hw => h w (by simp [xatoms, hw]))
  obtain ⟨P2, Ps, hlen, L2, hL, hP2m, hlink2, hlink⟩ := Bundle.chainS (args := args) hpl hnZ names Y1 hY1 hnames (fun w hw => h w (by simp [xatoms, hw]))
  obtain ⟨P1, L1, hP1m, hP1s⟩ := PassC.ofS_atoms (args := args) (s := s) hpl (X := cls) (Y := Y1) (Bundle.fit_spec hcls).1 (Bundle.fit_spec hY1).2 b0 b1 b2 b5 (fun w hw => h w (by simp [xatoms, hw]))
  have hlink1 : P1.sup = P2.m := Option.some.inj (hP1s.symm.trans hP2m)
  have hfound : s.vm.findClass cls = some P1.m.cls := findClass_of_methodNamed hP1m
  cases Option.some.inj (hfoundX.symm.trans hfound)
  obtain ⟨c1, kX', hc1, hk, hord, -, -, hn6⟩ := Cond.instantiable_spec (h (.instantiable cls 6) (by simp [xatoms]))
  cases Option.some.inj (hc1.symm.trans hfound)
  cases Option.some.inj (hkX.symm.trans hk)
  have hsel0 : selectMethod e.platform s.vm P1.m.cls T.fill0 = .method T.fill0 := by
    obtain ⟨c2, r2, m2, q1, q2, q3, q4, -⟩ := Cond.selects_spec (h (.selects cls Bundle.tFill0 Bundle.tFill0) (by simp [xatoms]))
    cases Option.some.inj (q1.symm.trans hfound)
    cases Option.some.inj (q2.symm.trans (State.methodFound?_of_named Y.fill0 (by decide)))
    cases Option.some.inj (q3.symm.trans Y.fill0)
    rw [Launch.admits_selectMethod X.admits]; exact q4
  have hselF : selectMethod e.platform s.vm P1.m.cls T.fill = .method T.fill := by
    obtain ⟨c2, r2, m2, q1, q2, q3, q4, -⟩ := Cond.selects_spec (h (.selects cls Bundle.tFill Bundle.tFill) (by simp [xatoms]))
    cases Option.some.inj (q1.symm.trans hfound)
    cases Option.some.inj (q2.symm.trans (State.methodFound?_of_named Y.fill (by decide)))
    cases Option.some.inj (q3.symm.trans Y.fill)
    rw [Launch.admits_selectMethod X.admits]; exact q4
  obtain ⟨cellS0, hcS0, hiss⟩ := Y.statics
  obtain ⟨u0, hu0⟩ := Cond.staticRefV Y.unassigned L.unassignedStatic L.statics hcS0 hiss (h (.isRef (.static Bundle.tN "UNASSIGNED_STACK" Bundle.steD)) (by simp [xatoms]))
  obtain ⟨sen, hsen⟩ := Cond.staticRefV Y.sentinel L.sentinelStatic L.statics hcS0 hiss (h (.isRef (.static Bundle.tN "SUPPRESSED_SENTINEL" Bundle.listD)) (by simp [xatoms]))
  obtain ⟨ci198, i198, fB, hk198, hg198, ha198, hsB, -, hnB, htB, hffB⟩ := Cond.ownField (t := .object "java/lang/Object") Y.found L.cls (by decide +kernel) (h (.fieldLink Bundle.tN 198 Bundle.tN "backtrace" "Ljava/lang/Object;") (by simp [xatoms])) (h (.lays Bundle.tN Bundle.tN "backtrace" "Ljava/lang/Object;") (by simp [xatoms])) e.platform hpl
  obtain ⟨cellS, hcS', heS, -, hkeep⟩ := X.same.2.2.2.2.2 T.aS cellS0 hcS0
  have hcellS : V.heap[T.aS]? = some cellS := hcS'
  have hout' : ∀ i, (⟨T.aS, i⟩ : Loc) ∉ ([] : List Loc) := fun i hm => nomatch hm
  have hknownS : cellS.vm ≠ .unknown := by
    rw [heS]; intro hu
    rw [show cellS0.vm = .unknown from hu] at hiss
    cases hiss
  have hneS : T.aS ≠ a := Nat.ne_of_lt (Nat.lt_of_lt_of_le (Array.getElem?_eq_some_iff.mp hcS0).1 hnew)
  obtain ⟨iM, hffM⟩ := Y.msg
  obtain ⟨tyC, dC, hdC, hdnC⟩ := Cond.laysAt hfound hk Y.cause (h (.lays cls Bundle.tN "cause" "Ljava/lang/Throwable;") (by simp [xatoms]))
  obtain ⟨tyS, dS, hdS, hdnS⟩ := Cond.laysAt hfound hk Y.stack (h (.lays cls Bundle.tN "stackTrace" Bundle.steD) (by simp [xatoms]))
  obtain ⟨tyP, dP, hdP, hdnP⟩ := Cond.laysAt hfound hk Y.supp (h (.lays cls Bundle.tN "suppressedExceptions" Bundle.listD) (by simp [xatoms]))
  obtain ⟨tyM, dM, hdM, hdnM⟩ := Cond.laysAt hfound hk hffM (h (.lays cls Bundle.tN "detailMessage" "Ljava/lang/String;") (by simp [xatoms]))
  obtain ⟨tyB, dB, hdB, hdnB⟩ := Cond.laysAt hfound hk hffB (h (.lays cls Bundle.tN "backtrace" "Ljava/lang/Object;") (by simp [xatoms]))
  have bC := Cond.laysApart hdB hdC hdnB hdnC (by rw [hnB, Y.causeName]; decide)
  have bS := Cond.laysApart hdB hdS hdnB hdnS (by rw [hnB, Y.stackName]; decide)
  have bP := Cond.laysApart hdB hdP hdnB hdnP (by rw [hnB, Y.suppName]; decide)
  have hskip : SkipFacts T e.platform s (fun u => u) u0 ((preparedCellV T.toThrowableT (freshCell P1.m.cls kX) a u0 sen).withEntry V.cur) :=
    ⟨{ ci198 := ci198, i198 := i198, fBack := fB }, ⟨hk198, hg198, ha198, hsB⟩, by
      have h9 := fresh_default (c := P1.m.cls) tyB
      rw [htB] at h9
      simpa [preparedCellV, Cell.setSlot, Cell.withEntry, Array.getElem?_setIfInBounds, bC, bS, bP, bC.symm, bS.symm, bP.symm, defaultValue] using h9, fun _ _ => rfl⟩
  obtain ⟨tm, methC, cdC, kC, vm₁, hnC, -, -, -, -, -, -, -, hW₁, st1⟩ := Steps.initColdS (tb := p.tables) (e := e) (below := below) (s := s) (U := V) X.here hexec X.warmed hpl hown (t := Bundle.initS cls) rfl rfl (Bundle.fit_spec hcls).2
    (h (.methodLink own ic (Bundle.initS cls)) (by simp [xatoms])) (h (.instanceMethod (Bundle.initS cls)) (by simp [xatoms, Bundle.passSAtoms])) (bytes := bytes) (maxL := 2) (h (.code (Bundle.initS cls) bytes 2 none) (by simp [xatoms, Bundle.passSAtoms]))
    (f := g) hg (a := a) (msg := msg) (rest := .ref a :: rest) hstack hd6
  cases Option.some.inj (hnC.symm.trans hP1m)
  have X₁ := X.noted hW₁
  obtain ⟨vm₂, X₂, st2⟩ := X₁.ctorMessageOffV hexec (g := { g with stack := .ref a :: rest }) hg hsize T L Z LZ M LM (P1 :: P2 :: Ps)
    (fun P hP => by rcases List.mem_cons.mp hP with rfl | hP; exact L1; rcases List.mem_cons.mp hP with rfl | hP; exact L2; exact hL P hP) ⟨hlink1, hlink2, hlink⟩ (u0 := u0) (sen := sen) (self := a) hmsg (cell := freshCell P1.m.cls kX) (cellS := cellS)
    hcell (fun _ => by simp) (by simp) rfl rfl hsel0 hselF hcellS hneS hknownS (by rw [hkeep _ (hout' _)]; exact hu0) (by rw [hkeep _ (hout' _)]; exact hsen)
    (Takes.of_laid hk hord tyC (by rw [Y.causeType]; rfl)) (Takes.of_laid hk hord tyS (by rw [Y.stackType]; exact fits_refV_array _ u0)) (Takes.of_laid hk hord tyP (by rw [Y.suppType]; exact fits_refV_object _ sen))
    (Takes.of_laid hk hord tyM (by rw [Y.msgType]; exact fits_refV_object _ ⟨msg, hmsg⟩)) Y.objLocals hskip htr [] hd6
    (by simp only [List.length_cons, hlen]; omega) (by simp only [List.length_cons, hlen]; exact hRlocals)
  obtain ⟨hwalk, hrun, hended, hWU, hsame⟩ := X₂.athrowLeaves hexec (g := { g with stack := .ref a :: rest, pc := g.pc + 3 }) hg hlocked hentered hout (a := a) (rest := rest) rfl hd9
  have hlt : a < ((V.setVm vm₁).setVm vm₂).heap.size := (Array.getElem?_eq_some_iff.mp hcell).1
  have hU := heapAt_setCell_self (s := (V.setVm vm₁).setVm vm₂) (plainBareV T.toThrowableT (freshCell P1.m.cls kX) a u0 sen msg) hlt
  refine ⟨_, st1 _ (fun acts => ?_), hrun, hended, hWU, hsame.weaken (fun y hy hlt' => ?_) (Nat.le_refl _) (Nat.le_refl _), _, hU, rfl, hfound⟩
  · rw [doInvoke_state]
    exact st2 _ hwalk
  · exfalso
    have hb : y.base = a := by
      rw [List.nil_append] at hy
      simp only [List.mem_cons, List.not_mem_nil, or_false] at hy
      rcases hy with rfl | rfl | rfl | rfl | rfl <;> rfl
    rw [hb] at hlt'
    exact Nat.not_lt.mpr hnew hlt'
theorem xwordsN {own cls Y1 : String} {ic ix : Nat} {bytes : ByteArray} {names : List String} {a : Array Value} (hE : xE s) (hst : xSt s) (h : ((xatoms own ic cls Y1 ix bytes names).filter xno).all (fun w => decide (w ∈ lw_tbl) && xok w) = true) : ∀ w ∈ xatoms own ic cls Y1 ix bytes names, w.before a s = true := by
  intro w hw
  by_cases e1 : w = .isRef (.static Bundle.tN "UNASSIGNED_STACK" Bundle.steD)
  · rw [e1]; exact hst.1.isr
  · by_cases e2 : w = .isRef (.static Bundle.tN "SUPPRESSED_SENTINEL" Bundle.listD)
    · rw [e2]; exact hst.2.isr
    · by_cases e3 : w = .laysStatic Bundle.tN "UNASSIGNED_STACK" Bundle.steD
      · rw [e3]; exact hst.1.lays
      · by_cases e4 : w = .laysStatic Bundle.tN "SUPPRESSED_SENTINEL" Bundle.listD
        · rw [e4]; exact hst.2.lays
        · have hx : xno w = true := by
            unfold xno
            rw [decide_eq_true e1, decide_eq_true e2, decide_eq_true e3, decide_eq_true e4]; rfl
          have h1 := List.all_eq_true.mp h w (List.mem_filter.mpr ⟨hw, hx⟩)
          simp only [Bool.and_eq_true, decide_eq_true_eq] at h1
          exact hE w h1.1 h1.2 a
theorem xthrowN {pc : Nat} {ls : Array Slot} {rest : List Value} {Qc : Array Value → State → Outcome → State → Prop} {cc bytes : ByteArray} {own cls Y1 text : String} {names : List String} {ik is ic ix sa : Nat} (hx : p.tables.exec = Jvm.exec) (hb : c.code = cc) (hl : l.stackTraces = false) (hown : s.vm.findClass own = some m.cls) (hE : xE s) (hst : xSt s)
    (b0 : decode bytes 0 = .ok (.aload_n 0, 1)) (b1 : decode bytes 1 = .ok (.aload_n 1, 1)) (b2 : decode bytes 2 = .ok (.invokespecial ix, 3)) (b5 : decode bytes 5 = .ok (.return_, 1))
    (hcls : Bundle.fit cls = true) (hY1 : Bundle.fit Y1 = true) (hnames : ∀ n ∈ names, Bundle.fit n = true) (hw : ((xatoms own ic cls Y1 ix bytes names).filter xno).all (fun w => decide (w ∈ lw_tbl) && xok w) = true) (wk : Cond.classLink own ik cls ∈ lw_tbl) (wn : Cond.initialized cls ∈ lw_tbl) (hstr : vk_R own is text sa s)
    (hno : ∀ x ∈ c.exceptionTable.toList, False) (hlocks : meth.locks = false) (hsize : ls.size = c.maxLocals)
    (d0 : decode cc pc = .ok (.new ik, 3)) (d3 : decode cc (pc + 3) = .ok (.dup, 1)) (d4 : decode cc (pc + 4) = .ok (.ldc is, 2)) (d6 : decode cc (pc + 6) = .ok (.invokespecial ic, 3)) (d9 : decode cc (pc + 9) = .ok (.athrow, 1))
    (hRframes : names.length + 4 < R.frames) (hRlocals : (rest.map fun v => v.category).sum + (13 * (names.length + 2) + 43) ≤ R.locals) (hRcells : 1 ≤ R.cells) (hRslots : 6 ≤ R.slots)
    (hq : ∀ (q : Addr) (t : State), xThr cls s q t → Qc args s (.threw q) t) :
    W p l e R s m args below meth c s.heap [] 0 0 (xMQ below Qc args s 1 6 (fun _ => False)) (F0 m pc ls rest) := by
  have hwords : ∀ w ∈ xatoms own ic cls Y1 ix bytes names, w.before args s = true := xwordsN hE hst hw
  have hins : (Cond.instantiable cls 6).before args s = true := hwords _ (by simp [xatoms])
  refine W.newc (C := cls) (n := 6) hx hb hown (hE _ wk rfl args) hins (hE _ wn rfl args) rfl d0 (by omega) (by omega) (fun cX kX hfX hkX hord hn6 => ?_)
  refine W.eq (g2 := F0 m (pc + 3) ls (.ref s.heap.size :: rest)) rfl ?_
  refine lv_dup hx hb d3 rfl ?_
  refine va_ldcS hx hb hown hstr d4 ?_
  intro T hT X
  have htr : e.platform.stackTraces = false := (show e.platform.stackTraces = l.stackTraces by rw [X.admits.platform]).trans hl
  have hcat : (Value.ref s.heap.size).category = 1 := rfl
  obtain ⟨U, hsteps, hrun, hend, hW, hsm, ce, hce, hcv, hcc⟩ := xctorS X hx htr (own := own) (cls := cls) (Y1 := Y1) (names := names) (ic := ic) b0 b1 b2 b5 hown hcls hY1 hnames hwords hfX hkX (a := s.heap.size) (by rw [hT]; first | exact Array.getElem?_push_size | simp [freshCell]) (Nat.le_refl _) (msg := .ref sa) rfl
    (g := F0 m (pc + 6) ls (.ref sa :: .ref s.heap.size :: .ref s.heap.size :: rest)) rfl hsize rfl rfl (rest := rest) rfl (by rw [hb]; exact d6) (by rw [hb]; exact d9) (fun x hx => (hno x hx).elim) hRframes (by
      show 2 * 0 + ((Value.ref s.heap.size :: rest).map fun v => v.category).sum + (13 * (names.length + 2) + 42) ≤ R.locals
      simp only [List.map_cons, List.sum_cons, hcat]; omega) hlocks
  obtain ⟨k1, k2⟩ := xsame hsm
  exact ⟨U, hsteps, .threw s.heap.size, hrun, hend, hq _ U ⟨ce, hce, hcv, hcc, k1, k2⟩, hW, [], hsm, fun _ h => nomatch h⟩
end XN
end
section
/-! The world: the class's cells, the reference's cells, the law's own answer; their state as functions. -/
abbrev xT : Type := (Nat → Nat → Int32) × (Nat → Int32)
/-- array j gets v at i -/
def xs (t : xT) (j i : Nat) (v : Int32) : xT := (fun z => if z = j then upd (t.1 j) i v else t.1 z, t.2)
/-- number j becomes v -/
def xn (t : xT) (j : Nat) (v : Int32) : xT := (t.1, fun z => if z = j then v else t.2 z)
def xw (q : Nat → Nat) (k : Nat → ClassId) (a b : xT) (o : Nat → Int64) : va_W := [(q 0, .inr (4, [.ref (q 1), .ref (q 2), .ref (q 3), .ref (q 4)])),
  (q 1, .inr (3, [.ref (q 5), .ref (q 6), .ref (q 7)])),
  (q 2, .inr (1, [.ref (q 8), .ref (q 9), .ref (q 10), .ref (q 11), .ref (q 12), .ref (q 13), .ref (q 14), .int (a.2 0)])),
  (q 3, .inr (2, [.ref (q 15), .ref (q 16), .ref (q 17), .ref (q 18), .int (a.2 1)])),
  (q 4, .inr (0, [.ref (q 19), .ref (q 20), .ref (q 21), .ref (q 22), .int (a.2 2)])),
  (q 5, .inl (k 1, 240, .inl (a.1 0))),
  (q 6, .inl (k 0, 240, .inl (a.1 1))),
  (q 7, .inl (k 0, 240, .inl (a.1 2))),
  (q 8, .inl (k 0, 60, .inl (a.1 3))),
  (q 9, .inl (k 0, 60, .inl (a.1 4))),
  (q 10, .inl (k 0, 60, .inl (a.1 5))),
  (q 11, .inl (k 0, 60, .inl (a.1 6))),
  (q 12, .inl (k 1, 60, .inl (a.1 7))),
  (q 13, .inl (k 1, 60, .inl (a.1 8))),
  (q 14, .inl (k 0, 60, .inl (a.1 9))),
  (q 15, .inl (k 0, 40, .inl (a.1 10))),
  (q 16, .inl (k 0, 40, .inl (a.1 11))),
  (q 17, .inl (k 0, 40, .inl (a.1 12))),
  (q 18, .inl (k 1, 40, .inl (a.1 13))),
  (q 19, .inl (k 0, 200, .inl (a.1 14))),
  (q 20, .inl (k 0, 200, .inl (a.1 15))),
  (q 21, .inl (k 0, 200, .inl (a.1 16))),
  (q 22, .inl (k 0, 200, .inl (a.1 17))),
  (q 23, .inr (5, [.int (b.2 0), .ref (q 24), .ref (q 25), .ref (q 26), .int (b.2 1), .ref (q 27), .ref (q 28), .ref (q 29), .ref (q 30), .ref (q 31), .ref (q 32), .ref (q 33), .int (b.2 2), .ref (q 34), .ref (q 35), .ref (q 36), .ref (q 37), .int (b.2 3), .ref (q 38)])),
  (q 24, .inl (k 1, 240, .inl (b.1 0))),
  (q 25, .inl (k 0, 240, .inl (b.1 1))),
  (q 26, .inl (k 0, 240, .inl (b.1 2))),
  (q 27, .inl (k 0, 60, .inl (b.1 3))),
  (q 28, .inl (k 0, 60, .inl (b.1 4))),
  (q 29, .inl (k 0, 60, .inl (b.1 5))),
  (q 30, .inl (k 0, 60, .inl (b.1 6))),
  (q 31, .inl (k 1, 60, .inl (b.1 7))),
  (q 32, .inl (k 1, 60, .inl (b.1 8))),
  (q 33, .inl (k 1, 60, .inl (b.1 9))),
  (q 34, .inl (k 0, 40, .inl (b.1 10))),
  (q 35, .inl (k 0, 40, .inl (b.1 11))),
  (q 36, .inl (k 0, 40, .inl (b.1 12))),
  (q 37, .inl (k 1, 40, .inl (b.1 13))),
  (q 38, .inl (k 0, 800, .inl (b.1 14))),
  (q 39, .inl (k 2, 1, .inr (.inl o)))]
abbrev xty (k : Nat → ClassId) : List (ClassId × FieldType) := [(k 0, .int), (k 1, .boolean), (k 2, .long)]
theorem xw_n2_7 {q : Nat → Nat} {k : Nat → ClassId} {a b : xT} {o : Nat → Int64} {v : Int32} : (xw q k a b o).set 2 (q 2, .inr (1, List.set [.ref (q 8), .ref (q 9), .ref (q 10), .ref (q 11), .ref (q 12), .ref (q 13), .ref (q 14), .int (a.2 0)] 7 (.int v))) = xw q k (xn a 0 v) b o := rfl
theorem xw_n3_4 {q : Nat → Nat} {k : Nat → ClassId} {a b : xT} {o : Nat → Int64} {v : Int32} : (xw q k a b o).set 3 (q 3, .inr (2, List.set [.ref (q 15), .ref (q 16), .ref (q 17), .ref (q 18), .int (a.2 1)] 4 (.int v))) = xw q k (xn a 1 v) b o := rfl
theorem xw_n4_4 {q : Nat → Nat} {k : Nat → ClassId} {a b : xT} {o : Nat → Int64} {v : Int32} : (xw q k a b o).set 4 (q 4, .inr (0, List.set [.ref (q 19), .ref (q 20), .ref (q 21), .ref (q 22), .int (a.2 2)] 4 (.int v))) = xw q k (xn a 2 v) b o := rfl
theorem xw_s5 {q : Nat → Nat} {k : Nat → ClassId} {a b : xT} {o : Nat → Int64} {i : Nat} {v : Int32} : (xw q k a b o).set 5 (q 5, .inl (k 1, 240, .inl (upd (a.1 0) i v))) = xw q k (xs a 0 i v) b o := rfl
theorem xw_s6 {q : Nat → Nat} {k : Nat → ClassId} {a b : xT} {o : Nat → Int64} {i : Nat} {v : Int32} : (xw q k a b o).set 6 (q 6, .inl (k 0, 240, .inl (upd (a.1 1) i v))) = xw q k (xs a 1 i v) b o := rfl
theorem xw_s7 {q : Nat → Nat} {k : Nat → ClassId} {a b : xT} {o : Nat → Int64} {i : Nat} {v : Int32} : (xw q k a b o).set 7 (q 7, .inl (k 0, 240, .inl (upd (a.1 2) i v))) = xw q k (xs a 2 i v) b o := rfl
theorem xw_s8 {q : Nat → Nat} {k : Nat → ClassId} {a b : xT} {o : Nat → Int64} {i : Nat} {v : Int32} : (xw q k a b o).set 8 (q 8, .inl (k 0, 60, .inl (upd (a.1 3) i v))) = xw q k (xs a 3 i v) b o := rfl
theorem xw_s9 {q : Nat → Nat} {k : Nat → ClassId} {a b : xT} {o : Nat → Int64} {i : Nat} {v : Int32} : (xw q k a b o).set 9 (q 9, .inl (k 0, 60, .inl (upd (a.1 4) i v))) = xw q k (xs a 4 i v) b o := rfl
theorem xw_s10 {q : Nat → Nat} {k : Nat → ClassId} {a b : xT} {o : Nat → Int64} {i : Nat} {v : Int32} : (xw q k a b o).set 10 (q 10, .inl (k 0, 60, .inl (upd (a.1 5) i v))) = xw q k (xs a 5 i v) b o := rfl
theorem xw_s11 {q : Nat → Nat} {k : Nat → ClassId} {a b : xT} {o : Nat → Int64} {i : Nat} {v : Int32} : (xw q k a b o).set 11 (q 11, .inl (k 0, 60, .inl (upd (a.1 6) i v))) = xw q k (xs a 6 i v) b o := rfl
theorem xw_s12 {q : Nat → Nat} {k : Nat → ClassId} {a b : xT} {o : Nat → Int64} {i : Nat} {v : Int32} : (xw q k a b o).set 12 (q 12, .inl (k 1, 60, .inl (upd (a.1 7) i v))) = xw q k (xs a 7 i v) b o := rfl
theorem xw_s13 {q : Nat → Nat} {k : Nat → ClassId} {a b : xT} {o : Nat → Int64} {i : Nat} {v : Int32} : (xw q k a b o).set 13 (q 13, .inl (k 1, 60, .inl (upd (a.1 8) i v))) = xw q k (xs a 8 i v) b o := rfl
theorem xw_s14 {q : Nat → Nat} {k : Nat → ClassId} {a b : xT} {o : Nat → Int64} {i : Nat} {v : Int32} : (xw q k a b o).set 14 (q 14, .inl (k 0, 60, .inl (upd (a.1 9) i v))) = xw q k (xs a 9 i v) b o := rfl
theorem xw_s15 {q : Nat → Nat} {k : Nat → ClassId} {a b : xT} {o : Nat → Int64} {i : Nat} {v : Int32} : (xw q k a b o).set 15 (q 15, .inl (k 0, 40, .inl (upd (a.1 10) i v))) = xw q k (xs a 10 i v) b o := rfl
theorem xw_s16 {q : Nat → Nat} {k : Nat → ClassId} {a b : xT} {o : Nat → Int64} {i : Nat} {v : Int32} : (xw q k a b o).set 16 (q 16, .inl (k 0, 40, .inl (upd (a.1 11) i v))) = xw q k (xs a 11 i v) b o := rfl
theorem xw_s17 {q : Nat → Nat} {k : Nat → ClassId} {a b : xT} {o : Nat → Int64} {i : Nat} {v : Int32} : (xw q k a b o).set 17 (q 17, .inl (k 0, 40, .inl (upd (a.1 12) i v))) = xw q k (xs a 12 i v) b o := rfl
theorem xw_s18 {q : Nat → Nat} {k : Nat → ClassId} {a b : xT} {o : Nat → Int64} {i : Nat} {v : Int32} : (xw q k a b o).set 18 (q 18, .inl (k 1, 40, .inl (upd (a.1 13) i v))) = xw q k (xs a 13 i v) b o := rfl
theorem xw_s19 {q : Nat → Nat} {k : Nat → ClassId} {a b : xT} {o : Nat → Int64} {i : Nat} {v : Int32} : (xw q k a b o).set 19 (q 19, .inl (k 0, 200, .inl (upd (a.1 14) i v))) = xw q k (xs a 14 i v) b o := rfl
theorem xw_s20 {q : Nat → Nat} {k : Nat → ClassId} {a b : xT} {o : Nat → Int64} {i : Nat} {v : Int32} : (xw q k a b o).set 20 (q 20, .inl (k 0, 200, .inl (upd (a.1 15) i v))) = xw q k (xs a 15 i v) b o := rfl
theorem xw_s21 {q : Nat → Nat} {k : Nat → ClassId} {a b : xT} {o : Nat → Int64} {i : Nat} {v : Int32} : (xw q k a b o).set 21 (q 21, .inl (k 0, 200, .inl (upd (a.1 16) i v))) = xw q k (xs a 16 i v) b o := rfl
theorem xw_s22 {q : Nat → Nat} {k : Nat → ClassId} {a b : xT} {o : Nat → Int64} {i : Nat} {v : Int32} : (xw q k a b o).set 22 (q 22, .inl (k 0, 200, .inl (upd (a.1 17) i v))) = xw q k (xs a 17 i v) b o := rfl
theorem xw_n23_0 {q : Nat → Nat} {k : Nat → ClassId} {a b : xT} {o : Nat → Int64} {v : Int32} : (xw q k a b o).set 23 (q 23, .inr (5, List.set [.int (b.2 0), .ref (q 24), .ref (q 25), .ref (q 26), .int (b.2 1), .ref (q 27), .ref (q 28), .ref (q 29), .ref (q 30), .ref (q 31), .ref (q 32), .ref (q 33), .int (b.2 2), .ref (q 34), .ref (q 35), .ref (q 36), .ref (q 37), .int (b.2 3), .ref (q 38)] 0 (.int v))) = xw q k a (xn b 0 v) o := rfl
theorem xw_n23_4 {q : Nat → Nat} {k : Nat → ClassId} {a b : xT} {o : Nat → Int64} {v : Int32} : (xw q k a b o).set 23 (q 23, .inr (5, List.set [.int (b.2 0), .ref (q 24), .ref (q 25), .ref (q 26), .int (b.2 1), .ref (q 27), .ref (q 28), .ref (q 29), .ref (q 30), .ref (q 31), .ref (q 32), .ref (q 33), .int (b.2 2), .ref (q 34), .ref (q 35), .ref (q 36), .ref (q 37), .int (b.2 3), .ref (q 38)] 4 (.int v))) = xw q k a (xn b 1 v) o := rfl
theorem xw_n23_12 {q : Nat → Nat} {k : Nat → ClassId} {a b : xT} {o : Nat → Int64} {v : Int32} : (xw q k a b o).set 23 (q 23, .inr (5, List.set [.int (b.2 0), .ref (q 24), .ref (q 25), .ref (q 26), .int (b.2 1), .ref (q 27), .ref (q 28), .ref (q 29), .ref (q 30), .ref (q 31), .ref (q 32), .ref (q 33), .int (b.2 2), .ref (q 34), .ref (q 35), .ref (q 36), .ref (q 37), .int (b.2 3), .ref (q 38)] 12 (.int v))) = xw q k a (xn b 2 v) o := rfl
theorem xw_n23_17 {q : Nat → Nat} {k : Nat → ClassId} {a b : xT} {o : Nat → Int64} {v : Int32} : (xw q k a b o).set 23 (q 23, .inr (5, List.set [.int (b.2 0), .ref (q 24), .ref (q 25), .ref (q 26), .int (b.2 1), .ref (q 27), .ref (q 28), .ref (q 29), .ref (q 30), .ref (q 31), .ref (q 32), .ref (q 33), .int (b.2 2), .ref (q 34), .ref (q 35), .ref (q 36), .ref (q 37), .int (b.2 3), .ref (q 38)] 17 (.int v))) = xw q k a (xn b 3 v) o := rfl
theorem xw_s24 {q : Nat → Nat} {k : Nat → ClassId} {a b : xT} {o : Nat → Int64} {i : Nat} {v : Int32} : (xw q k a b o).set 24 (q 24, .inl (k 1, 240, .inl (upd (b.1 0) i v))) = xw q k a (xs b 0 i v) o := rfl
theorem xw_s25 {q : Nat → Nat} {k : Nat → ClassId} {a b : xT} {o : Nat → Int64} {i : Nat} {v : Int32} : (xw q k a b o).set 25 (q 25, .inl (k 0, 240, .inl (upd (b.1 1) i v))) = xw q k a (xs b 1 i v) o := rfl
theorem xw_s26 {q : Nat → Nat} {k : Nat → ClassId} {a b : xT} {o : Nat → Int64} {i : Nat} {v : Int32} : (xw q k a b o).set 26 (q 26, .inl (k 0, 240, .inl (upd (b.1 2) i v))) = xw q k a (xs b 2 i v) o := rfl
theorem xw_s27 {q : Nat → Nat} {k : Nat → ClassId} {a b : xT} {o : Nat → Int64} {i : Nat} {v : Int32} : (xw q k a b o).set 27 (q 27, .inl (k 0, 60, .inl (upd (b.1 3) i v))) = xw q k a (xs b 3 i v) o := rfl
theorem xw_s28 {q : Nat → Nat} {k : Nat → ClassId} {a b : xT} {o : Nat → Int64} {i : Nat} {v : Int32} : (xw q k a b o).set 28 (q 28, .inl (k 0, 60, .inl (upd (b.1 4) i v))) = xw q k a (xs b 4 i v) o := rfl
theorem xw_s29 {q : Nat → Nat} {k : Nat → ClassId} {a b : xT} {o : Nat → Int64} {i : Nat} {v : Int32} : (xw q k a b o).set 29 (q 29, .inl (k 0, 60, .inl (upd (b.1 5) i v))) = xw q k a (xs b 5 i v) o := rfl
theorem xw_s30 {q : Nat → Nat} {k : Nat → ClassId} {a b : xT} {o : Nat → Int64} {i : Nat} {v : Int32} : (xw q k a b o).set 30 (q 30, .inl (k 0, 60, .inl (upd (b.1 6) i v))) = xw q k a (xs b 6 i v) o := rfl
theorem xw_s31 {q : Nat → Nat} {k : Nat → ClassId} {a b : xT} {o : Nat → Int64} {i : Nat} {v : Int32} : (xw q k a b o).set 31 (q 31, .inl (k 1, 60, .inl (upd (b.1 7) i v))) = xw q k a (xs b 7 i v) o := rfl
theorem xw_s32 {q : Nat → Nat} {k : Nat → ClassId} {a b : xT} {o : Nat → Int64} {i : Nat} {v : Int32} : (xw q k a b o).set 32 (q 32, .inl (k 1, 60, .inl (upd (b.1 8) i v))) = xw q k a (xs b 8 i v) o := rfl
theorem xw_s33 {q : Nat → Nat} {k : Nat → ClassId} {a b : xT} {o : Nat → Int64} {i : Nat} {v : Int32} : (xw q k a b o).set 33 (q 33, .inl (k 1, 60, .inl (upd (b.1 9) i v))) = xw q k a (xs b 9 i v) o := rfl
theorem xw_s34 {q : Nat → Nat} {k : Nat → ClassId} {a b : xT} {o : Nat → Int64} {i : Nat} {v : Int32} : (xw q k a b o).set 34 (q 34, .inl (k 0, 40, .inl (upd (b.1 10) i v))) = xw q k a (xs b 10 i v) o := rfl
theorem xw_s35 {q : Nat → Nat} {k : Nat → ClassId} {a b : xT} {o : Nat → Int64} {i : Nat} {v : Int32} : (xw q k a b o).set 35 (q 35, .inl (k 0, 40, .inl (upd (b.1 11) i v))) = xw q k a (xs b 11 i v) o := rfl
theorem xw_s36 {q : Nat → Nat} {k : Nat → ClassId} {a b : xT} {o : Nat → Int64} {i : Nat} {v : Int32} : (xw q k a b o).set 36 (q 36, .inl (k 0, 40, .inl (upd (b.1 12) i v))) = xw q k a (xs b 12 i v) o := rfl
theorem xw_s37 {q : Nat → Nat} {k : Nat → ClassId} {a b : xT} {o : Nat → Int64} {i : Nat} {v : Int32} : (xw q k a b o).set 37 (q 37, .inl (k 1, 40, .inl (upd (b.1 13) i v))) = xw q k a (xs b 13 i v) o := rfl
theorem xw_s38 {q : Nat → Nat} {k : Nat → ClassId} {a b : xT} {o : Nat → Int64} {i : Nat} {v : Int32} : (xw q k a b o).set 38 (q 38, .inl (k 0, 800, .inl (upd (b.1 14) i v))) = xw q k a (xs b 14 i v) o := rfl
def xstrs : List (String × Nat × String) := [(RX4, 39, "no such quarter"), (RX4, 44, "no such rate"), (RX4, 52, "a frozen slot would be none any more"), (RX4, 67, "scheduled for no minute of the time"), (RX4, 75, "earliest minute out of bounds"), (RX4, 81, "no room for a flight"), (RX4, 122, "airborne, or in no slot"), (RX4, 127, "not two flights of one airline"), (RX4, 129, "one of them is in no slot"), (RX4, 134, "one of them is airborne or cannot use the other's slot"), (RX4, 142, "give and want are the same"), (RX4, 144, "the airline does not own what it gives"), (RX4, 147, "no room for an offer"), (RX4, 150, "no such offer"), (RX4, 187, "no such entry"), (RX4, 200, "an entry has no such part"), (RX4, 202, "no such flight"), (RX4, 204, "no such airline"), (RX4, 211, "no slot at that minute"), (RX4, 217, "cancelled or airborne")]

/-- an index within -/
def xin (i : Int32) (n : Nat) : Bool := decide (¬ (i < 0 ∨ n ≤ i.toNatClampNeg))
def xzb (v : Int32) : Bool := decide (v = 0 ∨ v = 1)
theorem xguard {α : Type} {i : Int32} {n : Nat} {A : Option α} {y : α} (h : (if xin i n = true then A else none) = some y) : vp_in i n ∧ A = some y := by
  by_cases hc : xin i n = true
  · rw [if_pos hc] at h
    exact ⟨of_decide_eq_true (p := ¬ (i < 0 ∨ n ≤ i.toNatClampNeg)) hc, h⟩
  · rw [if_neg hc] at h
    cases h
theorem xguz {α : Type} {v : Int32} {A : Option α} {y : α} (h : (if xzb v = true then A else none) = some y) : narrow .boolean (.int v) = .int v ∧ A = some y := by
  by_cases hc : xzb v = true
  · rw [if_pos hc] at h
    refine ⟨?_, h⟩
    rcases (of_decide_eq_true hc : v = 0 ∨ v = 1) with rfl | rfl <;> rfl
  · rw [if_neg hc] at h
    cases h
theorem xgne {α : Type} {v : Int32} {A : Option α} {y : α} (h : (if v = 0 then none else A) = some y) : ¬ v = 0 ∧ A = some y := by
  by_cases hc : v = 0
  · rw [if_pos hc] at h
    cases h
  · rw [if_neg hc] at h
    exact ⟨hc, h⟩
theorem xbind {α β : Type} {x : Option α} {f : α → Option β} {y : β} (h : x.bind f = some y) : ∃ r, x = some r ∧ f r = some y := by
  cases x with
  | none => cases h
  | some r => exact ⟨r, rfl, h⟩
theorem xinc {n : Int} {v : Int32} (h : Int32.ofInt n = v) (x : Int32) : x + Int32.ofInt n = x + v := by rw [h]
theorem xnp {d : String} {n : Nat} (h : (parseMethodDescriptor d).map (fun d => d.parameters.length) = some n) : ∀ sig, parseMethodDescriptor d = some sig → n = sig.parameters.length := by
  intro sig hs
  rw [hs] at h
  exact (Option.some.inj h).symm
theorem xz0 : narrow .boolean (.int 0) = .int 0 := rfl
theorem xz1 : narrow .boolean (.int 1) = .int 1 := rfl
abbrev xck (y : Option String) : xO := match y with
  | some E => .inl E
  | none => .inr none
abbrev xri (y : String ⊕ Int32) : xO := match y with
  | .inl E => .inl E
  | .inr r => .inr (some (.int r))
/-- what holds at every state of the run: the classes, the words, the literals -/
def xG (D : va_G) (k : Nat → ClassId) (U : State) : Prop := va_K D vwCl (xty k) U ∧ xE U ∧ ∀ z ∈ xstrs, ∃ sa : Nat, vk_R z.1 z.2.1 z.2.2 sa U
theorem xG.warm {D : va_G} {k : Nat → ClassId} {s U : State} (h : xG D k s) (hW : s.WarmedH U.vm) : xG D k U :=
  ⟨va_K.moved hW.alike h.1, h.2.1.warm hW, fun z hz => by
    obtain ⟨sa, hsa⟩ := h.2.2 z hz
    exact ⟨sa, vk_R.warm hW hsa⟩⟩
/-- a method's frame stands: the machine, the code, the class -/
def xCx (p : Program) (s : State) (m : MethodId) (meth : Method) (c : Code) (cc : ByteArray) (nL : Nat) (ret : Option FieldType) (own : String) (D : va_G) (k : Nat → ClassId) : Prop :=
  p.tables.exec = Jvm.exec ∧ c.code = cc ∧ c.maxLocals = nL ∧ meth.sig.returnType = ret ∧ meth.locks = false ∧ s.vm.findClass own = some m.cls ∧ (∀ x ∈ c.exceptionTable.toList, False) ∧ xG D k s
/-- a method's start: it reads; it may throw; it writes -/
def xPc (D : va_G) (q : Nat → Nat) (k : Nat → ClassId) (a b : xT) (o : Nat → Int64) (av : List Value) : Array Value → State → Prop := va_Pc av (fun U => va_P D vwCl (xw q k a b o) U.heap ∧ va_D (fun _ => True) (xw q k a b o) ∧ xG D k U)
def xPcT (D : va_G) (q : Nat → Nat) (k : Nat → ClassId) (a b : xT) (o : Nat → Int64) (av : List Value) : Array Value → State → Prop := va_Pc av (fun U => va_P D vwCl (xw q k a b o) U.heap ∧ va_D (fun _ => True) (xw q k a b o) ∧ xG D k U ∧ xSt U)
def xPcm (D : va_G) (q : Nat → Nat) (k : Nat → ClassId) (sz : Nat) (a b : xT) (o : Nat → Int64) (av : List Value) : Array Value → State → Prop := va_Pc av (fun U => U.heap.size = sz ∧ va_P D vwCl (xw q k a b o) U.heap ∧ va_D (fun _ => True) (xw q k a b o) ∧ xG D k U)
def xPcTm (D : va_G) (q : Nat → Nat) (k : Nat → ClassId) (sz : Nat) (a b : xT) (o : Nat → Int64) (av : List Value) : Array Value → State → Prop := va_Pc av (fun U => U.heap.size = sz ∧ va_P D vwCl (xw q k a b o) U.heap ∧ va_D (fun _ => True) (xw q k a b o) ∧ xG D k U ∧ xSt U)
theorem xG.call {D : va_G} {k : Nat → ClassId} {U : State} {g : JFrame} {mk : MethodId} {a : Array Value} (h : xG D k U) : xG D k (U.calling g mk a) := h.warm (State.WarmedH.refl U)
theorem xSt.call {U : State} {g : JFrame} {mk : MethodId} {a : Array Value} (h : xSt U) : xSt (U.calling g mk a) := h.moved (Vm.Alike.refl U.vm) (fun _ _ hz _ => hz)
section XC
variable {p : Program} {l : Launch} {e : Env} {R : Room} {s : State} {m : MethodId} {args : Array Value} {below : List Frame} {meth : Method} {c : Code} {H : Heap} {locs : List Loc} {cells slots : Nat} {Q : State → Prop}
variable {D : va_G} {q : Nat → Nat} {k : Nat → ClassId} {a b a1 b1 : xT} {o : Nat → Int64} {A : Nat → Prop} {av : List Value} {sz : Nat}
theorem xpre (hP : va_P D vwCl (xw q k a b o) H) (hD : va_D A (xw q k a b o)) (hG : xG D k s) : xPre s H (xPc D q k a b o av) av :=
  ⟨fun _ _ _ _ h => ⟨h.1, h.2.1, h.2.2.1, h.2.2.2.call⟩, fun U hU hW => ⟨rfl, by rw [hU]; exact hP, hD.weaken (fun _ _ _ _ => trivial), hG.warm hW⟩⟩
theorem xprem (hP : va_P D vwCl (xw q k a b o) H) (hD : va_D A (xw q k a b o)) (hG : xG D k s) : xPre s H (xPcm D q k H.size a b o av) av :=
  ⟨fun _ _ _ _ h => ⟨h.1, h.2.1, h.2.2.1, h.2.2.2.1, h.2.2.2.2.call⟩, fun U hU hW => ⟨rfl, by rw [hU], by rw [hU]; exact hP, hD.weaken (fun _ _ _ _ => trivial), hG.warm hW⟩⟩
theorem xpreT (hP : va_P D vwCl (xw q k a b o) s.heap) (hD : va_D A (xw q k a b o)) (hG : xG D k s) (hst : xSt s) : xPre s s.heap (xPcT D q k a b o av) av :=
  ⟨fun _ _ _ _ h => ⟨h.1, h.2.1, h.2.2.1, h.2.2.2.1.call, h.2.2.2.2.call⟩, fun U hU hW => ⟨rfl, by rw [hU]; exact hP, hD.weaken (fun _ _ _ _ => trivial), hG.warm hW, hst.moved hW.alike (fun z cell h _ => by rw [hU]; exact h)⟩⟩
theorem xfixm {y : MethodName} {n index maxL nL : Nat} {cc : ByteArray} {own : String} {rm : Room} (hy : (y.cls ≠ "java/lang/invoke/MethodHandle" ∧ y.cls ≠ "java/lang/invoke/VarHandle") ∧ ∀ sig, parseMethodDescriptor y.desc = some sig → n = sig.parameters.length)
    (hx : p.tables.exec = Jvm.exec) (hb : c.code = cc) (hml : c.maxLocals = nL) (hown : s.vm.findClass own = some m.cls) (h1 : rm.frames + 1 ≤ R.frames) (h2 : 8 + (maxL + 11) + rm.locals ≤ R.locals) (h3 : cells + rm.cells ≤ R.cells) (h4 : slots + rm.slots ≤ R.slots) :
    xFix p R s m c cc nL own y maxL rm index n cells slots := ⟨hx, hb, hml, hown, h1, h2, h3, h4, hy.1, hy.2⟩
/-- the end of a method that writes -/
abbrev xOm : Type := String ⊕ (Option Value × xT × xT)
def xQm (D : va_G) (q : Nat → Nat) (k : Nat → ClassId) (a b : xT) (o : Nat → Int64) (x : xOm) : Array Value → State → Outcome → State → Prop := fun _ st oc t => match x with
  | .inl E => ∃ u, oc = .threw u ∧ xThr E st u t
  | .inr (v, a1, b1) => oc = .returned v ∧ va_P D vwCl (xw q k a1 b1 o) t.heap ∧ va_F (va_A (xw q k a b o) st.heap.size) st t
def xmm (x : xOm) : Nat := match x with | .inl _ => 1 | .inr _ => 0
def xmn (x : xOm) : Nat := match x with | .inl _ => 6 | .inr _ => 0
def xfr (q : Nat → Nat) (k : Nat → ClassId) (a b : xT) (o : Nat → Int64) (sz : Nat) (x : xOm) : Addr → Prop := match x with
  | .inl _ => fun _ => False
  | .inr _ => va_A (xw q k a b o) sz
theorem xwD (h : va_D A (xw q k a b o)) : va_D A (xw q k a1 b1 o) := by
  have hm : (xw q k a1 b1 o).map (fun z => z.1) = (xw q k a b o).map (fun z => z.1) := rfl
  have key : ∀ (i : Nat) (z : Nat × va_E), (xw q k a1 b1 o)[i]? = some z → ∃ w, (xw q k a b o)[i]? = some (z.1, w) := by
    intro i z hz
    have h1 : ((xw q k a1 b1 o).map (fun z => z.1))[i]? = some z.1 := by rw [List.getElem?_map, hz]; rfl
    rw [hm, List.getElem?_map] at h1
    cases hw : (xw q k a b o)[i]? with
    | none => rw [hw] at h1; cases h1
    | some w =>
      rw [hw] at h1
      have h2 : w.1 = z.1 := Option.some.inj h1
      exact ⟨w.2, by rw [← h2]⟩
  refine ⟨fun i j u v hi hj huv => ?_, fun i u hi => ?_⟩
  · obtain ⟨wi, hwi⟩ := key i u hi
    obtain ⟨wj, hwj⟩ := key j v hj
    exact h.1 i j _ _ hwi hwj huv
  · obtain ⟨wi, hwi⟩ := key i u hi
    exact h.2 i (u.1, wi) hwi
variable {pc : Nat} {ls : Array Slot} {st0 rest : List Value} {ar : Array Value}
theorem xgo_m {v : Option Value} {H0 : Heap} (hr : xRun p l e R s m args below meth c H locs cells slots 0 0 (F0 m pc ls st0) rest (xQm D q k a b o (.inr (v, a1, b1)) ar) (va_A (xw q k a b o) H.size)) (hD : va_D A (xw q k a b o)) (hS : va_S A H0 H locs) (hA : ∀ u, H0.size ≤ u → A u)
    (kk : ∀ (H1 : Heap) (locs1 : List Loc), va_P D vwCl (xw q k a1 b1 o) H1 → va_D A (xw q k a1 b1 o) → va_S A H0 H1 locs1 → W p l e R s m args below meth c H1 locs1 cells slots Q (F0 m (pc + 3) ls (v.toList ++ rest))) : W p l e R s m args below meth c H locs cells slots Q (F0 m pc ls st0) := by
  intro T hT X
  obtain ⟨oc, st, t, T', L, h0, hal, X', hL, e1, e2, ⟨rfl, hP1, hz, hk⟩, go⟩ := hr T hT X
  rw [h0] at hz hk
  have hF : ∀ u, va_A (xw q k a b o) H.size u → A u := fun u h => by
    rcases h with ⟨i, w, h⟩ | h
    · exact hD.2 i _ h
    · exact hA u (Nat.le_trans hS.1 h)
  obtain ⟨t2, a2, b2⟩ := kk T'.heap (locs ++ L) (by rw [e1]; exact hP1) (xwD hD)
    ⟨Nat.le_trans hS.1 (by rw [e1]; exact hz), fun u h1 h2 => by rw [e1, hk u (Nat.lt_of_lt_of_le h1 hS.1) (fun h => h2 (hF u h))]; exact hS.2.1 u h1 h2, fun u hu => by
      rcases List.mem_append.mp hu with h | h
      · exact hS.2.2 u h
      · exact hF _ (hL u h)⟩ T' rfl X'
  exact ⟨t2, go t2 a2, b2⟩
theorem xretm_i {cc : ByteArray} {v : Int32} (hx : p.tables.exec = Jvm.exec) (hb : c.code = cc) (hr : meth.sig.returnType = some .int) (hlocks : meth.locks = false) (hP : va_P D vwCl (xw q k a1 b1 o) H) (hS : va_S (va_A (xw q k a b o) s.heap.size) s.heap H locs) (hdg : decode cc pc = .ok (.ireturn, 1)) :
    W p l e R s m args below meth c H locs 0 0 (xMQ below (xQm D q k a b o (.inr (some (.int v), a1, b1))) args s 0 0 (va_A (xw q k a b o) s.heap.size)) (F0 m pc ls [.int v]) :=
  xmono xmq (W.iret hx hb hr (fun t ht _ => ⟨rfl, by rw [ht]; exact hP, hS.F ht⟩) hS.2.2 hdg hlocks)
theorem xretm_z {cc : ByteArray} {v : Int32} (hx : p.tables.exec = Jvm.exec) (hb : c.code = cc) (hr : meth.sig.returnType = some .boolean) (hn : narrow .boolean (.int v) = .int v) (hlocks : meth.locks = false) (hP : va_P D vwCl (xw q k a1 b1 o) H) (hS : va_S (va_A (xw q k a b o) s.heap.size) s.heap H locs) (hdg : decode cc pc = .ok (.ireturn, 1)) :
    W p l e R s m args below meth c H locs 0 0 (xMQ below (xQm D q k a b o (.inr (some (.int v), a1, b1))) args s 0 0 (va_A (xw q k a b o) s.heap.size)) (F0 m pc ls [.int v]) :=
  xmono xmq (W.zret hx hb hr hn (fun t ht _ => ⟨rfl, by rw [ht]; exact hP, hS.F ht⟩) hS.2.2 hdg hlocks)
theorem xretm_v {cc : ByteArray} (hx : p.tables.exec = Jvm.exec) (hb : c.code = cc) (hr : meth.sig.returnType = none) (hlocks : meth.locks = false) (hP : va_P D vwCl (xw q k a1 b1 o) H) (hS : va_S (va_A (xw q k a b o) s.heap.size) s.heap H locs) (hdg : decode cc pc = .ok (.return_, 1)) :
    W p l e R s m args below meth c H locs 0 0 (xMQ below (xQm D q k a b o (.inr (none, a1, b1))) args s 0 0 (va_A (xw q k a b o) s.heap.size)) (F0 m pc ls []) :=
  xmono xmq (W.vret hx hb hr (fun t ht _ => ⟨rfl, by rw [ht]; exact hP, hS.F ht⟩) hS.2.2 hdg hlocks)
/-- past a table of four -/
theorem xswo {x : Int32} (h0 : ¬ x = 0) (h1 : ¬ x = 1) (h2 : ¬ x = 2) (h3 : ¬ x = 3) : x.toInt < 0 ∨ (3 : Int) < x.toInt := by
  have e0 : ¬ x.toInt = 0 := lv_neT h0 rfl
  have e1 : ¬ x.toInt = 1 := lv_neT h1 rfl
  have e2 : ¬ x.toInt = 2 := lv_neT h2 rfl
  have e3 : ¬ x.toInt = 3 := lv_neT h3 rfl
  omega
end XC

theorem okX4 : ∀ w ∈ u_ws RX4 TX4 4, xok w = true := by decide +kernel
theorem hwX4 {s : State} {args : Array Value} (hE : xE s) : ∀ w ∈ u_ws RX4 TX4 4, w.before args s = true := fun w h => hE w (inX4 w h) (okX4 w h) args
theorem okX3 : ∀ w ∈ u_ws RX3 TX3 3, xok w = true := by decide +kernel
theorem hwX3 {s : State} {args : Array Value} (hE : xE s) : ∀ w ∈ u_ws RX3 TX3 3, w.before args s = true := fun w h => hE w (inX3 w h) (okX3 w h) args
theorem okX1 : ∀ w ∈ u_ws RX1 TX1 8, xok w = true := by decide +kernel
theorem hwX1 {s : State} {args : Array Value} (hE : xE s) : ∀ w ∈ u_ws RX1 TX1 8, w.before args s = true := fun w h => hE w (inX1 w h) (okX1 w h) args
theorem okX2 : ∀ w ∈ u_ws RX2 TX2 5, xok w = true := by decide +kernel
theorem hwX2 {s : State} {args : Array Value} (hE : xE s) : ∀ w ∈ u_ws RX2 TX2 5, w.before args s = true := fun w h => hE w (inX2 w h) (okX2 w h) args
theorem okX0 : ∀ w ∈ u_ws RX0 TX0 5, xok w = true := by decide +kernel
theorem hwX0 {s : State} {args : Array Value} (hE : xE s) : ∀ w ∈ u_ws RX0 TX0 5, w.before args s = true := fun w h => hE w (inX0 w h) (okX0 w h) args
theorem okX5 : ∀ w ∈ u_ws RX5 TX5 19, xok w = true := by decide +kernel
theorem hwX5 {s : State} {args : Array Value} (hE : xE s) : ∀ w ∈ u_ws RX5 TX5 19, w.before args s = true := fun w h => hE w (inX5 w h) (okX5 w h) args
end
section
theorem fl_X0_24 : Cond.fieldLink RX0 24 "LandingSlots$Entries" "count" "I" ∈ lw_tbl := List.mem_append_right _ (List.mem_of_getElem? (i := 127) (by decide +kernel))
theorem fl_X0_21 : Cond.fieldLink RX0 21 "LandingSlots$Entries" "to" "[I" ∈ lw_tbl := List.mem_append_right _ (List.mem_of_getElem? (i := 125) (by decide +kernel))
theorem fl_X0_18 : Cond.fieldLink RX0 18 "LandingSlots$Entries" "from" "[I" ∈ lw_tbl := List.mem_append_right _ (List.mem_of_getElem? (i := 123) (by decide +kernel))
theorem fl_X0_15 : Cond.fieldLink RX0 15 "LandingSlots$Entries" "flight" "[I" ∈ lw_tbl := List.mem_append_right _ (List.mem_of_getElem? (i := 121) (by decide +kernel))
theorem fl_X0_9 : Cond.fieldLink RX0 9 "LandingSlots$Entries" "kind" "[I" ∈ lw_tbl := List.mem_append_right _ (List.mem_of_getElem? (i := 119) (by decide +kernel))
theorem fl_X1_31 : Cond.fieldLink RX1 31 "LandingSlots$Flights" "bySchedule" "[I" ∈ lw_tbl := List.mem_append_right _ (List.mem_of_getElem? (i := 65) (by decide +kernel))
theorem fl_X1_15 : Cond.fieldLink RX1 15 "LandingSlots$Flights" "scheduled" "[I" ∈ lw_tbl := List.mem_append_right _ (List.mem_of_getElem? (i := 55) (by decide +kernel))
theorem fx_X1_insertBySchedule : (yX1_insertBySchedule.cls ≠ "java/lang/invoke/MethodHandle" ∧ yX1_insertBySchedule.cls ≠ "java/lang/invoke/VarHandle") ∧ ∀ sig, parseMethodDescriptor yX1_insertBySchedule.desc = some sig → 1 = sig.parameters.length := ⟨⟨by decide +kernel, by decide +kernel⟩, xnp (by decide +kernel)⟩
theorem ml_X1_38 : Cond.methodLink RX1 38 yX1_insertBySchedule ∈ lw_tbl := List.mem_append_right _ (List.mem_of_getElem? (i := 391) (by decide +kernel))
theorem wi_X1_insertBySchedule : Cond.instanceMethod yX1_insertBySchedule ∈ lw_tbl := List.mem_append_right _ (List.mem_of_getElem? (i := 393) (by decide +kernel))
theorem wz_X1_insertBySchedule : Cond.selects RX1 yX1_insertBySchedule yX1_insertBySchedule ∈ lw_tbl := by decide +kernel
theorem wc_X1_insertBySchedule : Cond.code yX1_insertBySchedule cX1_insertBySchedule 3 none ∈ lw_tbl := List.mem_append_right _ (List.mem_of_getElem? (i := 394) (by decide +kernel))
theorem wn_X1 : Cond.initialized RX1 ∈ lw_tbl := List.mem_append_right _ (List.mem_of_getElem? (i := 4) (by decide +kernel))
theorem fl_X1_34 : Cond.fieldLink RX1 34 "LandingSlots$Flights" "count" "I" ∈ lw_tbl := List.mem_append_right _ (List.mem_of_getElem? (i := 67) (by decide +kernel))
theorem fl_X1_21 : Cond.fieldLink RX1 21 "LandingSlots$Flights" "slot" "[I" ∈ lw_tbl := List.mem_append_right _ (List.mem_of_getElem? (i := 59) (by decide +kernel))
theorem fl_X1_18 : Cond.fieldLink RX1 18 "LandingSlots$Flights" "earliest" "[I" ∈ lw_tbl := List.mem_append_right _ (List.mem_of_getElem? (i := 57) (by decide +kernel))
theorem fl_X1_9 : Cond.fieldLink RX1 9 "LandingSlots$Flights" "airline" "[I" ∈ lw_tbl := List.mem_append_right _ (List.mem_of_getElem? (i := 53) (by decide +kernel))
theorem fl_X1_24 : Cond.fieldLink RX1 24 "LandingSlots$Flights" "cancelled" "[Z" ∈ lw_tbl := List.mem_append_right _ (List.mem_of_getElem? (i := 61) (by decide +kernel))
theorem fl_X1_28 : Cond.fieldLink RX1 28 "LandingSlots$Flights" "airborne" "[Z" ∈ lw_tbl := List.mem_append_right _ (List.mem_of_getElem? (i := 63) (by decide +kernel))
theorem fl_X2_25 : Cond.fieldLink RX2 25 "LandingSlots$Offers" "count" "I" ∈ lw_tbl := List.mem_append_right _ (List.mem_of_getElem? (i := 100) (by decide +kernel))
theorem fl_X2_21 : Cond.fieldLink RX2 21 "LandingSlots$Offers" "standing" "[Z" ∈ lw_tbl := List.mem_append_right _ (List.mem_of_getElem? (i := 98) (by decide +kernel))
theorem fl_X2_18 : Cond.fieldLink RX2 18 "LandingSlots$Offers" "want" "[I" ∈ lw_tbl := List.mem_append_right _ (List.mem_of_getElem? (i := 96) (by decide +kernel))
theorem fl_X2_15 : Cond.fieldLink RX2 15 "LandingSlots$Offers" "give" "[I" ∈ lw_tbl := List.mem_append_right _ (List.mem_of_getElem? (i := 94) (by decide +kernel))
theorem fl_X2_9 : Cond.fieldLink RX2 9 "LandingSlots$Offers" "airline" "[I" ∈ lw_tbl := List.mem_append_right _ (List.mem_of_getElem? (i := 92) (by decide +kernel))
theorem fl_X3_9 : Cond.fieldLink RX3 9 "LandingSlots$Slots" "open" "[Z" ∈ lw_tbl := List.mem_append_right _ (List.mem_of_getElem? (i := 33) (by decide +kernel))
theorem fl_X3_15 : Cond.fieldLink RX3 15 "LandingSlots$Slots" "owner" "[I" ∈ lw_tbl := List.mem_append_right _ (List.mem_of_getElem? (i := 34) (by decide +kernel))
theorem fx_X3_isSlot : (yX3_isSlot.cls ≠ "java/lang/invoke/MethodHandle" ∧ yX3_isSlot.cls ≠ "java/lang/invoke/VarHandle") ∧ ∀ sig, parseMethodDescriptor yX3_isSlot.desc = some sig → 1 = sig.parameters.length := ⟨⟨by decide +kernel, by decide +kernel⟩, xnp (by decide +kernel)⟩
theorem ml_X3_28 : Cond.methodLink RX3 28 yX3_isSlot ∈ lw_tbl := List.mem_append_right _ (List.mem_of_getElem? (i := 185) (by decide +kernel))
theorem wi_X3_isSlot : Cond.instanceMethod yX3_isSlot ∈ lw_tbl := List.mem_append_right _ (List.mem_of_getElem? (i := 186) (by decide +kernel))
theorem wz_X3_isSlot : Cond.selects RX3 yX3_isSlot yX3_isSlot ∈ lw_tbl := List.mem_append_right _ (List.mem_of_getElem? (i := 187) (by decide +kernel))
theorem wc_X3_isSlot : Cond.code yX3_isSlot cX3_isSlot 2 (some .boolean) ∈ lw_tbl := List.mem_append_right _ (List.mem_of_getElem? (i := 188) (by decide +kernel))
theorem wn_X3 : Cond.initialized RX3 ∈ lw_tbl := List.mem_append_right _ (List.mem_of_getElem? (i := 2) (by decide +kernel))
theorem fl_X3_19 : Cond.fieldLink RX3 19 "LandingSlots$Slots" "flight" "[I" ∈ lw_tbl := List.mem_append_right _ (List.mem_of_getElem? (i := 36) (by decide +kernel))
theorem fx_X3_isOffsetAtRate : (yX3_isOffsetAtRate.cls ≠ "java/lang/invoke/MethodHandle" ∧ yX3_isOffsetAtRate.cls ≠ "java/lang/invoke/VarHandle") ∧ ∀ sig, parseMethodDescriptor yX3_isOffsetAtRate.desc = some sig → 2 = sig.parameters.length := ⟨⟨by decide +kernel, by decide +kernel⟩, xnp (by decide +kernel)⟩
theorem ml_X3_32 : Cond.methodLink RX3 32 yX3_isOffsetAtRate ∈ lw_tbl := List.mem_append_right _ (List.mem_of_getElem? (i := 368) (by decide +kernel))
theorem wt_X3_isOffsetAtRate : Cond.static yX3_isOffsetAtRate ∈ lw_tbl := List.mem_append_right _ (List.mem_of_getElem? (i := 346) (by decide +kernel))
theorem wc_X3_isOffsetAtRate : Cond.code yX3_isOffsetAtRate cX3_isOffsetAtRate 3 (some .boolean) ∈ lw_tbl := List.mem_append_right _ (List.mem_of_getElem? (i := 347) (by decide +kernel))
set_option maxRecDepth 100000 in
theorem tw_X4_41 : ((Bundle.ownAtoms RX4 41 "java/lang/IllegalArgumentException" ["java/lang/RuntimeException", "java/lang/Exception"]).filter xno).all (fun w => decide (w ∈ lw_tbl) && xok w) = true := by decide +kernel
theorem kl_X4_37 : Cond.classLink RX4 37 "java/lang/IllegalArgumentException" ∈ lw_tbl := List.mem_append_right _ (List.mem_of_getElem? (i := 271) (by decide +kernel))
theorem wn_IllegalArgumentException : Cond.initialized "java/lang/IllegalArgumentException" ∈ lw_tbl := List.mem_append_right _ (List.mem_of_getElem? (i := 11) (by decide +kernel))
theorem fl_X4_19 : Cond.fieldLink RX4 19 "LandingSlots" "flights" "LLandingSlots$Flights;" ∈ lw_tbl := List.mem_append_right _ (List.mem_of_getElem? (i := 141) (by decide +kernel))
theorem fl_X4_77 : Cond.fieldLink RX4 77 "LandingSlots$Flights" "count" "I" ∈ lw_tbl := List.mem_append_right _ (List.mem_of_getElem? (i := 68) (by decide +kernel))
set_option maxRecDepth 100000 in
theorem tw_X4_54 : ((Bundle.ownAtoms RX4 54 "java/lang/IllegalStateException" ["java/lang/RuntimeException", "java/lang/Exception"]).filter xno).all (fun w => decide (w ∈ lw_tbl) && xok w) = true := by decide +kernel
theorem kl_X4_50 : Cond.classLink RX4 50 "java/lang/IllegalStateException" ∈ lw_tbl := List.mem_append_right _ (List.mem_of_getElem? (i := 348) (by decide +kernel))
theorem wn_IllegalStateException : Cond.initialized "java/lang/IllegalStateException" ∈ lw_tbl := List.mem_append_right _ (List.mem_of_getElem? (i := 12) (by decide +kernel))
theorem fx_X4_checkFlight : (yX4_checkFlight.cls ≠ "java/lang/invoke/MethodHandle" ∧ yX4_checkFlight.cls ≠ "java/lang/invoke/VarHandle") ∧ ∀ sig, parseMethodDescriptor yX4_checkFlight.desc = some sig → 1 = sig.parameters.length := ⟨⟨by decide +kernel, by decide +kernel⟩, xnp (by decide +kernel)⟩
theorem ml_X4_87 : Cond.methodLink RX4 87 yX4_checkFlight ∈ lw_tbl := List.mem_append_right _ (List.mem_of_getElem? (i := 402) (by decide +kernel))
theorem wi_X4_checkFlight : Cond.instanceMethod yX4_checkFlight ∈ lw_tbl := List.mem_append_right _ (List.mem_of_getElem? (i := 404) (by decide +kernel))
theorem wz_X4_checkFlight : Cond.selects RX4 yX4_checkFlight yX4_checkFlight ∈ lw_tbl := by decide +kernel
theorem wc_X4_checkFlight : Cond.code yX4_checkFlight cX4_checkFlight 2 none ∈ lw_tbl := List.mem_append_right _ (List.mem_of_getElem? (i := 405) (by decide +kernel))
theorem wn_X4 : Cond.initialized RX4 ∈ lw_tbl := List.mem_append_right _ (List.mem_of_getElem? (i := 1) (by decide +kernel))
theorem fl_X4_119 : Cond.fieldLink RX4 119 "LandingSlots$Flights" "airborne" "[Z" ∈ lw_tbl := List.mem_append_right _ (List.mem_of_getElem? (i := 64) (by decide +kernel))
theorem fl_X4_90 : Cond.fieldLink RX4 90 "LandingSlots$Flights" "slot" "[I" ∈ lw_tbl := List.mem_append_right _ (List.mem_of_getElem? (i := 60) (by decide +kernel))
theorem fx_X1_isPlannable : (yX1_isPlannable.cls ≠ "java/lang/invoke/MethodHandle" ∧ yX1_isPlannable.cls ≠ "java/lang/invoke/VarHandle") ∧ ∀ sig, parseMethodDescriptor yX1_isPlannable.desc = some sig → 1 = sig.parameters.length := ⟨⟨by decide +kernel, by decide +kernel⟩, xnp (by decide +kernel)⟩
theorem ml_X4_214 : Cond.methodLink RX4 214 yX1_isPlannable ∈ lw_tbl := List.mem_append_right _ (List.mem_of_getElem? (i := 173) (by decide +kernel))
theorem wi_X1_isPlannable : Cond.instanceMethod yX1_isPlannable ∈ lw_tbl := List.mem_append_right _ (List.mem_of_getElem? (i := 174) (by decide +kernel))
theorem wz_X1_isPlannable : Cond.selects RX1 yX1_isPlannable yX1_isPlannable ∈ lw_tbl := List.mem_append_right _ (List.mem_of_getElem? (i := 175) (by decide +kernel))
theorem wc_X1_isPlannable : Cond.code yX1_isPlannable cX1_isPlannable 2 (some .boolean) ∈ lw_tbl := List.mem_append_right _ (List.mem_of_getElem? (i := 176) (by decide +kernel))
theorem fl_X4_33 : Cond.fieldLink RX4 33 "LandingSlots" "entries" "LLandingSlots$Entries;" ∈ lw_tbl := List.mem_append_right _ (List.mem_of_getElem? (i := 143) (by decide +kernel))
theorem fx_X0_add : (yX0_add.cls ≠ "java/lang/invoke/MethodHandle" ∧ yX0_add.cls ≠ "java/lang/invoke/VarHandle") ∧ ∀ sig, parseMethodDescriptor yX0_add.desc = some sig → 4 = sig.parameters.length := ⟨⟨by decide +kernel, by decide +kernel⟩, xnp (by decide +kernel)⟩
theorem ml_X4_139 : Cond.methodLink RX4 139 yX0_add ∈ lw_tbl := List.mem_append_right _ (List.mem_of_getElem? (i := 218) (by decide +kernel))
theorem wi_X0_add : Cond.instanceMethod yX0_add ∈ lw_tbl := List.mem_append_right _ (List.mem_of_getElem? (i := 219) (by decide +kernel))
theorem wz_X0_add : Cond.selects RX0 yX0_add yX0_add ∈ lw_tbl := List.mem_append_right _ (List.mem_of_getElem? (i := 220) (by decide +kernel))
theorem wc_X0_add : Cond.code yX0_add cX0_add 5 none ∈ lw_tbl := List.mem_append_right _ (List.mem_of_getElem? (i := 221) (by decide +kernel))
theorem wn_X0 : Cond.initialized RX0 ∈ lw_tbl := List.mem_append_right _ (List.mem_of_getElem? (i := 6) (by decide +kernel))
theorem fl_X4_12 : Cond.fieldLink RX4 12 "LandingSlots" "slots" "LLandingSlots$Slots;" ∈ lw_tbl := List.mem_append_right _ (List.mem_of_getElem? (i := 140) (by decide +kernel))
theorem fl_X4_100 : Cond.fieldLink RX4 100 "LandingSlots$Slots" "flight" "[I" ∈ lw_tbl := List.mem_append_right _ (List.mem_of_getElem? (i := 37) (by decide +kernel))
theorem fx_X4_takeOut : (yX4_takeOut.cls ≠ "java/lang/invoke/MethodHandle" ∧ yX4_takeOut.cls ≠ "java/lang/invoke/VarHandle") ∧ ∀ sig, parseMethodDescriptor yX4_takeOut.desc = some sig → 2 = sig.parameters.length := ⟨⟨by decide +kernel, by decide +kernel⟩, xnp (by decide +kernel)⟩
theorem ml_X4_112 : Cond.methodLink RX4 112 yX4_takeOut ∈ lw_tbl := List.mem_append_right _ (List.mem_of_getElem? (i := 454) (by decide +kernel))
theorem wi_X4_takeOut : Cond.instanceMethod yX4_takeOut ∈ lw_tbl := List.mem_append_right _ (List.mem_of_getElem? (i := 456) (by decide +kernel))
theorem wz_X4_takeOut : Cond.selects RX4 yX4_takeOut yX4_takeOut ∈ lw_tbl := by decide +kernel
theorem wc_X4_takeOut : Cond.code yX4_takeOut cX4_takeOut 4 none ∈ lw_tbl := List.mem_append_right _ (List.mem_of_getElem? (i := 457) (by decide +kernel))
theorem fx_X4_checkPlannable : (yX4_checkPlannable.cls ≠ "java/lang/invoke/MethodHandle" ∧ yX4_checkPlannable.cls ≠ "java/lang/invoke/VarHandle") ∧ ∀ sig, parseMethodDescriptor yX4_checkPlannable.desc = some sig → 1 = sig.parameters.length := ⟨⟨by decide +kernel, by decide +kernel⟩, xnp (by decide +kernel)⟩
theorem ml_X4_106 : Cond.methodLink RX4 106 yX4_checkPlannable ∈ lw_tbl := List.mem_append_right _ (List.mem_of_getElem? (i := 449) (by decide +kernel))
theorem wi_X4_checkPlannable : Cond.instanceMethod yX4_checkPlannable ∈ lw_tbl := List.mem_append_right _ (List.mem_of_getElem? (i := 451) (by decide +kernel))
theorem wz_X4_checkPlannable : Cond.selects RX4 yX4_checkPlannable yX4_checkPlannable ∈ lw_tbl := by decide +kernel
theorem wc_X4_checkPlannable : Cond.code yX4_checkPlannable cX4_checkPlannable 2 none ∈ lw_tbl := List.mem_append_right _ (List.mem_of_getElem? (i := 452) (by decide +kernel))
theorem fl_X4_115 : Cond.fieldLink RX4 115 "LandingSlots$Flights" "cancelled" "[Z" ∈ lw_tbl := List.mem_append_right _ (List.mem_of_getElem? (i := 62) (by decide +kernel))
theorem fl_X4_26 : Cond.fieldLink RX4 26 "LandingSlots" "offers" "LLandingSlots$Offers;" ∈ lw_tbl := List.mem_append_right _ (List.mem_of_getElem? (i := 142) (by decide +kernel))
theorem fl_X4_240 : Cond.fieldLink RX4 240 "LandingSlots$Offers" "want" "[I" ∈ lw_tbl := List.mem_append_right _ (List.mem_of_getElem? (i := 97) (by decide +kernel))
theorem fl_X4_237 : Cond.fieldLink RX4 237 "LandingSlots$Offers" "give" "[I" ∈ lw_tbl := List.mem_append_right _ (List.mem_of_getElem? (i := 95) (by decide +kernel))
theorem fl_X4_152 : Cond.fieldLink RX4 152 "LandingSlots$Offers" "standing" "[Z" ∈ lw_tbl := List.mem_append_right _ (List.mem_of_getElem? (i := 99) (by decide +kernel))
theorem fx_X4_putIn : (yX4_putIn.cls ≠ "java/lang/invoke/MethodHandle" ∧ yX4_putIn.cls ≠ "java/lang/invoke/VarHandle") ∧ ∀ sig, parseMethodDescriptor yX4_putIn.desc = some sig → 2 = sig.parameters.length := ⟨⟨by decide +kernel, by decide +kernel⟩, xnp (by decide +kernel)⟩
theorem ml_X4_136 : Cond.methodLink RX4 136 yX4_putIn ∈ lw_tbl := List.mem_append_right _ (List.mem_of_getElem? (i := 189) (by decide +kernel))
theorem wi_X4_putIn : Cond.instanceMethod yX4_putIn ∈ lw_tbl := List.mem_append_right _ (List.mem_of_getElem? (i := 191) (by decide +kernel))
theorem wz_X4_putIn : Cond.selects RX4 yX4_putIn yX4_putIn ∈ lw_tbl := by decide +kernel
theorem wc_X4_putIn : Cond.code yX4_putIn cX4_putIn 3 none ∈ lw_tbl := List.mem_append_right _ (List.mem_of_getElem? (i := 192) (by decide +kernel))
theorem fl_X4_97 : Cond.fieldLink RX4 97 "LandingSlots$Slots" "owner" "[I" ∈ lw_tbl := List.mem_append_right _ (List.mem_of_getElem? (i := 35) (by decide +kernel))
theorem fx_X1_canUse : (yX1_canUse.cls ≠ "java/lang/invoke/MethodHandle" ∧ yX1_canUse.cls ≠ "java/lang/invoke/VarHandle") ∧ ∀ sig, parseMethodDescriptor yX1_canUse.desc = some sig → 2 = sig.parameters.length := ⟨⟨by decide +kernel, by decide +kernel⟩, xnp (by decide +kernel)⟩
theorem ml_X4_109 : Cond.methodLink RX4 109 yX1_canUse ∈ lw_tbl := List.mem_append_right _ (List.mem_of_getElem? (i := 206) (by decide +kernel))
theorem wi_X1_canUse : Cond.instanceMethod yX1_canUse ∈ lw_tbl := List.mem_append_right _ (List.mem_of_getElem? (i := 207) (by decide +kernel))
theorem wz_X1_canUse : Cond.selects RX1 yX1_canUse yX1_canUse ∈ lw_tbl := List.mem_append_right _ (List.mem_of_getElem? (i := 208) (by decide +kernel))
theorem wc_X1_canUse : Cond.code yX1_canUse cX1_canUse 3 (some .boolean) ∈ lw_tbl := List.mem_append_right _ (List.mem_of_getElem? (i := 209) (by decide +kernel))
theorem ml_X4_206 : Cond.methodLink RX4 206 yX3_isSlot ∈ lw_tbl := List.mem_append_right _ (List.mem_of_getElem? (i := 201) (by decide +kernel))
theorem fl_X4_243 : Cond.fieldLink RX4 243 "LandingSlots$Offers" "airline" "[I" ∈ lw_tbl := List.mem_append_right _ (List.mem_of_getElem? (i := 93) (by decide +kernel))
theorem fx_X4_isFrozen : (yX4_isFrozen.cls ≠ "java/lang/invoke/MethodHandle" ∧ yX4_isFrozen.cls ≠ "java/lang/invoke/VarHandle") ∧ ∀ sig, parseMethodDescriptor yX4_isFrozen.desc = some sig → 1 = sig.parameters.length := ⟨⟨by decide +kernel, by decide +kernel⟩, xnp (by decide +kernel)⟩
theorem ml_X4_219 : Cond.methodLink RX4 219 yX4_isFrozen ∈ lw_tbl := List.mem_append_right _ (List.mem_of_getElem? (i := 165) (by decide +kernel))
theorem wi_X4_isFrozen : Cond.instanceMethod yX4_isFrozen ∈ lw_tbl := List.mem_append_right _ (List.mem_of_getElem? (i := 167) (by decide +kernel))
theorem wz_X4_isFrozen : Cond.selects RX4 yX4_isFrozen yX4_isFrozen ∈ lw_tbl := by decide +kernel
theorem wc_X4_isFrozen : Cond.code yX4_isFrozen cX4_isFrozen 3 (some .boolean) ∈ lw_tbl := List.mem_append_right _ (List.mem_of_getElem? (i := 168) (by decide +kernel))
theorem fx_X4_contentCanUse : (yX4_contentCanUse.cls ≠ "java/lang/invoke/MethodHandle" ∧ yX4_contentCanUse.cls ≠ "java/lang/invoke/VarHandle") ∧ ∀ sig, parseMethodDescriptor yX4_contentCanUse.desc = some sig → 2 = sig.parameters.length := ⟨⟨by decide +kernel, by decide +kernel⟩, xnp (by decide +kernel)⟩
theorem ml_X4_244 : Cond.methodLink RX4 244 yX4_contentCanUse ∈ lw_tbl := List.mem_append_right _ (List.mem_of_getElem? (i := 202) (by decide +kernel))
theorem wi_X4_contentCanUse : Cond.instanceMethod yX4_contentCanUse ∈ lw_tbl := List.mem_append_right _ (List.mem_of_getElem? (i := 204) (by decide +kernel))
theorem wz_X4_contentCanUse : Cond.selects RX4 yX4_contentCanUse yX4_contentCanUse ∈ lw_tbl := by decide +kernel
theorem wc_X4_contentCanUse : Cond.code yX4_contentCanUse cX4_contentCanUse 4 (some .boolean) ∈ lw_tbl := List.mem_append_right _ (List.mem_of_getElem? (i := 205) (by decide +kernel))
theorem fl_X4_146 : Cond.fieldLink RX4 146 "LandingSlots$Offers" "count" "I" ∈ lw_tbl := List.mem_append_right _ (List.mem_of_getElem? (i := 101) (by decide +kernel))
theorem fx_X2_areOpposite : (yX2_areOpposite.cls ≠ "java/lang/invoke/MethodHandle" ∧ yX2_areOpposite.cls ≠ "java/lang/invoke/VarHandle") ∧ ∀ sig, parseMethodDescriptor yX2_areOpposite.desc = some sig → 2 = sig.parameters.length := ⟨⟨by decide +kernel, by decide +kernel⟩, xnp (by decide +kernel)⟩
theorem ml_X4_256 : Cond.methodLink RX4 256 yX2_areOpposite ∈ lw_tbl := List.mem_append_right _ (List.mem_of_getElem? (i := 230) (by decide +kernel))
theorem wi_X2_areOpposite : Cond.instanceMethod yX2_areOpposite ∈ lw_tbl := List.mem_append_right _ (List.mem_of_getElem? (i := 231) (by decide +kernel))
theorem wz_X2_areOpposite : Cond.selects RX2 yX2_areOpposite yX2_areOpposite ∈ lw_tbl := List.mem_append_right _ (List.mem_of_getElem? (i := 232) (by decide +kernel))
theorem wc_X2_areOpposite : Cond.code yX2_areOpposite cX2_areOpposite 3 (some .boolean) ∈ lw_tbl := List.mem_append_right _ (List.mem_of_getElem? (i := 233) (by decide +kernel))
theorem wn_X2 : Cond.initialized RX2 ∈ lw_tbl := List.mem_append_right _ (List.mem_of_getElem? (i := 5) (by decide +kernel))
theorem fx_X4_isGood : (yX4_isGood.cls ≠ "java/lang/invoke/MethodHandle" ∧ yX4_isGood.cls ≠ "java/lang/invoke/VarHandle") ∧ ∀ sig, parseMethodDescriptor yX4_isGood.desc = some sig → 1 = sig.parameters.length := ⟨⟨by decide +kernel, by decide +kernel⟩, xnp (by decide +kernel)⟩
theorem ml_X4_155 : Cond.methodLink RX4 155 yX4_isGood ∈ lw_tbl := List.mem_append_right _ (List.mem_of_getElem? (i := 197) (by decide +kernel))
theorem wi_X4_isGood : Cond.instanceMethod yX4_isGood ∈ lw_tbl := List.mem_append_right _ (List.mem_of_getElem? (i := 199) (by decide +kernel))
theorem wz_X4_isGood : Cond.selects RX4 yX4_isGood yX4_isGood ∈ lw_tbl := by decide +kernel
theorem wc_X4_isGood : Cond.code yX4_isGood cX4_isGood 4 (some .boolean) ∈ lw_tbl := List.mem_append_right _ (List.mem_of_getElem? (i := 200) (by decide +kernel))
theorem fx_X4_partnerOf : (yX4_partnerOf.cls ≠ "java/lang/invoke/MethodHandle" ∧ yX4_partnerOf.cls ≠ "java/lang/invoke/VarHandle") ∧ ∀ sig, parseMethodDescriptor yX4_partnerOf.desc = some sig → 1 = sig.parameters.length := ⟨⟨by decide +kernel, by decide +kernel⟩, xnp (by decide +kernel)⟩
theorem ml_X4_253 : Cond.methodLink RX4 253 yX4_partnerOf ∈ lw_tbl := List.mem_append_right _ (List.mem_of_getElem? (i := 226) (by decide +kernel))
theorem wi_X4_partnerOf : Cond.instanceMethod yX4_partnerOf ∈ lw_tbl := List.mem_append_right _ (List.mem_of_getElem? (i := 228) (by decide +kernel))
theorem wz_X4_partnerOf : Cond.selects RX4 yX4_partnerOf yX4_partnerOf ∈ lw_tbl := by decide +kernel
theorem wc_X4_partnerOf : Cond.code yX4_partnerOf cX4_partnerOf 3 (some .int) ∈ lw_tbl := List.mem_append_right _ (List.mem_of_getElem? (i := 229) (by decide +kernel))
theorem fx_X4_endAsTraded : (yX4_endAsTraded.cls ≠ "java/lang/invoke/MethodHandle" ∧ yX4_endAsTraded.cls ≠ "java/lang/invoke/VarHandle") ∧ ∀ sig, parseMethodDescriptor yX4_endAsTraded.desc = some sig → 1 = sig.parameters.length := ⟨⟨by decide +kernel, by decide +kernel⟩, xnp (by decide +kernel)⟩
theorem ml_X4_247 : Cond.methodLink RX4 247 yX4_endAsTraded ∈ lw_tbl := List.mem_append_right _ (List.mem_of_getElem? (i := 214) (by decide +kernel))
theorem wi_X4_endAsTraded : Cond.instanceMethod yX4_endAsTraded ∈ lw_tbl := List.mem_append_right _ (List.mem_of_getElem? (i := 216) (by decide +kernel))
theorem wz_X4_endAsTraded : Cond.selects RX4 yX4_endAsTraded yX4_endAsTraded ∈ lw_tbl := by decide +kernel
theorem wc_X4_endAsTraded : Cond.code yX4_endAsTraded cX4_endAsTraded 3 none ∈ lw_tbl := List.mem_append_right _ (List.mem_of_getElem? (i := 217) (by decide +kernel))
theorem fx_X4_exchange : (yX4_exchange.cls ≠ "java/lang/invoke/MethodHandle" ∧ yX4_exchange.cls ≠ "java/lang/invoke/VarHandle") ∧ ∀ sig, parseMethodDescriptor yX4_exchange.desc = some sig → 2 = sig.parameters.length := ⟨⟨by decide +kernel, by decide +kernel⟩, xnp (by decide +kernel)⟩
theorem ml_X4_250 : Cond.methodLink RX4 250 yX4_exchange ∈ lw_tbl := List.mem_append_right _ (List.mem_of_getElem? (i := 222) (by decide +kernel))
theorem wi_X4_exchange : Cond.instanceMethod yX4_exchange ∈ lw_tbl := List.mem_append_right _ (List.mem_of_getElem? (i := 224) (by decide +kernel))
theorem wz_X4_exchange : Cond.selects RX4 yX4_exchange yX4_exchange ∈ lw_tbl := by decide +kernel
theorem wc_X4_exchange : Cond.code yX4_exchange cX4_exchange 5 none ∈ lw_tbl := List.mem_append_right _ (List.mem_of_getElem? (i := 225) (by decide +kernel))
theorem fx_X4_checkAirline : (yX4_checkAirline.cls ≠ "java/lang/invoke/MethodHandle" ∧ yX4_checkAirline.cls ≠ "java/lang/invoke/VarHandle") ∧ ∀ sig, parseMethodDescriptor yX4_checkAirline.desc = some sig → 1 = sig.parameters.length := ⟨⟨by decide +kernel, by decide +kernel⟩, xnp (by decide +kernel)⟩
theorem ml_X4_63 : Cond.methodLink RX4 63 yX4_checkAirline ∈ lw_tbl := List.mem_append_right _ (List.mem_of_getElem? (i := 376) (by decide +kernel))
theorem wi_X4_checkAirline : Cond.instanceMethod yX4_checkAirline ∈ lw_tbl := List.mem_append_right _ (List.mem_of_getElem? (i := 378) (by decide +kernel))
theorem wz_X4_checkAirline : Cond.selects RX4 yX4_checkAirline yX4_checkAirline ∈ lw_tbl := by decide +kernel
theorem wc_X4_checkAirline : Cond.code yX4_checkAirline cX4_checkAirline 2 none ∈ lw_tbl := List.mem_append_right _ (List.mem_of_getElem? (i := 379) (by decide +kernel))
set_option maxRecDepth 100000 in
theorem tw_X4_213 : ((xatoms RX4 213 "java/util/NoSuchElementException" "java/lang/RuntimeException" 13 prog_17_method_4_code ["java/lang/Exception"]).filter xno).all (fun w => decide (w ∈ lw_tbl) && xok w) = true := by decide +kernel
theorem kl_X4_209 : Cond.classLink RX4 209 "java/util/NoSuchElementException" ∈ lw_tbl := List.mem_append_right _ (List.mem_of_getElem? (i := 419) (by decide +kernel))
theorem wn_NoSuchElementException : Cond.initialized "java/util/NoSuchElementException" ∈ lw_tbl := List.mem_append_right _ (List.mem_of_getElem? (i := 14) (by decide +kernel))
theorem fx_X4_couldMove : (yX4_couldMove.cls ≠ "java/lang/invoke/MethodHandle" ∧ yX4_couldMove.cls ≠ "java/lang/invoke/VarHandle") ∧ ∀ sig, parseMethodDescriptor yX4_couldMove.desc = some sig → 2 = sig.parameters.length := ⟨⟨by decide +kernel, by decide +kernel⟩, xnp (by decide +kernel)⟩
theorem ml_X4_131 : Cond.methodLink RX4 131 yX4_couldMove ∈ lw_tbl := List.mem_append_right _ (List.mem_of_getElem? (i := 242) (by decide +kernel))
theorem wi_X4_couldMove : Cond.instanceMethod yX4_couldMove ∈ lw_tbl := List.mem_append_right _ (List.mem_of_getElem? (i := 244) (by decide +kernel))
theorem wz_X4_couldMove : Cond.selects RX4 yX4_couldMove yX4_couldMove ∈ lw_tbl := by decide +kernel
theorem wc_X4_couldMove : Cond.code yX4_couldMove cX4_couldMove 3 (some .boolean) ∈ lw_tbl := List.mem_append_right _ (List.mem_of_getElem? (i := 245) (by decide +kernel))
theorem fl_X4_124 : Cond.fieldLink RX4 124 "LandingSlots$Flights" "airline" "[I" ∈ lw_tbl := List.mem_append_right _ (List.mem_of_getElem? (i := 54) (by decide +kernel))
theorem fx_X3_isEmpty : (yX3_isEmpty.cls ≠ "java/lang/invoke/MethodHandle" ∧ yX3_isEmpty.cls ≠ "java/lang/invoke/VarHandle") ∧ ∀ sig, parseMethodDescriptor yX3_isEmpty.desc = some sig → 1 = sig.parameters.length := ⟨⟨by decide +kernel, by decide +kernel⟩, xnp (by decide +kernel)⟩
theorem ml_X4_169 : Cond.methodLink RX4 169 yX3_isEmpty ∈ lw_tbl := List.mem_append_right _ (List.mem_of_getElem? (i := 181) (by decide +kernel))
theorem wi_X3_isEmpty : Cond.instanceMethod yX3_isEmpty ∈ lw_tbl := List.mem_append_right _ (List.mem_of_getElem? (i := 182) (by decide +kernel))
theorem wz_X3_isEmpty : Cond.selects RX3 yX3_isEmpty yX3_isEmpty ∈ lw_tbl := List.mem_append_right _ (List.mem_of_getElem? (i := 183) (by decide +kernel))
theorem wc_X3_isEmpty : Cond.code yX3_isEmpty cX3_isEmpty 2 (some .boolean) ∈ lw_tbl := List.mem_append_right _ (List.mem_of_getElem? (i := 184) (by decide +kernel))
theorem fx_X4_flightToMoveTo : (yX4_flightToMoveTo.cls ≠ "java/lang/invoke/MethodHandle" ∧ yX4_flightToMoveTo.cls ≠ "java/lang/invoke/VarHandle") ∧ ∀ sig, parseMethodDescriptor yX4_flightToMoveTo.desc = some sig → 1 = sig.parameters.length := ⟨⟨by decide +kernel, by decide +kernel⟩, xnp (by decide +kernel)⟩
theorem ml_X4_163 : Cond.methodLink RX4 163 yX4_flightToMoveTo ∈ lw_tbl := List.mem_append_right _ (List.mem_of_getElem? (i := 238) (by decide +kernel))
theorem wi_X4_flightToMoveTo : Cond.instanceMethod yX4_flightToMoveTo ∈ lw_tbl := List.mem_append_right _ (List.mem_of_getElem? (i := 240) (by decide +kernel))
theorem wz_X4_flightToMoveTo : Cond.selects RX4 yX4_flightToMoveTo yX4_flightToMoveTo ∈ lw_tbl := by decide +kernel
theorem wc_X4_flightToMoveTo : Cond.code yX4_flightToMoveTo cX4_flightToMoveTo 5 (some .int) ∈ lw_tbl := List.mem_append_right _ (List.mem_of_getElem? (i := 241) (by decide +kernel))
theorem fx_X4_moveForward : (yX4_moveForward.cls ≠ "java/lang/invoke/MethodHandle" ∧ yX4_moveForward.cls ≠ "java/lang/invoke/VarHandle") ∧ ∀ sig, parseMethodDescriptor yX4_moveForward.desc = some sig → 2 = sig.parameters.length := ⟨⟨by decide +kernel, by decide +kernel⟩, xnp (by decide +kernel)⟩
theorem ml_X4_166 : Cond.methodLink RX4 166 yX4_moveForward ∈ lw_tbl := List.mem_append_right _ (List.mem_of_getElem? (i := 246) (by decide +kernel))
theorem wi_X4_moveForward : Cond.instanceMethod yX4_moveForward ∈ lw_tbl := List.mem_append_right _ (List.mem_of_getElem? (i := 248) (by decide +kernel))
theorem wz_X4_moveForward : Cond.selects RX4 yX4_moveForward yX4_moveForward ∈ lw_tbl := by decide +kernel
theorem wc_X4_moveForward : Cond.code yX4_moveForward cX4_moveForward 6 none ∈ lw_tbl := List.mem_append_right _ (List.mem_of_getElem? (i := 249) (by decide +kernel))
theorem fl_X4_178 : Cond.fieldLink RX4 178 "LandingSlots$Flights" "scheduled" "[I" ∈ lw_tbl := List.mem_append_right _ (List.mem_of_getElem? (i := 56) (by decide +kernel))
theorem fx_X4_checkAirlineOrNone : (yX4_checkAirlineOrNone.cls ≠ "java/lang/invoke/MethodHandle" ∧ yX4_checkAirlineOrNone.cls ≠ "java/lang/invoke/VarHandle") ∧ ∀ sig, parseMethodDescriptor yX4_checkAirlineOrNone.desc = some sig → 1 = sig.parameters.length := ⟨⟨by decide +kernel, by decide +kernel⟩, xnp (by decide +kernel)⟩
theorem ml_X4_175 : Cond.methodLink RX4 175 yX4_checkAirlineOrNone ∈ lw_tbl := List.mem_append_right _ (List.mem_of_getElem? (i := 512) (by decide +kernel))
theorem wi_X4_checkAirlineOrNone : Cond.instanceMethod yX4_checkAirlineOrNone ∈ lw_tbl := List.mem_append_right _ (List.mem_of_getElem? (i := 514) (by decide +kernel))
theorem wz_X4_checkAirlineOrNone : Cond.selects RX4 yX4_checkAirlineOrNone yX4_checkAirlineOrNone ∈ lw_tbl := by decide +kernel
theorem wc_X4_checkAirlineOrNone : Cond.code yX4_checkAirlineOrNone cX4_checkAirlineOrNone 2 none ∈ lw_tbl := List.mem_append_right _ (List.mem_of_getElem? (i := 515) (by decide +kernel))
set_option maxRecDepth 100000 in
theorem tw_X4_189 : ((Bundle.ownAtoms RX4 189 "java/lang/IndexOutOfBoundsException" ["java/lang/RuntimeException", "java/lang/Exception"]).filter xno).all (fun w => decide (w ∈ lw_tbl) && xok w) = true := by decide +kernel
theorem kl_X4_185 : Cond.classLink RX4 185 "java/lang/IndexOutOfBoundsException" ∈ lw_tbl := List.mem_append_right _ (List.mem_of_getElem? (i := 535) (by decide +kernel))
theorem wn_IndexOutOfBoundsException : Cond.initialized "java/lang/IndexOutOfBoundsException" ∈ lw_tbl := List.mem_append_right _ (List.mem_of_getElem? (i := 15) (by decide +kernel))
theorem fl_X4_184 : Cond.fieldLink RX4 184 "LandingSlots$Entries" "count" "I" ∈ lw_tbl := List.mem_append_right _ (List.mem_of_getElem? (i := 128) (by decide +kernel))
theorem fl_X4_190 : Cond.fieldLink RX4 190 "LandingSlots$Entries" "kind" "[I" ∈ lw_tbl := List.mem_append_right _ (List.mem_of_getElem? (i := 120) (by decide +kernel))
theorem fl_X4_193 : Cond.fieldLink RX4 193 "LandingSlots$Entries" "flight" "[I" ∈ lw_tbl := List.mem_append_right _ (List.mem_of_getElem? (i := 122) (by decide +kernel))
theorem fl_X4_194 : Cond.fieldLink RX4 194 "LandingSlots$Entries" "from" "[I" ∈ lw_tbl := List.mem_append_right _ (List.mem_of_getElem? (i := 124) (by decide +kernel))
theorem fl_X4_197 : Cond.fieldLink RX4 197 "LandingSlots$Entries" "to" "[I" ∈ lw_tbl := List.mem_append_right _ (List.mem_of_getElem? (i := 126) (by decide +kernel))
theorem wt_Mmax : Cond.static Lib.Math.max.name ∈ lw_tbl := List.mem_append_right _ (List.mem_of_getElem? (i := 383) (by decide +kernel))
theorem wn_Mmax : Cond.initialized "java/lang/Math" ∈ lw_tbl := List.mem_append_right _ (List.mem_of_getElem? (i := 13) (by decide +kernel))
theorem wc_Mmax : Cond.code Lib.Math.max.name Lib.Math.max.code 2 (some .int) ∈ lw_tbl := by decide +kernel
theorem ml_X4_69 : Cond.methodLink RX4 69 Lib.Math.max.name ∈ lw_tbl := List.mem_append_right _ (List.mem_of_getElem? (i := 382) (by decide +kernel))
theorem fx_X1_add : (yX1_add.cls ≠ "java/lang/invoke/MethodHandle" ∧ yX1_add.cls ≠ "java/lang/invoke/VarHandle") ∧ ∀ sig, parseMethodDescriptor yX1_add.desc = some sig → 3 = sig.parameters.length := ⟨⟨by decide +kernel, by decide +kernel⟩, xnp (by decide +kernel)⟩
theorem ml_X4_83 : Cond.methodLink RX4 83 yX1_add ∈ lw_tbl := List.mem_append_right _ (List.mem_of_getElem? (i := 387) (by decide +kernel))
theorem wi_X1_add : Cond.instanceMethod yX1_add ∈ lw_tbl := List.mem_append_right _ (List.mem_of_getElem? (i := 388) (by decide +kernel))
theorem wz_X1_add : Cond.selects RX1 yX1_add yX1_add ∈ lw_tbl := List.mem_append_right _ (List.mem_of_getElem? (i := 389) (by decide +kernel))
theorem wc_X1_add : Cond.code yX1_add cX1_add 5 (some .int) ∈ lw_tbl := List.mem_append_right _ (List.mem_of_getElem? (i := 390) (by decide +kernel))
theorem fx_X4_checkSlot : (yX4_checkSlot.cls ≠ "java/lang/invoke/MethodHandle" ∧ yX4_checkSlot.cls ≠ "java/lang/invoke/VarHandle") ∧ ∀ sig, parseMethodDescriptor yX4_checkSlot.desc = some sig → 1 = sig.parameters.length := ⟨⟨by decide +kernel, by decide +kernel⟩, xnp (by decide +kernel)⟩
theorem ml_X4_94 : Cond.methodLink RX4 94 yX4_checkSlot ∈ lw_tbl := List.mem_append_right _ (List.mem_of_getElem? (i := 415) (by decide +kernel))
theorem wi_X4_checkSlot : Cond.instanceMethod yX4_checkSlot ∈ lw_tbl := List.mem_append_right _ (List.mem_of_getElem? (i := 417) (by decide +kernel))
theorem wz_X4_checkSlot : Cond.selects RX4 yX4_checkSlot yX4_checkSlot ∈ lw_tbl := by decide +kernel
theorem wc_X4_checkSlot : Cond.code yX4_checkSlot cX4_checkSlot 2 none ∈ lw_tbl := List.mem_append_right _ (List.mem_of_getElem? (i := 418) (by decide +kernel))
theorem fx_X4_flightsThatCouldMoveTo : (yX4_flightsThatCouldMoveTo.cls ≠ "java/lang/invoke/MethodHandle" ∧ yX4_flightsThatCouldMoveTo.cls ≠ "java/lang/invoke/VarHandle") ∧ ∀ sig, parseMethodDescriptor yX4_flightsThatCouldMoveTo.desc = some sig → 1 = sig.parameters.length := ⟨⟨by decide +kernel, by decide +kernel⟩, xnp (by decide +kernel)⟩
theorem ml_X4_172 : Cond.methodLink RX4 172 yX4_flightsThatCouldMoveTo ∈ lw_tbl := List.mem_append_right _ (List.mem_of_getElem? (i := 254) (by decide +kernel))
theorem wi_X4_flightsThatCouldMoveTo : Cond.instanceMethod yX4_flightsThatCouldMoveTo ∈ lw_tbl := List.mem_append_right _ (List.mem_of_getElem? (i := 256) (by decide +kernel))
theorem wz_X4_flightsThatCouldMoveTo : Cond.selects RX4 yX4_flightsThatCouldMoveTo yX4_flightsThatCouldMoveTo ∈ lw_tbl := by decide +kernel
theorem wc_X4_flightsThatCouldMoveTo : Cond.code yX4_flightsThatCouldMoveTo cX4_flightsThatCouldMoveTo 4 (some .int) ∈ lw_tbl := List.mem_append_right _ (List.mem_of_getElem? (i := 257) (by decide +kernel))
theorem fl_X4_103 : Cond.fieldLink RX4 103 "LandingSlots$Flights" "earliest" "[I" ∈ lw_tbl := List.mem_append_right _ (List.mem_of_getElem? (i := 58) (by decide +kernel))
theorem ml_X4_222 : Cond.methodLink RX4 222 yX3_isOffsetAtRate ∈ lw_tbl := List.mem_append_right _ (List.mem_of_getElem? (i := 345) (by decide +kernel))
theorem fx_X2_add : (yX2_add.cls ≠ "java/lang/invoke/MethodHandle" ∧ yX2_add.cls ≠ "java/lang/invoke/VarHandle") ∧ ∀ sig, parseMethodDescriptor yX2_add.desc = some sig → 3 = sig.parameters.length := ⟨⟨by decide +kernel, by decide +kernel⟩, xnp (by decide +kernel)⟩
theorem ml_X4_149 : Cond.methodLink RX4 149 yX2_add ∈ lw_tbl := List.mem_append_right _ (List.mem_of_getElem? (i := 493) (by decide +kernel))
theorem wi_X2_add : Cond.instanceMethod yX2_add ∈ lw_tbl := List.mem_append_right _ (List.mem_of_getElem? (i := 494) (by decide +kernel))
theorem wz_X2_add : Cond.selects RX2 yX2_add yX2_add ∈ lw_tbl := List.mem_append_right _ (List.mem_of_getElem? (i := 495) (by decide +kernel))
theorem wc_X2_add : Cond.code yX2_add cX2_add 5 (some .int) ∈ lw_tbl := List.mem_append_right _ (List.mem_of_getElem? (i := 496) (by decide +kernel))
theorem fx_X3_countWithOwner : (yX3_countWithOwner.cls ≠ "java/lang/invoke/MethodHandle" ∧ yX3_countWithOwner.cls ≠ "java/lang/invoke/VarHandle") ∧ ∀ sig, parseMethodDescriptor yX3_countWithOwner.desc = some sig → 1 = sig.parameters.length := ⟨⟨by decide +kernel, by decide +kernel⟩, xnp (by decide +kernel)⟩
theorem ml_X4_181 : Cond.methodLink RX4 181 yX3_countWithOwner ∈ lw_tbl := List.mem_append_right _ (List.mem_of_getElem? (i := 523) (by decide +kernel))
theorem wi_X3_countWithOwner : Cond.instanceMethod yX3_countWithOwner ∈ lw_tbl := List.mem_append_right _ (List.mem_of_getElem? (i := 524) (by decide +kernel))
theorem wz_X3_countWithOwner : Cond.selects RX3 yX3_countWithOwner yX3_countWithOwner ∈ lw_tbl := List.mem_append_right _ (List.mem_of_getElem? (i := 525) (by decide +kernel))
theorem wc_X3_countWithOwner : Cond.code yX3_countWithOwner cX3_countWithOwner 4 (some .int) ∈ lw_tbl := List.mem_append_right _ (List.mem_of_getElem? (i := 526) (by decide +kernel))
theorem fl_X4_231 : Cond.fieldLink RX4 231 "LandingSlots$Flights" "bySchedule" "[I" ∈ lw_tbl := List.mem_append_right _ (List.mem_of_getElem? (i := 66) (by decide +kernel))
theorem fx_X4_putInFirstSlot : (yX4_putInFirstSlot.cls ≠ "java/lang/invoke/MethodHandle" ∧ yX4_putInFirstSlot.cls ≠ "java/lang/invoke/VarHandle") ∧ ∀ sig, parseMethodDescriptor yX4_putInFirstSlot.desc = some sig → 1 = sig.parameters.length := ⟨⟨by decide +kernel, by decide +kernel⟩, xnp (by decide +kernel)⟩
theorem ml_X4_234 : Cond.methodLink RX4 234 yX4_putInFirstSlot ∈ lw_tbl := List.mem_append_right _ (List.mem_of_getElem? (i := 177) (by decide +kernel))
theorem wi_X4_putInFirstSlot : Cond.instanceMethod yX4_putInFirstSlot ∈ lw_tbl := List.mem_append_right _ (List.mem_of_getElem? (i := 179) (by decide +kernel))
theorem wz_X4_putInFirstSlot : Cond.selects RX4 yX4_putInFirstSlot yX4_putInFirstSlot ∈ lw_tbl := by decide +kernel
theorem wc_X4_putInFirstSlot : Cond.code yX4_putInFirstSlot cX4_putInFirstSlot 3 (some .boolean) ∈ lw_tbl := List.mem_append_right _ (List.mem_of_getElem? (i := 180) (by decide +kernel))
theorem fx_X4_clearWhatIsNotFrozen : (yX4_clearWhatIsNotFrozen.cls ≠ "java/lang/invoke/MethodHandle" ∧ yX4_clearWhatIsNotFrozen.cls ≠ "java/lang/invoke/VarHandle") ∧ ∀ sig, parseMethodDescriptor yX4_clearWhatIsNotFrozen.desc = some sig → 0 = sig.parameters.length := ⟨⟨by decide +kernel, by decide +kernel⟩, xnp (by decide +kernel)⟩
theorem ml_X4_225 : Cond.methodLink RX4 225 yX4_clearWhatIsNotFrozen ∈ lw_tbl := List.mem_append_right _ (List.mem_of_getElem? (i := 161) (by decide +kernel))
theorem wi_X4_clearWhatIsNotFrozen : Cond.instanceMethod yX4_clearWhatIsNotFrozen ∈ lw_tbl := List.mem_append_right _ (List.mem_of_getElem? (i := 163) (by decide +kernel))
theorem wz_X4_clearWhatIsNotFrozen : Cond.selects RX4 yX4_clearWhatIsNotFrozen yX4_clearWhatIsNotFrozen ∈ lw_tbl := by decide +kernel
theorem wc_X4_clearWhatIsNotFrozen : Cond.code yX4_clearWhatIsNotFrozen cX4_clearWhatIsNotFrozen 2 none ∈ lw_tbl := List.mem_append_right _ (List.mem_of_getElem? (i := 164) (by decide +kernel))
theorem fx_X0_clear : (yX0_clear.cls ≠ "java/lang/invoke/MethodHandle" ∧ yX0_clear.cls ≠ "java/lang/invoke/VarHandle") ∧ ∀ sig, parseMethodDescriptor yX0_clear.desc = some sig → 0 = sig.parameters.length := ⟨⟨by decide +kernel, by decide +kernel⟩, xnp (by decide +kernel)⟩
theorem ml_X4_228 : Cond.methodLink RX4 228 yX0_clear ∈ lw_tbl := List.mem_append_right _ (List.mem_of_getElem? (i := 169) (by decide +kernel))
theorem wi_X0_clear : Cond.instanceMethod yX0_clear ∈ lw_tbl := List.mem_append_right _ (List.mem_of_getElem? (i := 170) (by decide +kernel))
theorem wz_X0_clear : Cond.selects RX0 yX0_clear yX0_clear ∈ lw_tbl := List.mem_append_right _ (List.mem_of_getElem? (i := 171) (by decide +kernel))
theorem wc_X0_clear : Cond.code yX0_clear cX0_clear 1 none ∈ lw_tbl := List.mem_append_right _ (List.mem_of_getElem? (i := 172) (by decide +kernel))
theorem fx_X4_losesFrozenSlot : (yX4_losesFrozenSlot.cls ≠ "java/lang/invoke/MethodHandle" ∧ yX4_losesFrozenSlot.cls ≠ "java/lang/invoke/VarHandle") ∧ ∀ sig, parseMethodDescriptor yX4_losesFrozenSlot.desc = some sig → 2 = sig.parameters.length := ⟨⟨by decide +kernel, by decide +kernel⟩, xnp (by decide +kernel)⟩
theorem ml_X4_46 : Cond.methodLink RX4 46 yX4_losesFrozenSlot ∈ lw_tbl := List.mem_append_right _ (List.mem_of_getElem? (i := 341) (by decide +kernel))
theorem wi_X4_losesFrozenSlot : Cond.instanceMethod yX4_losesFrozenSlot ∈ lw_tbl := List.mem_append_right _ (List.mem_of_getElem? (i := 343) (by decide +kernel))
theorem wz_X4_losesFrozenSlot : Cond.selects RX4 yX4_losesFrozenSlot yX4_losesFrozenSlot ∈ lw_tbl := by decide +kernel
theorem wc_X4_losesFrozenSlot : Cond.code yX4_losesFrozenSlot cX4_losesFrozenSlot 5 (some .boolean) ∈ lw_tbl := List.mem_append_right _ (List.mem_of_getElem? (i := 344) (by decide +kernel))
theorem fx_X3_setRate : (yX3_setRate.cls ≠ "java/lang/invoke/MethodHandle" ∧ yX3_setRate.cls ≠ "java/lang/invoke/VarHandle") ∧ ∀ sig, parseMethodDescriptor yX3_setRate.desc = some sig → 2 = sig.parameters.length := ⟨⟨by decide +kernel, by decide +kernel⟩, xnp (by decide +kernel)⟩
theorem ml_X4_55 : Cond.methodLink RX4 55 yX3_setRate ∈ lw_tbl := List.mem_append_right _ (List.mem_of_getElem? (i := 364) (by decide +kernel))
theorem wi_X3_setRate : Cond.instanceMethod yX3_setRate ∈ lw_tbl := List.mem_append_right _ (List.mem_of_getElem? (i := 365) (by decide +kernel))
theorem wz_X3_setRate : Cond.selects RX3 yX3_setRate yX3_setRate ∈ lw_tbl := List.mem_append_right _ (List.mem_of_getElem? (i := 366) (by decide +kernel))
theorem wc_X3_setRate : Cond.code yX3_setRate cX3_setRate 5 none ∈ lw_tbl := List.mem_append_right _ (List.mem_of_getElem? (i := 367) (by decide +kernel))
theorem fx_X4_rationAll : (yX4_rationAll.cls ≠ "java/lang/invoke/MethodHandle" ∧ yX4_rationAll.cls ≠ "java/lang/invoke/VarHandle") ∧ ∀ sig, parseMethodDescriptor yX4_rationAll.desc = some sig → 0 = sig.parameters.length := ⟨⟨by decide +kernel, by decide +kernel⟩, xnp (by decide +kernel)⟩
theorem ml_X4_59 : Cond.methodLink RX4 59 yX4_rationAll ∈ lw_tbl := List.mem_append_right _ (List.mem_of_getElem? (i := 157) (by decide +kernel))
theorem wi_X4_rationAll : Cond.instanceMethod yX4_rationAll ∈ lw_tbl := List.mem_append_right _ (List.mem_of_getElem? (i := 159) (by decide +kernel))
theorem wz_X4_rationAll : Cond.selects RX4 yX4_rationAll yX4_rationAll ∈ lw_tbl := by decide +kernel
theorem wc_X4_rationAll : Cond.code yX4_rationAll cX4_rationAll 4 (some .int) ∈ lw_tbl := List.mem_append_right _ (List.mem_of_getElem? (i := 160) (by decide +kernel))
theorem fx_X4_carryOutIfPossible : (yX4_carryOutIfPossible.cls ≠ "java/lang/invoke/MethodHandle" ∧ yX4_carryOutIfPossible.cls ≠ "java/lang/invoke/VarHandle") ∧ ∀ sig, parseMethodDescriptor yX4_carryOutIfPossible.desc = some sig → 1 = sig.parameters.length := ⟨⟨by decide +kernel, by decide +kernel⟩, xnp (by decide +kernel)⟩
theorem ml_X4_159 : Cond.methodLink RX4 159 yX4_carryOutIfPossible ∈ lw_tbl := List.mem_append_right _ (List.mem_of_getElem? (i := 210) (by decide +kernel))
theorem wi_X4_carryOutIfPossible : Cond.instanceMethod yX4_carryOutIfPossible ∈ lw_tbl := List.mem_append_right _ (List.mem_of_getElem? (i := 212) (by decide +kernel))
theorem wz_X4_carryOutIfPossible : Cond.selects RX4 yX4_carryOutIfPossible yX4_carryOutIfPossible ∈ lw_tbl := by decide +kernel
theorem wc_X4_carryOutIfPossible : Cond.code yX4_carryOutIfPossible cX4_carryOutIfPossible 5 (some .int) ∈ lw_tbl := List.mem_append_right _ (List.mem_of_getElem? (i := 213) (by decide +kernel))
theorem fl_X5_60 : Cond.fieldLink RX5 60 "LandingSlotsModel" "flights" "I" ∈ lw_tbl := List.mem_append_right _ (List.mem_of_getElem? (i := 562) (by decide +kernel))
theorem fl_X5_56 : Cond.fieldLink RX5 56 "LandingSlotsModel" "code" "I" ∈ lw_tbl := List.mem_append_right _ (List.mem_of_getElem? (i := 558) (by decide +kernel))
theorem fl_X5_35 : Cond.fieldLink RX5 35 "LandingSlotsModel" "airborne" "[Z" ∈ lw_tbl := List.mem_append_right _ (List.mem_of_getElem? (i := 568) (by decide +kernel))
theorem fx_X5_isFlight : (yX5_isFlight.cls ≠ "java/lang/invoke/MethodHandle" ∧ yX5_isFlight.cls ≠ "java/lang/invoke/VarHandle") ∧ ∀ sig, parseMethodDescriptor yX5_isFlight.desc = some sig → 1 = sig.parameters.length := ⟨⟨by decide +kernel, by decide +kernel⟩, xnp (by decide +kernel)⟩
theorem ml_X5_91 : Cond.methodLink RX5 91 yX5_isFlight ∈ lw_tbl := List.mem_append_right _ (List.mem_of_getElem? (i := 662) (by decide +kernel))
theorem wi_X5_isFlight : Cond.instanceMethod yX5_isFlight ∈ lw_tbl := List.mem_append_right _ (List.mem_of_getElem? (i := 664) (by decide +kernel))
theorem wz_X5_isFlight : Cond.selects RX5 yX5_isFlight yX5_isFlight ∈ lw_tbl := by decide +kernel
theorem wc_X5_isFlight : Cond.code yX5_isFlight cX5_isFlight 2 (some .boolean) ∈ lw_tbl := List.mem_append_right _ (List.mem_of_getElem? (i := 665) (by decide +kernel))
theorem wn_X5 : Cond.initialized RX5 ∈ lw_tbl := List.mem_append_right _ (List.mem_of_getElem? (i := 7) (by decide +kernel))
theorem fl_X5_29 : Cond.fieldLink RX5 29 "LandingSlotsModel" "at" "[I" ∈ lw_tbl := List.mem_append_right _ (List.mem_of_getElem? (i := 566) (by decide +kernel))
theorem fl_X5_32 : Cond.fieldLink RX5 32 "LandingSlotsModel" "cancelled" "[Z" ∈ lw_tbl := List.mem_append_right _ (List.mem_of_getElem? (i := 567) (by decide +kernel))
theorem fl_X5_17 : Cond.fieldLink RX5 17 "LandingSlotsModel" "in" "[I" ∈ lw_tbl := List.mem_append_right _ (List.mem_of_getElem? (i := 561) (by decide +kernel))
theorem fl_X5_63 : Cond.fieldLink RX5 63 "LandingSlotsModel" "entries" "I" ∈ lw_tbl := List.mem_append_right _ (List.mem_of_getElem? (i := 575) (by decide +kernel))
theorem fl_X5_53 : Cond.fieldLink RX5 53 "LandingSlotsModel" "log" "[I" ∈ lw_tbl := List.mem_append_right _ (List.mem_of_getElem? (i := 576) (by decide +kernel))
theorem fx_X5_empty : (yX5_empty.cls ≠ "java/lang/invoke/MethodHandle" ∧ yX5_empty.cls ≠ "java/lang/invoke/VarHandle") ∧ ∀ sig, parseMethodDescriptor yX5_empty.desc = some sig → 1 = sig.parameters.length := ⟨⟨by decide +kernel, by decide +kernel⟩, xnp (by decide +kernel)⟩
theorem ml_X5_73 : Cond.methodLink RX5 73 yX5_empty ∈ lw_tbl := List.mem_append_right _ (List.mem_of_getElem? (i := 632) (by decide +kernel))
theorem wi_X5_empty : Cond.instanceMethod yX5_empty ∈ lw_tbl := List.mem_append_right _ (List.mem_of_getElem? (i := 634) (by decide +kernel))
theorem wz_X5_empty : Cond.selects RX5 yX5_empty yX5_empty ∈ lw_tbl := by decide +kernel
theorem wc_X5_empty : Cond.code yX5_empty cX5_empty 2 none ∈ lw_tbl := List.mem_append_right _ (List.mem_of_getElem? (i := 635) (by decide +kernel))
theorem fx_X5_note : (yX5_note.cls ≠ "java/lang/invoke/MethodHandle" ∧ yX5_note.cls ≠ "java/lang/invoke/VarHandle") ∧ ∀ sig, parseMethodDescriptor yX5_note.desc = some sig → 4 = sig.parameters.length := ⟨⟨by decide +kernel, by decide +kernel⟩, xnp (by decide +kernel)⟩
theorem ml_X5_97 : Cond.methodLink RX5 97 yX5_note ∈ lw_tbl := List.mem_append_right _ (List.mem_of_getElem? (i := 682) (by decide +kernel))
theorem wi_X5_note : Cond.instanceMethod yX5_note ∈ lw_tbl := List.mem_append_right _ (List.mem_of_getElem? (i := 684) (by decide +kernel))
theorem wz_X5_note : Cond.selects RX5 yX5_note yX5_note ∈ lw_tbl := by decide +kernel
theorem wc_X5_note : Cond.code yX5_note cX5_note 5 none ∈ lw_tbl := List.mem_append_right _ (List.mem_of_getElem? (i := 685) (by decide +kernel))
theorem fx_X5_isLoose : (yX5_isLoose.cls ≠ "java/lang/invoke/MethodHandle" ∧ yX5_isLoose.cls ≠ "java/lang/invoke/VarHandle") ∧ ∀ sig, parseMethodDescriptor yX5_isLoose.desc = some sig → 1 = sig.parameters.length := ⟨⟨by decide +kernel, by decide +kernel⟩, xnp (by decide +kernel)⟩
theorem ml_X5_66 : Cond.methodLink RX5 66 yX5_isLoose ∈ lw_tbl := List.mem_append_right _ (List.mem_of_getElem? (i := 640) (by decide +kernel))
theorem wi_X5_isLoose : Cond.instanceMethod yX5_isLoose ∈ lw_tbl := List.mem_append_right _ (List.mem_of_getElem? (i := 642) (by decide +kernel))
theorem wz_X5_isLoose : Cond.selects RX5 yX5_isLoose yX5_isLoose ∈ lw_tbl := by decide +kernel
theorem wc_X5_isLoose : Cond.code yX5_isLoose cX5_isLoose 2 (some .boolean) ∈ lw_tbl := List.mem_append_right _ (List.mem_of_getElem? (i := 643) (by decide +kernel))
theorem fl_X5_44 : Cond.fieldLink RX5 44 "LandingSlotsModel" "give" "[I" ∈ lw_tbl := List.mem_append_right _ (List.mem_of_getElem? (i := 572) (by decide +kernel))
theorem fl_X5_47 : Cond.fieldLink RX5 47 "LandingSlotsModel" "want" "[I" ∈ lw_tbl := List.mem_append_right _ (List.mem_of_getElem? (i := 573) (by decide +kernel))
theorem fl_X5_50 : Cond.fieldLink RX5 50 "LandingSlotsModel" "stands" "[Z" ∈ lw_tbl := List.mem_append_right _ (List.mem_of_getElem? (i := 574) (by decide +kernel))
theorem fl_X5_7 : Cond.fieldLink RX5 7 "LandingSlotsModel" "slot" "[Z" ∈ lw_tbl := List.mem_append_right _ (List.mem_of_getElem? (i := 559) (by decide +kernel))
theorem fl_X5_26 : Cond.fieldLink RX5 26 "LandingSlotsModel" "earliest" "[I" ∈ lw_tbl := List.mem_append_right _ (List.mem_of_getElem? (i := 565) (by decide +kernel))
theorem fx_X5_isGap : (yX5_isGap.cls ≠ "java/lang/invoke/MethodHandle" ∧ yX5_isGap.cls ≠ "java/lang/invoke/VarHandle") ∧ ∀ sig, parseMethodDescriptor yX5_isGap.desc = some sig → 2 = sig.parameters.length := ⟨⟨by decide +kernel, by decide +kernel⟩, xnp (by decide +kernel)⟩
theorem ml_X5_121 : Cond.methodLink RX5 121 yX5_isGap ∈ lw_tbl := List.mem_append_right _ (List.mem_of_getElem? (i := 742) (by decide +kernel))
theorem wi_X5_isGap : Cond.instanceMethod yX5_isGap ∈ lw_tbl := List.mem_append_right _ (List.mem_of_getElem? (i := 744) (by decide +kernel))
theorem wz_X5_isGap : Cond.selects RX5 yX5_isGap yX5_isGap ∈ lw_tbl := by decide +kernel
theorem wc_X5_isGap : Cond.code yX5_isGap cX5_isGap 3 (some .boolean) ∈ lw_tbl := List.mem_append_right _ (List.mem_of_getElem? (i := 745) (by decide +kernel))
theorem fl_X5_20 : Cond.fieldLink RX5 20 "LandingSlotsModel" "airline" "[I" ∈ lw_tbl := List.mem_append_right _ (List.mem_of_getElem? (i := 563) (by decide +kernel))
theorem fx_X5_put : (yX5_put.cls ≠ "java/lang/invoke/MethodHandle" ∧ yX5_put.cls ≠ "java/lang/invoke/VarHandle") ∧ ∀ sig, parseMethodDescriptor yX5_put.desc = some sig → 2 = sig.parameters.length := ⟨⟨by decide +kernel, by decide +kernel⟩, xnp (by decide +kernel)⟩
theorem ml_X5_101 : Cond.methodLink RX5 101 yX5_put ∈ lw_tbl := List.mem_append_right _ (List.mem_of_getElem? (i := 702) (by decide +kernel))
theorem wi_X5_put : Cond.instanceMethod yX5_put ∈ lw_tbl := List.mem_append_right _ (List.mem_of_getElem? (i := 704) (by decide +kernel))
theorem wz_X5_put : Cond.selects RX5 yX5_put yX5_put ∈ lw_tbl := by decide +kernel
theorem wc_X5_put : Cond.code yX5_put cX5_put 3 none ∈ lw_tbl := List.mem_append_right _ (List.mem_of_getElem? (i := 705) (by decide +kernel))
theorem fl_X5_13 : Cond.fieldLink RX5 13 "LandingSlotsModel" "owner" "[I" ∈ lw_tbl := List.mem_append_right _ (List.mem_of_getElem? (i := 560) (by decide +kernel))
theorem fx_X5_follower : (yX5_follower.cls ≠ "java/lang/invoke/MethodHandle" ∧ yX5_follower.cls ≠ "java/lang/invoke/VarHandle") ∧ ∀ sig, parseMethodDescriptor yX5_follower.desc = some sig → 2 = sig.parameters.length := ⟨⟨by decide +kernel, by decide +kernel⟩, xnp (by decide +kernel)⟩
theorem ml_X5_125 : Cond.methodLink RX5 125 yX5_follower ∈ lw_tbl := List.mem_append_right _ (List.mem_of_getElem? (i := 738) (by decide +kernel))
theorem wi_X5_follower : Cond.instanceMethod yX5_follower ∈ lw_tbl := List.mem_append_right _ (List.mem_of_getElem? (i := 740) (by decide +kernel))
theorem wz_X5_follower : Cond.selects RX5 yX5_follower yX5_follower ∈ lw_tbl := by decide +kernel
theorem wc_X5_follower : Cond.code yX5_follower cX5_follower 6 (some .int) ∈ lw_tbl := List.mem_append_right _ (List.mem_of_getElem? (i := 741) (by decide +kernel))
theorem fx_X5_moves : (yX5_moves.cls ≠ "java/lang/invoke/MethodHandle" ∧ yX5_moves.cls ≠ "java/lang/invoke/VarHandle") ∧ ∀ sig, parseMethodDescriptor yX5_moves.desc = some sig → 0 = sig.parameters.length := ⟨⟨by decide +kernel, by decide +kernel⟩, xnp (by decide +kernel)⟩
theorem ml_X5_129 : Cond.methodLink RX5 129 yX5_moves ∈ lw_tbl := List.mem_append_right _ (List.mem_of_getElem? (i := 734) (by decide +kernel))
theorem wi_X5_moves : Cond.instanceMethod yX5_moves ∈ lw_tbl := List.mem_append_right _ (List.mem_of_getElem? (i := 736) (by decide +kernel))
theorem wz_X5_moves : Cond.selects RX5 yX5_moves yX5_moves ∈ lw_tbl := by decide +kernel
theorem wc_X5_moves : Cond.code yX5_moves cX5_moves 4 (some .boolean) ∈ lw_tbl := List.mem_append_right _ (List.mem_of_getElem? (i := 737) (by decide +kernel))
theorem fl_X5_23 : Cond.fieldLink RX5 23 "LandingSlotsModel" "scheduled" "[I" ∈ lw_tbl := List.mem_append_right _ (List.mem_of_getElem? (i := 564) (by decide +kernel))
theorem fx_X5_within : (yX5_within.cls ≠ "java/lang/invoke/MethodHandle" ∧ yX5_within.cls ≠ "java/lang/invoke/VarHandle") ∧ ∀ sig, parseMethodDescriptor yX5_within.desc = some sig → 3 = sig.parameters.length := ⟨⟨by decide +kernel, by decide +kernel⟩, xnp (by decide +kernel)⟩
theorem ml_X5_84 : Cond.methodLink RX5 84 yX5_within ∈ lw_tbl := List.mem_append_right _ (List.mem_of_getElem? (i := 648) (by decide +kernel))
theorem wt_X5_within : Cond.static yX5_within ∈ lw_tbl := List.mem_append_right _ (List.mem_of_getElem? (i := 649) (by decide +kernel))
theorem wc_X5_within : Cond.code yX5_within cX5_within 3 (some .boolean) ∈ lw_tbl := List.mem_append_right _ (List.mem_of_getElem? (i := 650) (by decide +kernel))
theorem fl_X5_108 : Cond.fieldLink RX5 108 "LandingSlotsModel" "offers" "I" ∈ lw_tbl := List.mem_append_right _ (List.mem_of_getElem? (i := 570) (by decide +kernel))
theorem fx_X5_isSlot : (yX5_isSlot.cls ≠ "java/lang/invoke/MethodHandle" ∧ yX5_isSlot.cls ≠ "java/lang/invoke/VarHandle") ∧ ∀ sig, parseMethodDescriptor yX5_isSlot.desc = some sig → 1 = sig.parameters.length := ⟨⟨by decide +kernel, by decide +kernel⟩, xnp (by decide +kernel)⟩
theorem ml_X5_94 : Cond.methodLink RX5 94 yX5_isSlot ∈ lw_tbl := List.mem_append_right _ (List.mem_of_getElem? (i := 670) (by decide +kernel))
theorem wi_X5_isSlot : Cond.instanceMethod yX5_isSlot ∈ lw_tbl := List.mem_append_right _ (List.mem_of_getElem? (i := 672) (by decide +kernel))
theorem wz_X5_isSlot : Cond.selects RX5 yX5_isSlot yX5_isSlot ∈ lw_tbl := by decide +kernel
theorem wc_X5_isSlot : Cond.code yX5_isSlot cX5_isSlot 2 (some .boolean) ∈ lw_tbl := List.mem_append_right _ (List.mem_of_getElem? (i := 673) (by decide +kernel))
theorem fl_X5_41 : Cond.fieldLink RX5 41 "LandingSlotsModel" "offerer" "[I" ∈ lw_tbl := List.mem_append_right _ (List.mem_of_getElem? (i := 571) (by decide +kernel))
theorem fx_X5_isFrozen : (yX5_isFrozen.cls ≠ "java/lang/invoke/MethodHandle" ∧ yX5_isFrozen.cls ≠ "java/lang/invoke/VarHandle") ∧ ∀ sig, parseMethodDescriptor yX5_isFrozen.desc = some sig → 1 = sig.parameters.length := ⟨⟨by decide +kernel, by decide +kernel⟩, xnp (by decide +kernel)⟩
theorem ml_X5_70 : Cond.methodLink RX5 70 yX5_isFrozen ∈ lw_tbl := List.mem_append_right _ (List.mem_of_getElem? (i := 628) (by decide +kernel))
theorem wi_X5_isFrozen : Cond.instanceMethod yX5_isFrozen ∈ lw_tbl := List.mem_append_right _ (List.mem_of_getElem? (i := 630) (by decide +kernel))
theorem wz_X5_isFrozen : Cond.selects RX5 yX5_isFrozen yX5_isFrozen ∈ lw_tbl := by decide +kernel
theorem wc_X5_isFrozen : Cond.code yX5_isFrozen cX5_isFrozen 2 (some .boolean) ∈ lw_tbl := List.mem_append_right _ (List.mem_of_getElem? (i := 631) (by decide +kernel))
theorem fl_X5_38 : Cond.fieldLink RX5 38 "LandingSlotsModel" "done" "[Z" ∈ lw_tbl := List.mem_append_right _ (List.mem_of_getElem? (i := 569) (by decide +kernel))
theorem fx_X5_isGood : (yX5_isGood.cls ≠ "java/lang/invoke/MethodHandle" ∧ yX5_isGood.cls ≠ "java/lang/invoke/VarHandle") ∧ ∀ sig, parseMethodDescriptor yX5_isGood.desc = some sig → 1 = sig.parameters.length := ⟨⟨by decide +kernel, by decide +kernel⟩, xnp (by decide +kernel)⟩
theorem ml_X5_111 : Cond.methodLink RX5 111 yX5_isGood ∈ lw_tbl := List.mem_append_right _ (List.mem_of_getElem? (i := 718) (by decide +kernel))
theorem wi_X5_isGood : Cond.instanceMethod yX5_isGood ∈ lw_tbl := List.mem_append_right _ (List.mem_of_getElem? (i := 720) (by decide +kernel))
theorem wz_X5_isGood : Cond.selects RX5 yX5_isGood yX5_isGood ∈ lw_tbl := by decide +kernel
theorem wc_X5_isGood : Cond.code yX5_isGood cX5_isGood 5 (some .boolean) ∈ lw_tbl := List.mem_append_right _ (List.mem_of_getElem? (i := 721) (by decide +kernel))
theorem fx_X5_nextFlight : (yX5_nextFlight.cls ≠ "java/lang/invoke/MethodHandle" ∧ yX5_nextFlight.cls ≠ "java/lang/invoke/VarHandle") ∧ ∀ sig, parseMethodDescriptor yX5_nextFlight.desc = some sig → 0 = sig.parameters.length := ⟨⟨by decide +kernel, by decide +kernel⟩, xnp (by decide +kernel)⟩
theorem ml_X5_77 : Cond.methodLink RX5 77 yX5_nextFlight ∈ lw_tbl := List.mem_append_right _ (List.mem_of_getElem? (i := 636) (by decide +kernel))
theorem wi_X5_nextFlight : Cond.instanceMethod yX5_nextFlight ∈ lw_tbl := List.mem_append_right _ (List.mem_of_getElem? (i := 638) (by decide +kernel))
theorem wz_X5_nextFlight : Cond.selects RX5 yX5_nextFlight yX5_nextFlight ∈ lw_tbl := by decide +kernel
theorem wc_X5_nextFlight : Cond.code yX5_nextFlight cX5_nextFlight 3 (some .int) ∈ lw_tbl := List.mem_append_right _ (List.mem_of_getElem? (i := 639) (by decide +kernel))
theorem fx_X5_rationed : (yX5_rationed.cls ≠ "java/lang/invoke/MethodHandle" ∧ yX5_rationed.cls ≠ "java/lang/invoke/VarHandle") ∧ ∀ sig, parseMethodDescriptor yX5_rationed.desc = some sig → 0 = sig.parameters.length := ⟨⟨by decide +kernel, by decide +kernel⟩, xnp (by decide +kernel)⟩
theorem ml_X5_81 : Cond.methodLink RX5 81 yX5_rationed ∈ lw_tbl := List.mem_append_right _ (List.mem_of_getElem? (i := 624) (by decide +kernel))
theorem wi_X5_rationed : Cond.instanceMethod yX5_rationed ∈ lw_tbl := List.mem_append_right _ (List.mem_of_getElem? (i := 626) (by decide +kernel))
theorem wz_X5_rationed : Cond.selects RX5 yX5_rationed yX5_rationed ∈ lw_tbl := by decide +kernel
theorem wc_X5_rationed : Cond.code yX5_rationed cX5_rationed 4 (some .int) ∈ lw_tbl := List.mem_append_right _ (List.mem_of_getElem? (i := 627) (by decide +kernel))
theorem fx_X5_has : (yX5_has.cls ≠ "java/lang/invoke/MethodHandle" ∧ yX5_has.cls ≠ "java/lang/invoke/VarHandle") ∧ ∀ sig, parseMethodDescriptor yX5_has.desc = some sig → 3 = sig.parameters.length := ⟨⟨by decide +kernel, by decide +kernel⟩, xnp (by decide +kernel)⟩
theorem ml_X5_88 : Cond.methodLink RX5 88 yX5_has ∈ lw_tbl := List.mem_append_right _ (List.mem_of_getElem? (i := 651) (by decide +kernel))
theorem wt_X5_has : Cond.static yX5_has ∈ lw_tbl := List.mem_append_right _ (List.mem_of_getElem? (i := 652) (by decide +kernel))
theorem wc_X5_has : Cond.code yX5_has cX5_has 5 (some .boolean) ∈ lw_tbl := List.mem_append_right _ (List.mem_of_getElem? (i := 653) (by decide +kernel))
theorem fx_X5_exchange : (yX5_exchange.cls ≠ "java/lang/invoke/MethodHandle" ∧ yX5_exchange.cls ≠ "java/lang/invoke/VarHandle") ∧ ∀ sig, parseMethodDescriptor yX5_exchange.desc = some sig → 2 = sig.parameters.length := ⟨⟨by decide +kernel, by decide +kernel⟩, xnp (by decide +kernel)⟩
theorem ml_X5_105 : Cond.methodLink RX5 105 yX5_exchange ∈ lw_tbl := List.mem_append_right _ (List.mem_of_getElem? (i := 698) (by decide +kernel))
theorem wi_X5_exchange : Cond.instanceMethod yX5_exchange ∈ lw_tbl := List.mem_append_right _ (List.mem_of_getElem? (i := 700) (by decide +kernel))
theorem wz_X5_exchange : Cond.selects RX5 yX5_exchange yX5_exchange ∈ lw_tbl := by decide +kernel
theorem wc_X5_exchange : Cond.code yX5_exchange cX5_exchange 5 none ∈ lw_tbl := List.mem_append_right _ (List.mem_of_getElem? (i := 701) (by decide +kernel))
theorem fx_X5_close : (yX5_close.cls ≠ "java/lang/invoke/MethodHandle" ∧ yX5_close.cls ≠ "java/lang/invoke/VarHandle") ∧ ∀ sig, parseMethodDescriptor yX5_close.desc = some sig → 1 = sig.parameters.length := ⟨⟨by decide +kernel, by decide +kernel⟩, xnp (by decide +kernel)⟩
theorem ml_X5_118 : Cond.methodLink RX5 118 yX5_close ∈ lw_tbl := List.mem_append_right _ (List.mem_of_getElem? (i := 726) (by decide +kernel))
theorem wi_X5_close : Cond.instanceMethod yX5_close ∈ lw_tbl := List.mem_append_right _ (List.mem_of_getElem? (i := 728) (by decide +kernel))
theorem wz_X5_close : Cond.selects RX5 yX5_close yX5_close ∈ lw_tbl := by decide +kernel
theorem wc_X5_close : Cond.code yX5_close cX5_close 2 none ∈ lw_tbl := List.mem_append_right _ (List.mem_of_getElem? (i := 729) (by decide +kernel))
theorem fx_X5_partner : (yX5_partner.cls ≠ "java/lang/invoke/MethodHandle" ∧ yX5_partner.cls ≠ "java/lang/invoke/VarHandle") ∧ ∀ sig, parseMethodDescriptor yX5_partner.desc = some sig → 1 = sig.parameters.length := ⟨⟨by decide +kernel, by decide +kernel⟩, xnp (by decide +kernel)⟩
theorem ml_X5_114 : Cond.methodLink RX5 114 yX5_partner ∈ lw_tbl := List.mem_append_right _ (List.mem_of_getElem? (i := 722) (by decide +kernel))
theorem wi_X5_partner : Cond.instanceMethod yX5_partner ∈ lw_tbl := List.mem_append_right _ (List.mem_of_getElem? (i := 724) (by decide +kernel))
theorem wz_X5_partner : Cond.selects RX5 yX5_partner yX5_partner ∈ lw_tbl := by decide +kernel
theorem wc_X5_partner : Cond.code yX5_partner cX5_partner 5 (some .int) ∈ lw_tbl := List.mem_append_right _ (List.mem_of_getElem? (i := 725) (by decide +kernel))
end
section
/-! An exception that came out of a callee, caught by a row of this method's own table (the class of the row cold or warm). -/
section XK
variable {e : Env} {s s₀ : State} {f : JFrame} {a : Addr}
/-- where a table sends an exception of the class th that is thrown at pc -/
def xCat (pl : Platform) (s₀ : State) (d : ClassId) (pc : Nat) (th : ClassId) : List ExceptionTableEntry → Nat → Prop
  | [], _ => False
  | y :: ys, h => (covers y pc = false ∧ xCat pl s₀ d pc th ys h) ∨ (covers y pc = true ∧ y.catchType ≠ 0 ∧ ∃ c, s₀.vm.ClassLinks pl d y.catchType c ∧ ((s₀.vm.assignable th c = true ∧ h = y.handlerPc) ∨ (s₀.vm.assignable th c = false ∧ xCat pl s₀ d pc th ys h)))
theorem xgo_row {Q : Handler → Pre} {E : CtlPost} {d : Bool} {acts : List Action} {x : ExceptionTableEntry} {t : List ExceptionTableEntry} {c : ClassId} {cell : Cell} (hx : covers x f.pc = true) (h0 : x.catchType ≠ 0)
    (hl : s.vm.ClassLinks e.platform f.method.cls x.catchType c) (hcell : s.heap[a]? = some cell) (hobj : ∀ k, cell.vm ≠ .statics k) (hk : ∃ k, s.vm.classes[cell.cls]? = some k) (hc : ∃ k, s.vm.classes[c]? = some k) :
    wp (findHandler.go f a (x :: t)) Q E e d acts s ↔ if s.vm.assignable cell.cls c = true then Q (.found x.handlerPc) d acts (s.setVm (s.vm.noted f.method.cls x.catchType (.cls c))) else wp (findHandler.go f a t) Q E e d acts (s.setVm (s.vm.noted f.method.cls x.catchType (.cls c))) := by
  simp only [covers] at hx
  obtain ⟨ha, ht⟩ := (resolveClass_links e.toSetting hl).op (op := VmOp.resolveClass f.method.cls x.catchType) rfl
  have hal : s.vm.Alike (s.vm.noted f.method.cls x.catchType (.cls c)) := (Vm.Alike.refl s.vm).noted _ _ _
  obtain ⟨k1, hk1⟩ := hk
  obtain ⟨k2, hk2⟩ := hc
  obtain ⟨k1', hk1', -⟩ := hal.2.2 _ _ hk1
  obtain ⟨k2', hk2', -⟩ := hal.2.2 _ _ hk2
  cases hfit : s.vm.assignable cell.cls c with
  | true =>
    have hfit' : (s.vm.noted f.method.cls x.catchType (.cls c)).assignable cell.cls c = true := by rw [hal.assignable]; exact hfit
    simp [findHandler.go, hx, h0, ha, ht, hcell, hobj, hk1', hk2', hfit', VmOp.dirties, VmOp.acts]
  | false =>
    have hfit' : (s.vm.noted f.method.cls x.catchType (.cls c)).assignable cell.cls c = false := by rw [hal.assignable]; exact hfit
    simp [findHandler.go, hx, h0, ha, ht, hcell, hobj, hk1', hk2', hfit', VmOp.dirties, VmOp.acts]
theorem xsearch {cell : Cell} (hobj : ∀ k, cell.vm ≠ .statics k) (hk0 : ∃ k, s₀.vm.classes[cell.cls]? = some k) : ∀ (tb : List ExceptionTableEntry) (h : Nat) (S : State), s₀.WarmedH S.vm → S.heap[a]? = some cell → xCat e.platform s₀ f.method.cls f.pc cell.cls tb h →
    ∃ vm', s₀.WarmedH vm' ∧ ∀ (Q : Handler → Pre) (E : CtlPost) (d : Bool) (acts : List Action), wp (findHandler.go f a tb) Q E e d acts S ↔ Q (.found h) d acts (S.setVm vm') := by
  obtain ⟨k0, hk0⟩ := hk0
  intro tb
  induction tb with
  | nil => intro h S _ _ hc; exact hc.elim
  | cons y ys ih =>
    intro h S hW hcell hc
    obtain ⟨k0', hk0', -⟩ := hW.alike.2.2 _ _ hk0
    rcases hc with ⟨hsk, hc⟩ | ⟨hcov, h0, c, hl, hc⟩
    · obtain ⟨vm', hW', hq⟩ := ih h S hW hcell hc
      exact ⟨vm', hW', fun Q E d acts => (Jvm.W.findHandler_go_skip hsk).trans (hq Q E d acts)⟩
    · obtain ⟨dk, _, _, kt, hd, _, _, _, _, hkt, _, hopen⟩ := hl.here
      obtain ⟨kt', hkt', -⟩ := hW.alike.2.2 _ _ hkt
      have hW2 : s₀.WarmedH (S.vm.noted f.method.cls y.catchType (.cls c)) := hW.noted hd hopen (State.rightAt_cls hl)
      rcases hc with ⟨hfit, rfl⟩ | ⟨hno, hc⟩
      · refine ⟨_, hW2, fun Q E d acts => ?_⟩
        rw [xgo_row hcov h0 (hW.classLinks hl) hcell hobj ⟨k0', hk0'⟩ ⟨kt', hkt'⟩, if_pos (by rw [hW.alike.assignable]; exact hfit)]
      · obtain ⟨vm', hW', hq⟩ := ih h (S.setVm (S.vm.noted f.method.cls y.catchType (.cls c))) hW2 hcell hc
        refine ⟨vm', hW', fun Q E d acts => ?_⟩
        rw [xgo_row hcov h0 (hW.classLinks hl) hcell hobj ⟨k0', hk0'⟩ ⟨kt', hkt'⟩, if_neg (by rw [hW.alike.assignable, hno]; decide)]
        exact hq Q E d acts
theorem xinto {tb : Tables} {s target : State} {g : JFrame} {c : Code} {below : List Frame} (h : At s g.method c below) {pc : Nat} {vm' : Vm}
    (hfind : ∀ (Q : Handler → Pre) (E : CtlPost) (d : Bool) (acts : List Action), wp (findHandler g a) Q E e d acts ((s.setTop g).pushFrame (.throwing a)) ↔ Q (.found pc) d acts (((s.setTop g).pushFrame (.throwing a)).setVm vm'))
    (hrest : Steps tb e below ((s.setVm vm').setTop { g with pc := pc, stack := [.ref a] }) target) : Steps tb e below ((s.setTop g).pushFrame (.throwing a)) target := by
  obtain ⟨hgo, hw⟩ := h.throwing a
  refine Steps.head hgo hw ?_
  have hst : (stepThrowing e ((s.setTop g).pushFrame (.throwing a)) a (.java g :: s.frames.tail)).Is ((((s.setTop g).pushFrame (.throwing a)).setVm vm').setFrames (.java { g with pc := pc, stack := [.ref a] } :: s.frames.tail)) [] := by
    simp only [stepThrowing, searchFrame, vmDo]
    generalize hr : Sem.go _ e false [] ((s.setTop g).pushFrame (.throwing a)) = res
    obtain ⟨as, rfl, ha⟩ := Sem.eq_ok_of hr (a := Handler.found pc) (s' := ((s.setTop g).pushFrame (.throwing a)).setVm vm') (acts' := []) (by simp [hfind _ _ _ _])
    exact ⟨rfl, ha⟩
  rw [stepThread_throwing (frames_entered h.top _), hst.1]
  obtain ⟨g₀, hg⟩ := Option.isSome_iff_exists.mp h.top
  obtain ⟨r, hr⟩ := State.topJava?_eq_some.mp hg
  have hr' : (s.setVm vm').frames = .java g₀ :: r := hr
  rw [State.setTop_of_frames _ hr'] at hrest
  have e1 : ((((s.setTop g).pushFrame (.throwing a)).setVm vm').setFrames (.java { g with pc := pc, stack := [.ref a] } :: s.frames.tail)) = (s.setVm vm').setFrames (.java { g with pc := pc, stack := [.ref a] } :: r) := by
    rw [hr, List.tail_cons, State.setTop_of_frames _ hr, State.pushFrame]
    have e2 : ∀ (u : State) (F F2 : List Frame), ((u.setFrames F).setVm vm').setFrames F2 = (u.setVm vm').setFrames F2 := fun u F F2 => by
      rw [show (u.setFrames F).setVm vm' = (u.setVm vm').setFrames F from rfl, State.setFrames_setFrames]
    rw [State.setFrames_setFrames, e2]
  rw [e1]
  exact hrest
end XK
section XK2
variable {p : Program} {l : Launch} {e : Env} {R : Room} {s : State} {m : MethodId} {args : Array Value} {below : List Frame} {meth : Method} {c : Code} {H : Heap} {locs : List Loc} {cells slots : Nat} {Q : State → Prop} {pc hpc : Nat} {ls : Array Slot} {rest : List Value}
theorem xcatch {q : Addr} {E : String} {ce : Cell} (hcell : H[q]? = some ce) (hv : ce.vm = .none) (hcl : s.vm.findClass E = some ce.cls) (hcat : ∀ pl : Platform, pl.magicAccessors = ({} : Platform).magicAccessors → xCat pl s m.cls pc ce.cls c.exceptionTable.toList hpc)
    (kk : W p l e R s m args below meth c H locs cells slots Q (F0 m hpc ls [.ref q])) : xW p l e R s m args below meth c H locs cells slots Q (F0 m pc ls rest) q := by
  intro T hT X
  have hpl : e.platform.magicAccessors = ({} : Platform).magicAccessors := by rw [X.admits.platform]
  obtain ⟨kE, hkE, -⟩ := Vm.findClass_spec hcl
  obtain ⟨vm', hW', hq⟩ := xsearch (e := e) (s₀ := s) (f := F0 m pc ls rest) (a := q) (cell := ce) (fun k h => by rw [hv] at h; cases h) ⟨kE, hkE⟩ c.exceptionTable.toList hpc ((T.setTop (F0 m pc ls rest)).pushFrame (.throwing q)) X.warmed (by show T.heap[q]? = some ce; rw [hT]; exact hcell) (hcat e.platform hpl)
  obtain ⟨t, a1, b1⟩ := kk (T.setVm vm') hT (X.noted hW')
  refine ⟨t, ?_, b1⟩
  refine xinto (g := F0 m pc ls rest) (c := c) X.here (vm' := vm') (pc := hpc) ?_ a1
  intro Q E d acts
  rw [Jvm.W.findHandler_eq (meth := meth) (code := c) (show T.vm.method? m = some meth from X.method') X.code]
  exact hq Q E d acts
/-- the same by the rows' four numbers -/
def xCatQ (pl : Platform) (s₀ : State) (d : ClassId) (pc : Nat) (th : ClassId) : List (Nat × Nat × Nat × Nat) → Nat → Prop
  | [], _ => False
  | y :: ys, h => ((decide (y.1 ≤ pc) && decide (pc < y.2.1)) = false ∧ xCatQ pl s₀ d pc th ys h) ∨ ((decide (y.1 ≤ pc) && decide (pc < y.2.1)) = true ∧ y.2.2.2 ≠ 0 ∧ ∃ c, s₀.vm.ClassLinks pl d y.2.2.2 c ∧ ((s₀.vm.assignable th c = true ∧ h = y.2.2.1) ∨ (s₀.vm.assignable th c = false ∧ xCatQ pl s₀ d pc th ys h)))
theorem xCatQ.cat {pl : Platform} {s₀ : State} {d : ClassId} {pc : Nat} {th : ClassId} : ∀ (tb : List ExceptionTableEntry) (h : Nat), xCatQ pl s₀ d pc th (tb.map (fun h => (h.startPc, h.endPc, h.handlerPc, h.catchType))) h → xCat pl s₀ d pc th tb h := by
  intro tb
  induction tb with
  | nil => intro h hc; exact hc
  | cons y ys ih =>
    intro h hc
    rcases hc with ⟨h1, hc⟩ | ⟨h1, h2, c, h3, hc⟩
    · exact Or.inl ⟨h1, ih h hc⟩
    · rcases hc with hc | ⟨h4, hc⟩
      · exact Or.inr ⟨h1, h2, c, h3, Or.inl hc⟩
      · exact Or.inr ⟨h1, h2, c, h3, Or.inr ⟨h4, ih h hc⟩⟩
/-- a row that takes E -/
theorem xrowY {pl : Platform} (hpl : pl.magicAccessors = ({} : Platform).magicAccessors) {own E : String} {ce : Cell} {ix h st en : Nat} {ys : List (Nat × Nat × Nat × Nat)} (hown : s.vm.findClass own = some m.cls) (hE : xE s) (wk : Cond.classLink own ix E ∈ lw_tbl) (wc : Cond.castable E E ∈ lw_tbl) (hcl : s.vm.findClass E = some ce.cls) (h0 : ix ≠ 0) (hin : (decide (st ≤ pc) && decide (pc < en)) = true) :
    xCatQ pl s m.cls pc ce.cls ((st, en, h, ix) :: ys) h := by
  obtain ⟨c5, hc5, hl⟩ := Cond.classLink_spec hown (hE _ wk rfl #[]) pl hpl
  obtain ⟨c3, c4, hc3, hc4, hasg⟩ := Cond.castable_spec (hE _ wc rfl #[])
  cases Option.some.inj (hc3.symm.trans hc4)
  cases Option.some.inj (hc3.symm.trans hcl)
  cases Option.some.inj (hc5.symm.trans hcl)
  exact Or.inr ⟨hin, h0, _, hl, Or.inl ⟨hasg, rfl⟩⟩
/-- a row that passes E on -/
theorem xrowN {pl : Platform} (hpl : pl.magicAccessors = ({} : Platform).magicAccessors) {own E F : String} {ce : Cell} {ix h hh st en : Nat} {ys : List (Nat × Nat × Nat × Nat)} (hown : s.vm.findClass own = some m.cls) (hE : xE s) (wk : Cond.classLink own ix F ∈ lw_tbl) (hn : va_Nc E F s) (hcl : s.vm.findClass E = some ce.cls) (h0 : ix ≠ 0) (hin : (decide (st ≤ pc) && decide (pc < en)) = true)
    (hr : xCatQ pl s m.cls pc ce.cls ys h) : xCatQ pl s m.cls pc ce.cls ((st, en, hh, ix) :: ys) h := by
  obtain ⟨c5, hc5, hl⟩ := Cond.classLink_spec hown (hE _ wk rfl #[]) pl hpl
  obtain ⟨c3, c4, hc3, hc4, hno⟩ := hn
  cases Option.some.inj (hc3.symm.trans hcl)
  cases Option.some.inj (hc5.symm.trans hc4)
  exact Or.inr ⟨hin, h0, _, hl, Or.inr ⟨hno, hr⟩⟩
end XK2
section XK3
variable {l : Launch}
theorem xMet.ofWW {y : MethodName} {rm : Room} {Pc : Array Value → State → Prop} {Qc : Array Value → State → Outcome → State → Prop} {mc ms : Nat} {free : Addr → Prop} {cc : ByteArray} {maxL : Nat} {ret : Option FieldType} {hh : List (Nat × Nat × Nat × Nat)}
    (hy : plainName y.cls = true)
    (body : ∀ p e s m args below meth c, p.tables.exec = Jvm.exec → c.code = cc → c.maxLocals = maxL → meth.sig.returnType = ret → meth.locks = false → s.methodNamed? y = some m → c.exceptionTable.toList.map (fun h => (h.startPc, h.endPc, h.handlerPc, h.catchType)) = hh → Pc args s →
      W p l e rm s m args below meth c s.heap [] 0 0 (xMQ below Qc args s mc ms free) (entryFrame m args maxL)) : xMet l y (.codeWith y cc maxL ret hh) rm Pc Qc mc ms free := by
  refine MetFree.of_bodyS (code := cc) (maxLocals := maxL) (ret := ret) hy ?_ ?_
  · intro args s m h hn
    obtain ⟨m9, meth, c, hn9, h1, h2, h3, h4, -, h5, h6, -⟩ := Cond.codeWith_spec (atoms_spec (ws := [Cond.codeWith y cc maxL ret hh]) h _ List.mem_cons_self)
    cases hn.symm.trans hn9
    exact ⟨meth, c, h1, h2, h3, h4, h5, h6⟩
  · intro p e s m args below meth c s₁ B hml hP _
    have hh0 : s₁.heap = s.heap := by rw [B.state]; rfl
    obtain ⟨m9, meth9, c9, hn9, h1, h2, -, -, htb, -, -, -⟩ := Cond.codeWith_spec (atoms_spec (ws := [Cond.codeWith y cc maxL ret hh]) B.pre _ List.mem_cons_self)
    cases B.named.symm.trans hn9
    cases B.method.symm.trans h1
    cases (Stand.of_body B).code.symm.trans h2
    obtain ⟨t, a1, o, b1, b2, b3⟩ := body p e s m args below meth c B.exec B.bytes hml B.returns B.notSynchronized B.named htb hP s₁ hh0 (Stand.of_body B)
    exact ⟨t, o, a1, b1, b2, b3⟩
end XK3
section XK4
variable {p : Program} {l : Launch} {e : Env} {R : Room} {s : State} {m : MethodId} {args : Array Value} {below : List Frame} {meth : Method} {c : Code} {H : Heap} {locs : List Loc} {cells slots : Nat} {Q : State → Prop}
variable {y : MethodName} {cc bytes : ByteArray} {maxL nL mc ms n index : Nat} {ret : Option FieldType} {rm : Room} {Pc : Array Value → State → Prop} {Qc : Array Value → State → Outcome → State → Prop} {free : Addr → Prop} {own : String} {As rest : List Value} {g : JFrame} {hh : List (Nat × Nat × Nat × Nat)}
theorem xrunSW (F : xFix p R s m c cc nL own y maxL rm index n cells slots) (hE : xE s) (wl : Cond.methodLink own index y ∈ lw_tbl) (wi : Cond.static y ∈ lw_tbl) (wc : Cond.codeWith y bytes maxL ret hh ∈ lw_tbl) (wn : Cond.initialized y.cls ∈ lw_tbl)
    (hM : xMet l y (.codeWith y bytes maxL ret hh) rm Pc Qc mc ms free) (hp : xPre s H Pc As)
    (hg : g.method = m) (hn : As.length = n) (hsize : g.locals.size = nL) (hstack : g.stack = As.reverse ++ rest) (hW : 2 * g.monitorRoom + (rest.map fun v => v.category).sum ≤ 8) (hdg : decode cc g.pc = .ok (.invokestatic index, 3)) :
    xRun p l e R s m args below meth c H locs cells slots mc ms g rest (Qc As.toArray) free := by
  obtain ⟨hx, hb, hml, ho, hfr, hlo, hce, hsl, hy, hlen⟩ := F
  intro T hT X
  obtain ⟨mk, methM, cM, hnamed, hmethM, hcM, -, hlM, -, -, -, hsigM⟩ := Cond.codeWith_spec (hE _ wc rfl args)
  have hstatic : methM.isStatic = true := Cond.static_spec hnamed hmethM (hE _ wi rfl args)
  obtain ⟨kP, hkP, -⟩ := className_of_methodNamed hnamed
  have hinitP : kP.init = .initialized := Cond.initialized_spec (findClass_of_methodNamed hnamed) hkP (hE _ wn rfl args)
  have hdg' : decode c.code g.pc = .ok (.invokestatic index, 3) := by rw [hb]; exact hdg
  obtain ⟨vm₁, X₁, hstep₁⟩ := X.invokestatic hx ho (hE _ wl rfl args) hnamed hmethM hstatic hkP hinitP hy (g := g) hg (argsL := As) (rest := rest) (hn.trans (hlen _ hsigM)) hstack hdg'
  have hE₁ : xE (T.setVm vm₁) := hE.warm X₁.warmed
  obtain ⟨o, t, T', L, X', hL, e1, e2, hq, st⟩ := xcore X₁ hM hp.1 hfr hlo hce hsl (g := { g with stack := rest }) hg (hsize.trans hml.symm) hdg' hW (X₁.named hnamed)
    ⟨methM, cM, by rw [X₁.warmed.alike.method?]; exact hmethM, hcM, hlM⟩ (hE₁ _ wc rfl _) (hE₁ _ wn rfl _) (hp.2 (T.setVm vm₁) hT X₁.warmed)
  refine ⟨o, _, t, T', L, ?_, ?_, X', hL, e1, e2, hq, ?_⟩
  · exact hT
  · exact X₁.warmed.alike
  · cases o with
    | returned v => exact fun tg h => hstep₁ _ fun acts => by rw [doInvoke_state]; exact Steps.trans st h
    | threw x => exact hstep₁ _ fun acts => by rw [doInvoke_state]; exact st
end XK4
end
