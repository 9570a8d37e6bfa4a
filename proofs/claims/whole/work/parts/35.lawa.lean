theorem ml_L_70 : Cond.methodLink RL 70 yL_rate ∈ lw_tbl := List.mem_append_right _ (List.mem_of_getElem? (i := 262) (by decide +kernel))
theorem wt_L_rate : Cond.static yL_rate ∈ lw_tbl := List.mem_append_right _ (List.mem_of_getElem? (i := 263) (by decide +kernel))
theorem wn_L : Cond.initialized RL ∈ lw_tbl := List.mem_append_right _ (List.mem_of_getElem? (i := 0) (by decide +kernel))
theorem fx_L_rate : (yL_rate.cls ≠ "java/lang/invoke/MethodHandle" ∧ yL_rate.cls ≠ "java/lang/invoke/VarHandle") ∧ ∀ sig, parseMethodDescriptor yL_rate.desc = some sig → 4 = sig.parameters.length := ⟨⟨by decide +kernel, by decide +kernel⟩, xnp (by decide +kernel)⟩
theorem fx_X5_rate : (yX5_rate.cls ≠ "java/lang/invoke/MethodHandle" ∧ yX5_rate.cls ≠ "java/lang/invoke/VarHandle") ∧ ∀ sig, parseMethodDescriptor yX5_rate.desc = some sig → 2 = sig.parameters.length := ⟨⟨by decide +kernel, by decide +kernel⟩, xnp (by decide +kernel)⟩
theorem ml_L_75 : Cond.methodLink RL 75 yX5_rate ∈ lw_tbl := List.mem_append_right _ (List.mem_of_getElem? (i := 644) (by decide +kernel))
theorem wi_X5_rate : Cond.instanceMethod yX5_rate ∈ lw_tbl := List.mem_append_right _ (List.mem_of_getElem? (i := 645) (by decide +kernel))
theorem wz_X5_rate : Cond.selects RX5 yX5_rate yX5_rate ∈ lw_tbl := List.mem_append_right _ (List.mem_of_getElem? (i := 646) (by decide +kernel))
theorem wc_X5_rate : Cond.code yX5_rate cX5_rate 5 (some .int) ∈ lw_tbl := List.mem_append_right _ (List.mem_of_getElem? (i := 647) (by decide +kernel))
theorem fx_X5_thrown : (yX5_thrown.cls ≠ "java/lang/invoke/MethodHandle" ∧ yX5_thrown.cls ≠ "java/lang/invoke/VarHandle") ∧ ∀ sig, parseMethodDescriptor yX5_thrown.desc = some sig → 0 = sig.parameters.length := ⟨⟨by decide +kernel, by decide +kernel⟩, xnp (by decide +kernel)⟩
theorem ml_L_76 : Cond.methodLink RL 76 yX5_thrown ∈ lw_tbl := List.mem_append_right _ (List.mem_of_getElem? (i := 616) (by decide +kernel))
theorem wi_X5_thrown : Cond.instanceMethod yX5_thrown ∈ lw_tbl := List.mem_append_right _ (List.mem_of_getElem? (i := 617) (by decide +kernel))
theorem wz_X5_thrown : Cond.selects RX5 yX5_thrown yX5_thrown ∈ lw_tbl := List.mem_append_right _ (List.mem_of_getElem? (i := 618) (by decide +kernel))
theorem wc_X5_thrown : Cond.code yX5_thrown cX5_thrown 1 (some .int) ∈ lw_tbl := List.mem_append_right _ (List.mem_of_getElem? (i := 619) (by decide +kernel))
theorem ml_L_80 : Cond.methodLink RL 80 yL_flight ∈ lw_tbl := List.mem_append_right _ (List.mem_of_getElem? (i := 369) (by decide +kernel))
theorem wt_L_flight : Cond.static yL_flight ∈ lw_tbl := List.mem_append_right _ (List.mem_of_getElem? (i := 370) (by decide +kernel))
theorem fx_L_flight : (yL_flight.cls ≠ "java/lang/invoke/MethodHandle" ∧ yL_flight.cls ≠ "java/lang/invoke/VarHandle") ∧ ∀ sig, parseMethodDescriptor yL_flight.desc = some sig → 5 = sig.parameters.length := ⟨⟨by decide +kernel, by decide +kernel⟩, xnp (by decide +kernel)⟩
theorem fx_X5_flight : (yX5_flight.cls ≠ "java/lang/invoke/MethodHandle" ∧ yX5_flight.cls ≠ "java/lang/invoke/VarHandle") ∧ ∀ sig, parseMethodDescriptor yX5_flight.desc = some sig → 3 = sig.parameters.length := ⟨⟨by decide +kernel, by decide +kernel⟩, xnp (by decide +kernel)⟩
theorem ml_L_83 : Cond.methodLink RL 83 yX5_flight ∈ lw_tbl := List.mem_append_right _ (List.mem_of_getElem? (i := 654) (by decide +kernel))
theorem wi_X5_flight : Cond.instanceMethod yX5_flight ∈ lw_tbl := List.mem_append_right _ (List.mem_of_getElem? (i := 655) (by decide +kernel))
theorem wz_X5_flight : Cond.selects RX5 yX5_flight yX5_flight ∈ lw_tbl := List.mem_append_right _ (List.mem_of_getElem? (i := 656) (by decide +kernel))
theorem wc_X5_flight : Cond.code yX5_flight cX5_flight 5 (some .int) ∈ lw_tbl := List.mem_append_right _ (List.mem_of_getElem? (i := 657) (by decide +kernel))
theorem fx_X4_ration : (yX4_ration.cls ≠ "java/lang/invoke/MethodHandle" ∧ yX4_ration.cls ≠ "java/lang/invoke/VarHandle") ∧ ∀ sig, parseMethodDescriptor yX4_ration.desc = some sig → 0 = sig.parameters.length := ⟨⟨by decide +kernel, by decide +kernel⟩, xnp (by decide +kernel)⟩
theorem fx_X5_ration : (yX5_ration.cls ≠ "java/lang/invoke/MethodHandle" ∧ yX5_ration.cls ≠ "java/lang/invoke/VarHandle") ∧ ∀ sig, parseMethodDescriptor yX5_ration.desc = some sig → 0 = sig.parameters.length := ⟨⟨by decide +kernel, by decide +kernel⟩, xnp (by decide +kernel)⟩
theorem ml_L_84 : Cond.methodLink RL 84 yX4_ration ∈ lw_tbl := List.mem_append_right _ (List.mem_of_getElem? (i := 153) (by decide +kernel))
theorem wi_X4_ration : Cond.instanceMethod yX4_ration ∈ lw_tbl := List.mem_append_right _ (List.mem_of_getElem? (i := 154) (by decide +kernel))
theorem wz_X4_ration : Cond.selects RX4 yX4_ration yX4_ration ∈ lw_tbl := List.mem_append_right _ (List.mem_of_getElem? (i := 155) (by decide +kernel))
theorem wc_X4_ration : Cond.code yX4_ration cX4_ration 1 (some .int) ∈ lw_tbl := List.mem_append_right _ (List.mem_of_getElem? (i := 156) (by decide +kernel))
theorem ml_L_87 : Cond.methodLink RL 87 yX5_ration ∈ lw_tbl := List.mem_append_right _ (List.mem_of_getElem? (i := 620) (by decide +kernel))
theorem wi_X5_ration : Cond.instanceMethod yX5_ration ∈ lw_tbl := List.mem_append_right _ (List.mem_of_getElem? (i := 621) (by decide +kernel))
theorem wz_X5_ration : Cond.selects RX5 yX5_ration yX5_ration ∈ lw_tbl := List.mem_append_right _ (List.mem_of_getElem? (i := 622) (by decide +kernel))
theorem wc_X5_ration : Cond.code yX5_ration cX5_ration 1 (some .int) ∈ lw_tbl := List.mem_append_right _ (List.mem_of_getElem? (i := 623) (by decide +kernel))
theorem ml_L_88 : Cond.methodLink RL 88 yL_slotOf ∈ lw_tbl := List.mem_append_right _ (List.mem_of_getElem? (i := 395) (by decide +kernel))
theorem wt_L_slotOf : Cond.static yL_slotOf ∈ lw_tbl := List.mem_append_right _ (List.mem_of_getElem? (i := 396) (by decide +kernel))
theorem fx_L_slotOf : (yL_slotOf.cls ≠ "java/lang/invoke/MethodHandle" ∧ yL_slotOf.cls ≠ "java/lang/invoke/VarHandle") ∧ ∀ sig, parseMethodDescriptor yL_slotOf.desc = some sig → 3 = sig.parameters.length := ⟨⟨by decide +kernel, by decide +kernel⟩, xnp (by decide +kernel)⟩
theorem fx_X5_slotOf : (yX5_slotOf.cls ≠ "java/lang/invoke/MethodHandle" ∧ yX5_slotOf.cls ≠ "java/lang/invoke/VarHandle") ∧ ∀ sig, parseMethodDescriptor yX5_slotOf.desc = some sig → 1 = sig.parameters.length := ⟨⟨by decide +kernel, by decide +kernel⟩, xnp (by decide +kernel)⟩
theorem ml_L_91 : Cond.methodLink RL 91 yX5_slotOf ∈ lw_tbl := List.mem_append_right _ (List.mem_of_getElem? (i := 658) (by decide +kernel))
theorem wi_X5_slotOf : Cond.instanceMethod yX5_slotOf ∈ lw_tbl := List.mem_append_right _ (List.mem_of_getElem? (i := 659) (by decide +kernel))
theorem wz_X5_slotOf : Cond.selects RX5 yX5_slotOf yX5_slotOf ∈ lw_tbl := List.mem_append_right _ (List.mem_of_getElem? (i := 660) (by decide +kernel))
theorem wc_X5_slotOf : Cond.code yX5_slotOf cX5_slotOf 2 (some .int) ∈ lw_tbl := List.mem_append_right _ (List.mem_of_getElem? (i := 661) (by decide +kernel))
theorem ml_L_92 : Cond.methodLink RL 92 yL_ownerOf ∈ lw_tbl := List.mem_append_right _ (List.mem_of_getElem? (i := 407) (by decide +kernel))
theorem wt_L_ownerOf : Cond.static yL_ownerOf ∈ lw_tbl := List.mem_append_right _ (List.mem_of_getElem? (i := 408) (by decide +kernel))
theorem fx_L_ownerOf : (yL_ownerOf.cls ≠ "java/lang/invoke/MethodHandle" ∧ yL_ownerOf.cls ≠ "java/lang/invoke/VarHandle") ∧ ∀ sig, parseMethodDescriptor yL_ownerOf.desc = some sig → 3 = sig.parameters.length := ⟨⟨by decide +kernel, by decide +kernel⟩, xnp (by decide +kernel)⟩
theorem fx_X5_ownerOf : (yX5_ownerOf.cls ≠ "java/lang/invoke/MethodHandle" ∧ yX5_ownerOf.cls ≠ "java/lang/invoke/VarHandle") ∧ ∀ sig, parseMethodDescriptor yX5_ownerOf.desc = some sig → 1 = sig.parameters.length := ⟨⟨by decide +kernel, by decide +kernel⟩, xnp (by decide +kernel)⟩
theorem ml_L_94 : Cond.methodLink RL 94 yX5_ownerOf ∈ lw_tbl := List.mem_append_right _ (List.mem_of_getElem? (i := 666) (by decide +kernel))
theorem wi_X5_ownerOf : Cond.instanceMethod yX5_ownerOf ∈ lw_tbl := List.mem_append_right _ (List.mem_of_getElem? (i := 667) (by decide +kernel))
theorem wz_X5_ownerOf : Cond.selects RX5 yX5_ownerOf yX5_ownerOf ∈ lw_tbl := List.mem_append_right _ (List.mem_of_getElem? (i := 668) (by decide +kernel))
theorem wc_X5_ownerOf : Cond.code yX5_ownerOf cX5_ownerOf 2 (some .int) ∈ lw_tbl := List.mem_append_right _ (List.mem_of_getElem? (i := 669) (by decide +kernel))
theorem ml_L_95 : Cond.methodLink RL 95 yL_flightIn ∈ lw_tbl := List.mem_append_right _ (List.mem_of_getElem? (i := 435) (by decide +kernel))
theorem wt_L_flightIn : Cond.static yL_flightIn ∈ lw_tbl := List.mem_append_right _ (List.mem_of_getElem? (i := 436) (by decide +kernel))
theorem fx_L_flightIn : (yL_flightIn.cls ≠ "java/lang/invoke/MethodHandle" ∧ yL_flightIn.cls ≠ "java/lang/invoke/VarHandle") ∧ ∀ sig, parseMethodDescriptor yL_flightIn.desc = some sig → 3 = sig.parameters.length := ⟨⟨by decide +kernel, by decide +kernel⟩, xnp (by decide +kernel)⟩
theorem fx_X5_flightIn : (yX5_flightIn.cls ≠ "java/lang/invoke/MethodHandle" ∧ yX5_flightIn.cls ≠ "java/lang/invoke/VarHandle") ∧ ∀ sig, parseMethodDescriptor yX5_flightIn.desc = some sig → 1 = sig.parameters.length := ⟨⟨by decide +kernel, by decide +kernel⟩, xnp (by decide +kernel)⟩
theorem ml_L_97 : Cond.methodLink RL 97 yX5_flightIn ∈ lw_tbl := List.mem_append_right _ (List.mem_of_getElem? (i := 674) (by decide +kernel))
theorem wi_X5_flightIn : Cond.instanceMethod yX5_flightIn ∈ lw_tbl := List.mem_append_right _ (List.mem_of_getElem? (i := 675) (by decide +kernel))
theorem wz_X5_flightIn : Cond.selects RX5 yX5_flightIn yX5_flightIn ∈ lw_tbl := List.mem_append_right _ (List.mem_of_getElem? (i := 676) (by decide +kernel))
theorem wc_X5_flightIn : Cond.code yX5_flightIn cX5_flightIn 2 (some .int) ∈ lw_tbl := List.mem_append_right _ (List.mem_of_getElem? (i := 677) (by decide +kernel))
theorem ml_L_98 : Cond.methodLink RL 98 yL_later ∈ lw_tbl := List.mem_append_right _ (List.mem_of_getElem? (i := 442) (by decide +kernel))
theorem wt_L_later : Cond.static yL_later ∈ lw_tbl := List.mem_append_right _ (List.mem_of_getElem? (i := 443) (by decide +kernel))
theorem fx_L_later : (yL_later.cls ≠ "java/lang/invoke/MethodHandle" ∧ yL_later.cls ≠ "java/lang/invoke/VarHandle") ∧ ∀ sig, parseMethodDescriptor yL_later.desc = some sig → 4 = sig.parameters.length := ⟨⟨by decide +kernel, by decide +kernel⟩, xnp (by decide +kernel)⟩
theorem fx_X5_later : (yX5_later.cls ≠ "java/lang/invoke/MethodHandle" ∧ yX5_later.cls ≠ "java/lang/invoke/VarHandle") ∧ ∀ sig, parseMethodDescriptor yX5_later.desc = some sig → 2 = sig.parameters.length := ⟨⟨by decide +kernel, by decide +kernel⟩, xnp (by decide +kernel)⟩
theorem ml_L_100 : Cond.methodLink RL 100 yX5_later ∈ lw_tbl := List.mem_append_right _ (List.mem_of_getElem? (i := 678) (by decide +kernel))
theorem wi_X5_later : Cond.instanceMethod yX5_later ∈ lw_tbl := List.mem_append_right _ (List.mem_of_getElem? (i := 679) (by decide +kernel))
theorem wz_X5_later : Cond.selects RX5 yX5_later yX5_later ∈ lw_tbl := List.mem_append_right _ (List.mem_of_getElem? (i := 680) (by decide +kernel))
theorem wc_X5_later : Cond.code yX5_later cX5_later 4 (some .boolean) ∈ lw_tbl := List.mem_append_right _ (List.mem_of_getElem? (i := 681) (by decide +kernel))
theorem ml_L_101 : Cond.methodLink RL 101 yL_cancel ∈ lw_tbl := List.mem_append_right _ (List.mem_of_getElem? (i := 458) (by decide +kernel))
theorem wt_L_cancel : Cond.static yL_cancel ∈ lw_tbl := List.mem_append_right _ (List.mem_of_getElem? (i := 459) (by decide +kernel))
theorem fx_L_cancel : (yL_cancel.cls ≠ "java/lang/invoke/MethodHandle" ∧ yL_cancel.cls ≠ "java/lang/invoke/VarHandle") ∧ ∀ sig, parseMethodDescriptor yL_cancel.desc = some sig → 3 = sig.parameters.length := ⟨⟨by decide +kernel, by decide +kernel⟩, xnp (by decide +kernel)⟩
theorem fx_X5_cancel : (yX5_cancel.cls ≠ "java/lang/invoke/MethodHandle" ∧ yX5_cancel.cls ≠ "java/lang/invoke/VarHandle") ∧ ∀ sig, parseMethodDescriptor yX5_cancel.desc = some sig → 1 = sig.parameters.length := ⟨⟨by decide +kernel, by decide +kernel⟩, xnp (by decide +kernel)⟩
theorem ml_L_103 : Cond.methodLink RL 103 yX5_cancel ∈ lw_tbl := List.mem_append_right _ (List.mem_of_getElem? (i := 686) (by decide +kernel))
theorem wi_X5_cancel : Cond.instanceMethod yX5_cancel ∈ lw_tbl := List.mem_append_right _ (List.mem_of_getElem? (i := 687) (by decide +kernel))
theorem wz_X5_cancel : Cond.selects RX5 yX5_cancel yX5_cancel ∈ lw_tbl := List.mem_append_right _ (List.mem_of_getElem? (i := 688) (by decide +kernel))
theorem wc_X5_cancel : Cond.code yX5_cancel cX5_cancel 3 (some .boolean) ∈ lw_tbl := List.mem_append_right _ (List.mem_of_getElem? (i := 689) (by decide +kernel))
theorem ml_L_104 : Cond.methodLink RL 104 yL_airborne ∈ lw_tbl := List.mem_append_right _ (List.mem_of_getElem? (i := 465) (by decide +kernel))
theorem wt_L_airborne : Cond.static yL_airborne ∈ lw_tbl := List.mem_append_right _ (List.mem_of_getElem? (i := 466) (by decide +kernel))
theorem fx_L_airborne : (yL_airborne.cls ≠ "java/lang/invoke/MethodHandle" ∧ yL_airborne.cls ≠ "java/lang/invoke/VarHandle") ∧ ∀ sig, parseMethodDescriptor yL_airborne.desc = some sig → 2 = sig.parameters.length := ⟨⟨by decide +kernel, by decide +kernel⟩, xnp (by decide +kernel)⟩
theorem fx_X5_airborne : (yX5_airborne.cls ≠ "java/lang/invoke/MethodHandle" ∧ yX5_airborne.cls ≠ "java/lang/invoke/VarHandle") ∧ ∀ sig, parseMethodDescriptor yX5_airborne.desc = some sig → 1 = sig.parameters.length := ⟨⟨by decide +kernel, by decide +kernel⟩, xnp (by decide +kernel)⟩
theorem ml_L_107 : Cond.methodLink RL 107 yX5_airborne ∈ lw_tbl := List.mem_append_right _ (List.mem_of_getElem? (i := 690) (by decide +kernel))
theorem wi_X5_airborne : Cond.instanceMethod yX5_airborne ∈ lw_tbl := List.mem_append_right _ (List.mem_of_getElem? (i := 691) (by decide +kernel))
theorem wz_X5_airborne : Cond.selects RX5 yX5_airborne yX5_airborne ∈ lw_tbl := List.mem_append_right _ (List.mem_of_getElem? (i := 692) (by decide +kernel))
theorem wc_X5_airborne : Cond.code yX5_airborne cX5_airborne 2 none ∈ lw_tbl := List.mem_append_right _ (List.mem_of_getElem? (i := 693) (by decide +kernel))
theorem ml_L_108 : Cond.methodLink RL 108 yL_swap ∈ lw_tbl := List.mem_append_right _ (List.mem_of_getElem? (i := 473) (by decide +kernel))
theorem wt_L_swap : Cond.static yL_swap ∈ lw_tbl := List.mem_append_right _ (List.mem_of_getElem? (i := 474) (by decide +kernel))
theorem fx_L_swap : (yL_swap.cls ≠ "java/lang/invoke/MethodHandle" ∧ yL_swap.cls ≠ "java/lang/invoke/VarHandle") ∧ ∀ sig, parseMethodDescriptor yL_swap.desc = some sig → 3 = sig.parameters.length := ⟨⟨by decide +kernel, by decide +kernel⟩, xnp (by decide +kernel)⟩
theorem fx_X5_swap : (yX5_swap.cls ≠ "java/lang/invoke/MethodHandle" ∧ yX5_swap.cls ≠ "java/lang/invoke/VarHandle") ∧ ∀ sig, parseMethodDescriptor yX5_swap.desc = some sig → 2 = sig.parameters.length := ⟨⟨by decide +kernel, by decide +kernel⟩, xnp (by decide +kernel)⟩
theorem ml_L_111 : Cond.methodLink RL 111 yX5_swap ∈ lw_tbl := List.mem_append_right _ (List.mem_of_getElem? (i := 694) (by decide +kernel))
theorem wi_X5_swap : Cond.instanceMethod yX5_swap ∈ lw_tbl := List.mem_append_right _ (List.mem_of_getElem? (i := 695) (by decide +kernel))
theorem wz_X5_swap : Cond.selects RX5 yX5_swap yX5_swap ∈ lw_tbl := List.mem_append_right _ (List.mem_of_getElem? (i := 696) (by decide +kernel))
theorem wc_X5_swap : Cond.code yX5_swap cX5_swap 4 none ∈ lw_tbl := List.mem_append_right _ (List.mem_of_getElem? (i := 697) (by decide +kernel))
theorem ml_L_112 : Cond.methodLink RL 112 yL_offer ∈ lw_tbl := List.mem_append_right _ (List.mem_of_getElem? (i := 483) (by decide +kernel))
theorem wt_L_offer : Cond.static yL_offer ∈ lw_tbl := List.mem_append_right _ (List.mem_of_getElem? (i := 484) (by decide +kernel))
theorem fx_L_offer : (yL_offer.cls ≠ "java/lang/invoke/MethodHandle" ∧ yL_offer.cls ≠ "java/lang/invoke/VarHandle") ∧ ∀ sig, parseMethodDescriptor yL_offer.desc = some sig → 5 = sig.parameters.length := ⟨⟨by decide +kernel, by decide +kernel⟩, xnp (by decide +kernel)⟩
theorem fx_X5_offer : (yX5_offer.cls ≠ "java/lang/invoke/MethodHandle" ∧ yX5_offer.cls ≠ "java/lang/invoke/VarHandle") ∧ ∀ sig, parseMethodDescriptor yX5_offer.desc = some sig → 3 = sig.parameters.length := ⟨⟨by decide +kernel, by decide +kernel⟩, xnp (by decide +kernel)⟩
theorem ml_L_114 : Cond.methodLink RL 114 yX5_offer ∈ lw_tbl := List.mem_append_right _ (List.mem_of_getElem? (i := 706) (by decide +kernel))
theorem wi_X5_offer : Cond.instanceMethod yX5_offer ∈ lw_tbl := List.mem_append_right _ (List.mem_of_getElem? (i := 707) (by decide +kernel))
theorem wz_X5_offer : Cond.selects RX5 yX5_offer yX5_offer ∈ lw_tbl := List.mem_append_right _ (List.mem_of_getElem? (i := 708) (by decide +kernel))
theorem wc_X5_offer : Cond.code yX5_offer cX5_offer 4 (some .int) ∈ lw_tbl := List.mem_append_right _ (List.mem_of_getElem? (i := 709) (by decide +kernel))
theorem ml_L_115 : Cond.methodLink RL 115 yL_drop ∈ lw_tbl := List.mem_append_right _ (List.mem_of_getElem? (i := 497) (by decide +kernel))
theorem wt_L_drop : Cond.static yL_drop ∈ lw_tbl := List.mem_append_right _ (List.mem_of_getElem? (i := 498) (by decide +kernel))
theorem fx_L_drop : (yL_drop.cls ≠ "java/lang/invoke/MethodHandle" ∧ yL_drop.cls ≠ "java/lang/invoke/VarHandle") ∧ ∀ sig, parseMethodDescriptor yL_drop.desc = some sig → 3 = sig.parameters.length := ⟨⟨by decide +kernel, by decide +kernel⟩, xnp (by decide +kernel)⟩
theorem fx_X5_drop : (yX5_drop.cls ≠ "java/lang/invoke/MethodHandle" ∧ yX5_drop.cls ≠ "java/lang/invoke/VarHandle") ∧ ∀ sig, parseMethodDescriptor yX5_drop.desc = some sig → 1 = sig.parameters.length := ⟨⟨by decide +kernel, by decide +kernel⟩, xnp (by decide +kernel)⟩
theorem ml_L_117 : Cond.methodLink RL 117 yX5_drop ∈ lw_tbl := List.mem_append_right _ (List.mem_of_getElem? (i := 710) (by decide +kernel))
theorem wi_X5_drop : Cond.instanceMethod yX5_drop ∈ lw_tbl := List.mem_append_right _ (List.mem_of_getElem? (i := 711) (by decide +kernel))
theorem wz_X5_drop : Cond.selects RX5 yX5_drop yX5_drop ∈ lw_tbl := List.mem_append_right _ (List.mem_of_getElem? (i := 712) (by decide +kernel))
theorem wc_X5_drop : Cond.code yX5_drop cX5_drop 3 (some .boolean) ∈ lw_tbl := List.mem_append_right _ (List.mem_of_getElem? (i := 713) (by decide +kernel))
theorem fx_X4_trade : (yX4_trade.cls ≠ "java/lang/invoke/MethodHandle" ∧ yX4_trade.cls ≠ "java/lang/invoke/VarHandle") ∧ ∀ sig, parseMethodDescriptor yX4_trade.desc = some sig → 0 = sig.parameters.length := ⟨⟨by decide +kernel, by decide +kernel⟩, xnp (by decide +kernel)⟩
theorem fx_X5_trade : (yX5_trade.cls ≠ "java/lang/invoke/MethodHandle" ∧ yX5_trade.cls ≠ "java/lang/invoke/VarHandle") ∧ ∀ sig, parseMethodDescriptor yX5_trade.desc = some sig → 0 = sig.parameters.length := ⟨⟨by decide +kernel, by decide +kernel⟩, xnp (by decide +kernel)⟩
theorem ml_L_118 : Cond.methodLink RL 118 yX4_trade ∈ lw_tbl := List.mem_append_right _ (List.mem_of_getElem? (i := 193) (by decide +kernel))
theorem wi_X4_trade : Cond.instanceMethod yX4_trade ∈ lw_tbl := List.mem_append_right _ (List.mem_of_getElem? (i := 194) (by decide +kernel))
theorem wz_X4_trade : Cond.selects RX4 yX4_trade yX4_trade ∈ lw_tbl := List.mem_append_right _ (List.mem_of_getElem? (i := 195) (by decide +kernel))
theorem wc_X4_trade : Cond.code yX4_trade cX4_trade 3 (some .int) ∈ lw_tbl := List.mem_append_right _ (List.mem_of_getElem? (i := 196) (by decide +kernel))
theorem ml_L_121 : Cond.methodLink RL 121 yX5_trade ∈ lw_tbl := List.mem_append_right _ (List.mem_of_getElem? (i := 714) (by decide +kernel))
theorem wi_X5_trade : Cond.instanceMethod yX5_trade ∈ lw_tbl := List.mem_append_right _ (List.mem_of_getElem? (i := 715) (by decide +kernel))
theorem wz_X5_trade : Cond.selects RX5 yX5_trade yX5_trade ∈ lw_tbl := List.mem_append_right _ (List.mem_of_getElem? (i := 716) (by decide +kernel))
theorem wc_X5_trade : Cond.code yX5_trade cX5_trade 5 (some .int) ∈ lw_tbl := List.mem_append_right _ (List.mem_of_getElem? (i := 717) (by decide +kernel))
theorem fx_X4_compress : (yX4_compress.cls ≠ "java/lang/invoke/MethodHandle" ∧ yX4_compress.cls ≠ "java/lang/invoke/VarHandle") ∧ ∀ sig, parseMethodDescriptor yX4_compress.desc = some sig → 0 = sig.parameters.length := ⟨⟨by decide +kernel, by decide +kernel⟩, xnp (by decide +kernel)⟩
theorem fx_X5_compress : (yX5_compress.cls ≠ "java/lang/invoke/MethodHandle" ∧ yX5_compress.cls ≠ "java/lang/invoke/VarHandle") ∧ ∀ sig, parseMethodDescriptor yX5_compress.desc = some sig → 0 = sig.parameters.length := ⟨⟨by decide +kernel, by decide +kernel⟩, xnp (by decide +kernel)⟩
theorem ml_L_122 : Cond.methodLink RL 122 yX4_compress ∈ lw_tbl := List.mem_append_right _ (List.mem_of_getElem? (i := 234) (by decide +kernel))
theorem wi_X4_compress : Cond.instanceMethod yX4_compress ∈ lw_tbl := List.mem_append_right _ (List.mem_of_getElem? (i := 235) (by decide +kernel))
theorem wz_X4_compress : Cond.selects RX4 yX4_compress yX4_compress ∈ lw_tbl := List.mem_append_right _ (List.mem_of_getElem? (i := 236) (by decide +kernel))
theorem wc_X4_compress : Cond.code yX4_compress cX4_compress 4 (some .int) ∈ lw_tbl := List.mem_append_right _ (List.mem_of_getElem? (i := 237) (by decide +kernel))
theorem ml_L_125 : Cond.methodLink RL 125 yX5_compress ∈ lw_tbl := List.mem_append_right _ (List.mem_of_getElem? (i := 730) (by decide +kernel))
theorem wi_X5_compress : Cond.instanceMethod yX5_compress ∈ lw_tbl := List.mem_append_right _ (List.mem_of_getElem? (i := 731) (by decide +kernel))
theorem wz_X5_compress : Cond.selects RX5 yX5_compress yX5_compress ∈ lw_tbl := List.mem_append_right _ (List.mem_of_getElem? (i := 732) (by decide +kernel))
theorem wc_X5_compress : Cond.code yX5_compress cX5_compress 2 (some .int) ∈ lw_tbl := List.mem_append_right _ (List.mem_of_getElem? (i := 733) (by decide +kernel))
theorem fx_X4_gaps : (yX4_gaps.cls ≠ "java/lang/invoke/MethodHandle" ∧ yX4_gaps.cls ≠ "java/lang/invoke/VarHandle") ∧ ∀ sig, parseMethodDescriptor yX4_gaps.desc = some sig → 0 = sig.parameters.length := ⟨⟨by decide +kernel, by decide +kernel⟩, xnp (by decide +kernel)⟩
theorem fx_X5_gaps : (yX5_gaps.cls ≠ "java/lang/invoke/MethodHandle" ∧ yX5_gaps.cls ≠ "java/lang/invoke/VarHandle") ∧ ∀ sig, parseMethodDescriptor yX5_gaps.desc = some sig → 0 = sig.parameters.length := ⟨⟨by decide +kernel, by decide +kernel⟩, xnp (by decide +kernel)⟩
theorem ml_L_126 : Cond.methodLink RL 126 yX4_gaps ∈ lw_tbl := List.mem_append_right _ (List.mem_of_getElem? (i := 250) (by decide +kernel))
theorem wi_X4_gaps : Cond.instanceMethod yX4_gaps ∈ lw_tbl := List.mem_append_right _ (List.mem_of_getElem? (i := 251) (by decide +kernel))
theorem wz_X4_gaps : Cond.selects RX4 yX4_gaps yX4_gaps ∈ lw_tbl := List.mem_append_right _ (List.mem_of_getElem? (i := 252) (by decide +kernel))
theorem wc_X4_gaps : Cond.code yX4_gaps cX4_gaps 3 (some .int) ∈ lw_tbl := List.mem_append_right _ (List.mem_of_getElem? (i := 253) (by decide +kernel))
theorem ml_L_129 : Cond.methodLink RL 129 yX5_gaps ∈ lw_tbl := List.mem_append_right _ (List.mem_of_getElem? (i := 746) (by decide +kernel))
theorem wi_X5_gaps : Cond.instanceMethod yX5_gaps ∈ lw_tbl := List.mem_append_right _ (List.mem_of_getElem? (i := 747) (by decide +kernel))
theorem wz_X5_gaps : Cond.selects RX5 yX5_gaps yX5_gaps ∈ lw_tbl := List.mem_append_right _ (List.mem_of_getElem? (i := 748) (by decide +kernel))
theorem wc_X5_gaps : Cond.code yX5_gaps cX5_gaps 4 (some .int) ∈ lw_tbl := List.mem_append_right _ (List.mem_of_getElem? (i := 749) (by decide +kernel))
theorem ml_L_130 : Cond.methodLink RL 130 yL_delay ∈ lw_tbl := List.mem_append_right _ (List.mem_of_getElem? (i := 505) (by decide +kernel))
theorem wt_L_delay : Cond.static yL_delay ∈ lw_tbl := List.mem_append_right _ (List.mem_of_getElem? (i := 506) (by decide +kernel))
theorem fx_L_delay : (yL_delay.cls ≠ "java/lang/invoke/MethodHandle" ∧ yL_delay.cls ≠ "java/lang/invoke/VarHandle") ∧ ∀ sig, parseMethodDescriptor yL_delay.desc = some sig → 3 = sig.parameters.length := ⟨⟨by decide +kernel, by decide +kernel⟩, xnp (by decide +kernel)⟩
theorem fx_X5_delay : (yX5_delay.cls ≠ "java/lang/invoke/MethodHandle" ∧ yX5_delay.cls ≠ "java/lang/invoke/VarHandle") ∧ ∀ sig, parseMethodDescriptor yX5_delay.desc = some sig → 1 = sig.parameters.length := ⟨⟨by decide +kernel, by decide +kernel⟩, xnp (by decide +kernel)⟩
theorem ml_L_132 : Cond.methodLink RL 132 yX5_delay ∈ lw_tbl := List.mem_append_right _ (List.mem_of_getElem? (i := 750) (by decide +kernel))
theorem wi_X5_delay : Cond.instanceMethod yX5_delay ∈ lw_tbl := List.mem_append_right _ (List.mem_of_getElem? (i := 751) (by decide +kernel))
theorem wz_X5_delay : Cond.selects RX5 yX5_delay yX5_delay ∈ lw_tbl := List.mem_append_right _ (List.mem_of_getElem? (i := 752) (by decide +kernel))
theorem wc_X5_delay : Cond.code yX5_delay cX5_delay 4 (some .int) ∈ lw_tbl := List.mem_append_right _ (List.mem_of_getElem? (i := 753) (by decide +kernel))
theorem ml_L_133 : Cond.methodLink RL 133 yL_owned ∈ lw_tbl := List.mem_append_right _ (List.mem_of_getElem? (i := 516) (by decide +kernel))
theorem wt_L_owned : Cond.static yL_owned ∈ lw_tbl := List.mem_append_right _ (List.mem_of_getElem? (i := 517) (by decide +kernel))
theorem fx_L_owned : (yL_owned.cls ≠ "java/lang/invoke/MethodHandle" ∧ yL_owned.cls ≠ "java/lang/invoke/VarHandle") ∧ ∀ sig, parseMethodDescriptor yL_owned.desc = some sig → 3 = sig.parameters.length := ⟨⟨by decide +kernel, by decide +kernel⟩, xnp (by decide +kernel)⟩
theorem fx_X5_owned : (yX5_owned.cls ≠ "java/lang/invoke/MethodHandle" ∧ yX5_owned.cls ≠ "java/lang/invoke/VarHandle") ∧ ∀ sig, parseMethodDescriptor yX5_owned.desc = some sig → 1 = sig.parameters.length := ⟨⟨by decide +kernel, by decide +kernel⟩, xnp (by decide +kernel)⟩
theorem ml_L_135 : Cond.methodLink RL 135 yX5_owned ∈ lw_tbl := List.mem_append_right _ (List.mem_of_getElem? (i := 754) (by decide +kernel))
theorem wi_X5_owned : Cond.instanceMethod yX5_owned ∈ lw_tbl := List.mem_append_right _ (List.mem_of_getElem? (i := 755) (by decide +kernel))
theorem wz_X5_owned : Cond.selects RX5 yX5_owned yX5_owned ∈ lw_tbl := List.mem_append_right _ (List.mem_of_getElem? (i := 756) (by decide +kernel))
theorem wc_X5_owned : Cond.code yX5_owned cX5_owned 4 (some .int) ∈ lw_tbl := List.mem_append_right _ (List.mem_of_getElem? (i := 757) (by decide +kernel))
theorem fx_X4_log : (yX4_log.cls ≠ "java/lang/invoke/MethodHandle" ∧ yX4_log.cls ≠ "java/lang/invoke/VarHandle") ∧ ∀ sig, parseMethodDescriptor yX4_log.desc = some sig → 0 = sig.parameters.length := ⟨⟨by decide +kernel, by decide +kernel⟩, xnp (by decide +kernel)⟩
theorem fx_X5_log : (yX5_log.cls ≠ "java/lang/invoke/MethodHandle" ∧ yX5_log.cls ≠ "java/lang/invoke/VarHandle") ∧ ∀ sig, parseMethodDescriptor yX5_log.desc = some sig → 0 = sig.parameters.length := ⟨⟨by decide +kernel, by decide +kernel⟩, xnp (by decide +kernel)⟩
theorem ml_L_136 : Cond.methodLink RL 136 yX4_log ∈ lw_tbl := List.mem_append_right _ (List.mem_of_getElem? (i := 258) (by decide +kernel))
theorem wi_X4_log : Cond.instanceMethod yX4_log ∈ lw_tbl := List.mem_append_right _ (List.mem_of_getElem? (i := 259) (by decide +kernel))
theorem wz_X4_log : Cond.selects RX4 yX4_log yX4_log ∈ lw_tbl := List.mem_append_right _ (List.mem_of_getElem? (i := 260) (by decide +kernel))
theorem wc_X4_log : Cond.code yX4_log cX4_log 1 (some .int) ∈ lw_tbl := List.mem_append_right _ (List.mem_of_getElem? (i := 261) (by decide +kernel))
theorem ml_L_139 : Cond.methodLink RL 139 yX5_log ∈ lw_tbl := List.mem_append_right _ (List.mem_of_getElem? (i := 758) (by decide +kernel))
theorem wi_X5_log : Cond.instanceMethod yX5_log ∈ lw_tbl := List.mem_append_right _ (List.mem_of_getElem? (i := 759) (by decide +kernel))
theorem wz_X5_log : Cond.selects RX5 yX5_log yX5_log ∈ lw_tbl := List.mem_append_right _ (List.mem_of_getElem? (i := 760) (by decide +kernel))
theorem wc_X5_log : Cond.code yX5_log cX5_log 1 (some .int) ∈ lw_tbl := List.mem_append_right _ (List.mem_of_getElem? (i := 761) (by decide +kernel))
theorem ml_L_140 : Cond.methodLink RL 140 yL_entry ∈ lw_tbl := List.mem_append_right _ (List.mem_of_getElem? (i := 527) (by decide +kernel))
theorem wt_L_entry : Cond.static yL_entry ∈ lw_tbl := List.mem_append_right _ (List.mem_of_getElem? (i := 528) (by decide +kernel))
theorem fx_L_entry : (yL_entry.cls ≠ "java/lang/invoke/MethodHandle" ∧ yL_entry.cls ≠ "java/lang/invoke/VarHandle") ∧ ∀ sig, parseMethodDescriptor yL_entry.desc = some sig → 4 = sig.parameters.length := ⟨⟨by decide +kernel, by decide +kernel⟩, xnp (by decide +kernel)⟩
theorem fx_X5_entry : (yX5_entry.cls ≠ "java/lang/invoke/MethodHandle" ∧ yX5_entry.cls ≠ "java/lang/invoke/VarHandle") ∧ ∀ sig, parseMethodDescriptor yX5_entry.desc = some sig → 2 = sig.parameters.length := ⟨⟨by decide +kernel, by decide +kernel⟩, xnp (by decide +kernel)⟩
theorem ml_L_142 : Cond.methodLink RL 142 yX5_entry ∈ lw_tbl := List.mem_append_right _ (List.mem_of_getElem? (i := 762) (by decide +kernel))
theorem wi_X5_entry : Cond.instanceMethod yX5_entry ∈ lw_tbl := List.mem_append_right _ (List.mem_of_getElem? (i := 763) (by decide +kernel))
theorem wz_X5_entry : Cond.selects RX5 yX5_entry yX5_entry ∈ lw_tbl := List.mem_append_right _ (List.mem_of_getElem? (i := 764) (by decide +kernel))
theorem wc_X5_entry : Cond.code yX5_entry cX5_entry 3 (some .int) ∈ lw_tbl := List.mem_append_right _ (List.mem_of_getElem? (i := 765) (by decide +kernel))
/-! The law's loop: a case a call. -/
def xLC (p : Program) (s : State) (m : MethodId) (c : Code) (l : Launch) (b L : Nat) (xs : Nat → Int32) (D : va_G) (k : Nat → ClassId) : Prop :=
  p.tables.exec = Jvm.exec ∧ c.code = code ∧ c.maxLocals = 7 ∧ s.vm.findClass RL = some m.cls ∧ va_X b L xs s s.heap ∧ b < s.heap.size ∧ L < 2 ^ 31 ∧ xG D k s ∧ xSt s ∧ xN s ∧ l.stackTraces = false
section XLA
variable {p : Program} {l : Launch} {e : Env} {R : Room} {s : State} {m : MethodId} {args : Array Value} {below : List Frame} {meth : Method} {c : Code} {H H0 : Heap} {locs : List Loc} {cells slots : Nat} {Q : State → Prop}
variable {D : va_G} {q : Nat → Nat} {k : Nat → ClassId} {a b a1 : xT} {o o1 : Nat → Int64} {A : Nat → Prop} {av : List Value} {pc : Nat} {ls : Array Slot} {st0 rest : List Value} {ar : Array Value}
theorem xwDo (h : va_D A (xw q k a b o)) : va_D A (xw q k a1 b o1) := by
  have h1 : va_D A (xw q k a1 b o) := xwD h
  have hm : (xw q k a1 b o1).map (fun z => z.1) = (xw q k a1 b o).map (fun z => z.1) := rfl
  have key : ∀ (i : Nat) (z : Nat × va_E), (xw q k a1 b o1)[i]? = some z → ∃ w, (xw q k a1 b o)[i]? = some (z.1, w) := by
    intro i z hz
    have h2 : ((xw q k a1 b o1).map (fun z => z.1))[i]? = some z.1 := by rw [List.getElem?_map, hz]; rfl
    rw [hm, List.getElem?_map] at h2
    cases hw : (xw q k a1 b o)[i]? with
    | none => rw [hw] at h2; cases h2
    | some w =>
      rw [hw] at h2
      have h3 : w.1 = z.1 := Option.some.inj h2
      exact ⟨w.2, by rw [← h3]⟩
  refine ⟨fun i j u v hi hj huv => ?_, fun i u hi => ?_⟩
  · obtain ⟨wi, hwi⟩ := key i u hi
    obtain ⟨wj, hwj⟩ := key j v hj
    exact h1.1 i j _ _ hwi hwj huv
  · obtain ⟨wi, hwi⟩ := key i u hi
    exact h1.2 i (u.1, wi) hwi
theorem xgo_h {kc : Int32} (hr : xRun p l e R s m args below meth c H locs cells slots 1 6 (F0 m pc ls st0) rest (xQh D q k a b o kc a1 o1 ar) (va_A (xw q k a b o) H.size)) (hD : va_D A (xw q k a b o)) (hS : va_S A H0 H locs) (hA : ∀ u, H0.size ≤ u → A u)
    (kk : ∀ (H1 : Heap) (locs1 : List Loc), va_P D vwCl (xw q k a1 b o1) H1 → va_D A (xw q k a1 b o1) → va_S A H0 H1 locs1 → W p l e R s m args below meth c H1 locs1 (cells + 1) (slots + 6) Q (F0 m (pc + 3) ls (.int kc :: rest))) : W p l e R s m args below meth c H locs cells slots Q (F0 m pc ls st0) := by
  intro T hT X
  obtain ⟨oc, st, t, T', L, h0, hal, X', hL, e1, e2, ⟨rfl, hP1, hz, hk⟩, go⟩ := hr T hT X
  rw [h0] at hz hk
  have hF : ∀ u, va_A (xw q k a b o) H.size u → A u := fun u h => by
    rcases h with ⟨i, w, h⟩ | h
    · exact hD.2 i _ h
    · exact hA u (Nat.le_trans hS.1 h)
  obtain ⟨t2, a2, b2⟩ := kk T'.heap (locs ++ L) (by rw [e1]; exact hP1) (xwDo hD)
    ⟨Nat.le_trans hS.1 (by rw [e1]; exact hz), fun u h1 h2 => by rw [e1, hk u (Nat.lt_of_lt_of_le h1 hS.1) (fun h => h2 (hF u h))]; exact hS.2.1 u h1 h2, fun u hu => by
      rcases List.mem_append.mp hu with h | h
      · exact hS.2.2 u h
      · exact hF _ (hL u h)⟩ T' rfl X'
  exact ⟨t2, go t2 a2, b2⟩
theorem xpreH (hP : va_P D vwCl (xw q k a b o) H) (hD : va_D A (xw q k a b o)) (hG : xG D k s) (hst : xSt s) (hNc : xN s) (hS : va_S (fun u => s.heap.size ≤ u) s.heap H locs) : xPre s H (xPcH D q k H.size a b o av) av :=
  ⟨fun _ U _ _ h => ⟨h.1, h.2.1, h.2.2.1, h.2.2.2.1, h.2.2.2.2.1.call, h.2.2.2.2.2.1.call, h.2.2.2.2.2.2.moved (Vm.Alike.refl U.vm)⟩, fun U hU hW => ⟨rfl, by rw [hU], by rw [hU]; exact hP, hD.weaken (fun _ _ _ _ => trivial), hG.warm hW, hst.moved hW.alike (fun z cell h _ => by
    have hz : z < s.heap.size := (Array.getElem?_eq_some_iff.mp h).1
    rw [hU, hS.2.1 z hz (Nat.not_le.mpr hz)]; exact h), hNc.moved hW.alike⟩⟩
theorem xsc {cc : ByteArray} {b0 L i j : Nat} {xs : Nat → Int32} {v : Int32} (hx : p.tables.exec = Jvm.exec) (hb : c.code = cc) (hv : v = nI j) (hX : va_X b0 L xs s s.heap) (hbl : b0 < s.heap.size) (hS : va_S (fun u => s.heap.size ≤ u) s.heap H locs) (hj : i + j < L) (hL : L < 2 ^ 31) (hdg : decode cc pc = .ok (.iaload, 1))
    (kk : W p l e R s m args below meth c H locs cells slots Q (F0 m (pc + 1) ls (.int (xs (i + j)) :: rest))) : W p l e R s m args below meth c H locs cells slots Q (F0 m pc ls (.int (nI i + v) :: .ref b0 :: rest)) := by
  subst hv
  rw [nI_add]
  refine va_sld hx hb hX hbl (Nat.not_le.mpr hbl) hS (vp_in_nI hj hL) hdg ?_
  rw [nI_clamp (Nat.lt_trans hj hL)]
  exact kk
theorem xcmp0 {x y : Int64} (h : x = y) : lg_cmp x y = 0 := by subst h; simp [lg_cmp]
end XLA
