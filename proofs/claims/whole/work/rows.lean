section
-- ===== PART A: goes FIRST, ahead of the names: the tables' words, and 'selects' of the private methods out of them =====
/-- a private method of a class that the tables say can be made, by its rows of tables_1 -/
def lw_okq (q : MethodName × Nat) : Prop := (q.1.cls ≠ "java/lang/invoke/MethodHandle" ∧ q.1.cls ≠ "java/lang/invoke/VarHandle") ∧ Cond.instantiable q.1.cls q.2 ∈ tables_1 ∧ Cond.privateMethod q.1 ∈ tables_1 ∧ Cond.instanceMethod q.1 ∈ tables_1
theorem lw_p0 : lw_okq (⟨"AddressClaimBus", "isFunction", "(I)Z"⟩, 2) := ⟨⟨by decide +kernel, by decide +kernel⟩, List.mem_of_getElem? (i := 11) (by decide +kernel), List.mem_of_getElem? (i := 247) (by decide +kernel), List.mem_of_getElem? (i := 248) (by decide +kernel)⟩
theorem lw_p1 : lw_okq (⟨"AddressClaimBus", "isOn", "(I)Z"⟩, 2) := ⟨⟨by decide +kernel, by decide +kernel⟩, List.mem_of_getElem? (i := 11) (by decide +kernel), List.mem_of_getElem? (i := 251) (by decide +kernel), List.mem_of_getElem? (i := 252) (by decide +kernel)⟩
theorem lw_p2 : lw_okq (⟨"AddressClaimBus", "isNameTaken", "(J)Z"⟩, 2) := ⟨⟨by decide +kernel, by decide +kernel⟩, List.mem_of_getElem? (i := 11) (by decide +kernel), List.mem_of_getElem? (i := 255) (by decide +kernel), List.mem_of_getElem? (i := 256) (by decide +kernel)⟩
theorem lw_p3 : lw_okq (⟨"AddressClaimBus$Function", "claim", "(I)V"⟩, 10) := ⟨⟨by decide +kernel, by decide +kernel⟩, List.mem_of_getElem? (i := 55) (by decide +kernel), List.mem_of_getElem? (i := 263) (by decide +kernel), List.mem_of_getElem? (i := 264) (by decide +kernel)⟩
theorem lw_p4 : lw_okq (⟨"AddressClaimBus$Function", "sendClaim", "()V"⟩, 10) := ⟨⟨by decide +kernel, by decide +kernel⟩, List.mem_of_getElem? (i := 55) (by decide +kernel), List.mem_of_getElem? (i := 268) (by decide +kernel), List.mem_of_getElem? (i := 269) (by decide +kernel)⟩
theorem lw_p5 : lw_okq (⟨"AddressClaimBus$Function", "endSessions", "()V"⟩, 10) := ⟨⟨by decide +kernel, by decide +kernel⟩, List.mem_of_getElem? (i := 55) (by decide +kernel), List.mem_of_getElem? (i := 285) (by decide +kernel), List.mem_of_getElem? (i := 286) (by decide +kernel)⟩
theorem lw_p6 : lw_okq (⟨"AddressClaimBus$Bus", "move", "(II)V"⟩, 6) := ⟨⟨by decide +kernel, by decide +kernel⟩, List.mem_of_getElem? (i := 19) (by decide +kernel), List.mem_of_getElem? (i := 301) (by decide +kernel), List.mem_of_getElem? (i := 302) (by decide +kernel)⟩
theorem lw_p7 : lw_okq (⟨"AddressClaimBus$Function", "takeClaim", "(IIJ)V"⟩, 10) := ⟨⟨by decide +kernel, by decide +kernel⟩, List.mem_of_getElem? (i := 55) (by decide +kernel), List.mem_of_getElem? (i := 381) (by decide +kernel), List.mem_of_getElem? (i := 382) (by decide +kernel)⟩
theorem lw_p8 : lw_okq (⟨"AddressClaimBus$Function", "isNameLessThan", "(J)Z"⟩, 10) := ⟨⟨by decide +kernel, by decide +kernel⟩, List.mem_of_getElem? (i := 55) (by decide +kernel), List.mem_of_getElem? (i := 385) (by decide +kernel), List.mem_of_getElem? (i := 386) (by decide +kernel)⟩
theorem lw_p9 : lw_okq (⟨"AddressClaimBus$Function", "loseAddress", "()V"⟩, 10) := ⟨⟨by decide +kernel, by decide +kernel⟩, List.mem_of_getElem? (i := 55) (by decide +kernel), List.mem_of_getElem? (i := 390) (by decide +kernel), List.mem_of_getElem? (i := 391) (by decide +kernel)⟩
theorem lw_p10 : lw_okq (⟨"AddressClaimBus$Function", "spareAddress", "()I"⟩, 10) := ⟨⟨by decide +kernel, by decide +kernel⟩, List.mem_of_getElem? (i := 55) (by decide +kernel), List.mem_of_getElem? (i := 394) (by decide +kernel), List.mem_of_getElem? (i := 395) (by decide +kernel)⟩
theorem lw_p11 : lw_okq (⟨"AddressClaimBus$Function", "isNoted", "(I)Z"⟩, 10) := ⟨⟨by decide +kernel, by decide +kernel⟩, List.mem_of_getElem? (i := 55) (by decide +kernel), List.mem_of_getElem? (i := 398) (by decide +kernel), List.mem_of_getElem? (i := 399) (by decide +kernel)⟩
theorem lw_p12 : lw_okq (⟨"AddressClaimBus$Function", "takeControl", "(IJ)V"⟩, 10) := ⟨⟨by decide +kernel, by decide +kernel⟩, List.mem_of_getElem? (i := 55) (by decide +kernel), List.mem_of_getElem? (i := 402) (by decide +kernel), List.mem_of_getElem? (i := 403) (by decide +kernel)⟩
theorem lw_p13 : lw_okq (⟨"AddressClaimBus$Function", "takeOpening", "(IIJZ)V"⟩, 10) := ⟨⟨by decide +kernel, by decide +kernel⟩, List.mem_of_getElem? (i := 55) (by decide +kernel), List.mem_of_getElem? (i := 413) (by decide +kernel), List.mem_of_getElem? (i := 414) (by decide +kernel)⟩
theorem lw_p14 : lw_okq (⟨"AddressClaimBus$Function", "roomForIncoming", "()LAddressClaimBus$Incoming;"⟩, 10) := ⟨⟨by decide +kernel, by decide +kernel⟩, List.mem_of_getElem? (i := 55) (by decide +kernel), List.mem_of_getElem? (i := 425) (by decide +kernel), List.mem_of_getElem? (i := 426) (by decide +kernel)⟩
theorem lw_p15 : lw_okq (⟨"AddressClaimBus$Incoming", "grant", "()V"⟩, 9) := ⟨⟨by decide +kernel, by decide +kernel⟩, List.mem_of_getElem? (i := 158) (by decide +kernel), List.mem_of_getElem? (i := 434) (by decide +kernel), List.mem_of_getElem? (i := 435) (by decide +kernel)⟩
def lw_privs_1 : List (MethodName × Nat) := [(⟨"AddressClaimBus", "isFunction", "(I)Z"⟩, 2), (⟨"AddressClaimBus", "isOn", "(I)Z"⟩, 2), (⟨"AddressClaimBus", "isNameTaken", "(J)Z"⟩, 2), (⟨"AddressClaimBus$Function", "claim", "(I)V"⟩, 10), (⟨"AddressClaimBus$Function", "sendClaim", "()V"⟩, 10), (⟨"AddressClaimBus$Function", "endSessions", "()V"⟩, 10), (⟨"AddressClaimBus$Bus", "move", "(II)V"⟩, 6), (⟨"AddressClaimBus$Function", "takeClaim", "(IIJ)V"⟩, 10), (⟨"AddressClaimBus$Function", "isNameLessThan", "(J)Z"⟩, 10), (⟨"AddressClaimBus$Function", "loseAddress", "()V"⟩, 10), (⟨"AddressClaimBus$Function", "spareAddress", "()I"⟩, 10), (⟨"AddressClaimBus$Function", "isNoted", "(I)Z"⟩, 10), (⟨"AddressClaimBus$Function", "takeControl", "(IJ)V"⟩, 10), (⟨"AddressClaimBus$Function", "takeOpening", "(IIJZ)V"⟩, 10), (⟨"AddressClaimBus$Function", "roomForIncoming", "()LAddressClaimBus$Incoming;"⟩, 10), (⟨"AddressClaimBus$Incoming", "grant", "()V"⟩, 9)]
theorem lw_r1 : ∀ q ∈ lw_privs_1, lw_okq q := List.forall_mem_cons.mpr ⟨lw_p0, List.forall_mem_cons.mpr ⟨lw_p1, List.forall_mem_cons.mpr ⟨lw_p2, List.forall_mem_cons.mpr ⟨lw_p3, List.forall_mem_cons.mpr ⟨lw_p4, List.forall_mem_cons.mpr ⟨lw_p5, List.forall_mem_cons.mpr ⟨lw_p6, List.forall_mem_cons.mpr ⟨lw_p7, List.forall_mem_cons.mpr ⟨lw_p8, List.forall_mem_cons.mpr ⟨lw_p9, List.forall_mem_cons.mpr ⟨lw_p10, List.forall_mem_cons.mpr ⟨lw_p11, List.forall_mem_cons.mpr ⟨lw_p12, List.forall_mem_cons.mpr ⟨lw_p13, List.forall_mem_cons.mpr ⟨lw_p14, List.forall_mem_cons.mpr ⟨lw_p15, fun _ h => absurd h List.not_mem_nil⟩⟩⟩⟩⟩⟩⟩⟩⟩⟩⟩⟩⟩⟩⟩⟩
theorem lw_p16 : lw_okq (⟨"AddressClaimBus$Outgoing", "sendPacket", "(I)V"⟩, 10) := ⟨⟨by decide +kernel, by decide +kernel⟩, List.mem_of_getElem? (i := 116) (by decide +kernel), List.mem_of_getElem? (i := 456) (by decide +kernel), List.mem_of_getElem? (i := 457) (by decide +kernel)⟩
theorem lw_p17 : lw_okq (⟨"AddressClaimBus$Function", "abortIncoming", "(II)V"⟩, 10) := ⟨⟨by decide +kernel, by decide +kernel⟩, List.mem_of_getElem? (i := 55) (by decide +kernel), List.mem_of_getElem? (i := 463) (by decide +kernel), List.mem_of_getElem? (i := 464) (by decide +kernel)⟩
theorem lw_p18 : lw_okq (⟨"AddressClaimBus$Function", "takePacket", "(IZJ)V"⟩, 10) := ⟨⟨by decide +kernel, by decide +kernel⟩, List.mem_of_getElem? (i := 55) (by decide +kernel), List.mem_of_getElem? (i := 467) (by decide +kernel), List.mem_of_getElem? (i := 468) (by decide +kernel)⟩
theorem lw_p19 : lw_okq (⟨"AddressClaimBus$Incoming", "keepExpected", "(J)V"⟩, 9) := ⟨⟨by decide +kernel, by decide +kernel⟩, List.mem_of_getElem? (i := 158) (by decide +kernel), List.mem_of_getElem? (i := 477) (by decide +kernel), List.mem_of_getElem? (i := 478) (by decide +kernel)⟩
theorem lw_p20 : lw_okq (⟨"AddressClaimBus$Incoming", "isWhole", "()Z"⟩, 9) := ⟨⟨by decide +kernel, by decide +kernel⟩, List.mem_of_getElem? (i := 158) (by decide +kernel), List.mem_of_getElem? (i := 485) (by decide +kernel), List.mem_of_getElem? (i := 486) (by decide +kernel)⟩
theorem lw_p21 : lw_okq (⟨"AddressClaimBus$Incoming", "askAgain", "(I)V"⟩, 9) := ⟨⟨by decide +kernel, by decide +kernel⟩, List.mem_of_getElem? (i := 158) (by decide +kernel), List.mem_of_getElem? (i := 493) (by decide +kernel), List.mem_of_getElem? (i := 494) (by decide +kernel)⟩
theorem lw_p22 : lw_okq (⟨"AddressClaimBus", "firstDue", "()I"⟩, 2) := ⟨⟨by decide +kernel, by decide +kernel⟩, List.mem_of_getElem? (i := 11) (by decide +kernel), List.mem_of_getElem? (i := 515) (by decide +kernel), List.mem_of_getElem? (i := 516) (by decide +kernel)⟩
theorem lw_p23 : lw_okq (⟨"AddressClaimBus$Outgoing", "sendNextToAll", "()V"⟩, 10) := ⟨⟨by decide +kernel, by decide +kernel⟩, List.mem_of_getElem? (i := 116) (by decide +kernel), List.mem_of_getElem? (i := 534) (by decide +kernel), List.mem_of_getElem? (i := 535) (by decide +kernel)⟩
theorem lw_p24 : lw_okq (⟨"AddressClaimBus", "hasMessage", "(I)Z"⟩, 2) := ⟨⟨by decide +kernel, by decide +kernel⟩, List.mem_of_getElem? (i := 11) (by decide +kernel), List.mem_of_getElem? (i := 562) (by decide +kernel), List.mem_of_getElem? (i := 563) (by decide +kernel)⟩
theorem lw_p25 : lw_okq (⟨"AddressClaimBusModel", "next", "()I"⟩, 34) := ⟨⟨by decide +kernel, by decide +kernel⟩, List.mem_of_getElem? (i := 575) (by decide +kernel), List.mem_of_getElem? (i := 693) (by decide +kernel), List.mem_of_getElem? (i := 694) (by decide +kernel)⟩
theorem lw_p26 : lw_okq (⟨"AddressClaimBusModel", "takeAway", "(I)V"⟩, 34) := ⟨⟨by decide +kernel, by decide +kernel⟩, List.mem_of_getElem? (i := 575) (by decide +kernel), List.mem_of_getElem? (i := 705) (by decide +kernel), List.mem_of_getElem? (i := 706) (by decide +kernel)⟩
theorem lw_p27 : lw_okq (⟨"AddressClaimBusModel", "reach", "(IIIIIJ)V"⟩, 34) := ⟨⟨by decide +kernel, by decide +kernel⟩, List.mem_of_getElem? (i := 575) (by decide +kernel), List.mem_of_getElem? (i := 717) (by decide +kernel), List.mem_of_getElem? (i := 718) (by decide +kernel)⟩
theorem lw_p28 : lw_okq (⟨"AddressClaimBusModel", "claimed", "(IIIJ)V"⟩, 34) := ⟨⟨by decide +kernel, by decide +kernel⟩, List.mem_of_getElem? (i := 575) (by decide +kernel), List.mem_of_getElem? (i := 721) (by decide +kernel), List.mem_of_getElem? (i := 722) (by decide +kernel)⟩
theorem lw_p29 : lw_okq (⟨"AddressClaimBusModel", "spare", "(I)I"⟩, 34) := ⟨⟨by decide +kernel, by decide +kernel⟩, List.mem_of_getElem? (i := 575) (by decide +kernel), List.mem_of_getElem? (i := 728) (by decide +kernel), List.mem_of_getElem? (i := 729) (by decide +kernel)⟩
theorem lw_p30 : lw_okq (⟨"AddressClaimBusModel", "putClaim", "(I)V"⟩, 34) := ⟨⟨by decide +kernel, by decide +kernel⟩, List.mem_of_getElem? (i := 575) (by decide +kernel), List.mem_of_getElem? (i := 732) (by decide +kernel), List.mem_of_getElem? (i := 733) (by decide +kernel)⟩
theorem lw_p31 : lw_okq (⟨"AddressClaimBusModel", "put", "(IIIIJ)V"⟩, 34) := ⟨⟨by decide +kernel, by decide +kernel⟩, List.mem_of_getElem? (i := 575) (by decide +kernel), List.mem_of_getElem? (i := 736) (by decide +kernel), List.mem_of_getElem? (i := 737) (by decide +kernel)⟩
def lw_privs_2 : List (MethodName × Nat) := [(⟨"AddressClaimBus$Outgoing", "sendPacket", "(I)V"⟩, 10), (⟨"AddressClaimBus$Function", "abortIncoming", "(II)V"⟩, 10), (⟨"AddressClaimBus$Function", "takePacket", "(IZJ)V"⟩, 10), (⟨"AddressClaimBus$Incoming", "keepExpected", "(J)V"⟩, 9), (⟨"AddressClaimBus$Incoming", "isWhole", "()Z"⟩, 9), (⟨"AddressClaimBus$Incoming", "askAgain", "(I)V"⟩, 9), (⟨"AddressClaimBus", "firstDue", "()I"⟩, 2), (⟨"AddressClaimBus$Outgoing", "sendNextToAll", "()V"⟩, 10), (⟨"AddressClaimBus", "hasMessage", "(I)Z"⟩, 2), (⟨"AddressClaimBusModel", "next", "()I"⟩, 34), (⟨"AddressClaimBusModel", "takeAway", "(I)V"⟩, 34), (⟨"AddressClaimBusModel", "reach", "(IIIIIJ)V"⟩, 34), (⟨"AddressClaimBusModel", "claimed", "(IIIJ)V"⟩, 34), (⟨"AddressClaimBusModel", "spare", "(I)I"⟩, 34), (⟨"AddressClaimBusModel", "putClaim", "(I)V"⟩, 34), (⟨"AddressClaimBusModel", "put", "(IIIIJ)V"⟩, 34)]
theorem lw_r2 : ∀ q ∈ lw_privs_2, lw_okq q := List.forall_mem_cons.mpr ⟨lw_p16, List.forall_mem_cons.mpr ⟨lw_p17, List.forall_mem_cons.mpr ⟨lw_p18, List.forall_mem_cons.mpr ⟨lw_p19, List.forall_mem_cons.mpr ⟨lw_p20, List.forall_mem_cons.mpr ⟨lw_p21, List.forall_mem_cons.mpr ⟨lw_p22, List.forall_mem_cons.mpr ⟨lw_p23, List.forall_mem_cons.mpr ⟨lw_p24, List.forall_mem_cons.mpr ⟨lw_p25, List.forall_mem_cons.mpr ⟨lw_p26, List.forall_mem_cons.mpr ⟨lw_p27, List.forall_mem_cons.mpr ⟨lw_p28, List.forall_mem_cons.mpr ⟨lw_p29, List.forall_mem_cons.mpr ⟨lw_p30, List.forall_mem_cons.mpr ⟨lw_p31, fun _ h => absurd h List.not_mem_nil⟩⟩⟩⟩⟩⟩⟩⟩⟩⟩⟩⟩⟩⟩⟩⟩
theorem lw_p32 : lw_okq (⟨"AddressClaimBusModel", "source", "(I)I"⟩, 34) := ⟨⟨by decide +kernel, by decide +kernel⟩, List.mem_of_getElem? (i := 575) (by decide +kernel), List.mem_of_getElem? (i := 740) (by decide +kernel), List.mem_of_getElem? (i := 741) (by decide +kernel)⟩
theorem lw_p33 : lw_okq (⟨"AddressClaimBusModel", "control", "(IIIJ)V"⟩, 34) := ⟨⟨by decide +kernel, by decide +kernel⟩, List.mem_of_getElem? (i := 575) (by decide +kernel), List.mem_of_getElem? (i := 744) (by decide +kernel), List.mem_of_getElem? (i := 745) (by decide +kernel)⟩
theorem lw_p34 : lw_okq (⟨"AddressClaimBusModel", "find", "(IIZ)I"⟩, 34) := ⟨⟨by decide +kernel, by decide +kernel⟩, List.mem_of_getElem? (i := 575) (by decide +kernel), List.mem_of_getElem? (i := 750) (by decide +kernel), List.mem_of_getElem? (i := 751) (by decide +kernel)⟩
theorem lw_p35 : lw_okq (⟨"AddressClaimBusModel", "opened", "(IIIIZ)V"⟩, 34) := ⟨⟨by decide +kernel, by decide +kernel⟩, List.mem_of_getElem? (i := 575) (by decide +kernel), List.mem_of_getElem? (i := 754) (by decide +kernel), List.mem_of_getElem? (i := 755) (by decide +kernel)⟩
theorem lw_p36 : lw_okq (⟨"AddressClaimBusModel", "close", "(II)V"⟩, 34) := ⟨⟨by decide +kernel, by decide +kernel⟩, List.mem_of_getElem? (i := 575) (by decide +kernel), List.mem_of_getElem? (i := 758) (by decide +kernel), List.mem_of_getElem? (i := 759) (by decide +kernel)⟩
theorem lw_p37 : lw_okq (⟨"AddressClaimBusModel", "putAbort", "(IIII)V"⟩, 34) := ⟨⟨by decide +kernel, by decide +kernel⟩, List.mem_of_getElem? (i := 575) (by decide +kernel), List.mem_of_getElem? (i := 762) (by decide +kernel), List.mem_of_getElem? (i := 763) (by decide +kernel)⟩
theorem lw_p38 : lw_okq (⟨"AddressClaimBusModel", "putControl", "(IIIIIII)V"⟩, 34) := ⟨⟨by decide +kernel, by decide +kernel⟩, List.mem_of_getElem? (i := 575) (by decide +kernel), List.mem_of_getElem? (i := 766) (by decide +kernel), List.mem_of_getElem? (i := 767) (by decide +kernel)⟩
theorem lw_p39 : lw_okq (⟨"AddressClaimBusModel", "grant", "(II)V"⟩, 34) := ⟨⟨by decide +kernel, by decide +kernel⟩, List.mem_of_getElem? (i := 575) (by decide +kernel), List.mem_of_getElem? (i := 771) (by decide +kernel), List.mem_of_getElem? (i := 772) (by decide +kernel)⟩
theorem lw_p40 : lw_okq (⟨"AddressClaimBusModel", "granted", "(III)V"⟩, 34) := ⟨⟨by decide +kernel, by decide +kernel⟩, List.mem_of_getElem? (i := 575) (by decide +kernel), List.mem_of_getElem? (i := 778) (by decide +kernel), List.mem_of_getElem? (i := 779) (by decide +kernel)⟩
theorem lw_p41 : lw_okq (⟨"AddressClaimBusModel", "putPacket", "(II)V"⟩, 34) := ⟨⟨by decide +kernel, by decide +kernel⟩, List.mem_of_getElem? (i := 575) (by decide +kernel), List.mem_of_getElem? (i := 782) (by decide +kernel), List.mem_of_getElem? (i := 783) (by decide +kernel)⟩
theorem lw_p42 : lw_okq (⟨"AddressClaimBusModel", "finish", "(II)V"⟩, 34) := ⟨⟨by decide +kernel, by decide +kernel⟩, List.mem_of_getElem? (i := 575) (by decide +kernel), List.mem_of_getElem? (i := 786) (by decide +kernel), List.mem_of_getElem? (i := 787) (by decide +kernel)⟩
theorem lw_p43 : lw_okq (⟨"AddressClaimBusModel", "packet", "(IIIJ)V"⟩, 34) := ⟨⟨by decide +kernel, by decide +kernel⟩, List.mem_of_getElem? (i := 575) (by decide +kernel), List.mem_of_getElem? (i := 790) (by decide +kernel), List.mem_of_getElem? (i := 791) (by decide +kernel)⟩
theorem lw_p44 : lw_okq (⟨"AddressClaimBusModel", "keep", "(IIIJ)V"⟩, 34) := ⟨⟨by decide +kernel, by decide +kernel⟩, List.mem_of_getElem? (i := 575) (by decide +kernel), List.mem_of_getElem? (i := 794) (by decide +kernel), List.mem_of_getElem? (i := 795) (by decide +kernel)⟩
theorem lw_p45 : lw_okq (⟨"AddressClaimBusModel", "askAgain", "(III)V"⟩, 34) := ⟨⟨by decide +kernel, by decide +kernel⟩, List.mem_of_getElem? (i := 575) (by decide +kernel), List.mem_of_getElem? (i := 798) (by decide +kernel), List.mem_of_getElem? (i := 799) (by decide +kernel)⟩
theorem lw_p46 : lw_okq (⟨"AddressClaimBusModel", "on", "(I)Z"⟩, 34) := ⟨⟨by decide +kernel, by decide +kernel⟩, List.mem_of_getElem? (i := 575) (by decide +kernel), List.mem_of_getElem? (i := 810) (by decide +kernel), List.mem_of_getElem? (i := 811) (by decide +kernel)⟩
theorem lw_p47 : lw_okq (⟨"AddressClaimBusModel", "due", "(I)I"⟩, 34) := ⟨⟨by decide +kernel, by decide +kernel⟩, List.mem_of_getElem? (i := 575) (by decide +kernel), List.mem_of_getElem? (i := 844) (by decide +kernel), List.mem_of_getElem? (i := 845) (by decide +kernel)⟩
def lw_privs_3 : List (MethodName × Nat) := [(⟨"AddressClaimBusModel", "source", "(I)I"⟩, 34), (⟨"AddressClaimBusModel", "control", "(IIIJ)V"⟩, 34), (⟨"AddressClaimBusModel", "find", "(IIZ)I"⟩, 34), (⟨"AddressClaimBusModel", "opened", "(IIIIZ)V"⟩, 34), (⟨"AddressClaimBusModel", "close", "(II)V"⟩, 34), (⟨"AddressClaimBusModel", "putAbort", "(IIII)V"⟩, 34), (⟨"AddressClaimBusModel", "putControl", "(IIIIIII)V"⟩, 34), (⟨"AddressClaimBusModel", "grant", "(II)V"⟩, 34), (⟨"AddressClaimBusModel", "granted", "(III)V"⟩, 34), (⟨"AddressClaimBusModel", "putPacket", "(II)V"⟩, 34), (⟨"AddressClaimBusModel", "finish", "(II)V"⟩, 34), (⟨"AddressClaimBusModel", "packet", "(IIIJ)V"⟩, 34), (⟨"AddressClaimBusModel", "keep", "(IIIJ)V"⟩, 34), (⟨"AddressClaimBusModel", "askAgain", "(III)V"⟩, 34), (⟨"AddressClaimBusModel", "on", "(I)Z"⟩, 34), (⟨"AddressClaimBusModel", "due", "(I)I"⟩, 34)]
theorem lw_r3 : ∀ q ∈ lw_privs_3, lw_okq q := List.forall_mem_cons.mpr ⟨lw_p32, List.forall_mem_cons.mpr ⟨lw_p33, List.forall_mem_cons.mpr ⟨lw_p34, List.forall_mem_cons.mpr ⟨lw_p35, List.forall_mem_cons.mpr ⟨lw_p36, List.forall_mem_cons.mpr ⟨lw_p37, List.forall_mem_cons.mpr ⟨lw_p38, List.forall_mem_cons.mpr ⟨lw_p39, List.forall_mem_cons.mpr ⟨lw_p40, List.forall_mem_cons.mpr ⟨lw_p41, List.forall_mem_cons.mpr ⟨lw_p42, List.forall_mem_cons.mpr ⟨lw_p43, List.forall_mem_cons.mpr ⟨lw_p44, List.forall_mem_cons.mpr ⟨lw_p45, List.forall_mem_cons.mpr ⟨lw_p46, List.forall_mem_cons.mpr ⟨lw_p47, fun _ h => absurd h List.not_mem_nil⟩⟩⟩⟩⟩⟩⟩⟩⟩⟩⟩⟩⟩⟩⟩⟩
theorem lw_p48 : lw_okq (⟨"AddressClaimBusModel", "goOff", "(I)V"⟩, 34) := ⟨⟨by decide +kernel, by decide +kernel⟩, List.mem_of_getElem? (i := 575) (by decide +kernel), List.mem_of_getElem? (i := 848) (by decide +kernel), List.mem_of_getElem? (i := 849) (by decide +kernel)⟩
theorem lw_p49 : lw_okq (⟨"AddressClaimBusModel", "outgoingOff", "(I)V"⟩, 34) := ⟨⟨by decide +kernel, by decide +kernel⟩, List.mem_of_getElem? (i := 575) (by decide +kernel), List.mem_of_getElem? (i := 852) (by decide +kernel), List.mem_of_getElem? (i := 853) (by decide +kernel)⟩
def lw_privs_4 : List (MethodName × Nat) := [(⟨"AddressClaimBusModel", "goOff", "(I)V"⟩, 34), (⟨"AddressClaimBusModel", "outgoingOff", "(I)V"⟩, 34)]
theorem lw_r4 : ∀ q ∈ lw_privs_4, lw_okq q := List.forall_mem_cons.mpr ⟨lw_p48, List.forall_mem_cons.mpr ⟨lw_p49, fun _ h => absurd h List.not_mem_nil⟩⟩
def lw_privs : List (MethodName × Nat) := lw_privs_1 ++ (lw_privs_2 ++ (lw_privs_3 ++ (lw_privs_4)))
def lw_tbl : List Cond := k2_sels lw_privs ++ tables_1
theorem lw_privs_ok : ∀ q ∈ lw_privs, lw_okq q := by
  show ∀ q ∈ lw_privs_1 ++ (lw_privs_2 ++ (lw_privs_3 ++ (lw_privs_4))), lw_okq q
  exact List.forall_mem_append.mpr ⟨lw_r1, List.forall_mem_append.mpr ⟨lw_r2, List.forall_mem_append.mpr ⟨lw_r3, lw_r4⟩⟩⟩
end
section
def nT_Bu : u_T := fun k => match k with
  | 0 => ("AddressClaimBus$Bus", "identifiers", "[I", true)
  | 1 => ("AddressClaimBus$Bus", "contents", "[J", true)
  | 2 => ("AddressClaimBus$Bus", "senders", "[I", true)
  | 3 => ("AddressClaimBus$Bus", "count", "I", false)
  | 4 => ("AddressClaimBus$Bus", "overflows", "I", false)
  | _ => ("AddressClaimBus$Bus", "now", "J", false)
def nt_Bu : Nat → FieldType := fun k => match k with
  | 0 => .array .int
  | 1 => .array .long
  | 2 => .array .int
  | 3 => .int
  | 4 => .int
  | _ => .long
def nT_Fu : u_T := fun k => match k with
  | 0 => ("AddressClaimBus$Function", "bus", "LAddressClaimBus$Bus;", true)
  | 1 => ("AddressClaimBus$Function", "station", "LAddressClaimBus$Station;", true)
  | 2 => ("AddressClaimBus$Function", "noted", "[I", true)
  | 3 => ("AddressClaimBus$Function", "outgoing", "LAddressClaimBus$Outgoing;", true)
  | 4 => ("AddressClaimBus$Function", "incoming", "[LAddressClaimBus$Incoming;", true)
  | 5 => ("AddressClaimBus$Function", "latest", "LAddressClaimBus$Message;", true)
  | 6 => ("AddressClaimBus$Function", "deliveries", "I", false)
  | 7 => ("AddressClaimBus$Function", "state", "I", false)
  | 8 => ("AddressClaimBus$Function", "name", "J", false)
  | _ => ("AddressClaimBus$Function", "holdDue", "J", false)
def nt_Fu : Nat → FieldType := fun k => match k with
  | 0 => .object "AddressClaimBus$Bus"
  | 1 => .object "AddressClaimBus$Station"
  | 2 => .array .int
  | 3 => .object "AddressClaimBus$Outgoing"
  | 4 => .array (.object "AddressClaimBus$Incoming")
  | 5 => .object "AddressClaimBus$Message"
  | 6 => .int
  | 7 => .int
  | 8 => .long
  | _ => .long
def nT_In : u_T := fun k => match k with
  | 0 => ("AddressClaimBus$Incoming", "bus", "LAddressClaimBus$Bus;", true)
  | 1 => ("AddressClaimBus$Incoming", "station", "LAddressClaimBus$Station;", true)
  | 2 => ("AddressClaimBus$Incoming", "message", "LAddressClaimBus$Message;", true)
  | 3 => ("AddressClaimBus$Incoming", "open", "Z", false)
  | 4 => ("AddressClaimBus$Incoming", "held", "Z", false)
  | 5 => ("AddressClaimBus$Incoming", "expected", "I", false)
  | 6 => ("AddressClaimBus$Incoming", "last", "I", false)
  | 7 => ("AddressClaimBus$Incoming", "asked", "I", false)
  | _ => ("AddressClaimBus$Incoming", "due", "J", false)
def nt_In : Nat → FieldType := fun k => match k with
  | 0 => .object "AddressClaimBus$Bus"
  | 1 => .object "AddressClaimBus$Station"
  | 2 => .object "AddressClaimBus$Message"
  | 3 => .boolean
  | 4 => .boolean
  | 5 => .int
  | 6 => .int
  | 7 => .int
  | _ => .long
def nT_Ms : u_T := fun k => match k with
  | 0 => ("AddressClaimBus$Message", "packets", "[J", true)
  | 1 => ("AddressClaimBus$Message", "source", "I", false)
  | 2 => ("AddressClaimBus$Message", "group", "I", false)
  | 3 => ("AddressClaimBus$Message", "size", "I", false)
  | _ => ("AddressClaimBus$Message", "toAll", "Z", false)
def nt_Ms : Nat → FieldType := fun k => match k with
  | 0 => .array .long
  | 1 => .int
  | 2 => .int
  | 3 => .int
  | _ => .boolean
def nT_Ou : u_T := fun k => match k with
  | 0 => ("AddressClaimBus$Outgoing", "bus", "LAddressClaimBus$Bus;", true)
  | 1 => ("AddressClaimBus$Outgoing", "station", "LAddressClaimBus$Station;", true)
  | 2 => ("AddressClaimBus$Outgoing", "phase", "I", false)
  | 3 => ("AddressClaimBus$Outgoing", "result", "I", false)
  | 4 => ("AddressClaimBus$Outgoing", "target", "I", false)
  | 5 => ("AddressClaimBus$Outgoing", "group", "I", false)
  | 6 => ("AddressClaimBus$Outgoing", "size", "I", false)
  | 7 => ("AddressClaimBus$Outgoing", "seed", "J", false)
  | 8 => ("AddressClaimBus$Outgoing", "nextPacket", "I", false)
  | _ => ("AddressClaimBus$Outgoing", "due", "J", false)
def nt_Ou : Nat → FieldType := fun k => match k with
  | 0 => .object "AddressClaimBus$Bus"
  | 1 => .object "AddressClaimBus$Station"
  | 2 => .int
  | 3 => .int
  | 4 => .int
  | 5 => .int
  | 6 => .int
  | 7 => .long
  | 8 => .int
  | _ => .long
def nT_St : u_T := fun k => match k with
  | 0 => ("AddressClaimBus$Station", "number", "I", true)
  | 1 => ("AddressClaimBus$Station", "address", "I", false)
  | _ => ("AddressClaimBus$Station", "busy", "Z", false)
def nt_St : Nat → FieldType := fun k => match k with
  | 0 => .int
  | 1 => .int
  | _ => .boolean
def nT_Ab : u_T := fun k => match k with
  | 0 => ("AddressClaimBus", "bus", "LAddressClaimBus$Bus;", true)
  | _ => ("AddressClaimBus", "functions", "[LAddressClaimBus$Function;", true)
def nt_Ab : Nat → FieldType := fun k => match k with
  | 0 => .object "AddressClaimBus$Bus"
  | _ => .array (.object "AddressClaimBus$Function")
def nT_Md : u_T := fun k => match k with
  | 0 => ("AddressClaimBusModel", "now", "I", false)
  | 1 => ("AddressClaimBusModel", "state", "[I", false)
  | 2 => ("AddressClaimBusModel", "held", "[I", false)
  | 3 => ("AddressClaimBusModel", "name", "[J", false)
  | 4 => ("AddressClaimBusModel", "occupied", "[Z", false)
  | 5 => ("AddressClaimBusModel", "claimDue", "[I", false)
  | 6 => ("AddressClaimBusModel", "notes", "[I", false)
  | 7 => ("AddressClaimBusModel", "frames", "I", false)
  | 8 => ("AddressClaimBusModel", "frameId", "[I", false)
  | 9 => ("AddressClaimBusModel", "frameData", "[J", false)
  | 10 => ("AddressClaimBusModel", "frameSender", "[I", false)
  | 11 => ("AddressClaimBusModel", "lost", "I", false)
  | 12 => ("AddressClaimBusModel", "out", "[I", false)
  | 13 => ("AddressClaimBusModel", "result", "[I", false)
  | 14 => ("AddressClaimBusModel", "outOther", "[I", false)
  | 15 => ("AddressClaimBusModel", "outGroup", "[I", false)
  | 16 => ("AddressClaimBusModel", "outSize", "[I", false)
  | 17 => ("AddressClaimBusModel", "outSeed", "[J", false)
  | 18 => ("AddressClaimBusModel", "outNext", "[I", false)
  | 19 => ("AddressClaimBusModel", "outDue", "[I", false)
  | 20 => ("AddressClaimBusModel", "ins", "[I", false)
  | 21 => ("AddressClaimBusModel", "inAll", "[Z", false)
  | 22 => ("AddressClaimBusModel", "inFrom", "[I", false)
  | 23 => ("AddressClaimBusModel", "inGroup", "[I", false)
  | 24 => ("AddressClaimBusModel", "inSize", "[I", false)
  | 25 => ("AddressClaimBusModel", "inExpected", "[I", false)
  | 26 => ("AddressClaimBusModel", "inLast", "[I", false)
  | 27 => ("AddressClaimBusModel", "inAsked", "[I", false)
  | 28 => ("AddressClaimBusModel", "inHeld", "[Z", false)
  | 29 => ("AddressClaimBusModel", "inDue", "[I", false)
  | 30 => ("AddressClaimBusModel", "inBytes", "[I", false)
  | 31 => ("AddressClaimBusModel", "arrived", "[I", false)
  | 32 => ("AddressClaimBusModel", "last", "[I", false)
  | _ => ("AddressClaimBusModel", "lastBytes", "[I", false)
def nt_Md : Nat → FieldType := fun k => match k with
  | 0 => .int
  | 1 => .array .int
  | 2 => .array .int
  | 3 => .array .long
  | 4 => .array .boolean
  | 5 => .array .int
  | 6 => .array .int
  | 7 => .int
  | 8 => .array .int
  | 9 => .array .long
  | 10 => .array .int
  | 11 => .int
  | 12 => .array .int
  | 13 => .array .int
  | 14 => .array .int
  | 15 => .array .int
  | 16 => .array .int
  | 17 => .array .long
  | 18 => .array .int
  | 19 => .array .int
  | 20 => .array .int
  | 21 => .array .boolean
  | 22 => .array .int
  | 23 => .array .int
  | 24 => .array .int
  | 25 => .array .int
  | 26 => .array .int
  | 27 => .array .int
  | 28 => .array .boolean
  | 29 => .array .int
  | 30 => .array .int
  | 31 => .array .int
  | 32 => .array .int
  | _ => .array .int
abbrev vwCl : List vw_C := [("AddressClaimBus$Bus", nT_Bu, 6), ("AddressClaimBus$Function", nT_Fu, 10), ("AddressClaimBus$Incoming", nT_In, 9), ("AddressClaimBus$Message", nT_Ms, 5), ("AddressClaimBus$Outgoing", nT_Ou, 10), ("AddressClaimBus$Station", nT_St, 3), ("AddressClaimBus", nT_Ab, 2), ("AddressClaimBusModel", nT_Md, 34)]
/-- the tables' words that last -/
def zx_T : List Cond := lw_tbl.filter goodWord
theorem zx_good : ∀ w ∈ zx_T, (w.onTables && w.keeps) = true ∨ ∃ ty, w = .arrayClass ty := fun w h => good_of_word (List.mem_filter.mp h).2
theorem zx_mem {w : Cond} (l : List Cond) (hl : ∀ w ∈ l, w ∈ tables_1) (i : Nat) (h : l[i]? = some w) (hg : goodWord w = true) : w ∈ zx_T := List.mem_filter.mpr ⟨List.mem_append_right _ (hl _ (List.mem_of_getElem? h)), hg⟩
theorem zx_mems {w : Cond} (i : Nat) (h : (k2_sels lw_privs)[i]? = some w) (hg : goodWord w = true) : w ∈ zx_T := List.mem_filter.mpr ⟨List.mem_append_left _ (List.mem_of_getElem? h), hg⟩
theorem zx_l1 : ∀ w ∈ tables_1_1, w ∈ tables_1 := fun _ h => List.mem_append_left _ h
theorem zx_l2 : ∀ w ∈ tables_1_2, w ∈ tables_1 := fun _ h => List.mem_append_right _ (List.mem_append_left _ h)
theorem zx_l3 : ∀ w ∈ tables_1_3, w ∈ tables_1 := fun _ h => List.mem_append_right _ (List.mem_append_right _ (List.mem_append_left _ h))
theorem zx_l4 : ∀ w ∈ tables_1_4, w ∈ tables_1 := fun _ h => List.mem_append_right _ (List.mem_append_right _ (List.mem_append_right _ h))
/-- links to members that only nest mates reach -/
def zx_N : List (String × Nat × MethodName) := [("AddressClaimBus", 11, ⟨"AddressClaimBus$Bus", "<init>", "()V"⟩), ("AddressClaimBus$Function", 23, ⟨"AddressClaimBus$Message", "<init>", "()V"⟩), ("AddressClaimBus$Function", 153, ⟨"AddressClaimBus", "frameByte", "(JI)I"⟩), ("AddressClaimBus$Function", 188, ⟨"AddressClaimBus", "abortData", "(II)J"⟩), ("AddressClaimBus$Incoming", 11, ⟨"AddressClaimBus$Message", "<init>", "()V"⟩), ("AddressClaimBus$Incoming", 75, ⟨"AddressClaimBus", "frameByte", "(JI)I"⟩), ("AddressClaimBus$Incoming", 91, ⟨"AddressClaimBus", "extentData", "(III)J"⟩), ("AddressClaimBus$Incoming", 103, ⟨"AddressClaimBus", "packetsFor", "(I)I"⟩), ("AddressClaimBus$Incoming", 107, ⟨"AddressClaimBus", "abortData", "(II)J"⟩), ("AddressClaimBus$Incoming", 122, ⟨"AddressClaimBus", "controlData", "(IIIII)J"⟩), ("AddressClaimBus$Message", 29, ⟨"AddressClaimBus", "frameByte", "(JI)I"⟩), ("AddressClaimBus$Outgoing", 45, ⟨"AddressClaimBus", "extentData", "(III)J"⟩), ("AddressClaimBus$Outgoing", 63, ⟨"AddressClaimBus", "packetsFor", "(I)I"⟩), ("AddressClaimBus$Outgoing", 82, ⟨"AddressClaimBus", "abortData", "(II)J"⟩)]
def zx_AO : List String := ["AddressClaimBus$Function", "AddressClaimBus$Incoming"]
theorem wd_1 : (Cond.initialized "AddressClaimBus") ∈ zx_T := zx_mem tables_1_1 zx_l1 1 (by decide +kernel) (by decide +kernel)
theorem wd_2 : (Cond.initialized "AddressClaimBus$Bus") ∈ zx_T := zx_mem tables_1_1 zx_l1 2 (by decide +kernel) (by decide +kernel)
theorem wd_3 : (Cond.initialized "AddressClaimBus$Function") ∈ zx_T := zx_mem tables_1_1 zx_l1 3 (by decide +kernel) (by decide +kernel)
theorem wd_4 : (Cond.initialized "AddressClaimBus$Station") ∈ zx_T := zx_mem tables_1_1 zx_l1 4 (by decide +kernel) (by decide +kernel)
theorem wd_5 : (Cond.initialized "AddressClaimBus$Message") ∈ zx_T := zx_mem tables_1_1 zx_l1 5 (by decide +kernel) (by decide +kernel)
theorem wd_6 : (Cond.initialized "AddressClaimBus$Outgoing") ∈ zx_T := zx_mem tables_1_1 zx_l1 6 (by decide +kernel) (by decide +kernel)
theorem wd_7 : (Cond.initialized "AddressClaimBus$Incoming") ∈ zx_T := zx_mem tables_1_1 zx_l1 7 (by decide +kernel) (by decide +kernel)
theorem wd_8 : (Cond.initialized "AddressClaimBusModel") ∈ zx_T := zx_mem tables_1_1 zx_l1 8 (by decide +kernel) (by decide +kernel)
theorem wd_9 : (Cond.initialized "java/lang/Math") ∈ zx_T := zx_mem tables_1_1 zx_l1 9 (by decide +kernel) (by decide +kernel)
theorem wd_10 : (Cond.classLink "AddressClaimBusLaw" (7 : Nat) "AddressClaimBus") ∈ zx_T := zx_mem tables_1_1 zx_l1 10 (by decide +kernel) (by decide +kernel)
theorem wd_11 : (Cond.instantiable "AddressClaimBus" (2 : Nat)) ∈ zx_T := zx_mem tables_1_1 zx_l1 11 (by decide +kernel) (by decide +kernel)
theorem wd_12 : (Cond.methodLink "AddressClaimBusLaw" (9 : Nat) ({ cls := "AddressClaimBus", name := "<init>", desc := "()V" } : MethodName)) ∈ zx_T := zx_mem tables_1_1 zx_l1 12 (by decide +kernel) (by decide +kernel)
theorem wd_13 : (Cond.instanceMethod ({ cls := "AddressClaimBus", name := "<init>", desc := "()V" } : MethodName)) ∈ zx_T := zx_mem tables_1_1 zx_l1 13 (by decide +kernel) (by decide +kernel)
theorem wd_14 : (Cond.code ({ cls := "AddressClaimBus", name := "<init>", desc := "()V" } : MethodName) prog_1_method_1_code (2 : Nat) (Option.none : Option FieldType)) ∈ zx_T := zx_mem tables_1_1 zx_l1 14 (by decide +kernel) (by decide +kernel)
theorem wd_15 : (Cond.methodLink "AddressClaimBus" (3 : Nat) ({ cls := "java/lang/Object", name := "<init>", desc := "()V" } : MethodName)) ∈ zx_T := zx_mem tables_1_1 zx_l1 15 (by decide +kernel) (by decide +kernel)
theorem wd_16 : (Cond.instanceMethod ({ cls := "java/lang/Object", name := "<init>", desc := "()V" } : MethodName)) ∈ zx_T := zx_mem tables_1_1 zx_l1 16 (by decide +kernel) (by decide +kernel)
theorem wd_17 : (Cond.code ({ cls := "java/lang/Object", name := "<init>", desc := "()V" } : MethodName) object_method_1_code (1 : Nat) (Option.none : Option FieldType)) ∈ zx_T := zx_mem tables_1_1 zx_l1 17 (by decide +kernel) (by decide +kernel)
theorem wd_18 : (Cond.classLink "AddressClaimBus" (9 : Nat) "AddressClaimBus$Bus") ∈ zx_T := zx_mem tables_1_1 zx_l1 18 (by decide +kernel) (by decide +kernel)
theorem wd_19 : (Cond.instantiable "AddressClaimBus$Bus" (6 : Nat)) ∈ zx_T := zx_mem tables_1_1 zx_l1 19 (by decide +kernel) (by decide +kernel)
theorem wd_21 : (Cond.instanceMethod ({ cls := "AddressClaimBus$Bus", name := "<init>", desc := "()V" } : MethodName)) ∈ zx_T := zx_mem tables_1_1 zx_l1 21 (by decide +kernel) (by decide +kernel)
theorem wd_22 : (Cond.code ({ cls := "AddressClaimBus$Bus", name := "<init>", desc := "()V" } : MethodName) prog_2_method_1_code (1 : Nat) (Option.none : Option FieldType)) ∈ zx_T := zx_mem tables_1_1 zx_l1 22 (by decide +kernel) (by decide +kernel)
theorem wd_23 : (Cond.methodLink "AddressClaimBus$Bus" (3 : Nat) ({ cls := "java/lang/Object", name := "<init>", desc := "()V" } : MethodName)) ∈ zx_T := zx_mem tables_1_1 zx_l1 23 (by decide +kernel) (by decide +kernel)
theorem wd_24 : (Cond.fieldLink "AddressClaimBus$Bus" (9 : Nat) "AddressClaimBus$Bus" "identifiers" "[I") ∈ zx_T := zx_mem tables_1_1 zx_l1 24 (by decide +kernel) (by decide +kernel)
theorem wd_25 : (Cond.fieldLink "AddressClaimBus" (95 : Nat) "AddressClaimBus$Bus" "identifiers" "[I") ∈ zx_T := zx_mem tables_1_1 zx_l1 25 (by decide +kernel) (by decide +kernel)
theorem wd_26 : (Cond.fieldLink "AddressClaimBus$Bus" (15 : Nat) "AddressClaimBus$Bus" "contents" "[J") ∈ zx_T := zx_mem tables_1_1 zx_l1 26 (by decide +kernel) (by decide +kernel)
theorem wd_27 : (Cond.fieldLink "AddressClaimBus" (98 : Nat) "AddressClaimBus$Bus" "contents" "[J") ∈ zx_T := zx_mem tables_1_1 zx_l1 27 (by decide +kernel) (by decide +kernel)
theorem wd_28 : (Cond.fieldLink "AddressClaimBus$Bus" (19 : Nat) "AddressClaimBus$Bus" "senders" "[I") ∈ zx_T := zx_mem tables_1_1 zx_l1 28 (by decide +kernel) (by decide +kernel)
theorem wd_29 : (Cond.fieldLink "AddressClaimBus" (102 : Nat) "AddressClaimBus$Bus" "senders" "[I") ∈ zx_T := zx_mem tables_1_1 zx_l1 29 (by decide +kernel) (by decide +kernel)
theorem wd_30 : (Cond.fieldLink "AddressClaimBus$Bus" (22 : Nat) "AddressClaimBus$Bus" "count" "I") ∈ zx_T := zx_mem tables_1_1 zx_l1 30 (by decide +kernel) (by decide +kernel)
theorem wd_31 : (Cond.fieldLink "AddressClaimBus" (88 : Nat) "AddressClaimBus$Bus" "count" "I") ∈ zx_T := zx_mem tables_1_1 zx_l1 31 (by decide +kernel) (by decide +kernel)
theorem wd_32 : (Cond.fieldLink "AddressClaimBus$Bus" (26 : Nat) "AddressClaimBus$Bus" "overflows" "I") ∈ zx_T := zx_mem tables_1_1 zx_l1 32 (by decide +kernel) (by decide +kernel)
theorem wd_33 : (Cond.fieldLink "AddressClaimBus" (112 : Nat) "AddressClaimBus$Bus" "overflows" "I") ∈ zx_T := zx_mem tables_1_1 zx_l1 33 (by decide +kernel) (by decide +kernel)
theorem wd_34 : (Cond.fieldLink "AddressClaimBus$Incoming" (55 : Nat) "AddressClaimBus$Bus" "now" "J") ∈ zx_T := zx_mem tables_1_1 zx_l1 34 (by decide +kernel) (by decide +kernel)
theorem wd_35 : (Cond.fieldLink "AddressClaimBus$Outgoing" (55 : Nat) "AddressClaimBus$Bus" "now" "J") ∈ zx_T := zx_mem tables_1_1 zx_l1 35 (by decide +kernel) (by decide +kernel)
theorem wd_36 : (Cond.fieldLink "AddressClaimBus$Function" (117 : Nat) "AddressClaimBus$Bus" "now" "J") ∈ zx_T := zx_mem tables_1_1 zx_l1 36 (by decide +kernel) (by decide +kernel)
theorem wd_37 : (Cond.fieldLink "AddressClaimBus" (115 : Nat) "AddressClaimBus$Bus" "now" "J") ∈ zx_T := zx_mem tables_1_1 zx_l1 37 (by decide +kernel) (by decide +kernel)
theorem wd_38 : (Cond.laysFinal "AddressClaimBus$Bus" "AddressClaimBus$Bus" "identifiers" "[I") ∈ zx_T := zx_mem tables_1_1 zx_l1 38 (by decide +kernel) (by decide +kernel)
theorem wd_40 : (Cond.laysFinal "AddressClaimBus$Bus" "AddressClaimBus$Bus" "contents" "[J") ∈ zx_T := zx_mem tables_1_1 zx_l1 40 (by decide +kernel) (by decide +kernel)
theorem wd_42 : (Cond.laysFinal "AddressClaimBus$Bus" "AddressClaimBus$Bus" "senders" "[I") ∈ zx_T := zx_mem tables_1_1 zx_l1 42 (by decide +kernel) (by decide +kernel)
theorem wd_44 : (Cond.lays "AddressClaimBus$Bus" "AddressClaimBus$Bus" "count" "I") ∈ zx_T := zx_mem tables_1_1 zx_l1 44 (by decide +kernel) (by decide +kernel)
theorem wd_46 : (Cond.lays "AddressClaimBus$Bus" "AddressClaimBus$Bus" "overflows" "I") ∈ zx_T := zx_mem tables_1_1 zx_l1 46 (by decide +kernel) (by decide +kernel)
theorem wd_48 : (Cond.lays "AddressClaimBus$Bus" "AddressClaimBus$Bus" "now" "J") ∈ zx_T := zx_mem tables_1_1 zx_l1 48 (by decide +kernel) (by decide +kernel)
theorem wd_51 : (Cond.arrayClass FieldType.int) ∈ zx_T := zx_mem tables_1_1 zx_l1 51 (by decide +kernel) (by decide +kernel)
theorem wd_52 : (Cond.arrayClass FieldType.long) ∈ zx_T := zx_mem tables_1_1 zx_l1 52 (by decide +kernel) (by decide +kernel)
theorem wd_53 : (Cond.classLink "AddressClaimBus" (16 : Nat) "AddressClaimBus$Function") ∈ zx_T := zx_mem tables_1_1 zx_l1 53 (by decide +kernel) (by decide +kernel)
theorem wd_55 : (Cond.instantiable "AddressClaimBus$Function" (10 : Nat)) ∈ zx_T := zx_mem tables_1_1 zx_l1 55 (by decide +kernel) (by decide +kernel)
theorem wd_56 : (Cond.classLink "AddressClaimBus" (22 : Nat) "AddressClaimBus$Station") ∈ zx_T := zx_mem tables_1_1 zx_l1 56 (by decide +kernel) (by decide +kernel)
theorem wd_57 : (Cond.instantiable "AddressClaimBus$Station" (3 : Nat)) ∈ zx_T := zx_mem tables_1_1 zx_l1 57 (by decide +kernel) (by decide +kernel)
theorem wd_58 : (Cond.methodLink "AddressClaimBus" (24 : Nat) ({ cls := "AddressClaimBus$Station", name := "<init>", desc := "(I)V" } : MethodName)) ∈ zx_T := zx_mem tables_1_1 zx_l1 58 (by decide +kernel) (by decide +kernel)
theorem wd_59 : (Cond.instanceMethod ({ cls := "AddressClaimBus$Station", name := "<init>", desc := "(I)V" } : MethodName)) ∈ zx_T := zx_mem tables_1_1 zx_l1 59 (by decide +kernel) (by decide +kernel)
theorem wd_60 : (Cond.code ({ cls := "AddressClaimBus$Station", name := "<init>", desc := "(I)V" } : MethodName) prog_7_method_1_code (2 : Nat) (Option.none : Option FieldType)) ∈ zx_T := zx_mem tables_1_1 zx_l1 60 (by decide +kernel) (by decide +kernel)
theorem wd_61 : (Cond.methodLink "AddressClaimBus$Station" (1 : Nat) ({ cls := "java/lang/Object", name := "<init>", desc := "()V" } : MethodName)) ∈ zx_T := zx_mem tables_1_1 zx_l1 61 (by decide +kernel) (by decide +kernel)
theorem wd_62 : (Cond.fieldLink "AddressClaimBus$Station" (7 : Nat) "AddressClaimBus$Station" "number" "I") ∈ zx_T := zx_mem tables_1_1 zx_l1 62 (by decide +kernel) (by decide +kernel)
theorem wd_63 : (Cond.fieldLink "AddressClaimBus$Bus" (34 : Nat) "AddressClaimBus$Station" "number" "I") ∈ zx_T := zx_mem tables_1_1 zx_l1 63 (by decide +kernel) (by decide +kernel)
theorem wd_64 : (Cond.fieldLink "AddressClaimBus$Function" (72 : Nat) "AddressClaimBus$Station" "number" "I") ∈ zx_T := zx_mem tables_1_1 zx_l1 64 (by decide +kernel) (by decide +kernel)
theorem wd_65 : (Cond.fieldLink "AddressClaimBus$Bus" (29 : Nat) "AddressClaimBus$Station" "address" "I") ∈ zx_T := zx_mem tables_1_1 zx_l1 65 (by decide +kernel) (by decide +kernel)
theorem wd_66 : (Cond.fieldLink "AddressClaimBus$Function" (82 : Nat) "AddressClaimBus$Station" "address" "I") ∈ zx_T := zx_mem tables_1_1 zx_l1 66 (by decide +kernel) (by decide +kernel)
theorem wd_67 : (Cond.fieldLink "AddressClaimBus" (60 : Nat) "AddressClaimBus$Station" "address" "I") ∈ zx_T := zx_mem tables_1_1 zx_l1 67 (by decide +kernel) (by decide +kernel)
theorem wd_68 : (Cond.fieldLink "AddressClaimBus" (52 : Nat) "AddressClaimBus$Station" "busy" "Z") ∈ zx_T := zx_mem tables_1_1 zx_l1 68 (by decide +kernel) (by decide +kernel)
theorem wd_69 : (Cond.fieldLink "AddressClaimBus$Incoming" (111 : Nat) "AddressClaimBus$Station" "busy" "Z") ∈ zx_T := zx_mem tables_1_1 zx_l1 69 (by decide +kernel) (by decide +kernel)
theorem wd_70 : (Cond.laysFinal "AddressClaimBus$Station" "AddressClaimBus$Station" "number" "I") ∈ zx_T := zx_mem tables_1_1 zx_l1 70 (by decide +kernel) (by decide +kernel)
theorem wd_72 : (Cond.lays "AddressClaimBus$Station" "AddressClaimBus$Station" "address" "I") ∈ zx_T := zx_mem tables_1_1 zx_l1 72 (by decide +kernel) (by decide +kernel)
theorem wd_74 : (Cond.lays "AddressClaimBus$Station" "AddressClaimBus$Station" "busy" "Z") ∈ zx_T := zx_mem tables_1_1 zx_l1 74 (by decide +kernel) (by decide +kernel)
theorem wd_77 : (Cond.methodLink "AddressClaimBus" (27 : Nat) ({ cls := "AddressClaimBus$Function", name := "<init>", desc := "(LAddressClaimBus$Bus;LAddressClaimBus$Station;)V" } : MethodName)) ∈ zx_T := zx_mem tables_1_1 zx_l1 77 (by decide +kernel) (by decide +kernel)
theorem wd_78 : (Cond.instanceMethod ({ cls := "AddressClaimBus$Function", name := "<init>", desc := "(LAddressClaimBus$Bus;LAddressClaimBus$Station;)V" } : MethodName)) ∈ zx_T := zx_mem tables_1_1 zx_l1 78 (by decide +kernel) (by decide +kernel)
theorem wd_79 : (Cond.code ({ cls := "AddressClaimBus$Function", name := "<init>", desc := "(LAddressClaimBus$Bus;LAddressClaimBus$Station;)V" } : MethodName) prog_3_method_1_code (4 : Nat) (Option.none : Option FieldType)) ∈ zx_T := zx_mem tables_1_1 zx_l1 79 (by decide +kernel) (by decide +kernel)
theorem wd_80 : (Cond.methodLink "AddressClaimBus$Function" (3 : Nat) ({ cls := "java/lang/Object", name := "<init>", desc := "()V" } : MethodName)) ∈ zx_T := zx_mem tables_1_1 zx_l1 80 (by decide +kernel) (by decide +kernel)
theorem wd_81 : (Cond.classLink "AddressClaimBus$Function" (15 : Nat) "AddressClaimBus$Incoming") ∈ zx_T := zx_mem tables_1_1 zx_l1 81 (by decide +kernel) (by decide +kernel)
theorem wd_83 : (Cond.classLink "AddressClaimBus$Function" (21 : Nat) "AddressClaimBus$Message") ∈ zx_T := zx_mem tables_1_1 zx_l1 83 (by decide +kernel) (by decide +kernel)
theorem wd_84 : (Cond.instantiable "AddressClaimBus$Message" (5 : Nat)) ∈ zx_T := zx_mem tables_1_1 zx_l1 84 (by decide +kernel) (by decide +kernel)
theorem wd_86 : (Cond.instanceMethod ({ cls := "AddressClaimBus$Message", name := "<init>", desc := "()V" } : MethodName)) ∈ zx_T := zx_mem tables_1_1 zx_l1 86 (by decide +kernel) (by decide +kernel)
theorem wd_87 : (Cond.code ({ cls := "AddressClaimBus$Message", name := "<init>", desc := "()V" } : MethodName) prog_5_method_1_code (1 : Nat) (Option.none : Option FieldType)) ∈ zx_T := zx_mem tables_1_1 zx_l1 87 (by decide +kernel) (by decide +kernel)
theorem wd_88 : (Cond.methodLink "AddressClaimBus$Message" (3 : Nat) ({ cls := "java/lang/Object", name := "<init>", desc := "()V" } : MethodName)) ∈ zx_T := zx_mem tables_1_1 zx_l1 88 (by decide +kernel) (by decide +kernel)
theorem wd_89 : (Cond.fieldLink "AddressClaimBus$Message" (9 : Nat) "AddressClaimBus$Message" "packets" "[J") ∈ zx_T := zx_mem tables_1_1 zx_l1 89 (by decide +kernel) (by decide +kernel)
theorem wd_90 : (Cond.fieldLink "AddressClaimBus$Incoming" (32 : Nat) "AddressClaimBus$Message" "source" "I") ∈ zx_T := zx_mem tables_1_1 zx_l1 90 (by decide +kernel) (by decide +kernel)
theorem wd_91 : (Cond.fieldLink "AddressClaimBus$Message" (15 : Nat) "AddressClaimBus$Message" "source" "I") ∈ zx_T := zx_mem tables_1_1 zx_l1 91 (by decide +kernel) (by decide +kernel)
theorem wd_92 : (Cond.fieldLink "AddressClaimBus" (148 : Nat) "AddressClaimBus$Message" "source" "I") ∈ zx_T := zx_mem tables_1_1 zx_l1 92 (by decide +kernel) (by decide +kernel)
theorem wd_93 : (Cond.fieldLink "AddressClaimBus$Incoming" (36 : Nat) "AddressClaimBus$Message" "group" "I") ∈ zx_T := zx_mem tables_1_1 zx_l1 93 (by decide +kernel) (by decide +kernel)
theorem wd_94 : (Cond.fieldLink "AddressClaimBus$Message" (19 : Nat) "AddressClaimBus$Message" "group" "I") ∈ zx_T := zx_mem tables_1_1 zx_l1 94 (by decide +kernel) (by decide +kernel)
theorem wd_95 : (Cond.fieldLink "AddressClaimBus$Function" (195 : Nat) "AddressClaimBus$Message" "group" "I") ∈ zx_T := zx_mem tables_1_1 zx_l1 95 (by decide +kernel) (by decide +kernel)
theorem wd_96 : (Cond.fieldLink "AddressClaimBus" (153 : Nat) "AddressClaimBus$Message" "group" "I") ∈ zx_T := zx_mem tables_1_1 zx_l1 96 (by decide +kernel) (by decide +kernel)
theorem wd_97 : (Cond.fieldLink "AddressClaimBus$Incoming" (39 : Nat) "AddressClaimBus$Message" "size" "I") ∈ zx_T := zx_mem tables_1_1 zx_l1 97 (by decide +kernel) (by decide +kernel)
theorem wd_98 : (Cond.fieldLink "AddressClaimBus$Message" (22 : Nat) "AddressClaimBus$Message" "size" "I") ∈ zx_T := zx_mem tables_1_1 zx_l1 98 (by decide +kernel) (by decide +kernel)
theorem wd_99 : (Cond.fieldLink "AddressClaimBus" (156 : Nat) "AddressClaimBus$Message" "size" "I") ∈ zx_T := zx_mem tables_1_1 zx_l1 99 (by decide +kernel) (by decide +kernel)
theorem wd_100 : (Cond.fieldLink "AddressClaimBus$Incoming" (42 : Nat) "AddressClaimBus$Message" "toAll" "Z") ∈ zx_T := zx_mem tables_1_1 zx_l1 100 (by decide +kernel) (by decide +kernel)
theorem wd_101 : (Cond.fieldLink "AddressClaimBus$Message" (25 : Nat) "AddressClaimBus$Message" "toAll" "Z") ∈ zx_T := zx_mem tables_1_1 zx_l1 101 (by decide +kernel) (by decide +kernel)
theorem wd_102 : (Cond.fieldLink "AddressClaimBus" (159 : Nat) "AddressClaimBus$Message" "toAll" "Z") ∈ zx_T := zx_mem tables_1_1 zx_l1 102 (by decide +kernel) (by decide +kernel)
theorem wd_103 : (Cond.laysFinal "AddressClaimBus$Message" "AddressClaimBus$Message" "packets" "[J") ∈ zx_T := zx_mem tables_1_1 zx_l1 103 (by decide +kernel) (by decide +kernel)
theorem wd_105 : (Cond.lays "AddressClaimBus$Message" "AddressClaimBus$Message" "source" "I") ∈ zx_T := zx_mem tables_1_1 zx_l1 105 (by decide +kernel) (by decide +kernel)
theorem wd_107 : (Cond.lays "AddressClaimBus$Message" "AddressClaimBus$Message" "group" "I") ∈ zx_T := zx_mem tables_1_1 zx_l1 107 (by decide +kernel) (by decide +kernel)
theorem wd_109 : (Cond.lays "AddressClaimBus$Message" "AddressClaimBus$Message" "size" "I") ∈ zx_T := zx_mem tables_1_1 zx_l1 109 (by decide +kernel) (by decide +kernel)
theorem wd_111 : (Cond.lays "AddressClaimBus$Message" "AddressClaimBus$Message" "toAll" "Z") ∈ zx_T := zx_mem tables_1_1 zx_l1 111 (by decide +kernel) (by decide +kernel)
theorem wd_114 : (Cond.constantLong "AddressClaimBus$Function" (32 : Nat) (9223372036854775807 : Int64)) ∈ zx_T := zx_mem tables_1_1 zx_l1 114 (by decide +kernel) (by decide +kernel)
theorem wd_115 : (Cond.classLink "AddressClaimBus$Function" (46 : Nat) "AddressClaimBus$Outgoing") ∈ zx_T := zx_mem tables_1_1 zx_l1 115 (by decide +kernel) (by decide +kernel)
theorem wd_116 : (Cond.instantiable "AddressClaimBus$Outgoing" (10 : Nat)) ∈ zx_T := zx_mem tables_1_1 zx_l1 116 (by decide +kernel) (by decide +kernel)
theorem wd_117 : (Cond.methodLink "AddressClaimBus$Function" (48 : Nat) ({ cls := "AddressClaimBus$Outgoing", name := "<init>", desc := "(LAddressClaimBus$Bus;LAddressClaimBus$Station;)V" } : MethodName)) ∈ zx_T := zx_mem tables_1_1 zx_l1 117 (by decide +kernel) (by decide +kernel)
theorem wd_118 : (Cond.instanceMethod ({ cls := "AddressClaimBus$Outgoing", name := "<init>", desc := "(LAddressClaimBus$Bus;LAddressClaimBus$Station;)V" } : MethodName)) ∈ zx_T := zx_mem tables_1_1 zx_l1 118 (by decide +kernel) (by decide +kernel)
theorem wd_119 : (Cond.code ({ cls := "AddressClaimBus$Outgoing", name := "<init>", desc := "(LAddressClaimBus$Bus;LAddressClaimBus$Station;)V" } : MethodName) prog_6_method_1_code (3 : Nat) (Option.none : Option FieldType)) ∈ zx_T := zx_mem tables_1_1 zx_l1 119 (by decide +kernel) (by decide +kernel)
theorem wd_120 : (Cond.methodLink "AddressClaimBus$Outgoing" (3 : Nat) ({ cls := "java/lang/Object", name := "<init>", desc := "()V" } : MethodName)) ∈ zx_T := zx_mem tables_1_1 zx_l1 120 (by decide +kernel) (by decide +kernel)
theorem wd_121 : (Cond.constantLong "AddressClaimBus$Outgoing" (15 : Nat) (9223372036854775807 : Int64)) ∈ zx_T := zx_mem tables_1_1 zx_l1 121 (by decide +kernel) (by decide +kernel)
theorem wd_122 : (Cond.fieldLink "AddressClaimBus$Outgoing" (21 : Nat) "AddressClaimBus$Outgoing" "bus" "LAddressClaimBus$Bus;") ∈ zx_T := zx_mem tables_1_1 zx_l1 122 (by decide +kernel) (by decide +kernel)
theorem wd_123 : (Cond.fieldLink "AddressClaimBus$Outgoing" (25 : Nat) "AddressClaimBus$Outgoing" "station" "LAddressClaimBus$Station;") ∈ zx_T := zx_mem tables_1_1 zx_l1 123 (by decide +kernel) (by decide +kernel)
theorem wd_124 : (Cond.fieldLink "AddressClaimBus$Outgoing" (9 : Nat) "AddressClaimBus$Outgoing" "phase" "I") ∈ zx_T := zx_mem tables_1_1 zx_l1 124 (by decide +kernel) (by decide +kernel)
theorem wd_125 : (Cond.fieldLink "AddressClaimBus$Function" (85 : Nat) "AddressClaimBus$Outgoing" "phase" "I") ∈ zx_T := zx_mem tables_1_1 zx_l1 125 (by decide +kernel) (by decide +kernel)
theorem wd_126 : (Cond.fieldLink "AddressClaimBus" (129 : Nat) "AddressClaimBus$Outgoing" "phase" "I") ∈ zx_T := zx_mem tables_1_1 zx_l1 126 (by decide +kernel) (by decide +kernel)
theorem wd_127 : (Cond.fieldLink "AddressClaimBus$Function" (59 : Nat) "AddressClaimBus$Outgoing" "result" "I") ∈ zx_T := zx_mem tables_1_1 zx_l1 127 (by decide +kernel) (by decide +kernel)
theorem wd_128 : (Cond.fieldLink "AddressClaimBus$Outgoing" (58 : Nat) "AddressClaimBus$Outgoing" "result" "I") ∈ zx_T := zx_mem tables_1_1 zx_l1 128 (by decide +kernel) (by decide +kernel)
theorem wd_129 : (Cond.fieldLink "AddressClaimBus" (132 : Nat) "AddressClaimBus$Outgoing" "result" "I") ∈ zx_T := zx_mem tables_1_1 zx_l1 129 (by decide +kernel) (by decide +kernel)
theorem wd_130 : (Cond.fieldLink "AddressClaimBus$Outgoing" (29 : Nat) "AddressClaimBus$Outgoing" "target" "I") ∈ zx_T := zx_mem tables_1_1 zx_l1 130 (by decide +kernel) (by decide +kernel)
theorem wd_131 : (Cond.fieldLink "AddressClaimBus$Outgoing" (32 : Nat) "AddressClaimBus$Outgoing" "group" "I") ∈ zx_T := zx_mem tables_1_1 zx_l1 131 (by decide +kernel) (by decide +kernel)
theorem wd_132 : (Cond.fieldLink "AddressClaimBus$Outgoing" (35 : Nat) "AddressClaimBus$Outgoing" "size" "I") ∈ zx_T := zx_mem tables_1_1 zx_l1 132 (by decide +kernel) (by decide +kernel)
theorem wd_133 : (Cond.fieldLink "AddressClaimBus$Outgoing" (38 : Nat) "AddressClaimBus$Outgoing" "seed" "J") ∈ zx_T := zx_mem tables_1_1 zx_l1 133 (by decide +kernel) (by decide +kernel)
theorem wd_134 : (Cond.fieldLink "AddressClaimBus$Outgoing" (41 : Nat) "AddressClaimBus$Outgoing" "nextPacket" "I") ∈ zx_T := zx_mem tables_1_1 zx_l1 134 (by decide +kernel) (by decide +kernel)
theorem wd_135 : (Cond.fieldLink "AddressClaimBus$Outgoing" (17 : Nat) "AddressClaimBus$Outgoing" "due" "J") ∈ zx_T := zx_mem tables_1_1 zx_l1 135 (by decide +kernel) (by decide +kernel)
theorem wd_136 : (Cond.fieldLink "AddressClaimBus$Function" (107 : Nat) "AddressClaimBus$Outgoing" "due" "J") ∈ zx_T := zx_mem tables_1_1 zx_l1 136 (by decide +kernel) (by decide +kernel)
theorem wd_137 : (Cond.laysFinal "AddressClaimBus$Outgoing" "AddressClaimBus$Outgoing" "bus" "LAddressClaimBus$Bus;") ∈ zx_T := zx_mem tables_1_1 zx_l1 137 (by decide +kernel) (by decide +kernel)
theorem wd_139 : (Cond.laysFinal "AddressClaimBus$Outgoing" "AddressClaimBus$Outgoing" "station" "LAddressClaimBus$Station;") ∈ zx_T := zx_mem tables_1_1 zx_l1 139 (by decide +kernel) (by decide +kernel)
theorem wd_141 : (Cond.lays "AddressClaimBus$Outgoing" "AddressClaimBus$Outgoing" "phase" "I") ∈ zx_T := zx_mem tables_1_1 zx_l1 141 (by decide +kernel) (by decide +kernel)
theorem wd_143 : (Cond.lays "AddressClaimBus$Outgoing" "AddressClaimBus$Outgoing" "result" "I") ∈ zx_T := zx_mem tables_1_1 zx_l1 143 (by decide +kernel) (by decide +kernel)
theorem wd_145 : (Cond.lays "AddressClaimBus$Outgoing" "AddressClaimBus$Outgoing" "target" "I") ∈ zx_T := zx_mem tables_1_1 zx_l1 145 (by decide +kernel) (by decide +kernel)
theorem wd_147 : (Cond.lays "AddressClaimBus$Outgoing" "AddressClaimBus$Outgoing" "group" "I") ∈ zx_T := zx_mem tables_1_1 zx_l1 147 (by decide +kernel) (by decide +kernel)
theorem wd_149 : (Cond.lays "AddressClaimBus$Outgoing" "AddressClaimBus$Outgoing" "size" "I") ∈ zx_T := zx_mem tables_1_1 zx_l1 149 (by decide +kernel) (by decide +kernel)
theorem wd_151 : (Cond.lays "AddressClaimBus$Outgoing" "AddressClaimBus$Outgoing" "seed" "J") ∈ zx_T := zx_mem tables_1_1 zx_l1 151 (by decide +kernel) (by decide +kernel)
theorem wd_153 : (Cond.lays "AddressClaimBus$Outgoing" "AddressClaimBus$Outgoing" "nextPacket" "I") ∈ zx_T := zx_mem tables_1_1 zx_l1 153 (by decide +kernel) (by decide +kernel)
theorem wd_155 : (Cond.lays "AddressClaimBus$Outgoing" "AddressClaimBus$Outgoing" "due" "J") ∈ zx_T := zx_mem tables_1_1 zx_l1 155 (by decide +kernel) (by decide +kernel)
theorem wd_158 : (Cond.instantiable "AddressClaimBus$Incoming" (9 : Nat)) ∈ zx_T := zx_mem tables_1_1 zx_l1 158 (by decide +kernel) (by decide +kernel)
theorem wd_159 : (Cond.methodLink "AddressClaimBus$Function" (55 : Nat) ({ cls := "AddressClaimBus$Incoming", name := "<init>", desc := "(LAddressClaimBus$Bus;LAddressClaimBus$Station;)V" } : MethodName)) ∈ zx_T := zx_mem tables_1_1 zx_l1 159 (by decide +kernel) (by decide +kernel)
theorem wd_160 : (Cond.instanceMethod ({ cls := "AddressClaimBus$Incoming", name := "<init>", desc := "(LAddressClaimBus$Bus;LAddressClaimBus$Station;)V" } : MethodName)) ∈ zx_T := zx_mem tables_1_1 zx_l1 160 (by decide +kernel) (by decide +kernel)
theorem wd_161 : (Cond.code ({ cls := "AddressClaimBus$Incoming", name := "<init>", desc := "(LAddressClaimBus$Bus;LAddressClaimBus$Station;)V" } : MethodName) prog_4_method_1_code (3 : Nat) (Option.none : Option FieldType)) ∈ zx_T := zx_mem tables_1_1 zx_l1 161 (by decide +kernel) (by decide +kernel)
theorem wd_162 : (Cond.methodLink "AddressClaimBus$Incoming" (3 : Nat) ({ cls := "java/lang/Object", name := "<init>", desc := "()V" } : MethodName)) ∈ zx_T := zx_mem tables_1_1 zx_l1 162 (by decide +kernel) (by decide +kernel)
theorem wd_163 : (Cond.classLink "AddressClaimBus$Incoming" (9 : Nat) "AddressClaimBus$Message") ∈ zx_T := zx_mem tables_1_1 zx_l1 163 (by decide +kernel) (by decide +kernel)
theorem wd_165 : (Cond.constantLong "AddressClaimBus$Incoming" (18 : Nat) (9223372036854775807 : Int64)) ∈ zx_T := zx_mem tables_1_1 zx_l1 165 (by decide +kernel) (by decide +kernel)
theorem wd_166 : (Cond.fieldLink "AddressClaimBus$Incoming" (24 : Nat) "AddressClaimBus$Incoming" "bus" "LAddressClaimBus$Bus;") ∈ zx_T := zx_mem tables_1_1 zx_l1 166 (by decide +kernel) (by decide +kernel)
theorem wd_167 : (Cond.fieldLink "AddressClaimBus$Incoming" (28 : Nat) "AddressClaimBus$Incoming" "station" "LAddressClaimBus$Station;") ∈ zx_T := zx_mem tables_1_1 zx_l1 167 (by decide +kernel) (by decide +kernel)
theorem wd_168 : (Cond.fieldLink "AddressClaimBus$Incoming" (12 : Nat) "AddressClaimBus$Incoming" "message" "LAddressClaimBus$Message;") ∈ zx_T := zx_mem tables_1_1 zx_l1 168 (by decide +kernel) (by decide +kernel)
theorem wd_169 : (Cond.fieldLink "AddressClaimBus$Function" (192 : Nat) "AddressClaimBus$Incoming" "message" "LAddressClaimBus$Message;") ∈ zx_T := zx_mem tables_1_1 zx_l1 169 (by decide +kernel) (by decide +kernel)
theorem wd_170 : (Cond.fieldLink "AddressClaimBus$Incoming" (46 : Nat) "AddressClaimBus$Incoming" "open" "Z") ∈ zx_T := zx_mem tables_1_1 zx_l1 170 (by decide +kernel) (by decide +kernel)
theorem wd_171 : (Cond.fieldLink "AddressClaimBus$Function" (88 : Nat) "AddressClaimBus$Incoming" "open" "Z") ∈ zx_T := zx_mem tables_1_1 zx_l1 171 (by decide +kernel) (by decide +kernel)
theorem wd_172 : (Cond.fieldLink "AddressClaimBus$Incoming" (68 : Nat) "AddressClaimBus$Incoming" "held" "Z") ∈ zx_T := zx_mem tables_1_1 zx_l1 172 (by decide +kernel) (by decide +kernel)
theorem wd_173 : (Cond.fieldLink "AddressClaimBus$Incoming" (49 : Nat) "AddressClaimBus$Incoming" "expected" "I") ∈ zx_T := zx_mem tables_1_1 zx_l1 173 (by decide +kernel) (by decide +kernel)
theorem wd_174 : (Cond.fieldLink "AddressClaimBus$Incoming" (87 : Nat) "AddressClaimBus$Incoming" "last" "I") ∈ zx_T := zx_mem tables_1_1 zx_l1 174 (by decide +kernel) (by decide +kernel)
theorem wd_175 : (Cond.fieldLink "AddressClaimBus$Incoming" (52 : Nat) "AddressClaimBus$Incoming" "asked" "I") ∈ zx_T := zx_mem tables_1_1 zx_l1 175 (by decide +kernel) (by decide +kernel)
theorem wd_176 : (Cond.fieldLink "AddressClaimBus$Incoming" (20 : Nat) "AddressClaimBus$Incoming" "due" "J") ∈ zx_T := zx_mem tables_1_1 zx_l1 176 (by decide +kernel) (by decide +kernel)
theorem wd_177 : (Cond.fieldLink "AddressClaimBus$Function" (116 : Nat) "AddressClaimBus$Incoming" "due" "J") ∈ zx_T := zx_mem tables_1_1 zx_l1 177 (by decide +kernel) (by decide +kernel)
theorem wd_178 : (Cond.laysFinal "AddressClaimBus$Incoming" "AddressClaimBus$Incoming" "bus" "LAddressClaimBus$Bus;") ∈ zx_T := zx_mem tables_1_1 zx_l1 178 (by decide +kernel) (by decide +kernel)
theorem wd_180 : (Cond.laysFinal "AddressClaimBus$Incoming" "AddressClaimBus$Incoming" "station" "LAddressClaimBus$Station;") ∈ zx_T := zx_mem tables_1_1 zx_l1 180 (by decide +kernel) (by decide +kernel)
theorem wd_182 : (Cond.laysFinal "AddressClaimBus$Incoming" "AddressClaimBus$Incoming" "message" "LAddressClaimBus$Message;") ∈ zx_T := zx_mem tables_1_1 zx_l1 182 (by decide +kernel) (by decide +kernel)
theorem wd_184 : (Cond.lays "AddressClaimBus$Incoming" "AddressClaimBus$Incoming" "open" "Z") ∈ zx_T := zx_mem tables_1_1 zx_l1 184 (by decide +kernel) (by decide +kernel)
theorem wd_186 : (Cond.lays "AddressClaimBus$Incoming" "AddressClaimBus$Incoming" "held" "Z") ∈ zx_T := zx_mem tables_1_1 zx_l1 186 (by decide +kernel) (by decide +kernel)
theorem wd_188 : (Cond.lays "AddressClaimBus$Incoming" "AddressClaimBus$Incoming" "expected" "I") ∈ zx_T := zx_mem tables_1_1 zx_l1 188 (by decide +kernel) (by decide +kernel)
theorem wd_190 : (Cond.lays "AddressClaimBus$Incoming" "AddressClaimBus$Incoming" "last" "I") ∈ zx_T := zx_mem tables_1_1 zx_l1 190 (by decide +kernel) (by decide +kernel)
theorem wd_192 : (Cond.lays "AddressClaimBus$Incoming" "AddressClaimBus$Incoming" "asked" "I") ∈ zx_T := zx_mem tables_1_1 zx_l1 192 (by decide +kernel) (by decide +kernel)
theorem wd_194 : (Cond.lays "AddressClaimBus$Incoming" "AddressClaimBus$Incoming" "due" "J") ∈ zx_T := zx_mem tables_1_1 zx_l1 194 (by decide +kernel) (by decide +kernel)
theorem wd_197 : (Cond.fieldLink "AddressClaimBus$Function" (38 : Nat) "AddressClaimBus$Function" "bus" "LAddressClaimBus$Bus;") ∈ zx_T := zx_mem tables_1_1 zx_l1 197 (by decide +kernel) (by decide +kernel)
theorem wd_198 : (Cond.fieldLink "AddressClaimBus$Function" (42 : Nat) "AddressClaimBus$Function" "station" "LAddressClaimBus$Station;") ∈ zx_T := zx_mem tables_1_1 zx_l1 198 (by decide +kernel) (by decide +kernel)
theorem wd_199 : (Cond.fieldLink "AddressClaimBus" (48 : Nat) "AddressClaimBus$Function" "station" "LAddressClaimBus$Station;") ∈ zx_T := zx_mem tables_1_1 zx_l1 199 (by decide +kernel) (by decide +kernel)
theorem wd_200 : (Cond.fieldLink "AddressClaimBus$Function" (9 : Nat) "AddressClaimBus$Function" "noted" "[I") ∈ zx_T := zx_mem tables_1_1 zx_l1 200 (by decide +kernel) (by decide +kernel)
theorem wd_201 : (Cond.fieldLink "AddressClaimBus" (63 : Nat) "AddressClaimBus$Function" "noted" "[I") ∈ zx_T := zx_mem tables_1_1 zx_l1 201 (by decide +kernel) (by decide +kernel)
theorem wd_202 : (Cond.fieldLink "AddressClaimBus$Function" (51 : Nat) "AddressClaimBus$Function" "outgoing" "LAddressClaimBus$Outgoing;") ∈ zx_T := zx_mem tables_1_1 zx_l1 202 (by decide +kernel) (by decide +kernel)
theorem wd_203 : (Cond.fieldLink "AddressClaimBus" (78 : Nat) "AddressClaimBus$Function" "outgoing" "LAddressClaimBus$Outgoing;") ∈ zx_T := zx_mem tables_1_1 zx_l1 203 (by decide +kernel) (by decide +kernel)
theorem wd_204 : (Cond.fieldLink "AddressClaimBus$Function" (17 : Nat) "AddressClaimBus$Function" "incoming" "[LAddressClaimBus$Incoming;") ∈ zx_T := zx_mem tables_1_1 zx_l1 204 (by decide +kernel) (by decide +kernel)
theorem wd_205 : (Cond.fieldLink "AddressClaimBus$Function" (24 : Nat) "AddressClaimBus$Function" "latest" "LAddressClaimBus$Message;") ∈ zx_T := zx_mem tables_1_1 zx_l1 205 (by decide +kernel) (by decide +kernel)
theorem wd_206 : (Cond.fieldLink "AddressClaimBus" (144 : Nat) "AddressClaimBus$Function" "latest" "LAddressClaimBus$Message;") ∈ zx_T := zx_mem tables_1_1 zx_l1 206 (by decide +kernel) (by decide +kernel)
theorem wd_207 : (Cond.fieldLink "AddressClaimBus$Function" (62 : Nat) "AddressClaimBus$Function" "deliveries" "I") ∈ zx_T := zx_mem tables_1_1 zx_l1 207 (by decide +kernel) (by decide +kernel)
theorem wd_208 : (Cond.fieldLink "AddressClaimBus" (138 : Nat) "AddressClaimBus$Function" "deliveries" "I") ∈ zx_T := zx_mem tables_1_1 zx_l1 208 (by decide +kernel) (by decide +kernel)
theorem wd_209 : (Cond.fieldLink "AddressClaimBus$Function" (28 : Nat) "AddressClaimBus$Function" "state" "I") ∈ zx_T := zx_mem tables_1_1 zx_l1 209 (by decide +kernel) (by decide +kernel)
theorem wd_210 : (Cond.fieldLink "AddressClaimBus" (56 : Nat) "AddressClaimBus$Function" "state" "I") ∈ zx_T := zx_mem tables_1_1 zx_l1 210 (by decide +kernel) (by decide +kernel)
theorem wd_211 : (Cond.fieldLink "AddressClaimBus$Function" (56 : Nat) "AddressClaimBus$Function" "name" "J") ∈ zx_T := zx_mem tables_1_1 zx_l1 211 (by decide +kernel) (by decide +kernel)
theorem wd_212 : (Cond.fieldLink "AddressClaimBus" (166 : Nat) "AddressClaimBus$Function" "name" "J") ∈ zx_T := zx_mem tables_1_1 zx_l1 212 (by decide +kernel) (by decide +kernel)
theorem wd_213 : (Cond.fieldLink "AddressClaimBus$Function" (34 : Nat) "AddressClaimBus$Function" "holdDue" "J") ∈ zx_T := zx_mem tables_1_1 zx_l1 213 (by decide +kernel) (by decide +kernel)
theorem wd_214 : (Cond.laysFinal "AddressClaimBus$Function" "AddressClaimBus$Function" "bus" "LAddressClaimBus$Bus;") ∈ zx_T := zx_mem tables_1_1 zx_l1 214 (by decide +kernel) (by decide +kernel)
theorem wd_216 : (Cond.laysFinal "AddressClaimBus$Function" "AddressClaimBus$Function" "station" "LAddressClaimBus$Station;") ∈ zx_T := zx_mem tables_1_1 zx_l1 216 (by decide +kernel) (by decide +kernel)
theorem wd_218 : (Cond.laysFinal "AddressClaimBus$Function" "AddressClaimBus$Function" "noted" "[I") ∈ zx_T := zx_mem tables_1_1 zx_l1 218 (by decide +kernel) (by decide +kernel)
theorem wd_220 : (Cond.laysFinal "AddressClaimBus$Function" "AddressClaimBus$Function" "outgoing" "LAddressClaimBus$Outgoing;") ∈ zx_T := zx_mem tables_1_1 zx_l1 220 (by decide +kernel) (by decide +kernel)
theorem wd_222 : (Cond.laysFinal "AddressClaimBus$Function" "AddressClaimBus$Function" "incoming" "[LAddressClaimBus$Incoming;") ∈ zx_T := zx_mem tables_1_1 zx_l1 222 (by decide +kernel) (by decide +kernel)
theorem wd_224 : (Cond.laysFinal "AddressClaimBus$Function" "AddressClaimBus$Function" "latest" "LAddressClaimBus$Message;") ∈ zx_T := zx_mem tables_1_1 zx_l1 224 (by decide +kernel) (by decide +kernel)
theorem wd_226 : (Cond.lays "AddressClaimBus$Function" "AddressClaimBus$Function" "deliveries" "I") ∈ zx_T := zx_mem tables_1_1 zx_l1 226 (by decide +kernel) (by decide +kernel)
theorem wd_228 : (Cond.lays "AddressClaimBus$Function" "AddressClaimBus$Function" "state" "I") ∈ zx_T := zx_mem tables_1_1 zx_l1 228 (by decide +kernel) (by decide +kernel)
theorem wd_230 : (Cond.lays "AddressClaimBus$Function" "AddressClaimBus$Function" "name" "J") ∈ zx_T := zx_mem tables_1_1 zx_l1 230 (by decide +kernel) (by decide +kernel)
theorem wd_232 : (Cond.lays "AddressClaimBus$Function" "AddressClaimBus$Function" "holdDue" "J") ∈ zx_T := zx_mem tables_1_1 zx_l1 232 (by decide +kernel) (by decide +kernel)
theorem wd_235 : (Cond.fieldLink "AddressClaimBus" (12 : Nat) "AddressClaimBus" "bus" "LAddressClaimBus$Bus;") ∈ zx_T := zx_mem tables_1_1 zx_l1 235 (by decide +kernel) (by decide +kernel)
theorem wd_236 : (Cond.fieldLink "AddressClaimBus" (18 : Nat) "AddressClaimBus" "functions" "[LAddressClaimBus$Function;") ∈ zx_T := zx_mem tables_1_1 zx_l1 236 (by decide +kernel) (by decide +kernel)
theorem wd_237 : (Cond.laysFinal "AddressClaimBus" "AddressClaimBus" "bus" "LAddressClaimBus$Bus;") ∈ zx_T := zx_mem tables_1_1 zx_l1 237 (by decide +kernel) (by decide +kernel)
theorem wd_239 : (Cond.laysFinal "AddressClaimBus" "AddressClaimBus" "functions" "[LAddressClaimBus$Function;") ∈ zx_T := zx_mem tables_1_1 zx_l1 239 (by decide +kernel) (by decide +kernel)
theorem wd_242 : (Cond.methodLink "AddressClaimBusLaw" (15 : Nat) ({ cls := "AddressClaimBus", name := "start", desc := "(IJI)Z" } : MethodName)) ∈ zx_T := zx_mem tables_1_2 zx_l2 2 (by decide +kernel) (by decide +kernel)
theorem wd_243 : (Cond.instanceMethod ({ cls := "AddressClaimBus", name := "start", desc := "(IJI)Z" } : MethodName)) ∈ zx_T := zx_mem tables_1_2 zx_l2 3 (by decide +kernel) (by decide +kernel)
theorem wd_244 : (Cond.selects "AddressClaimBus" ({ cls := "AddressClaimBus", name := "start", desc := "(IJI)Z" } : MethodName) ({ cls := "AddressClaimBus", name := "start", desc := "(IJI)Z" } : MethodName)) ∈ zx_T := zx_mem tables_1_2 zx_l2 4 (by decide +kernel) (by decide +kernel)
theorem wd_245 : (Cond.code ({ cls := "AddressClaimBus", name := "start", desc := "(IJI)Z" } : MethodName) prog_1_method_2_code (5 : Nat) (Option.some FieldType.boolean)) ∈ zx_T := zx_mem tables_1_2 zx_l2 5 (by decide +kernel) (by decide +kernel)
theorem wd_246 : (Cond.methodLink "AddressClaimBus" (30 : Nat) ({ cls := "AddressClaimBus", name := "isFunction", desc := "(I)Z" } : MethodName)) ∈ zx_T := zx_mem tables_1_2 zx_l2 6 (by decide +kernel) (by decide +kernel)
theorem wd_248 : (Cond.instanceMethod ({ cls := "AddressClaimBus", name := "isFunction", desc := "(I)Z" } : MethodName)) ∈ zx_T := zx_mem tables_1_2 zx_l2 8 (by decide +kernel) (by decide +kernel)
theorem wd_249 : (Cond.code ({ cls := "AddressClaimBus", name := "isFunction", desc := "(I)Z" } : MethodName) prog_1_method_22_code (2 : Nat) (Option.some FieldType.boolean)) ∈ zx_T := zx_mem tables_1_2 zx_l2 9 (by decide +kernel) (by decide +kernel)
theorem wd_250 : (Cond.methodLink "AddressClaimBus" (34 : Nat) ({ cls := "AddressClaimBus", name := "isOn", desc := "(I)Z" } : MethodName)) ∈ zx_T := zx_mem tables_1_2 zx_l2 10 (by decide +kernel) (by decide +kernel)
theorem wd_252 : (Cond.instanceMethod ({ cls := "AddressClaimBus", name := "isOn", desc := "(I)Z" } : MethodName)) ∈ zx_T := zx_mem tables_1_2 zx_l2 12 (by decide +kernel) (by decide +kernel)
theorem wd_253 : (Cond.code ({ cls := "AddressClaimBus", name := "isOn", desc := "(I)Z" } : MethodName) prog_1_method_23_code (2 : Nat) (Option.some FieldType.boolean)) ∈ zx_T := zx_mem tables_1_2 zx_l2 13 (by decide +kernel) (by decide +kernel)
theorem wd_254 : (Cond.methodLink "AddressClaimBus" (37 : Nat) ({ cls := "AddressClaimBus", name := "isNameTaken", desc := "(J)Z" } : MethodName)) ∈ zx_T := zx_mem tables_1_2 zx_l2 14 (by decide +kernel) (by decide +kernel)
theorem wd_256 : (Cond.instanceMethod ({ cls := "AddressClaimBus", name := "isNameTaken", desc := "(J)Z" } : MethodName)) ∈ zx_T := zx_mem tables_1_2 zx_l2 16 (by decide +kernel) (by decide +kernel)
theorem wd_257 : (Cond.code ({ cls := "AddressClaimBus", name := "isNameTaken", desc := "(J)Z" } : MethodName) prog_1_method_25_code (4 : Nat) (Option.some FieldType.boolean)) ∈ zx_T := zx_mem tables_1_2 zx_l2 17 (by decide +kernel) (by decide +kernel)
theorem wd_258 : (Cond.methodLink "AddressClaimBus" (41 : Nat) ({ cls := "AddressClaimBus$Function", name := "switchOn", desc := "(JI)V" } : MethodName)) ∈ zx_T := zx_mem tables_1_2 zx_l2 18 (by decide +kernel) (by decide +kernel)
theorem wd_259 : (Cond.instanceMethod ({ cls := "AddressClaimBus$Function", name := "switchOn", desc := "(JI)V" } : MethodName)) ∈ zx_T := zx_mem tables_1_2 zx_l2 19 (by decide +kernel) (by decide +kernel)
theorem wd_260 : (Cond.selects "AddressClaimBus$Function" ({ cls := "AddressClaimBus$Function", name := "switchOn", desc := "(JI)V" } : MethodName) ({ cls := "AddressClaimBus$Function", name := "switchOn", desc := "(JI)V" } : MethodName)) ∈ zx_T := zx_mem tables_1_2 zx_l2 20 (by decide +kernel) (by decide +kernel)
theorem wd_261 : (Cond.code ({ cls := "AddressClaimBus$Function", name := "switchOn", desc := "(JI)V" } : MethodName) prog_3_method_2_code (5 : Nat) (Option.none : Option FieldType)) ∈ zx_T := zx_mem tables_1_2 zx_l2 21 (by decide +kernel) (by decide +kernel)
theorem wd_262 : (Cond.methodLink "AddressClaimBus$Function" (65 : Nat) ({ cls := "AddressClaimBus$Function", name := "claim", desc := "(I)V" } : MethodName)) ∈ zx_T := zx_mem tables_1_2 zx_l2 22 (by decide +kernel) (by decide +kernel)
theorem wd_264 : (Cond.instanceMethod ({ cls := "AddressClaimBus$Function", name := "claim", desc := "(I)V" } : MethodName)) ∈ zx_T := zx_mem tables_1_2 zx_l2 24 (by decide +kernel) (by decide +kernel)
theorem wd_265 : (Cond.code ({ cls := "AddressClaimBus$Function", name := "claim", desc := "(I)V" } : MethodName) prog_3_method_9_code (2 : Nat) (Option.none : Option FieldType)) ∈ zx_T := zx_mem tables_1_2 zx_l2 25 (by decide +kernel) (by decide +kernel)
theorem wd_266 : (Cond.constantLong "AddressClaimBus$Function" (124 : Nat) (250 : Int64)) ∈ zx_T := zx_mem tables_1_2 zx_l2 26 (by decide +kernel) (by decide +kernel)
theorem wd_267 : (Cond.methodLink "AddressClaimBus$Function" (96 : Nat) ({ cls := "AddressClaimBus$Function", name := "sendClaim", desc := "()V" } : MethodName)) ∈ zx_T := zx_mem tables_1_2 zx_l2 27 (by decide +kernel) (by decide +kernel)
theorem wd_269 : (Cond.instanceMethod ({ cls := "AddressClaimBus$Function", name := "sendClaim", desc := "()V" } : MethodName)) ∈ zx_T := zx_mem tables_1_2 zx_l2 29 (by decide +kernel) (by decide +kernel)
theorem wd_270 : (Cond.code ({ cls := "AddressClaimBus$Function", name := "sendClaim", desc := "()V" } : MethodName) prog_3_method_10_code (1 : Nat) (Option.none : Option FieldType)) ∈ zx_T := zx_mem tables_1_2 zx_l2 30 (by decide +kernel) (by decide +kernel)
theorem wd_271 : (Cond.constant "AddressClaimBus$Function" (126 : Nat) (418250752 : Int32)) ∈ zx_T := zx_mem tables_1_2 zx_l2 31 (by decide +kernel) (by decide +kernel)
theorem wd_272 : (Cond.methodLink "AddressClaimBus$Function" (127 : Nat) ({ cls := "AddressClaimBus$Bus", name := "put", desc := "(LAddressClaimBus$Station;IIJ)V" } : MethodName)) ∈ zx_T := zx_mem tables_1_2 zx_l2 32 (by decide +kernel) (by decide +kernel)
theorem wd_273 : (Cond.instanceMethod ({ cls := "AddressClaimBus$Bus", name := "put", desc := "(LAddressClaimBus$Station;IIJ)V" } : MethodName)) ∈ zx_T := zx_mem tables_1_2 zx_l2 33 (by decide +kernel) (by decide +kernel)
theorem wd_274 : (Cond.selects "AddressClaimBus$Bus" ({ cls := "AddressClaimBus$Bus", name := "put", desc := "(LAddressClaimBus$Station;IIJ)V" } : MethodName) ({ cls := "AddressClaimBus$Bus", name := "put", desc := "(LAddressClaimBus$Station;IIJ)V" } : MethodName)) ∈ zx_T := zx_mem tables_1_2 zx_l2 34 (by decide +kernel) (by decide +kernel)
theorem wd_275 : (Cond.code ({ cls := "AddressClaimBus$Bus", name := "put", desc := "(LAddressClaimBus$Station;IIJ)V" } : MethodName) prog_2_method_2_code (6 : Nat) (Option.none : Option FieldType)) ∈ zx_T := zx_mem tables_1_2 zx_l2 35 (by decide +kernel) (by decide +kernel)
theorem wd_276 : (Cond.methodLink "AddressClaimBusLaw" (20 : Nat) ({ cls := "AddressClaimBus", name := "stop", desc := "(I)Z" } : MethodName)) ∈ zx_T := zx_mem tables_1_2 zx_l2 36 (by decide +kernel) (by decide +kernel)
theorem wd_277 : (Cond.instanceMethod ({ cls := "AddressClaimBus", name := "stop", desc := "(I)Z" } : MethodName)) ∈ zx_T := zx_mem tables_1_2 zx_l2 37 (by decide +kernel) (by decide +kernel)
theorem wd_278 : (Cond.selects "AddressClaimBus" ({ cls := "AddressClaimBus", name := "stop", desc := "(I)Z" } : MethodName) ({ cls := "AddressClaimBus", name := "stop", desc := "(I)Z" } : MethodName)) ∈ zx_T := zx_mem tables_1_2 zx_l2 38 (by decide +kernel) (by decide +kernel)
theorem wd_279 : (Cond.code ({ cls := "AddressClaimBus", name := "stop", desc := "(I)Z" } : MethodName) prog_1_method_3_code (2 : Nat) (Option.some FieldType.boolean)) ∈ zx_T := zx_mem tables_1_2 zx_l2 39 (by decide +kernel) (by decide +kernel)
theorem wd_280 : (Cond.methodLink "AddressClaimBus" (45 : Nat) ({ cls := "AddressClaimBus$Function", name := "switchOff", desc := "()V" } : MethodName)) ∈ zx_T := zx_mem tables_1_2 zx_l2 40 (by decide +kernel) (by decide +kernel)
theorem wd_281 : (Cond.instanceMethod ({ cls := "AddressClaimBus$Function", name := "switchOff", desc := "()V" } : MethodName)) ∈ zx_T := zx_mem tables_1_2 zx_l2 41 (by decide +kernel) (by decide +kernel)
theorem wd_282 : (Cond.selects "AddressClaimBus$Function" ({ cls := "AddressClaimBus$Function", name := "switchOff", desc := "()V" } : MethodName) ({ cls := "AddressClaimBus$Function", name := "switchOff", desc := "()V" } : MethodName)) ∈ zx_T := zx_mem tables_1_2 zx_l2 42 (by decide +kernel) (by decide +kernel)
theorem wd_283 : (Cond.code ({ cls := "AddressClaimBus$Function", name := "switchOff", desc := "()V" } : MethodName) prog_3_method_3_code (1 : Nat) (Option.none : Option FieldType)) ∈ zx_T := zx_mem tables_1_2 zx_l2 43 (by decide +kernel) (by decide +kernel)
theorem wd_284 : (Cond.methodLink "AddressClaimBus$Function" (69 : Nat) ({ cls := "AddressClaimBus$Function", name := "endSessions", desc := "()V" } : MethodName)) ∈ zx_T := zx_mem tables_1_2 zx_l2 44 (by decide +kernel) (by decide +kernel)
theorem wd_286 : (Cond.instanceMethod ({ cls := "AddressClaimBus$Function", name := "endSessions", desc := "()V" } : MethodName)) ∈ zx_T := zx_mem tables_1_2 zx_l2 46 (by decide +kernel) (by decide +kernel)
theorem wd_287 : (Cond.code ({ cls := "AddressClaimBus$Function", name := "endSessions", desc := "()V" } : MethodName) prog_3_method_16_code (2 : Nat) (Option.none : Option FieldType)) ∈ zx_T := zx_mem tables_1_2 zx_l2 47 (by decide +kernel) (by decide +kernel)
theorem wd_288 : (Cond.methodLink "AddressClaimBus$Function" (148 : Nat) ({ cls := "AddressClaimBus$Outgoing", name := "end", desc := "(I)V" } : MethodName)) ∈ zx_T := zx_mem tables_1_2 zx_l2 48 (by decide +kernel) (by decide +kernel)
theorem wd_289 : (Cond.instanceMethod ({ cls := "AddressClaimBus$Outgoing", name := "end", desc := "(I)V" } : MethodName)) ∈ zx_T := zx_mem tables_1_2 zx_l2 49 (by decide +kernel) (by decide +kernel)
theorem wd_290 : (Cond.selects "AddressClaimBus$Outgoing" ({ cls := "AddressClaimBus$Outgoing", name := "end", desc := "(I)V" } : MethodName) ({ cls := "AddressClaimBus$Outgoing", name := "end", desc := "(I)V" } : MethodName)) ∈ zx_T := zx_mem tables_1_2 zx_l2 50 (by decide +kernel) (by decide +kernel)
theorem wd_291 : (Cond.code ({ cls := "AddressClaimBus$Outgoing", name := "end", desc := "(I)V" } : MethodName) prog_6_method_3_code (2 : Nat) (Option.none : Option FieldType)) ∈ zx_T := zx_mem tables_1_2 zx_l2 51 (by decide +kernel) (by decide +kernel)
theorem wd_292 : (Cond.methodLink "AddressClaimBus$Function" (151 : Nat) ({ cls := "AddressClaimBus$Incoming", name := "end", desc := "()V" } : MethodName)) ∈ zx_T := zx_mem tables_1_2 zx_l2 52 (by decide +kernel) (by decide +kernel)
theorem wd_293 : (Cond.instanceMethod ({ cls := "AddressClaimBus$Incoming", name := "end", desc := "()V" } : MethodName)) ∈ zx_T := zx_mem tables_1_2 zx_l2 53 (by decide +kernel) (by decide +kernel)
theorem wd_294 : (Cond.selects "AddressClaimBus$Incoming" ({ cls := "AddressClaimBus$Incoming", name := "end", desc := "()V" } : MethodName) ({ cls := "AddressClaimBus$Incoming", name := "end", desc := "()V" } : MethodName)) ∈ zx_T := zx_mem tables_1_2 zx_l2 54 (by decide +kernel) (by decide +kernel)
theorem wd_295 : (Cond.code ({ cls := "AddressClaimBus$Incoming", name := "end", desc := "()V" } : MethodName) prog_4_method_3_code (1 : Nat) (Option.none : Option FieldType)) ∈ zx_T := zx_mem tables_1_2 zx_l2 55 (by decide +kernel) (by decide +kernel)
theorem wd_296 : (Cond.methodLink "AddressClaimBus$Function" (77 : Nat) ({ cls := "AddressClaimBus$Bus", name := "takeAwayFramesOf", desc := "(I)V" } : MethodName)) ∈ zx_T := zx_mem tables_1_2 zx_l2 56 (by decide +kernel) (by decide +kernel)
theorem wd_297 : (Cond.instanceMethod ({ cls := "AddressClaimBus$Bus", name := "takeAwayFramesOf", desc := "(I)V" } : MethodName)) ∈ zx_T := zx_mem tables_1_2 zx_l2 57 (by decide +kernel) (by decide +kernel)
theorem wd_298 : (Cond.selects "AddressClaimBus$Bus" ({ cls := "AddressClaimBus$Bus", name := "takeAwayFramesOf", desc := "(I)V" } : MethodName) ({ cls := "AddressClaimBus$Bus", name := "takeAwayFramesOf", desc := "(I)V" } : MethodName)) ∈ zx_T := zx_mem tables_1_2 zx_l2 58 (by decide +kernel) (by decide +kernel)
theorem wd_299 : (Cond.code ({ cls := "AddressClaimBus$Bus", name := "takeAwayFramesOf", desc := "(I)V" } : MethodName) prog_2_method_5_code (4 : Nat) (Option.none : Option FieldType)) ∈ zx_T := zx_mem tables_1_2 zx_l2 59 (by decide +kernel) (by decide +kernel)
theorem wd_300 : (Cond.methodLink "AddressClaimBus$Bus" (37 : Nat) ({ cls := "AddressClaimBus$Bus", name := "move", desc := "(II)V" } : MethodName)) ∈ zx_T := zx_mem tables_1_2 zx_l2 60 (by decide +kernel) (by decide +kernel)
theorem wd_302 : (Cond.instanceMethod ({ cls := "AddressClaimBus$Bus", name := "move", desc := "(II)V" } : MethodName)) ∈ zx_T := zx_mem tables_1_2 zx_l2 62 (by decide +kernel) (by decide +kernel)
theorem wd_303 : (Cond.code ({ cls := "AddressClaimBus$Bus", name := "move", desc := "(II)V" } : MethodName) prog_2_method_6_code (3 : Nat) (Option.none : Option FieldType)) ∈ zx_T := zx_mem tables_1_2 zx_l2 63 (by decide +kernel) (by decide +kernel)
theorem wd_304 : (Cond.methodLink "AddressClaimBusLaw" (25 : Nat) ({ cls := "AddressClaimBus", name := "busy", desc := "(IZ)Z" } : MethodName)) ∈ zx_T := zx_mem tables_1_2 zx_l2 64 (by decide +kernel) (by decide +kernel)
theorem wd_305 : (Cond.instanceMethod ({ cls := "AddressClaimBus", name := "busy", desc := "(IZ)Z" } : MethodName)) ∈ zx_T := zx_mem tables_1_2 zx_l2 65 (by decide +kernel) (by decide +kernel)
theorem wd_306 : (Cond.selects "AddressClaimBus" ({ cls := "AddressClaimBus", name := "busy", desc := "(IZ)Z" } : MethodName) ({ cls := "AddressClaimBus", name := "busy", desc := "(IZ)Z" } : MethodName)) ∈ zx_T := zx_mem tables_1_2 zx_l2 66 (by decide +kernel) (by decide +kernel)
theorem wd_307 : (Cond.code ({ cls := "AddressClaimBus", name := "busy", desc := "(IZ)Z" } : MethodName) prog_1_method_4_code (3 : Nat) (Option.some FieldType.boolean)) ∈ zx_T := zx_mem tables_1_2 zx_l2 67 (by decide +kernel) (by decide +kernel)
theorem wd_308 : (Cond.methodLink "AddressClaimBusLaw" (30 : Nat) ({ cls := "AddressClaimBus", name := "state", desc := "(I)I" } : MethodName)) ∈ zx_T := zx_mem tables_1_2 zx_l2 68 (by decide +kernel) (by decide +kernel)
theorem wd_309 : (Cond.instanceMethod ({ cls := "AddressClaimBus", name := "state", desc := "(I)I" } : MethodName)) ∈ zx_T := zx_mem tables_1_2 zx_l2 69 (by decide +kernel) (by decide +kernel)
theorem wd_310 : (Cond.selects "AddressClaimBus" ({ cls := "AddressClaimBus", name := "state", desc := "(I)I" } : MethodName) ({ cls := "AddressClaimBus", name := "state", desc := "(I)I" } : MethodName)) ∈ zx_T := zx_mem tables_1_2 zx_l2 70 (by decide +kernel) (by decide +kernel)
theorem wd_311 : (Cond.code ({ cls := "AddressClaimBus", name := "state", desc := "(I)I" } : MethodName) prog_1_method_5_code (2 : Nat) (Option.some FieldType.int)) ∈ zx_T := zx_mem tables_1_2 zx_l2 71 (by decide +kernel) (by decide +kernel)
theorem wd_312 : (Cond.methodLink "AddressClaimBusLaw" (35 : Nat) ({ cls := "AddressClaimBus", name := "address", desc := "(I)I" } : MethodName)) ∈ zx_T := zx_mem tables_1_2 zx_l2 72 (by decide +kernel) (by decide +kernel)
theorem wd_313 : (Cond.instanceMethod ({ cls := "AddressClaimBus", name := "address", desc := "(I)I" } : MethodName)) ∈ zx_T := zx_mem tables_1_2 zx_l2 73 (by decide +kernel) (by decide +kernel)
theorem wd_314 : (Cond.selects "AddressClaimBus" ({ cls := "AddressClaimBus", name := "address", desc := "(I)I" } : MethodName) ({ cls := "AddressClaimBus", name := "address", desc := "(I)I" } : MethodName)) ∈ zx_T := zx_mem tables_1_2 zx_l2 74 (by decide +kernel) (by decide +kernel)
theorem wd_315 : (Cond.code ({ cls := "AddressClaimBus", name := "address", desc := "(I)I" } : MethodName) prog_1_method_6_code (2 : Nat) (Option.some FieldType.int)) ∈ zx_T := zx_mem tables_1_2 zx_l2 75 (by decide +kernel) (by decide +kernel)
theorem wd_316 : (Cond.methodLink "AddressClaimBusLaw" (39 : Nat) ({ cls := "AddressClaimBus", name := "noted", desc := "(II)I" } : MethodName)) ∈ zx_T := zx_mem tables_1_2 zx_l2 76 (by decide +kernel) (by decide +kernel)
theorem wd_317 : (Cond.instanceMethod ({ cls := "AddressClaimBus", name := "noted", desc := "(II)I" } : MethodName)) ∈ zx_T := zx_mem tables_1_2 zx_l2 77 (by decide +kernel) (by decide +kernel)
theorem wd_318 : (Cond.selects "AddressClaimBus" ({ cls := "AddressClaimBus", name := "noted", desc := "(II)I" } : MethodName) ({ cls := "AddressClaimBus", name := "noted", desc := "(II)I" } : MethodName)) ∈ zx_T := zx_mem tables_1_2 zx_l2 78 (by decide +kernel) (by decide +kernel)
theorem wd_319 : (Cond.code ({ cls := "AddressClaimBus", name := "noted", desc := "(II)I" } : MethodName) prog_1_method_7_code (3 : Nat) (Option.some FieldType.int)) ∈ zx_T := zx_mem tables_1_2 zx_l2 79 (by decide +kernel) (by decide +kernel)
theorem wd_320 : (Cond.methodLink "AddressClaimBusLaw" (44 : Nat) ({ cls := "AddressClaimBus", name := "request", desc := "(I)Z" } : MethodName)) ∈ zx_T := zx_mem tables_1_2 zx_l2 80 (by decide +kernel) (by decide +kernel)
theorem wd_321 : (Cond.instanceMethod ({ cls := "AddressClaimBus", name := "request", desc := "(I)Z" } : MethodName)) ∈ zx_T := zx_mem tables_1_2 zx_l2 81 (by decide +kernel) (by decide +kernel)
theorem wd_322 : (Cond.selects "AddressClaimBus" ({ cls := "AddressClaimBus", name := "request", desc := "(I)Z" } : MethodName) ({ cls := "AddressClaimBus", name := "request", desc := "(I)Z" } : MethodName)) ∈ zx_T := zx_mem tables_1_2 zx_l2 82 (by decide +kernel) (by decide +kernel)
theorem wd_323 : (Cond.code ({ cls := "AddressClaimBus", name := "request", desc := "(I)Z" } : MethodName) prog_1_method_8_code (2 : Nat) (Option.some FieldType.boolean)) ∈ zx_T := zx_mem tables_1_2 zx_l2 83 (by decide +kernel) (by decide +kernel)
theorem wd_324 : (Cond.constant "AddressClaimBus" (67 : Nat) (417988608 : Int32)) ∈ zx_T := zx_mem tables_1_2 zx_l2 84 (by decide +kernel) (by decide +kernel)
theorem wd_325 : (Cond.constantLong "AddressClaimBus" (68 : Nat) (60928 : Int64)) ∈ zx_T := zx_mem tables_1_2 zx_l2 85 (by decide +kernel) (by decide +kernel)
theorem wd_326 : (Cond.methodLink "AddressClaimBus" (70 : Nat) ({ cls := "AddressClaimBus$Bus", name := "put", desc := "(LAddressClaimBus$Station;IIJ)V" } : MethodName)) ∈ zx_T := zx_mem tables_1_2 zx_l2 86 (by decide +kernel) (by decide +kernel)
theorem wd_327 : (Cond.methodLink "AddressClaimBusLaw" (48 : Nat) ({ cls := "AddressClaimBus", name := "send", desc := "(IIIIJ)Z" } : MethodName)) ∈ zx_T := zx_mem tables_1_2 zx_l2 87 (by decide +kernel) (by decide +kernel)
theorem wd_328 : (Cond.instanceMethod ({ cls := "AddressClaimBus", name := "send", desc := "(IIIIJ)Z" } : MethodName)) ∈ zx_T := zx_mem tables_1_2 zx_l2 88 (by decide +kernel) (by decide +kernel)
theorem wd_329 : (Cond.selects "AddressClaimBus" ({ cls := "AddressClaimBus", name := "send", desc := "(IIIIJ)Z" } : MethodName) ({ cls := "AddressClaimBus", name := "send", desc := "(IIIIJ)Z" } : MethodName)) ∈ zx_T := zx_mem tables_1_2 zx_l2 89 (by decide +kernel) (by decide +kernel)
theorem wd_330 : (Cond.code ({ cls := "AddressClaimBus", name := "send", desc := "(IIIIJ)Z" } : MethodName) prog_1_method_9_code (7 : Nat) (Option.some FieldType.boolean)) ∈ zx_T := zx_mem tables_1_2 zx_l2 90 (by decide +kernel) (by decide +kernel)
theorem wd_331 : (Cond.methodLink "AddressClaimBus" (74 : Nat) ({ cls := "AddressClaimBus$Function", name := "canSendTo", desc := "(I)Z" } : MethodName)) ∈ zx_T := zx_mem tables_1_2 zx_l2 91 (by decide +kernel) (by decide +kernel)
theorem wd_332 : (Cond.instanceMethod ({ cls := "AddressClaimBus$Function", name := "canSendTo", desc := "(I)Z" } : MethodName)) ∈ zx_T := zx_mem tables_1_2 zx_l2 92 (by decide +kernel) (by decide +kernel)
theorem wd_333 : (Cond.selects "AddressClaimBus$Function" ({ cls := "AddressClaimBus$Function", name := "canSendTo", desc := "(I)Z" } : MethodName) ({ cls := "AddressClaimBus$Function", name := "canSendTo", desc := "(I)Z" } : MethodName)) ∈ zx_T := zx_mem tables_1_2 zx_l2 93 (by decide +kernel) (by decide +kernel)
theorem wd_334 : (Cond.code ({ cls := "AddressClaimBus$Function", name := "canSendTo", desc := "(I)Z" } : MethodName) prog_3_method_4_code (3 : Nat) (Option.some FieldType.boolean)) ∈ zx_T := zx_mem tables_1_2 zx_l2 94 (by decide +kernel) (by decide +kernel)
theorem wd_335 : (Cond.constant "AddressClaimBus" (77 : Nat) (262143 : Int32)) ∈ zx_T := zx_mem tables_1_2 zx_l2 95 (by decide +kernel) (by decide +kernel)
theorem wd_336 : (Cond.methodLink "AddressClaimBus" (82 : Nat) ({ cls := "AddressClaimBus$Outgoing", name := "begin", desc := "(IIIJ)V" } : MethodName)) ∈ zx_T := zx_mem tables_1_2 zx_l2 96 (by decide +kernel) (by decide +kernel)
theorem wd_337 : (Cond.instanceMethod ({ cls := "AddressClaimBus$Outgoing", name := "begin", desc := "(IIIJ)V" } : MethodName)) ∈ zx_T := zx_mem tables_1_2 zx_l2 97 (by decide +kernel) (by decide +kernel)
theorem wd_338 : (Cond.selects "AddressClaimBus$Outgoing" ({ cls := "AddressClaimBus$Outgoing", name := "begin", desc := "(IIIJ)V" } : MethodName) ({ cls := "AddressClaimBus$Outgoing", name := "begin", desc := "(IIIJ)V" } : MethodName)) ∈ zx_T := zx_mem tables_1_2 zx_l2 98 (by decide +kernel) (by decide +kernel)
theorem wd_339 : (Cond.code ({ cls := "AddressClaimBus$Outgoing", name := "begin", desc := "(IIIJ)V" } : MethodName) prog_6_method_2_code (7 : Nat) (Option.none : Option FieldType)) ∈ zx_T := zx_mem tables_1_2 zx_l2 99 (by decide +kernel) (by decide +kernel)
theorem wd_340 : (Cond.constant "AddressClaimBus$Outgoing" (44 : Nat) (485228544 : Int32)) ∈ zx_T := zx_mem tables_1_2 zx_l2 100 (by decide +kernel) (by decide +kernel)
theorem wd_342 : (Cond.static ({ cls := "AddressClaimBus", name := "extentData", desc := "(III)J" } : MethodName)) ∈ zx_T := zx_mem tables_1_2 zx_l2 102 (by decide +kernel) (by decide +kernel)
theorem wd_343 : (Cond.code ({ cls := "AddressClaimBus", name := "extentData", desc := "(III)J" } : MethodName) prog_1_method_30_code (3 : Nat) (Option.some FieldType.long)) ∈ zx_T := zx_mem tables_1_2 zx_l2 103 (by decide +kernel) (by decide +kernel)
theorem wd_344 : (Cond.methodLink "AddressClaimBus" (171 : Nat) ({ cls := "AddressClaimBus", name := "packetsFor", desc := "(I)I" } : MethodName)) ∈ zx_T := zx_mem tables_1_2 zx_l2 104 (by decide +kernel) (by decide +kernel)
theorem wd_345 : (Cond.static ({ cls := "AddressClaimBus", name := "packetsFor", desc := "(I)I" } : MethodName)) ∈ zx_T := zx_mem tables_1_2 zx_l2 105 (by decide +kernel) (by decide +kernel)
theorem wd_346 : (Cond.code ({ cls := "AddressClaimBus", name := "packetsFor", desc := "(I)I" } : MethodName) prog_1_method_27_code (1 : Nat) (Option.some FieldType.int)) ∈ zx_T := zx_mem tables_1_2 zx_l2 106 (by decide +kernel) (by decide +kernel)
theorem wd_347 : (Cond.methodLink "AddressClaimBus" (174 : Nat) ({ cls := "AddressClaimBus", name := "controlData", desc := "(IIIII)J" } : MethodName)) ∈ zx_T := zx_mem tables_1_2 zx_l2 107 (by decide +kernel) (by decide +kernel)
theorem wd_348 : (Cond.static ({ cls := "AddressClaimBus", name := "controlData", desc := "(IIIII)J" } : MethodName)) ∈ zx_T := zx_mem tables_1_2 zx_l2 108 (by decide +kernel) (by decide +kernel)
theorem wd_349 : (Cond.code ({ cls := "AddressClaimBus", name := "controlData", desc := "(IIIII)J" } : MethodName) prog_1_method_29_code (7 : Nat) (Option.some FieldType.long)) ∈ zx_T := zx_mem tables_1_2 zx_l2 109 (by decide +kernel) (by decide +kernel)
theorem wd_350 : (Cond.constantLong "AddressClaimBus" (169 : Nat) (1095216660480 : Int64)) ∈ zx_T := zx_mem tables_1_2 zx_l2 110 (by decide +kernel) (by decide +kernel)
theorem wd_351 : (Cond.methodLink "AddressClaimBus$Outgoing" (49 : Nat) ({ cls := "AddressClaimBus$Bus", name := "put", desc := "(LAddressClaimBus$Station;IIJ)V" } : MethodName)) ∈ zx_T := zx_mem tables_1_2 zx_l2 111 (by decide +kernel) (by decide +kernel)
theorem wd_352 : (Cond.methodLink "AddressClaimBusLaw" (53 : Nat) ({ cls := "AddressClaimBus", name := "waiting", desc := "()I" } : MethodName)) ∈ zx_T := zx_mem tables_1_2 zx_l2 112 (by decide +kernel) (by decide +kernel)
theorem wd_353 : (Cond.instanceMethod ({ cls := "AddressClaimBus", name := "waiting", desc := "()I" } : MethodName)) ∈ zx_T := zx_mem tables_1_2 zx_l2 113 (by decide +kernel) (by decide +kernel)
theorem wd_354 : (Cond.selects "AddressClaimBus" ({ cls := "AddressClaimBus", name := "waiting", desc := "()I" } : MethodName) ({ cls := "AddressClaimBus", name := "waiting", desc := "()I" } : MethodName)) ∈ zx_T := zx_mem tables_1_2 zx_l2 114 (by decide +kernel) (by decide +kernel)
theorem wd_355 : (Cond.code ({ cls := "AddressClaimBus", name := "waiting", desc := "()I" } : MethodName) prog_1_method_10_code (1 : Nat) (Option.some FieldType.int)) ∈ zx_T := zx_mem tables_1_2 zx_l2 115 (by decide +kernel) (by decide +kernel)
theorem wd_356 : (Cond.methodLink "AddressClaimBusLaw" (58 : Nat) ({ cls := "AddressClaimBus", name := "identifier", desc := "()I" } : MethodName)) ∈ zx_T := zx_mem tables_1_2 zx_l2 116 (by decide +kernel) (by decide +kernel)
theorem wd_357 : (Cond.instanceMethod ({ cls := "AddressClaimBus", name := "identifier", desc := "()I" } : MethodName)) ∈ zx_T := zx_mem tables_1_2 zx_l2 117 (by decide +kernel) (by decide +kernel)
theorem wd_358 : (Cond.selects "AddressClaimBus" ({ cls := "AddressClaimBus", name := "identifier", desc := "()I" } : MethodName) ({ cls := "AddressClaimBus", name := "identifier", desc := "()I" } : MethodName)) ∈ zx_T := zx_mem tables_1_2 zx_l2 118 (by decide +kernel) (by decide +kernel)
theorem wd_359 : (Cond.code ({ cls := "AddressClaimBus", name := "identifier", desc := "()I" } : MethodName) prog_1_method_11_code (2 : Nat) (Option.some FieldType.int)) ∈ zx_T := zx_mem tables_1_2 zx_l2 119 (by decide +kernel) (by decide +kernel)
theorem wd_360 : (Cond.methodLink "AddressClaimBus" (91 : Nat) ({ cls := "AddressClaimBus$Bus", name := "placeOfNext", desc := "()I" } : MethodName)) ∈ zx_T := zx_mem tables_1_2 zx_l2 120 (by decide +kernel) (by decide +kernel)
theorem wd_361 : (Cond.instanceMethod ({ cls := "AddressClaimBus$Bus", name := "placeOfNext", desc := "()I" } : MethodName)) ∈ zx_T := zx_mem tables_1_2 zx_l2 121 (by decide +kernel) (by decide +kernel)
theorem wd_362 : (Cond.selects "AddressClaimBus$Bus" ({ cls := "AddressClaimBus$Bus", name := "placeOfNext", desc := "()I" } : MethodName) ({ cls := "AddressClaimBus$Bus", name := "placeOfNext", desc := "()I" } : MethodName)) ∈ zx_T := zx_mem tables_1_2 zx_l2 122 (by decide +kernel) (by decide +kernel)
theorem wd_363 : (Cond.code ({ cls := "AddressClaimBus$Bus", name := "placeOfNext", desc := "()I" } : MethodName) prog_2_method_3_code (3 : Nat) (Option.some FieldType.int)) ∈ zx_T := zx_mem tables_1_2 zx_l2 123 (by decide +kernel) (by decide +kernel)
theorem wd_364 : (Cond.methodLink "AddressClaimBusLaw" (62 : Nat) ({ cls := "AddressClaimBus", name := "data", desc := "()J" } : MethodName)) ∈ zx_T := zx_mem tables_1_2 zx_l2 124 (by decide +kernel) (by decide +kernel)
theorem wd_365 : (Cond.instanceMethod ({ cls := "AddressClaimBus", name := "data", desc := "()J" } : MethodName)) ∈ zx_T := zx_mem tables_1_2 zx_l2 125 (by decide +kernel) (by decide +kernel)
theorem wd_366 : (Cond.selects "AddressClaimBus" ({ cls := "AddressClaimBus", name := "data", desc := "()J" } : MethodName) ({ cls := "AddressClaimBus", name := "data", desc := "()J" } : MethodName)) ∈ zx_T := zx_mem tables_1_2 zx_l2 126 (by decide +kernel) (by decide +kernel)
theorem wd_367 : (Cond.code ({ cls := "AddressClaimBus", name := "data", desc := "()J" } : MethodName) prog_1_method_12_code (2 : Nat) (Option.some FieldType.long)) ∈ zx_T := zx_mem tables_1_2 zx_l2 127 (by decide +kernel) (by decide +kernel)
theorem wd_368 : (Cond.methodLink "AddressClaimBusLaw" (67 : Nat) ({ cls := "AddressClaimBus", name := "deliver", desc := "(Z)Z" } : MethodName)) ∈ zx_T := zx_mem tables_1_2 zx_l2 128 (by decide +kernel) (by decide +kernel)
theorem wd_369 : (Cond.instanceMethod ({ cls := "AddressClaimBus", name := "deliver", desc := "(Z)Z" } : MethodName)) ∈ zx_T := zx_mem tables_1_2 zx_l2 129 (by decide +kernel) (by decide +kernel)
theorem wd_370 : (Cond.selects "AddressClaimBus" ({ cls := "AddressClaimBus", name := "deliver", desc := "(Z)Z" } : MethodName) ({ cls := "AddressClaimBus", name := "deliver", desc := "(Z)Z" } : MethodName)) ∈ zx_T := zx_mem tables_1_2 zx_l2 130 (by decide +kernel) (by decide +kernel)
theorem wd_371 : (Cond.code ({ cls := "AddressClaimBus", name := "deliver", desc := "(Z)Z" } : MethodName) prog_1_method_13_code (8 : Nat) (Option.some FieldType.boolean)) ∈ zx_T := zx_mem tables_1_2 zx_l2 131 (by decide +kernel) (by decide +kernel)
theorem wd_372 : (Cond.methodLink "AddressClaimBus" (105 : Nat) ({ cls := "AddressClaimBus$Bus", name := "takeAway", desc := "(I)V" } : MethodName)) ∈ zx_T := zx_mem tables_1_2 zx_l2 132 (by decide +kernel) (by decide +kernel)
theorem wd_373 : (Cond.instanceMethod ({ cls := "AddressClaimBus$Bus", name := "takeAway", desc := "(I)V" } : MethodName)) ∈ zx_T := zx_mem tables_1_2 zx_l2 133 (by decide +kernel) (by decide +kernel)
theorem wd_374 : (Cond.selects "AddressClaimBus$Bus" ({ cls := "AddressClaimBus$Bus", name := "takeAway", desc := "(I)V" } : MethodName) ({ cls := "AddressClaimBus$Bus", name := "takeAway", desc := "(I)V" } : MethodName)) ∈ zx_T := zx_mem tables_1_2 zx_l2 134 (by decide +kernel) (by decide +kernel)
theorem wd_375 : (Cond.code ({ cls := "AddressClaimBus$Bus", name := "takeAway", desc := "(I)V" } : MethodName) prog_2_method_4_code (3 : Nat) (Option.none : Option FieldType)) ∈ zx_T := zx_mem tables_1_2 zx_l2 135 (by decide +kernel) (by decide +kernel)
theorem wd_376 : (Cond.methodLink "AddressClaimBus" (108 : Nat) ({ cls := "AddressClaimBus$Function", name := "reach", desc := "(IIJ)V" } : MethodName)) ∈ zx_T := zx_mem tables_1_2 zx_l2 136 (by decide +kernel) (by decide +kernel)
theorem wd_377 : (Cond.instanceMethod ({ cls := "AddressClaimBus$Function", name := "reach", desc := "(IIJ)V" } : MethodName)) ∈ zx_T := zx_mem tables_1_2 zx_l2 137 (by decide +kernel) (by decide +kernel)
theorem wd_378 : (Cond.selects "AddressClaimBus$Function" ({ cls := "AddressClaimBus$Function", name := "reach", desc := "(IIJ)V" } : MethodName) ({ cls := "AddressClaimBus$Function", name := "reach", desc := "(IIJ)V" } : MethodName)) ∈ zx_T := zx_mem tables_1_2 zx_l2 138 (by decide +kernel) (by decide +kernel)
theorem wd_379 : (Cond.code ({ cls := "AddressClaimBus$Function", name := "reach", desc := "(IIJ)V" } : MethodName) prog_3_method_6_code (8 : Nat) (Option.none : Option FieldType)) ∈ zx_T := zx_mem tables_1_2 zx_l2 139 (by decide +kernel) (by decide +kernel)
theorem wd_380 : (Cond.methodLink "AddressClaimBus$Function" (92 : Nat) ({ cls := "AddressClaimBus$Function", name := "takeClaim", desc := "(IIJ)V" } : MethodName)) ∈ zx_T := zx_mem tables_1_2 zx_l2 140 (by decide +kernel) (by decide +kernel)
theorem wd_382 : (Cond.instanceMethod ({ cls := "AddressClaimBus$Function", name := "takeClaim", desc := "(IIJ)V" } : MethodName)) ∈ zx_T := zx_mem tables_1_2 zx_l2 142 (by decide +kernel) (by decide +kernel)
theorem wd_383 : (Cond.code ({ cls := "AddressClaimBus$Function", name := "takeClaim", desc := "(IIJ)V" } : MethodName) prog_3_method_11_code (5 : Nat) (Option.none : Option FieldType)) ∈ zx_T := zx_mem tables_1_2 zx_l2 143 (by decide +kernel) (by decide +kernel)
theorem wd_384 : (Cond.methodLink "AddressClaimBus$Function" (131 : Nat) ({ cls := "AddressClaimBus$Function", name := "isNameLessThan", desc := "(J)Z" } : MethodName)) ∈ zx_T := zx_mem tables_1_2 zx_l2 144 (by decide +kernel) (by decide +kernel)
theorem wd_386 : (Cond.instanceMethod ({ cls := "AddressClaimBus$Function", name := "isNameLessThan", desc := "(J)Z" } : MethodName)) ∈ zx_T := zx_mem tables_1_2 zx_l2 146 (by decide +kernel) (by decide +kernel)
theorem wd_387 : (Cond.code ({ cls := "AddressClaimBus$Function", name := "isNameLessThan", desc := "(J)Z" } : MethodName) prog_3_method_12_code (3 : Nat) (Option.some FieldType.boolean)) ∈ zx_T := zx_mem tables_1_2 zx_l2 147 (by decide +kernel) (by decide +kernel)
theorem wd_388 : (Cond.constantLong "AddressClaimBus$Function" (138 : Nat) (-9223372036854775808 : Int64)) ∈ zx_T := zx_mem tables_1_2 zx_l2 148 (by decide +kernel) (by decide +kernel)
theorem wd_389 : (Cond.methodLink "AddressClaimBus$Function" (135 : Nat) ({ cls := "AddressClaimBus$Function", name := "loseAddress", desc := "()V" } : MethodName)) ∈ zx_T := zx_mem tables_1_2 zx_l2 149 (by decide +kernel) (by decide +kernel)
theorem wd_391 : (Cond.instanceMethod ({ cls := "AddressClaimBus$Function", name := "loseAddress", desc := "()V" } : MethodName)) ∈ zx_T := zx_mem tables_1_2 zx_l2 151 (by decide +kernel) (by decide +kernel)
theorem wd_392 : (Cond.code ({ cls := "AddressClaimBus$Function", name := "loseAddress", desc := "()V" } : MethodName) prog_3_method_13_code (2 : Nat) (Option.none : Option FieldType)) ∈ zx_T := zx_mem tables_1_2 zx_l2 152 (by decide +kernel) (by decide +kernel)
theorem wd_393 : (Cond.methodLink "AddressClaimBus$Function" (140 : Nat) ({ cls := "AddressClaimBus$Function", name := "spareAddress", desc := "()I" } : MethodName)) ∈ zx_T := zx_mem tables_1_2 zx_l2 153 (by decide +kernel) (by decide +kernel)
theorem wd_395 : (Cond.instanceMethod ({ cls := "AddressClaimBus$Function", name := "spareAddress", desc := "()I" } : MethodName)) ∈ zx_T := zx_mem tables_1_2 zx_l2 155 (by decide +kernel) (by decide +kernel)
theorem wd_396 : (Cond.code ({ cls := "AddressClaimBus$Function", name := "spareAddress", desc := "()I" } : MethodName) prog_3_method_14_code (2 : Nat) (Option.some FieldType.int)) ∈ zx_T := zx_mem tables_1_2 zx_l2 156 (by decide +kernel) (by decide +kernel)
theorem wd_397 : (Cond.methodLink "AddressClaimBus$Function" (144 : Nat) ({ cls := "AddressClaimBus$Function", name := "isNoted", desc := "(I)Z" } : MethodName)) ∈ zx_T := zx_mem tables_1_2 zx_l2 157 (by decide +kernel) (by decide +kernel)
theorem wd_399 : (Cond.instanceMethod ({ cls := "AddressClaimBus$Function", name := "isNoted", desc := "(I)Z" } : MethodName)) ∈ zx_T := zx_mem tables_1_2 zx_l2 159 (by decide +kernel) (by decide +kernel)
theorem wd_400 : (Cond.code ({ cls := "AddressClaimBus$Function", name := "isNoted", desc := "(I)Z" } : MethodName) prog_3_method_15_code (3 : Nat) (Option.some FieldType.boolean)) ∈ zx_T := zx_mem tables_1_2 zx_l2 160 (by decide +kernel) (by decide +kernel)
theorem wd_401 : (Cond.methodLink "AddressClaimBus$Function" (99 : Nat) ({ cls := "AddressClaimBus$Function", name := "takeControl", desc := "(IJ)V" } : MethodName)) ∈ zx_T := zx_mem tables_1_2 zx_l2 161 (by decide +kernel) (by decide +kernel)
theorem wd_403 : (Cond.instanceMethod ({ cls := "AddressClaimBus$Function", name := "takeControl", desc := "(IJ)V" } : MethodName)) ∈ zx_T := zx_mem tables_1_2 zx_l2 163 (by decide +kernel) (by decide +kernel)
theorem wd_404 : (Cond.code ({ cls := "AddressClaimBus$Function", name := "takeControl", desc := "(IJ)V" } : MethodName) prog_3_method_17_code (7 : Nat) (Option.none : Option FieldType)) ∈ zx_T := zx_mem tables_1_2 zx_l2 164 (by decide +kernel) (by decide +kernel)
theorem wd_406 : (Cond.static ({ cls := "AddressClaimBus", name := "frameByte", desc := "(JI)I" } : MethodName)) ∈ zx_T := zx_mem tables_1_2 zx_l2 166 (by decide +kernel) (by decide +kernel)
theorem wd_407 : (Cond.code ({ cls := "AddressClaimBus", name := "frameByte", desc := "(JI)I" } : MethodName) prog_1_method_28_code (3 : Nat) (Option.some FieldType.int)) ∈ zx_T := zx_mem tables_1_2 zx_l2 167 (by decide +kernel) (by decide +kernel)
theorem wd_408 : (Cond.methodLink "AddressClaimBus$Function" (157 : Nat) ({ cls := "AddressClaimBus$Outgoing", name := "isWith", desc := "(II)Z" } : MethodName)) ∈ zx_T := zx_mem tables_1_2 zx_l2 168 (by decide +kernel) (by decide +kernel)
theorem wd_409 : (Cond.instanceMethod ({ cls := "AddressClaimBus$Outgoing", name := "isWith", desc := "(II)Z" } : MethodName)) ∈ zx_T := zx_mem tables_1_2 zx_l2 169 (by decide +kernel) (by decide +kernel)
theorem wd_410 : (Cond.selects "AddressClaimBus$Outgoing" ({ cls := "AddressClaimBus$Outgoing", name := "isWith", desc := "(II)Z" } : MethodName) ({ cls := "AddressClaimBus$Outgoing", name := "isWith", desc := "(II)Z" } : MethodName)) ∈ zx_T := zx_mem tables_1_2 zx_l2 170 (by decide +kernel) (by decide +kernel)
theorem wd_411 : (Cond.code ({ cls := "AddressClaimBus$Outgoing", name := "isWith", desc := "(II)Z" } : MethodName) prog_6_method_4_code (3 : Nat) (Option.some FieldType.boolean)) ∈ zx_T := zx_mem tables_1_2 zx_l2 171 (by decide +kernel) (by decide +kernel)
theorem wd_412 : (Cond.methodLink "AddressClaimBus$Function" (161 : Nat) ({ cls := "AddressClaimBus$Function", name := "takeOpening", desc := "(IIJZ)V" } : MethodName)) ∈ zx_T := zx_mem tables_1_2 zx_l2 172 (by decide +kernel) (by decide +kernel)
theorem wd_414 : (Cond.instanceMethod ({ cls := "AddressClaimBus$Function", name := "takeOpening", desc := "(IIJZ)V" } : MethodName)) ∈ zx_T := zx_mem tables_1_2 zx_l2 174 (by decide +kernel) (by decide +kernel)
theorem wd_415 : (Cond.code ({ cls := "AddressClaimBus$Function", name := "takeOpening", desc := "(IIJZ)V" } : MethodName) prog_3_method_18_code (7 : Nat) (Option.none : Option FieldType)) ∈ zx_T := zx_mem tables_1_2 zx_l2 175 (by decide +kernel) (by decide +kernel)
theorem wd_416 : (Cond.methodLink "AddressClaimBus$Function" (172 : Nat) ({ cls := "AddressClaimBus$Incoming", name := "isFrom", desc := "(IZ)Z" } : MethodName)) ∈ zx_T := zx_mem tables_1_2 zx_l2 176 (by decide +kernel) (by decide +kernel)
theorem wd_417 : (Cond.instanceMethod ({ cls := "AddressClaimBus$Incoming", name := "isFrom", desc := "(IZ)Z" } : MethodName)) ∈ zx_T := zx_mem tables_1_2 zx_l2 177 (by decide +kernel) (by decide +kernel)
theorem wd_418 : (Cond.selects "AddressClaimBus$Incoming" ({ cls := "AddressClaimBus$Incoming", name := "isFrom", desc := "(IZ)Z" } : MethodName) ({ cls := "AddressClaimBus$Incoming", name := "isFrom", desc := "(IZ)Z" } : MethodName)) ∈ zx_T := zx_mem tables_1_2 zx_l2 178 (by decide +kernel) (by decide +kernel)
theorem wd_419 : (Cond.code ({ cls := "AddressClaimBus$Incoming", name := "isFrom", desc := "(IZ)Z" } : MethodName) prog_4_method_4_code (3 : Nat) (Option.some FieldType.boolean)) ∈ zx_T := zx_mem tables_1_2 zx_l2 179 (by decide +kernel) (by decide +kernel)
theorem wd_420 : (Cond.methodLink "AddressClaimBus$Function" (176 : Nat) ({ cls := "AddressClaimBus$Function", name := "countIncoming", desc := "()I" } : MethodName)) ∈ zx_T := zx_mem tables_1_2 zx_l2 180 (by decide +kernel) (by decide +kernel)
theorem wd_421 : (Cond.instanceMethod ({ cls := "AddressClaimBus$Function", name := "countIncoming", desc := "()I" } : MethodName)) ∈ zx_T := zx_mem tables_1_2 zx_l2 181 (by decide +kernel) (by decide +kernel)
theorem wd_422 : (Cond.selects "AddressClaimBus$Function" ({ cls := "AddressClaimBus$Function", name := "countIncoming", desc := "()I" } : MethodName) ({ cls := "AddressClaimBus$Function", name := "countIncoming", desc := "()I" } : MethodName)) ∈ zx_T := zx_mem tables_1_2 zx_l2 182 (by decide +kernel) (by decide +kernel)
theorem wd_423 : (Cond.code ({ cls := "AddressClaimBus$Function", name := "countIncoming", desc := "()I" } : MethodName) prog_3_method_5_code (3 : Nat) (Option.some FieldType.int)) ∈ zx_T := zx_mem tables_1_2 zx_l2 183 (by decide +kernel) (by decide +kernel)
theorem wd_424 : (Cond.methodLink "AddressClaimBus$Function" (179 : Nat) ({ cls := "AddressClaimBus$Function", name := "roomForIncoming", desc := "()LAddressClaimBus$Incoming;" } : MethodName)) ∈ zx_T := zx_mem tables_1_2 zx_l2 184 (by decide +kernel) (by decide +kernel)
theorem wd_426 : (Cond.instanceMethod ({ cls := "AddressClaimBus$Function", name := "roomForIncoming", desc := "()LAddressClaimBus$Incoming;" } : MethodName)) ∈ zx_T := zx_mem tables_1_2 zx_l2 186 (by decide +kernel) (by decide +kernel)
theorem wd_427 : (Cond.code ({ cls := "AddressClaimBus$Function", name := "roomForIncoming", desc := "()LAddressClaimBus$Incoming;" } : MethodName) prog_3_method_19_code (2 : Nat) (Option.some (FieldType.object "AddressClaimBus$Incoming"))) ∈ zx_T := zx_mem tables_1_2 zx_l2 187 (by decide +kernel) (by decide +kernel)
theorem wd_428 : (Cond.methodLink "AddressClaimBus$Function" (183 : Nat) ({ cls := "AddressClaimBus$Incoming", name := "begin", desc := "(IIIZ)V" } : MethodName)) ∈ zx_T := zx_mem tables_1_2 zx_l2 188 (by decide +kernel) (by decide +kernel)
theorem wd_429 : (Cond.instanceMethod ({ cls := "AddressClaimBus$Incoming", name := "begin", desc := "(IIIZ)V" } : MethodName)) ∈ zx_T := zx_mem tables_1_2 zx_l2 189 (by decide +kernel) (by decide +kernel)
theorem wd_430 : (Cond.selects "AddressClaimBus$Incoming" ({ cls := "AddressClaimBus$Incoming", name := "begin", desc := "(IIIZ)V" } : MethodName) ({ cls := "AddressClaimBus$Incoming", name := "begin", desc := "(IIIZ)V" } : MethodName)) ∈ zx_T := zx_mem tables_1_2 zx_l2 190 (by decide +kernel) (by decide +kernel)
theorem wd_431 : (Cond.code ({ cls := "AddressClaimBus$Incoming", name := "begin", desc := "(IIIZ)V" } : MethodName) prog_4_method_2_code (5 : Nat) (Option.none : Option FieldType)) ∈ zx_T := zx_mem tables_1_2 zx_l2 191 (by decide +kernel) (by decide +kernel)
theorem wd_432 : (Cond.constantLong "AddressClaimBus$Incoming" (60 : Nat) (750 : Int64)) ∈ zx_T := zx_mem tables_1_2 zx_l2 192 (by decide +kernel) (by decide +kernel)
theorem wd_433 : (Cond.methodLink "AddressClaimBus$Incoming" (62 : Nat) ({ cls := "AddressClaimBus$Incoming", name := "grant", desc := "()V" } : MethodName)) ∈ zx_T := zx_mem tables_1_2 zx_l2 193 (by decide +kernel) (by decide +kernel)
theorem wd_435 : (Cond.instanceMethod ({ cls := "AddressClaimBus$Incoming", name := "grant", desc := "()V" } : MethodName)) ∈ zx_T := zx_mem tables_1_2 zx_l2 195 (by decide +kernel) (by decide +kernel)
theorem wd_436 : (Cond.code ({ cls := "AddressClaimBus$Incoming", name := "grant", desc := "()V" } : MethodName) prog_4_method_11_code (5 : Nat) (Option.none : Option FieldType)) ∈ zx_T := zx_mem tables_1_2 zx_l2 196 (by decide +kernel) (by decide +kernel)
theorem wd_438 : (Cond.methodLink "AddressClaimBus$Incoming" (116 : Nat) ({ cls := "java/lang/Math", name := "min", desc := "(II)I" } : MethodName)) ∈ zx_T := zx_mem tables_1_2 zx_l2 198 (by decide +kernel) (by decide +kernel)
theorem wd_439 : (Cond.static ({ cls := "java/lang/Math", name := "min", desc := "(II)I" } : MethodName)) ∈ zx_T := zx_mem tables_1_2 zx_l2 199 (by decide +kernel) (by decide +kernel)
theorem wd_440 : (Cond.code ({ cls := "java/lang/Math", name := "min", desc := "(II)I" } : MethodName) prog_10_method_69_code (2 : Nat) (Option.some FieldType.int)) ∈ zx_T := zx_mem tables_1_2 zx_l2 200 (by decide +kernel) (by decide +kernel)
theorem wd_442 : (Cond.constant "AddressClaimBus$Incoming" (90 : Nat) (485228544 : Int32)) ∈ zx_T := zx_mem tables_1_2 zx_l2 202 (by decide +kernel) (by decide +kernel)
theorem wd_443 : (Cond.methodLink "AddressClaimBus$Incoming" (95 : Nat) ({ cls := "AddressClaimBus$Bus", name := "put", desc := "(LAddressClaimBus$Station;IIJ)V" } : MethodName)) ∈ zx_T := zx_mem tables_1_2 zx_l2 203 (by decide +kernel) (by decide +kernel)
theorem wd_444 : (Cond.constant "AddressClaimBus$Function" (187 : Nat) (485228544 : Int32)) ∈ zx_T := zx_mem tables_1_2 zx_l2 204 (by decide +kernel) (by decide +kernel)
theorem wd_446 : (Cond.static ({ cls := "AddressClaimBus", name := "abortData", desc := "(II)J" } : MethodName)) ∈ zx_T := zx_mem tables_1_2 zx_l2 206 (by decide +kernel) (by decide +kernel)
theorem wd_447 : (Cond.code ({ cls := "AddressClaimBus", name := "abortData", desc := "(II)J" } : MethodName) prog_1_method_31_code (2 : Nat) (Option.some FieldType.long)) ∈ zx_T := zx_mem tables_1_2 zx_l2 207 (by decide +kernel) (by decide +kernel)
theorem wd_448 : (Cond.methodLink "AddressClaimBus$Function" (165 : Nat) ({ cls := "AddressClaimBus$Outgoing", name := "takeGrant", desc := "(II)V" } : MethodName)) ∈ zx_T := zx_mem tables_1_2 zx_l2 208 (by decide +kernel) (by decide +kernel)
theorem wd_449 : (Cond.instanceMethod ({ cls := "AddressClaimBus$Outgoing", name := "takeGrant", desc := "(II)V" } : MethodName)) ∈ zx_T := zx_mem tables_1_2 zx_l2 209 (by decide +kernel) (by decide +kernel)
theorem wd_450 : (Cond.selects "AddressClaimBus$Outgoing" ({ cls := "AddressClaimBus$Outgoing", name := "takeGrant", desc := "(II)V" } : MethodName) ({ cls := "AddressClaimBus$Outgoing", name := "takeGrant", desc := "(II)V" } : MethodName)) ∈ zx_T := zx_mem tables_1_2 zx_l2 210 (by decide +kernel) (by decide +kernel)
theorem wd_451 : (Cond.code ({ cls := "AddressClaimBus$Outgoing", name := "takeGrant", desc := "(II)V" } : MethodName) prog_6_method_5_code (5 : Nat) (Option.none : Option FieldType)) ∈ zx_T := zx_mem tables_1_2 zx_l2 211 (by decide +kernel) (by decide +kernel)
theorem wd_452 : (Cond.constantLong "AddressClaimBus$Outgoing" (61 : Nat) (1050 : Int64)) ∈ zx_T := zx_mem tables_1_2 zx_l2 212 (by decide +kernel) (by decide +kernel)
theorem wd_454 : (Cond.methodLink "AddressClaimBus$Outgoing" (67 : Nat) ({ cls := "java/lang/Math", name := "min", desc := "(II)I" } : MethodName)) ∈ zx_T := zx_mem tables_1_2 zx_l2 214 (by decide +kernel) (by decide +kernel)
theorem wd_455 : (Cond.methodLink "AddressClaimBus$Outgoing" (73 : Nat) ({ cls := "AddressClaimBus$Outgoing", name := "sendPacket", desc := "(I)V" } : MethodName)) ∈ zx_T := zx_mem tables_1_2 zx_l2 215 (by decide +kernel) (by decide +kernel)
theorem wd_457 : (Cond.instanceMethod ({ cls := "AddressClaimBus$Outgoing", name := "sendPacket", desc := "(I)V" } : MethodName)) ∈ zx_T := zx_mem tables_1_2 zx_l2 217 (by decide +kernel) (by decide +kernel)
theorem wd_458 : (Cond.code ({ cls := "AddressClaimBus$Outgoing", name := "sendPacket", desc := "(I)V" } : MethodName) prog_6_method_8_code (8 : Nat) (Option.none : Option FieldType)) ∈ zx_T := zx_mem tables_1_2 zx_l2 218 (by decide +kernel) (by decide +kernel)
theorem wd_459 : (Cond.constantLong "AddressClaimBus$Outgoing" (91 : Nat) (255 : Int64)) ∈ zx_T := zx_mem tables_1_2 zx_l2 219 (by decide +kernel) (by decide +kernel)
theorem wd_460 : (Cond.constant "AddressClaimBus$Outgoing" (93 : Nat) (485163008 : Int32)) ∈ zx_T := zx_mem tables_1_2 zx_l2 220 (by decide +kernel) (by decide +kernel)
theorem wd_461 : (Cond.constantLong "AddressClaimBus$Outgoing" (77 : Nat) (1250 : Int64)) ∈ zx_T := zx_mem tables_1_2 zx_l2 221 (by decide +kernel) (by decide +kernel)
theorem wd_462 : (Cond.methodLink "AddressClaimBus$Function" (169 : Nat) ({ cls := "AddressClaimBus$Function", name := "abortIncoming", desc := "(II)V" } : MethodName)) ∈ zx_T := zx_mem tables_1_2 zx_l2 222 (by decide +kernel) (by decide +kernel)
theorem wd_464 : (Cond.instanceMethod ({ cls := "AddressClaimBus$Function", name := "abortIncoming", desc := "(II)V" } : MethodName)) ∈ zx_T := zx_mem tables_1_2 zx_l2 224 (by decide +kernel) (by decide +kernel)
theorem wd_465 : (Cond.code ({ cls := "AddressClaimBus$Function", name := "abortIncoming", desc := "(II)V" } : MethodName) prog_3_method_20_code (4 : Nat) (Option.none : Option FieldType)) ∈ zx_T := zx_mem tables_1_2 zx_l2 225 (by decide +kernel) (by decide +kernel)
theorem wd_466 : (Cond.methodLink "AddressClaimBus$Function" (103 : Nat) ({ cls := "AddressClaimBus$Function", name := "takePacket", desc := "(IZJ)V" } : MethodName)) ∈ zx_T := zx_mem tables_1_2 zx_l2 226 (by decide +kernel) (by decide +kernel)
theorem wd_468 : (Cond.instanceMethod ({ cls := "AddressClaimBus$Function", name := "takePacket", desc := "(IZJ)V" } : MethodName)) ∈ zx_T := zx_mem tables_1_2 zx_l2 228 (by decide +kernel) (by decide +kernel)
theorem wd_469 : (Cond.code ({ cls := "AddressClaimBus$Function", name := "takePacket", desc := "(IZJ)V" } : MethodName) prog_3_method_21_code (8 : Nat) (Option.none : Option FieldType)) ∈ zx_T := zx_mem tables_1_2 zx_l2 229 (by decide +kernel) (by decide +kernel)
theorem wd_470 : (Cond.methodLink "AddressClaimBus$Function" (198 : Nat) ({ cls := "AddressClaimBus$Incoming", name := "takeToAll", desc := "(J)Z" } : MethodName)) ∈ zx_T := zx_mem tables_1_2 zx_l2 230 (by decide +kernel) (by decide +kernel)
theorem wd_471 : (Cond.instanceMethod ({ cls := "AddressClaimBus$Incoming", name := "takeToAll", desc := "(J)Z" } : MethodName)) ∈ zx_T := zx_mem tables_1_2 zx_l2 231 (by decide +kernel) (by decide +kernel)
theorem wd_472 : (Cond.selects "AddressClaimBus$Incoming" ({ cls := "AddressClaimBus$Incoming", name := "takeToAll", desc := "(J)Z" } : MethodName) ({ cls := "AddressClaimBus$Incoming", name := "takeToAll", desc := "(J)Z" } : MethodName)) ∈ zx_T := zx_mem tables_1_2 zx_l2 232 (by decide +kernel) (by decide +kernel)
theorem wd_473 : (Cond.code ({ cls := "AddressClaimBus$Incoming", name := "takeToAll", desc := "(J)Z" } : MethodName) prog_4_method_6_code (4 : Nat) (Option.some FieldType.boolean)) ∈ zx_T := zx_mem tables_1_2 zx_l2 233 (by decide +kernel) (by decide +kernel)
theorem wd_475 : (Cond.methodLink "AddressClaimBus$Incoming" (65 : Nat) ({ cls := "AddressClaimBus$Incoming", name := "end", desc := "()V" } : MethodName)) ∈ zx_T := zx_mem tables_1_2 zx_l2 235 (by decide +kernel) (by decide +kernel)
theorem wd_476 : (Cond.methodLink "AddressClaimBus$Incoming" (79 : Nat) ({ cls := "AddressClaimBus$Incoming", name := "keepExpected", desc := "(J)V" } : MethodName)) ∈ zx_T := zx_mem tables_1_2 zx_l2 236 (by decide +kernel) (by decide +kernel)
theorem wd_478 : (Cond.instanceMethod ({ cls := "AddressClaimBus$Incoming", name := "keepExpected", desc := "(J)V" } : MethodName)) ∈ zx_T := zx_mem tables_1_2 zx_l2 238 (by decide +kernel) (by decide +kernel)
theorem wd_479 : (Cond.code ({ cls := "AddressClaimBus$Incoming", name := "keepExpected", desc := "(J)V" } : MethodName) prog_4_method_8_code (3 : Nat) (Option.none : Option FieldType)) ∈ zx_T := zx_mem tables_1_2 zx_l2 239 (by decide +kernel) (by decide +kernel)
theorem wd_480 : (Cond.methodLink "AddressClaimBus$Incoming" (99 : Nat) ({ cls := "AddressClaimBus$Message", name := "keep", desc := "(IJ)V" } : MethodName)) ∈ zx_T := zx_mem tables_1_3 zx_l3 0 (by decide +kernel) (by decide +kernel)
theorem wd_481 : (Cond.instanceMethod ({ cls := "AddressClaimBus$Message", name := "keep", desc := "(IJ)V" } : MethodName)) ∈ zx_T := zx_mem tables_1_3 zx_l3 1 (by decide +kernel) (by decide +kernel)
theorem wd_482 : (Cond.selects "AddressClaimBus$Message" ({ cls := "AddressClaimBus$Message", name := "keep", desc := "(IJ)V" } : MethodName) ({ cls := "AddressClaimBus$Message", name := "keep", desc := "(IJ)V" } : MethodName)) ∈ zx_T := zx_mem tables_1_3 zx_l3 2 (by decide +kernel) (by decide +kernel)
theorem wd_483 : (Cond.code ({ cls := "AddressClaimBus$Message", name := "keep", desc := "(IJ)V" } : MethodName) prog_5_method_2_code (4 : Nat) (Option.none : Option FieldType)) ∈ zx_T := zx_mem tables_1_3 zx_l3 3 (by decide +kernel) (by decide +kernel)
theorem wd_484 : (Cond.methodLink "AddressClaimBus$Incoming" (83 : Nat) ({ cls := "AddressClaimBus$Incoming", name := "isWhole", desc := "()Z" } : MethodName)) ∈ zx_T := zx_mem tables_1_3 zx_l3 4 (by decide +kernel) (by decide +kernel)
theorem wd_486 : (Cond.instanceMethod ({ cls := "AddressClaimBus$Incoming", name := "isWhole", desc := "()Z" } : MethodName)) ∈ zx_T := zx_mem tables_1_3 zx_l3 6 (by decide +kernel) (by decide +kernel)
theorem wd_487 : (Cond.code ({ cls := "AddressClaimBus$Incoming", name := "isWhole", desc := "()Z" } : MethodName) prog_4_method_9_code (1 : Nat) (Option.some FieldType.boolean)) ∈ zx_T := zx_mem tables_1_3 zx_l3 7 (by decide +kernel) (by decide +kernel)
theorem wd_488 : (Cond.methodLink "AddressClaimBus$Function" (201 : Nat) ({ cls := "AddressClaimBus$Incoming", name := "takeDirected", desc := "(J)Z" } : MethodName)) ∈ zx_T := zx_mem tables_1_3 zx_l3 8 (by decide +kernel) (by decide +kernel)
theorem wd_489 : (Cond.instanceMethod ({ cls := "AddressClaimBus$Incoming", name := "takeDirected", desc := "(J)Z" } : MethodName)) ∈ zx_T := zx_mem tables_1_3 zx_l3 9 (by decide +kernel) (by decide +kernel)
theorem wd_490 : (Cond.selects "AddressClaimBus$Incoming" ({ cls := "AddressClaimBus$Incoming", name := "takeDirected", desc := "(J)Z" } : MethodName) ({ cls := "AddressClaimBus$Incoming", name := "takeDirected", desc := "(J)Z" } : MethodName)) ∈ zx_T := zx_mem tables_1_3 zx_l3 10 (by decide +kernel) (by decide +kernel)
theorem wd_491 : (Cond.code ({ cls := "AddressClaimBus$Incoming", name := "takeDirected", desc := "(J)Z" } : MethodName) prog_4_method_7_code (4 : Nat) (Option.some FieldType.boolean)) ∈ zx_T := zx_mem tables_1_3 zx_l3 11 (by decide +kernel) (by decide +kernel)
theorem wd_492 : (Cond.methodLink "AddressClaimBus$Incoming" (71 : Nat) ({ cls := "AddressClaimBus$Incoming", name := "askAgain", desc := "(I)V" } : MethodName)) ∈ zx_T := zx_mem tables_1_3 zx_l3 12 (by decide +kernel) (by decide +kernel)
theorem wd_494 : (Cond.instanceMethod ({ cls := "AddressClaimBus$Incoming", name := "askAgain", desc := "(I)V" } : MethodName)) ∈ zx_T := zx_mem tables_1_3 zx_l3 14 (by decide +kernel) (by decide +kernel)
theorem wd_495 : (Cond.code ({ cls := "AddressClaimBus$Incoming", name := "askAgain", desc := "(I)V" } : MethodName) prog_4_method_10_code (2 : Nat) (Option.none : Option FieldType)) ∈ zx_T := zx_mem tables_1_3 zx_l3 15 (by decide +kernel) (by decide +kernel)
theorem wd_498 : (Cond.methodLink "AddressClaimBus$Function" (204 : Nat) ({ cls := "AddressClaimBus$Message", name := "copy", desc := "(LAddressClaimBus$Message;)V" } : MethodName)) ∈ zx_T := zx_mem tables_1_3 zx_l3 18 (by decide +kernel) (by decide +kernel)
theorem wd_499 : (Cond.instanceMethod ({ cls := "AddressClaimBus$Message", name := "copy", desc := "(LAddressClaimBus$Message;)V" } : MethodName)) ∈ zx_T := zx_mem tables_1_3 zx_l3 19 (by decide +kernel) (by decide +kernel)
theorem wd_500 : (Cond.selects "AddressClaimBus$Message" ({ cls := "AddressClaimBus$Message", name := "copy", desc := "(LAddressClaimBus$Message;)V" } : MethodName) ({ cls := "AddressClaimBus$Message", name := "copy", desc := "(LAddressClaimBus$Message;)V" } : MethodName)) ∈ zx_T := zx_mem tables_1_3 zx_l3 20 (by decide +kernel) (by decide +kernel)
theorem wd_501 : (Cond.code ({ cls := "AddressClaimBus$Message", name := "copy", desc := "(LAddressClaimBus$Message;)V" } : MethodName) prog_5_method_3_code (3 : Nat) (Option.none : Option FieldType)) ∈ zx_T := zx_mem tables_1_3 zx_l3 21 (by decide +kernel) (by decide +kernel)
theorem wd_502 : (Cond.methodLink "AddressClaimBusLaw" (72 : Nat) ({ cls := "AddressClaimBus", name := "lose", desc := "()Z" } : MethodName)) ∈ zx_T := zx_mem tables_1_3 zx_l3 22 (by decide +kernel) (by decide +kernel)
theorem wd_503 : (Cond.instanceMethod ({ cls := "AddressClaimBus", name := "lose", desc := "()Z" } : MethodName)) ∈ zx_T := zx_mem tables_1_3 zx_l3 23 (by decide +kernel) (by decide +kernel)
theorem wd_504 : (Cond.selects "AddressClaimBus" ({ cls := "AddressClaimBus", name := "lose", desc := "()Z" } : MethodName) ({ cls := "AddressClaimBus", name := "lose", desc := "()Z" } : MethodName)) ∈ zx_T := zx_mem tables_1_3 zx_l3 24 (by decide +kernel) (by decide +kernel)
theorem wd_505 : (Cond.code ({ cls := "AddressClaimBus", name := "lose", desc := "()Z" } : MethodName) prog_1_method_14_code (2 : Nat) (Option.some FieldType.boolean)) ∈ zx_T := zx_mem tables_1_3 zx_l3 25 (by decide +kernel) (by decide +kernel)
theorem wd_506 : (Cond.methodLink "AddressClaimBusLaw" (77 : Nat) ({ cls := "AddressClaimBus", name := "overflowed", desc := "()I" } : MethodName)) ∈ zx_T := zx_mem tables_1_3 zx_l3 26 (by decide +kernel) (by decide +kernel)
theorem wd_507 : (Cond.instanceMethod ({ cls := "AddressClaimBus", name := "overflowed", desc := "()I" } : MethodName)) ∈ zx_T := zx_mem tables_1_3 zx_l3 27 (by decide +kernel) (by decide +kernel)
theorem wd_508 : (Cond.selects "AddressClaimBus" ({ cls := "AddressClaimBus", name := "overflowed", desc := "()I" } : MethodName) ({ cls := "AddressClaimBus", name := "overflowed", desc := "()I" } : MethodName)) ∈ zx_T := zx_mem tables_1_3 zx_l3 28 (by decide +kernel) (by decide +kernel)
theorem wd_509 : (Cond.code ({ cls := "AddressClaimBus", name := "overflowed", desc := "()I" } : MethodName) prog_1_method_15_code (1 : Nat) (Option.some FieldType.int)) ∈ zx_T := zx_mem tables_1_3 zx_l3 29 (by decide +kernel) (by decide +kernel)
theorem wd_510 : (Cond.methodLink "AddressClaimBusLaw" (81 : Nat) ({ cls := "AddressClaimBus", name := "tick", desc := "(I)I" } : MethodName)) ∈ zx_T := zx_mem tables_1_3 zx_l3 30 (by decide +kernel) (by decide +kernel)
theorem wd_511 : (Cond.instanceMethod ({ cls := "AddressClaimBus", name := "tick", desc := "(I)I" } : MethodName)) ∈ zx_T := zx_mem tables_1_3 zx_l3 31 (by decide +kernel) (by decide +kernel)
theorem wd_512 : (Cond.selects "AddressClaimBus" ({ cls := "AddressClaimBus", name := "tick", desc := "(I)I" } : MethodName) ({ cls := "AddressClaimBus", name := "tick", desc := "(I)I" } : MethodName)) ∈ zx_T := zx_mem tables_1_3 zx_l3 32 (by decide +kernel) (by decide +kernel)
theorem wd_513 : (Cond.code ({ cls := "AddressClaimBus", name := "tick", desc := "(I)I" } : MethodName) prog_1_method_16_code (8 : Nat) (Option.some FieldType.int)) ∈ zx_T := zx_mem tables_1_3 zx_l3 33 (by decide +kernel) (by decide +kernel)
theorem wd_514 : (Cond.methodLink "AddressClaimBus" (119 : Nat) ({ cls := "AddressClaimBus", name := "firstDue", desc := "()I" } : MethodName)) ∈ zx_T := zx_mem tables_1_3 zx_l3 34 (by decide +kernel) (by decide +kernel)
theorem wd_516 : (Cond.instanceMethod ({ cls := "AddressClaimBus", name := "firstDue", desc := "()I" } : MethodName)) ∈ zx_T := zx_mem tables_1_3 zx_l3 36 (by decide +kernel) (by decide +kernel)
theorem wd_517 : (Cond.code ({ cls := "AddressClaimBus", name := "firstDue", desc := "()I" } : MethodName) prog_1_method_26_code (3 : Nat) (Option.some FieldType.int)) ∈ zx_T := zx_mem tables_1_3 zx_l3 37 (by decide +kernel) (by decide +kernel)
theorem wd_518 : (Cond.methodLink "AddressClaimBus" (122 : Nat) ({ cls := "AddressClaimBus$Function", name := "nextDue", desc := "()J" } : MethodName)) ∈ zx_T := zx_mem tables_1_3 zx_l3 38 (by decide +kernel) (by decide +kernel)
theorem wd_519 : (Cond.instanceMethod ({ cls := "AddressClaimBus$Function", name := "nextDue", desc := "()J" } : MethodName)) ∈ zx_T := zx_mem tables_1_3 zx_l3 39 (by decide +kernel) (by decide +kernel)
theorem wd_520 : (Cond.selects "AddressClaimBus$Function" ({ cls := "AddressClaimBus$Function", name := "nextDue", desc := "()J" } : MethodName) ({ cls := "AddressClaimBus$Function", name := "nextDue", desc := "()J" } : MethodName)) ∈ zx_T := zx_mem tables_1_3 zx_l3 40 (by decide +kernel) (by decide +kernel)
theorem wd_521 : (Cond.code ({ cls := "AddressClaimBus$Function", name := "nextDue", desc := "()J" } : MethodName) prog_3_method_7_code (4 : Nat) (Option.some FieldType.long)) ∈ zx_T := zx_mem tables_1_3 zx_l3 41 (by decide +kernel) (by decide +kernel)
theorem wd_522 : (Cond.methodLink "AddressClaimBus$Function" (110 : Nat) ({ cls := "java/lang/Math", name := "min", desc := "(JJ)J" } : MethodName)) ∈ zx_T := zx_mem tables_1_3 zx_l3 42 (by decide +kernel) (by decide +kernel)
theorem wd_523 : (Cond.static ({ cls := "java/lang/Math", name := "min", desc := "(JJ)J" } : MethodName)) ∈ zx_T := zx_mem tables_1_3 zx_l3 43 (by decide +kernel) (by decide +kernel)
theorem wd_524 : (Cond.code ({ cls := "java/lang/Math", name := "min", desc := "(JJ)J" } : MethodName) prog_10_method_70_code (4 : Nat) (Option.some FieldType.long)) ∈ zx_T := zx_mem tables_1_3 zx_l3 44 (by decide +kernel) (by decide +kernel)
theorem wd_525 : (Cond.methodLink "AddressClaimBus" (126 : Nat) ({ cls := "AddressClaimBus$Function", name := "goOff", desc := "()V" } : MethodName)) ∈ zx_T := zx_mem tables_1_3 zx_l3 45 (by decide +kernel) (by decide +kernel)
theorem wd_526 : (Cond.instanceMethod ({ cls := "AddressClaimBus$Function", name := "goOff", desc := "()V" } : MethodName)) ∈ zx_T := zx_mem tables_1_3 zx_l3 46 (by decide +kernel) (by decide +kernel)
theorem wd_527 : (Cond.selects "AddressClaimBus$Function" ({ cls := "AddressClaimBus$Function", name := "goOff", desc := "()V" } : MethodName) ({ cls := "AddressClaimBus$Function", name := "goOff", desc := "()V" } : MethodName)) ∈ zx_T := zx_mem tables_1_3 zx_l3 47 (by decide +kernel) (by decide +kernel)
theorem wd_528 : (Cond.code ({ cls := "AddressClaimBus$Function", name := "goOff", desc := "()V" } : MethodName) prog_3_method_8_code (3 : Nat) (Option.none : Option FieldType)) ∈ zx_T := zx_mem tables_1_3 zx_l3 48 (by decide +kernel) (by decide +kernel)
theorem wd_529 : (Cond.methodLink "AddressClaimBus$Function" (120 : Nat) ({ cls := "AddressClaimBus$Outgoing", name := "goOff", desc := "()V" } : MethodName)) ∈ zx_T := zx_mem tables_1_3 zx_l3 49 (by decide +kernel) (by decide +kernel)
theorem wd_530 : (Cond.instanceMethod ({ cls := "AddressClaimBus$Outgoing", name := "goOff", desc := "()V" } : MethodName)) ∈ zx_T := zx_mem tables_1_3 zx_l3 50 (by decide +kernel) (by decide +kernel)
theorem wd_531 : (Cond.selects "AddressClaimBus$Outgoing" ({ cls := "AddressClaimBus$Outgoing", name := "goOff", desc := "()V" } : MethodName) ({ cls := "AddressClaimBus$Outgoing", name := "goOff", desc := "()V" } : MethodName)) ∈ zx_T := zx_mem tables_1_3 zx_l3 51 (by decide +kernel) (by decide +kernel)
theorem wd_532 : (Cond.code ({ cls := "AddressClaimBus$Outgoing", name := "goOff", desc := "()V" } : MethodName) prog_6_method_6_code (1 : Nat) (Option.none : Option FieldType)) ∈ zx_T := zx_mem tables_1_3 zx_l3 52 (by decide +kernel) (by decide +kernel)
theorem wd_533 : (Cond.methodLink "AddressClaimBus$Outgoing" (79 : Nat) ({ cls := "AddressClaimBus$Outgoing", name := "sendNextToAll", desc := "()V" } : MethodName)) ∈ zx_T := zx_mem tables_1_3 zx_l3 53 (by decide +kernel) (by decide +kernel)
theorem wd_535 : (Cond.instanceMethod ({ cls := "AddressClaimBus$Outgoing", name := "sendNextToAll", desc := "()V" } : MethodName)) ∈ zx_T := zx_mem tables_1_3 zx_l3 55 (by decide +kernel) (by decide +kernel)
theorem wd_536 : (Cond.code ({ cls := "AddressClaimBus$Outgoing", name := "sendNextToAll", desc := "()V" } : MethodName) prog_6_method_7_code (1 : Nat) (Option.none : Option FieldType)) ∈ zx_T := zx_mem tables_1_3 zx_l3 56 (by decide +kernel) (by decide +kernel)
theorem wd_537 : (Cond.methodLink "AddressClaimBus$Outgoing" (86 : Nat) ({ cls := "AddressClaimBus$Outgoing", name := "end", desc := "(I)V" } : MethodName)) ∈ zx_T := zx_mem tables_1_3 zx_l3 57 (by decide +kernel) (by decide +kernel)
theorem wd_538 : (Cond.constantLong "AddressClaimBus$Outgoing" (89 : Nat) (50 : Int64)) ∈ zx_T := zx_mem tables_1_3 zx_l3 58 (by decide +kernel) (by decide +kernel)
theorem wd_540 : (Cond.methodLink "AddressClaimBus$Function" (123 : Nat) ({ cls := "AddressClaimBus$Incoming", name := "goOff", desc := "()V" } : MethodName)) ∈ zx_T := zx_mem tables_1_3 zx_l3 60 (by decide +kernel) (by decide +kernel)
theorem wd_541 : (Cond.instanceMethod ({ cls := "AddressClaimBus$Incoming", name := "goOff", desc := "()V" } : MethodName)) ∈ zx_T := zx_mem tables_1_3 zx_l3 61 (by decide +kernel) (by decide +kernel)
theorem wd_542 : (Cond.selects "AddressClaimBus$Incoming" ({ cls := "AddressClaimBus$Incoming", name := "goOff", desc := "()V" } : MethodName) ({ cls := "AddressClaimBus$Incoming", name := "goOff", desc := "()V" } : MethodName)) ∈ zx_T := zx_mem tables_1_3 zx_l3 62 (by decide +kernel) (by decide +kernel)
theorem wd_543 : (Cond.code ({ cls := "AddressClaimBus$Incoming", name := "goOff", desc := "()V" } : MethodName) prog_4_method_5_code (1 : Nat) (Option.none : Option FieldType)) ∈ zx_T := zx_mem tables_1_3 zx_l3 63 (by decide +kernel) (by decide +kernel)
theorem wd_544 : (Cond.methodLink "AddressClaimBusLaw" (85 : Nat) ({ cls := "AddressClaimBus", name := "outgoing", desc := "(I)I" } : MethodName)) ∈ zx_T := zx_mem tables_1_3 zx_l3 64 (by decide +kernel) (by decide +kernel)
theorem wd_545 : (Cond.instanceMethod ({ cls := "AddressClaimBus", name := "outgoing", desc := "(I)I" } : MethodName)) ∈ zx_T := zx_mem tables_1_3 zx_l3 65 (by decide +kernel) (by decide +kernel)
theorem wd_546 : (Cond.selects "AddressClaimBus" ({ cls := "AddressClaimBus", name := "outgoing", desc := "(I)I" } : MethodName) ({ cls := "AddressClaimBus", name := "outgoing", desc := "(I)I" } : MethodName)) ∈ zx_T := zx_mem tables_1_3 zx_l3 66 (by decide +kernel) (by decide +kernel)
theorem wd_547 : (Cond.code ({ cls := "AddressClaimBus", name := "outgoing", desc := "(I)I" } : MethodName) prog_1_method_17_code (3 : Nat) (Option.some FieldType.int)) ∈ zx_T := zx_mem tables_1_3 zx_l3 67 (by decide +kernel) (by decide +kernel)
theorem wd_548 : (Cond.methodLink "AddressClaimBusLaw" (89 : Nat) ({ cls := "AddressClaimBus", name := "incoming", desc := "(I)I" } : MethodName)) ∈ zx_T := zx_mem tables_1_3 zx_l3 68 (by decide +kernel) (by decide +kernel)
theorem wd_549 : (Cond.instanceMethod ({ cls := "AddressClaimBus", name := "incoming", desc := "(I)I" } : MethodName)) ∈ zx_T := zx_mem tables_1_3 zx_l3 69 (by decide +kernel) (by decide +kernel)
theorem wd_550 : (Cond.selects "AddressClaimBus" ({ cls := "AddressClaimBus", name := "incoming", desc := "(I)I" } : MethodName) ({ cls := "AddressClaimBus", name := "incoming", desc := "(I)I" } : MethodName)) ∈ zx_T := zx_mem tables_1_3 zx_l3 70 (by decide +kernel) (by decide +kernel)
theorem wd_551 : (Cond.code ({ cls := "AddressClaimBus", name := "incoming", desc := "(I)I" } : MethodName) prog_1_method_18_code (2 : Nat) (Option.some FieldType.int)) ∈ zx_T := zx_mem tables_1_3 zx_l3 71 (by decide +kernel) (by decide +kernel)
theorem wd_552 : (Cond.methodLink "AddressClaimBus" (135 : Nat) ({ cls := "AddressClaimBus$Function", name := "countIncoming", desc := "()I" } : MethodName)) ∈ zx_T := zx_mem tables_1_3 zx_l3 72 (by decide +kernel) (by decide +kernel)
theorem wd_553 : (Cond.methodLink "AddressClaimBusLaw" (93 : Nat) ({ cls := "AddressClaimBus", name := "delivered", desc := "(I)I" } : MethodName)) ∈ zx_T := zx_mem tables_1_3 zx_l3 73 (by decide +kernel) (by decide +kernel)
theorem wd_554 : (Cond.instanceMethod ({ cls := "AddressClaimBus", name := "delivered", desc := "(I)I" } : MethodName)) ∈ zx_T := zx_mem tables_1_3 zx_l3 74 (by decide +kernel) (by decide +kernel)
theorem wd_555 : (Cond.selects "AddressClaimBus" ({ cls := "AddressClaimBus", name := "delivered", desc := "(I)I" } : MethodName) ({ cls := "AddressClaimBus", name := "delivered", desc := "(I)I" } : MethodName)) ∈ zx_T := zx_mem tables_1_3 zx_l3 75 (by decide +kernel) (by decide +kernel)
theorem wd_556 : (Cond.code ({ cls := "AddressClaimBus", name := "delivered", desc := "(I)I" } : MethodName) prog_1_method_19_code (2 : Nat) (Option.some FieldType.int)) ∈ zx_T := zx_mem tables_1_3 zx_l3 76 (by decide +kernel) (by decide +kernel)
theorem wd_557 : (Cond.methodLink "AddressClaimBusLaw" (97 : Nat) ({ cls := "AddressClaimBus", name := "message", desc := "(II)I" } : MethodName)) ∈ zx_T := zx_mem tables_1_3 zx_l3 77 (by decide +kernel) (by decide +kernel)
theorem wd_558 : (Cond.instanceMethod ({ cls := "AddressClaimBus", name := "message", desc := "(II)I" } : MethodName)) ∈ zx_T := zx_mem tables_1_3 zx_l3 78 (by decide +kernel) (by decide +kernel)
theorem wd_559 : (Cond.selects "AddressClaimBus" ({ cls := "AddressClaimBus", name := "message", desc := "(II)I" } : MethodName) ({ cls := "AddressClaimBus", name := "message", desc := "(II)I" } : MethodName)) ∈ zx_T := zx_mem tables_1_3 zx_l3 79 (by decide +kernel) (by decide +kernel)
theorem wd_560 : (Cond.code ({ cls := "AddressClaimBus", name := "message", desc := "(II)I" } : MethodName) prog_1_method_20_code (4 : Nat) (Option.some FieldType.int)) ∈ zx_T := zx_mem tables_1_3 zx_l3 80 (by decide +kernel) (by decide +kernel)
theorem wd_561 : (Cond.methodLink "AddressClaimBus" (141 : Nat) ({ cls := "AddressClaimBus", name := "hasMessage", desc := "(I)Z" } : MethodName)) ∈ zx_T := zx_mem tables_1_3 zx_l3 81 (by decide +kernel) (by decide +kernel)
theorem wd_563 : (Cond.instanceMethod ({ cls := "AddressClaimBus", name := "hasMessage", desc := "(I)Z" } : MethodName)) ∈ zx_T := zx_mem tables_1_3 zx_l3 83 (by decide +kernel) (by decide +kernel)
theorem wd_564 : (Cond.code ({ cls := "AddressClaimBus", name := "hasMessage", desc := "(I)Z" } : MethodName) prog_1_method_24_code (2 : Nat) (Option.some FieldType.boolean)) ∈ zx_T := zx_mem tables_1_3 zx_l3 84 (by decide +kernel) (by decide +kernel)
theorem wd_565 : (Cond.methodLink "AddressClaimBusLaw" (101 : Nat) ({ cls := "AddressClaimBus", name := "byteOf", desc := "(II)I" } : MethodName)) ∈ zx_T := zx_mem tables_1_3 zx_l3 85 (by decide +kernel) (by decide +kernel)
theorem wd_566 : (Cond.instanceMethod ({ cls := "AddressClaimBus", name := "byteOf", desc := "(II)I" } : MethodName)) ∈ zx_T := zx_mem tables_1_3 zx_l3 86 (by decide +kernel) (by decide +kernel)
theorem wd_567 : (Cond.selects "AddressClaimBus" ({ cls := "AddressClaimBus", name := "byteOf", desc := "(II)I" } : MethodName) ({ cls := "AddressClaimBus", name := "byteOf", desc := "(II)I" } : MethodName)) ∈ zx_T := zx_mem tables_1_3 zx_l3 87 (by decide +kernel) (by decide +kernel)
theorem wd_568 : (Cond.code ({ cls := "AddressClaimBus", name := "byteOf", desc := "(II)I" } : MethodName) prog_1_method_21_code (3 : Nat) (Option.some FieldType.int)) ∈ zx_T := zx_mem tables_1_3 zx_l3 88 (by decide +kernel) (by decide +kernel)
theorem wd_569 : (Cond.methodLink "AddressClaimBus" (162 : Nat) ({ cls := "AddressClaimBus$Message", name := "byteAt", desc := "(I)I" } : MethodName)) ∈ zx_T := zx_mem tables_1_3 zx_l3 89 (by decide +kernel) (by decide +kernel)
theorem wd_570 : (Cond.instanceMethod ({ cls := "AddressClaimBus$Message", name := "byteAt", desc := "(I)I" } : MethodName)) ∈ zx_T := zx_mem tables_1_3 zx_l3 90 (by decide +kernel) (by decide +kernel)
theorem wd_571 : (Cond.selects "AddressClaimBus$Message" ({ cls := "AddressClaimBus$Message", name := "byteAt", desc := "(I)I" } : MethodName) ({ cls := "AddressClaimBus$Message", name := "byteAt", desc := "(I)I" } : MethodName)) ∈ zx_T := zx_mem tables_1_3 zx_l3 91 (by decide +kernel) (by decide +kernel)
theorem wd_572 : (Cond.code ({ cls := "AddressClaimBus$Message", name := "byteAt", desc := "(I)I" } : MethodName) prog_5_method_4_code (2 : Nat) (Option.some FieldType.int)) ∈ zx_T := zx_mem tables_1_3 zx_l3 92 (by decide +kernel) (by decide +kernel)
theorem wd_574 : (Cond.classLink "AddressClaimBusLaw" (10 : Nat) "AddressClaimBusModel") ∈ zx_T := zx_mem tables_1_3 zx_l3 94 (by decide +kernel) (by decide +kernel)
theorem wd_575 : (Cond.instantiable "AddressClaimBusModel" (34 : Nat)) ∈ zx_T := zx_mem tables_1_3 zx_l3 95 (by decide +kernel) (by decide +kernel)
theorem wd_576 : (Cond.methodLink "AddressClaimBusLaw" (12 : Nat) ({ cls := "AddressClaimBusModel", name := "<init>", desc := "()V" } : MethodName)) ∈ zx_T := zx_mem tables_1_3 zx_l3 96 (by decide +kernel) (by decide +kernel)
theorem wd_577 : (Cond.instanceMethod ({ cls := "AddressClaimBusModel", name := "<init>", desc := "()V" } : MethodName)) ∈ zx_T := zx_mem tables_1_3 zx_l3 97 (by decide +kernel) (by decide +kernel)
theorem wd_578 : (Cond.code ({ cls := "AddressClaimBusModel", name := "<init>", desc := "()V" } : MethodName) prog_9_method_1_code (1 : Nat) (Option.none : Option FieldType)) ∈ zx_T := zx_mem tables_1_3 zx_l3 98 (by decide +kernel) (by decide +kernel)
theorem wd_579 : (Cond.methodLink "AddressClaimBusModel" (1 : Nat) ({ cls := "java/lang/Object", name := "<init>", desc := "()V" } : MethodName)) ∈ zx_T := zx_mem tables_1_3 zx_l3 99 (by decide +kernel) (by decide +kernel)
theorem wd_580 : (Cond.fieldLink "AddressClaimBusModel" (153 : Nat) "AddressClaimBusModel" "now" "I") ∈ zx_T := zx_mem tables_1_3 zx_l3 100 (by decide +kernel) (by decide +kernel)
theorem wd_581 : (Cond.fieldLink "AddressClaimBusModel" (7 : Nat) "AddressClaimBusModel" "state" "[I") ∈ zx_T := zx_mem tables_1_3 zx_l3 101 (by decide +kernel) (by decide +kernel)
theorem wd_582 : (Cond.fieldLink "AddressClaimBusModel" (13 : Nat) "AddressClaimBusModel" "held" "[I") ∈ zx_T := zx_mem tables_1_3 zx_l3 102 (by decide +kernel) (by decide +kernel)
theorem wd_583 : (Cond.fieldLink "AddressClaimBusModel" (16 : Nat) "AddressClaimBusModel" "name" "[J") ∈ zx_T := zx_mem tables_1_3 zx_l3 103 (by decide +kernel) (by decide +kernel)
theorem wd_584 : (Cond.fieldLink "AddressClaimBusModel" (20 : Nat) "AddressClaimBusModel" "occupied" "[Z") ∈ zx_T := zx_mem tables_1_3 zx_l3 104 (by decide +kernel) (by decide +kernel)
theorem wd_585 : (Cond.fieldLink "AddressClaimBusModel" (24 : Nat) "AddressClaimBusModel" "claimDue" "[I") ∈ zx_T := zx_mem tables_1_3 zx_l3 105 (by decide +kernel) (by decide +kernel)
theorem wd_586 : (Cond.fieldLink "AddressClaimBusModel" (27 : Nat) "AddressClaimBusModel" "notes" "[I") ∈ zx_T := zx_mem tables_1_3 zx_l3 106 (by decide +kernel) (by decide +kernel)
theorem wd_587 : (Cond.fieldLink "AddressClaimBusModel" (105 : Nat) "AddressClaimBusModel" "frames" "I") ∈ zx_T := zx_mem tables_1_3 zx_l3 107 (by decide +kernel) (by decide +kernel)
theorem wd_588 : (Cond.fieldLink "AddressClaimBusModel" (30 : Nat) "AddressClaimBusModel" "frameId" "[I") ∈ zx_T := zx_mem tables_1_3 zx_l3 108 (by decide +kernel) (by decide +kernel)
theorem wd_589 : (Cond.fieldLink "AddressClaimBusModel" (33 : Nat) "AddressClaimBusModel" "frameData" "[J") ∈ zx_T := zx_mem tables_1_3 zx_l3 109 (by decide +kernel) (by decide +kernel)
theorem wd_590 : (Cond.fieldLink "AddressClaimBusModel" (36 : Nat) "AddressClaimBusModel" "frameSender" "[I") ∈ zx_T := zx_mem tables_1_3 zx_l3 110 (by decide +kernel) (by decide +kernel)
theorem wd_591 : (Cond.fieldLink "AddressClaimBusModel" (109 : Nat) "AddressClaimBusModel" "lost" "I") ∈ zx_T := zx_mem tables_1_3 zx_l3 111 (by decide +kernel) (by decide +kernel)
theorem wd_592 : (Cond.fieldLink "AddressClaimBusModel" (39 : Nat) "AddressClaimBusModel" "out" "[I") ∈ zx_T := zx_mem tables_1_3 zx_l3 112 (by decide +kernel) (by decide +kernel)
theorem wd_593 : (Cond.fieldLink "AddressClaimBusModel" (42 : Nat) "AddressClaimBusModel" "result" "[I") ∈ zx_T := zx_mem tables_1_3 zx_l3 113 (by decide +kernel) (by decide +kernel)
theorem wd_594 : (Cond.fieldLink "AddressClaimBusModel" (45 : Nat) "AddressClaimBusModel" "outOther" "[I") ∈ zx_T := zx_mem tables_1_3 zx_l3 114 (by decide +kernel) (by decide +kernel)
theorem wd_595 : (Cond.fieldLink "AddressClaimBusModel" (48 : Nat) "AddressClaimBusModel" "outGroup" "[I") ∈ zx_T := zx_mem tables_1_3 zx_l3 115 (by decide +kernel) (by decide +kernel)
theorem wd_596 : (Cond.fieldLink "AddressClaimBusModel" (51 : Nat) "AddressClaimBusModel" "outSize" "[I") ∈ zx_T := zx_mem tables_1_3 zx_l3 116 (by decide +kernel) (by decide +kernel)
theorem wd_597 : (Cond.fieldLink "AddressClaimBusModel" (54 : Nat) "AddressClaimBusModel" "outSeed" "[J") ∈ zx_T := zx_mem tables_1_3 zx_l3 117 (by decide +kernel) (by decide +kernel)
theorem wd_598 : (Cond.fieldLink "AddressClaimBusModel" (57 : Nat) "AddressClaimBusModel" "outNext" "[I") ∈ zx_T := zx_mem tables_1_3 zx_l3 118 (by decide +kernel) (by decide +kernel)
theorem wd_599 : (Cond.fieldLink "AddressClaimBusModel" (60 : Nat) "AddressClaimBusModel" "outDue" "[I") ∈ zx_T := zx_mem tables_1_3 zx_l3 119 (by decide +kernel) (by decide +kernel)
theorem wd_600 : (Cond.fieldLink "AddressClaimBusModel" (63 : Nat) "AddressClaimBusModel" "ins" "[I") ∈ zx_T := zx_mem tables_1_3 zx_l3 120 (by decide +kernel) (by decide +kernel)
theorem wd_601 : (Cond.fieldLink "AddressClaimBusModel" (66 : Nat) "AddressClaimBusModel" "inAll" "[Z") ∈ zx_T := zx_mem tables_1_3 zx_l3 121 (by decide +kernel) (by decide +kernel)
theorem wd_602 : (Cond.fieldLink "AddressClaimBusModel" (69 : Nat) "AddressClaimBusModel" "inFrom" "[I") ∈ zx_T := zx_mem tables_1_3 zx_l3 122 (by decide +kernel) (by decide +kernel)
theorem wd_603 : (Cond.fieldLink "AddressClaimBusModel" (72 : Nat) "AddressClaimBusModel" "inGroup" "[I") ∈ zx_T := zx_mem tables_1_3 zx_l3 123 (by decide +kernel) (by decide +kernel)
theorem wd_604 : (Cond.fieldLink "AddressClaimBusModel" (75 : Nat) "AddressClaimBusModel" "inSize" "[I") ∈ zx_T := zx_mem tables_1_3 zx_l3 124 (by decide +kernel) (by decide +kernel)
theorem wd_605 : (Cond.fieldLink "AddressClaimBusModel" (78 : Nat) "AddressClaimBusModel" "inExpected" "[I") ∈ zx_T := zx_mem tables_1_3 zx_l3 125 (by decide +kernel) (by decide +kernel)
theorem wd_606 : (Cond.fieldLink "AddressClaimBusModel" (81 : Nat) "AddressClaimBusModel" "inLast" "[I") ∈ zx_T := zx_mem tables_1_3 zx_l3 126 (by decide +kernel) (by decide +kernel)
theorem wd_607 : (Cond.fieldLink "AddressClaimBusModel" (84 : Nat) "AddressClaimBusModel" "inAsked" "[I") ∈ zx_T := zx_mem tables_1_3 zx_l3 127 (by decide +kernel) (by decide +kernel)
theorem wd_608 : (Cond.fieldLink "AddressClaimBusModel" (87 : Nat) "AddressClaimBusModel" "inHeld" "[Z") ∈ zx_T := zx_mem tables_1_3 zx_l3 128 (by decide +kernel) (by decide +kernel)
theorem wd_609 : (Cond.fieldLink "AddressClaimBusModel" (90 : Nat) "AddressClaimBusModel" "inDue" "[I") ∈ zx_T := zx_mem tables_1_3 zx_l3 129 (by decide +kernel) (by decide +kernel)
theorem wd_610 : (Cond.fieldLink "AddressClaimBusModel" (93 : Nat) "AddressClaimBusModel" "inBytes" "[I") ∈ zx_T := zx_mem tables_1_3 zx_l3 130 (by decide +kernel) (by decide +kernel)
theorem wd_611 : (Cond.fieldLink "AddressClaimBusModel" (96 : Nat) "AddressClaimBusModel" "arrived" "[I") ∈ zx_T := zx_mem tables_1_3 zx_l3 131 (by decide +kernel) (by decide +kernel)
theorem wd_612 : (Cond.fieldLink "AddressClaimBusModel" (99 : Nat) "AddressClaimBusModel" "last" "[I") ∈ zx_T := zx_mem tables_1_3 zx_l3 132 (by decide +kernel) (by decide +kernel)
theorem wd_613 : (Cond.fieldLink "AddressClaimBusModel" (102 : Nat) "AddressClaimBusModel" "lastBytes" "[I") ∈ zx_T := zx_mem tables_1_3 zx_l3 133 (by decide +kernel) (by decide +kernel)
theorem wd_614 : (Cond.lays "AddressClaimBusModel" "AddressClaimBusModel" "now" "I") ∈ zx_T := zx_mem tables_1_3 zx_l3 134 (by decide +kernel) (by decide +kernel)
theorem wd_616 : (Cond.lays "AddressClaimBusModel" "AddressClaimBusModel" "state" "[I") ∈ zx_T := zx_mem tables_1_3 zx_l3 136 (by decide +kernel) (by decide +kernel)
theorem wd_618 : (Cond.lays "AddressClaimBusModel" "AddressClaimBusModel" "held" "[I") ∈ zx_T := zx_mem tables_1_3 zx_l3 138 (by decide +kernel) (by decide +kernel)
theorem wd_620 : (Cond.lays "AddressClaimBusModel" "AddressClaimBusModel" "name" "[J") ∈ zx_T := zx_mem tables_1_3 zx_l3 140 (by decide +kernel) (by decide +kernel)
theorem wd_622 : (Cond.lays "AddressClaimBusModel" "AddressClaimBusModel" "occupied" "[Z") ∈ zx_T := zx_mem tables_1_3 zx_l3 142 (by decide +kernel) (by decide +kernel)
theorem wd_624 : (Cond.lays "AddressClaimBusModel" "AddressClaimBusModel" "claimDue" "[I") ∈ zx_T := zx_mem tables_1_3 zx_l3 144 (by decide +kernel) (by decide +kernel)
theorem wd_626 : (Cond.lays "AddressClaimBusModel" "AddressClaimBusModel" "notes" "[I") ∈ zx_T := zx_mem tables_1_3 zx_l3 146 (by decide +kernel) (by decide +kernel)
theorem wd_628 : (Cond.lays "AddressClaimBusModel" "AddressClaimBusModel" "frames" "I") ∈ zx_T := zx_mem tables_1_3 zx_l3 148 (by decide +kernel) (by decide +kernel)
theorem wd_630 : (Cond.lays "AddressClaimBusModel" "AddressClaimBusModel" "frameId" "[I") ∈ zx_T := zx_mem tables_1_3 zx_l3 150 (by decide +kernel) (by decide +kernel)
theorem wd_632 : (Cond.lays "AddressClaimBusModel" "AddressClaimBusModel" "frameData" "[J") ∈ zx_T := zx_mem tables_1_3 zx_l3 152 (by decide +kernel) (by decide +kernel)
theorem wd_634 : (Cond.lays "AddressClaimBusModel" "AddressClaimBusModel" "frameSender" "[I") ∈ zx_T := zx_mem tables_1_3 zx_l3 154 (by decide +kernel) (by decide +kernel)
theorem wd_636 : (Cond.lays "AddressClaimBusModel" "AddressClaimBusModel" "lost" "I") ∈ zx_T := zx_mem tables_1_3 zx_l3 156 (by decide +kernel) (by decide +kernel)
theorem wd_638 : (Cond.lays "AddressClaimBusModel" "AddressClaimBusModel" "out" "[I") ∈ zx_T := zx_mem tables_1_3 zx_l3 158 (by decide +kernel) (by decide +kernel)
theorem wd_640 : (Cond.lays "AddressClaimBusModel" "AddressClaimBusModel" "result" "[I") ∈ zx_T := zx_mem tables_1_3 zx_l3 160 (by decide +kernel) (by decide +kernel)
theorem wd_642 : (Cond.lays "AddressClaimBusModel" "AddressClaimBusModel" "outOther" "[I") ∈ zx_T := zx_mem tables_1_3 zx_l3 162 (by decide +kernel) (by decide +kernel)
theorem wd_644 : (Cond.lays "AddressClaimBusModel" "AddressClaimBusModel" "outGroup" "[I") ∈ zx_T := zx_mem tables_1_3 zx_l3 164 (by decide +kernel) (by decide +kernel)
theorem wd_646 : (Cond.lays "AddressClaimBusModel" "AddressClaimBusModel" "outSize" "[I") ∈ zx_T := zx_mem tables_1_3 zx_l3 166 (by decide +kernel) (by decide +kernel)
theorem wd_648 : (Cond.lays "AddressClaimBusModel" "AddressClaimBusModel" "outSeed" "[J") ∈ zx_T := zx_mem tables_1_3 zx_l3 168 (by decide +kernel) (by decide +kernel)
theorem wd_650 : (Cond.lays "AddressClaimBusModel" "AddressClaimBusModel" "outNext" "[I") ∈ zx_T := zx_mem tables_1_3 zx_l3 170 (by decide +kernel) (by decide +kernel)
theorem wd_652 : (Cond.lays "AddressClaimBusModel" "AddressClaimBusModel" "outDue" "[I") ∈ zx_T := zx_mem tables_1_3 zx_l3 172 (by decide +kernel) (by decide +kernel)
theorem wd_654 : (Cond.lays "AddressClaimBusModel" "AddressClaimBusModel" "ins" "[I") ∈ zx_T := zx_mem tables_1_3 zx_l3 174 (by decide +kernel) (by decide +kernel)
theorem wd_656 : (Cond.lays "AddressClaimBusModel" "AddressClaimBusModel" "inAll" "[Z") ∈ zx_T := zx_mem tables_1_3 zx_l3 176 (by decide +kernel) (by decide +kernel)
theorem wd_658 : (Cond.lays "AddressClaimBusModel" "AddressClaimBusModel" "inFrom" "[I") ∈ zx_T := zx_mem tables_1_3 zx_l3 178 (by decide +kernel) (by decide +kernel)
theorem wd_660 : (Cond.lays "AddressClaimBusModel" "AddressClaimBusModel" "inGroup" "[I") ∈ zx_T := zx_mem tables_1_3 zx_l3 180 (by decide +kernel) (by decide +kernel)
theorem wd_662 : (Cond.lays "AddressClaimBusModel" "AddressClaimBusModel" "inSize" "[I") ∈ zx_T := zx_mem tables_1_3 zx_l3 182 (by decide +kernel) (by decide +kernel)
theorem wd_664 : (Cond.lays "AddressClaimBusModel" "AddressClaimBusModel" "inExpected" "[I") ∈ zx_T := zx_mem tables_1_3 zx_l3 184 (by decide +kernel) (by decide +kernel)
theorem wd_666 : (Cond.lays "AddressClaimBusModel" "AddressClaimBusModel" "inLast" "[I") ∈ zx_T := zx_mem tables_1_3 zx_l3 186 (by decide +kernel) (by decide +kernel)
theorem wd_668 : (Cond.lays "AddressClaimBusModel" "AddressClaimBusModel" "inAsked" "[I") ∈ zx_T := zx_mem tables_1_3 zx_l3 188 (by decide +kernel) (by decide +kernel)
theorem wd_670 : (Cond.lays "AddressClaimBusModel" "AddressClaimBusModel" "inHeld" "[Z") ∈ zx_T := zx_mem tables_1_3 zx_l3 190 (by decide +kernel) (by decide +kernel)
theorem wd_672 : (Cond.lays "AddressClaimBusModel" "AddressClaimBusModel" "inDue" "[I") ∈ zx_T := zx_mem tables_1_3 zx_l3 192 (by decide +kernel) (by decide +kernel)
theorem wd_674 : (Cond.lays "AddressClaimBusModel" "AddressClaimBusModel" "inBytes" "[I") ∈ zx_T := zx_mem tables_1_3 zx_l3 194 (by decide +kernel) (by decide +kernel)
theorem wd_676 : (Cond.lays "AddressClaimBusModel" "AddressClaimBusModel" "arrived" "[I") ∈ zx_T := zx_mem tables_1_3 zx_l3 196 (by decide +kernel) (by decide +kernel)
theorem wd_678 : (Cond.lays "AddressClaimBusModel" "AddressClaimBusModel" "last" "[I") ∈ zx_T := zx_mem tables_1_3 zx_l3 198 (by decide +kernel) (by decide +kernel)
theorem wd_680 : (Cond.lays "AddressClaimBusModel" "AddressClaimBusModel" "lastBytes" "[I") ∈ zx_T := zx_mem tables_1_3 zx_l3 200 (by decide +kernel) (by decide +kernel)
theorem wd_683 : (Cond.arrayClass FieldType.boolean) ∈ zx_T := zx_mem tables_1_3 zx_l3 203 (by decide +kernel) (by decide +kernel)
theorem wd_684 : (Cond.methodLink "AddressClaimBusLaw" (57 : Nat) ({ cls := "AddressClaimBusModel", name := "waiting", desc := "()I" } : MethodName)) ∈ zx_T := zx_mem tables_1_3 zx_l3 204 (by decide +kernel) (by decide +kernel)
theorem wd_685 : (Cond.instanceMethod ({ cls := "AddressClaimBusModel", name := "waiting", desc := "()I" } : MethodName)) ∈ zx_T := zx_mem tables_1_3 zx_l3 205 (by decide +kernel) (by decide +kernel)
theorem wd_686 : (Cond.selects "AddressClaimBusModel" ({ cls := "AddressClaimBusModel", name := "waiting", desc := "()I" } : MethodName) ({ cls := "AddressClaimBusModel", name := "waiting", desc := "()I" } : MethodName)) ∈ zx_T := zx_mem tables_1_3 zx_l3 206 (by decide +kernel) (by decide +kernel)
theorem wd_687 : (Cond.code ({ cls := "AddressClaimBusModel", name := "waiting", desc := "()I" } : MethodName) prog_9_method_12_code (1 : Nat) (Option.some FieldType.int)) ∈ zx_T := zx_mem tables_1_3 zx_l3 207 (by decide +kernel) (by decide +kernel)
theorem wd_688 : (Cond.methodLink "AddressClaimBusLaw" (61 : Nat) ({ cls := "AddressClaimBusModel", name := "identifier", desc := "()I" } : MethodName)) ∈ zx_T := zx_mem tables_1_3 zx_l3 208 (by decide +kernel) (by decide +kernel)
theorem wd_689 : (Cond.instanceMethod ({ cls := "AddressClaimBusModel", name := "identifier", desc := "()I" } : MethodName)) ∈ zx_T := zx_mem tables_1_3 zx_l3 209 (by decide +kernel) (by decide +kernel)
theorem wd_690 : (Cond.selects "AddressClaimBusModel" ({ cls := "AddressClaimBusModel", name := "identifier", desc := "()I" } : MethodName) ({ cls := "AddressClaimBusModel", name := "identifier", desc := "()I" } : MethodName)) ∈ zx_T := zx_mem tables_1_3 zx_l3 210 (by decide +kernel) (by decide +kernel)
theorem wd_691 : (Cond.code ({ cls := "AddressClaimBusModel", name := "identifier", desc := "()I" } : MethodName) prog_9_method_13_code (2 : Nat) (Option.some FieldType.int)) ∈ zx_T := zx_mem tables_1_3 zx_l3 211 (by decide +kernel) (by decide +kernel)
theorem wd_692 : (Cond.methodLink "AddressClaimBusModel" (128 : Nat) ({ cls := "AddressClaimBusModel", name := "next", desc := "()I" } : MethodName)) ∈ zx_T := zx_mem tables_1_3 zx_l3 212 (by decide +kernel) (by decide +kernel)
theorem wd_694 : (Cond.instanceMethod ({ cls := "AddressClaimBusModel", name := "next", desc := "()I" } : MethodName)) ∈ zx_T := zx_mem tables_1_3 zx_l3 214 (by decide +kernel) (by decide +kernel)
theorem wd_695 : (Cond.code ({ cls := "AddressClaimBusModel", name := "next", desc := "()I" } : MethodName) prog_9_method_11_code (3 : Nat) (Option.some FieldType.int)) ∈ zx_T := zx_mem tables_1_3 zx_l3 215 (by decide +kernel) (by decide +kernel)
theorem wd_696 : (Cond.methodLink "AddressClaimBusLaw" (66 : Nat) ({ cls := "AddressClaimBusModel", name := "data", desc := "()J" } : MethodName)) ∈ zx_T := zx_mem tables_1_3 zx_l3 216 (by decide +kernel) (by decide +kernel)
theorem wd_697 : (Cond.instanceMethod ({ cls := "AddressClaimBusModel", name := "data", desc := "()J" } : MethodName)) ∈ zx_T := zx_mem tables_1_3 zx_l3 217 (by decide +kernel) (by decide +kernel)
theorem wd_698 : (Cond.selects "AddressClaimBusModel" ({ cls := "AddressClaimBusModel", name := "data", desc := "()J" } : MethodName) ({ cls := "AddressClaimBusModel", name := "data", desc := "()J" } : MethodName)) ∈ zx_T := zx_mem tables_1_3 zx_l3 218 (by decide +kernel) (by decide +kernel)
theorem wd_699 : (Cond.code ({ cls := "AddressClaimBusModel", name := "data", desc := "()J" } : MethodName) prog_9_method_14_code (2 : Nat) (Option.some FieldType.long)) ∈ zx_T := zx_mem tables_1_3 zx_l3 219 (by decide +kernel) (by decide +kernel)
theorem wd_700 : (Cond.methodLink "AddressClaimBusLaw" (76 : Nat) ({ cls := "AddressClaimBusModel", name := "lose", desc := "()Z" } : MethodName)) ∈ zx_T := zx_mem tables_1_3 zx_l3 220 (by decide +kernel) (by decide +kernel)
theorem wd_701 : (Cond.instanceMethod ({ cls := "AddressClaimBusModel", name := "lose", desc := "()Z" } : MethodName)) ∈ zx_T := zx_mem tables_1_3 zx_l3 221 (by decide +kernel) (by decide +kernel)
theorem wd_702 : (Cond.selects "AddressClaimBusModel" ({ cls := "AddressClaimBusModel", name := "lose", desc := "()Z" } : MethodName) ({ cls := "AddressClaimBusModel", name := "lose", desc := "()Z" } : MethodName)) ∈ zx_T := zx_mem tables_1_3 zx_l3 222 (by decide +kernel) (by decide +kernel)
theorem wd_703 : (Cond.code ({ cls := "AddressClaimBusModel", name := "lose", desc := "()Z" } : MethodName) prog_9_method_15_code (2 : Nat) (Option.some FieldType.boolean)) ∈ zx_T := zx_mem tables_1_3 zx_l3 223 (by decide +kernel) (by decide +kernel)
theorem wd_704 : (Cond.methodLink "AddressClaimBusModel" (132 : Nat) ({ cls := "AddressClaimBusModel", name := "takeAway", desc := "(I)V" } : MethodName)) ∈ zx_T := zx_mem tables_1_3 zx_l3 224 (by decide +kernel) (by decide +kernel)
theorem wd_706 : (Cond.instanceMethod ({ cls := "AddressClaimBusModel", name := "takeAway", desc := "(I)V" } : MethodName)) ∈ zx_T := zx_mem tables_1_3 zx_l3 226 (by decide +kernel) (by decide +kernel)
theorem wd_707 : (Cond.code ({ cls := "AddressClaimBusModel", name := "takeAway", desc := "(I)V" } : MethodName) prog_9_method_10_code (3 : Nat) (Option.none : Option FieldType)) ∈ zx_T := zx_mem tables_1_3 zx_l3 227 (by decide +kernel) (by decide +kernel)
theorem wd_708 : (Cond.methodLink "AddressClaimBusLaw" (80 : Nat) ({ cls := "AddressClaimBusModel", name := "overflowed", desc := "()I" } : MethodName)) ∈ zx_T := zx_mem tables_1_3 zx_l3 228 (by decide +kernel) (by decide +kernel)
theorem wd_709 : (Cond.instanceMethod ({ cls := "AddressClaimBusModel", name := "overflowed", desc := "()I" } : MethodName)) ∈ zx_T := zx_mem tables_1_3 zx_l3 229 (by decide +kernel) (by decide +kernel)
theorem wd_710 : (Cond.selects "AddressClaimBusModel" ({ cls := "AddressClaimBusModel", name := "overflowed", desc := "()I" } : MethodName) ({ cls := "AddressClaimBusModel", name := "overflowed", desc := "()I" } : MethodName)) ∈ zx_T := zx_mem tables_1_3 zx_l3 230 (by decide +kernel) (by decide +kernel)
theorem wd_711 : (Cond.code ({ cls := "AddressClaimBusModel", name := "overflowed", desc := "()I" } : MethodName) prog_9_method_16_code (1 : Nat) (Option.some FieldType.int)) ∈ zx_T := zx_mem tables_1_3 zx_l3 231 (by decide +kernel) (by decide +kernel)
theorem wd_712 : (Cond.methodLink "AddressClaimBusLaw" (71 : Nat) ({ cls := "AddressClaimBusModel", name := "deliver", desc := "(Z)Z" } : MethodName)) ∈ zx_T := zx_mem tables_1_3 zx_l3 232 (by decide +kernel) (by decide +kernel)
theorem wd_713 : (Cond.instanceMethod ({ cls := "AddressClaimBusModel", name := "deliver", desc := "(Z)Z" } : MethodName)) ∈ zx_T := zx_mem tables_1_3 zx_l3 233 (by decide +kernel) (by decide +kernel)
theorem wd_714 : (Cond.selects "AddressClaimBusModel" ({ cls := "AddressClaimBusModel", name := "deliver", desc := "(Z)Z" } : MethodName) ({ cls := "AddressClaimBusModel", name := "deliver", desc := "(Z)Z" } : MethodName)) ∈ zx_T := zx_mem tables_1_3 zx_l3 234 (by decide +kernel) (by decide +kernel)
theorem wd_715 : (Cond.code ({ cls := "AddressClaimBusModel", name := "deliver", desc := "(Z)Z" } : MethodName) prog_9_method_17_code (12 : Nat) (Option.some FieldType.boolean)) ∈ zx_T := zx_mem tables_1_3 zx_l3 235 (by decide +kernel) (by decide +kernel)
theorem wd_716 : (Cond.methodLink "AddressClaimBusModel" (136 : Nat) ({ cls := "AddressClaimBusModel", name := "reach", desc := "(IIIIIJ)V" } : MethodName)) ∈ zx_T := zx_mem tables_1_3 zx_l3 236 (by decide +kernel) (by decide +kernel)
theorem wd_718 : (Cond.instanceMethod ({ cls := "AddressClaimBusModel", name := "reach", desc := "(IIIIIJ)V" } : MethodName)) ∈ zx_T := zx_mem tables_1_3 zx_l3 238 (by decide +kernel) (by decide +kernel)
theorem wd_719 : (Cond.code ({ cls := "AddressClaimBusModel", name := "reach", desc := "(IIIIIJ)V" } : MethodName) prog_9_method_18_code (8 : Nat) (Option.none : Option FieldType)) ∈ zx_T := zx_mem tables_1_3 zx_l3 239 (by decide +kernel) (by decide +kernel)
theorem wd_720 : (Cond.methodLink "AddressClaimBusModel" (140 : Nat) ({ cls := "AddressClaimBusModel", name := "claimed", desc := "(IIIJ)V" } : MethodName)) ∈ zx_T := zx_mem tables_1_4 zx_l4 0 (by decide +kernel) (by decide +kernel)
theorem wd_722 : (Cond.instanceMethod ({ cls := "AddressClaimBusModel", name := "claimed", desc := "(IIIJ)V" } : MethodName)) ∈ zx_T := zx_mem tables_1_4 zx_l4 2 (by decide +kernel) (by decide +kernel)
theorem wd_723 : (Cond.code ({ cls := "AddressClaimBusModel", name := "claimed", desc := "(IIIJ)V" } : MethodName) prog_9_method_27_code (7 : Nat) (Option.none : Option FieldType)) ∈ zx_T := zx_mem tables_1_4 zx_l4 3 (by decide +kernel) (by decide +kernel)
theorem wd_724 : (Cond.methodLink "AddressClaimBusModel" (162 : Nat) ({ cls := "AddressClaimBusModel", name := "below", desc := "(JJ)Z" } : MethodName)) ∈ zx_T := zx_mem tables_1_4 zx_l4 4 (by decide +kernel) (by decide +kernel)
theorem wd_725 : (Cond.static ({ cls := "AddressClaimBusModel", name := "below", desc := "(JJ)Z" } : MethodName)) ∈ zx_T := zx_mem tables_1_4 zx_l4 5 (by decide +kernel) (by decide +kernel)
theorem wd_726 : (Cond.code ({ cls := "AddressClaimBusModel", name := "below", desc := "(JJ)Z" } : MethodName) prog_9_method_26_code (4 : Nat) (Option.some FieldType.boolean)) ∈ zx_T := zx_mem tables_1_4 zx_l4 6 (by decide +kernel) (by decide +kernel)
theorem wd_727 : (Cond.methodLink "AddressClaimBusModel" (166 : Nat) ({ cls := "AddressClaimBusModel", name := "spare", desc := "(I)I" } : MethodName)) ∈ zx_T := zx_mem tables_1_4 zx_l4 7 (by decide +kernel) (by decide +kernel)
theorem wd_729 : (Cond.instanceMethod ({ cls := "AddressClaimBusModel", name := "spare", desc := "(I)I" } : MethodName)) ∈ zx_T := zx_mem tables_1_4 zx_l4 9 (by decide +kernel) (by decide +kernel)
theorem wd_730 : (Cond.code ({ cls := "AddressClaimBusModel", name := "spare", desc := "(I)I" } : MethodName) prog_9_method_28_code (5 : Nat) (Option.some FieldType.int)) ∈ zx_T := zx_mem tables_1_4 zx_l4 10 (by decide +kernel) (by decide +kernel)
theorem wd_731 : (Cond.methodLink "AddressClaimBusModel" (144 : Nat) ({ cls := "AddressClaimBusModel", name := "putClaim", desc := "(I)V" } : MethodName)) ∈ zx_T := zx_mem tables_1_4 zx_l4 11 (by decide +kernel) (by decide +kernel)
theorem wd_733 : (Cond.instanceMethod ({ cls := "AddressClaimBusModel", name := "putClaim", desc := "(I)V" } : MethodName)) ∈ zx_T := zx_mem tables_1_4 zx_l4 13 (by decide +kernel) (by decide +kernel)
theorem wd_734 : (Cond.code ({ cls := "AddressClaimBusModel", name := "putClaim", desc := "(I)V" } : MethodName) prog_9_method_6_code (2 : Nat) (Option.none : Option FieldType)) ∈ zx_T := zx_mem tables_1_4 zx_l4 14 (by decide +kernel) (by decide +kernel)
theorem wd_735 : (Cond.methodLink "AddressClaimBusModel" (116 : Nat) ({ cls := "AddressClaimBusModel", name := "put", desc := "(IIIIJ)V" } : MethodName)) ∈ zx_T := zx_mem tables_1_4 zx_l4 15 (by decide +kernel) (by decide +kernel)
theorem wd_737 : (Cond.instanceMethod ({ cls := "AddressClaimBusModel", name := "put", desc := "(IIIIJ)V" } : MethodName)) ∈ zx_T := zx_mem tables_1_4 zx_l4 17 (by decide +kernel) (by decide +kernel)
theorem wd_738 : (Cond.code ({ cls := "AddressClaimBusModel", name := "put", desc := "(IIIIJ)V" } : MethodName) prog_9_method_5_code (7 : Nat) (Option.none : Option FieldType)) ∈ zx_T := zx_mem tables_1_4 zx_l4 18 (by decide +kernel) (by decide +kernel)
theorem wd_739 : (Cond.methodLink "AddressClaimBusModel" (112 : Nat) ({ cls := "AddressClaimBusModel", name := "source", desc := "(I)I" } : MethodName)) ∈ zx_T := zx_mem tables_1_4 zx_l4 19 (by decide +kernel) (by decide +kernel)
theorem wd_741 : (Cond.instanceMethod ({ cls := "AddressClaimBusModel", name := "source", desc := "(I)I" } : MethodName)) ∈ zx_T := zx_mem tables_1_4 zx_l4 21 (by decide +kernel) (by decide +kernel)
theorem wd_742 : (Cond.code ({ cls := "AddressClaimBusModel", name := "source", desc := "(I)I" } : MethodName) prog_9_method_4_code (2 : Nat) (Option.some FieldType.int)) ∈ zx_T := zx_mem tables_1_4 zx_l4 22 (by decide +kernel) (by decide +kernel)
theorem wd_743 : (Cond.methodLink "AddressClaimBusModel" (147 : Nat) ({ cls := "AddressClaimBusModel", name := "control", desc := "(IIIJ)V" } : MethodName)) ∈ zx_T := zx_mem tables_1_4 zx_l4 23 (by decide +kernel) (by decide +kernel)
theorem wd_745 : (Cond.instanceMethod ({ cls := "AddressClaimBusModel", name := "control", desc := "(IIIJ)V" } : MethodName)) ∈ zx_T := zx_mem tables_1_4 zx_l4 25 (by decide +kernel) (by decide +kernel)
theorem wd_746 : (Cond.code ({ cls := "AddressClaimBusModel", name := "control", desc := "(IIIJ)V" } : MethodName) prog_9_method_31_code (12 : Nat) (Option.none : Option FieldType)) ∈ zx_T := zx_mem tables_1_4 zx_l4 26 (by decide +kernel) (by decide +kernel)
theorem wd_747 : (Cond.constantLong "AddressClaimBusModel" (126 : Nat) (255 : Int64)) ∈ zx_T := zx_mem tables_1_4 zx_l4 27 (by decide +kernel) (by decide +kernel)
theorem wd_748 : (Cond.constantLong "AddressClaimBusModel" (173 : Nat) (16777215 : Int64)) ∈ zx_T := zx_mem tables_1_4 zx_l4 28 (by decide +kernel) (by decide +kernel)
theorem wd_749 : (Cond.methodLink "AddressClaimBusModel" (175 : Nat) ({ cls := "AddressClaimBusModel", name := "find", desc := "(IIZ)I" } : MethodName)) ∈ zx_T := zx_mem tables_1_4 zx_l4 29 (by decide +kernel) (by decide +kernel)
theorem wd_751 : (Cond.instanceMethod ({ cls := "AddressClaimBusModel", name := "find", desc := "(IIZ)I" } : MethodName)) ∈ zx_T := zx_mem tables_1_4 zx_l4 31 (by decide +kernel) (by decide +kernel)
theorem wd_752 : (Cond.code ({ cls := "AddressClaimBusModel", name := "find", desc := "(IIZ)I" } : MethodName) prog_9_method_33_code (5 : Nat) (Option.some FieldType.int)) ∈ zx_T := zx_mem tables_1_4 zx_l4 32 (by decide +kernel) (by decide +kernel)
theorem wd_753 : (Cond.methodLink "AddressClaimBusModel" (179 : Nat) ({ cls := "AddressClaimBusModel", name := "opened", desc := "(IIIIZ)V" } : MethodName)) ∈ zx_T := zx_mem tables_1_4 zx_l4 33 (by decide +kernel) (by decide +kernel)
theorem wd_755 : (Cond.instanceMethod ({ cls := "AddressClaimBusModel", name := "opened", desc := "(IIIIZ)V" } : MethodName)) ∈ zx_T := zx_mem tables_1_4 zx_l4 35 (by decide +kernel) (by decide +kernel)
theorem wd_756 : (Cond.code ({ cls := "AddressClaimBusModel", name := "opened", desc := "(IIIIZ)V" } : MethodName) prog_9_method_35_code (8 : Nat) (Option.none : Option FieldType)) ∈ zx_T := zx_mem tables_1_4 zx_l4 36 (by decide +kernel) (by decide +kernel)
theorem wd_757 : (Cond.methodLink "AddressClaimBusModel" (191 : Nat) ({ cls := "AddressClaimBusModel", name := "close", desc := "(II)V" } : MethodName)) ∈ zx_T := zx_mem tables_1_4 zx_l4 37 (by decide +kernel) (by decide +kernel)
theorem wd_759 : (Cond.instanceMethod ({ cls := "AddressClaimBusModel", name := "close", desc := "(II)V" } : MethodName)) ∈ zx_T := zx_mem tables_1_4 zx_l4 39 (by decide +kernel) (by decide +kernel)
theorem wd_760 : (Cond.code ({ cls := "AddressClaimBusModel", name := "close", desc := "(II)V" } : MethodName) prog_9_method_34_code (5 : Nat) (Option.none : Option FieldType)) ∈ zx_T := zx_mem tables_1_4 zx_l4 40 (by decide +kernel) (by decide +kernel)
theorem wd_761 : (Cond.methodLink "AddressClaimBusModel" (197 : Nat) ({ cls := "AddressClaimBusModel", name := "putAbort", desc := "(IIII)V" } : MethodName)) ∈ zx_T := zx_mem tables_1_4 zx_l4 41 (by decide +kernel) (by decide +kernel)
theorem wd_763 : (Cond.instanceMethod ({ cls := "AddressClaimBusModel", name := "putAbort", desc := "(IIII)V" } : MethodName)) ∈ zx_T := zx_mem tables_1_4 zx_l4 43 (by decide +kernel) (by decide +kernel)
theorem wd_764 : (Cond.code ({ cls := "AddressClaimBusModel", name := "putAbort", desc := "(IIII)V" } : MethodName) prog_9_method_8_code (5 : Nat) (Option.none : Option FieldType)) ∈ zx_T := zx_mem tables_1_4 zx_l4 44 (by decide +kernel) (by decide +kernel)
theorem wd_765 : (Cond.methodLink "AddressClaimBusModel" (122 : Nat) ({ cls := "AddressClaimBusModel", name := "putControl", desc := "(IIIIIII)V" } : MethodName)) ∈ zx_T := zx_mem tables_1_4 zx_l4 45 (by decide +kernel) (by decide +kernel)
theorem wd_767 : (Cond.instanceMethod ({ cls := "AddressClaimBusModel", name := "putControl", desc := "(IIIIIII)V" } : MethodName)) ∈ zx_T := zx_mem tables_1_4 zx_l4 47 (by decide +kernel) (by decide +kernel)
theorem wd_768 : (Cond.code ({ cls := "AddressClaimBusModel", name := "putControl", desc := "(IIIIIII)V" } : MethodName) prog_9_method_7_code (8 : Nat) (Option.none : Option FieldType)) ∈ zx_T := zx_mem tables_1_4 zx_l4 48 (by decide +kernel) (by decide +kernel)
theorem wd_769 : (Cond.constantLong "AddressClaimBusModel" (120 : Nat) (1095216660480 : Int64)) ∈ zx_T := zx_mem tables_1_4 zx_l4 49 (by decide +kernel) (by decide +kernel)
theorem wd_770 : (Cond.methodLink "AddressClaimBusModel" (201 : Nat) ({ cls := "AddressClaimBusModel", name := "grant", desc := "(II)V" } : MethodName)) ∈ zx_T := zx_mem tables_1_4 zx_l4 50 (by decide +kernel) (by decide +kernel)
theorem wd_772 : (Cond.instanceMethod ({ cls := "AddressClaimBusModel", name := "grant", desc := "(II)V" } : MethodName)) ∈ zx_T := zx_mem tables_1_4 zx_l4 52 (by decide +kernel) (by decide +kernel)
theorem wd_773 : (Cond.code ({ cls := "AddressClaimBusModel", name := "grant", desc := "(II)V" } : MethodName) prog_9_method_36_code (5 : Nat) (Option.none : Option FieldType)) ∈ zx_T := zx_mem tables_1_4 zx_l4 53 (by decide +kernel) (by decide +kernel)
theorem wd_774 : (Cond.methodLink "AddressClaimBusModel" (170 : Nat) ({ cls := "AddressClaimBusModel", name := "packets", desc := "(I)I" } : MethodName)) ∈ zx_T := zx_mem tables_1_4 zx_l4 54 (by decide +kernel) (by decide +kernel)
theorem wd_775 : (Cond.static ({ cls := "AddressClaimBusModel", name := "packets", desc := "(I)I" } : MethodName)) ∈ zx_T := zx_mem tables_1_4 zx_l4 55 (by decide +kernel) (by decide +kernel)
theorem wd_776 : (Cond.code ({ cls := "AddressClaimBusModel", name := "packets", desc := "(I)I" } : MethodName) prog_9_method_3_code (1 : Nat) (Option.some FieldType.int)) ∈ zx_T := zx_mem tables_1_4 zx_l4 56 (by decide +kernel) (by decide +kernel)
theorem wd_777 : (Cond.methodLink "AddressClaimBusModel" (183 : Nat) ({ cls := "AddressClaimBusModel", name := "granted", desc := "(III)V" } : MethodName)) ∈ zx_T := zx_mem tables_1_4 zx_l4 57 (by decide +kernel) (by decide +kernel)
theorem wd_779 : (Cond.instanceMethod ({ cls := "AddressClaimBusModel", name := "granted", desc := "(III)V" } : MethodName)) ∈ zx_T := zx_mem tables_1_4 zx_l4 59 (by decide +kernel) (by decide +kernel)
theorem wd_780 : (Cond.code ({ cls := "AddressClaimBusModel", name := "granted", desc := "(III)V" } : MethodName) prog_9_method_32_code (5 : Nat) (Option.none : Option FieldType)) ∈ zx_T := zx_mem tables_1_4 zx_l4 60 (by decide +kernel) (by decide +kernel)
theorem wd_781 : (Cond.methodLink "AddressClaimBusModel" (194 : Nat) ({ cls := "AddressClaimBusModel", name := "putPacket", desc := "(II)V" } : MethodName)) ∈ zx_T := zx_mem tables_1_4 zx_l4 61 (by decide +kernel) (by decide +kernel)
theorem wd_783 : (Cond.instanceMethod ({ cls := "AddressClaimBusModel", name := "putPacket", desc := "(II)V" } : MethodName)) ∈ zx_T := zx_mem tables_1_4 zx_l4 63 (by decide +kernel) (by decide +kernel)
theorem wd_784 : (Cond.code ({ cls := "AddressClaimBusModel", name := "putPacket", desc := "(II)V" } : MethodName) prog_9_method_9_code (9 : Nat) (Option.none : Option FieldType)) ∈ zx_T := zx_mem tables_1_4 zx_l4 64 (by decide +kernel) (by decide +kernel)
theorem wd_785 : (Cond.methodLink "AddressClaimBusModel" (187 : Nat) ({ cls := "AddressClaimBusModel", name := "finish", desc := "(II)V" } : MethodName)) ∈ zx_T := zx_mem tables_1_4 zx_l4 65 (by decide +kernel) (by decide +kernel)
theorem wd_787 : (Cond.instanceMethod ({ cls := "AddressClaimBusModel", name := "finish", desc := "(II)V" } : MethodName)) ∈ zx_T := zx_mem tables_1_4 zx_l4 67 (by decide +kernel) (by decide +kernel)
theorem wd_788 : (Cond.code ({ cls := "AddressClaimBusModel", name := "finish", desc := "(II)V" } : MethodName) prog_9_method_30_code (3 : Nat) (Option.none : Option FieldType)) ∈ zx_T := zx_mem tables_1_4 zx_l4 68 (by decide +kernel) (by decide +kernel)
theorem wd_789 : (Cond.methodLink "AddressClaimBusModel" (150 : Nat) ({ cls := "AddressClaimBusModel", name := "packet", desc := "(IIIJ)V" } : MethodName)) ∈ zx_T := zx_mem tables_1_4 zx_l4 69 (by decide +kernel) (by decide +kernel)
theorem wd_791 : (Cond.instanceMethod ({ cls := "AddressClaimBusModel", name := "packet", desc := "(IIIJ)V" } : MethodName)) ∈ zx_T := zx_mem tables_1_4 zx_l4 71 (by decide +kernel) (by decide +kernel)
theorem wd_792 : (Cond.code ({ cls := "AddressClaimBusModel", name := "packet", desc := "(IIIJ)V" } : MethodName) prog_9_method_38_code (8 : Nat) (Option.none : Option FieldType)) ∈ zx_T := zx_mem tables_1_4 zx_l4 72 (by decide +kernel) (by decide +kernel)
theorem wd_793 : (Cond.methodLink "AddressClaimBusModel" (204 : Nat) ({ cls := "AddressClaimBusModel", name := "keep", desc := "(IIIJ)V" } : MethodName)) ∈ zx_T := zx_mem tables_1_4 zx_l4 73 (by decide +kernel) (by decide +kernel)
theorem wd_795 : (Cond.instanceMethod ({ cls := "AddressClaimBusModel", name := "keep", desc := "(IIIJ)V" } : MethodName)) ∈ zx_T := zx_mem tables_1_4 zx_l4 75 (by decide +kernel) (by decide +kernel)
theorem wd_796 : (Cond.code ({ cls := "AddressClaimBusModel", name := "keep", desc := "(IIIJ)V" } : MethodName) prog_9_method_39_code (8 : Nat) (Option.none : Option FieldType)) ∈ zx_T := zx_mem tables_1_4 zx_l4 76 (by decide +kernel) (by decide +kernel)
theorem wd_797 : (Cond.methodLink "AddressClaimBusModel" (207 : Nat) ({ cls := "AddressClaimBusModel", name := "askAgain", desc := "(III)V" } : MethodName)) ∈ zx_T := zx_mem tables_1_4 zx_l4 77 (by decide +kernel) (by decide +kernel)
theorem wd_799 : (Cond.instanceMethod ({ cls := "AddressClaimBusModel", name := "askAgain", desc := "(III)V" } : MethodName)) ∈ zx_T := zx_mem tables_1_4 zx_l4 79 (by decide +kernel) (by decide +kernel)
theorem wd_800 : (Cond.code ({ cls := "AddressClaimBusModel", name := "askAgain", desc := "(III)V" } : MethodName) prog_9_method_37_code (4 : Nat) (Option.none : Option FieldType)) ∈ zx_T := zx_mem tables_1_4 zx_l4 80 (by decide +kernel) (by decide +kernel)
theorem wd_801 : (Cond.methodLink "AddressClaimBusLaw" (19 : Nat) ({ cls := "AddressClaimBusModel", name := "start", desc := "(IJI)Z" } : MethodName)) ∈ zx_T := zx_mem tables_1_4 zx_l4 81 (by decide +kernel) (by decide +kernel)
theorem wd_802 : (Cond.instanceMethod ({ cls := "AddressClaimBusModel", name := "start", desc := "(IJI)Z" } : MethodName)) ∈ zx_T := zx_mem tables_1_4 zx_l4 82 (by decide +kernel) (by decide +kernel)
theorem wd_803 : (Cond.selects "AddressClaimBusModel" ({ cls := "AddressClaimBusModel", name := "start", desc := "(IJI)Z" } : MethodName) ({ cls := "AddressClaimBusModel", name := "start", desc := "(IJI)Z" } : MethodName)) ∈ zx_T := zx_mem tables_1_4 zx_l4 83 (by decide +kernel) (by decide +kernel)
theorem wd_804 : (Cond.code ({ cls := "AddressClaimBusModel", name := "start", desc := "(IJI)Z" } : MethodName) prog_9_method_19_code (6 : Nat) (Option.some FieldType.boolean)) ∈ zx_T := zx_mem tables_1_4 zx_l4 84 (by decide +kernel) (by decide +kernel)
theorem wd_805 : (Cond.methodLink "AddressClaimBusLaw" (24 : Nat) ({ cls := "AddressClaimBusModel", name := "stop", desc := "(I)Z" } : MethodName)) ∈ zx_T := zx_mem tables_1_4 zx_l4 85 (by decide +kernel) (by decide +kernel)
theorem wd_806 : (Cond.instanceMethod ({ cls := "AddressClaimBusModel", name := "stop", desc := "(I)Z" } : MethodName)) ∈ zx_T := zx_mem tables_1_4 zx_l4 86 (by decide +kernel) (by decide +kernel)
theorem wd_807 : (Cond.selects "AddressClaimBusModel" ({ cls := "AddressClaimBusModel", name := "stop", desc := "(I)Z" } : MethodName) ({ cls := "AddressClaimBusModel", name := "stop", desc := "(I)Z" } : MethodName)) ∈ zx_T := zx_mem tables_1_4 zx_l4 87 (by decide +kernel) (by decide +kernel)
theorem wd_808 : (Cond.code ({ cls := "AddressClaimBusModel", name := "stop", desc := "(I)Z" } : MethodName) prog_9_method_20_code (3 : Nat) (Option.some FieldType.boolean)) ∈ zx_T := zx_mem tables_1_4 zx_l4 88 (by decide +kernel) (by decide +kernel)
theorem wd_809 : (Cond.methodLink "AddressClaimBusModel" (156 : Nat) ({ cls := "AddressClaimBusModel", name := "on", desc := "(I)Z" } : MethodName)) ∈ zx_T := zx_mem tables_1_4 zx_l4 89 (by decide +kernel) (by decide +kernel)
theorem wd_811 : (Cond.instanceMethod ({ cls := "AddressClaimBusModel", name := "on", desc := "(I)Z" } : MethodName)) ∈ zx_T := zx_mem tables_1_4 zx_l4 91 (by decide +kernel) (by decide +kernel)
theorem wd_812 : (Cond.code ({ cls := "AddressClaimBusModel", name := "on", desc := "(I)Z" } : MethodName) prog_9_method_2_code (2 : Nat) (Option.some FieldType.boolean)) ∈ zx_T := zx_mem tables_1_4 zx_l4 92 (by decide +kernel) (by decide +kernel)
theorem wd_813 : (Cond.methodLink "AddressClaimBusLaw" (29 : Nat) ({ cls := "AddressClaimBusModel", name := "busy", desc := "(IZ)Z" } : MethodName)) ∈ zx_T := zx_mem tables_1_4 zx_l4 93 (by decide +kernel) (by decide +kernel)
theorem wd_814 : (Cond.instanceMethod ({ cls := "AddressClaimBusModel", name := "busy", desc := "(IZ)Z" } : MethodName)) ∈ zx_T := zx_mem tables_1_4 zx_l4 94 (by decide +kernel) (by decide +kernel)
theorem wd_815 : (Cond.selects "AddressClaimBusModel" ({ cls := "AddressClaimBusModel", name := "busy", desc := "(IZ)Z" } : MethodName) ({ cls := "AddressClaimBusModel", name := "busy", desc := "(IZ)Z" } : MethodName)) ∈ zx_T := zx_mem tables_1_4 zx_l4 95 (by decide +kernel) (by decide +kernel)
theorem wd_816 : (Cond.code ({ cls := "AddressClaimBusModel", name := "busy", desc := "(IZ)Z" } : MethodName) prog_9_method_21_code (3 : Nat) (Option.some FieldType.boolean)) ∈ zx_T := zx_mem tables_1_4 zx_l4 96 (by decide +kernel) (by decide +kernel)
theorem wd_817 : (Cond.methodLink "AddressClaimBusLaw" (34 : Nat) ({ cls := "AddressClaimBusModel", name := "state", desc := "(I)I" } : MethodName)) ∈ zx_T := zx_mem tables_1_4 zx_l4 97 (by decide +kernel) (by decide +kernel)
theorem wd_818 : (Cond.instanceMethod ({ cls := "AddressClaimBusModel", name := "state", desc := "(I)I" } : MethodName)) ∈ zx_T := zx_mem tables_1_4 zx_l4 98 (by decide +kernel) (by decide +kernel)
theorem wd_819 : (Cond.selects "AddressClaimBusModel" ({ cls := "AddressClaimBusModel", name := "state", desc := "(I)I" } : MethodName) ({ cls := "AddressClaimBusModel", name := "state", desc := "(I)I" } : MethodName)) ∈ zx_T := zx_mem tables_1_4 zx_l4 99 (by decide +kernel) (by decide +kernel)
theorem wd_820 : (Cond.code ({ cls := "AddressClaimBusModel", name := "state", desc := "(I)I" } : MethodName) prog_9_method_22_code (2 : Nat) (Option.some FieldType.int)) ∈ zx_T := zx_mem tables_1_4 zx_l4 100 (by decide +kernel) (by decide +kernel)
theorem wd_821 : (Cond.methodLink "AddressClaimBusLaw" (38 : Nat) ({ cls := "AddressClaimBusModel", name := "address", desc := "(I)I" } : MethodName)) ∈ zx_T := zx_mem tables_1_4 zx_l4 101 (by decide +kernel) (by decide +kernel)
theorem wd_822 : (Cond.instanceMethod ({ cls := "AddressClaimBusModel", name := "address", desc := "(I)I" } : MethodName)) ∈ zx_T := zx_mem tables_1_4 zx_l4 102 (by decide +kernel) (by decide +kernel)
theorem wd_823 : (Cond.selects "AddressClaimBusModel" ({ cls := "AddressClaimBusModel", name := "address", desc := "(I)I" } : MethodName) ({ cls := "AddressClaimBusModel", name := "address", desc := "(I)I" } : MethodName)) ∈ zx_T := zx_mem tables_1_4 zx_l4 103 (by decide +kernel) (by decide +kernel)
theorem wd_824 : (Cond.code ({ cls := "AddressClaimBusModel", name := "address", desc := "(I)I" } : MethodName) prog_9_method_23_code (2 : Nat) (Option.some FieldType.int)) ∈ zx_T := zx_mem tables_1_4 zx_l4 104 (by decide +kernel) (by decide +kernel)
theorem wd_825 : (Cond.methodLink "AddressClaimBusLaw" (43 : Nat) ({ cls := "AddressClaimBusModel", name := "noted", desc := "(II)I" } : MethodName)) ∈ zx_T := zx_mem tables_1_4 zx_l4 105 (by decide +kernel) (by decide +kernel)
theorem wd_826 : (Cond.instanceMethod ({ cls := "AddressClaimBusModel", name := "noted", desc := "(II)I" } : MethodName)) ∈ zx_T := zx_mem tables_1_4 zx_l4 106 (by decide +kernel) (by decide +kernel)
theorem wd_827 : (Cond.selects "AddressClaimBusModel" ({ cls := "AddressClaimBusModel", name := "noted", desc := "(II)I" } : MethodName) ({ cls := "AddressClaimBusModel", name := "noted", desc := "(II)I" } : MethodName)) ∈ zx_T := zx_mem tables_1_4 zx_l4 107 (by decide +kernel) (by decide +kernel)
theorem wd_828 : (Cond.code ({ cls := "AddressClaimBusModel", name := "noted", desc := "(II)I" } : MethodName) prog_9_method_24_code (3 : Nat) (Option.some FieldType.int)) ∈ zx_T := zx_mem tables_1_4 zx_l4 108 (by decide +kernel) (by decide +kernel)
theorem wd_829 : (Cond.methodLink "AddressClaimBusLaw" (47 : Nat) ({ cls := "AddressClaimBusModel", name := "request", desc := "(I)Z" } : MethodName)) ∈ zx_T := zx_mem tables_1_4 zx_l4 109 (by decide +kernel) (by decide +kernel)
theorem wd_830 : (Cond.instanceMethod ({ cls := "AddressClaimBusModel", name := "request", desc := "(I)Z" } : MethodName)) ∈ zx_T := zx_mem tables_1_4 zx_l4 110 (by decide +kernel) (by decide +kernel)
theorem wd_831 : (Cond.selects "AddressClaimBusModel" ({ cls := "AddressClaimBusModel", name := "request", desc := "(I)Z" } : MethodName) ({ cls := "AddressClaimBusModel", name := "request", desc := "(I)Z" } : MethodName)) ∈ zx_T := zx_mem tables_1_4 zx_l4 111 (by decide +kernel) (by decide +kernel)
theorem wd_832 : (Cond.code ({ cls := "AddressClaimBusModel", name := "request", desc := "(I)Z" } : MethodName) prog_9_method_25_code (2 : Nat) (Option.some FieldType.boolean)) ∈ zx_T := zx_mem tables_1_4 zx_l4 112 (by decide +kernel) (by decide +kernel)
theorem wd_833 : (Cond.constantLong "AddressClaimBusModel" (160 : Nat) (60928 : Int64)) ∈ zx_T := zx_mem tables_1_4 zx_l4 113 (by decide +kernel) (by decide +kernel)
theorem wd_834 : (Cond.methodLink "AddressClaimBusLaw" (52 : Nat) ({ cls := "AddressClaimBusModel", name := "send", desc := "(IIIIJ)Z" } : MethodName)) ∈ zx_T := zx_mem tables_1_4 zx_l4 114 (by decide +kernel) (by decide +kernel)
theorem wd_835 : (Cond.instanceMethod ({ cls := "AddressClaimBusModel", name := "send", desc := "(IIIIJ)Z" } : MethodName)) ∈ zx_T := zx_mem tables_1_4 zx_l4 115 (by decide +kernel) (by decide +kernel)
theorem wd_836 : (Cond.selects "AddressClaimBusModel" ({ cls := "AddressClaimBusModel", name := "send", desc := "(IIIIJ)Z" } : MethodName) ({ cls := "AddressClaimBusModel", name := "send", desc := "(IIIIJ)Z" } : MethodName)) ∈ zx_T := zx_mem tables_1_4 zx_l4 116 (by decide +kernel) (by decide +kernel)
theorem wd_837 : (Cond.code ({ cls := "AddressClaimBusModel", name := "send", desc := "(IIIIJ)Z" } : MethodName) prog_9_method_29_code (8 : Nat) (Option.some FieldType.boolean)) ∈ zx_T := zx_mem tables_1_4 zx_l4 117 (by decide +kernel) (by decide +kernel)
theorem wd_838 : (Cond.constant "AddressClaimBusModel" (169 : Nat) (262143 : Int32)) ∈ zx_T := zx_mem tables_1_4 zx_l4 118 (by decide +kernel) (by decide +kernel)
theorem wd_839 : (Cond.methodLink "AddressClaimBusLaw" (84 : Nat) ({ cls := "AddressClaimBusModel", name := "tick", desc := "(I)I" } : MethodName)) ∈ zx_T := zx_mem tables_1_4 zx_l4 119 (by decide +kernel) (by decide +kernel)
theorem wd_840 : (Cond.instanceMethod ({ cls := "AddressClaimBusModel", name := "tick", desc := "(I)I" } : MethodName)) ∈ zx_T := zx_mem tables_1_4 zx_l4 120 (by decide +kernel) (by decide +kernel)
theorem wd_841 : (Cond.selects "AddressClaimBusModel" ({ cls := "AddressClaimBusModel", name := "tick", desc := "(I)I" } : MethodName) ({ cls := "AddressClaimBusModel", name := "tick", desc := "(I)I" } : MethodName)) ∈ zx_T := zx_mem tables_1_4 zx_l4 121 (by decide +kernel) (by decide +kernel)
theorem wd_842 : (Cond.code ({ cls := "AddressClaimBusModel", name := "tick", desc := "(I)I" } : MethodName) prog_9_method_43_code (6 : Nat) (Option.some FieldType.int)) ∈ zx_T := zx_mem tables_1_4 zx_l4 122 (by decide +kernel) (by decide +kernel)
theorem wd_843 : (Cond.methodLink "AddressClaimBusModel" (213 : Nat) ({ cls := "AddressClaimBusModel", name := "due", desc := "(I)I" } : MethodName)) ∈ zx_T := zx_mem tables_1_4 zx_l4 123 (by decide +kernel) (by decide +kernel)
theorem wd_845 : (Cond.instanceMethod ({ cls := "AddressClaimBusModel", name := "due", desc := "(I)I" } : MethodName)) ∈ zx_T := zx_mem tables_1_4 zx_l4 125 (by decide +kernel) (by decide +kernel)
theorem wd_846 : (Cond.code ({ cls := "AddressClaimBusModel", name := "due", desc := "(I)I" } : MethodName) prog_9_method_40_code (4 : Nat) (Option.some FieldType.int)) ∈ zx_T := zx_mem tables_1_4 zx_l4 126 (by decide +kernel) (by decide +kernel)
theorem wd_847 : (Cond.methodLink "AddressClaimBusModel" (216 : Nat) ({ cls := "AddressClaimBusModel", name := "goOff", desc := "(I)V" } : MethodName)) ∈ zx_T := zx_mem tables_1_4 zx_l4 127 (by decide +kernel) (by decide +kernel)
theorem wd_849 : (Cond.instanceMethod ({ cls := "AddressClaimBusModel", name := "goOff", desc := "(I)V" } : MethodName)) ∈ zx_T := zx_mem tables_1_4 zx_l4 129 (by decide +kernel) (by decide +kernel)
theorem wd_850 : (Cond.code ({ cls := "AddressClaimBusModel", name := "goOff", desc := "(I)V" } : MethodName) prog_9_method_41_code (5 : Nat) (Option.none : Option FieldType)) ∈ zx_T := zx_mem tables_1_4 zx_l4 130 (by decide +kernel) (by decide +kernel)
theorem wd_851 : (Cond.methodLink "AddressClaimBusModel" (210 : Nat) ({ cls := "AddressClaimBusModel", name := "outgoingOff", desc := "(I)V" } : MethodName)) ∈ zx_T := zx_mem tables_1_4 zx_l4 131 (by decide +kernel) (by decide +kernel)
theorem wd_853 : (Cond.instanceMethod ({ cls := "AddressClaimBusModel", name := "outgoingOff", desc := "(I)V" } : MethodName)) ∈ zx_T := zx_mem tables_1_4 zx_l4 133 (by decide +kernel) (by decide +kernel)
theorem wd_854 : (Cond.code ({ cls := "AddressClaimBusModel", name := "outgoingOff", desc := "(I)V" } : MethodName) prog_9_method_42_code (2 : Nat) (Option.none : Option FieldType)) ∈ zx_T := zx_mem tables_1_4 zx_l4 134 (by decide +kernel) (by decide +kernel)
theorem wd_855 : (Cond.methodLink "AddressClaimBusLaw" (88 : Nat) ({ cls := "AddressClaimBusModel", name := "outgoing", desc := "(I)I" } : MethodName)) ∈ zx_T := zx_mem tables_1_4 zx_l4 135 (by decide +kernel) (by decide +kernel)
theorem wd_856 : (Cond.instanceMethod ({ cls := "AddressClaimBusModel", name := "outgoing", desc := "(I)I" } : MethodName)) ∈ zx_T := zx_mem tables_1_4 zx_l4 136 (by decide +kernel) (by decide +kernel)
theorem wd_857 : (Cond.selects "AddressClaimBusModel" ({ cls := "AddressClaimBusModel", name := "outgoing", desc := "(I)I" } : MethodName) ({ cls := "AddressClaimBusModel", name := "outgoing", desc := "(I)I" } : MethodName)) ∈ zx_T := zx_mem tables_1_4 zx_l4 137 (by decide +kernel) (by decide +kernel)
theorem wd_858 : (Cond.code ({ cls := "AddressClaimBusModel", name := "outgoing", desc := "(I)I" } : MethodName) prog_9_method_44_code (2 : Nat) (Option.some FieldType.int)) ∈ zx_T := zx_mem tables_1_4 zx_l4 138 (by decide +kernel) (by decide +kernel)
theorem wd_859 : (Cond.methodLink "AddressClaimBusLaw" (92 : Nat) ({ cls := "AddressClaimBusModel", name := "incoming", desc := "(I)I" } : MethodName)) ∈ zx_T := zx_mem tables_1_4 zx_l4 139 (by decide +kernel) (by decide +kernel)
theorem wd_860 : (Cond.instanceMethod ({ cls := "AddressClaimBusModel", name := "incoming", desc := "(I)I" } : MethodName)) ∈ zx_T := zx_mem tables_1_4 zx_l4 140 (by decide +kernel) (by decide +kernel)
theorem wd_861 : (Cond.selects "AddressClaimBusModel" ({ cls := "AddressClaimBusModel", name := "incoming", desc := "(I)I" } : MethodName) ({ cls := "AddressClaimBusModel", name := "incoming", desc := "(I)I" } : MethodName)) ∈ zx_T := zx_mem tables_1_4 zx_l4 141 (by decide +kernel) (by decide +kernel)
theorem wd_862 : (Cond.code ({ cls := "AddressClaimBusModel", name := "incoming", desc := "(I)I" } : MethodName) prog_9_method_45_code (2 : Nat) (Option.some FieldType.int)) ∈ zx_T := zx_mem tables_1_4 zx_l4 142 (by decide +kernel) (by decide +kernel)
theorem wd_863 : (Cond.methodLink "AddressClaimBusLaw" (96 : Nat) ({ cls := "AddressClaimBusModel", name := "delivered", desc := "(I)I" } : MethodName)) ∈ zx_T := zx_mem tables_1_4 zx_l4 143 (by decide +kernel) (by decide +kernel)
theorem wd_864 : (Cond.instanceMethod ({ cls := "AddressClaimBusModel", name := "delivered", desc := "(I)I" } : MethodName)) ∈ zx_T := zx_mem tables_1_4 zx_l4 144 (by decide +kernel) (by decide +kernel)
theorem wd_865 : (Cond.selects "AddressClaimBusModel" ({ cls := "AddressClaimBusModel", name := "delivered", desc := "(I)I" } : MethodName) ({ cls := "AddressClaimBusModel", name := "delivered", desc := "(I)I" } : MethodName)) ∈ zx_T := zx_mem tables_1_4 zx_l4 145 (by decide +kernel) (by decide +kernel)
theorem wd_866 : (Cond.code ({ cls := "AddressClaimBusModel", name := "delivered", desc := "(I)I" } : MethodName) prog_9_method_46_code (2 : Nat) (Option.some FieldType.int)) ∈ zx_T := zx_mem tables_1_4 zx_l4 146 (by decide +kernel) (by decide +kernel)
theorem wd_867 : (Cond.methodLink "AddressClaimBusLaw" (100 : Nat) ({ cls := "AddressClaimBusModel", name := "message", desc := "(II)I" } : MethodName)) ∈ zx_T := zx_mem tables_1_4 zx_l4 147 (by decide +kernel) (by decide +kernel)
theorem wd_868 : (Cond.instanceMethod ({ cls := "AddressClaimBusModel", name := "message", desc := "(II)I" } : MethodName)) ∈ zx_T := zx_mem tables_1_4 zx_l4 148 (by decide +kernel) (by decide +kernel)
theorem wd_869 : (Cond.selects "AddressClaimBusModel" ({ cls := "AddressClaimBusModel", name := "message", desc := "(II)I" } : MethodName) ({ cls := "AddressClaimBusModel", name := "message", desc := "(II)I" } : MethodName)) ∈ zx_T := zx_mem tables_1_4 zx_l4 149 (by decide +kernel) (by decide +kernel)
theorem wd_870 : (Cond.code ({ cls := "AddressClaimBusModel", name := "message", desc := "(II)I" } : MethodName) prog_9_method_47_code (3 : Nat) (Option.some FieldType.int)) ∈ zx_T := zx_mem tables_1_4 zx_l4 150 (by decide +kernel) (by decide +kernel)
theorem wd_871 : (Cond.methodLink "AddressClaimBusLaw" (104 : Nat) ({ cls := "AddressClaimBusModel", name := "byteOf", desc := "(II)I" } : MethodName)) ∈ zx_T := zx_mem tables_1_4 zx_l4 151 (by decide +kernel) (by decide +kernel)
theorem wd_872 : (Cond.instanceMethod ({ cls := "AddressClaimBusModel", name := "byteOf", desc := "(II)I" } : MethodName)) ∈ zx_T := zx_mem tables_1_4 zx_l4 152 (by decide +kernel) (by decide +kernel)
theorem wd_873 : (Cond.selects "AddressClaimBusModel" ({ cls := "AddressClaimBusModel", name := "byteOf", desc := "(II)I" } : MethodName) ({ cls := "AddressClaimBusModel", name := "byteOf", desc := "(II)I" } : MethodName)) ∈ zx_T := zx_mem tables_1_4 zx_l4 153 (by decide +kernel) (by decide +kernel)
theorem wd_874 : (Cond.code ({ cls := "AddressClaimBusModel", name := "byteOf", desc := "(II)I" } : MethodName) prog_9_method_48_code (3 : Nat) (Option.some FieldType.int)) ∈ zx_T := zx_mem tables_1_4 zx_l4 154 (by decide +kernel) (by decide +kernel)
theorem wd_875 : (Cond.constantLong "AddressClaimBusLaw" (13 : Nat) (4294967295 : Int64)) ∈ zx_T := zx_mem tables_1_4 zx_l4 155 (by decide +kernel) (by decide +kernel)
theorem wp_0 : (Cond.selects "AddressClaimBus" ({ cls := "AddressClaimBus", name := "isFunction", desc := "(I)Z" } : MethodName) ({ cls := "AddressClaimBus", name := "isFunction", desc := "(I)Z" } : MethodName)) ∈ zx_T := zx_mems 0 (by decide +kernel) (by decide +kernel)
theorem wp_1 : (Cond.selects "AddressClaimBus" ({ cls := "AddressClaimBus", name := "isOn", desc := "(I)Z" } : MethodName) ({ cls := "AddressClaimBus", name := "isOn", desc := "(I)Z" } : MethodName)) ∈ zx_T := zx_mems 1 (by decide +kernel) (by decide +kernel)
theorem wp_2 : (Cond.selects "AddressClaimBus" ({ cls := "AddressClaimBus", name := "isNameTaken", desc := "(J)Z" } : MethodName) ({ cls := "AddressClaimBus", name := "isNameTaken", desc := "(J)Z" } : MethodName)) ∈ zx_T := zx_mems 2 (by decide +kernel) (by decide +kernel)
theorem wp_3 : (Cond.selects "AddressClaimBus$Function" ({ cls := "AddressClaimBus$Function", name := "claim", desc := "(I)V" } : MethodName) ({ cls := "AddressClaimBus$Function", name := "claim", desc := "(I)V" } : MethodName)) ∈ zx_T := zx_mems 3 (by decide +kernel) (by decide +kernel)
theorem wp_4 : (Cond.selects "AddressClaimBus$Function" ({ cls := "AddressClaimBus$Function", name := "sendClaim", desc := "()V" } : MethodName) ({ cls := "AddressClaimBus$Function", name := "sendClaim", desc := "()V" } : MethodName)) ∈ zx_T := zx_mems 4 (by decide +kernel) (by decide +kernel)
theorem wp_5 : (Cond.selects "AddressClaimBus$Function" ({ cls := "AddressClaimBus$Function", name := "endSessions", desc := "()V" } : MethodName) ({ cls := "AddressClaimBus$Function", name := "endSessions", desc := "()V" } : MethodName)) ∈ zx_T := zx_mems 5 (by decide +kernel) (by decide +kernel)
theorem wp_6 : (Cond.selects "AddressClaimBus$Bus" ({ cls := "AddressClaimBus$Bus", name := "move", desc := "(II)V" } : MethodName) ({ cls := "AddressClaimBus$Bus", name := "move", desc := "(II)V" } : MethodName)) ∈ zx_T := zx_mems 6 (by decide +kernel) (by decide +kernel)
theorem wp_7 : (Cond.selects "AddressClaimBus$Function" ({ cls := "AddressClaimBus$Function", name := "takeClaim", desc := "(IIJ)V" } : MethodName) ({ cls := "AddressClaimBus$Function", name := "takeClaim", desc := "(IIJ)V" } : MethodName)) ∈ zx_T := zx_mems 7 (by decide +kernel) (by decide +kernel)
theorem wp_8 : (Cond.selects "AddressClaimBus$Function" ({ cls := "AddressClaimBus$Function", name := "isNameLessThan", desc := "(J)Z" } : MethodName) ({ cls := "AddressClaimBus$Function", name := "isNameLessThan", desc := "(J)Z" } : MethodName)) ∈ zx_T := zx_mems 8 (by decide +kernel) (by decide +kernel)
theorem wp_9 : (Cond.selects "AddressClaimBus$Function" ({ cls := "AddressClaimBus$Function", name := "loseAddress", desc := "()V" } : MethodName) ({ cls := "AddressClaimBus$Function", name := "loseAddress", desc := "()V" } : MethodName)) ∈ zx_T := zx_mems 9 (by decide +kernel) (by decide +kernel)
theorem wp_10 : (Cond.selects "AddressClaimBus$Function" ({ cls := "AddressClaimBus$Function", name := "spareAddress", desc := "()I" } : MethodName) ({ cls := "AddressClaimBus$Function", name := "spareAddress", desc := "()I" } : MethodName)) ∈ zx_T := zx_mems 10 (by decide +kernel) (by decide +kernel)
theorem wp_11 : (Cond.selects "AddressClaimBus$Function" ({ cls := "AddressClaimBus$Function", name := "isNoted", desc := "(I)Z" } : MethodName) ({ cls := "AddressClaimBus$Function", name := "isNoted", desc := "(I)Z" } : MethodName)) ∈ zx_T := zx_mems 11 (by decide +kernel) (by decide +kernel)
theorem wp_12 : (Cond.selects "AddressClaimBus$Function" ({ cls := "AddressClaimBus$Function", name := "takeControl", desc := "(IJ)V" } : MethodName) ({ cls := "AddressClaimBus$Function", name := "takeControl", desc := "(IJ)V" } : MethodName)) ∈ zx_T := zx_mems 12 (by decide +kernel) (by decide +kernel)
theorem wp_13 : (Cond.selects "AddressClaimBus$Function" ({ cls := "AddressClaimBus$Function", name := "takeOpening", desc := "(IIJZ)V" } : MethodName) ({ cls := "AddressClaimBus$Function", name := "takeOpening", desc := "(IIJZ)V" } : MethodName)) ∈ zx_T := zx_mems 13 (by decide +kernel) (by decide +kernel)
theorem wp_14 : (Cond.selects "AddressClaimBus$Function" ({ cls := "AddressClaimBus$Function", name := "roomForIncoming", desc := "()LAddressClaimBus$Incoming;" } : MethodName) ({ cls := "AddressClaimBus$Function", name := "roomForIncoming", desc := "()LAddressClaimBus$Incoming;" } : MethodName)) ∈ zx_T := zx_mems 14 (by decide +kernel) (by decide +kernel)
theorem wp_15 : (Cond.selects "AddressClaimBus$Incoming" ({ cls := "AddressClaimBus$Incoming", name := "grant", desc := "()V" } : MethodName) ({ cls := "AddressClaimBus$Incoming", name := "grant", desc := "()V" } : MethodName)) ∈ zx_T := zx_mems 15 (by decide +kernel) (by decide +kernel)
theorem wp_16 : (Cond.selects "AddressClaimBus$Outgoing" ({ cls := "AddressClaimBus$Outgoing", name := "sendPacket", desc := "(I)V" } : MethodName) ({ cls := "AddressClaimBus$Outgoing", name := "sendPacket", desc := "(I)V" } : MethodName)) ∈ zx_T := zx_mems 16 (by decide +kernel) (by decide +kernel)
theorem wp_17 : (Cond.selects "AddressClaimBus$Function" ({ cls := "AddressClaimBus$Function", name := "abortIncoming", desc := "(II)V" } : MethodName) ({ cls := "AddressClaimBus$Function", name := "abortIncoming", desc := "(II)V" } : MethodName)) ∈ zx_T := zx_mems 17 (by decide +kernel) (by decide +kernel)
theorem wp_18 : (Cond.selects "AddressClaimBus$Function" ({ cls := "AddressClaimBus$Function", name := "takePacket", desc := "(IZJ)V" } : MethodName) ({ cls := "AddressClaimBus$Function", name := "takePacket", desc := "(IZJ)V" } : MethodName)) ∈ zx_T := zx_mems 18 (by decide +kernel) (by decide +kernel)
theorem wp_19 : (Cond.selects "AddressClaimBus$Incoming" ({ cls := "AddressClaimBus$Incoming", name := "keepExpected", desc := "(J)V" } : MethodName) ({ cls := "AddressClaimBus$Incoming", name := "keepExpected", desc := "(J)V" } : MethodName)) ∈ zx_T := zx_mems 19 (by decide +kernel) (by decide +kernel)
theorem wp_20 : (Cond.selects "AddressClaimBus$Incoming" ({ cls := "AddressClaimBus$Incoming", name := "isWhole", desc := "()Z" } : MethodName) ({ cls := "AddressClaimBus$Incoming", name := "isWhole", desc := "()Z" } : MethodName)) ∈ zx_T := zx_mems 20 (by decide +kernel) (by decide +kernel)
theorem wp_21 : (Cond.selects "AddressClaimBus$Incoming" ({ cls := "AddressClaimBus$Incoming", name := "askAgain", desc := "(I)V" } : MethodName) ({ cls := "AddressClaimBus$Incoming", name := "askAgain", desc := "(I)V" } : MethodName)) ∈ zx_T := zx_mems 21 (by decide +kernel) (by decide +kernel)
theorem wp_22 : (Cond.selects "AddressClaimBus" ({ cls := "AddressClaimBus", name := "firstDue", desc := "()I" } : MethodName) ({ cls := "AddressClaimBus", name := "firstDue", desc := "()I" } : MethodName)) ∈ zx_T := zx_mems 22 (by decide +kernel) (by decide +kernel)
theorem wp_23 : (Cond.selects "AddressClaimBus$Outgoing" ({ cls := "AddressClaimBus$Outgoing", name := "sendNextToAll", desc := "()V" } : MethodName) ({ cls := "AddressClaimBus$Outgoing", name := "sendNextToAll", desc := "()V" } : MethodName)) ∈ zx_T := zx_mems 23 (by decide +kernel) (by decide +kernel)
theorem wp_24 : (Cond.selects "AddressClaimBus" ({ cls := "AddressClaimBus", name := "hasMessage", desc := "(I)Z" } : MethodName) ({ cls := "AddressClaimBus", name := "hasMessage", desc := "(I)Z" } : MethodName)) ∈ zx_T := zx_mems 24 (by decide +kernel) (by decide +kernel)
theorem wp_25 : (Cond.selects "AddressClaimBusModel" ({ cls := "AddressClaimBusModel", name := "next", desc := "()I" } : MethodName) ({ cls := "AddressClaimBusModel", name := "next", desc := "()I" } : MethodName)) ∈ zx_T := zx_mems 25 (by decide +kernel) (by decide +kernel)
theorem wp_26 : (Cond.selects "AddressClaimBusModel" ({ cls := "AddressClaimBusModel", name := "takeAway", desc := "(I)V" } : MethodName) ({ cls := "AddressClaimBusModel", name := "takeAway", desc := "(I)V" } : MethodName)) ∈ zx_T := zx_mems 26 (by decide +kernel) (by decide +kernel)
theorem wp_27 : (Cond.selects "AddressClaimBusModel" ({ cls := "AddressClaimBusModel", name := "reach", desc := "(IIIIIJ)V" } : MethodName) ({ cls := "AddressClaimBusModel", name := "reach", desc := "(IIIIIJ)V" } : MethodName)) ∈ zx_T := zx_mems 27 (by decide +kernel) (by decide +kernel)
theorem wp_28 : (Cond.selects "AddressClaimBusModel" ({ cls := "AddressClaimBusModel", name := "claimed", desc := "(IIIJ)V" } : MethodName) ({ cls := "AddressClaimBusModel", name := "claimed", desc := "(IIIJ)V" } : MethodName)) ∈ zx_T := zx_mems 28 (by decide +kernel) (by decide +kernel)
theorem wp_29 : (Cond.selects "AddressClaimBusModel" ({ cls := "AddressClaimBusModel", name := "spare", desc := "(I)I" } : MethodName) ({ cls := "AddressClaimBusModel", name := "spare", desc := "(I)I" } : MethodName)) ∈ zx_T := zx_mems 29 (by decide +kernel) (by decide +kernel)
theorem wp_30 : (Cond.selects "AddressClaimBusModel" ({ cls := "AddressClaimBusModel", name := "putClaim", desc := "(I)V" } : MethodName) ({ cls := "AddressClaimBusModel", name := "putClaim", desc := "(I)V" } : MethodName)) ∈ zx_T := zx_mems 30 (by decide +kernel) (by decide +kernel)
theorem wp_31 : (Cond.selects "AddressClaimBusModel" ({ cls := "AddressClaimBusModel", name := "put", desc := "(IIIIJ)V" } : MethodName) ({ cls := "AddressClaimBusModel", name := "put", desc := "(IIIIJ)V" } : MethodName)) ∈ zx_T := zx_mems 31 (by decide +kernel) (by decide +kernel)
theorem wp_32 : (Cond.selects "AddressClaimBusModel" ({ cls := "AddressClaimBusModel", name := "source", desc := "(I)I" } : MethodName) ({ cls := "AddressClaimBusModel", name := "source", desc := "(I)I" } : MethodName)) ∈ zx_T := zx_mems 32 (by decide +kernel) (by decide +kernel)
theorem wp_33 : (Cond.selects "AddressClaimBusModel" ({ cls := "AddressClaimBusModel", name := "control", desc := "(IIIJ)V" } : MethodName) ({ cls := "AddressClaimBusModel", name := "control", desc := "(IIIJ)V" } : MethodName)) ∈ zx_T := zx_mems 33 (by decide +kernel) (by decide +kernel)
theorem wp_34 : (Cond.selects "AddressClaimBusModel" ({ cls := "AddressClaimBusModel", name := "find", desc := "(IIZ)I" } : MethodName) ({ cls := "AddressClaimBusModel", name := "find", desc := "(IIZ)I" } : MethodName)) ∈ zx_T := zx_mems 34 (by decide +kernel) (by decide +kernel)
theorem wp_35 : (Cond.selects "AddressClaimBusModel" ({ cls := "AddressClaimBusModel", name := "opened", desc := "(IIIIZ)V" } : MethodName) ({ cls := "AddressClaimBusModel", name := "opened", desc := "(IIIIZ)V" } : MethodName)) ∈ zx_T := zx_mems 35 (by decide +kernel) (by decide +kernel)
theorem wp_36 : (Cond.selects "AddressClaimBusModel" ({ cls := "AddressClaimBusModel", name := "close", desc := "(II)V" } : MethodName) ({ cls := "AddressClaimBusModel", name := "close", desc := "(II)V" } : MethodName)) ∈ zx_T := zx_mems 36 (by decide +kernel) (by decide +kernel)
theorem wp_37 : (Cond.selects "AddressClaimBusModel" ({ cls := "AddressClaimBusModel", name := "putAbort", desc := "(IIII)V" } : MethodName) ({ cls := "AddressClaimBusModel", name := "putAbort", desc := "(IIII)V" } : MethodName)) ∈ zx_T := zx_mems 37 (by decide +kernel) (by decide +kernel)
theorem wp_38 : (Cond.selects "AddressClaimBusModel" ({ cls := "AddressClaimBusModel", name := "putControl", desc := "(IIIIIII)V" } : MethodName) ({ cls := "AddressClaimBusModel", name := "putControl", desc := "(IIIIIII)V" } : MethodName)) ∈ zx_T := zx_mems 38 (by decide +kernel) (by decide +kernel)
theorem wp_39 : (Cond.selects "AddressClaimBusModel" ({ cls := "AddressClaimBusModel", name := "grant", desc := "(II)V" } : MethodName) ({ cls := "AddressClaimBusModel", name := "grant", desc := "(II)V" } : MethodName)) ∈ zx_T := zx_mems 39 (by decide +kernel) (by decide +kernel)
theorem wp_40 : (Cond.selects "AddressClaimBusModel" ({ cls := "AddressClaimBusModel", name := "granted", desc := "(III)V" } : MethodName) ({ cls := "AddressClaimBusModel", name := "granted", desc := "(III)V" } : MethodName)) ∈ zx_T := zx_mems 40 (by decide +kernel) (by decide +kernel)
theorem wp_41 : (Cond.selects "AddressClaimBusModel" ({ cls := "AddressClaimBusModel", name := "putPacket", desc := "(II)V" } : MethodName) ({ cls := "AddressClaimBusModel", name := "putPacket", desc := "(II)V" } : MethodName)) ∈ zx_T := zx_mems 41 (by decide +kernel) (by decide +kernel)
theorem wp_42 : (Cond.selects "AddressClaimBusModel" ({ cls := "AddressClaimBusModel", name := "finish", desc := "(II)V" } : MethodName) ({ cls := "AddressClaimBusModel", name := "finish", desc := "(II)V" } : MethodName)) ∈ zx_T := zx_mems 42 (by decide +kernel) (by decide +kernel)
theorem wp_43 : (Cond.selects "AddressClaimBusModel" ({ cls := "AddressClaimBusModel", name := "packet", desc := "(IIIJ)V" } : MethodName) ({ cls := "AddressClaimBusModel", name := "packet", desc := "(IIIJ)V" } : MethodName)) ∈ zx_T := zx_mems 43 (by decide +kernel) (by decide +kernel)
theorem wp_44 : (Cond.selects "AddressClaimBusModel" ({ cls := "AddressClaimBusModel", name := "keep", desc := "(IIIJ)V" } : MethodName) ({ cls := "AddressClaimBusModel", name := "keep", desc := "(IIIJ)V" } : MethodName)) ∈ zx_T := zx_mems 44 (by decide +kernel) (by decide +kernel)
theorem wp_45 : (Cond.selects "AddressClaimBusModel" ({ cls := "AddressClaimBusModel", name := "askAgain", desc := "(III)V" } : MethodName) ({ cls := "AddressClaimBusModel", name := "askAgain", desc := "(III)V" } : MethodName)) ∈ zx_T := zx_mems 45 (by decide +kernel) (by decide +kernel)
theorem wp_46 : (Cond.selects "AddressClaimBusModel" ({ cls := "AddressClaimBusModel", name := "on", desc := "(I)Z" } : MethodName) ({ cls := "AddressClaimBusModel", name := "on", desc := "(I)Z" } : MethodName)) ∈ zx_T := zx_mems 46 (by decide +kernel) (by decide +kernel)
theorem wp_47 : (Cond.selects "AddressClaimBusModel" ({ cls := "AddressClaimBusModel", name := "due", desc := "(I)I" } : MethodName) ({ cls := "AddressClaimBusModel", name := "due", desc := "(I)I" } : MethodName)) ∈ zx_T := zx_mems 47 (by decide +kernel) (by decide +kernel)
theorem wp_48 : (Cond.selects "AddressClaimBusModel" ({ cls := "AddressClaimBusModel", name := "goOff", desc := "(I)V" } : MethodName) ({ cls := "AddressClaimBusModel", name := "goOff", desc := "(I)V" } : MethodName)) ∈ zx_T := zx_mems 48 (by decide +kernel) (by decide +kernel)
theorem wp_49 : (Cond.selects "AddressClaimBusModel" ({ cls := "AddressClaimBusModel", name := "outgoingOff", desc := "(I)V" } : MethodName) ({ cls := "AddressClaimBusModel", name := "outgoingOff", desc := "(I)V" } : MethodName)) ∈ zx_T := zx_mems 49 (by decide +kernel) (by decide +kernel)
end
section
/-! A judgement over a heap that is a function: zx_X (the machine at a place of a method, heap h of n cells, comes to the method's end with Q), zx_Ok (a method's contract). Rows of the kit, each turned once. -/
abbrev zxH : Type := Nat → Option va_E
/-- launch, the first address of ours, the kinds' numbers and slots, the arrays' numbers -/
abbrev zxE : Type := Launch × Nat × va_G × (Nat → ClassId)
/-- a method: whose it is, its name, code, locals, return type, room, cells and slots that it makes -/
abbrev zxM : Type := String × String × ByteArray × Nat × Option FieldType × Room × Nat × Nat
def zx_tys (dA : Nat → ClassId) : List (ClassId × FieldType) := [(dA 0, .int), (dA 1, .long), (dA 2, .boolean), (dA 3, .object "AddressClaimBus$Function"), (dA 4, .object "AddressClaimBus$Incoming")]
def zx_cz (dA : Nat → ClassId) : va_E → va_E
  | .inl x => .inl (dA x.1, x.2)
  | .inr o => .inr o
def zx_R (E : zxE) (h : zxH) (n : Nat) (H : Heap) : Prop := H.size = n ∧ E.2.1 ≤ n ∧ ∀ (a : Nat) (e : va_E), h a = some e → E.2.1 ≤ a ∧ va_at E.2.2.1 vwCl (a, zx_cz E.2.2.2 e) H
def zx_A (E : zxE) : Nat → Prop := fun q => E.2.1 ≤ q
def zx_Q (E : zxE) (Q : Option Value → zxH → Nat → Prop) : Array Value → State → Outcome → State → Prop := fun _ st oc t => (∃ (r : Option Value) (h : zxH) (n : Nat), oc = .returned r ∧ Q r h n ∧ zx_R E h n t.heap) ∧ va_F (zx_A E) st t
def zx_K (E : zxE) (U : State) : Prop := va_K E.2.2.1 vwCl (zx_tys E.2.2.2) U ∧ (∀ q ∈ zx_N, va_Nw (.methodLinkNest q.1 q.2.1 q.2.2 "AddressClaimBus") U) ∧ ∀ C ∈ zx_AO, va_AO C U
theorem zx_K.warm {E : zxE} {s U : State} (hW : s.WarmedH U.vm) (h : zx_K E s) : zx_K E U := ⟨va_K.moved hW.alike h.1, fun q hq => va_Nw.warmM hW (h.2.1 q hq), fun C hC => va_AO.moved hW.alike (h.2.2 C hC)⟩
/-- what is known of the start, and what is to be reached -/
abbrev zxY : Type := (State → Prop) × (List Frame → Array Value → State → State → Prop)
def zx_C (E : zxE) (M : zxM) (Y : zxY) (p : Program) (s : State) (m : MethodId) (args : Array Value) (meth : Method) (c : Code) : Prop :=
  p.tables.exec = Jvm.exec ∧ c.code = M.2.2.1 ∧ c.maxLocals = M.2.2.2.1 ∧ s.vm.findClass M.1 = some m.cls ∧ (∀ w ∈ zx_T, w.before args s = true) ∧ meth.sig.returnType = M.2.2.2.2.1 ∧ meth.locks = false ∧ meth.name = M.2.1 ∧ zx_K E s ∧ Y.1 s
def zx_as : Nat → List (Option Value) → List (Nat × Value)
  | _, [] => []
  | i, none :: r => zx_as (i + 1) r
  | i, some v :: r => (i, v) :: zx_as (i + 1) r
def zx_nth : List (Option Value) → Nat → Option Value
  | [], _ => none
  | a :: _, 0 => a
  | _ :: r, j + 1 => zx_nth r j
def zx_X (E : zxE) (M : zxM) (Y : zxY) (pc : Nat) (L : List (Option Value)) (st : List Value) (h : zxH) (n cells slots : Nat) : Prop :=
  ∀ (p : Program) (e : Env) (s : State) (m : MethodId) (args : Array Value) (below : List Frame) (meth : Method) (c : Code) (ls : Array Slot) (H : Heap) (locs : List Loc),
    zx_C E M Y p s m args meth c → lv_has ls M.2.2.2.1 (zx_as 0 L) → zx_R E h n H → va_S (zx_A E) s.heap H locs → E.2.1 ≤ s.heap.size →
    W p E.1 e M.2.2.2.2.2.1 s m args below meth c H locs cells slots (Y.2 below args s) (F0 m pc ls st)
def zx_Y (E : zxE) (M : zxM) (Q : Option Value → zxH → Nat → Prop) : zxY := (fun _ => True, fun below args s => MQ below (zx_Q E Q) args s M.2.2.2.2.2.2.1 M.2.2.2.2.2.2.2 (zx_A E))
def zx_Ok (E : zxE) (y : MethodName) (M : zxM) (av : List Value) (h : zxH) (n : Nat) (Q : Option Value → zxH → Nat → Prop) : Prop :=
  Met E.1 y (.code y M.2.2.1 M.2.2.2.1 M.2.2.2.2.1 :: zx_T) M.2.2.2.2.2.1 (va_Pc av (fun U => zx_R E h n U.heap ∧ zx_K E U)) (zx_Q E Q) M.2.2.2.2.2.2.1 M.2.2.2.2.2.2.2 (zx_A E)
theorem zx_as_mem : ∀ (L : List (Option Value)) (i j : Nat) (v : Value), zx_nth L j = some v → (i + j, v) ∈ zx_as i L
  | [], i, j, v, h => by cases h
  | none :: r, i, 0, v, h => by cases h
  | none :: r, i, j + 1, v, h => by
    have := zx_as_mem r (i + 1) j v h
    rw [show i + (j + 1) = i + 1 + j by omega]
    exact this
  | some w :: r, i, 0, v, h => by
    have h1 : w = v := Option.some.inj h
    subst h1
    exact List.mem_cons_self
  | some w :: r, i, j + 1, v, h => by
    have := zx_as_mem r (i + 1) j v h
    rw [show i + (j + 1) = i + 1 + j by omega]
    exact List.mem_cons_of_mem _ this
theorem zx_as_inv : ∀ (L : List (Option Value)) (i : Nat) (q : Nat × Value), q ∈ zx_as i L → i ≤ q.1 ∧ zx_nth L (q.1 - i) = some q.2
  | [], i, q, h => by cases h
  | none :: r, i, q, h => by
    obtain ⟨h1, h2⟩ := zx_as_inv r (i + 1) q h
    refine ⟨by omega, ?_⟩
    rw [show q.1 - i = (q.1 - (i + 1)) + 1 by omega]
    exact h2
  | some w :: r, i, q, h => by
    rcases List.mem_cons.mp h with rfl | h
    · exact ⟨Nat.le_refl _, by rw [Nat.sub_self]; rfl⟩
    · obtain ⟨h1, h2⟩ := zx_as_inv r (i + 1) q h
      refine ⟨by omega, ?_⟩
      rw [show q.1 - i = (q.1 - (i + 1)) + 1 by omega]
      exact h2
theorem zx_lat {ls : Array Slot} {nL : Nat} {L : List (Option Value)} (h : lv_has ls nL (zx_as 0 L)) {j : Nat} {v : Value} (hj : zx_nth L j = some v) : ls[j]? = some (.val v) := by
  have := h.2.2 _ (zx_as_mem L 0 j v hj)
  rw [Nat.zero_add] at this
  exact this
def zx_ok1 (i : Nat) (v : Value) (L L' : List (Option Value)) : Prop := ∀ (j : Nat) (w : Value), zx_nth L' j = some w → (j = i ∧ w = v) ∨ (j ≠ i ∧ zx_nth L j = some w ∧ ¬ (j + 1 = i ∧ w.category = 2))
def zx_ok2 (i : Nat) (v : Value) (L L' : List (Option Value)) : Prop := ∀ (j : Nat) (w : Value), zx_nth L' j = some w → (j = i ∧ w = v) ∨ (j ≠ i ∧ j ≠ i + 1 ∧ zx_nth L j = some w ∧ ¬ (j + 1 = i ∧ w.category = 2))
theorem zx_ok1_has {i nL : Nat} {v : Value} {L L' : List (Option Value)} {ls : Array Slot} (hL : zx_ok1 i v L L') (h : lv_has ls nL ((i, v) :: (zx_as 0 L).filter (fun q => !(q.1 == i) && !(q.1 + 1 == i && q.2.category == 2)))) : lv_has ls nL (zx_as 0 L') := by
  refine ⟨h.1, h.2.1, fun q hq => h.2.2 q ?_⟩
  have h1 := (zx_as_inv L' 0 q hq).2
  rw [Nat.sub_zero] at h1
  rcases hL q.1 q.2 h1 with ⟨a, b⟩ | ⟨a, b, d⟩
  · have : q = (i, v) := by rw [← a, ← b]
    rw [this]
    exact List.mem_cons_self
  · refine List.mem_cons_of_mem _ (List.mem_filter.mpr ⟨?_, ?_⟩)
    · have := zx_as_mem L 0 q.1 q.2 b
      rw [Nat.zero_add] at this
      exact this
    · by_cases e1 : q.1 + 1 = i
      · have e2 : ¬ q.2.category = 2 := fun z => d ⟨e1, z⟩
        simp [a, e2]
      · simp [a, e1]
theorem zx_ok2_has {i nL : Nat} {v : Value} {L L' : List (Option Value)} {ls : Array Slot} (hL : zx_ok2 i v L L') (h : lv_has ls nL ((i, v) :: (zx_as 0 L).filter (fun q => !(q.1 == i) && (!(q.1 == i + 1) && !(q.1 + 1 == i && q.2.category == 2))))) : lv_has ls nL (zx_as 0 L') := by
  refine ⟨h.1, h.2.1, fun q hq => h.2.2 q ?_⟩
  have h1 := (zx_as_inv L' 0 q hq).2
  rw [Nat.sub_zero] at h1
  rcases hL q.1 q.2 h1 with ⟨a, b⟩ | ⟨a, a2, b, d⟩
  · have : q = (i, v) := by rw [← a, ← b]
    rw [this]
    exact List.mem_cons_self
  · refine List.mem_cons_of_mem _ (List.mem_filter.mpr ⟨?_, ?_⟩)
    · have := zx_as_mem L 0 q.1 q.2 b
      rw [Nat.zero_add] at this
      exact this
    · by_cases e1 : q.1 + 1 = i
      · have e2 : ¬ q.2.category = 2 := fun z => d ⟨e1, z⟩
        simp [a, a2, e2]
      · simp [a, a2, e1]
def zx_n2 : Option Value → Bool
  | some (.long _) => false
  | some (.double _) => false
  | _ => true
theorem zx_n2_cat {w : Value} (h : zx_n2 (some w) = true) : ¬ w.category = 2 := by
  cases w <;> first | (cases h; done) | (intro z; cases z)
theorem zx_nth_app : ∀ (pre r : List (Option Value)) (j : Nat), zx_nth (pre ++ r) j = if j < pre.length then zx_nth pre j else zx_nth r (j - pre.length)
  | [], r, j => by simp
  | a :: pre, r, 0 => by simp [zx_nth]
  | a :: pre, r, j + 1 => by
    have := zx_nth_app pre r j
    simp only [List.cons_append, zx_nth, this, List.length_cons, Nat.add_lt_add_iff_right, Nat.add_sub_add_right]
theorem zx_ok1_gen (pre : List (Option Value)) (y : Option Value) (rr : List (Option Value)) (v : Value) (hc : ∀ w, zx_nth pre (pre.length - 1) = some w → ¬ w.category = 2) : zx_ok1 pre.length v (pre ++ y :: rr) (pre ++ some v :: rr) := by
  intro j w hw
  rw [zx_nth_app] at hw
  by_cases h1 : j < pre.length
  · rw [if_pos h1] at hw
    refine Or.inr ⟨by omega, by rw [zx_nth_app, if_pos h1]; exact hw, fun z => ?_⟩
    refine hc w ?_ z.2
    rw [show pre.length - 1 = j by omega]
    exact hw
  · rw [if_neg h1] at hw
    by_cases h2 : j = pre.length
    · subst h2
      rw [Nat.sub_self] at hw
      exact Or.inl ⟨rfl, (Option.some.inj hw).symm⟩
    · obtain ⟨d, hd⟩ : ∃ d, j - pre.length = d + 1 := ⟨j - pre.length - 1, by omega⟩
      rw [hd] at hw
      refine Or.inr ⟨h2, ?_, fun z => by omega⟩
      rw [zx_nth_app, if_neg h1, hd]
      exact hw
theorem zx_ok2_gen (pre : List (Option Value)) (y y' : Option Value) (rr : List (Option Value)) (v : Value) (hc : ∀ w, zx_nth pre (pre.length - 1) = some w → ¬ w.category = 2) : zx_ok2 pre.length v (pre ++ y :: y' :: rr) (pre ++ some v :: none :: rr) := by
  intro j w hw
  rw [zx_nth_app] at hw
  by_cases h1 : j < pre.length
  · rw [if_pos h1] at hw
    refine Or.inr ⟨by omega, by omega, by rw [zx_nth_app, if_pos h1]; exact hw, fun z => ?_⟩
    refine hc w ?_ z.2
    rw [show pre.length - 1 = j by omega]
    exact hw
  · rw [if_neg h1] at hw
    by_cases h2 : j = pre.length
    · subst h2
      rw [Nat.sub_self] at hw
      exact Or.inl ⟨rfl, (Option.some.inj hw).symm⟩
    · by_cases h3 : j = pre.length + 1
      · subst h3
        rw [show pre.length + 1 - pre.length = 1 by omega] at hw
        cases hw
      · obtain ⟨d, hd⟩ : ∃ d, j - pre.length = d + 1 + 1 := ⟨j - pre.length - 2, by omega⟩
        rw [hd] at hw
        refine Or.inr ⟨h2, h3, ?_, fun z => by omega⟩
        rw [zx_nth_app, if_neg h1, hd]
        exact hw
theorem zx_n2_last {pre : List (Option Value)} {o : Option Value} {k : Nat} (hk : zx_nth pre k = o) (h : zx_n2 o = true) : ∀ w, zx_nth pre k = some w → ¬ w.category = 2 := by
  intro w hw
  rw [hk] at hw
  rw [hw] at h
  exact zx_n2_cat h
theorem zx_R.one {E : zxE} {h : zxH} {n : Nat} {H : Heap} (hR : zx_R E h n H) {a : Nat} {e : va_E} (ha : h a = some e) : va_P E.2.2.1 vwCl [(a, zx_cz E.2.2.2 e)] H := by
  intro k q hk
  match k, hk with
  | 0, hk =>
    cases hk
    exact (hR.2.2 a e ha).2
def zx_up (h : zxH) (a : Nat) (e : va_E) : zxH := fun q => if q = a then some e else h q
theorem zx_R.set {E : zxE} {h : zxH} {n : Nat} {H H1 : Heap} (hR : zx_R E h n H) {a : Nat} {e e0 : va_E} (ha : h a = some e0) (he : va_at E.2.2.1 vwCl (a, zx_cz E.2.2.2 e) H1) (hz : H1.size = H.size) (oq : ∀ q : Nat, q ≠ a → H1[q]? = H[q]?) : zx_R E (zx_up h a e) n H1 := by
  refine ⟨hz.trans hR.1, hR.2.1, fun b x hb => ?_⟩
  unfold zx_up at hb
  by_cases hba : b = a
  · subst hba
    rw [if_pos rfl] at hb
    cases hb
    exact ⟨(hR.2.2 _ _ ha).1, he⟩
  · rw [if_neg hba] at hb
    exact ⟨(hR.2.2 b x hb).1, ((hR.2.2 b x hb).2).kept (oq b hba)⟩
theorem zx_R.new {E : zxE} {h : zxH} {n : Nat} {H H1 : Heap} (hR : zx_R E h n H) {e : va_E} (he : va_at E.2.2.1 vwCl (n, zx_cz E.2.2.2 e) H1) (hz : H1.size = n + 1) (oq : ∀ q : Nat, q < n → H1[q]? = H[q]?) : zx_R E (zx_up h n e) (n + 1) H1 := by
  refine ⟨hz, Nat.le_succ_of_le hR.2.1, fun b x hb => ?_⟩
  unfold zx_up at hb
  by_cases hba : b = n
  · subst hba
    rw [if_pos rfl] at hb
    cases hb
    exact ⟨hR.2.1, he⟩
  · rw [if_neg hba] at hb
    have h1 := (hR.2.2 b x hb).2
    have hl : b < H.size := h1.lt
    exact ⟨(hR.2.2 b x hb).1, h1.kept (oq b (by rw [← hR.1]; exact hl))⟩
def zx_Cl (ci : Nat) (C : String) (T : u_T) (N : Nat) (ty : Nat → FieldType) : Prop :=
  vwCl[ci]? = some (C, T, N) ∧ (∀ w ∈ u_ws C T N, w ∈ zx_T) ∧ (∀ k, k < N → parseFieldDescriptor (T k).2.2.1 = some (ty k)) ∧ (∀ a, a < N → ∀ b, b < N → a ≠ b → (T a).2.1 ≠ (T b).2.1)
/-- a field that instructions name by the number idx: of the kind ci the k-th, of type t, final or not -/
def zx_Fl (own : String) (idx ci k : Nat) (t : FieldType) (fin : Bool) : Prop :=
  ∃ (C : String) (T : u_T) (N : Nat) (ty : Nat → FieldType), zx_Cl ci C T N ty ∧ k < N ∧ Cond.fieldLink own idx (T k).1 (T k).2.1 (T k).2.2.1 ∈ zx_T ∧ ty k = t ∧ (T k).2.2.2 = fin ∧ (T k).1 = C
section ZX
variable {E : zxE} {M : zxM} {Y : zxY} {Q : Option Value → zxH → Nat → Prop} {pc q cells slots n : Nat} {L : List (Option Value)} {st : List Value} {h : zxH}
theorem zx_iadd {x y : Int32} (hd : decode M.2.2.1 pc = .ok (.iadd, 1)) (hq : pc + 1 = q) (k : zx_X E M Y q L (.int (x + y) :: st) h n cells slots) : zx_X E M Y pc L (.int y :: .int x :: st) h n cells slots := by
  subst hq
  exact fun p e s m args below meth c ls H locs C hl hR hS hb => lv_iadd C.1 C.2.1 hd (k p e s m args below meth c ls H locs C hl hR hS hb)
theorem zx_isub {x y : Int32} (hd : decode M.2.2.1 pc = .ok (.isub, 1)) (hq : pc + 1 = q) (k : zx_X E M Y q L (.int (x - y) :: st) h n cells slots) : zx_X E M Y pc L (.int y :: .int x :: st) h n cells slots := by
  subst hq
  exact fun p e s m args below meth c ls H locs C hl hR hS hb => lv_isub C.1 C.2.1 hd (k p e s m args below meth c ls H locs C hl hR hS hb)
theorem zx_imul {x y : Int32} (hd : decode M.2.2.1 pc = .ok (.imul, 1)) (hq : pc + 1 = q) (k : zx_X E M Y q L (.int (x * y) :: st) h n cells slots) : zx_X E M Y pc L (.int y :: .int x :: st) h n cells slots := by
  subst hq
  exact fun p e s m args below meth c ls H locs C hl hR hS hb => lv_imul C.1 C.2.1 hd (k p e s m args below meth c ls H locs C hl hR hS hb)
theorem zx_iand {x y : Int32} (hd : decode M.2.2.1 pc = .ok (.iand, 1)) (hq : pc + 1 = q) (k : zx_X E M Y q L (.int (x &&& y) :: st) h n cells slots) : zx_X E M Y pc L (.int y :: .int x :: st) h n cells slots := by
  subst hq
  exact fun p e s m args below meth c ls H locs C hl hR hS hb => lv_iand C.1 C.2.1 hd (k p e s m args below meth c ls H locs C hl hR hS hb)
theorem zx_ior {x y : Int32} (hd : decode M.2.2.1 pc = .ok (.ior, 1)) (hq : pc + 1 = q) (k : zx_X E M Y q L (.int (x ||| y) :: st) h n cells slots) : zx_X E M Y pc L (.int y :: .int x :: st) h n cells slots := by
  subst hq
  exact fun p e s m args below meth c ls H locs C hl hR hS hb => lv_ior C.1 C.2.1 hd (k p e s m args below meth c ls H locs C hl hR hS hb)
theorem zx_ixor {x y : Int32} (hd : decode M.2.2.1 pc = .ok (.ixor, 1)) (hq : pc + 1 = q) (k : zx_X E M Y q L (.int (x ^^^ y) :: st) h n cells slots) : zx_X E M Y pc L (.int y :: .int x :: st) h n cells slots := by
  subst hq
  exact fun p e s m args below meth c ls H locs C hl hR hS hb => lv_ixor C.1 C.2.1 hd (k p e s m args below meth c ls H locs C hl hR hS hb)
theorem zx_ladd {x y : Int64} (hd : decode M.2.2.1 pc = .ok (.ladd, 1)) (hq : pc + 1 = q) (k : zx_X E M Y q L (.long (x + y) :: st) h n cells slots) : zx_X E M Y pc L (.long y :: .long x :: st) h n cells slots := by
  subst hq
  exact fun p e s m args below meth c ls H locs C hl hR hS hb => lv_ladd C.1 C.2.1 hd (k p e s m args below meth c ls H locs C hl hR hS hb)
theorem zx_lsub {x y : Int64} (hd : decode M.2.2.1 pc = .ok (.lsub, 1)) (hq : pc + 1 = q) (k : zx_X E M Y q L (.long (x - y) :: st) h n cells slots) : zx_X E M Y pc L (.long y :: .long x :: st) h n cells slots := by
  subst hq
  exact fun p e s m args below meth c ls H locs C hl hR hS hb => lv_lsub C.1 C.2.1 hd (k p e s m args below meth c ls H locs C hl hR hS hb)
theorem zx_lmul {x y : Int64} (hd : decode M.2.2.1 pc = .ok (.lmul, 1)) (hq : pc + 1 = q) (k : zx_X E M Y q L (.long (x * y) :: st) h n cells slots) : zx_X E M Y pc L (.long y :: .long x :: st) h n cells slots := by
  subst hq
  exact fun p e s m args below meth c ls H locs C hl hR hS hb => lv_lmul C.1 C.2.1 hd (k p e s m args below meth c ls H locs C hl hR hS hb)
theorem zx_land {x y : Int64} (hd : decode M.2.2.1 pc = .ok (.land, 1)) (hq : pc + 1 = q) (k : zx_X E M Y q L (.long (x &&& y) :: st) h n cells slots) : zx_X E M Y pc L (.long y :: .long x :: st) h n cells slots := by
  subst hq
  exact fun p e s m args below meth c ls H locs C hl hR hS hb => lv_land C.1 C.2.1 hd (k p e s m args below meth c ls H locs C hl hR hS hb)
theorem zx_lor {x y : Int64} (hd : decode M.2.2.1 pc = .ok (.lor, 1)) (hq : pc + 1 = q) (k : zx_X E M Y q L (.long (x ||| y) :: st) h n cells slots) : zx_X E M Y pc L (.long y :: .long x :: st) h n cells slots := by
  subst hq
  exact fun p e s m args below meth c ls H locs C hl hR hS hb => lv_lor C.1 C.2.1 hd (k p e s m args below meth c ls H locs C hl hR hS hb)
theorem zx_lxor {x y : Int64} (hd : decode M.2.2.1 pc = .ok (.lxor, 1)) (hq : pc + 1 = q) (k : zx_X E M Y q L (.long (x ^^^ y) :: st) h n cells slots) : zx_X E M Y pc L (.long y :: .long x :: st) h n cells slots := by
  subst hq
  exact fun p e s m args below meth c ls H locs C hl hR hS hb => lv_lxor C.1 C.2.1 hd (k p e s m args below meth c ls H locs C hl hR hS hb)
theorem zx_idiv {x y : Int32} (hd : decode M.2.2.1 pc = .ok (.idiv, 1)) (hq : pc + 1 = q) (hne : ¬ y = 0) (k : zx_X E M Y q L (.int (x / y) :: st) h n cells slots) : zx_X E M Y pc L (.int y :: .int x :: st) h n cells slots := by
  subst hq
  exact fun p e s m args below meth c ls H locs C hl hR hS hb => lv_idiv C.1 C.2.1 hd hne (k p e s m args below meth c ls H locs C hl hR hS hb)
theorem zx_irem {x y : Int32} (hd : decode M.2.2.1 pc = .ok (.irem, 1)) (hq : pc + 1 = q) (hne : ¬ y = 0) (k : zx_X E M Y q L (.int (x - x / y * y) :: st) h n cells slots) : zx_X E M Y pc L (.int y :: .int x :: st) h n cells slots := by
  subst hq
  exact fun p e s m args below meth c ls H locs C hl hR hS hb => lv_irem C.1 C.2.1 hd hne (k p e s m args below meth c ls H locs C hl hR hS hb)
theorem zx_ineg {x : Int32} (hd : decode M.2.2.1 pc = .ok (.ineg, 1)) (hq : pc + 1 = q) (k : zx_X E M Y q L (.int (-x) :: st) h n cells slots) : zx_X E M Y pc L (.int x :: st) h n cells slots := by
  subst hq
  exact fun p e s m args below meth c ls H locs C hl hR hS hb => lv_ineg C.1 C.2.1 hd (k p e s m args below meth c ls H locs C hl hR hS hb)
theorem zx_ishl {x y : Int32} (hd : decode M.2.2.1 pc = .ok (.ishl, 1)) (hq : pc + 1 = q) (k : zx_X E M Y q L (.int (x <<< (y &&& 31)) :: st) h n cells slots) : zx_X E M Y pc L (.int y :: .int x :: st) h n cells slots := by
  subst hq
  exact fun p e s m args below meth c ls H locs C hl hR hS hb => lv_ishl C.1 C.2.1 hd (k p e s m args below meth c ls H locs C hl hR hS hb)
theorem zx_ishr {x y : Int32} (hd : decode M.2.2.1 pc = .ok (.ishr, 1)) (hq : pc + 1 = q) (k : zx_X E M Y q L (.int (x >>> (y &&& 31)) :: st) h n cells slots) : zx_X E M Y pc L (.int y :: .int x :: st) h n cells slots := by
  subst hq
  exact fun p e s m args below meth c ls H locs C hl hR hS hb => lv_ishr C.1 C.2.1 hd (k p e s m args below meth c ls H locs C hl hR hS hb)
theorem zx_i2l {x : Int32} (hd : decode M.2.2.1 pc = .ok (.i2l, 1)) (hq : pc + 1 = q) (k : zx_X E M Y q L (.long x.toInt64 :: st) h n cells slots) : zx_X E M Y pc L (.int x :: st) h n cells slots := by
  subst hq
  exact fun p e s m args below meth c ls H locs C hl hR hS hb => lv_i2l C.1 C.2.1 hd rfl (k p e s m args below meth c ls H locs C hl hR hS hb)
theorem zx_l2i {x : Int64} (hd : decode M.2.2.1 pc = .ok (.l2i, 1)) (hq : pc + 1 = q) (k : zx_X E M Y q L (.int x.toInt32 :: st) h n cells slots) : zx_X E M Y pc L (.long x :: st) h n cells slots := by
  subst hq
  exact fun p e s m args below meth c ls H locs C hl hR hS hb => lv_l2i C.1 C.2.1 hd rfl (k p e s m args below meth c ls H locs C hl hR hS hb)
theorem zx_lushr {x : Int64} {y : Int32} (hd : decode M.2.2.1 pc = .ok (.lushr, 1)) (hq : pc + 1 = q) (k : zx_X E M Y q L (.long (x.toUInt64 >>> (y.toInt64.toUInt64 &&& Int64.toUInt64 63)).toInt64 :: st) h n cells slots) : zx_X E M Y pc L (.int y :: .long x :: st) h n cells slots := by
  subst hq
  exact fun p e s m args below meth c ls H locs C hl hR hS hb => lv_lushr C.1 C.2.1 hd rfl (k p e s m args below meth c ls H locs C hl hR hS hb)
theorem zx_lshl {x : Int64} {y : Int32} (hd : decode M.2.2.1 pc = .ok (.lshl, 1)) (hq : pc + 1 = q) (k : zx_X E M Y q L (.long (x <<< (y.toInt64 &&& 63)) :: st) h n cells slots) : zx_X E M Y pc L (.int y :: .long x :: st) h n cells slots := by
  subst hq
  exact fun p e s m args below meth c ls H locs C hl hR hS hb => lv_lshl C.1 C.2.1 hd rfl (k p e s m args below meth c ls H locs C hl hR hS hb)
theorem zx_lshr {x : Int64} {y : Int32} (hd : decode M.2.2.1 pc = .ok (.lshr, 1)) (hq : pc + 1 = q) (k : zx_X E M Y q L (.long (x >>> (y.toInt64 &&& 63)) :: st) h n cells slots) : zx_X E M Y pc L (.int y :: .long x :: st) h n cells slots := by
  subst hq
  exact fun p e s m args below meth c ls H locs C hl hR hS hb => lv_lshr C.1 C.2.1 hd rfl (k p e s m args below meth c ls H locs C hl hR hS hb)
theorem zx_lcmp {x y : Int64} (hd : decode M.2.2.1 pc = .ok (.lcmp, 1)) (hq : pc + 1 = q) (k : zx_X E M Y q L (.int (lg_cmp x y) :: st) h n cells slots) : zx_X E M Y pc L (.long y :: .long x :: st) h n cells slots := by
  subst hq
  exact fun p e s m args below meth c ls H locs C hl hR hS hb => W.lcmp C.1 C.2.1 hd (k p e s m args below meth c ls H locs C hl hR hS hb)
theorem zx_dup {v : Value} (hd : decode M.2.2.1 pc = .ok (.dup, 1)) (hq : pc + 1 = q) (hv : v.category = 1) (k : zx_X E M Y q L (v :: v :: st) h n cells slots) : zx_X E M Y pc L (v :: st) h n cells slots := by
  subst hq
  exact fun p e s m args below meth c ls H locs C hl hR hS hb => lv_dup C.1 C.2.1 hd hv (k p e s m args below meth c ls H locs C hl hR hS hb)
theorem zx_dup_x1 {v w : Value} (hd : decode M.2.2.1 pc = .ok (.dup_x1, 1)) (hq : pc + 1 = q) (hv : v.category = 1) (hw : w.category = 1) (k : zx_X E M Y q L (v :: w :: v :: st) h n cells slots) : zx_X E M Y pc L (v :: w :: st) h n cells slots := by
  subst hq
  exact fun p e s m args below meth c ls H locs C hl hR hS hb => lv_dup_x1 C.1 C.2.1 hd hv hw (k p e s m args below meth c ls H locs C hl hR hS hb)
theorem zx_dup2 {v w : Value} (hd : decode M.2.2.1 pc = .ok (.dup2, 1)) (hq : pc + 1 = q) (hv : v.category = 1) (hw : w.category = 1) (k : zx_X E M Y q L (v :: w :: v :: w :: st) h n cells slots) : zx_X E M Y pc L (v :: w :: st) h n cells slots := by
  subst hq
  exact fun p e s m args below meth c ls H locs C hl hR hS hb => lv_dup2_11 C.1 C.2.1 hd hv hw (k p e s m args below meth c ls H locs C hl hR hS hb)
theorem zx_pop {v : Value} (hd : decode M.2.2.1 pc = .ok (.pop, 1)) (hq : pc + 1 = q) (hv : v.category = 1) (k : zx_X E M Y q L (st) h n cells slots) : zx_X E M Y pc L (v :: st) h n cells slots := by
  subst hq
  exact fun p e s m args below meth c ls H locs C hl hR hS hb => lv_pop C.1 C.2.1 hd hv (k p e s m args below meth c ls H locs C hl hR hS hb)
theorem zx_iconst {z : Int} (v : Int32) (hd : decode M.2.2.1 pc = .ok (.iconst z, 1)) (hq : pc + 1 = q) (hv : Int32.ofInt z = v) (k : zx_X E M Y q L (.int v :: st) h n cells slots) : zx_X E M Y pc L (st) h n cells slots := by
  subst hq
  exact fun p e s m args below meth c ls H locs C hl hR hS hb => lv_iconst C.1 C.2.1 hd hv (k p e s m args below meth c ls H locs C hl hR hS hb)
theorem zx_bipush {z : Int} (v : Int32) (hd : decode M.2.2.1 pc = .ok (.bipush z, 2)) (hq : pc + 2 = q) (hv : (Int8.ofInt z).toInt32 = v) (k : zx_X E M Y q L (.int v :: st) h n cells slots) : zx_X E M Y pc L (st) h n cells slots := by
  subst hq
  exact fun p e s m args below meth c ls H locs C hl hR hS hb => lv_bipush C.1 C.2.1 hd hv (k p e s m args below meth c ls H locs C hl hR hS hb)
theorem zx_sipush {z : Int} (v : Int32) (hd : decode M.2.2.1 pc = .ok (.sipush z, 3)) (hq : pc + 3 = q) (hv : (Int16.ofInt z).toInt32 = v) (k : zx_X E M Y q L (.int v :: st) h n cells slots) : zx_X E M Y pc L (st) h n cells slots := by
  subst hq
  exact fun p e s m args below meth c ls H locs C hl hR hS hb => lv_sipush C.1 C.2.1 hd hv (k p e s m args below meth c ls H locs C hl hR hS hb)
theorem zx_lconst {z : Fin 2} (v : Int64) (hd : decode M.2.2.1 pc = .ok (.lconst z, 1)) (hq : pc + 1 = q) (hv : Int64.ofNat (z : Nat) = v) (k : zx_X E M Y q L (.long v :: st) h n cells slots) : zx_X E M Y pc L (st) h n cells slots := by
  subst hq
  exact fun p e s m args below meth c ls H locs C hl hR hS hb => lv_lconst C.1 C.2.1 hd hv (k p e s m args below meth c ls H locs C hl hR hS hb)
theorem zx_ldc {i : Nat} (v : Int32) (hd : decode M.2.2.1 pc = .ok (.ldc i, 2)) (hq : pc + 2 = q) (hw : Cond.constant M.1 i v ∈ zx_T) (k : zx_X E M Y q L (.int v :: st) h n cells slots) : zx_X E M Y pc L st h n cells slots := by
  subst hq
  exact fun p e s m args below meth c ls H locs C hl hR hS hb => lv_ldc C.1 C.2.1 C.2.2.2.1 (C.2.2.2.2.1 _ hw) hd (k p e s m args below meth c ls H locs C hl hR hS hb)
theorem zx_ldc2 {i : Nat} (v : Int64) (hd : decode M.2.2.1 pc = .ok (.ldc2_w i, 3)) (hq : pc + 3 = q) (hw : Cond.constantLong M.1 i v ∈ zx_T) (k : zx_X E M Y q L (.long v :: st) h n cells slots) : zx_X E M Y pc L st h n cells slots := by
  subst hq
  exact fun p e s m args below meth c ls H locs C hl hR hS hb => lv_ldc2 C.1 C.2.1 C.2.2.2.1 (C.2.2.2.2.1 _ hw) hd (k p e s m args below meth c ls H locs C hl hR hS hb)
theorem zx_iload_n {z : Fin 4} {x : Int32} (hd : decode M.2.2.1 pc = .ok (.iload_n z, 1)) (hq : pc + 1 = q) (hg : zx_nth L z.val = some (.int x)) (k : zx_X E M Y q L (.int x :: st) h n cells slots) : zx_X E M Y pc L st h n cells slots := by
  subst hq
  exact fun p e s m args below meth c ls H locs C hl hR hS hb => lv_iload_n C.1 C.2.1 hd rfl (zx_lat hl hg) (k p e s m args below meth c ls H locs C hl hR hS hb)
theorem zx_iload {i : Nat} {x : Int32} (hd : decode M.2.2.1 pc = .ok (.iload i, 2)) (hq : pc + 2 = q) (hg : zx_nth L i = some (.int x)) (k : zx_X E M Y q L (.int x :: st) h n cells slots) : zx_X E M Y pc L st h n cells slots := by
  subst hq
  exact fun p e s m args below meth c ls H locs C hl hR hS hb => lv_iload C.1 C.2.1 hd (zx_lat hl hg) (k p e s m args below meth c ls H locs C hl hR hS hb)
theorem zx_lload_n {z : Fin 4} {x : Int64} (hd : decode M.2.2.1 pc = .ok (.lload_n z, 1)) (hq : pc + 1 = q) (hg : zx_nth L z.val = some (.long x)) (k : zx_X E M Y q L (.long x :: st) h n cells slots) : zx_X E M Y pc L st h n cells slots := by
  subst hq
  exact fun p e s m args below meth c ls H locs C hl hR hS hb => lv_lload_n C.1 C.2.1 hd rfl (zx_lat hl hg) (k p e s m args below meth c ls H locs C hl hR hS hb)
theorem zx_lload {i : Nat} {x : Int64} (hd : decode M.2.2.1 pc = .ok (.lload i, 2)) (hq : pc + 2 = q) (hg : zx_nth L i = some (.long x)) (k : zx_X E M Y q L (.long x :: st) h n cells slots) : zx_X E M Y pc L st h n cells slots := by
  subst hq
  exact fun p e s m args below meth c ls H locs C hl hR hS hb => lv_lload C.1 C.2.1 hd (zx_lat hl hg) (k p e s m args below meth c ls H locs C hl hR hS hb)
theorem zx_aload_n {z : Fin 4} {x : Nat} (hd : decode M.2.2.1 pc = .ok (.aload_n z, 1)) (hq : pc + 1 = q) (hg : zx_nth L z.val = some (.ref x)) (k : zx_X E M Y q L (.ref x :: st) h n cells slots) : zx_X E M Y pc L st h n cells slots := by
  subst hq
  exact fun p e s m args below meth c ls H locs C hl hR hS hb => lv_aload_n C.1 C.2.1 hd rfl (zx_lat hl hg) (k p e s m args below meth c ls H locs C hl hR hS hb)
theorem zx_aload {i : Nat} {x : Nat} (hd : decode M.2.2.1 pc = .ok (.aload i, 2)) (hq : pc + 2 = q) (hg : zx_nth L i = some (.ref x)) (k : zx_X E M Y q L (.ref x :: st) h n cells slots) : zx_X E M Y pc L st h n cells slots := by
  subst hq
  exact fun p e s m args below meth c ls H locs C hl hR hS hb => lv_aload C.1 C.2.1 hd (zx_lat hl hg) (k p e s m args below meth c ls H locs C hl hR hS hb)
theorem zx_istore_n' {z : Fin 4} {x : Int32} (L' : List (Option Value)) (hd : decode M.2.2.1 pc = .ok (.istore_n z, 1)) (hq : pc + 1 = q) (hn : z.val < M.2.2.2.1) (hL : zx_ok1 z.val (.int x) L L') (k : zx_X E M Y q L' st h n cells slots) : zx_X E M Y pc L (.int x :: st) h n cells slots := by
  subst hq
  exact fun p e s m args below meth c ls H locs C hl hR hS hb => lv_istore_n C.1 C.2.1 hd rfl hl hn rfl (fun ls' hl' => k p e s m args below meth c ls' H locs C (zx_ok1_has hL hl') hR hS hb)
theorem zx_istore' {i : Nat} {x : Int32} (L' : List (Option Value)) (hd : decode M.2.2.1 pc = .ok (.istore i, 2)) (hq : pc + 2 = q) (hn : i < M.2.2.2.1) (hL : zx_ok1 i (.int x) L L') (k : zx_X E M Y q L' st h n cells slots) : zx_X E M Y pc L (.int x :: st) h n cells slots := by
  subst hq
  exact fun p e s m args below meth c ls H locs C hl hR hS hb => lv_istore C.1 C.2.1 hd hl hn rfl (fun ls' hl' => k p e s m args below meth c ls' H locs C (zx_ok1_has hL hl') hR hS hb)
theorem zx_lstore_n' {z : Fin 4} {x : Int64} (L' : List (Option Value)) (hd : decode M.2.2.1 pc = .ok (.lstore_n z, 1)) (hq : pc + 1 = q) (hn : z.val + 1 < M.2.2.2.1) (hL : zx_ok2 z.val (.long x) L L') (k : zx_X E M Y q L' st h n cells slots) : zx_X E M Y pc L (.long x :: st) h n cells slots := by
  subst hq
  exact fun p e s m args below meth c ls H locs C hl hR hS hb => lv_lstore_n C.1 C.2.1 hd rfl hl hn rfl (fun ls' hl' => k p e s m args below meth c ls' H locs C (zx_ok2_has hL hl') hR hS hb)
theorem zx_lstore' {i : Nat} {x : Int64} (L' : List (Option Value)) (hd : decode M.2.2.1 pc = .ok (.lstore i, 2)) (hq : pc + 2 = q) (hn : i + 1 < M.2.2.2.1) (hL : zx_ok2 i (.long x) L L') (k : zx_X E M Y q L' st h n cells slots) : zx_X E M Y pc L (.long x :: st) h n cells slots := by
  subst hq
  exact fun p e s m args below meth c ls H locs C hl hR hS hb => lv_lstore C.1 C.2.1 hd hl hn rfl (fun ls' hl' => k p e s m args below meth c ls' H locs C (zx_ok2_has hL hl') hR hS hb)
theorem zx_astore_n' {z : Fin 4} {x : Nat} (L' : List (Option Value)) (hd : decode M.2.2.1 pc = .ok (.astore_n z, 1)) (hq : pc + 1 = q) (hn : z.val < M.2.2.2.1) (hL : zx_ok1 z.val (.ref x) L L') (k : zx_X E M Y q L' st h n cells slots) : zx_X E M Y pc L (.ref x :: st) h n cells slots := by
  subst hq
  exact fun p e s m args below meth c ls H locs C hl hR hS hb => lv_astore_n C.1 C.2.1 hd rfl hl hn rfl (fun ls' hl' => k p e s m args below meth c ls' H locs C (zx_ok1_has hL hl') hR hS hb)
theorem zx_astore' {i : Nat} {x : Nat} (L' : List (Option Value)) (hd : decode M.2.2.1 pc = .ok (.astore i, 2)) (hq : pc + 2 = q) (hn : i < M.2.2.2.1) (hL : zx_ok1 i (.ref x) L L') (k : zx_X E M Y q L' st h n cells slots) : zx_X E M Y pc L (.ref x :: st) h n cells slots := by
  subst hq
  exact fun p e s m args below meth c ls H locs C hl hR hS hb => lv_astore C.1 C.2.1 hd hl hn rfl (fun ls' hl' => k p e s m args below meth c ls' H locs C (zx_ok1_has hL hl') hR hS hb)
theorem zx_iinc' {i : Nat} {z : Int} {x : Int32} (d : Int32) (L' : List (Option Value)) (hd : decode M.2.2.1 pc = .ok (.iinc i z, 3)) (hq : pc + 3 = q) (hz : Int32.ofInt z = d) (hn : i < M.2.2.2.1) (hg : zx_nth L i = some (.int x)) (hL : zx_ok1 i (.int (x + d)) L L') (k : zx_X E M Y q L' st h n cells slots) : zx_X E M Y pc L st h n cells slots := by
  subst hq; subst hz
  intro p e s m args below meth c ls H locs C hl hR hS hb
  obtain ⟨j, hj⟩ := List.getElem?_of_mem (zx_as_mem L 0 i _ hg)
  rw [Nat.zero_add] at hj
  exact lv_iinc C.1 C.2.1 hd hl hj rfl hn rfl (fun ls' hl' => k p e s m args below meth c ls' H locs C (zx_ok1_has hL hl') hR hS hb)
theorem zx_istore_0 {y : Option Value} {rr : List (Option Value)} {x : Int32} (hd : decode M.2.2.1 pc = .ok (.istore_n 0, 1)) (hq : pc + 1 = q) (hn : 0 < M.2.2.2.1) (k : zx_X E M Y q (some (.int x) :: rr) st h n cells slots) : zx_X E M Y pc (y :: rr) (.int x :: st) h n cells slots :=
  zx_istore_n' (z := 0) _ hd hq hn (zx_ok1_gen [] _ _ _ (fun w z => by cases z)) k
theorem zx_astore_0 {y : Option Value} {rr : List (Option Value)} {x : Nat} (hd : decode M.2.2.1 pc = .ok (.astore_n 0, 1)) (hq : pc + 1 = q) (hn : 0 < M.2.2.2.1) (k : zx_X E M Y q (some (.ref x) :: rr) st h n cells slots) : zx_X E M Y pc (y :: rr) (.ref x :: st) h n cells slots :=
  zx_astore_n' (z := 0) _ hd hq hn (zx_ok1_gen [] _ _ _ (fun w z => by cases z)) k
theorem zx_lstore_0 {y y' : Option Value} {rr : List (Option Value)} {x : Int64} (hd : decode M.2.2.1 pc = .ok (.lstore_n 0, 1)) (hq : pc + 1 = q) (hn : 0 + 1 < M.2.2.2.1) (k : zx_X E M Y q (some (.long x) :: none :: rr) st h n cells slots) : zx_X E M Y pc (y :: y' :: rr) (.long x :: st) h n cells slots :=
  zx_lstore_n' (z := 0) _ hd hq hn (zx_ok2_gen [] _ _ _ _ (fun w z => by cases z)) k
theorem zx_iinc_0 {rr : List (Option Value)} {z : Int} {x : Int32} (d : Int32) (hd : decode M.2.2.1 pc = .ok (.iinc 0 z, 3)) (hq : pc + 3 = q) (hz : Int32.ofInt z = d) (hn : 0 < M.2.2.2.1) (k : zx_X E M Y q (some (.int (x + d)) :: rr) st h n cells slots) : zx_X E M Y pc (some (.int x) :: rr) st h n cells slots :=
  zx_iinc' d _ hd hq hz hn rfl (zx_ok1_gen [] _ _ _ (fun w z => by cases z)) k
theorem zx_istore_1 {a0 : Option Value} {y : Option Value} {rr : List (Option Value)} {x : Int32} (hd : decode M.2.2.1 pc = .ok (.istore_n 1, 1)) (hq : pc + 1 = q) (hn : 1 < M.2.2.2.1) (hc : zx_n2 a0 = true) (k : zx_X E M Y q (a0 :: some (.int x) :: rr) st h n cells slots) : zx_X E M Y pc (a0 :: y :: rr) (.int x :: st) h n cells slots :=
  zx_istore_n' (z := 1) _ hd hq hn (zx_ok1_gen [a0] _ _ _ (zx_n2_last rfl hc)) k
theorem zx_astore_1 {a0 : Option Value} {y : Option Value} {rr : List (Option Value)} {x : Nat} (hd : decode M.2.2.1 pc = .ok (.astore_n 1, 1)) (hq : pc + 1 = q) (hn : 1 < M.2.2.2.1) (hc : zx_n2 a0 = true) (k : zx_X E M Y q (a0 :: some (.ref x) :: rr) st h n cells slots) : zx_X E M Y pc (a0 :: y :: rr) (.ref x :: st) h n cells slots :=
  zx_astore_n' (z := 1) _ hd hq hn (zx_ok1_gen [a0] _ _ _ (zx_n2_last rfl hc)) k
theorem zx_lstore_1 {a0 : Option Value} {y y' : Option Value} {rr : List (Option Value)} {x : Int64} (hd : decode M.2.2.1 pc = .ok (.lstore_n 1, 1)) (hq : pc + 1 = q) (hn : 1 + 1 < M.2.2.2.1) (hc : zx_n2 a0 = true) (k : zx_X E M Y q (a0 :: some (.long x) :: none :: rr) st h n cells slots) : zx_X E M Y pc (a0 :: y :: y' :: rr) (.long x :: st) h n cells slots :=
  zx_lstore_n' (z := 1) _ hd hq hn (zx_ok2_gen [a0] _ _ _ _ (zx_n2_last rfl hc)) k
theorem zx_iinc_1 {a0 : Option Value} {rr : List (Option Value)} {z : Int} {x : Int32} (d : Int32) (hd : decode M.2.2.1 pc = .ok (.iinc 1 z, 3)) (hq : pc + 3 = q) (hz : Int32.ofInt z = d) (hn : 1 < M.2.2.2.1) (hc : zx_n2 a0 = true) (k : zx_X E M Y q (a0 :: some (.int (x + d)) :: rr) st h n cells slots) : zx_X E M Y pc (a0 :: some (.int x) :: rr) st h n cells slots :=
  zx_iinc' d _ hd hq hz hn rfl (zx_ok1_gen [a0] _ _ _ (zx_n2_last rfl hc)) k
theorem zx_istore_2 {a0 a1 : Option Value} {y : Option Value} {rr : List (Option Value)} {x : Int32} (hd : decode M.2.2.1 pc = .ok (.istore_n 2, 1)) (hq : pc + 1 = q) (hn : 2 < M.2.2.2.1) (hc : zx_n2 a1 = true) (k : zx_X E M Y q (a0 :: a1 :: some (.int x) :: rr) st h n cells slots) : zx_X E M Y pc (a0 :: a1 :: y :: rr) (.int x :: st) h n cells slots :=
  zx_istore_n' (z := 2) _ hd hq hn (zx_ok1_gen [a0, a1] _ _ _ (zx_n2_last rfl hc)) k
theorem zx_astore_2 {a0 a1 : Option Value} {y : Option Value} {rr : List (Option Value)} {x : Nat} (hd : decode M.2.2.1 pc = .ok (.astore_n 2, 1)) (hq : pc + 1 = q) (hn : 2 < M.2.2.2.1) (hc : zx_n2 a1 = true) (k : zx_X E M Y q (a0 :: a1 :: some (.ref x) :: rr) st h n cells slots) : zx_X E M Y pc (a0 :: a1 :: y :: rr) (.ref x :: st) h n cells slots :=
  zx_astore_n' (z := 2) _ hd hq hn (zx_ok1_gen [a0, a1] _ _ _ (zx_n2_last rfl hc)) k
theorem zx_lstore_2 {a0 a1 : Option Value} {y y' : Option Value} {rr : List (Option Value)} {x : Int64} (hd : decode M.2.2.1 pc = .ok (.lstore_n 2, 1)) (hq : pc + 1 = q) (hn : 2 + 1 < M.2.2.2.1) (hc : zx_n2 a1 = true) (k : zx_X E M Y q (a0 :: a1 :: some (.long x) :: none :: rr) st h n cells slots) : zx_X E M Y pc (a0 :: a1 :: y :: y' :: rr) (.long x :: st) h n cells slots :=
  zx_lstore_n' (z := 2) _ hd hq hn (zx_ok2_gen [a0, a1] _ _ _ _ (zx_n2_last rfl hc)) k
theorem zx_iinc_2 {a0 a1 : Option Value} {rr : List (Option Value)} {z : Int} {x : Int32} (d : Int32) (hd : decode M.2.2.1 pc = .ok (.iinc 2 z, 3)) (hq : pc + 3 = q) (hz : Int32.ofInt z = d) (hn : 2 < M.2.2.2.1) (hc : zx_n2 a1 = true) (k : zx_X E M Y q (a0 :: a1 :: some (.int (x + d)) :: rr) st h n cells slots) : zx_X E M Y pc (a0 :: a1 :: some (.int x) :: rr) st h n cells slots :=
  zx_iinc' d _ hd hq hz hn rfl (zx_ok1_gen [a0, a1] _ _ _ (zx_n2_last rfl hc)) k
theorem zx_istore_3 {a0 a1 a2 : Option Value} {y : Option Value} {rr : List (Option Value)} {x : Int32} (hd : decode M.2.2.1 pc = .ok (.istore_n 3, 1)) (hq : pc + 1 = q) (hn : 3 < M.2.2.2.1) (hc : zx_n2 a2 = true) (k : zx_X E M Y q (a0 :: a1 :: a2 :: some (.int x) :: rr) st h n cells slots) : zx_X E M Y pc (a0 :: a1 :: a2 :: y :: rr) (.int x :: st) h n cells slots :=
  zx_istore_n' (z := 3) _ hd hq hn (zx_ok1_gen [a0, a1, a2] _ _ _ (zx_n2_last rfl hc)) k
theorem zx_astore_3 {a0 a1 a2 : Option Value} {y : Option Value} {rr : List (Option Value)} {x : Nat} (hd : decode M.2.2.1 pc = .ok (.astore_n 3, 1)) (hq : pc + 1 = q) (hn : 3 < M.2.2.2.1) (hc : zx_n2 a2 = true) (k : zx_X E M Y q (a0 :: a1 :: a2 :: some (.ref x) :: rr) st h n cells slots) : zx_X E M Y pc (a0 :: a1 :: a2 :: y :: rr) (.ref x :: st) h n cells slots :=
  zx_astore_n' (z := 3) _ hd hq hn (zx_ok1_gen [a0, a1, a2] _ _ _ (zx_n2_last rfl hc)) k
theorem zx_lstore_3 {a0 a1 a2 : Option Value} {y y' : Option Value} {rr : List (Option Value)} {x : Int64} (hd : decode M.2.2.1 pc = .ok (.lstore_n 3, 1)) (hq : pc + 1 = q) (hn : 3 + 1 < M.2.2.2.1) (hc : zx_n2 a2 = true) (k : zx_X E M Y q (a0 :: a1 :: a2 :: some (.long x) :: none :: rr) st h n cells slots) : zx_X E M Y pc (a0 :: a1 :: a2 :: y :: y' :: rr) (.long x :: st) h n cells slots :=
  zx_lstore_n' (z := 3) _ hd hq hn (zx_ok2_gen [a0, a1, a2] _ _ _ _ (zx_n2_last rfl hc)) k
theorem zx_iinc_3 {a0 a1 a2 : Option Value} {rr : List (Option Value)} {z : Int} {x : Int32} (d : Int32) (hd : decode M.2.2.1 pc = .ok (.iinc 3 z, 3)) (hq : pc + 3 = q) (hz : Int32.ofInt z = d) (hn : 3 < M.2.2.2.1) (hc : zx_n2 a2 = true) (k : zx_X E M Y q (a0 :: a1 :: a2 :: some (.int (x + d)) :: rr) st h n cells slots) : zx_X E M Y pc (a0 :: a1 :: a2 :: some (.int x) :: rr) st h n cells slots :=
  zx_iinc' d _ hd hq hz hn rfl (zx_ok1_gen [a0, a1, a2] _ _ _ (zx_n2_last rfl hc)) k
theorem zx_istore_4 {a0 a1 a2 a3 : Option Value} {y : Option Value} {rr : List (Option Value)} {x : Int32} (hd : decode M.2.2.1 pc = .ok (.istore 4, 2)) (hq : pc + 2 = q) (hn : 4 < M.2.2.2.1) (hc : zx_n2 a3 = true) (k : zx_X E M Y q (a0 :: a1 :: a2 :: a3 :: some (.int x) :: rr) st h n cells slots) : zx_X E M Y pc (a0 :: a1 :: a2 :: a3 :: y :: rr) (.int x :: st) h n cells slots :=
  zx_istore' (i := 4) _ hd hq hn (zx_ok1_gen [a0, a1, a2, a3] _ _ _ (zx_n2_last rfl hc)) k
theorem zx_astore_4 {a0 a1 a2 a3 : Option Value} {y : Option Value} {rr : List (Option Value)} {x : Nat} (hd : decode M.2.2.1 pc = .ok (.astore 4, 2)) (hq : pc + 2 = q) (hn : 4 < M.2.2.2.1) (hc : zx_n2 a3 = true) (k : zx_X E M Y q (a0 :: a1 :: a2 :: a3 :: some (.ref x) :: rr) st h n cells slots) : zx_X E M Y pc (a0 :: a1 :: a2 :: a3 :: y :: rr) (.ref x :: st) h n cells slots :=
  zx_astore' (i := 4) _ hd hq hn (zx_ok1_gen [a0, a1, a2, a3] _ _ _ (zx_n2_last rfl hc)) k
theorem zx_lstore_4 {a0 a1 a2 a3 : Option Value} {y y' : Option Value} {rr : List (Option Value)} {x : Int64} (hd : decode M.2.2.1 pc = .ok (.lstore 4, 2)) (hq : pc + 2 = q) (hn : 4 + 1 < M.2.2.2.1) (hc : zx_n2 a3 = true) (k : zx_X E M Y q (a0 :: a1 :: a2 :: a3 :: some (.long x) :: none :: rr) st h n cells slots) : zx_X E M Y pc (a0 :: a1 :: a2 :: a3 :: y :: y' :: rr) (.long x :: st) h n cells slots :=
  zx_lstore' (i := 4) _ hd hq hn (zx_ok2_gen [a0, a1, a2, a3] _ _ _ _ (zx_n2_last rfl hc)) k
theorem zx_iinc_4 {a0 a1 a2 a3 : Option Value} {rr : List (Option Value)} {z : Int} {x : Int32} (d : Int32) (hd : decode M.2.2.1 pc = .ok (.iinc 4 z, 3)) (hq : pc + 3 = q) (hz : Int32.ofInt z = d) (hn : 4 < M.2.2.2.1) (hc : zx_n2 a3 = true) (k : zx_X E M Y q (a0 :: a1 :: a2 :: a3 :: some (.int (x + d)) :: rr) st h n cells slots) : zx_X E M Y pc (a0 :: a1 :: a2 :: a3 :: some (.int x) :: rr) st h n cells slots :=
  zx_iinc' d _ hd hq hz hn rfl (zx_ok1_gen [a0, a1, a2, a3] _ _ _ (zx_n2_last rfl hc)) k
theorem zx_istore_5 {a0 a1 a2 a3 a4 : Option Value} {y : Option Value} {rr : List (Option Value)} {x : Int32} (hd : decode M.2.2.1 pc = .ok (.istore 5, 2)) (hq : pc + 2 = q) (hn : 5 < M.2.2.2.1) (hc : zx_n2 a4 = true) (k : zx_X E M Y q (a0 :: a1 :: a2 :: a3 :: a4 :: some (.int x) :: rr) st h n cells slots) : zx_X E M Y pc (a0 :: a1 :: a2 :: a3 :: a4 :: y :: rr) (.int x :: st) h n cells slots :=
  zx_istore' (i := 5) _ hd hq hn (zx_ok1_gen [a0, a1, a2, a3, a4] _ _ _ (zx_n2_last rfl hc)) k
theorem zx_astore_5 {a0 a1 a2 a3 a4 : Option Value} {y : Option Value} {rr : List (Option Value)} {x : Nat} (hd : decode M.2.2.1 pc = .ok (.astore 5, 2)) (hq : pc + 2 = q) (hn : 5 < M.2.2.2.1) (hc : zx_n2 a4 = true) (k : zx_X E M Y q (a0 :: a1 :: a2 :: a3 :: a4 :: some (.ref x) :: rr) st h n cells slots) : zx_X E M Y pc (a0 :: a1 :: a2 :: a3 :: a4 :: y :: rr) (.ref x :: st) h n cells slots :=
  zx_astore' (i := 5) _ hd hq hn (zx_ok1_gen [a0, a1, a2, a3, a4] _ _ _ (zx_n2_last rfl hc)) k
theorem zx_lstore_5 {a0 a1 a2 a3 a4 : Option Value} {y y' : Option Value} {rr : List (Option Value)} {x : Int64} (hd : decode M.2.2.1 pc = .ok (.lstore 5, 2)) (hq : pc + 2 = q) (hn : 5 + 1 < M.2.2.2.1) (hc : zx_n2 a4 = true) (k : zx_X E M Y q (a0 :: a1 :: a2 :: a3 :: a4 :: some (.long x) :: none :: rr) st h n cells slots) : zx_X E M Y pc (a0 :: a1 :: a2 :: a3 :: a4 :: y :: y' :: rr) (.long x :: st) h n cells slots :=
  zx_lstore' (i := 5) _ hd hq hn (zx_ok2_gen [a0, a1, a2, a3, a4] _ _ _ _ (zx_n2_last rfl hc)) k
theorem zx_iinc_5 {a0 a1 a2 a3 a4 : Option Value} {rr : List (Option Value)} {z : Int} {x : Int32} (d : Int32) (hd : decode M.2.2.1 pc = .ok (.iinc 5 z, 3)) (hq : pc + 3 = q) (hz : Int32.ofInt z = d) (hn : 5 < M.2.2.2.1) (hc : zx_n2 a4 = true) (k : zx_X E M Y q (a0 :: a1 :: a2 :: a3 :: a4 :: some (.int (x + d)) :: rr) st h n cells slots) : zx_X E M Y pc (a0 :: a1 :: a2 :: a3 :: a4 :: some (.int x) :: rr) st h n cells slots :=
  zx_iinc' d _ hd hq hz hn rfl (zx_ok1_gen [a0, a1, a2, a3, a4] _ _ _ (zx_n2_last rfl hc)) k
theorem zx_istore_6 {a0 a1 a2 a3 a4 a5 : Option Value} {y : Option Value} {rr : List (Option Value)} {x : Int32} (hd : decode M.2.2.1 pc = .ok (.istore 6, 2)) (hq : pc + 2 = q) (hn : 6 < M.2.2.2.1) (hc : zx_n2 a5 = true) (k : zx_X E M Y q (a0 :: a1 :: a2 :: a3 :: a4 :: a5 :: some (.int x) :: rr) st h n cells slots) : zx_X E M Y pc (a0 :: a1 :: a2 :: a3 :: a4 :: a5 :: y :: rr) (.int x :: st) h n cells slots :=
  zx_istore' (i := 6) _ hd hq hn (zx_ok1_gen [a0, a1, a2, a3, a4, a5] _ _ _ (zx_n2_last rfl hc)) k
theorem zx_astore_6 {a0 a1 a2 a3 a4 a5 : Option Value} {y : Option Value} {rr : List (Option Value)} {x : Nat} (hd : decode M.2.2.1 pc = .ok (.astore 6, 2)) (hq : pc + 2 = q) (hn : 6 < M.2.2.2.1) (hc : zx_n2 a5 = true) (k : zx_X E M Y q (a0 :: a1 :: a2 :: a3 :: a4 :: a5 :: some (.ref x) :: rr) st h n cells slots) : zx_X E M Y pc (a0 :: a1 :: a2 :: a3 :: a4 :: a5 :: y :: rr) (.ref x :: st) h n cells slots :=
  zx_astore' (i := 6) _ hd hq hn (zx_ok1_gen [a0, a1, a2, a3, a4, a5] _ _ _ (zx_n2_last rfl hc)) k
theorem zx_lstore_6 {a0 a1 a2 a3 a4 a5 : Option Value} {y y' : Option Value} {rr : List (Option Value)} {x : Int64} (hd : decode M.2.2.1 pc = .ok (.lstore 6, 2)) (hq : pc + 2 = q) (hn : 6 + 1 < M.2.2.2.1) (hc : zx_n2 a5 = true) (k : zx_X E M Y q (a0 :: a1 :: a2 :: a3 :: a4 :: a5 :: some (.long x) :: none :: rr) st h n cells slots) : zx_X E M Y pc (a0 :: a1 :: a2 :: a3 :: a4 :: a5 :: y :: y' :: rr) (.long x :: st) h n cells slots :=
  zx_lstore' (i := 6) _ hd hq hn (zx_ok2_gen [a0, a1, a2, a3, a4, a5] _ _ _ _ (zx_n2_last rfl hc)) k
theorem zx_iinc_6 {a0 a1 a2 a3 a4 a5 : Option Value} {rr : List (Option Value)} {z : Int} {x : Int32} (d : Int32) (hd : decode M.2.2.1 pc = .ok (.iinc 6 z, 3)) (hq : pc + 3 = q) (hz : Int32.ofInt z = d) (hn : 6 < M.2.2.2.1) (hc : zx_n2 a5 = true) (k : zx_X E M Y q (a0 :: a1 :: a2 :: a3 :: a4 :: a5 :: some (.int (x + d)) :: rr) st h n cells slots) : zx_X E M Y pc (a0 :: a1 :: a2 :: a3 :: a4 :: a5 :: some (.int x) :: rr) st h n cells slots :=
  zx_iinc' d _ hd hq hz hn rfl (zx_ok1_gen [a0, a1, a2, a3, a4, a5] _ _ _ (zx_n2_last rfl hc)) k
theorem zx_istore_7 {a0 a1 a2 a3 a4 a5 a6 : Option Value} {y : Option Value} {rr : List (Option Value)} {x : Int32} (hd : decode M.2.2.1 pc = .ok (.istore 7, 2)) (hq : pc + 2 = q) (hn : 7 < M.2.2.2.1) (hc : zx_n2 a6 = true) (k : zx_X E M Y q (a0 :: a1 :: a2 :: a3 :: a4 :: a5 :: a6 :: some (.int x) :: rr) st h n cells slots) : zx_X E M Y pc (a0 :: a1 :: a2 :: a3 :: a4 :: a5 :: a6 :: y :: rr) (.int x :: st) h n cells slots :=
  zx_istore' (i := 7) _ hd hq hn (zx_ok1_gen [a0, a1, a2, a3, a4, a5, a6] _ _ _ (zx_n2_last rfl hc)) k
theorem zx_astore_7 {a0 a1 a2 a3 a4 a5 a6 : Option Value} {y : Option Value} {rr : List (Option Value)} {x : Nat} (hd : decode M.2.2.1 pc = .ok (.astore 7, 2)) (hq : pc + 2 = q) (hn : 7 < M.2.2.2.1) (hc : zx_n2 a6 = true) (k : zx_X E M Y q (a0 :: a1 :: a2 :: a3 :: a4 :: a5 :: a6 :: some (.ref x) :: rr) st h n cells slots) : zx_X E M Y pc (a0 :: a1 :: a2 :: a3 :: a4 :: a5 :: a6 :: y :: rr) (.ref x :: st) h n cells slots :=
  zx_astore' (i := 7) _ hd hq hn (zx_ok1_gen [a0, a1, a2, a3, a4, a5, a6] _ _ _ (zx_n2_last rfl hc)) k
theorem zx_lstore_7 {a0 a1 a2 a3 a4 a5 a6 : Option Value} {y y' : Option Value} {rr : List (Option Value)} {x : Int64} (hd : decode M.2.2.1 pc = .ok (.lstore 7, 2)) (hq : pc + 2 = q) (hn : 7 + 1 < M.2.2.2.1) (hc : zx_n2 a6 = true) (k : zx_X E M Y q (a0 :: a1 :: a2 :: a3 :: a4 :: a5 :: a6 :: some (.long x) :: none :: rr) st h n cells slots) : zx_X E M Y pc (a0 :: a1 :: a2 :: a3 :: a4 :: a5 :: a6 :: y :: y' :: rr) (.long x :: st) h n cells slots :=
  zx_lstore' (i := 7) _ hd hq hn (zx_ok2_gen [a0, a1, a2, a3, a4, a5, a6] _ _ _ _ (zx_n2_last rfl hc)) k
theorem zx_iinc_7 {a0 a1 a2 a3 a4 a5 a6 : Option Value} {rr : List (Option Value)} {z : Int} {x : Int32} (d : Int32) (hd : decode M.2.2.1 pc = .ok (.iinc 7 z, 3)) (hq : pc + 3 = q) (hz : Int32.ofInt z = d) (hn : 7 < M.2.2.2.1) (hc : zx_n2 a6 = true) (k : zx_X E M Y q (a0 :: a1 :: a2 :: a3 :: a4 :: a5 :: a6 :: some (.int (x + d)) :: rr) st h n cells slots) : zx_X E M Y pc (a0 :: a1 :: a2 :: a3 :: a4 :: a5 :: a6 :: some (.int x) :: rr) st h n cells slots :=
  zx_iinc' d _ hd hq hz hn rfl (zx_ok1_gen [a0, a1, a2, a3, a4, a5, a6] _ _ _ (zx_n2_last rfl hc)) k
theorem zx_istore_8 {a0 a1 a2 a3 a4 a5 a6 a7 : Option Value} {y : Option Value} {rr : List (Option Value)} {x : Int32} (hd : decode M.2.2.1 pc = .ok (.istore 8, 2)) (hq : pc + 2 = q) (hn : 8 < M.2.2.2.1) (hc : zx_n2 a7 = true) (k : zx_X E M Y q (a0 :: a1 :: a2 :: a3 :: a4 :: a5 :: a6 :: a7 :: some (.int x) :: rr) st h n cells slots) : zx_X E M Y pc (a0 :: a1 :: a2 :: a3 :: a4 :: a5 :: a6 :: a7 :: y :: rr) (.int x :: st) h n cells slots :=
  zx_istore' (i := 8) _ hd hq hn (zx_ok1_gen [a0, a1, a2, a3, a4, a5, a6, a7] _ _ _ (zx_n2_last rfl hc)) k
theorem zx_astore_8 {a0 a1 a2 a3 a4 a5 a6 a7 : Option Value} {y : Option Value} {rr : List (Option Value)} {x : Nat} (hd : decode M.2.2.1 pc = .ok (.astore 8, 2)) (hq : pc + 2 = q) (hn : 8 < M.2.2.2.1) (hc : zx_n2 a7 = true) (k : zx_X E M Y q (a0 :: a1 :: a2 :: a3 :: a4 :: a5 :: a6 :: a7 :: some (.ref x) :: rr) st h n cells slots) : zx_X E M Y pc (a0 :: a1 :: a2 :: a3 :: a4 :: a5 :: a6 :: a7 :: y :: rr) (.ref x :: st) h n cells slots :=
  zx_astore' (i := 8) _ hd hq hn (zx_ok1_gen [a0, a1, a2, a3, a4, a5, a6, a7] _ _ _ (zx_n2_last rfl hc)) k
theorem zx_lstore_8 {a0 a1 a2 a3 a4 a5 a6 a7 : Option Value} {y y' : Option Value} {rr : List (Option Value)} {x : Int64} (hd : decode M.2.2.1 pc = .ok (.lstore 8, 2)) (hq : pc + 2 = q) (hn : 8 + 1 < M.2.2.2.1) (hc : zx_n2 a7 = true) (k : zx_X E M Y q (a0 :: a1 :: a2 :: a3 :: a4 :: a5 :: a6 :: a7 :: some (.long x) :: none :: rr) st h n cells slots) : zx_X E M Y pc (a0 :: a1 :: a2 :: a3 :: a4 :: a5 :: a6 :: a7 :: y :: y' :: rr) (.long x :: st) h n cells slots :=
  zx_lstore' (i := 8) _ hd hq hn (zx_ok2_gen [a0, a1, a2, a3, a4, a5, a6, a7] _ _ _ _ (zx_n2_last rfl hc)) k
theorem zx_iinc_8 {a0 a1 a2 a3 a4 a5 a6 a7 : Option Value} {rr : List (Option Value)} {z : Int} {x : Int32} (d : Int32) (hd : decode M.2.2.1 pc = .ok (.iinc 8 z, 3)) (hq : pc + 3 = q) (hz : Int32.ofInt z = d) (hn : 8 < M.2.2.2.1) (hc : zx_n2 a7 = true) (k : zx_X E M Y q (a0 :: a1 :: a2 :: a3 :: a4 :: a5 :: a6 :: a7 :: some (.int (x + d)) :: rr) st h n cells slots) : zx_X E M Y pc (a0 :: a1 :: a2 :: a3 :: a4 :: a5 :: a6 :: a7 :: some (.int x) :: rr) st h n cells slots :=
  zx_iinc' d _ hd hq hz hn rfl (zx_ok1_gen [a0, a1, a2, a3, a4, a5, a6, a7] _ _ _ (zx_n2_last rfl hc)) k
theorem zx_istore_9 {a0 a1 a2 a3 a4 a5 a6 a7 a8 : Option Value} {y : Option Value} {rr : List (Option Value)} {x : Int32} (hd : decode M.2.2.1 pc = .ok (.istore 9, 2)) (hq : pc + 2 = q) (hn : 9 < M.2.2.2.1) (hc : zx_n2 a8 = true) (k : zx_X E M Y q (a0 :: a1 :: a2 :: a3 :: a4 :: a5 :: a6 :: a7 :: a8 :: some (.int x) :: rr) st h n cells slots) : zx_X E M Y pc (a0 :: a1 :: a2 :: a3 :: a4 :: a5 :: a6 :: a7 :: a8 :: y :: rr) (.int x :: st) h n cells slots :=
  zx_istore' (i := 9) _ hd hq hn (zx_ok1_gen [a0, a1, a2, a3, a4, a5, a6, a7, a8] _ _ _ (zx_n2_last rfl hc)) k
theorem zx_astore_9 {a0 a1 a2 a3 a4 a5 a6 a7 a8 : Option Value} {y : Option Value} {rr : List (Option Value)} {x : Nat} (hd : decode M.2.2.1 pc = .ok (.astore 9, 2)) (hq : pc + 2 = q) (hn : 9 < M.2.2.2.1) (hc : zx_n2 a8 = true) (k : zx_X E M Y q (a0 :: a1 :: a2 :: a3 :: a4 :: a5 :: a6 :: a7 :: a8 :: some (.ref x) :: rr) st h n cells slots) : zx_X E M Y pc (a0 :: a1 :: a2 :: a3 :: a4 :: a5 :: a6 :: a7 :: a8 :: y :: rr) (.ref x :: st) h n cells slots :=
  zx_astore' (i := 9) _ hd hq hn (zx_ok1_gen [a0, a1, a2, a3, a4, a5, a6, a7, a8] _ _ _ (zx_n2_last rfl hc)) k
theorem zx_lstore_9 {a0 a1 a2 a3 a4 a5 a6 a7 a8 : Option Value} {y y' : Option Value} {rr : List (Option Value)} {x : Int64} (hd : decode M.2.2.1 pc = .ok (.lstore 9, 2)) (hq : pc + 2 = q) (hn : 9 + 1 < M.2.2.2.1) (hc : zx_n2 a8 = true) (k : zx_X E M Y q (a0 :: a1 :: a2 :: a3 :: a4 :: a5 :: a6 :: a7 :: a8 :: some (.long x) :: none :: rr) st h n cells slots) : zx_X E M Y pc (a0 :: a1 :: a2 :: a3 :: a4 :: a5 :: a6 :: a7 :: a8 :: y :: y' :: rr) (.long x :: st) h n cells slots :=
  zx_lstore' (i := 9) _ hd hq hn (zx_ok2_gen [a0, a1, a2, a3, a4, a5, a6, a7, a8] _ _ _ _ (zx_n2_last rfl hc)) k
theorem zx_iinc_9 {a0 a1 a2 a3 a4 a5 a6 a7 a8 : Option Value} {rr : List (Option Value)} {z : Int} {x : Int32} (d : Int32) (hd : decode M.2.2.1 pc = .ok (.iinc 9 z, 3)) (hq : pc + 3 = q) (hz : Int32.ofInt z = d) (hn : 9 < M.2.2.2.1) (hc : zx_n2 a8 = true) (k : zx_X E M Y q (a0 :: a1 :: a2 :: a3 :: a4 :: a5 :: a6 :: a7 :: a8 :: some (.int (x + d)) :: rr) st h n cells slots) : zx_X E M Y pc (a0 :: a1 :: a2 :: a3 :: a4 :: a5 :: a6 :: a7 :: a8 :: some (.int x) :: rr) st h n cells slots :=
  zx_iinc' d _ hd hq hz hn rfl (zx_ok1_gen [a0, a1, a2, a3, a4, a5, a6, a7, a8] _ _ _ (zx_n2_last rfl hc)) k
theorem zx_istore_10 {a0 a1 a2 a3 a4 a5 a6 a7 a8 a9 : Option Value} {y : Option Value} {rr : List (Option Value)} {x : Int32} (hd : decode M.2.2.1 pc = .ok (.istore 10, 2)) (hq : pc + 2 = q) (hn : 10 < M.2.2.2.1) (hc : zx_n2 a9 = true) (k : zx_X E M Y q (a0 :: a1 :: a2 :: a3 :: a4 :: a5 :: a6 :: a7 :: a8 :: a9 :: some (.int x) :: rr) st h n cells slots) : zx_X E M Y pc (a0 :: a1 :: a2 :: a3 :: a4 :: a5 :: a6 :: a7 :: a8 :: a9 :: y :: rr) (.int x :: st) h n cells slots :=
  zx_istore' (i := 10) _ hd hq hn (zx_ok1_gen [a0, a1, a2, a3, a4, a5, a6, a7, a8, a9] _ _ _ (zx_n2_last rfl hc)) k
theorem zx_astore_10 {a0 a1 a2 a3 a4 a5 a6 a7 a8 a9 : Option Value} {y : Option Value} {rr : List (Option Value)} {x : Nat} (hd : decode M.2.2.1 pc = .ok (.astore 10, 2)) (hq : pc + 2 = q) (hn : 10 < M.2.2.2.1) (hc : zx_n2 a9 = true) (k : zx_X E M Y q (a0 :: a1 :: a2 :: a3 :: a4 :: a5 :: a6 :: a7 :: a8 :: a9 :: some (.ref x) :: rr) st h n cells slots) : zx_X E M Y pc (a0 :: a1 :: a2 :: a3 :: a4 :: a5 :: a6 :: a7 :: a8 :: a9 :: y :: rr) (.ref x :: st) h n cells slots :=
  zx_astore' (i := 10) _ hd hq hn (zx_ok1_gen [a0, a1, a2, a3, a4, a5, a6, a7, a8, a9] _ _ _ (zx_n2_last rfl hc)) k
theorem zx_lstore_10 {a0 a1 a2 a3 a4 a5 a6 a7 a8 a9 : Option Value} {y y' : Option Value} {rr : List (Option Value)} {x : Int64} (hd : decode M.2.2.1 pc = .ok (.lstore 10, 2)) (hq : pc + 2 = q) (hn : 10 + 1 < M.2.2.2.1) (hc : zx_n2 a9 = true) (k : zx_X E M Y q (a0 :: a1 :: a2 :: a3 :: a4 :: a5 :: a6 :: a7 :: a8 :: a9 :: some (.long x) :: none :: rr) st h n cells slots) : zx_X E M Y pc (a0 :: a1 :: a2 :: a3 :: a4 :: a5 :: a6 :: a7 :: a8 :: a9 :: y :: y' :: rr) (.long x :: st) h n cells slots :=
  zx_lstore' (i := 10) _ hd hq hn (zx_ok2_gen [a0, a1, a2, a3, a4, a5, a6, a7, a8, a9] _ _ _ _ (zx_n2_last rfl hc)) k
theorem zx_iinc_10 {a0 a1 a2 a3 a4 a5 a6 a7 a8 a9 : Option Value} {rr : List (Option Value)} {z : Int} {x : Int32} (d : Int32) (hd : decode M.2.2.1 pc = .ok (.iinc 10 z, 3)) (hq : pc + 3 = q) (hz : Int32.ofInt z = d) (hn : 10 < M.2.2.2.1) (hc : zx_n2 a9 = true) (k : zx_X E M Y q (a0 :: a1 :: a2 :: a3 :: a4 :: a5 :: a6 :: a7 :: a8 :: a9 :: some (.int (x + d)) :: rr) st h n cells slots) : zx_X E M Y pc (a0 :: a1 :: a2 :: a3 :: a4 :: a5 :: a6 :: a7 :: a8 :: a9 :: some (.int x) :: rr) st h n cells slots :=
  zx_iinc' d _ hd hq hz hn rfl (zx_ok1_gen [a0, a1, a2, a3, a4, a5, a6, a7, a8, a9] _ _ _ (zx_n2_last rfl hc)) k
theorem zx_istore_11 {a0 a1 a2 a3 a4 a5 a6 a7 a8 a9 a10 : Option Value} {y : Option Value} {rr : List (Option Value)} {x : Int32} (hd : decode M.2.2.1 pc = .ok (.istore 11, 2)) (hq : pc + 2 = q) (hn : 11 < M.2.2.2.1) (hc : zx_n2 a10 = true) (k : zx_X E M Y q (a0 :: a1 :: a2 :: a3 :: a4 :: a5 :: a6 :: a7 :: a8 :: a9 :: a10 :: some (.int x) :: rr) st h n cells slots) : zx_X E M Y pc (a0 :: a1 :: a2 :: a3 :: a4 :: a5 :: a6 :: a7 :: a8 :: a9 :: a10 :: y :: rr) (.int x :: st) h n cells slots :=
  zx_istore' (i := 11) _ hd hq hn (zx_ok1_gen [a0, a1, a2, a3, a4, a5, a6, a7, a8, a9, a10] _ _ _ (zx_n2_last rfl hc)) k
theorem zx_astore_11 {a0 a1 a2 a3 a4 a5 a6 a7 a8 a9 a10 : Option Value} {y : Option Value} {rr : List (Option Value)} {x : Nat} (hd : decode M.2.2.1 pc = .ok (.astore 11, 2)) (hq : pc + 2 = q) (hn : 11 < M.2.2.2.1) (hc : zx_n2 a10 = true) (k : zx_X E M Y q (a0 :: a1 :: a2 :: a3 :: a4 :: a5 :: a6 :: a7 :: a8 :: a9 :: a10 :: some (.ref x) :: rr) st h n cells slots) : zx_X E M Y pc (a0 :: a1 :: a2 :: a3 :: a4 :: a5 :: a6 :: a7 :: a8 :: a9 :: a10 :: y :: rr) (.ref x :: st) h n cells slots :=
  zx_astore' (i := 11) _ hd hq hn (zx_ok1_gen [a0, a1, a2, a3, a4, a5, a6, a7, a8, a9, a10] _ _ _ (zx_n2_last rfl hc)) k
theorem zx_lstore_11 {a0 a1 a2 a3 a4 a5 a6 a7 a8 a9 a10 : Option Value} {y y' : Option Value} {rr : List (Option Value)} {x : Int64} (hd : decode M.2.2.1 pc = .ok (.lstore 11, 2)) (hq : pc + 2 = q) (hn : 11 + 1 < M.2.2.2.1) (hc : zx_n2 a10 = true) (k : zx_X E M Y q (a0 :: a1 :: a2 :: a3 :: a4 :: a5 :: a6 :: a7 :: a8 :: a9 :: a10 :: some (.long x) :: none :: rr) st h n cells slots) : zx_X E M Y pc (a0 :: a1 :: a2 :: a3 :: a4 :: a5 :: a6 :: a7 :: a8 :: a9 :: a10 :: y :: y' :: rr) (.long x :: st) h n cells slots :=
  zx_lstore' (i := 11) _ hd hq hn (zx_ok2_gen [a0, a1, a2, a3, a4, a5, a6, a7, a8, a9, a10] _ _ _ _ (zx_n2_last rfl hc)) k
theorem zx_iinc_11 {a0 a1 a2 a3 a4 a5 a6 a7 a8 a9 a10 : Option Value} {rr : List (Option Value)} {z : Int} {x : Int32} (d : Int32) (hd : decode M.2.2.1 pc = .ok (.iinc 11 z, 3)) (hq : pc + 3 = q) (hz : Int32.ofInt z = d) (hn : 11 < M.2.2.2.1) (hc : zx_n2 a10 = true) (k : zx_X E M Y q (a0 :: a1 :: a2 :: a3 :: a4 :: a5 :: a6 :: a7 :: a8 :: a9 :: a10 :: some (.int (x + d)) :: rr) st h n cells slots) : zx_X E M Y pc (a0 :: a1 :: a2 :: a3 :: a4 :: a5 :: a6 :: a7 :: a8 :: a9 :: a10 :: some (.int x) :: rr) st h n cells slots :=
  zx_iinc' d _ hd hq hz hn rfl (zx_ok1_gen [a0, a1, a2, a3, a4, a5, a6, a7, a8, a9, a10] _ _ _ (zx_n2_last rfl hc)) k
theorem zx_istore_12 {a0 a1 a2 a3 a4 a5 a6 a7 a8 a9 a10 a11 : Option Value} {y : Option Value} {rr : List (Option Value)} {x : Int32} (hd : decode M.2.2.1 pc = .ok (.istore 12, 2)) (hq : pc + 2 = q) (hn : 12 < M.2.2.2.1) (hc : zx_n2 a11 = true) (k : zx_X E M Y q (a0 :: a1 :: a2 :: a3 :: a4 :: a5 :: a6 :: a7 :: a8 :: a9 :: a10 :: a11 :: some (.int x) :: rr) st h n cells slots) : zx_X E M Y pc (a0 :: a1 :: a2 :: a3 :: a4 :: a5 :: a6 :: a7 :: a8 :: a9 :: a10 :: a11 :: y :: rr) (.int x :: st) h n cells slots :=
  zx_istore' (i := 12) _ hd hq hn (zx_ok1_gen [a0, a1, a2, a3, a4, a5, a6, a7, a8, a9, a10, a11] _ _ _ (zx_n2_last rfl hc)) k
theorem zx_astore_12 {a0 a1 a2 a3 a4 a5 a6 a7 a8 a9 a10 a11 : Option Value} {y : Option Value} {rr : List (Option Value)} {x : Nat} (hd : decode M.2.2.1 pc = .ok (.astore 12, 2)) (hq : pc + 2 = q) (hn : 12 < M.2.2.2.1) (hc : zx_n2 a11 = true) (k : zx_X E M Y q (a0 :: a1 :: a2 :: a3 :: a4 :: a5 :: a6 :: a7 :: a8 :: a9 :: a10 :: a11 :: some (.ref x) :: rr) st h n cells slots) : zx_X E M Y pc (a0 :: a1 :: a2 :: a3 :: a4 :: a5 :: a6 :: a7 :: a8 :: a9 :: a10 :: a11 :: y :: rr) (.ref x :: st) h n cells slots :=
  zx_astore' (i := 12) _ hd hq hn (zx_ok1_gen [a0, a1, a2, a3, a4, a5, a6, a7, a8, a9, a10, a11] _ _ _ (zx_n2_last rfl hc)) k
theorem zx_lstore_12 {a0 a1 a2 a3 a4 a5 a6 a7 a8 a9 a10 a11 : Option Value} {y y' : Option Value} {rr : List (Option Value)} {x : Int64} (hd : decode M.2.2.1 pc = .ok (.lstore 12, 2)) (hq : pc + 2 = q) (hn : 12 + 1 < M.2.2.2.1) (hc : zx_n2 a11 = true) (k : zx_X E M Y q (a0 :: a1 :: a2 :: a3 :: a4 :: a5 :: a6 :: a7 :: a8 :: a9 :: a10 :: a11 :: some (.long x) :: none :: rr) st h n cells slots) : zx_X E M Y pc (a0 :: a1 :: a2 :: a3 :: a4 :: a5 :: a6 :: a7 :: a8 :: a9 :: a10 :: a11 :: y :: y' :: rr) (.long x :: st) h n cells slots :=
  zx_lstore' (i := 12) _ hd hq hn (zx_ok2_gen [a0, a1, a2, a3, a4, a5, a6, a7, a8, a9, a10, a11] _ _ _ _ (zx_n2_last rfl hc)) k
theorem zx_iinc_12 {a0 a1 a2 a3 a4 a5 a6 a7 a8 a9 a10 a11 : Option Value} {rr : List (Option Value)} {z : Int} {x : Int32} (d : Int32) (hd : decode M.2.2.1 pc = .ok (.iinc 12 z, 3)) (hq : pc + 3 = q) (hz : Int32.ofInt z = d) (hn : 12 < M.2.2.2.1) (hc : zx_n2 a11 = true) (k : zx_X E M Y q (a0 :: a1 :: a2 :: a3 :: a4 :: a5 :: a6 :: a7 :: a8 :: a9 :: a10 :: a11 :: some (.int (x + d)) :: rr) st h n cells slots) : zx_X E M Y pc (a0 :: a1 :: a2 :: a3 :: a4 :: a5 :: a6 :: a7 :: a8 :: a9 :: a10 :: a11 :: some (.int x) :: rr) st h n cells slots :=
  zx_iinc' d _ hd hq hz hn rfl (zx_ok1_gen [a0, a1, a2, a3, a4, a5, a6, a7, a8, a9, a10, a11] _ _ _ (zx_n2_last rfl hc)) k
theorem zx_istore_13 {a0 a1 a2 a3 a4 a5 a6 a7 a8 a9 a10 a11 a12 : Option Value} {y : Option Value} {rr : List (Option Value)} {x : Int32} (hd : decode M.2.2.1 pc = .ok (.istore 13, 2)) (hq : pc + 2 = q) (hn : 13 < M.2.2.2.1) (hc : zx_n2 a12 = true) (k : zx_X E M Y q (a0 :: a1 :: a2 :: a3 :: a4 :: a5 :: a6 :: a7 :: a8 :: a9 :: a10 :: a11 :: a12 :: some (.int x) :: rr) st h n cells slots) : zx_X E M Y pc (a0 :: a1 :: a2 :: a3 :: a4 :: a5 :: a6 :: a7 :: a8 :: a9 :: a10 :: a11 :: a12 :: y :: rr) (.int x :: st) h n cells slots :=
  zx_istore' (i := 13) _ hd hq hn (zx_ok1_gen [a0, a1, a2, a3, a4, a5, a6, a7, a8, a9, a10, a11, a12] _ _ _ (zx_n2_last rfl hc)) k
theorem zx_astore_13 {a0 a1 a2 a3 a4 a5 a6 a7 a8 a9 a10 a11 a12 : Option Value} {y : Option Value} {rr : List (Option Value)} {x : Nat} (hd : decode M.2.2.1 pc = .ok (.astore 13, 2)) (hq : pc + 2 = q) (hn : 13 < M.2.2.2.1) (hc : zx_n2 a12 = true) (k : zx_X E M Y q (a0 :: a1 :: a2 :: a3 :: a4 :: a5 :: a6 :: a7 :: a8 :: a9 :: a10 :: a11 :: a12 :: some (.ref x) :: rr) st h n cells slots) : zx_X E M Y pc (a0 :: a1 :: a2 :: a3 :: a4 :: a5 :: a6 :: a7 :: a8 :: a9 :: a10 :: a11 :: a12 :: y :: rr) (.ref x :: st) h n cells slots :=
  zx_astore' (i := 13) _ hd hq hn (zx_ok1_gen [a0, a1, a2, a3, a4, a5, a6, a7, a8, a9, a10, a11, a12] _ _ _ (zx_n2_last rfl hc)) k
theorem zx_lstore_13 {a0 a1 a2 a3 a4 a5 a6 a7 a8 a9 a10 a11 a12 : Option Value} {y y' : Option Value} {rr : List (Option Value)} {x : Int64} (hd : decode M.2.2.1 pc = .ok (.lstore 13, 2)) (hq : pc + 2 = q) (hn : 13 + 1 < M.2.2.2.1) (hc : zx_n2 a12 = true) (k : zx_X E M Y q (a0 :: a1 :: a2 :: a3 :: a4 :: a5 :: a6 :: a7 :: a8 :: a9 :: a10 :: a11 :: a12 :: some (.long x) :: none :: rr) st h n cells slots) : zx_X E M Y pc (a0 :: a1 :: a2 :: a3 :: a4 :: a5 :: a6 :: a7 :: a8 :: a9 :: a10 :: a11 :: a12 :: y :: y' :: rr) (.long x :: st) h n cells slots :=
  zx_lstore' (i := 13) _ hd hq hn (zx_ok2_gen [a0, a1, a2, a3, a4, a5, a6, a7, a8, a9, a10, a11, a12] _ _ _ _ (zx_n2_last rfl hc)) k
theorem zx_iinc_13 {a0 a1 a2 a3 a4 a5 a6 a7 a8 a9 a10 a11 a12 : Option Value} {rr : List (Option Value)} {z : Int} {x : Int32} (d : Int32) (hd : decode M.2.2.1 pc = .ok (.iinc 13 z, 3)) (hq : pc + 3 = q) (hz : Int32.ofInt z = d) (hn : 13 < M.2.2.2.1) (hc : zx_n2 a12 = true) (k : zx_X E M Y q (a0 :: a1 :: a2 :: a3 :: a4 :: a5 :: a6 :: a7 :: a8 :: a9 :: a10 :: a11 :: a12 :: some (.int (x + d)) :: rr) st h n cells slots) : zx_X E M Y pc (a0 :: a1 :: a2 :: a3 :: a4 :: a5 :: a6 :: a7 :: a8 :: a9 :: a10 :: a11 :: a12 :: some (.int x) :: rr) st h n cells slots :=
  zx_iinc' d _ hd hq hz hn rfl (zx_ok1_gen [a0, a1, a2, a3, a4, a5, a6, a7, a8, a9, a10, a11, a12] _ _ _ (zx_n2_last rfl hc)) k
theorem zx_if_eq {x : Int32} {off : Int} (t : Nat) (hd : decode M.2.2.1 pc = .ok (.ifCond .eq off, 3)) (hq : pc + 3 = q) (ht : (pc : Int) + off = (t : Int)) (kt : x = 0 → zx_X E M Y t L st h n cells slots) (kf : ¬ x = 0 → zx_X E M Y q L st h n cells slots) : zx_X E M Y pc L (.int x :: st) h n cells slots := by
  subst hq
  exact fun p e s m args below meth c ls H locs C hl hR hS hb => lv_if_eq C.1 C.2.1 hd ht (fun z => kt z p e s m args below meth c ls H locs C hl hR hS hb) (fun z => kf z p e s m args below meth c ls H locs C hl hR hS hb)
theorem zx_icmp_eq {x y : Int32} {off : Int} (t : Nat) (hd : decode M.2.2.1 pc = .ok (.if_icmp .eq off, 3)) (hq : pc + 3 = q) (ht : (pc : Int) + off = (t : Int)) (kt : x = y → zx_X E M Y t L st h n cells slots) (kf : ¬ x = y → zx_X E M Y q L st h n cells slots) : zx_X E M Y pc L (.int y :: .int x :: st) h n cells slots := by
  subst hq
  exact fun p e s m args below meth c ls H locs C hl hR hS hb => lv_icmp_eq C.1 C.2.1 hd ht (fun z => kt z p e s m args below meth c ls H locs C hl hR hS hb) (fun z => kf z p e s m args below meth c ls H locs C hl hR hS hb)
theorem zx_if_ne {x : Int32} {off : Int} (t : Nat) (hd : decode M.2.2.1 pc = .ok (.ifCond .ne off, 3)) (hq : pc + 3 = q) (ht : (pc : Int) + off = (t : Int)) (kt : ¬ x = 0 → zx_X E M Y t L st h n cells slots) (kf : x = 0 → zx_X E M Y q L st h n cells slots) : zx_X E M Y pc L (.int x :: st) h n cells slots := by
  subst hq
  exact fun p e s m args below meth c ls H locs C hl hR hS hb => lv_if_ne C.1 C.2.1 hd ht (fun z => kt z p e s m args below meth c ls H locs C hl hR hS hb) (fun z => kf z p e s m args below meth c ls H locs C hl hR hS hb)
theorem zx_icmp_ne {x y : Int32} {off : Int} (t : Nat) (hd : decode M.2.2.1 pc = .ok (.if_icmp .ne off, 3)) (hq : pc + 3 = q) (ht : (pc : Int) + off = (t : Int)) (kt : ¬ x = y → zx_X E M Y t L st h n cells slots) (kf : x = y → zx_X E M Y q L st h n cells slots) : zx_X E M Y pc L (.int y :: .int x :: st) h n cells slots := by
  subst hq
  exact fun p e s m args below meth c ls H locs C hl hR hS hb => lv_icmp_ne C.1 C.2.1 hd ht (fun z => kt z p e s m args below meth c ls H locs C hl hR hS hb) (fun z => kf z p e s m args below meth c ls H locs C hl hR hS hb)
theorem zx_if_lt {x : Int32} {off : Int} (t : Nat) (hd : decode M.2.2.1 pc = .ok (.ifCond .lt off, 3)) (hq : pc + 3 = q) (ht : (pc : Int) + off = (t : Int)) (kt : x < 0 → zx_X E M Y t L st h n cells slots) (kf : ¬ x < 0 → zx_X E M Y q L st h n cells slots) : zx_X E M Y pc L (.int x :: st) h n cells slots := by
  subst hq
  exact fun p e s m args below meth c ls H locs C hl hR hS hb => lv_if_lt C.1 C.2.1 hd ht (fun z => kt z p e s m args below meth c ls H locs C hl hR hS hb) (fun z => kf z p e s m args below meth c ls H locs C hl hR hS hb)
theorem zx_icmp_lt {x y : Int32} {off : Int} (t : Nat) (hd : decode M.2.2.1 pc = .ok (.if_icmp .lt off, 3)) (hq : pc + 3 = q) (ht : (pc : Int) + off = (t : Int)) (kt : x < y → zx_X E M Y t L st h n cells slots) (kf : ¬ x < y → zx_X E M Y q L st h n cells slots) : zx_X E M Y pc L (.int y :: .int x :: st) h n cells slots := by
  subst hq
  exact fun p e s m args below meth c ls H locs C hl hR hS hb => lv_icmp_lt C.1 C.2.1 hd ht (fun z => kt z p e s m args below meth c ls H locs C hl hR hS hb) (fun z => kf z p e s m args below meth c ls H locs C hl hR hS hb)
theorem zx_if_ge {x : Int32} {off : Int} (t : Nat) (hd : decode M.2.2.1 pc = .ok (.ifCond .ge off, 3)) (hq : pc + 3 = q) (ht : (pc : Int) + off = (t : Int)) (kt : 0 ≤ x → zx_X E M Y t L st h n cells slots) (kf : ¬ 0 ≤ x → zx_X E M Y q L st h n cells slots) : zx_X E M Y pc L (.int x :: st) h n cells slots := by
  subst hq
  exact fun p e s m args below meth c ls H locs C hl hR hS hb => lv_if_ge C.1 C.2.1 hd ht (fun z => kt z p e s m args below meth c ls H locs C hl hR hS hb) (fun z => kf z p e s m args below meth c ls H locs C hl hR hS hb)
theorem zx_icmp_ge {x y : Int32} {off : Int} (t : Nat) (hd : decode M.2.2.1 pc = .ok (.if_icmp .ge off, 3)) (hq : pc + 3 = q) (ht : (pc : Int) + off = (t : Int)) (kt : y ≤ x → zx_X E M Y t L st h n cells slots) (kf : ¬ y ≤ x → zx_X E M Y q L st h n cells slots) : zx_X E M Y pc L (.int y :: .int x :: st) h n cells slots := by
  subst hq
  exact fun p e s m args below meth c ls H locs C hl hR hS hb => lv_icmp_ge C.1 C.2.1 hd ht (fun z => kt z p e s m args below meth c ls H locs C hl hR hS hb) (fun z => kf z p e s m args below meth c ls H locs C hl hR hS hb)
theorem zx_if_gt {x : Int32} {off : Int} (t : Nat) (hd : decode M.2.2.1 pc = .ok (.ifCond .gt off, 3)) (hq : pc + 3 = q) (ht : (pc : Int) + off = (t : Int)) (kt : 0 < x → zx_X E M Y t L st h n cells slots) (kf : ¬ 0 < x → zx_X E M Y q L st h n cells slots) : zx_X E M Y pc L (.int x :: st) h n cells slots := by
  subst hq
  exact fun p e s m args below meth c ls H locs C hl hR hS hb => lv_if_gt C.1 C.2.1 hd ht (fun z => kt z p e s m args below meth c ls H locs C hl hR hS hb) (fun z => kf z p e s m args below meth c ls H locs C hl hR hS hb)
theorem zx_icmp_gt {x y : Int32} {off : Int} (t : Nat) (hd : decode M.2.2.1 pc = .ok (.if_icmp .gt off, 3)) (hq : pc + 3 = q) (ht : (pc : Int) + off = (t : Int)) (kt : y < x → zx_X E M Y t L st h n cells slots) (kf : ¬ y < x → zx_X E M Y q L st h n cells slots) : zx_X E M Y pc L (.int y :: .int x :: st) h n cells slots := by
  subst hq
  exact fun p e s m args below meth c ls H locs C hl hR hS hb => lv_icmp_gt C.1 C.2.1 hd ht (fun z => kt z p e s m args below meth c ls H locs C hl hR hS hb) (fun z => kf z p e s m args below meth c ls H locs C hl hR hS hb)
theorem zx_if_le {x : Int32} {off : Int} (t : Nat) (hd : decode M.2.2.1 pc = .ok (.ifCond .le off, 3)) (hq : pc + 3 = q) (ht : (pc : Int) + off = (t : Int)) (kt : x ≤ 0 → zx_X E M Y t L st h n cells slots) (kf : ¬ x ≤ 0 → zx_X E M Y q L st h n cells slots) : zx_X E M Y pc L (.int x :: st) h n cells slots := by
  subst hq
  exact fun p e s m args below meth c ls H locs C hl hR hS hb => lv_if_le C.1 C.2.1 hd ht (fun z => kt z p e s m args below meth c ls H locs C hl hR hS hb) (fun z => kf z p e s m args below meth c ls H locs C hl hR hS hb)
theorem zx_icmp_le {x y : Int32} {off : Int} (t : Nat) (hd : decode M.2.2.1 pc = .ok (.if_icmp .le off, 3)) (hq : pc + 3 = q) (ht : (pc : Int) + off = (t : Int)) (kt : x ≤ y → zx_X E M Y t L st h n cells slots) (kf : ¬ x ≤ y → zx_X E M Y q L st h n cells slots) : zx_X E M Y pc L (.int y :: .int x :: st) h n cells slots := by
  subst hq
  exact fun p e s m args below meth c ls H locs C hl hR hS hb => lv_icmp_le C.1 C.2.1 hd ht (fun z => kt z p e s m args below meth c ls H locs C hl hR hS hb) (fun z => kf z p e s m args below meth c ls H locs C hl hR hS hb)
theorem zx_goto {off : Int} (t : Nat) (hd : decode M.2.2.1 pc = .ok (.goto off, 3)) (ht : (pc : Int) + off = (t : Int)) (k : zx_X E M Y t L st h n cells slots) : zx_X E M Y pc L st h n cells slots :=
  fun p e s m args below meth c ls H locs C hl hR hS hb => lv_goto C.1 C.2.1 hd ht (k p e s m args below meth c ls H locs C hl hR hS hb)
theorem zx_topi {x x' : Int32} (e : x = x') (k : zx_X E M Y pc L (.int x' :: st) h n cells slots) : zx_X E M Y pc L (.int x :: st) h n cells slots := by rw [e]; exact k
theorem zx_topl {x x' : Int64} (e : x = x') (k : zx_X E M Y pc L (.long x' :: st) h n cells slots) : zx_X E M Y pc L (.long x :: st) h n cells slots := by rw [e]; exact k
theorem zx_heap {h' : zxH} (e : h = h') (k : zx_X E M Y pc L st h' n cells slots) : zx_X E M Y pc L st h n cells slots := by rw [e]; exact k
theorem zx_iret {v : Int32} (hd : decode M.2.2.1 pc = .ok (.ireturn, 1)) (hr : M.2.2.2.2.1 = some .int) (k : Q (some (.int v)) h n) : zx_X E M (zx_Y E M Q) pc L [.int v] h n M.2.2.2.2.2.2.1 M.2.2.2.2.2.2.2 :=
  fun p e s m args below meth c ls H locs C hl hR hS hb => W.iret C.1 C.2.1 (C.2.2.2.2.2.1.trans hr) (fun t ht hW => ⟨⟨_, h, n, rfl, k, by rw [ht]; exact hR⟩, hS.F ht⟩) hS.2.2 hd C.2.2.2.2.2.2.1
theorem zx_zret {v : Int32} (hd : decode M.2.2.1 pc = .ok (.ireturn, 1)) (hr : M.2.2.2.2.1 = some .boolean) (hv : narrow .boolean (.int v) = .int v) (k : Q (some (.int v)) h n) : zx_X E M (zx_Y E M Q) pc L [.int v] h n M.2.2.2.2.2.2.1 M.2.2.2.2.2.2.2 :=
  fun p e s m args below meth c ls H locs C hl hR hS hb => W.zret C.1 C.2.1 (C.2.2.2.2.2.1.trans hr) hv (fun t ht hW => ⟨⟨_, h, n, rfl, k, by rw [ht]; exact hR⟩, hS.F ht⟩) hS.2.2 hd C.2.2.2.2.2.2.1
theorem zx_lret {v : Int64} (hd : decode M.2.2.1 pc = .ok (.lreturn, 1)) (hr : M.2.2.2.2.1 = some .long) (k : Q (some (.long v)) h n) : zx_X E M (zx_Y E M Q) pc L [.long v] h n M.2.2.2.2.2.2.1 M.2.2.2.2.2.2.2 :=
  fun p e s m args below meth c ls H locs C hl hR hS hb => W.lret C.1 C.2.1 (C.2.2.2.2.2.1.trans hr) (fun t ht hW => ⟨⟨_, h, n, rfl, k, by rw [ht]; exact hR⟩, hS.F ht⟩) hS.2.2 hd C.2.2.2.2.2.2.1
theorem zx_aret {v : Nat} {cn : String} (hd : decode M.2.2.1 pc = .ok (.areturn, 1)) (hr : M.2.2.2.2.1 = some (.object cn)) (k : Q (some (.ref v)) h n) : zx_X E M (zx_Y E M Q) pc L [.ref v] h n M.2.2.2.2.2.2.1 M.2.2.2.2.2.2.2 :=
  fun p e s m args below meth c ls H locs C hl hR hS hb => W.aret C.1 C.2.1 (C.2.2.2.2.2.1.trans hr) (Or.inl ⟨_, rfl⟩) (Or.inr ⟨_, rfl⟩) (fun t ht hW => ⟨⟨_, h, n, rfl, k, by rw [ht]; exact hR⟩, hS.F ht⟩) hS.2.2 hd C.2.2.2.2.2.2.1
theorem zx_vret (hd : decode M.2.2.1 pc = .ok (.return_, 1)) (hr : M.2.2.2.2.1 = none) (k : Q none h n) : zx_X E M (zx_Y E M Q) pc L [] h n M.2.2.2.2.2.2.1 M.2.2.2.2.2.2.2 :=
  fun p e s m args below meth c ls H locs C hl hR hS hb => W.vret C.1 C.2.1 (C.2.2.2.2.2.1.trans hr) (fun t ht hW => ⟨⟨_, h, n, rfl, k, by rw [ht]; exact hR⟩, hS.F ht⟩) hS.2.2 hd C.2.2.2.2.2.2.1
theorem zx_widen {c1 s1 : Nat} (h1 : cells ≤ c1) (h2 : slots ≤ s1) (k : zx_X E M Y pc L st h n c1 s1) : zx_X E M Y pc L st h n cells slots := fun p e s m args below meth c ls H locs C hl hR hS hb => W.widen h1 h2 (k p e s m args below meth c ls H locs C hl hR hS hb)
theorem zx_get {idx ci k a : Nat} {fs : List Value} {v : Value} {t : FieldType} {fin : Bool} (hd : decode M.2.2.1 pc = .ok (.getfield idx, 3)) (hq : pc + 3 = q) (hf : zx_Fl M.1 idx ci k t fin) (hc : h a = some (.inr (ci, fs))) (hv : fs[k]? = some v) (kk : zx_X E M Y q L (v :: st) h n cells slots) : zx_X E M Y pc L (.ref a :: st) h n cells slots := by
  subst hq
  obtain ⟨C0, T, N, ty, ⟨h1, h2, h3, h4⟩, hk, hl', -, -, -⟩ := hf
  exact fun p e s m args below meth c ls H locs C hl hR hS hb => va_get C.1 C.2.1 C.2.2.2.2.1 h2 C.2.2.2.1 C.2.2.2.2.2.2.2.2.1.1 (hR.one hc) 0 rfl h1 k hk (C.2.2.2.2.1 _ hl') (fun _ z => z) hv hd (kk p e s m args below meth c ls H locs C hl hR hS hb)
theorem zx_put {idx ci k a : Nat} {fs : List Value} {v : Value} {t : FieldType} {h' : zxH} (hd : decode M.2.2.1 pc = .ok (.putfield idx, 3)) (hq : pc + 3 = q) (hf : zx_Fl M.1 idx ci k t false) (hc : h a = some (.inr (ci, fs))) (hn : narrow t v = v) (hfit : fits t v = true) (hlen : k < fs.length) (he : zx_up h a (.inr (ci, fs.set k v)) = h') (kk : zx_X E M Y q L st h' n cells slots) : zx_X E M Y pc L (v :: .ref a :: st) h n cells slots := by
  subst hq
  subst he
  obtain ⟨C0, T, N, ty, ⟨h1, h2, h3, h4⟩, hk, hl', hty, hfin, -⟩ := hf
  intro p e s m args below meth c ls H locs C hl hR hS hb
  have hK : va_K E.2.2.1 vwCl (zx_tys E.2.2.2) s := C.2.2.2.2.2.2.2.2.1.1
  have hts := C.2.2.2.2.1
  have hap := va_apart (own := M.1) hts h2 ty h3 h4 hK h1
  obtain ⟨r, g1, cell, q1, q2, q3, q4⟩ := (hR.2.2 _ _ hc).2
  have hr : r = (C0, T, N) := Option.some.inj (g1.symm.trans h1)
  subst hr
  obtain ⟨hS', hfc, kC, hkC, hkind⟩ := hK.1 ci _ h1
  obtain ⟨cf, kf, fi, f, hi, hsl⟩ := hS' k hk
  have hlay := hts _ (h2 _ (u_in_lay hk))
  unfold u_lay at hlay
  rw [if_neg (by rw [hfin]; decide)] at hlay
  have hst := (u_facts hfc hkC (u_lays hts h2 hk) hi).1
  have h6 := u_store hfc hkC hkind hlay hi (h3 k hk) (hty ▸ hn) (hty ▸ hfit)
  refine W.putK C.1 C.2.1 (f := f) ⟨C.2.2.2.1, hts _ hl', ⟨_, _, _, hi⟩, hst⟩ (by rw [q2]; exact h6) q1 q3 (by rw [hsl]; exact k2_hasslot (q4 k hk)) rfl rfl hd fun H' e1 e2 e3 => ?_
  rw [hsl] at e1 ⊢
  exact kk p e s m args below meth c ls H' _ C hl (hR.set hc ⟨_, h1, t_OB.to (V := updV (vp_V fs) k v) ⟨_, e1, q2, q3, t_set q4 hap hk v⟩ (fun j _ => vp_updV_set hlen v j)⟩ e2 e3) (hS.put e2 e3 (hR.2.2 _ _ hc).1) hb
theorem zx_putF {idx ci k a : Nat} {fs : List Value} {v : Value} {t : FieldType} {h' : zxH} (hd : decode M.2.2.1 pc = .ok (.putfield idx, 3)) (hq : pc + 3 = q) (hf : zx_Fl M.1 idx ci k t true) (hin : M.2.1 = "<init>") (hci : ∃ r, vwCl[ci]? = some r ∧ r.1 = M.1) (hc : h a = some (.inr (ci, fs))) (hn : narrow t v = v) (hfit : fits t v = true) (hlen : k < fs.length) (he : zx_up h a (.inr (ci, fs.set k v)) = h') (kk : zx_X E M Y q L st h' n cells slots) : zx_X E M Y pc L (v :: .ref a :: st) h n cells slots := by
  subst hq
  subst he
  obtain ⟨C0, T, N, ty, ⟨h1, h2, h3, h4⟩, hk, hl', hty, hfin, hdecl⟩ := hf
  obtain ⟨r0, hr0, hr1⟩ := hci
  have hr2 : r0 = (C0, T, N) := Option.some.inj (hr0.symm.trans h1)
  subst hr2
  have hr1 : C0 = M.1 := hr1
  intro p e s m args below meth c ls H locs C hl hR hS hb
  have hK : va_K E.2.2.1 vwCl (zx_tys E.2.2.2) s := C.2.2.2.2.2.2.2.2.1.1
  have hts := C.2.2.2.2.1
  have hap := va_apart (own := M.1) hts h2 ty h3 h4 hK h1
  obtain ⟨r, g1, cell, q1, q2, q3, q4⟩ := (hR.2.2 _ _ hc).2
  have hr : r = (C0, T, N) := Option.some.inj (g1.symm.trans h1)
  subst hr
  obtain ⟨hS', hfc, kC, hkC, hkind⟩ := hK.1 ci _ h1
  obtain ⟨cf, kf, fi, f, hi, hsl⟩ := hS' k hk
  have hlay := hts _ (h2 _ (u_in_lay hk))
  unfold u_lay at hlay
  rw [if_pos hfin] at hlay
  have hst := (u_facts hfc hkC (u_lays hts h2 hk) hi).1
  have hcf : m.cls = cf := by
    obtain ⟨_, _, c', _, _, _, -, -, hf', -, -, -, hown2, -⟩ := Cond.laysFinal_spec hlay
    have e1 : c' = cf := by have := hi.symm.trans hf'; simp at this; exact this.1.symm
    rw [hdecl, hr1] at hown2
    rw [← e1]; exact Option.some.inj (C.2.2.2.1.symm.trans hown2)
  have h6 := u_fits hfc hkC hkind (Or.inr hlay) hi (h3 k hk) (hty ▸ hn) (hty ▸ hfit)
  refine W.putFinK C.1 C.2.1 C.2.2.2.1 (hts _ hl') hi hst hcf (C.2.2.2.2.2.2.2.1.trans hin) (by rw [q2]; exact h6) q1 q3 (by rw [hsl]; exact k2_hasslot (q4 k hk)) rfl rfl hd fun H' e1 e2 e3 => ?_
  rw [hsl] at e1 ⊢
  exact kk p e s m args below meth c ls H' _ C hl (hR.set hc ⟨_, h1, t_OB.to (V := updV (vp_V fs) k v) ⟨_, e1, q2, q3, t_set q4 hap hk v⟩ (fun j _ => vp_updV_set hlen v j)⟩ e2 e3) (hS.put e2 e3 (hR.2.2 _ _ hc).1) hb
theorem zx_iald {a len j : Nat} {f : Nat → Int32} {i : Int32} (hd : decode M.2.2.1 pc = .ok (.iaload, 1)) (hq : pc + 1 = q) (hc : h a = some (.inl (0, len, .inl f))) (hi : i = nI j) (hj : j < len) (hlen : len < 2 ^ 31) (kk : zx_X E M Y q L (.int (f j) :: st) h n cells slots) : zx_X E M Y pc L (.int i :: .ref a :: st) h n cells slots := by
  subst hq
  subst hi
  have ej : (nI j).toNatClampNeg = j := nI_clamp (by omega)
  intro p e s m args below meth c ls H locs C hl hR hS hb
  have hK : va_K E.2.2.1 vwCl (zx_tys E.2.2.2) s := C.2.2.2.2.2.2.2.2.1.1
  exact va_iald C.1 C.2.1 hK (hR.one hc) 0 0 rfl rfl (vp_in_nI hj hlen) hd (by rw [ej]; exact kk p e s m args below meth c ls H locs C hl hR hS hb)
theorem zx_zald {a len j : Nat} {f : Nat → Int32} {i : Int32} (hd : decode M.2.2.1 pc = .ok (.baload, 1)) (hq : pc + 1 = q) (hc : h a = some (.inl (2, len, .inl f))) (hi : i = nI j) (hj : j < len) (hlen : len < 2 ^ 31) (kk : zx_X E M Y q L (.int (f j) :: st) h n cells slots) : zx_X E M Y pc L (.int i :: .ref a :: st) h n cells slots := by
  subst hq
  subst hi
  have ej : (nI j).toNatClampNeg = j := nI_clamp (by omega)
  intro p e s m args below meth c ls H locs C hl hR hS hb
  have hK : va_K E.2.2.1 vwCl (zx_tys E.2.2.2) s := C.2.2.2.2.2.2.2.2.1.1
  exact va_zald C.1 C.2.1 hK (hR.one hc) 0 2 rfl rfl (vp_in_nI hj hlen) hd (by rw [ej]; exact kk p e s m args below meth c ls H locs C hl hR hS hb)
theorem zx_lald {a len j : Nat} {f : Nat → Int64} {i : Int32} (hd : decode M.2.2.1 pc = .ok (.laload, 1)) (hq : pc + 1 = q) (hc : h a = some (.inl (1, len, .inr (.inl f)))) (hi : i = nI j) (hj : j < len) (hlen : len < 2 ^ 31) (kk : zx_X E M Y q L (.long (f j) :: st) h n cells slots) : zx_X E M Y pc L (.int i :: .ref a :: st) h n cells slots := by
  subst hq
  subst hi
  have ej : (nI j).toNatClampNeg = j := nI_clamp (by omega)
  intro p e s m args below meth c ls H locs C hl hR hS hb
  have hK : va_K E.2.2.1 vwCl (zx_tys E.2.2.2) s := C.2.2.2.2.2.2.2.2.1.1
  exact va_lald C.1 C.2.1 hK (hR.one hc) 0 1 rfl rfl (vp_in_nI hj hlen) hd (by rw [ej]; exact kk p e s m args below meth c ls H locs C hl hR hS hb)
theorem zx_aald {a len j x kd : Nat} {cn : String} {f : Nat → Option Nat} {i : Int32} (hd : decode M.2.2.1 pc = .ok (.aaload, 1)) (hq : pc + 1 = q) (hkd : ∀ dA : Nat → ClassId, (zx_tys dA)[kd]? = some (dA kd, .object cn)) (hc : h a = some (.inl (kd, len, .inr (.inr (.inr (.inr f)))))) (hi : i = nI j) (hj : j < len) (hlen : len < 2 ^ 31) (hv : f j = some x) (kk : zx_X E M Y q L (.ref x :: st) h n cells slots) : zx_X E M Y pc L (.int i :: .ref a :: st) h n cells slots := by
  subst hq
  subst hi
  have ej : (nI j).toNatClampNeg = j := nI_clamp (by omega)
  intro p e s m args below meth c ls H locs C hl hR hS hb
  have hK : va_K E.2.2.1 vwCl (zx_tys E.2.2.2) s := C.2.2.2.2.2.2.2.2.1.1
  exact va_aldq C.1 C.2.1 hK (hR.one hc) 0 kd rfl (hkd _) (vp_in_nI hj hlen) hd (by rw [ej, hv]; exact kk p e s m args below meth c ls H locs C hl hR hS hb)
theorem zx_iast {a len j : Nat} {f : Nat → Int32} {i x : Int32} {h' : zxH} (hd : decode M.2.2.1 pc = .ok (.iastore, 1)) (hq : pc + 1 = q) (hc : h a = some (.inl (0, len, .inl f))) (hi : i = nI j) (hj : j < len) (hlen : len < 2 ^ 31) (he : zx_up h a (.inl (0, len, .inl (upd f j x))) = h') (kk : zx_X E M Y q L st h' n cells slots) : zx_X E M Y pc L (.int x :: .int i :: .ref a :: st) h n cells slots := by
  subst hq
  subst hi
  subst he
  have ej : (nI j).toNatClampNeg = j := nI_clamp (by omega)
  intro p e s m args below meth c ls H locs C hl hR hS hb
  have hK : va_K E.2.2.1 vwCl (zx_tys E.2.2.2) s := C.2.2.2.2.2.2.2.2.1.1
  have hA := hR.2.2 _ _ hc
  refine W.iast C.1 C.2.1 (show H[a]? = some (vp_cell (E.2.2.2 0) (len, .inl f)) from hA.2) ((hK.2 0 _ rfl).1 len (fun j => .int (f j))) (fun q => by cases q) (by show ¬ (nI j < 0 ∨ (arrV _ _ _).slots.size ≤ _); rw [arrV_size]; exact vp_in_nI hj hlen) rfl rfl hd fun H1 e1 z oq => ?_
  refine kk p e s m args below meth c ls H1 _ C hl (hR.set hc ?_ z oq) (hS.put z oq hA.1) hb
  show H1[a]? = some (vp_cell _ _)
  rw [e1, vp_cell_i, vp_cell_i, arrV_store, ej]
  congr 2
  funext q
  by_cases hq : q = j
  · subst hq
    simp [updV, upd]
  · simp [updV, upd, hq]
theorem zx_zast {a len j : Nat} {f : Nat → Int32} {i x : Int32} {h' : zxH} (hd : decode M.2.2.1 pc = .ok (.bastore, 1)) (hq : pc + 1 = q) (hc : h a = some (.inl (2, len, .inl f))) (hi : i = nI j) (hj : j < len) (hlen : len < 2 ^ 31) (he : zx_up h a (.inl (2, len, .inl (upd f j (vp_nar .boolean x)))) = h') (kk : zx_X E M Y q L st h' n cells slots) : zx_X E M Y pc L (.int x :: .int i :: .ref a :: st) h n cells slots := by
  subst hq
  subst hi
  subst he
  have ej : (nI j).toNatClampNeg = j := nI_clamp (by omega)
  intro p e s m args below meth c ls H locs C hl hR hS hb
  have hK : va_K E.2.2.1 vwCl (zx_tys E.2.2.2) s := C.2.2.2.2.2.2.2.2.1.1
  have hA := hR.2.2 _ _ hc
  refine W.zast C.1 C.2.1 (show H[a]? = some (vp_cell (E.2.2.2 2) (len, .inl f)) from hA.2) ((hK.2 2 _ rfl).1 len (fun j => .int (f j))) (fun q => by cases q) (by show ¬ (nI j < 0 ∨ (arrV _ _ _).slots.size ≤ _); rw [arrV_size]; exact vp_in_nI hj hlen) rfl rfl hd fun H1 e1 z oq => ?_
  refine kk p e s m args below meth c ls H1 _ C hl (hR.set hc ?_ z oq) (hS.put z oq hA.1) hb
  show H1[a]? = some (vp_cell _ _)
  rw [e1, vp_cell_i, vp_cell_i, arrV_store, ej]
  congr 2
  funext q
  by_cases hq : q = j
  · subst hq
    simp [updV, upd, vp_nar]
    try rfl
  · simp [updV, upd, hq]
theorem zx_last {a len j : Nat} {f : Nat → Int64} {i : Int32} {x : Int64} {h' : zxH} (hd : decode M.2.2.1 pc = .ok (.lastore, 1)) (hq : pc + 1 = q) (hc : h a = some (.inl (1, len, .inr (.inl f)))) (hi : i = nI j) (hj : j < len) (hlen : len < 2 ^ 31) (he : zx_up h a (.inl (1, len, .inr (.inl (vp_updL f j x)))) = h') (kk : zx_X E M Y q L st h' n cells slots) : zx_X E M Y pc L (.long x :: .int i :: .ref a :: st) h n cells slots := by
  subst hq
  subst hi
  subst he
  have ej : (nI j).toNatClampNeg = j := nI_clamp (by omega)
  intro p e s m args below meth c ls H locs C hl hR hS hb
  have hK : va_K E.2.2.1 vwCl (zx_tys E.2.2.2) s := C.2.2.2.2.2.2.2.2.1.1
  have hA := hR.2.2 _ _ hc
  refine W.last C.1 C.2.1 (show H[a]? = some (vp_cell (E.2.2.2 1) (len, .inr (.inl f))) from hA.2) ((hK.2 1 _ rfl).1 len (fun j => .long (f j))) (fun q => by cases q) (by show ¬ (nI j < 0 ∨ (arrV _ _ _).slots.size ≤ _); rw [arrV_size]; exact vp_in_nI hj hlen) rfl rfl hd fun H1 e1 z oq => ?_
  refine kk p e s m args below meth c ls H1 _ C hl (hR.set hc ?_ z oq) (hS.put z oq hA.1) hb
  show H1[a]? = some (vp_cell _ _)
  rw [e1, vp_cell_l, vp_cell_l, arrV_store, ej]
  congr 2
  funext q
  by_cases hq : q = j
  · subst hq
    simp [updV, vp_updL]
  · simp [updV, vp_updL, hq]
theorem zx_aast {a v len j kd ci : Nat} {cn : String} {r : vw_C} {vs : List Value} {f : Nat → Option Nat} {i : Int32} {h' : zxH} (hd : decode M.2.2.1 pc = .ok (.aastore, 1)) (hq : pc + 1 = q) (hkd : ∀ dA : Nat → ClassId, (zx_tys dA)[kd]? = some (dA kd, .object cn)) (hc : h a = some (.inl (kd, len, .inr (.inr (.inr (.inr f)))))) (hv : h v = some (.inr (ci, vs))) (hci : vwCl[ci]? = some r) (hcn : r.1 = cn) (hi : i = nI j) (hj : j < len) (hlen : len < 2 ^ 31) (he : zx_up h a (.inl (kd, len, .inr (.inr (.inr (.inr (va_up f j (some v))))))) = h') (kk : zx_X E M Y q L st h' n cells slots) : zx_X E M Y pc L (.ref v :: .int i :: .ref a :: st) h n cells slots := by
  subst hq
  subst hi
  subst he
  subst hcn
  have ej : (nI j).toNatClampNeg = j := nI_clamp (by omega)
  intro p e s m args below meth c ls H locs C hl hR hS hb
  have hK : va_K E.2.2.1 vwCl (zx_tys E.2.2.2) s := C.2.2.2.2.2.2.2.2.1.1
  have hA := hR.2.2 _ _ hc
  have hin := vp_in_nI hj hlen
  have hlt : (nI j).toNatClampNeg < len := Nat.not_le.mp fun q => hin (Or.inr q)
  have h0 : ¬ nI j < 0 := fun q => hin (Or.inl q)
  obtain ⟨r', hr', cellV, g1, g2, g3, -⟩ := (hR.2.2 _ _ hv).2
  have hcls := (hK.1 ci r hci).2
  obtain ⟨kA, comp, k1, k2, k3, -⟩ := (hK.2 kd _ (hkd _)).2
  have hcomp : comp = E.2.2.1.1 ci := Option.some.inj (k3.symm.trans hcls.1)
  subst hcomp
  obtain ⟨kC, hkC, -⟩ := hcls.2
  refine W.aast C.1 C.2.1 (show H[a]? = some (vp_cell (E.2.2.2 kd) (len, .inr (.inr (.inr (.inr f))))) from hA.2) (fun q h => by cases h) (fun h => by cases h) k1 k2 rfl hkC ⟨h0, by show _ < (arrV _ _ _).slots.size; rw [arrV_size]; exact hlt⟩ g1 (fun q h => by rw [g3] at h; cases h) (by rw [g2]; exact hkC) (by rw [g2]; exact va_assign hcls) rfl rfl hd fun H1 e1 z oq => ?_
  refine kk p e s m args below meth c ls H1 _ C hl (hR.set hc ?_ z oq) (hS.put z oq hA.1) hb
  show H1[a]? = some (vp_cell _ _)
  rw [e1, vp_cell_q, vp_cell_q, arrV_store, ej]
  congr 2
  funext q
  by_cases hq : q = j
  · subst hq
    simp [updV, va_up, va_rf]
  · simp [updV, va_up, hq]
theorem zx_new {idx ci N : Nat} {C0 : String} {T : u_T} {ty : Nat → FieldType} {fs : List Value} (hd : decode M.2.2.1 pc = .ok (.new idx, 3)) (hq : pc + 3 = q) (hcl : zx_Cl ci C0 T N ty) (hw : Cond.classLink M.1 idx C0 ∈ zx_T ∧ Cond.instantiable C0 N ∈ zx_T ∧ Cond.initialized C0 ∈ zx_T) (hfs : ∀ j, j < N → defaultValue (ty j) = vp_V fs j) (hcells : cells + 1 ≤ M.2.2.2.2.2.1.cells) (hslots : slots + N ≤ M.2.2.2.2.2.1.slots) (kk : zx_X E M Y q L (.ref n :: st) (zx_up h n (.inr (ci, fs))) (n + 1) (cells + 1) (slots + N)) : zx_X E M Y pc L st h n cells slots := by
  subst hq
  obtain ⟨h1, h2, h3, h4⟩ := hcl
  intro p e s m args below meth c ls H locs C hl hR hS hb
  have hK : va_K E.2.2.1 vwCl (zx_tys E.2.2.2) s := C.2.2.2.2.2.2.2.2.1.1
  have hts := C.2.2.2.2.1
  have hKn := hK.1 ci _ h1
  refine W.newcK C.1 C.2.1 C.2.2.2.1 (hts _ hw.1) (hts _ hw.2.1) (hts _ hw.2.2) rfl hd hcells hslots hKn.2.1 hR.1 fun H1 kC hkC e1 z1 o1 => ?_
  exact kk p e s m args below meth c ls H1 locs C hl (hR.new ⟨_, h1, (u_born ty hts h2 hKn hkC e1 h3).to hfs⟩ z1 (fun q hq => o1 q hq)) ⟨Nat.le_trans hS.1 (by rw [z1, hR.1]; exact Nat.le_succ _), fun x g1 g2 => (o1 x (by rw [← hR.1]; exact Nat.lt_of_lt_of_le g1 hS.1)).trans (hS.2.1 x g1 g2), hS.2.2⟩ hb
theorem zx_newI {i : Int32} {N : Nat} (hd : decode M.2.2.1 pc = .ok (.newarray .int, 2)) (hq : pc + 2 = q) (hw : Cond.arrayClass .int ∈ zx_T) (hi : i = nI N) (hN : N < 1000000) (hcells : cells + 1 ≤ M.2.2.2.2.2.1.cells) (hslots : slots + N ≤ M.2.2.2.2.2.1.slots) (kk : zx_X E M Y q L (.ref n :: st) (zx_up h n (.inl (0, N, .inl (fun _ => 0)))) (n + 1) (cells + 1) (slots + N)) : zx_X E M Y pc L (.int i :: st) h n cells slots := by
  subst hq
  subst hi
  intro p e s m args below meth c ls H locs C hl hR hS hb
  have hK : va_K E.2.2.1 vwCl (zx_tys E.2.2.2) s := C.2.2.2.2.2.2.2.2.1.1
  have hts := C.2.2.2.2.1
  refine va_newaK C.1 C.2.1 (atype := .int) (hts _ hw) rfl hd rfl (nI_pos (by omega)) (nI_clamp (by omega)) (by show N * 4 ≤ _; omega) hcells hslots hR.1 fun H1 cA e1 z1 o1 hAr hNm => ?_
  have hcA : E.2.2.2 0 = cA := Option.some.inj ((show s.vm.findClass _ = some (E.2.2.2 0) from (hK.2 0 _ rfl).2).symm.trans hNm)
  refine kk p e s m args below meth c ls H1 locs C hl (hR.new ?_ z1 (fun q hq => o1 q hq)) ⟨Nat.le_trans hS.1 (by rw [z1, hR.1]; exact Nat.le_succ _), fun x g1 g2 => (o1 x (by rw [← hR.1]; exact Nat.lt_of_lt_of_le g1 hS.1)).trans (hS.2.1 x g1 g2), hS.2.2⟩ hb
  show H1[n]? = some (vp_cell (E.2.2.2 0) _)
  rw [hcA]
  exact e1
theorem zx_newL {i : Int32} {N : Nat} (hd : decode M.2.2.1 pc = .ok (.newarray .long, 2)) (hq : pc + 2 = q) (hw : Cond.arrayClass .long ∈ zx_T) (hi : i = nI N) (hN : N < 1000000) (hcells : cells + 1 ≤ M.2.2.2.2.2.1.cells) (hslots : slots + N ≤ M.2.2.2.2.2.1.slots) (kk : zx_X E M Y q L (.ref n :: st) (zx_up h n (.inl (1, N, .inr (.inl (fun _ => 0))))) (n + 1) (cells + 1) (slots + N)) : zx_X E M Y pc L (.int i :: st) h n cells slots := by
  subst hq
  subst hi
  intro p e s m args below meth c ls H locs C hl hR hS hb
  have hK : va_K E.2.2.1 vwCl (zx_tys E.2.2.2) s := C.2.2.2.2.2.2.2.2.1.1
  have hts := C.2.2.2.2.1
  refine va_newaK C.1 C.2.1 (atype := .long) (hts _ hw) rfl hd rfl (nI_pos (by omega)) (nI_clamp (by omega)) (by show N * 8 ≤ _; omega) hcells hslots hR.1 fun H1 cA e1 z1 o1 hAr hNm => ?_
  have hcA : E.2.2.2 1 = cA := Option.some.inj ((show s.vm.findClass _ = some (E.2.2.2 1) from (hK.2 1 _ rfl).2).symm.trans hNm)
  refine kk p e s m args below meth c ls H1 locs C hl (hR.new ?_ z1 (fun q hq => o1 q hq)) ⟨Nat.le_trans hS.1 (by rw [z1, hR.1]; exact Nat.le_succ _), fun x g1 g2 => (o1 x (by rw [← hR.1]; exact Nat.lt_of_lt_of_le g1 hS.1)).trans (hS.2.1 x g1 g2), hS.2.2⟩ hb
  show H1[n]? = some (vp_cell (E.2.2.2 1) _)
  rw [hcA]
  exact e1
theorem zx_newZ {i : Int32} {N : Nat} (hd : decode M.2.2.1 pc = .ok (.newarray .boolean, 2)) (hq : pc + 2 = q) (hw : Cond.arrayClass .boolean ∈ zx_T) (hi : i = nI N) (hN : N < 1000000) (hcells : cells + 1 ≤ M.2.2.2.2.2.1.cells) (hslots : slots + N ≤ M.2.2.2.2.2.1.slots) (kk : zx_X E M Y q L (.ref n :: st) (zx_up h n (.inl (2, N, .inl (fun _ => 0)))) (n + 1) (cells + 1) (slots + N)) : zx_X E M Y pc L (.int i :: st) h n cells slots := by
  subst hq
  subst hi
  intro p e s m args below meth c ls H locs C hl hR hS hb
  have hK : va_K E.2.2.1 vwCl (zx_tys E.2.2.2) s := C.2.2.2.2.2.2.2.2.1.1
  have hts := C.2.2.2.2.1
  refine va_newaK C.1 C.2.1 (atype := .boolean) (hts _ hw) rfl hd rfl (nI_pos (by omega)) (nI_clamp (by omega)) (by show N * 1 ≤ _; omega) hcells hslots hR.1 fun H1 cA e1 z1 o1 hAr hNm => ?_
  have hcA : E.2.2.2 2 = cA := Option.some.inj ((show s.vm.findClass _ = some (E.2.2.2 2) from (hK.2 2 _ rfl).2).symm.trans hNm)
  refine kk p e s m args below meth c ls H1 locs C hl (hR.new ?_ z1 (fun q hq => o1 q hq)) ⟨Nat.le_trans hS.1 (by rw [z1, hR.1]; exact Nat.le_succ _), fun x g1 g2 => (o1 x (by rw [← hR.1]; exact Nat.lt_of_lt_of_le g1 hS.1)).trans (hS.2.1 x g1 g2), hS.2.2⟩ hb
  show H1[n]? = some (vp_cell (E.2.2.2 2) _)
  rw [hcA]
  exact e1
theorem zx_newQ {idx kd : Nat} {cn : String} {i : Int32} {N : Nat} (hd : decode M.2.2.1 pc = .ok (.anewarray idx, 3)) (hq : pc + 3 = q) (hkd : ∀ dA : Nat → ClassId, (zx_tys dA)[kd]? = some (dA kd, .object cn)) (hw : Cond.classLink M.1 idx cn ∈ zx_T ∧ cn ∈ zx_AO) (hi : i = nI N) (hN : N < 1000000) (hcells : cells + 1 ≤ M.2.2.2.2.2.1.cells) (hslots : slots + N ≤ M.2.2.2.2.2.1.slots) (kk : zx_X E M Y q L (.ref n :: st) (zx_up h n (.inl (kd, N, .inr (.inr (.inr (.inr (fun _ => none))))))) (n + 1) (cells + 1) (slots + N)) : zx_X E M Y pc L (.int i :: st) h n cells slots := by
  subst hq
  subst hi
  intro p e s m args below meth c ls H locs C hl hR hS hb
  have hK : va_K E.2.2.1 vwCl (zx_tys E.2.2.2) s := C.2.2.2.2.2.2.2.2.1.1
  have hts := C.2.2.2.2.1
  have ej : (nI N).toNatClampNeg = N := nI_clamp (by omega)
  refine W.anew C.1 C.2.1 C.2.2.2.1 (hts _ hw.1) (va_AO.use (C.2.2.2.2.2.2.2.2.1.2.2 _ hw.2)) rfl hd rfl (nI_pos (by omega)) (by rw [ej]; omega) hcells (by rw [ej]; exact hslots) fun cA kA comp f1 f2 f3 f4 => ?_
  rw [ej]
  generalize hH1 : H.push ({ cls := cA, slots := Array.replicate N .null, vm := .none } : Cell) = H1
  have z1 : H1.size = n + 1 := by rw [← hH1, Array.size_push, hR.1]
  have e1 : H1[n]? = some (arrV cA N (fun _ => .null)) := by rw [← hH1, ← hR.1, Array.getElem?_push_size, ← arrV_new]
  have o1 : ∀ q : Nat, q < n → H1[q]? = H[q]? := fun q hq => by rw [← hH1, Array.getElem?_push, if_neg (by rw [hR.1]; exact Nat.ne_of_lt hq)]
  have hcA : E.2.2.2 kd = cA := by
    obtain ⟨kA2, comp2, k1, k2, k3, k4⟩ := (hK.2 kd _ (hkd _)).2
    exact Option.some.inj (k4.symm.trans f1)
  have hsz : H.size = n := hR.1
  rw [hsz]
  refine kk p e s m args below meth c ls H1 locs C hl (hR.new ?_ z1 o1) ⟨Nat.le_trans hS.1 (by rw [z1, hsz]; exact Nat.le_succ _), fun x g1 g2 => (o1 x (by rw [← hsz]; exact Nat.lt_of_lt_of_le g1 hS.1)).trans (hS.2.1 x g1 g2), hS.2.2⟩ hb
  show H1[n]? = some (vp_cell (E.2.2.2 kd) _)
  rw [hcA, vp_cell_q]
  exact e1
theorem zx_objInit {idx a : Nat} (hd : decode M.2.2.1 pc = .ok (.invokespecial idx, 3)) (hq : pc + 3 = q) (hw : Cond.methodLink M.1 idx objectInit ∈ zx_T ∧ Cond.instanceMethod objectInit ∈ zx_T ∧ Cond.code objectInit ⟨#[0xb1]⟩ 1 none ∈ zx_T) (hfr : 1 ≤ M.2.2.2.2.2.1.frames) (hlo : (st.map fun v => v.category).sum + 12 ≤ M.2.2.2.2.2.1.locals) (kk : zx_X E M Y q L st h n cells slots) : zx_X E M Y pc L (.ref a :: st) h n cells slots := by
  subst hq
  intro p e s m args below meth c ls H locs C hl hR hS hb
  have hts := C.2.2.2.2.1
  exact W.objInit C.1 C.2.1 C.2.2.2.1 (hts _ hw.1) (hts _ hw.2.1) (hts _ hw.2.2) rfl (by show ls.size = _; rw [hl.1]; exact C.2.2.1.symm) rfl hd hfr (by show 2 * 0 + _ + 12 ≤ _; omega) (kk p e s m args below meth c ls H locs C hl hR hS hb)
theorem zx_mmin {idx : Nat} {x y : Int32} (hd : decode M.2.2.1 pc = .ok (.invokestatic idx, 3)) (hq : pc + 3 = q) (hw : Cond.methodLink M.1 idx Lib.Math.min.name ∈ zx_T ∧ Cond.static Lib.Math.min.name ∈ zx_T ∧ Cond.initialized "java/lang/Math" ∈ zx_T ∧ Cond.code Lib.Math.min.name Lib.Math.min.code 2 (some .int) ∈ zx_T) (hfr : 1 ≤ M.2.2.2.2.2.1.frames) (hlo : (st.map fun v => v.category).sum + 13 ≤ M.2.2.2.2.2.1.locals) (hcs : cells ≤ M.2.2.2.2.2.1.cells ∧ slots ≤ M.2.2.2.2.2.1.slots) (kk : zx_X E M Y q L (.int (if y < x then y else x) :: st) h n cells slots) : zx_X E M Y pc L (.int y :: .int x :: st) h n cells slots := by
  subst hq
  intro p e s m args below meth c ls H locs C hl hR hS hb
  have hts := C.2.2.2.2.1
  exact va_mmin C.1 C.2.1 (by rw [hl.1]; exact C.2.2.1) C.2.2.2.1 (hts _ hw.1) (hts _ hw.2.1) (hts _ hw.2.2.1) (hts _ hw.2.2.2) hfr hlo hcs.1 hcs.2 hd (kk p e s m args below meth c ls H locs C hl hR hS hb)
theorem zx_mminl {idx : Nat} {x y : Int64} (hd : decode M.2.2.1 pc = .ok (.invokestatic idx, 3)) (hq : pc + 3 = q) (hw : Cond.methodLink M.1 idx Lib.MathLoose.min_long.x ∈ zx_T ∧ Cond.static Lib.MathLoose.min_long.x ∈ zx_T ∧ Cond.initialized "java/lang/Math" ∈ zx_T ∧ Cond.code Lib.MathLoose.min_long.x Lib.MathLoose.min_long.code 4 (some .long) ∈ zx_T) (hfr : 1 ≤ M.2.2.2.2.2.1.frames) (hlo : (st.map fun v => v.category).sum + 15 ≤ M.2.2.2.2.2.1.locals) (hcs : cells ≤ M.2.2.2.2.2.1.cells ∧ slots ≤ M.2.2.2.2.2.1.slots) (kk : zx_X E M Y q L (.long (if y < x then y else x) :: st) h n cells slots) : zx_X E M Y pc L (.long y :: .long x :: st) h n cells slots := by
  subst hq
  intro p e s m args below meth c ls H locs C hl hR hS hb
  have hts := C.2.2.2.2.1
  exact va_mmin_long C.1 C.2.1 (by rw [hl.1]; exact C.2.2.1) C.2.2.2.1 (hts _ hw.1) (hts _ hw.2.1) (hts _ hw.2.2.1) (hts _ hw.2.2.2) hfr hlo hcs.1 hcs.2 hd (kk p e s m args below meth c ls H locs C hl hR hS hb)
/-- a contract from a walk of the body -/
theorem zx_start {y : MethodName} {av : List Value} {Q : Option Value → zxH → Nat → Prop} (L : List (Option Value)) (hy : plainName y.cls = true) (hyc : y.cls = M.1) (hyn : y.name = M.2.1) (hs : (lg_sl av).length ≤ M.2.2.2.1) (hL : zx_as 0 L = lv_args 0 av) (hx : zx_X E M (zx_Y E M Q) 0 L [] h n 0 0) : zx_Ok E y M av h n Q := by
  refine Met.ofW (cc := M.2.2.1) (maxL := M.2.2.2.1) (ret := M.2.2.2.2.1) hy rfl ?_
  intro p e s m args below meth c s₁ B hml hv
  obtain ⟨rfl, hR, hK⟩ := hv
  have hts := atoms_spec (ws := Cond.code y M.2.2.1 M.2.2.2.1 M.2.2.2.2.1 :: zx_T) B.pre
  have hl := lv_entry av hs
  rw [lg_entry_eq]
  rw [← hL] at hl
  exact hx p e s m _ below meth c _ s.heap [] ⟨B.exec, B.bytes, hml, hyc ▸ findClass_of_methodNamed B.named, fun w hw => hts w (List.mem_cons_of_mem _ hw), B.returns, B.notSynchronized, (name_of_methodNamed B.named B.method).1.trans hyn, hK, trivial⟩ hl hR va_S.rf (by rw [hR.1]; exact hR.2.1)
/-- behind a call -/
theorem zx_cont {p : Program} {e : Env} {s : State} {m : MethodId} {args : Array Value} {below : List Frame} {meth : Method} {c : Code} {H : Heap} {locs : List Loc} {ls : Array Slot} {st0 rest : List Value} {a : Array Value} {mc ms : Nat} {Q' : Option Value → zxH → Nat → Prop} (C : zx_C E M Y p s m args meth c)
    (hr : va_Run p E.1 e M.2.2.2.2.2.1 s m args below meth c H locs cells slots mc ms (F0 m pc ls st0) rest (zx_Q E Q' a) (zx_A E)) (hl : lv_has ls M.2.2.2.1 (zx_as 0 L)) (hS : va_S (zx_A E) s.heap H locs) (hb : E.2.1 ≤ s.heap.size)
    (kk : ∀ (r : Option Value) (h1 : zxH) (n1 : Nat), Q' r h1 n1 → zx_X E M Y (pc + 3) L (r.toList ++ rest) h1 n1 (cells + mc) (slots + ms)) : W p E.1 e M.2.2.2.2.2.1 s m args below meth c H locs cells slots (Y.2 below args s) (F0 m pc ls st0) := by
  intro T hT X
  obtain ⟨v, st₀, t, T', L', h0, X', hL, e1, e2, ⟨⟨r, h1, n1, hv, hq, hR1⟩, hz, hk⟩, st⟩ := hr T hT X
  cases hv
  rw [h0] at hz hk
  obtain ⟨t2, a1, b1⟩ := kk v h1 n1 hq p e s m args below meth c ls T'.heap (locs ++ L') C hl (by rw [e1]; exact hR1)
    ⟨Nat.le_trans hS.1 (by rw [e1]; exact hz), fun q g1 g2 => by rw [e1, hk q (Nat.lt_of_lt_of_le g1 hS.1) g2]; exact hS.2.1 q g1 g2, fun q hq => by
      rcases List.mem_append.mp hq with g | g
      · exact hS.2.2 q g
      · exact hL q g⟩ hb T' rfl X'
  exact ⟨t2, st t2 a1, b1⟩
end ZX
theorem zx_blind (E : zxE) (av : List Value) (h : zxH) (n : Nat) : FrameBlind (va_Pc av (fun U => zx_R E h n U.heap ∧ zx_K E U)) := by
  intro a U g mk hq
  obtain ⟨q0, q1, q2⟩ := hq
  exact ⟨q0, q1, va_K.moved (u := U) (U := U.calling g mk a) (Vm.Alike.refl U.vm) q2.1, fun q hq => va_Nw.same (u := U) (U := U.calling g mk a) rfl rfl (q2.2.1 q hq), fun C hC => va_AO.moved (u := U) (U := U.calling g mk a) (Vm.Alike.refl U.vm) (q2.2.2 C hC)⟩
def zx_room (M M' : zxM) : Prop := M'.2.2.2.2.2.1.cells = M'.2.2.2.2.2.2.1 ∧ M'.2.2.2.2.2.1.slots = M'.2.2.2.2.2.2.2 ∧ M'.2.2.2.2.2.1.frames + 1 ≤ M.2.2.2.2.2.1.frames ∧ 8 + (M'.2.2.2.1 + 11) + M'.2.2.2.2.2.1.locals ≤ M.2.2.2.2.2.1.locals
def zx_nm (y : MethodName) (na : Nat) : Prop := y.cls ≠ "java/lang/invoke/MethodHandle" ∧ y.cls ≠ "java/lang/invoke/VarHandle" ∧ (parseMethodDescriptor y.desc).map (fun d => d.parameters.length) = some na
/-- a call of a method of an object -/
def zx_CV (M M' : zxM) (idx : Nat) (y : MethodName) (na : Nat) : Prop :=
  (Cond.methodLink M.1 idx y ∈ zx_T ∧ Cond.instanceMethod y ∈ zx_T ∧ Cond.selects M'.1 y y ∈ zx_T ∧ Cond.initialized M'.1 ∈ zx_T ∧ Cond.code y M'.2.2.1 M'.2.2.2.1 M'.2.2.2.2.1 ∈ zx_T) ∧ y.cls = M'.1 ∧ zx_nm y na ∧ zx_room M M'
/-- a constructor's call -/
def zx_CI (M M' : zxM) (idx : Nat) (y : MethodName) (na : Nat) : Prop :=
  (Cond.methodLink M.1 idx y ∈ zx_T ∧ Cond.instanceMethod y ∈ zx_T ∧ Cond.initialized y.cls ∈ zx_T ∧ Cond.code y M'.2.2.1 M'.2.2.2.1 none ∈ zx_T) ∧ y.name = "<init>" ∧ M'.2.2.2.2.1 = none ∧ zx_nm y na ∧ zx_room M M'
/-- a call of a static method of the own text -/
def zx_CS (M M' : zxM) (idx : Nat) (y : MethodName) (na : Nat) : Prop :=
  (Cond.methodLink M.1 idx y ∈ zx_T ∧ Cond.static y ∈ zx_T ∧ Cond.initialized M.1 ∈ zx_T ∧ Cond.code y M'.2.2.1 M'.2.2.2.1 M'.2.2.2.2.1 ∈ zx_T) ∧ y.cls = M.1 ∧ zx_nm y na ∧ zx_room M M'
/-- a static method's call, of a nest mate -/
def zx_CN (M M' : zxM) (idx : Nat) (y : MethodName) (na : Nat) : Prop :=
  ((M.1, idx, y) ∈ zx_N ∧ Cond.static y ∈ zx_T ∧ Cond.initialized y.cls ∈ zx_T ∧ Cond.code y M'.2.2.1 M'.2.2.2.1 M'.2.2.2.2.1 ∈ zx_T) ∧ zx_nm y na ∧ zx_room M M'
/-- a call of a constructor that only nest mates may call -/
def zx_CJ (M M' : zxM) (idx : Nat) (y : MethodName) (na : Nat) : Prop :=
  ((M.1, idx, y) ∈ zx_N ∧ Cond.instanceMethod y ∈ zx_T ∧ Cond.initialized y.cls ∈ zx_T ∧ Cond.code y M'.2.2.1 M'.2.2.2.1 none ∈ zx_T) ∧ y.name = "<init>" ∧ M'.2.2.2.2.1 = none ∧ zx_nm y na ∧ zx_room M M'
theorem zx_goods {y : MethodName} {cc : ByteArray} {nL : Nat} {ret : Option FieldType} (h : Cond.code y cc nL ret ∈ zx_T) : GoodIn zx_T (.code y cc nL ret :: zx_T) := by
  intro w hw
  rcases List.mem_cons.mp hw with rfl | hw
  · exact ⟨h, zx_good _ h⟩
  · exact ⟨hw, zx_good _ hw⟩
section ZC
variable {E : zxE} {M M' : zxM} {Y : zxY} {pc q cells slots n idx na : Nat} {L : List (Option Value)} {rest As : List Value} {h : zxH} {y : MethodName} {Q' : Option Value → zxH → Nat → Prop}
theorem zx_callV {a ci : Nat} {fs : List Value} {r : vw_C} (hd : decode M.2.2.1 pc = .ok (.invokevirtual idx, 3)) (hq : pc + 3 = q) (hw : zx_CV M M' idx y na) (hc : h a = some (.inr (ci, fs))) (hci : vwCl[ci]? = some r) (hr : r.1 = M'.1) (hna : As.length = na) (hst : (rest.map fun v => v.category).sum ≤ 8) (hf : cells + M'.2.2.2.2.2.2.1 ≤ M.2.2.2.2.2.1.cells ∧ slots + M'.2.2.2.2.2.2.2 ≤ M.2.2.2.2.2.1.slots)
    (ok : zx_Ok E y M' (.ref a :: As) h n Q') (kk : ∀ (r : Option Value) (h1 : zxH) (n1 : Nat), Q' r h1 n1 → zx_X E M Y q L (r.toList ++ rest) h1 n1 (cells + M'.2.2.2.2.2.2.1) (slots + M'.2.2.2.2.2.2.2)) : zx_X E M Y pc L (As.reverse ++ .ref a :: rest) h n cells slots := by
  subst hq
  obtain ⟨⟨w1, w2, w3, w4, w5⟩, hyc, hnm, r1, r2, r3, r4⟩ := hw
  intro p e s m args below meth c ls H locs C hl hR hS hb
  have hK : va_K E.2.2.1 vwCl (zx_tys E.2.2.2) s := C.2.2.2.2.2.2.2.2.1.1
  have hts := C.2.2.2.2.1
  have hg := zx_goods w5
  have hT : GoodIn zx_T (wsV M.1 idx M'.1 y (.code y M'.2.2.1 M'.2.2.2.1 M'.2.2.2.2.1 :: zx_T)) := by
    intro w hw
    unfold wsV at hw
    rcases List.mem_append.mp hw with g | g
    · have : w ∈ zx_T := by
        simp only [List.mem_cons, List.not_mem_nil, or_false] at g
        rcases g with rfl | rfl | rfl | rfl <;> assumption
      exact ⟨this, zx_good _ this⟩
    · exact hg w g
  have hcw := cwV (R := M.2.2.2.2.2.1) (rm := M'.2.2.2.2.2.1) na hts hT rfl r1 r2 ⟨hyc, hnm⟩ ⟨r3, r4⟩
  obtain ⟨cellB, c1, c2, c3⟩ := va_recv (q0 := 0) hK (hR.one hc) hci rfl
  exact zx_cont C (va_runV (As := As) (rest := rest) ⟨C.1, C.2.1, C.2.2.1, C.2.2.2.1, hts⟩ ok hcw ⟨zx_blind _ _ _ _, ⟨cellB, c1, c2, by rw [← hr]; exact c3⟩, fun U hU hW => ⟨rfl, by rw [hU]; exact hR, zx_K.warm hW C.2.2.2.2.2.2.2.2.1⟩⟩ rfl hna hl.1 rfl (lv_room hst) hd hf) hl hS hb kk
theorem zx_callI {a : Nat} (hd : decode M.2.2.1 pc = .ok (.invokespecial idx, 3)) (hq : pc + 3 = q) (hw : zx_CI M M' idx y na) (hna : As.length = na) (hst : (rest.map fun v => v.category).sum ≤ 8) (hf : cells + M'.2.2.2.2.2.2.1 ≤ M.2.2.2.2.2.1.cells ∧ slots + M'.2.2.2.2.2.2.2 ≤ M.2.2.2.2.2.1.slots)
    (ok : zx_Ok E y M' (.ref a :: As) h n Q') (kk : ∀ (r : Option Value) (h1 : zxH) (n1 : Nat), Q' r h1 n1 → zx_X E M Y q L (r.toList ++ rest) h1 n1 (cells + M'.2.2.2.2.2.2.1) (slots + M'.2.2.2.2.2.2.2)) : zx_X E M Y pc L (As.reverse ++ .ref a :: rest) h n cells slots := by
  subst hq
  obtain ⟨⟨w1, w2, w4, w5⟩, hyi, hret, hnm, r1, r2, r3, r4⟩ := hw
  intro p e s m args below meth c ls H locs C hl hR hS hb
  have hK : va_K E.2.2.1 vwCl (zx_tys E.2.2.2) s := C.2.2.2.2.2.2.2.2.1.1
  have hts := C.2.2.2.2.1
  have hg := zx_goods w5
  rw [← hret] at hg
  have hcw := cwI (R := M.2.2.2.2.2.1) (rm := M'.2.2.2.2.2.1) na hts hg (by rw [hret]) r1 r2 (hts _ w4) (hts _ w1) (hts _ w2) hyi hnm ⟨r3, r4⟩
  exact zx_cont C (va_runI (As := As) (rest := rest) ⟨C.1, C.2.1, C.2.2.1, C.2.2.2.1, hts⟩ ok hcw ⟨zx_blind _ _ _ _, fun U hU hW => ⟨rfl, by rw [hU]; exact hR, zx_K.warm hW C.2.2.2.2.2.2.2.2.1⟩⟩ rfl hna hl.1 rfl (lv_room hst) hd hf) hl hS hb kk
theorem zx_callS (hd : decode M.2.2.1 pc = .ok (.invokestatic idx, 3)) (hq : pc + 3 = q) (hw : zx_CS M M' idx y na) (hna : As.length = na) (hst : (rest.map fun v => v.category).sum ≤ 8) (hf : cells + M'.2.2.2.2.2.2.1 ≤ M.2.2.2.2.2.1.cells ∧ slots + M'.2.2.2.2.2.2.2 ≤ M.2.2.2.2.2.1.slots)
    (ok : zx_Ok E y M' As h n Q') (kk : ∀ (r : Option Value) (h1 : zxH) (n1 : Nat), Q' r h1 n1 → zx_X E M Y q L (r.toList ++ rest) h1 n1 (cells + M'.2.2.2.2.2.2.1) (slots + M'.2.2.2.2.2.2.2)) : zx_X E M Y pc L (As.reverse ++ rest) h n cells slots := by
  subst hq
  obtain ⟨⟨w1, w2, w4, w5⟩, hyc, hnm, r1, r2, r3, r4⟩ := hw
  intro p e s m args below meth c ls H locs C hl hR hS hb
  have hK : va_K E.2.2.1 vwCl (zx_tys E.2.2.2) s := C.2.2.2.2.2.2.2.2.1.1
  have hts := C.2.2.2.2.1
  have hg := zx_goods w5
  have hT : GoodIn zx_T (wsS M.1 idx y (.code y M'.2.2.1 M'.2.2.2.1 M'.2.2.2.2.1 :: zx_T)) := by
    intro w hw
    unfold wsS at hw
    rcases List.mem_append.mp hw with g | g
    · have : w ∈ zx_T := by
        simp only [List.mem_cons, List.not_mem_nil, or_false] at g
        rcases g with rfl | rfl | rfl <;> assumption
      exact ⟨this, zx_good _ this⟩
    · exact hg w g
  have hcw := cwS (R := M.2.2.2.2.2.1) (rm := M'.2.2.2.2.2.1) na hts hT rfl r1 r2 ⟨hyc, hnm⟩ ⟨r3, r4⟩
  exact zx_cont C (va_runS (As := As) (rest := rest) ⟨C.1, C.2.1, C.2.2.1, C.2.2.2.1, hts⟩ ok hcw ⟨zx_blind _ _ _ _, fun U hU hW => ⟨rfl, by rw [hU]; exact hR, zx_K.warm hW C.2.2.2.2.2.2.2.2.1⟩⟩ rfl hna hl.1 rfl (lv_room hst) hd hf) hl hS hb kk
theorem zx_callN (hd : decode M.2.2.1 pc = .ok (.invokestatic idx, 3)) (hq : pc + 3 = q) (hw : zx_CN M M' idx y na) (hna : As.length = na) (hst : (rest.map fun v => v.category).sum ≤ 8) (hf : cells + M'.2.2.2.2.2.2.1 ≤ M.2.2.2.2.2.1.cells ∧ slots + M'.2.2.2.2.2.2.2 ≤ M.2.2.2.2.2.1.slots)
    (ok : zx_Ok E y M' As h n Q') (kk : ∀ (r : Option Value) (h1 : zxH) (n1 : Nat), Q' r h1 n1 → zx_X E M Y q L (r.toList ++ rest) h1 n1 (cells + M'.2.2.2.2.2.2.1) (slots + M'.2.2.2.2.2.2.2)) : zx_X E M Y pc L (As.reverse ++ rest) h n cells slots := by
  subst hq
  obtain ⟨⟨w1, w2, w4, w5⟩, hnm, r1, r2, r3, r4⟩ := hw
  intro p e s m args below meth c ls H locs C hl hR hS hb
  have hK : va_K E.2.2.1 vwCl (zx_tys E.2.2.2) s := C.2.2.2.2.2.2.2.2.1.1
  have hts := C.2.2.2.2.1
  have hg := zx_goods w5
  have hcw := va_cnB (R := M.2.2.2.2.2.1) (rm := M'.2.2.2.2.2.1) (args := args) na hts hg rfl r1 r2 (C.2.2.2.2.2.2.2.2.1.2.1 _ w1) (hts _ w4) hnm ⟨r3, r4⟩
  exact zx_cont C (va_runSN (As := As) (rest := rest) ⟨C.1, C.2.1, C.2.2.1, C.2.2.2.1, hts⟩ ok ⟨hcw, hts _ w2, trivial⟩ ⟨zx_blind _ _ _ _, fun U hU hW => ⟨rfl, by rw [hU]; exact hR, zx_K.warm hW C.2.2.2.2.2.2.2.2.1⟩⟩ rfl hna hl.1 rfl (lv_room hst) hd hf) hl hS hb kk
theorem zx_callJ {a : Nat} (hd : decode M.2.2.1 pc = .ok (.invokespecial idx, 3)) (hq : pc + 3 = q) (hw : zx_CJ M M' idx y na) (hna : As.length = na) (hst : (rest.map fun v => v.category).sum ≤ 8) (hf : cells + M'.2.2.2.2.2.2.1 ≤ M.2.2.2.2.2.1.cells ∧ slots + M'.2.2.2.2.2.2.2 ≤ M.2.2.2.2.2.1.slots)
    (ok : zx_Ok E y M' (.ref a :: As) h n Q') (kk : ∀ (r : Option Value) (h1 : zxH) (n1 : Nat), Q' r h1 n1 → zx_X E M Y q L (r.toList ++ rest) h1 n1 (cells + M'.2.2.2.2.2.2.1) (slots + M'.2.2.2.2.2.2.2)) : zx_X E M Y pc L (As.reverse ++ .ref a :: rest) h n cells slots := by
  subst hq
  obtain ⟨⟨w1, w2, w4, w5⟩, hyi, hret, hnm, r1, r2, r3, r4⟩ := hw
  intro p e s m args below meth c ls H locs C hl hR hS hb
  have hK : va_K E.2.2.1 vwCl (zx_tys E.2.2.2) s := C.2.2.2.2.2.2.2.2.1.1
  have hts := C.2.2.2.2.1
  have hg := zx_goods w5
  rw [← hret] at hg
  have hcw := va_cnB (R := M.2.2.2.2.2.1) (rm := M'.2.2.2.2.2.1) (args := args) na hts hg (by rw [hret]) r1 r2 (C.2.2.2.2.2.2.2.2.1.2.1 _ w1) (hts _ w4) hnm ⟨r3, r4⟩
  exact zx_cont C (va_runIN (As := As) (rest := rest) ⟨C.1, C.2.1, C.2.2.1, C.2.2.2.1, hts⟩ ok ⟨hcw, hyi, hts _ w2⟩ ⟨zx_blind _ _ _ _, fun U hU hW => ⟨rfl, by rw [hU]; exact hR, zx_K.warm hW C.2.2.2.2.2.2.2.2.1⟩⟩ rfl hna hl.1 rfl (lv_room hst) hd hf) hl hS hb kk
end ZC
section ZD
variable {E : zxE} {M M' : zxM} {Y : zxY} {pc q cells slots n idx : Nat} {L : List (Option Value)} {rest : List Value} {h : zxH} {y : MethodName}
theorem zx_cV0v {a ci : Nat} {fs : List Value} {r : vw_C} (hd : decode M.2.2.1 pc = .ok (.invokevirtual idx, 3)) (hq : pc + 3 = q) (hw : zx_CV M M' idx y 0) (h0 : M'.2.2.2.2.2.2.1 = 0 ∧ M'.2.2.2.2.2.2.2 = 0) (hc : h a = some (.inr (ci, fs))) (hci : vwCl[ci]? = some r) (hr : r.1 = M'.1) (hst : (rest.map fun v => v.category).sum ≤ 8) (hf : cells ≤ M.2.2.2.2.2.1.cells ∧ slots ≤ M.2.2.2.2.2.1.slots)
    (ok : zx_Ok E y M' [.ref a] h n (fun r h1 n1 => r = none ∧ zx_X E M Y q L (rest) h1 n1 cells slots)) : zx_X E M Y pc L (.ref a :: rest) h n cells slots := by
  refine zx_callV (As := []) (rest := rest) hd hq hw hc hci hr rfl hst (by rw [h0.1, h0.2]; exact hf) ok (fun r h1 n1 z => ?_)
  obtain ⟨e, k⟩ := z
  subst e
  rw [h0.1, h0.2]
  exact k
theorem zx_cV0i {a ci : Nat} {fs : List Value} {r : vw_C} (hd : decode M.2.2.1 pc = .ok (.invokevirtual idx, 3)) (hq : pc + 3 = q) (hw : zx_CV M M' idx y 0) (h0 : M'.2.2.2.2.2.2.1 = 0 ∧ M'.2.2.2.2.2.2.2 = 0) (hc : h a = some (.inr (ci, fs))) (hci : vwCl[ci]? = some r) (hr : r.1 = M'.1) (hst : (rest.map fun v => v.category).sum ≤ 8) (hf : cells ≤ M.2.2.2.2.2.1.cells ∧ slots ≤ M.2.2.2.2.2.1.slots)
    (ok : zx_Ok E y M' [.ref a] h n (fun r h1 n1 => ∃ v : Int32, r = some (.int v) ∧ zx_X E M Y q L (.int v :: rest) h1 n1 cells slots)) : zx_X E M Y pc L (.ref a :: rest) h n cells slots := by
  refine zx_callV (As := []) (rest := rest) hd hq hw hc hci hr rfl hst (by rw [h0.1, h0.2]; exact hf) ok (fun r h1 n1 z => ?_)
  obtain ⟨v, e, k⟩ := z
  subst e
  rw [h0.1, h0.2]
  exact k
theorem zx_cV0l {a ci : Nat} {fs : List Value} {r : vw_C} (hd : decode M.2.2.1 pc = .ok (.invokevirtual idx, 3)) (hq : pc + 3 = q) (hw : zx_CV M M' idx y 0) (h0 : M'.2.2.2.2.2.2.1 = 0 ∧ M'.2.2.2.2.2.2.2 = 0) (hc : h a = some (.inr (ci, fs))) (hci : vwCl[ci]? = some r) (hr : r.1 = M'.1) (hst : (rest.map fun v => v.category).sum ≤ 8) (hf : cells ≤ M.2.2.2.2.2.1.cells ∧ slots ≤ M.2.2.2.2.2.1.slots)
    (ok : zx_Ok E y M' [.ref a] h n (fun r h1 n1 => ∃ v : Int64, r = some (.long v) ∧ zx_X E M Y q L (.long v :: rest) h1 n1 cells slots)) : zx_X E M Y pc L (.ref a :: rest) h n cells slots := by
  refine zx_callV (As := []) (rest := rest) hd hq hw hc hci hr rfl hst (by rw [h0.1, h0.2]; exact hf) ok (fun r h1 n1 z => ?_)
  obtain ⟨v, e, k⟩ := z
  subst e
  rw [h0.1, h0.2]
  exact k
theorem zx_cV0a {a ci : Nat} {fs : List Value} {r : vw_C} (hd : decode M.2.2.1 pc = .ok (.invokevirtual idx, 3)) (hq : pc + 3 = q) (hw : zx_CV M M' idx y 0) (h0 : M'.2.2.2.2.2.2.1 = 0 ∧ M'.2.2.2.2.2.2.2 = 0) (hc : h a = some (.inr (ci, fs))) (hci : vwCl[ci]? = some r) (hr : r.1 = M'.1) (hst : (rest.map fun v => v.category).sum ≤ 8) (hf : cells ≤ M.2.2.2.2.2.1.cells ∧ slots ≤ M.2.2.2.2.2.1.slots)
    (ok : zx_Ok E y M' [.ref a] h n (fun r h1 n1 => ∃ v : Nat, r = some (.ref v) ∧ zx_X E M Y q L (.ref v :: rest) h1 n1 cells slots)) : zx_X E M Y pc L (.ref a :: rest) h n cells slots := by
  refine zx_callV (As := []) (rest := rest) hd hq hw hc hci hr rfl hst (by rw [h0.1, h0.2]; exact hf) ok (fun r h1 n1 z => ?_)
  obtain ⟨v, e, k⟩ := z
  subst e
  rw [h0.1, h0.2]
  exact k
theorem zx_cV1v {a ci : Nat} {fs : List Value} {r : vw_C} {x1 : Value} (hd : decode M.2.2.1 pc = .ok (.invokevirtual idx, 3)) (hq : pc + 3 = q) (hw : zx_CV M M' idx y 1) (h0 : M'.2.2.2.2.2.2.1 = 0 ∧ M'.2.2.2.2.2.2.2 = 0) (hc : h a = some (.inr (ci, fs))) (hci : vwCl[ci]? = some r) (hr : r.1 = M'.1) (hst : (rest.map fun v => v.category).sum ≤ 8) (hf : cells ≤ M.2.2.2.2.2.1.cells ∧ slots ≤ M.2.2.2.2.2.1.slots)
    (ok : zx_Ok E y M' [.ref a, x1] h n (fun r h1 n1 => r = none ∧ zx_X E M Y q L (rest) h1 n1 cells slots)) : zx_X E M Y pc L (x1 :: .ref a :: rest) h n cells slots := by
  refine zx_callV (As := [x1]) (rest := rest) hd hq hw hc hci hr rfl hst (by rw [h0.1, h0.2]; exact hf) ok (fun r h1 n1 z => ?_)
  obtain ⟨e, k⟩ := z
  subst e
  rw [h0.1, h0.2]
  exact k
theorem zx_cV1i {a ci : Nat} {fs : List Value} {r : vw_C} {x1 : Value} (hd : decode M.2.2.1 pc = .ok (.invokevirtual idx, 3)) (hq : pc + 3 = q) (hw : zx_CV M M' idx y 1) (h0 : M'.2.2.2.2.2.2.1 = 0 ∧ M'.2.2.2.2.2.2.2 = 0) (hc : h a = some (.inr (ci, fs))) (hci : vwCl[ci]? = some r) (hr : r.1 = M'.1) (hst : (rest.map fun v => v.category).sum ≤ 8) (hf : cells ≤ M.2.2.2.2.2.1.cells ∧ slots ≤ M.2.2.2.2.2.1.slots)
    (ok : zx_Ok E y M' [.ref a, x1] h n (fun r h1 n1 => ∃ v : Int32, r = some (.int v) ∧ zx_X E M Y q L (.int v :: rest) h1 n1 cells slots)) : zx_X E M Y pc L (x1 :: .ref a :: rest) h n cells slots := by
  refine zx_callV (As := [x1]) (rest := rest) hd hq hw hc hci hr rfl hst (by rw [h0.1, h0.2]; exact hf) ok (fun r h1 n1 z => ?_)
  obtain ⟨v, e, k⟩ := z
  subst e
  rw [h0.1, h0.2]
  exact k
theorem zx_cV1l {a ci : Nat} {fs : List Value} {r : vw_C} {x1 : Value} (hd : decode M.2.2.1 pc = .ok (.invokevirtual idx, 3)) (hq : pc + 3 = q) (hw : zx_CV M M' idx y 1) (h0 : M'.2.2.2.2.2.2.1 = 0 ∧ M'.2.2.2.2.2.2.2 = 0) (hc : h a = some (.inr (ci, fs))) (hci : vwCl[ci]? = some r) (hr : r.1 = M'.1) (hst : (rest.map fun v => v.category).sum ≤ 8) (hf : cells ≤ M.2.2.2.2.2.1.cells ∧ slots ≤ M.2.2.2.2.2.1.slots)
    (ok : zx_Ok E y M' [.ref a, x1] h n (fun r h1 n1 => ∃ v : Int64, r = some (.long v) ∧ zx_X E M Y q L (.long v :: rest) h1 n1 cells slots)) : zx_X E M Y pc L (x1 :: .ref a :: rest) h n cells slots := by
  refine zx_callV (As := [x1]) (rest := rest) hd hq hw hc hci hr rfl hst (by rw [h0.1, h0.2]; exact hf) ok (fun r h1 n1 z => ?_)
  obtain ⟨v, e, k⟩ := z
  subst e
  rw [h0.1, h0.2]
  exact k
theorem zx_cV1a {a ci : Nat} {fs : List Value} {r : vw_C} {x1 : Value} (hd : decode M.2.2.1 pc = .ok (.invokevirtual idx, 3)) (hq : pc + 3 = q) (hw : zx_CV M M' idx y 1) (h0 : M'.2.2.2.2.2.2.1 = 0 ∧ M'.2.2.2.2.2.2.2 = 0) (hc : h a = some (.inr (ci, fs))) (hci : vwCl[ci]? = some r) (hr : r.1 = M'.1) (hst : (rest.map fun v => v.category).sum ≤ 8) (hf : cells ≤ M.2.2.2.2.2.1.cells ∧ slots ≤ M.2.2.2.2.2.1.slots)
    (ok : zx_Ok E y M' [.ref a, x1] h n (fun r h1 n1 => ∃ v : Nat, r = some (.ref v) ∧ zx_X E M Y q L (.ref v :: rest) h1 n1 cells slots)) : zx_X E M Y pc L (x1 :: .ref a :: rest) h n cells slots := by
  refine zx_callV (As := [x1]) (rest := rest) hd hq hw hc hci hr rfl hst (by rw [h0.1, h0.2]; exact hf) ok (fun r h1 n1 z => ?_)
  obtain ⟨v, e, k⟩ := z
  subst e
  rw [h0.1, h0.2]
  exact k
theorem zx_cV2v {a ci : Nat} {fs : List Value} {r : vw_C} {x1 x2 : Value} (hd : decode M.2.2.1 pc = .ok (.invokevirtual idx, 3)) (hq : pc + 3 = q) (hw : zx_CV M M' idx y 2) (h0 : M'.2.2.2.2.2.2.1 = 0 ∧ M'.2.2.2.2.2.2.2 = 0) (hc : h a = some (.inr (ci, fs))) (hci : vwCl[ci]? = some r) (hr : r.1 = M'.1) (hst : (rest.map fun v => v.category).sum ≤ 8) (hf : cells ≤ M.2.2.2.2.2.1.cells ∧ slots ≤ M.2.2.2.2.2.1.slots)
    (ok : zx_Ok E y M' [.ref a, x1, x2] h n (fun r h1 n1 => r = none ∧ zx_X E M Y q L (rest) h1 n1 cells slots)) : zx_X E M Y pc L (x2 :: x1 :: .ref a :: rest) h n cells slots := by
  refine zx_callV (As := [x1, x2]) (rest := rest) hd hq hw hc hci hr rfl hst (by rw [h0.1, h0.2]; exact hf) ok (fun r h1 n1 z => ?_)
  obtain ⟨e, k⟩ := z
  subst e
  rw [h0.1, h0.2]
  exact k
theorem zx_cV2i {a ci : Nat} {fs : List Value} {r : vw_C} {x1 x2 : Value} (hd : decode M.2.2.1 pc = .ok (.invokevirtual idx, 3)) (hq : pc + 3 = q) (hw : zx_CV M M' idx y 2) (h0 : M'.2.2.2.2.2.2.1 = 0 ∧ M'.2.2.2.2.2.2.2 = 0) (hc : h a = some (.inr (ci, fs))) (hci : vwCl[ci]? = some r) (hr : r.1 = M'.1) (hst : (rest.map fun v => v.category).sum ≤ 8) (hf : cells ≤ M.2.2.2.2.2.1.cells ∧ slots ≤ M.2.2.2.2.2.1.slots)
    (ok : zx_Ok E y M' [.ref a, x1, x2] h n (fun r h1 n1 => ∃ v : Int32, r = some (.int v) ∧ zx_X E M Y q L (.int v :: rest) h1 n1 cells slots)) : zx_X E M Y pc L (x2 :: x1 :: .ref a :: rest) h n cells slots := by
  refine zx_callV (As := [x1, x2]) (rest := rest) hd hq hw hc hci hr rfl hst (by rw [h0.1, h0.2]; exact hf) ok (fun r h1 n1 z => ?_)
  obtain ⟨v, e, k⟩ := z
  subst e
  rw [h0.1, h0.2]
  exact k
theorem zx_cV2l {a ci : Nat} {fs : List Value} {r : vw_C} {x1 x2 : Value} (hd : decode M.2.2.1 pc = .ok (.invokevirtual idx, 3)) (hq : pc + 3 = q) (hw : zx_CV M M' idx y 2) (h0 : M'.2.2.2.2.2.2.1 = 0 ∧ M'.2.2.2.2.2.2.2 = 0) (hc : h a = some (.inr (ci, fs))) (hci : vwCl[ci]? = some r) (hr : r.1 = M'.1) (hst : (rest.map fun v => v.category).sum ≤ 8) (hf : cells ≤ M.2.2.2.2.2.1.cells ∧ slots ≤ M.2.2.2.2.2.1.slots)
    (ok : zx_Ok E y M' [.ref a, x1, x2] h n (fun r h1 n1 => ∃ v : Int64, r = some (.long v) ∧ zx_X E M Y q L (.long v :: rest) h1 n1 cells slots)) : zx_X E M Y pc L (x2 :: x1 :: .ref a :: rest) h n cells slots := by
  refine zx_callV (As := [x1, x2]) (rest := rest) hd hq hw hc hci hr rfl hst (by rw [h0.1, h0.2]; exact hf) ok (fun r h1 n1 z => ?_)
  obtain ⟨v, e, k⟩ := z
  subst e
  rw [h0.1, h0.2]
  exact k
theorem zx_cV2a {a ci : Nat} {fs : List Value} {r : vw_C} {x1 x2 : Value} (hd : decode M.2.2.1 pc = .ok (.invokevirtual idx, 3)) (hq : pc + 3 = q) (hw : zx_CV M M' idx y 2) (h0 : M'.2.2.2.2.2.2.1 = 0 ∧ M'.2.2.2.2.2.2.2 = 0) (hc : h a = some (.inr (ci, fs))) (hci : vwCl[ci]? = some r) (hr : r.1 = M'.1) (hst : (rest.map fun v => v.category).sum ≤ 8) (hf : cells ≤ M.2.2.2.2.2.1.cells ∧ slots ≤ M.2.2.2.2.2.1.slots)
    (ok : zx_Ok E y M' [.ref a, x1, x2] h n (fun r h1 n1 => ∃ v : Nat, r = some (.ref v) ∧ zx_X E M Y q L (.ref v :: rest) h1 n1 cells slots)) : zx_X E M Y pc L (x2 :: x1 :: .ref a :: rest) h n cells slots := by
  refine zx_callV (As := [x1, x2]) (rest := rest) hd hq hw hc hci hr rfl hst (by rw [h0.1, h0.2]; exact hf) ok (fun r h1 n1 z => ?_)
  obtain ⟨v, e, k⟩ := z
  subst e
  rw [h0.1, h0.2]
  exact k
theorem zx_cV3v {a ci : Nat} {fs : List Value} {r : vw_C} {x1 x2 x3 : Value} (hd : decode M.2.2.1 pc = .ok (.invokevirtual idx, 3)) (hq : pc + 3 = q) (hw : zx_CV M M' idx y 3) (h0 : M'.2.2.2.2.2.2.1 = 0 ∧ M'.2.2.2.2.2.2.2 = 0) (hc : h a = some (.inr (ci, fs))) (hci : vwCl[ci]? = some r) (hr : r.1 = M'.1) (hst : (rest.map fun v => v.category).sum ≤ 8) (hf : cells ≤ M.2.2.2.2.2.1.cells ∧ slots ≤ M.2.2.2.2.2.1.slots)
    (ok : zx_Ok E y M' [.ref a, x1, x2, x3] h n (fun r h1 n1 => r = none ∧ zx_X E M Y q L (rest) h1 n1 cells slots)) : zx_X E M Y pc L (x3 :: x2 :: x1 :: .ref a :: rest) h n cells slots := by
  refine zx_callV (As := [x1, x2, x3]) (rest := rest) hd hq hw hc hci hr rfl hst (by rw [h0.1, h0.2]; exact hf) ok (fun r h1 n1 z => ?_)
  obtain ⟨e, k⟩ := z
  subst e
  rw [h0.1, h0.2]
  exact k
theorem zx_cV3i {a ci : Nat} {fs : List Value} {r : vw_C} {x1 x2 x3 : Value} (hd : decode M.2.2.1 pc = .ok (.invokevirtual idx, 3)) (hq : pc + 3 = q) (hw : zx_CV M M' idx y 3) (h0 : M'.2.2.2.2.2.2.1 = 0 ∧ M'.2.2.2.2.2.2.2 = 0) (hc : h a = some (.inr (ci, fs))) (hci : vwCl[ci]? = some r) (hr : r.1 = M'.1) (hst : (rest.map fun v => v.category).sum ≤ 8) (hf : cells ≤ M.2.2.2.2.2.1.cells ∧ slots ≤ M.2.2.2.2.2.1.slots)
    (ok : zx_Ok E y M' [.ref a, x1, x2, x3] h n (fun r h1 n1 => ∃ v : Int32, r = some (.int v) ∧ zx_X E M Y q L (.int v :: rest) h1 n1 cells slots)) : zx_X E M Y pc L (x3 :: x2 :: x1 :: .ref a :: rest) h n cells slots := by
  refine zx_callV (As := [x1, x2, x3]) (rest := rest) hd hq hw hc hci hr rfl hst (by rw [h0.1, h0.2]; exact hf) ok (fun r h1 n1 z => ?_)
  obtain ⟨v, e, k⟩ := z
  subst e
  rw [h0.1, h0.2]
  exact k
theorem zx_cV3l {a ci : Nat} {fs : List Value} {r : vw_C} {x1 x2 x3 : Value} (hd : decode M.2.2.1 pc = .ok (.invokevirtual idx, 3)) (hq : pc + 3 = q) (hw : zx_CV M M' idx y 3) (h0 : M'.2.2.2.2.2.2.1 = 0 ∧ M'.2.2.2.2.2.2.2 = 0) (hc : h a = some (.inr (ci, fs))) (hci : vwCl[ci]? = some r) (hr : r.1 = M'.1) (hst : (rest.map fun v => v.category).sum ≤ 8) (hf : cells ≤ M.2.2.2.2.2.1.cells ∧ slots ≤ M.2.2.2.2.2.1.slots)
    (ok : zx_Ok E y M' [.ref a, x1, x2, x3] h n (fun r h1 n1 => ∃ v : Int64, r = some (.long v) ∧ zx_X E M Y q L (.long v :: rest) h1 n1 cells slots)) : zx_X E M Y pc L (x3 :: x2 :: x1 :: .ref a :: rest) h n cells slots := by
  refine zx_callV (As := [x1, x2, x3]) (rest := rest) hd hq hw hc hci hr rfl hst (by rw [h0.1, h0.2]; exact hf) ok (fun r h1 n1 z => ?_)
  obtain ⟨v, e, k⟩ := z
  subst e
  rw [h0.1, h0.2]
  exact k
theorem zx_cV3a {a ci : Nat} {fs : List Value} {r : vw_C} {x1 x2 x3 : Value} (hd : decode M.2.2.1 pc = .ok (.invokevirtual idx, 3)) (hq : pc + 3 = q) (hw : zx_CV M M' idx y 3) (h0 : M'.2.2.2.2.2.2.1 = 0 ∧ M'.2.2.2.2.2.2.2 = 0) (hc : h a = some (.inr (ci, fs))) (hci : vwCl[ci]? = some r) (hr : r.1 = M'.1) (hst : (rest.map fun v => v.category).sum ≤ 8) (hf : cells ≤ M.2.2.2.2.2.1.cells ∧ slots ≤ M.2.2.2.2.2.1.slots)
    (ok : zx_Ok E y M' [.ref a, x1, x2, x3] h n (fun r h1 n1 => ∃ v : Nat, r = some (.ref v) ∧ zx_X E M Y q L (.ref v :: rest) h1 n1 cells slots)) : zx_X E M Y pc L (x3 :: x2 :: x1 :: .ref a :: rest) h n cells slots := by
  refine zx_callV (As := [x1, x2, x3]) (rest := rest) hd hq hw hc hci hr rfl hst (by rw [h0.1, h0.2]; exact hf) ok (fun r h1 n1 z => ?_)
  obtain ⟨v, e, k⟩ := z
  subst e
  rw [h0.1, h0.2]
  exact k
theorem zx_cV4v {a ci : Nat} {fs : List Value} {r : vw_C} {x1 x2 x3 x4 : Value} (hd : decode M.2.2.1 pc = .ok (.invokevirtual idx, 3)) (hq : pc + 3 = q) (hw : zx_CV M M' idx y 4) (h0 : M'.2.2.2.2.2.2.1 = 0 ∧ M'.2.2.2.2.2.2.2 = 0) (hc : h a = some (.inr (ci, fs))) (hci : vwCl[ci]? = some r) (hr : r.1 = M'.1) (hst : (rest.map fun v => v.category).sum ≤ 8) (hf : cells ≤ M.2.2.2.2.2.1.cells ∧ slots ≤ M.2.2.2.2.2.1.slots)
    (ok : zx_Ok E y M' [.ref a, x1, x2, x3, x4] h n (fun r h1 n1 => r = none ∧ zx_X E M Y q L (rest) h1 n1 cells slots)) : zx_X E M Y pc L (x4 :: x3 :: x2 :: x1 :: .ref a :: rest) h n cells slots := by
  refine zx_callV (As := [x1, x2, x3, x4]) (rest := rest) hd hq hw hc hci hr rfl hst (by rw [h0.1, h0.2]; exact hf) ok (fun r h1 n1 z => ?_)
  obtain ⟨e, k⟩ := z
  subst e
  rw [h0.1, h0.2]
  exact k
theorem zx_cV4i {a ci : Nat} {fs : List Value} {r : vw_C} {x1 x2 x3 x4 : Value} (hd : decode M.2.2.1 pc = .ok (.invokevirtual idx, 3)) (hq : pc + 3 = q) (hw : zx_CV M M' idx y 4) (h0 : M'.2.2.2.2.2.2.1 = 0 ∧ M'.2.2.2.2.2.2.2 = 0) (hc : h a = some (.inr (ci, fs))) (hci : vwCl[ci]? = some r) (hr : r.1 = M'.1) (hst : (rest.map fun v => v.category).sum ≤ 8) (hf : cells ≤ M.2.2.2.2.2.1.cells ∧ slots ≤ M.2.2.2.2.2.1.slots)
    (ok : zx_Ok E y M' [.ref a, x1, x2, x3, x4] h n (fun r h1 n1 => ∃ v : Int32, r = some (.int v) ∧ zx_X E M Y q L (.int v :: rest) h1 n1 cells slots)) : zx_X E M Y pc L (x4 :: x3 :: x2 :: x1 :: .ref a :: rest) h n cells slots := by
  refine zx_callV (As := [x1, x2, x3, x4]) (rest := rest) hd hq hw hc hci hr rfl hst (by rw [h0.1, h0.2]; exact hf) ok (fun r h1 n1 z => ?_)
  obtain ⟨v, e, k⟩ := z
  subst e
  rw [h0.1, h0.2]
  exact k
theorem zx_cV4l {a ci : Nat} {fs : List Value} {r : vw_C} {x1 x2 x3 x4 : Value} (hd : decode M.2.2.1 pc = .ok (.invokevirtual idx, 3)) (hq : pc + 3 = q) (hw : zx_CV M M' idx y 4) (h0 : M'.2.2.2.2.2.2.1 = 0 ∧ M'.2.2.2.2.2.2.2 = 0) (hc : h a = some (.inr (ci, fs))) (hci : vwCl[ci]? = some r) (hr : r.1 = M'.1) (hst : (rest.map fun v => v.category).sum ≤ 8) (hf : cells ≤ M.2.2.2.2.2.1.cells ∧ slots ≤ M.2.2.2.2.2.1.slots)
    (ok : zx_Ok E y M' [.ref a, x1, x2, x3, x4] h n (fun r h1 n1 => ∃ v : Int64, r = some (.long v) ∧ zx_X E M Y q L (.long v :: rest) h1 n1 cells slots)) : zx_X E M Y pc L (x4 :: x3 :: x2 :: x1 :: .ref a :: rest) h n cells slots := by
  refine zx_callV (As := [x1, x2, x3, x4]) (rest := rest) hd hq hw hc hci hr rfl hst (by rw [h0.1, h0.2]; exact hf) ok (fun r h1 n1 z => ?_)
  obtain ⟨v, e, k⟩ := z
  subst e
  rw [h0.1, h0.2]
  exact k
theorem zx_cV4a {a ci : Nat} {fs : List Value} {r : vw_C} {x1 x2 x3 x4 : Value} (hd : decode M.2.2.1 pc = .ok (.invokevirtual idx, 3)) (hq : pc + 3 = q) (hw : zx_CV M M' idx y 4) (h0 : M'.2.2.2.2.2.2.1 = 0 ∧ M'.2.2.2.2.2.2.2 = 0) (hc : h a = some (.inr (ci, fs))) (hci : vwCl[ci]? = some r) (hr : r.1 = M'.1) (hst : (rest.map fun v => v.category).sum ≤ 8) (hf : cells ≤ M.2.2.2.2.2.1.cells ∧ slots ≤ M.2.2.2.2.2.1.slots)
    (ok : zx_Ok E y M' [.ref a, x1, x2, x3, x4] h n (fun r h1 n1 => ∃ v : Nat, r = some (.ref v) ∧ zx_X E M Y q L (.ref v :: rest) h1 n1 cells slots)) : zx_X E M Y pc L (x4 :: x3 :: x2 :: x1 :: .ref a :: rest) h n cells slots := by
  refine zx_callV (As := [x1, x2, x3, x4]) (rest := rest) hd hq hw hc hci hr rfl hst (by rw [h0.1, h0.2]; exact hf) ok (fun r h1 n1 z => ?_)
  obtain ⟨v, e, k⟩ := z
  subst e
  rw [h0.1, h0.2]
  exact k
theorem zx_cV5v {a ci : Nat} {fs : List Value} {r : vw_C} {x1 x2 x3 x4 x5 : Value} (hd : decode M.2.2.1 pc = .ok (.invokevirtual idx, 3)) (hq : pc + 3 = q) (hw : zx_CV M M' idx y 5) (h0 : M'.2.2.2.2.2.2.1 = 0 ∧ M'.2.2.2.2.2.2.2 = 0) (hc : h a = some (.inr (ci, fs))) (hci : vwCl[ci]? = some r) (hr : r.1 = M'.1) (hst : (rest.map fun v => v.category).sum ≤ 8) (hf : cells ≤ M.2.2.2.2.2.1.cells ∧ slots ≤ M.2.2.2.2.2.1.slots)
    (ok : zx_Ok E y M' [.ref a, x1, x2, x3, x4, x5] h n (fun r h1 n1 => r = none ∧ zx_X E M Y q L (rest) h1 n1 cells slots)) : zx_X E M Y pc L (x5 :: x4 :: x3 :: x2 :: x1 :: .ref a :: rest) h n cells slots := by
  refine zx_callV (As := [x1, x2, x3, x4, x5]) (rest := rest) hd hq hw hc hci hr rfl hst (by rw [h0.1, h0.2]; exact hf) ok (fun r h1 n1 z => ?_)
  obtain ⟨e, k⟩ := z
  subst e
  rw [h0.1, h0.2]
  exact k
theorem zx_cV5i {a ci : Nat} {fs : List Value} {r : vw_C} {x1 x2 x3 x4 x5 : Value} (hd : decode M.2.2.1 pc = .ok (.invokevirtual idx, 3)) (hq : pc + 3 = q) (hw : zx_CV M M' idx y 5) (h0 : M'.2.2.2.2.2.2.1 = 0 ∧ M'.2.2.2.2.2.2.2 = 0) (hc : h a = some (.inr (ci, fs))) (hci : vwCl[ci]? = some r) (hr : r.1 = M'.1) (hst : (rest.map fun v => v.category).sum ≤ 8) (hf : cells ≤ M.2.2.2.2.2.1.cells ∧ slots ≤ M.2.2.2.2.2.1.slots)
    (ok : zx_Ok E y M' [.ref a, x1, x2, x3, x4, x5] h n (fun r h1 n1 => ∃ v : Int32, r = some (.int v) ∧ zx_X E M Y q L (.int v :: rest) h1 n1 cells slots)) : zx_X E M Y pc L (x5 :: x4 :: x3 :: x2 :: x1 :: .ref a :: rest) h n cells slots := by
  refine zx_callV (As := [x1, x2, x3, x4, x5]) (rest := rest) hd hq hw hc hci hr rfl hst (by rw [h0.1, h0.2]; exact hf) ok (fun r h1 n1 z => ?_)
  obtain ⟨v, e, k⟩ := z
  subst e
  rw [h0.1, h0.2]
  exact k
theorem zx_cV5l {a ci : Nat} {fs : List Value} {r : vw_C} {x1 x2 x3 x4 x5 : Value} (hd : decode M.2.2.1 pc = .ok (.invokevirtual idx, 3)) (hq : pc + 3 = q) (hw : zx_CV M M' idx y 5) (h0 : M'.2.2.2.2.2.2.1 = 0 ∧ M'.2.2.2.2.2.2.2 = 0) (hc : h a = some (.inr (ci, fs))) (hci : vwCl[ci]? = some r) (hr : r.1 = M'.1) (hst : (rest.map fun v => v.category).sum ≤ 8) (hf : cells ≤ M.2.2.2.2.2.1.cells ∧ slots ≤ M.2.2.2.2.2.1.slots)
    (ok : zx_Ok E y M' [.ref a, x1, x2, x3, x4, x5] h n (fun r h1 n1 => ∃ v : Int64, r = some (.long v) ∧ zx_X E M Y q L (.long v :: rest) h1 n1 cells slots)) : zx_X E M Y pc L (x5 :: x4 :: x3 :: x2 :: x1 :: .ref a :: rest) h n cells slots := by
  refine zx_callV (As := [x1, x2, x3, x4, x5]) (rest := rest) hd hq hw hc hci hr rfl hst (by rw [h0.1, h0.2]; exact hf) ok (fun r h1 n1 z => ?_)
  obtain ⟨v, e, k⟩ := z
  subst e
  rw [h0.1, h0.2]
  exact k
theorem zx_cV5a {a ci : Nat} {fs : List Value} {r : vw_C} {x1 x2 x3 x4 x5 : Value} (hd : decode M.2.2.1 pc = .ok (.invokevirtual idx, 3)) (hq : pc + 3 = q) (hw : zx_CV M M' idx y 5) (h0 : M'.2.2.2.2.2.2.1 = 0 ∧ M'.2.2.2.2.2.2.2 = 0) (hc : h a = some (.inr (ci, fs))) (hci : vwCl[ci]? = some r) (hr : r.1 = M'.1) (hst : (rest.map fun v => v.category).sum ≤ 8) (hf : cells ≤ M.2.2.2.2.2.1.cells ∧ slots ≤ M.2.2.2.2.2.1.slots)
    (ok : zx_Ok E y M' [.ref a, x1, x2, x3, x4, x5] h n (fun r h1 n1 => ∃ v : Nat, r = some (.ref v) ∧ zx_X E M Y q L (.ref v :: rest) h1 n1 cells slots)) : zx_X E M Y pc L (x5 :: x4 :: x3 :: x2 :: x1 :: .ref a :: rest) h n cells slots := by
  refine zx_callV (As := [x1, x2, x3, x4, x5]) (rest := rest) hd hq hw hc hci hr rfl hst (by rw [h0.1, h0.2]; exact hf) ok (fun r h1 n1 z => ?_)
  obtain ⟨v, e, k⟩ := z
  subst e
  rw [h0.1, h0.2]
  exact k
theorem zx_cV6v {a ci : Nat} {fs : List Value} {r : vw_C} {x1 x2 x3 x4 x5 x6 : Value} (hd : decode M.2.2.1 pc = .ok (.invokevirtual idx, 3)) (hq : pc + 3 = q) (hw : zx_CV M M' idx y 6) (h0 : M'.2.2.2.2.2.2.1 = 0 ∧ M'.2.2.2.2.2.2.2 = 0) (hc : h a = some (.inr (ci, fs))) (hci : vwCl[ci]? = some r) (hr : r.1 = M'.1) (hst : (rest.map fun v => v.category).sum ≤ 8) (hf : cells ≤ M.2.2.2.2.2.1.cells ∧ slots ≤ M.2.2.2.2.2.1.slots)
    (ok : zx_Ok E y M' [.ref a, x1, x2, x3, x4, x5, x6] h n (fun r h1 n1 => r = none ∧ zx_X E M Y q L (rest) h1 n1 cells slots)) : zx_X E M Y pc L (x6 :: x5 :: x4 :: x3 :: x2 :: x1 :: .ref a :: rest) h n cells slots := by
  refine zx_callV (As := [x1, x2, x3, x4, x5, x6]) (rest := rest) hd hq hw hc hci hr rfl hst (by rw [h0.1, h0.2]; exact hf) ok (fun r h1 n1 z => ?_)
  obtain ⟨e, k⟩ := z
  subst e
  rw [h0.1, h0.2]
  exact k
theorem zx_cV6i {a ci : Nat} {fs : List Value} {r : vw_C} {x1 x2 x3 x4 x5 x6 : Value} (hd : decode M.2.2.1 pc = .ok (.invokevirtual idx, 3)) (hq : pc + 3 = q) (hw : zx_CV M M' idx y 6) (h0 : M'.2.2.2.2.2.2.1 = 0 ∧ M'.2.2.2.2.2.2.2 = 0) (hc : h a = some (.inr (ci, fs))) (hci : vwCl[ci]? = some r) (hr : r.1 = M'.1) (hst : (rest.map fun v => v.category).sum ≤ 8) (hf : cells ≤ M.2.2.2.2.2.1.cells ∧ slots ≤ M.2.2.2.2.2.1.slots)
    (ok : zx_Ok E y M' [.ref a, x1, x2, x3, x4, x5, x6] h n (fun r h1 n1 => ∃ v : Int32, r = some (.int v) ∧ zx_X E M Y q L (.int v :: rest) h1 n1 cells slots)) : zx_X E M Y pc L (x6 :: x5 :: x4 :: x3 :: x2 :: x1 :: .ref a :: rest) h n cells slots := by
  refine zx_callV (As := [x1, x2, x3, x4, x5, x6]) (rest := rest) hd hq hw hc hci hr rfl hst (by rw [h0.1, h0.2]; exact hf) ok (fun r h1 n1 z => ?_)
  obtain ⟨v, e, k⟩ := z
  subst e
  rw [h0.1, h0.2]
  exact k
theorem zx_cV6l {a ci : Nat} {fs : List Value} {r : vw_C} {x1 x2 x3 x4 x5 x6 : Value} (hd : decode M.2.2.1 pc = .ok (.invokevirtual idx, 3)) (hq : pc + 3 = q) (hw : zx_CV M M' idx y 6) (h0 : M'.2.2.2.2.2.2.1 = 0 ∧ M'.2.2.2.2.2.2.2 = 0) (hc : h a = some (.inr (ci, fs))) (hci : vwCl[ci]? = some r) (hr : r.1 = M'.1) (hst : (rest.map fun v => v.category).sum ≤ 8) (hf : cells ≤ M.2.2.2.2.2.1.cells ∧ slots ≤ M.2.2.2.2.2.1.slots)
    (ok : zx_Ok E y M' [.ref a, x1, x2, x3, x4, x5, x6] h n (fun r h1 n1 => ∃ v : Int64, r = some (.long v) ∧ zx_X E M Y q L (.long v :: rest) h1 n1 cells slots)) : zx_X E M Y pc L (x6 :: x5 :: x4 :: x3 :: x2 :: x1 :: .ref a :: rest) h n cells slots := by
  refine zx_callV (As := [x1, x2, x3, x4, x5, x6]) (rest := rest) hd hq hw hc hci hr rfl hst (by rw [h0.1, h0.2]; exact hf) ok (fun r h1 n1 z => ?_)
  obtain ⟨v, e, k⟩ := z
  subst e
  rw [h0.1, h0.2]
  exact k
theorem zx_cV6a {a ci : Nat} {fs : List Value} {r : vw_C} {x1 x2 x3 x4 x5 x6 : Value} (hd : decode M.2.2.1 pc = .ok (.invokevirtual idx, 3)) (hq : pc + 3 = q) (hw : zx_CV M M' idx y 6) (h0 : M'.2.2.2.2.2.2.1 = 0 ∧ M'.2.2.2.2.2.2.2 = 0) (hc : h a = some (.inr (ci, fs))) (hci : vwCl[ci]? = some r) (hr : r.1 = M'.1) (hst : (rest.map fun v => v.category).sum ≤ 8) (hf : cells ≤ M.2.2.2.2.2.1.cells ∧ slots ≤ M.2.2.2.2.2.1.slots)
    (ok : zx_Ok E y M' [.ref a, x1, x2, x3, x4, x5, x6] h n (fun r h1 n1 => ∃ v : Nat, r = some (.ref v) ∧ zx_X E M Y q L (.ref v :: rest) h1 n1 cells slots)) : zx_X E M Y pc L (x6 :: x5 :: x4 :: x3 :: x2 :: x1 :: .ref a :: rest) h n cells slots := by
  refine zx_callV (As := [x1, x2, x3, x4, x5, x6]) (rest := rest) hd hq hw hc hci hr rfl hst (by rw [h0.1, h0.2]; exact hf) ok (fun r h1 n1 z => ?_)
  obtain ⟨v, e, k⟩ := z
  subst e
  rw [h0.1, h0.2]
  exact k
theorem zx_cV7v {a ci : Nat} {fs : List Value} {r : vw_C} {x1 x2 x3 x4 x5 x6 x7 : Value} (hd : decode M.2.2.1 pc = .ok (.invokevirtual idx, 3)) (hq : pc + 3 = q) (hw : zx_CV M M' idx y 7) (h0 : M'.2.2.2.2.2.2.1 = 0 ∧ M'.2.2.2.2.2.2.2 = 0) (hc : h a = some (.inr (ci, fs))) (hci : vwCl[ci]? = some r) (hr : r.1 = M'.1) (hst : (rest.map fun v => v.category).sum ≤ 8) (hf : cells ≤ M.2.2.2.2.2.1.cells ∧ slots ≤ M.2.2.2.2.2.1.slots)
    (ok : zx_Ok E y M' [.ref a, x1, x2, x3, x4, x5, x6, x7] h n (fun r h1 n1 => r = none ∧ zx_X E M Y q L (rest) h1 n1 cells slots)) : zx_X E M Y pc L (x7 :: x6 :: x5 :: x4 :: x3 :: x2 :: x1 :: .ref a :: rest) h n cells slots := by
  refine zx_callV (As := [x1, x2, x3, x4, x5, x6, x7]) (rest := rest) hd hq hw hc hci hr rfl hst (by rw [h0.1, h0.2]; exact hf) ok (fun r h1 n1 z => ?_)
  obtain ⟨e, k⟩ := z
  subst e
  rw [h0.1, h0.2]
  exact k
theorem zx_cV7i {a ci : Nat} {fs : List Value} {r : vw_C} {x1 x2 x3 x4 x5 x6 x7 : Value} (hd : decode M.2.2.1 pc = .ok (.invokevirtual idx, 3)) (hq : pc + 3 = q) (hw : zx_CV M M' idx y 7) (h0 : M'.2.2.2.2.2.2.1 = 0 ∧ M'.2.2.2.2.2.2.2 = 0) (hc : h a = some (.inr (ci, fs))) (hci : vwCl[ci]? = some r) (hr : r.1 = M'.1) (hst : (rest.map fun v => v.category).sum ≤ 8) (hf : cells ≤ M.2.2.2.2.2.1.cells ∧ slots ≤ M.2.2.2.2.2.1.slots)
    (ok : zx_Ok E y M' [.ref a, x1, x2, x3, x4, x5, x6, x7] h n (fun r h1 n1 => ∃ v : Int32, r = some (.int v) ∧ zx_X E M Y q L (.int v :: rest) h1 n1 cells slots)) : zx_X E M Y pc L (x7 :: x6 :: x5 :: x4 :: x3 :: x2 :: x1 :: .ref a :: rest) h n cells slots := by
  refine zx_callV (As := [x1, x2, x3, x4, x5, x6, x7]) (rest := rest) hd hq hw hc hci hr rfl hst (by rw [h0.1, h0.2]; exact hf) ok (fun r h1 n1 z => ?_)
  obtain ⟨v, e, k⟩ := z
  subst e
  rw [h0.1, h0.2]
  exact k
theorem zx_cV7l {a ci : Nat} {fs : List Value} {r : vw_C} {x1 x2 x3 x4 x5 x6 x7 : Value} (hd : decode M.2.2.1 pc = .ok (.invokevirtual idx, 3)) (hq : pc + 3 = q) (hw : zx_CV M M' idx y 7) (h0 : M'.2.2.2.2.2.2.1 = 0 ∧ M'.2.2.2.2.2.2.2 = 0) (hc : h a = some (.inr (ci, fs))) (hci : vwCl[ci]? = some r) (hr : r.1 = M'.1) (hst : (rest.map fun v => v.category).sum ≤ 8) (hf : cells ≤ M.2.2.2.2.2.1.cells ∧ slots ≤ M.2.2.2.2.2.1.slots)
    (ok : zx_Ok E y M' [.ref a, x1, x2, x3, x4, x5, x6, x7] h n (fun r h1 n1 => ∃ v : Int64, r = some (.long v) ∧ zx_X E M Y q L (.long v :: rest) h1 n1 cells slots)) : zx_X E M Y pc L (x7 :: x6 :: x5 :: x4 :: x3 :: x2 :: x1 :: .ref a :: rest) h n cells slots := by
  refine zx_callV (As := [x1, x2, x3, x4, x5, x6, x7]) (rest := rest) hd hq hw hc hci hr rfl hst (by rw [h0.1, h0.2]; exact hf) ok (fun r h1 n1 z => ?_)
  obtain ⟨v, e, k⟩ := z
  subst e
  rw [h0.1, h0.2]
  exact k
theorem zx_cV7a {a ci : Nat} {fs : List Value} {r : vw_C} {x1 x2 x3 x4 x5 x6 x7 : Value} (hd : decode M.2.2.1 pc = .ok (.invokevirtual idx, 3)) (hq : pc + 3 = q) (hw : zx_CV M M' idx y 7) (h0 : M'.2.2.2.2.2.2.1 = 0 ∧ M'.2.2.2.2.2.2.2 = 0) (hc : h a = some (.inr (ci, fs))) (hci : vwCl[ci]? = some r) (hr : r.1 = M'.1) (hst : (rest.map fun v => v.category).sum ≤ 8) (hf : cells ≤ M.2.2.2.2.2.1.cells ∧ slots ≤ M.2.2.2.2.2.1.slots)
    (ok : zx_Ok E y M' [.ref a, x1, x2, x3, x4, x5, x6, x7] h n (fun r h1 n1 => ∃ v : Nat, r = some (.ref v) ∧ zx_X E M Y q L (.ref v :: rest) h1 n1 cells slots)) : zx_X E M Y pc L (x7 :: x6 :: x5 :: x4 :: x3 :: x2 :: x1 :: .ref a :: rest) h n cells slots := by
  refine zx_callV (As := [x1, x2, x3, x4, x5, x6, x7]) (rest := rest) hd hq hw hc hci hr rfl hst (by rw [h0.1, h0.2]; exact hf) ok (fun r h1 n1 z => ?_)
  obtain ⟨v, e, k⟩ := z
  subst e
  rw [h0.1, h0.2]
  exact k
theorem zx_cI0v {a : Nat} (hd : decode M.2.2.1 pc = .ok (.invokespecial idx, 3)) (hq : pc + 3 = q) (hw : zx_CI M M' idx y 0) (h0 : M'.2.2.2.2.2.2.1 = 0 ∧ M'.2.2.2.2.2.2.2 = 0) (hst : (rest.map fun v => v.category).sum ≤ 8) (hf : cells ≤ M.2.2.2.2.2.1.cells ∧ slots ≤ M.2.2.2.2.2.1.slots)
    (ok : zx_Ok E y M' [.ref a] h n (fun r h1 n1 => r = none ∧ zx_X E M Y q L (rest) h1 n1 cells slots)) : zx_X E M Y pc L (.ref a :: rest) h n cells slots := by
  refine zx_callI (As := []) (rest := rest) hd hq hw rfl hst (by rw [h0.1, h0.2]; exact hf) ok (fun r h1 n1 z => ?_)
  obtain ⟨e, k⟩ := z
  subst e
  rw [h0.1, h0.2]
  exact k
theorem zx_cI1v {a : Nat} {x1 : Value} (hd : decode M.2.2.1 pc = .ok (.invokespecial idx, 3)) (hq : pc + 3 = q) (hw : zx_CI M M' idx y 1) (h0 : M'.2.2.2.2.2.2.1 = 0 ∧ M'.2.2.2.2.2.2.2 = 0) (hst : (rest.map fun v => v.category).sum ≤ 8) (hf : cells ≤ M.2.2.2.2.2.1.cells ∧ slots ≤ M.2.2.2.2.2.1.slots)
    (ok : zx_Ok E y M' [.ref a, x1] h n (fun r h1 n1 => r = none ∧ zx_X E M Y q L (rest) h1 n1 cells slots)) : zx_X E M Y pc L (x1 :: .ref a :: rest) h n cells slots := by
  refine zx_callI (As := [x1]) (rest := rest) hd hq hw rfl hst (by rw [h0.1, h0.2]; exact hf) ok (fun r h1 n1 z => ?_)
  obtain ⟨e, k⟩ := z
  subst e
  rw [h0.1, h0.2]
  exact k
theorem zx_cI2v {a : Nat} {x1 x2 : Value} (hd : decode M.2.2.1 pc = .ok (.invokespecial idx, 3)) (hq : pc + 3 = q) (hw : zx_CI M M' idx y 2) (h0 : M'.2.2.2.2.2.2.1 = 0 ∧ M'.2.2.2.2.2.2.2 = 0) (hst : (rest.map fun v => v.category).sum ≤ 8) (hf : cells ≤ M.2.2.2.2.2.1.cells ∧ slots ≤ M.2.2.2.2.2.1.slots)
    (ok : zx_Ok E y M' [.ref a, x1, x2] h n (fun r h1 n1 => r = none ∧ zx_X E M Y q L (rest) h1 n1 cells slots)) : zx_X E M Y pc L (x2 :: x1 :: .ref a :: rest) h n cells slots := by
  refine zx_callI (As := [x1, x2]) (rest := rest) hd hq hw rfl hst (by rw [h0.1, h0.2]; exact hf) ok (fun r h1 n1 z => ?_)
  obtain ⟨e, k⟩ := z
  subst e
  rw [h0.1, h0.2]
  exact k
theorem zx_cI3v {a : Nat} {x1 x2 x3 : Value} (hd : decode M.2.2.1 pc = .ok (.invokespecial idx, 3)) (hq : pc + 3 = q) (hw : zx_CI M M' idx y 3) (h0 : M'.2.2.2.2.2.2.1 = 0 ∧ M'.2.2.2.2.2.2.2 = 0) (hst : (rest.map fun v => v.category).sum ≤ 8) (hf : cells ≤ M.2.2.2.2.2.1.cells ∧ slots ≤ M.2.2.2.2.2.1.slots)
    (ok : zx_Ok E y M' [.ref a, x1, x2, x3] h n (fun r h1 n1 => r = none ∧ zx_X E M Y q L (rest) h1 n1 cells slots)) : zx_X E M Y pc L (x3 :: x2 :: x1 :: .ref a :: rest) h n cells slots := by
  refine zx_callI (As := [x1, x2, x3]) (rest := rest) hd hq hw rfl hst (by rw [h0.1, h0.2]; exact hf) ok (fun r h1 n1 z => ?_)
  obtain ⟨e, k⟩ := z
  subst e
  rw [h0.1, h0.2]
  exact k
theorem zx_cI4v {a : Nat} {x1 x2 x3 x4 : Value} (hd : decode M.2.2.1 pc = .ok (.invokespecial idx, 3)) (hq : pc + 3 = q) (hw : zx_CI M M' idx y 4) (h0 : M'.2.2.2.2.2.2.1 = 0 ∧ M'.2.2.2.2.2.2.2 = 0) (hst : (rest.map fun v => v.category).sum ≤ 8) (hf : cells ≤ M.2.2.2.2.2.1.cells ∧ slots ≤ M.2.2.2.2.2.1.slots)
    (ok : zx_Ok E y M' [.ref a, x1, x2, x3, x4] h n (fun r h1 n1 => r = none ∧ zx_X E M Y q L (rest) h1 n1 cells slots)) : zx_X E M Y pc L (x4 :: x3 :: x2 :: x1 :: .ref a :: rest) h n cells slots := by
  refine zx_callI (As := [x1, x2, x3, x4]) (rest := rest) hd hq hw rfl hst (by rw [h0.1, h0.2]; exact hf) ok (fun r h1 n1 z => ?_)
  obtain ⟨e, k⟩ := z
  subst e
  rw [h0.1, h0.2]
  exact k
theorem zx_cI5v {a : Nat} {x1 x2 x3 x4 x5 : Value} (hd : decode M.2.2.1 pc = .ok (.invokespecial idx, 3)) (hq : pc + 3 = q) (hw : zx_CI M M' idx y 5) (h0 : M'.2.2.2.2.2.2.1 = 0 ∧ M'.2.2.2.2.2.2.2 = 0) (hst : (rest.map fun v => v.category).sum ≤ 8) (hf : cells ≤ M.2.2.2.2.2.1.cells ∧ slots ≤ M.2.2.2.2.2.1.slots)
    (ok : zx_Ok E y M' [.ref a, x1, x2, x3, x4, x5] h n (fun r h1 n1 => r = none ∧ zx_X E M Y q L (rest) h1 n1 cells slots)) : zx_X E M Y pc L (x5 :: x4 :: x3 :: x2 :: x1 :: .ref a :: rest) h n cells slots := by
  refine zx_callI (As := [x1, x2, x3, x4, x5]) (rest := rest) hd hq hw rfl hst (by rw [h0.1, h0.2]; exact hf) ok (fun r h1 n1 z => ?_)
  obtain ⟨e, k⟩ := z
  subst e
  rw [h0.1, h0.2]
  exact k
theorem zx_cI6v {a : Nat} {x1 x2 x3 x4 x5 x6 : Value} (hd : decode M.2.2.1 pc = .ok (.invokespecial idx, 3)) (hq : pc + 3 = q) (hw : zx_CI M M' idx y 6) (h0 : M'.2.2.2.2.2.2.1 = 0 ∧ M'.2.2.2.2.2.2.2 = 0) (hst : (rest.map fun v => v.category).sum ≤ 8) (hf : cells ≤ M.2.2.2.2.2.1.cells ∧ slots ≤ M.2.2.2.2.2.1.slots)
    (ok : zx_Ok E y M' [.ref a, x1, x2, x3, x4, x5, x6] h n (fun r h1 n1 => r = none ∧ zx_X E M Y q L (rest) h1 n1 cells slots)) : zx_X E M Y pc L (x6 :: x5 :: x4 :: x3 :: x2 :: x1 :: .ref a :: rest) h n cells slots := by
  refine zx_callI (As := [x1, x2, x3, x4, x5, x6]) (rest := rest) hd hq hw rfl hst (by rw [h0.1, h0.2]; exact hf) ok (fun r h1 n1 z => ?_)
  obtain ⟨e, k⟩ := z
  subst e
  rw [h0.1, h0.2]
  exact k
theorem zx_cI7v {a : Nat} {x1 x2 x3 x4 x5 x6 x7 : Value} (hd : decode M.2.2.1 pc = .ok (.invokespecial idx, 3)) (hq : pc + 3 = q) (hw : zx_CI M M' idx y 7) (h0 : M'.2.2.2.2.2.2.1 = 0 ∧ M'.2.2.2.2.2.2.2 = 0) (hst : (rest.map fun v => v.category).sum ≤ 8) (hf : cells ≤ M.2.2.2.2.2.1.cells ∧ slots ≤ M.2.2.2.2.2.1.slots)
    (ok : zx_Ok E y M' [.ref a, x1, x2, x3, x4, x5, x6, x7] h n (fun r h1 n1 => r = none ∧ zx_X E M Y q L (rest) h1 n1 cells slots)) : zx_X E M Y pc L (x7 :: x6 :: x5 :: x4 :: x3 :: x2 :: x1 :: .ref a :: rest) h n cells slots := by
  refine zx_callI (As := [x1, x2, x3, x4, x5, x6, x7]) (rest := rest) hd hq hw rfl hst (by rw [h0.1, h0.2]; exact hf) ok (fun r h1 n1 z => ?_)
  obtain ⟨e, k⟩ := z
  subst e
  rw [h0.1, h0.2]
  exact k
theorem zx_cS0v (hd : decode M.2.2.1 pc = .ok (.invokestatic idx, 3)) (hq : pc + 3 = q) (hw : zx_CS M M' idx y 0) (h0 : M'.2.2.2.2.2.2.1 = 0 ∧ M'.2.2.2.2.2.2.2 = 0) (hst : (rest.map fun v => v.category).sum ≤ 8) (hf : cells ≤ M.2.2.2.2.2.1.cells ∧ slots ≤ M.2.2.2.2.2.1.slots)
    (ok : zx_Ok E y M' [] h n (fun r h1 n1 => r = none ∧ zx_X E M Y q L (rest) h1 n1 cells slots)) : zx_X E M Y pc L (rest) h n cells slots := by
  refine zx_callS (As := []) (rest := rest) hd hq hw rfl hst (by rw [h0.1, h0.2]; exact hf) ok (fun r h1 n1 z => ?_)
  obtain ⟨e, k⟩ := z
  subst e
  rw [h0.1, h0.2]
  exact k
theorem zx_cS0i (hd : decode M.2.2.1 pc = .ok (.invokestatic idx, 3)) (hq : pc + 3 = q) (hw : zx_CS M M' idx y 0) (h0 : M'.2.2.2.2.2.2.1 = 0 ∧ M'.2.2.2.2.2.2.2 = 0) (hst : (rest.map fun v => v.category).sum ≤ 8) (hf : cells ≤ M.2.2.2.2.2.1.cells ∧ slots ≤ M.2.2.2.2.2.1.slots)
    (ok : zx_Ok E y M' [] h n (fun r h1 n1 => ∃ v : Int32, r = some (.int v) ∧ zx_X E M Y q L (.int v :: rest) h1 n1 cells slots)) : zx_X E M Y pc L (rest) h n cells slots := by
  refine zx_callS (As := []) (rest := rest) hd hq hw rfl hst (by rw [h0.1, h0.2]; exact hf) ok (fun r h1 n1 z => ?_)
  obtain ⟨v, e, k⟩ := z
  subst e
  rw [h0.1, h0.2]
  exact k
theorem zx_cS0l (hd : decode M.2.2.1 pc = .ok (.invokestatic idx, 3)) (hq : pc + 3 = q) (hw : zx_CS M M' idx y 0) (h0 : M'.2.2.2.2.2.2.1 = 0 ∧ M'.2.2.2.2.2.2.2 = 0) (hst : (rest.map fun v => v.category).sum ≤ 8) (hf : cells ≤ M.2.2.2.2.2.1.cells ∧ slots ≤ M.2.2.2.2.2.1.slots)
    (ok : zx_Ok E y M' [] h n (fun r h1 n1 => ∃ v : Int64, r = some (.long v) ∧ zx_X E M Y q L (.long v :: rest) h1 n1 cells slots)) : zx_X E M Y pc L (rest) h n cells slots := by
  refine zx_callS (As := []) (rest := rest) hd hq hw rfl hst (by rw [h0.1, h0.2]; exact hf) ok (fun r h1 n1 z => ?_)
  obtain ⟨v, e, k⟩ := z
  subst e
  rw [h0.1, h0.2]
  exact k
theorem zx_cS0a (hd : decode M.2.2.1 pc = .ok (.invokestatic idx, 3)) (hq : pc + 3 = q) (hw : zx_CS M M' idx y 0) (h0 : M'.2.2.2.2.2.2.1 = 0 ∧ M'.2.2.2.2.2.2.2 = 0) (hst : (rest.map fun v => v.category).sum ≤ 8) (hf : cells ≤ M.2.2.2.2.2.1.cells ∧ slots ≤ M.2.2.2.2.2.1.slots)
    (ok : zx_Ok E y M' [] h n (fun r h1 n1 => ∃ v : Nat, r = some (.ref v) ∧ zx_X E M Y q L (.ref v :: rest) h1 n1 cells slots)) : zx_X E M Y pc L (rest) h n cells slots := by
  refine zx_callS (As := []) (rest := rest) hd hq hw rfl hst (by rw [h0.1, h0.2]; exact hf) ok (fun r h1 n1 z => ?_)
  obtain ⟨v, e, k⟩ := z
  subst e
  rw [h0.1, h0.2]
  exact k
theorem zx_cS1v {x1 : Value} (hd : decode M.2.2.1 pc = .ok (.invokestatic idx, 3)) (hq : pc + 3 = q) (hw : zx_CS M M' idx y 1) (h0 : M'.2.2.2.2.2.2.1 = 0 ∧ M'.2.2.2.2.2.2.2 = 0) (hst : (rest.map fun v => v.category).sum ≤ 8) (hf : cells ≤ M.2.2.2.2.2.1.cells ∧ slots ≤ M.2.2.2.2.2.1.slots)
    (ok : zx_Ok E y M' [x1] h n (fun r h1 n1 => r = none ∧ zx_X E M Y q L (rest) h1 n1 cells slots)) : zx_X E M Y pc L (x1 :: rest) h n cells slots := by
  refine zx_callS (As := [x1]) (rest := rest) hd hq hw rfl hst (by rw [h0.1, h0.2]; exact hf) ok (fun r h1 n1 z => ?_)
  obtain ⟨e, k⟩ := z
  subst e
  rw [h0.1, h0.2]
  exact k
theorem zx_cS1i {x1 : Value} (hd : decode M.2.2.1 pc = .ok (.invokestatic idx, 3)) (hq : pc + 3 = q) (hw : zx_CS M M' idx y 1) (h0 : M'.2.2.2.2.2.2.1 = 0 ∧ M'.2.2.2.2.2.2.2 = 0) (hst : (rest.map fun v => v.category).sum ≤ 8) (hf : cells ≤ M.2.2.2.2.2.1.cells ∧ slots ≤ M.2.2.2.2.2.1.slots)
    (ok : zx_Ok E y M' [x1] h n (fun r h1 n1 => ∃ v : Int32, r = some (.int v) ∧ zx_X E M Y q L (.int v :: rest) h1 n1 cells slots)) : zx_X E M Y pc L (x1 :: rest) h n cells slots := by
  refine zx_callS (As := [x1]) (rest := rest) hd hq hw rfl hst (by rw [h0.1, h0.2]; exact hf) ok (fun r h1 n1 z => ?_)
  obtain ⟨v, e, k⟩ := z
  subst e
  rw [h0.1, h0.2]
  exact k
theorem zx_cS1l {x1 : Value} (hd : decode M.2.2.1 pc = .ok (.invokestatic idx, 3)) (hq : pc + 3 = q) (hw : zx_CS M M' idx y 1) (h0 : M'.2.2.2.2.2.2.1 = 0 ∧ M'.2.2.2.2.2.2.2 = 0) (hst : (rest.map fun v => v.category).sum ≤ 8) (hf : cells ≤ M.2.2.2.2.2.1.cells ∧ slots ≤ M.2.2.2.2.2.1.slots)
    (ok : zx_Ok E y M' [x1] h n (fun r h1 n1 => ∃ v : Int64, r = some (.long v) ∧ zx_X E M Y q L (.long v :: rest) h1 n1 cells slots)) : zx_X E M Y pc L (x1 :: rest) h n cells slots := by
  refine zx_callS (As := [x1]) (rest := rest) hd hq hw rfl hst (by rw [h0.1, h0.2]; exact hf) ok (fun r h1 n1 z => ?_)
  obtain ⟨v, e, k⟩ := z
  subst e
  rw [h0.1, h0.2]
  exact k
theorem zx_cS1a {x1 : Value} (hd : decode M.2.2.1 pc = .ok (.invokestatic idx, 3)) (hq : pc + 3 = q) (hw : zx_CS M M' idx y 1) (h0 : M'.2.2.2.2.2.2.1 = 0 ∧ M'.2.2.2.2.2.2.2 = 0) (hst : (rest.map fun v => v.category).sum ≤ 8) (hf : cells ≤ M.2.2.2.2.2.1.cells ∧ slots ≤ M.2.2.2.2.2.1.slots)
    (ok : zx_Ok E y M' [x1] h n (fun r h1 n1 => ∃ v : Nat, r = some (.ref v) ∧ zx_X E M Y q L (.ref v :: rest) h1 n1 cells slots)) : zx_X E M Y pc L (x1 :: rest) h n cells slots := by
  refine zx_callS (As := [x1]) (rest := rest) hd hq hw rfl hst (by rw [h0.1, h0.2]; exact hf) ok (fun r h1 n1 z => ?_)
  obtain ⟨v, e, k⟩ := z
  subst e
  rw [h0.1, h0.2]
  exact k
theorem zx_cS2v {x1 x2 : Value} (hd : decode M.2.2.1 pc = .ok (.invokestatic idx, 3)) (hq : pc + 3 = q) (hw : zx_CS M M' idx y 2) (h0 : M'.2.2.2.2.2.2.1 = 0 ∧ M'.2.2.2.2.2.2.2 = 0) (hst : (rest.map fun v => v.category).sum ≤ 8) (hf : cells ≤ M.2.2.2.2.2.1.cells ∧ slots ≤ M.2.2.2.2.2.1.slots)
    (ok : zx_Ok E y M' [x1, x2] h n (fun r h1 n1 => r = none ∧ zx_X E M Y q L (rest) h1 n1 cells slots)) : zx_X E M Y pc L (x2 :: x1 :: rest) h n cells slots := by
  refine zx_callS (As := [x1, x2]) (rest := rest) hd hq hw rfl hst (by rw [h0.1, h0.2]; exact hf) ok (fun r h1 n1 z => ?_)
  obtain ⟨e, k⟩ := z
  subst e
  rw [h0.1, h0.2]
  exact k
theorem zx_cS2i {x1 x2 : Value} (hd : decode M.2.2.1 pc = .ok (.invokestatic idx, 3)) (hq : pc + 3 = q) (hw : zx_CS M M' idx y 2) (h0 : M'.2.2.2.2.2.2.1 = 0 ∧ M'.2.2.2.2.2.2.2 = 0) (hst : (rest.map fun v => v.category).sum ≤ 8) (hf : cells ≤ M.2.2.2.2.2.1.cells ∧ slots ≤ M.2.2.2.2.2.1.slots)
    (ok : zx_Ok E y M' [x1, x2] h n (fun r h1 n1 => ∃ v : Int32, r = some (.int v) ∧ zx_X E M Y q L (.int v :: rest) h1 n1 cells slots)) : zx_X E M Y pc L (x2 :: x1 :: rest) h n cells slots := by
  refine zx_callS (As := [x1, x2]) (rest := rest) hd hq hw rfl hst (by rw [h0.1, h0.2]; exact hf) ok (fun r h1 n1 z => ?_)
  obtain ⟨v, e, k⟩ := z
  subst e
  rw [h0.1, h0.2]
  exact k
theorem zx_cS2l {x1 x2 : Value} (hd : decode M.2.2.1 pc = .ok (.invokestatic idx, 3)) (hq : pc + 3 = q) (hw : zx_CS M M' idx y 2) (h0 : M'.2.2.2.2.2.2.1 = 0 ∧ M'.2.2.2.2.2.2.2 = 0) (hst : (rest.map fun v => v.category).sum ≤ 8) (hf : cells ≤ M.2.2.2.2.2.1.cells ∧ slots ≤ M.2.2.2.2.2.1.slots)
    (ok : zx_Ok E y M' [x1, x2] h n (fun r h1 n1 => ∃ v : Int64, r = some (.long v) ∧ zx_X E M Y q L (.long v :: rest) h1 n1 cells slots)) : zx_X E M Y pc L (x2 :: x1 :: rest) h n cells slots := by
  refine zx_callS (As := [x1, x2]) (rest := rest) hd hq hw rfl hst (by rw [h0.1, h0.2]; exact hf) ok (fun r h1 n1 z => ?_)
  obtain ⟨v, e, k⟩ := z
  subst e
  rw [h0.1, h0.2]
  exact k
theorem zx_cS2a {x1 x2 : Value} (hd : decode M.2.2.1 pc = .ok (.invokestatic idx, 3)) (hq : pc + 3 = q) (hw : zx_CS M M' idx y 2) (h0 : M'.2.2.2.2.2.2.1 = 0 ∧ M'.2.2.2.2.2.2.2 = 0) (hst : (rest.map fun v => v.category).sum ≤ 8) (hf : cells ≤ M.2.2.2.2.2.1.cells ∧ slots ≤ M.2.2.2.2.2.1.slots)
    (ok : zx_Ok E y M' [x1, x2] h n (fun r h1 n1 => ∃ v : Nat, r = some (.ref v) ∧ zx_X E M Y q L (.ref v :: rest) h1 n1 cells slots)) : zx_X E M Y pc L (x2 :: x1 :: rest) h n cells slots := by
  refine zx_callS (As := [x1, x2]) (rest := rest) hd hq hw rfl hst (by rw [h0.1, h0.2]; exact hf) ok (fun r h1 n1 z => ?_)
  obtain ⟨v, e, k⟩ := z
  subst e
  rw [h0.1, h0.2]
  exact k
theorem zx_cS3v {x1 x2 x3 : Value} (hd : decode M.2.2.1 pc = .ok (.invokestatic idx, 3)) (hq : pc + 3 = q) (hw : zx_CS M M' idx y 3) (h0 : M'.2.2.2.2.2.2.1 = 0 ∧ M'.2.2.2.2.2.2.2 = 0) (hst : (rest.map fun v => v.category).sum ≤ 8) (hf : cells ≤ M.2.2.2.2.2.1.cells ∧ slots ≤ M.2.2.2.2.2.1.slots)
    (ok : zx_Ok E y M' [x1, x2, x3] h n (fun r h1 n1 => r = none ∧ zx_X E M Y q L (rest) h1 n1 cells slots)) : zx_X E M Y pc L (x3 :: x2 :: x1 :: rest) h n cells slots := by
  refine zx_callS (As := [x1, x2, x3]) (rest := rest) hd hq hw rfl hst (by rw [h0.1, h0.2]; exact hf) ok (fun r h1 n1 z => ?_)
  obtain ⟨e, k⟩ := z
  subst e
  rw [h0.1, h0.2]
  exact k
theorem zx_cS3i {x1 x2 x3 : Value} (hd : decode M.2.2.1 pc = .ok (.invokestatic idx, 3)) (hq : pc + 3 = q) (hw : zx_CS M M' idx y 3) (h0 : M'.2.2.2.2.2.2.1 = 0 ∧ M'.2.2.2.2.2.2.2 = 0) (hst : (rest.map fun v => v.category).sum ≤ 8) (hf : cells ≤ M.2.2.2.2.2.1.cells ∧ slots ≤ M.2.2.2.2.2.1.slots)
    (ok : zx_Ok E y M' [x1, x2, x3] h n (fun r h1 n1 => ∃ v : Int32, r = some (.int v) ∧ zx_X E M Y q L (.int v :: rest) h1 n1 cells slots)) : zx_X E M Y pc L (x3 :: x2 :: x1 :: rest) h n cells slots := by
  refine zx_callS (As := [x1, x2, x3]) (rest := rest) hd hq hw rfl hst (by rw [h0.1, h0.2]; exact hf) ok (fun r h1 n1 z => ?_)
  obtain ⟨v, e, k⟩ := z
  subst e
  rw [h0.1, h0.2]
  exact k
theorem zx_cS3l {x1 x2 x3 : Value} (hd : decode M.2.2.1 pc = .ok (.invokestatic idx, 3)) (hq : pc + 3 = q) (hw : zx_CS M M' idx y 3) (h0 : M'.2.2.2.2.2.2.1 = 0 ∧ M'.2.2.2.2.2.2.2 = 0) (hst : (rest.map fun v => v.category).sum ≤ 8) (hf : cells ≤ M.2.2.2.2.2.1.cells ∧ slots ≤ M.2.2.2.2.2.1.slots)
    (ok : zx_Ok E y M' [x1, x2, x3] h n (fun r h1 n1 => ∃ v : Int64, r = some (.long v) ∧ zx_X E M Y q L (.long v :: rest) h1 n1 cells slots)) : zx_X E M Y pc L (x3 :: x2 :: x1 :: rest) h n cells slots := by
  refine zx_callS (As := [x1, x2, x3]) (rest := rest) hd hq hw rfl hst (by rw [h0.1, h0.2]; exact hf) ok (fun r h1 n1 z => ?_)
  obtain ⟨v, e, k⟩ := z
  subst e
  rw [h0.1, h0.2]
  exact k
theorem zx_cS3a {x1 x2 x3 : Value} (hd : decode M.2.2.1 pc = .ok (.invokestatic idx, 3)) (hq : pc + 3 = q) (hw : zx_CS M M' idx y 3) (h0 : M'.2.2.2.2.2.2.1 = 0 ∧ M'.2.2.2.2.2.2.2 = 0) (hst : (rest.map fun v => v.category).sum ≤ 8) (hf : cells ≤ M.2.2.2.2.2.1.cells ∧ slots ≤ M.2.2.2.2.2.1.slots)
    (ok : zx_Ok E y M' [x1, x2, x3] h n (fun r h1 n1 => ∃ v : Nat, r = some (.ref v) ∧ zx_X E M Y q L (.ref v :: rest) h1 n1 cells slots)) : zx_X E M Y pc L (x3 :: x2 :: x1 :: rest) h n cells slots := by
  refine zx_callS (As := [x1, x2, x3]) (rest := rest) hd hq hw rfl hst (by rw [h0.1, h0.2]; exact hf) ok (fun r h1 n1 z => ?_)
  obtain ⟨v, e, k⟩ := z
  subst e
  rw [h0.1, h0.2]
  exact k
theorem zx_cS4v {x1 x2 x3 x4 : Value} (hd : decode M.2.2.1 pc = .ok (.invokestatic idx, 3)) (hq : pc + 3 = q) (hw : zx_CS M M' idx y 4) (h0 : M'.2.2.2.2.2.2.1 = 0 ∧ M'.2.2.2.2.2.2.2 = 0) (hst : (rest.map fun v => v.category).sum ≤ 8) (hf : cells ≤ M.2.2.2.2.2.1.cells ∧ slots ≤ M.2.2.2.2.2.1.slots)
    (ok : zx_Ok E y M' [x1, x2, x3, x4] h n (fun r h1 n1 => r = none ∧ zx_X E M Y q L (rest) h1 n1 cells slots)) : zx_X E M Y pc L (x4 :: x3 :: x2 :: x1 :: rest) h n cells slots := by
  refine zx_callS (As := [x1, x2, x3, x4]) (rest := rest) hd hq hw rfl hst (by rw [h0.1, h0.2]; exact hf) ok (fun r h1 n1 z => ?_)
  obtain ⟨e, k⟩ := z
  subst e
  rw [h0.1, h0.2]
  exact k
theorem zx_cS4i {x1 x2 x3 x4 : Value} (hd : decode M.2.2.1 pc = .ok (.invokestatic idx, 3)) (hq : pc + 3 = q) (hw : zx_CS M M' idx y 4) (h0 : M'.2.2.2.2.2.2.1 = 0 ∧ M'.2.2.2.2.2.2.2 = 0) (hst : (rest.map fun v => v.category).sum ≤ 8) (hf : cells ≤ M.2.2.2.2.2.1.cells ∧ slots ≤ M.2.2.2.2.2.1.slots)
    (ok : zx_Ok E y M' [x1, x2, x3, x4] h n (fun r h1 n1 => ∃ v : Int32, r = some (.int v) ∧ zx_X E M Y q L (.int v :: rest) h1 n1 cells slots)) : zx_X E M Y pc L (x4 :: x3 :: x2 :: x1 :: rest) h n cells slots := by
  refine zx_callS (As := [x1, x2, x3, x4]) (rest := rest) hd hq hw rfl hst (by rw [h0.1, h0.2]; exact hf) ok (fun r h1 n1 z => ?_)
  obtain ⟨v, e, k⟩ := z
  subst e
  rw [h0.1, h0.2]
  exact k
theorem zx_cS4l {x1 x2 x3 x4 : Value} (hd : decode M.2.2.1 pc = .ok (.invokestatic idx, 3)) (hq : pc + 3 = q) (hw : zx_CS M M' idx y 4) (h0 : M'.2.2.2.2.2.2.1 = 0 ∧ M'.2.2.2.2.2.2.2 = 0) (hst : (rest.map fun v => v.category).sum ≤ 8) (hf : cells ≤ M.2.2.2.2.2.1.cells ∧ slots ≤ M.2.2.2.2.2.1.slots)
    (ok : zx_Ok E y M' [x1, x2, x3, x4] h n (fun r h1 n1 => ∃ v : Int64, r = some (.long v) ∧ zx_X E M Y q L (.long v :: rest) h1 n1 cells slots)) : zx_X E M Y pc L (x4 :: x3 :: x2 :: x1 :: rest) h n cells slots := by
  refine zx_callS (As := [x1, x2, x3, x4]) (rest := rest) hd hq hw rfl hst (by rw [h0.1, h0.2]; exact hf) ok (fun r h1 n1 z => ?_)
  obtain ⟨v, e, k⟩ := z
  subst e
  rw [h0.1, h0.2]
  exact k
theorem zx_cS4a {x1 x2 x3 x4 : Value} (hd : decode M.2.2.1 pc = .ok (.invokestatic idx, 3)) (hq : pc + 3 = q) (hw : zx_CS M M' idx y 4) (h0 : M'.2.2.2.2.2.2.1 = 0 ∧ M'.2.2.2.2.2.2.2 = 0) (hst : (rest.map fun v => v.category).sum ≤ 8) (hf : cells ≤ M.2.2.2.2.2.1.cells ∧ slots ≤ M.2.2.2.2.2.1.slots)
    (ok : zx_Ok E y M' [x1, x2, x3, x4] h n (fun r h1 n1 => ∃ v : Nat, r = some (.ref v) ∧ zx_X E M Y q L (.ref v :: rest) h1 n1 cells slots)) : zx_X E M Y pc L (x4 :: x3 :: x2 :: x1 :: rest) h n cells slots := by
  refine zx_callS (As := [x1, x2, x3, x4]) (rest := rest) hd hq hw rfl hst (by rw [h0.1, h0.2]; exact hf) ok (fun r h1 n1 z => ?_)
  obtain ⟨v, e, k⟩ := z
  subst e
  rw [h0.1, h0.2]
  exact k
theorem zx_cS5v {x1 x2 x3 x4 x5 : Value} (hd : decode M.2.2.1 pc = .ok (.invokestatic idx, 3)) (hq : pc + 3 = q) (hw : zx_CS M M' idx y 5) (h0 : M'.2.2.2.2.2.2.1 = 0 ∧ M'.2.2.2.2.2.2.2 = 0) (hst : (rest.map fun v => v.category).sum ≤ 8) (hf : cells ≤ M.2.2.2.2.2.1.cells ∧ slots ≤ M.2.2.2.2.2.1.slots)
    (ok : zx_Ok E y M' [x1, x2, x3, x4, x5] h n (fun r h1 n1 => r = none ∧ zx_X E M Y q L (rest) h1 n1 cells slots)) : zx_X E M Y pc L (x5 :: x4 :: x3 :: x2 :: x1 :: rest) h n cells slots := by
  refine zx_callS (As := [x1, x2, x3, x4, x5]) (rest := rest) hd hq hw rfl hst (by rw [h0.1, h0.2]; exact hf) ok (fun r h1 n1 z => ?_)
  obtain ⟨e, k⟩ := z
  subst e
  rw [h0.1, h0.2]
  exact k
theorem zx_cS5i {x1 x2 x3 x4 x5 : Value} (hd : decode M.2.2.1 pc = .ok (.invokestatic idx, 3)) (hq : pc + 3 = q) (hw : zx_CS M M' idx y 5) (h0 : M'.2.2.2.2.2.2.1 = 0 ∧ M'.2.2.2.2.2.2.2 = 0) (hst : (rest.map fun v => v.category).sum ≤ 8) (hf : cells ≤ M.2.2.2.2.2.1.cells ∧ slots ≤ M.2.2.2.2.2.1.slots)
    (ok : zx_Ok E y M' [x1, x2, x3, x4, x5] h n (fun r h1 n1 => ∃ v : Int32, r = some (.int v) ∧ zx_X E M Y q L (.int v :: rest) h1 n1 cells slots)) : zx_X E M Y pc L (x5 :: x4 :: x3 :: x2 :: x1 :: rest) h n cells slots := by
  refine zx_callS (As := [x1, x2, x3, x4, x5]) (rest := rest) hd hq hw rfl hst (by rw [h0.1, h0.2]; exact hf) ok (fun r h1 n1 z => ?_)
  obtain ⟨v, e, k⟩ := z
  subst e
  rw [h0.1, h0.2]
  exact k
theorem zx_cS5l {x1 x2 x3 x4 x5 : Value} (hd : decode M.2.2.1 pc = .ok (.invokestatic idx, 3)) (hq : pc + 3 = q) (hw : zx_CS M M' idx y 5) (h0 : M'.2.2.2.2.2.2.1 = 0 ∧ M'.2.2.2.2.2.2.2 = 0) (hst : (rest.map fun v => v.category).sum ≤ 8) (hf : cells ≤ M.2.2.2.2.2.1.cells ∧ slots ≤ M.2.2.2.2.2.1.slots)
    (ok : zx_Ok E y M' [x1, x2, x3, x4, x5] h n (fun r h1 n1 => ∃ v : Int64, r = some (.long v) ∧ zx_X E M Y q L (.long v :: rest) h1 n1 cells slots)) : zx_X E M Y pc L (x5 :: x4 :: x3 :: x2 :: x1 :: rest) h n cells slots := by
  refine zx_callS (As := [x1, x2, x3, x4, x5]) (rest := rest) hd hq hw rfl hst (by rw [h0.1, h0.2]; exact hf) ok (fun r h1 n1 z => ?_)
  obtain ⟨v, e, k⟩ := z
  subst e
  rw [h0.1, h0.2]
  exact k
theorem zx_cS5a {x1 x2 x3 x4 x5 : Value} (hd : decode M.2.2.1 pc = .ok (.invokestatic idx, 3)) (hq : pc + 3 = q) (hw : zx_CS M M' idx y 5) (h0 : M'.2.2.2.2.2.2.1 = 0 ∧ M'.2.2.2.2.2.2.2 = 0) (hst : (rest.map fun v => v.category).sum ≤ 8) (hf : cells ≤ M.2.2.2.2.2.1.cells ∧ slots ≤ M.2.2.2.2.2.1.slots)
    (ok : zx_Ok E y M' [x1, x2, x3, x4, x5] h n (fun r h1 n1 => ∃ v : Nat, r = some (.ref v) ∧ zx_X E M Y q L (.ref v :: rest) h1 n1 cells slots)) : zx_X E M Y pc L (x5 :: x4 :: x3 :: x2 :: x1 :: rest) h n cells slots := by
  refine zx_callS (As := [x1, x2, x3, x4, x5]) (rest := rest) hd hq hw rfl hst (by rw [h0.1, h0.2]; exact hf) ok (fun r h1 n1 z => ?_)
  obtain ⟨v, e, k⟩ := z
  subst e
  rw [h0.1, h0.2]
  exact k
theorem zx_cS6v {x1 x2 x3 x4 x5 x6 : Value} (hd : decode M.2.2.1 pc = .ok (.invokestatic idx, 3)) (hq : pc + 3 = q) (hw : zx_CS M M' idx y 6) (h0 : M'.2.2.2.2.2.2.1 = 0 ∧ M'.2.2.2.2.2.2.2 = 0) (hst : (rest.map fun v => v.category).sum ≤ 8) (hf : cells ≤ M.2.2.2.2.2.1.cells ∧ slots ≤ M.2.2.2.2.2.1.slots)
    (ok : zx_Ok E y M' [x1, x2, x3, x4, x5, x6] h n (fun r h1 n1 => r = none ∧ zx_X E M Y q L (rest) h1 n1 cells slots)) : zx_X E M Y pc L (x6 :: x5 :: x4 :: x3 :: x2 :: x1 :: rest) h n cells slots := by
  refine zx_callS (As := [x1, x2, x3, x4, x5, x6]) (rest := rest) hd hq hw rfl hst (by rw [h0.1, h0.2]; exact hf) ok (fun r h1 n1 z => ?_)
  obtain ⟨e, k⟩ := z
  subst e
  rw [h0.1, h0.2]
  exact k
theorem zx_cS6i {x1 x2 x3 x4 x5 x6 : Value} (hd : decode M.2.2.1 pc = .ok (.invokestatic idx, 3)) (hq : pc + 3 = q) (hw : zx_CS M M' idx y 6) (h0 : M'.2.2.2.2.2.2.1 = 0 ∧ M'.2.2.2.2.2.2.2 = 0) (hst : (rest.map fun v => v.category).sum ≤ 8) (hf : cells ≤ M.2.2.2.2.2.1.cells ∧ slots ≤ M.2.2.2.2.2.1.slots)
    (ok : zx_Ok E y M' [x1, x2, x3, x4, x5, x6] h n (fun r h1 n1 => ∃ v : Int32, r = some (.int v) ∧ zx_X E M Y q L (.int v :: rest) h1 n1 cells slots)) : zx_X E M Y pc L (x6 :: x5 :: x4 :: x3 :: x2 :: x1 :: rest) h n cells slots := by
  refine zx_callS (As := [x1, x2, x3, x4, x5, x6]) (rest := rest) hd hq hw rfl hst (by rw [h0.1, h0.2]; exact hf) ok (fun r h1 n1 z => ?_)
  obtain ⟨v, e, k⟩ := z
  subst e
  rw [h0.1, h0.2]
  exact k
theorem zx_cS6l {x1 x2 x3 x4 x5 x6 : Value} (hd : decode M.2.2.1 pc = .ok (.invokestatic idx, 3)) (hq : pc + 3 = q) (hw : zx_CS M M' idx y 6) (h0 : M'.2.2.2.2.2.2.1 = 0 ∧ M'.2.2.2.2.2.2.2 = 0) (hst : (rest.map fun v => v.category).sum ≤ 8) (hf : cells ≤ M.2.2.2.2.2.1.cells ∧ slots ≤ M.2.2.2.2.2.1.slots)
    (ok : zx_Ok E y M' [x1, x2, x3, x4, x5, x6] h n (fun r h1 n1 => ∃ v : Int64, r = some (.long v) ∧ zx_X E M Y q L (.long v :: rest) h1 n1 cells slots)) : zx_X E M Y pc L (x6 :: x5 :: x4 :: x3 :: x2 :: x1 :: rest) h n cells slots := by
  refine zx_callS (As := [x1, x2, x3, x4, x5, x6]) (rest := rest) hd hq hw rfl hst (by rw [h0.1, h0.2]; exact hf) ok (fun r h1 n1 z => ?_)
  obtain ⟨v, e, k⟩ := z
  subst e
  rw [h0.1, h0.2]
  exact k
theorem zx_cS6a {x1 x2 x3 x4 x5 x6 : Value} (hd : decode M.2.2.1 pc = .ok (.invokestatic idx, 3)) (hq : pc + 3 = q) (hw : zx_CS M M' idx y 6) (h0 : M'.2.2.2.2.2.2.1 = 0 ∧ M'.2.2.2.2.2.2.2 = 0) (hst : (rest.map fun v => v.category).sum ≤ 8) (hf : cells ≤ M.2.2.2.2.2.1.cells ∧ slots ≤ M.2.2.2.2.2.1.slots)
    (ok : zx_Ok E y M' [x1, x2, x3, x4, x5, x6] h n (fun r h1 n1 => ∃ v : Nat, r = some (.ref v) ∧ zx_X E M Y q L (.ref v :: rest) h1 n1 cells slots)) : zx_X E M Y pc L (x6 :: x5 :: x4 :: x3 :: x2 :: x1 :: rest) h n cells slots := by
  refine zx_callS (As := [x1, x2, x3, x4, x5, x6]) (rest := rest) hd hq hw rfl hst (by rw [h0.1, h0.2]; exact hf) ok (fun r h1 n1 z => ?_)
  obtain ⟨v, e, k⟩ := z
  subst e
  rw [h0.1, h0.2]
  exact k
theorem zx_cS7v {x1 x2 x3 x4 x5 x6 x7 : Value} (hd : decode M.2.2.1 pc = .ok (.invokestatic idx, 3)) (hq : pc + 3 = q) (hw : zx_CS M M' idx y 7) (h0 : M'.2.2.2.2.2.2.1 = 0 ∧ M'.2.2.2.2.2.2.2 = 0) (hst : (rest.map fun v => v.category).sum ≤ 8) (hf : cells ≤ M.2.2.2.2.2.1.cells ∧ slots ≤ M.2.2.2.2.2.1.slots)
    (ok : zx_Ok E y M' [x1, x2, x3, x4, x5, x6, x7] h n (fun r h1 n1 => r = none ∧ zx_X E M Y q L (rest) h1 n1 cells slots)) : zx_X E M Y pc L (x7 :: x6 :: x5 :: x4 :: x3 :: x2 :: x1 :: rest) h n cells slots := by
  refine zx_callS (As := [x1, x2, x3, x4, x5, x6, x7]) (rest := rest) hd hq hw rfl hst (by rw [h0.1, h0.2]; exact hf) ok (fun r h1 n1 z => ?_)
  obtain ⟨e, k⟩ := z
  subst e
  rw [h0.1, h0.2]
  exact k
theorem zx_cS7i {x1 x2 x3 x4 x5 x6 x7 : Value} (hd : decode M.2.2.1 pc = .ok (.invokestatic idx, 3)) (hq : pc + 3 = q) (hw : zx_CS M M' idx y 7) (h0 : M'.2.2.2.2.2.2.1 = 0 ∧ M'.2.2.2.2.2.2.2 = 0) (hst : (rest.map fun v => v.category).sum ≤ 8) (hf : cells ≤ M.2.2.2.2.2.1.cells ∧ slots ≤ M.2.2.2.2.2.1.slots)
    (ok : zx_Ok E y M' [x1, x2, x3, x4, x5, x6, x7] h n (fun r h1 n1 => ∃ v : Int32, r = some (.int v) ∧ zx_X E M Y q L (.int v :: rest) h1 n1 cells slots)) : zx_X E M Y pc L (x7 :: x6 :: x5 :: x4 :: x3 :: x2 :: x1 :: rest) h n cells slots := by
  refine zx_callS (As := [x1, x2, x3, x4, x5, x6, x7]) (rest := rest) hd hq hw rfl hst (by rw [h0.1, h0.2]; exact hf) ok (fun r h1 n1 z => ?_)
  obtain ⟨v, e, k⟩ := z
  subst e
  rw [h0.1, h0.2]
  exact k
theorem zx_cS7l {x1 x2 x3 x4 x5 x6 x7 : Value} (hd : decode M.2.2.1 pc = .ok (.invokestatic idx, 3)) (hq : pc + 3 = q) (hw : zx_CS M M' idx y 7) (h0 : M'.2.2.2.2.2.2.1 = 0 ∧ M'.2.2.2.2.2.2.2 = 0) (hst : (rest.map fun v => v.category).sum ≤ 8) (hf : cells ≤ M.2.2.2.2.2.1.cells ∧ slots ≤ M.2.2.2.2.2.1.slots)
    (ok : zx_Ok E y M' [x1, x2, x3, x4, x5, x6, x7] h n (fun r h1 n1 => ∃ v : Int64, r = some (.long v) ∧ zx_X E M Y q L (.long v :: rest) h1 n1 cells slots)) : zx_X E M Y pc L (x7 :: x6 :: x5 :: x4 :: x3 :: x2 :: x1 :: rest) h n cells slots := by
  refine zx_callS (As := [x1, x2, x3, x4, x5, x6, x7]) (rest := rest) hd hq hw rfl hst (by rw [h0.1, h0.2]; exact hf) ok (fun r h1 n1 z => ?_)
  obtain ⟨v, e, k⟩ := z
  subst e
  rw [h0.1, h0.2]
  exact k
theorem zx_cS7a {x1 x2 x3 x4 x5 x6 x7 : Value} (hd : decode M.2.2.1 pc = .ok (.invokestatic idx, 3)) (hq : pc + 3 = q) (hw : zx_CS M M' idx y 7) (h0 : M'.2.2.2.2.2.2.1 = 0 ∧ M'.2.2.2.2.2.2.2 = 0) (hst : (rest.map fun v => v.category).sum ≤ 8) (hf : cells ≤ M.2.2.2.2.2.1.cells ∧ slots ≤ M.2.2.2.2.2.1.slots)
    (ok : zx_Ok E y M' [x1, x2, x3, x4, x5, x6, x7] h n (fun r h1 n1 => ∃ v : Nat, r = some (.ref v) ∧ zx_X E M Y q L (.ref v :: rest) h1 n1 cells slots)) : zx_X E M Y pc L (x7 :: x6 :: x5 :: x4 :: x3 :: x2 :: x1 :: rest) h n cells slots := by
  refine zx_callS (As := [x1, x2, x3, x4, x5, x6, x7]) (rest := rest) hd hq hw rfl hst (by rw [h0.1, h0.2]; exact hf) ok (fun r h1 n1 z => ?_)
  obtain ⟨v, e, k⟩ := z
  subst e
  rw [h0.1, h0.2]
  exact k
theorem zx_cN0v (hd : decode M.2.2.1 pc = .ok (.invokestatic idx, 3)) (hq : pc + 3 = q) (hw : zx_CN M M' idx y 0) (h0 : M'.2.2.2.2.2.2.1 = 0 ∧ M'.2.2.2.2.2.2.2 = 0) (hst : (rest.map fun v => v.category).sum ≤ 8) (hf : cells ≤ M.2.2.2.2.2.1.cells ∧ slots ≤ M.2.2.2.2.2.1.slots)
    (ok : zx_Ok E y M' [] h n (fun r h1 n1 => r = none ∧ zx_X E M Y q L (rest) h1 n1 cells slots)) : zx_X E M Y pc L (rest) h n cells slots := by
  refine zx_callN (As := []) (rest := rest) hd hq hw rfl hst (by rw [h0.1, h0.2]; exact hf) ok (fun r h1 n1 z => ?_)
  obtain ⟨e, k⟩ := z
  subst e
  rw [h0.1, h0.2]
  exact k
theorem zx_cN0i (hd : decode M.2.2.1 pc = .ok (.invokestatic idx, 3)) (hq : pc + 3 = q) (hw : zx_CN M M' idx y 0) (h0 : M'.2.2.2.2.2.2.1 = 0 ∧ M'.2.2.2.2.2.2.2 = 0) (hst : (rest.map fun v => v.category).sum ≤ 8) (hf : cells ≤ M.2.2.2.2.2.1.cells ∧ slots ≤ M.2.2.2.2.2.1.slots)
    (ok : zx_Ok E y M' [] h n (fun r h1 n1 => ∃ v : Int32, r = some (.int v) ∧ zx_X E M Y q L (.int v :: rest) h1 n1 cells slots)) : zx_X E M Y pc L (rest) h n cells slots := by
  refine zx_callN (As := []) (rest := rest) hd hq hw rfl hst (by rw [h0.1, h0.2]; exact hf) ok (fun r h1 n1 z => ?_)
  obtain ⟨v, e, k⟩ := z
  subst e
  rw [h0.1, h0.2]
  exact k
theorem zx_cN0l (hd : decode M.2.2.1 pc = .ok (.invokestatic idx, 3)) (hq : pc + 3 = q) (hw : zx_CN M M' idx y 0) (h0 : M'.2.2.2.2.2.2.1 = 0 ∧ M'.2.2.2.2.2.2.2 = 0) (hst : (rest.map fun v => v.category).sum ≤ 8) (hf : cells ≤ M.2.2.2.2.2.1.cells ∧ slots ≤ M.2.2.2.2.2.1.slots)
    (ok : zx_Ok E y M' [] h n (fun r h1 n1 => ∃ v : Int64, r = some (.long v) ∧ zx_X E M Y q L (.long v :: rest) h1 n1 cells slots)) : zx_X E M Y pc L (rest) h n cells slots := by
  refine zx_callN (As := []) (rest := rest) hd hq hw rfl hst (by rw [h0.1, h0.2]; exact hf) ok (fun r h1 n1 z => ?_)
  obtain ⟨v, e, k⟩ := z
  subst e
  rw [h0.1, h0.2]
  exact k
theorem zx_cN0a (hd : decode M.2.2.1 pc = .ok (.invokestatic idx, 3)) (hq : pc + 3 = q) (hw : zx_CN M M' idx y 0) (h0 : M'.2.2.2.2.2.2.1 = 0 ∧ M'.2.2.2.2.2.2.2 = 0) (hst : (rest.map fun v => v.category).sum ≤ 8) (hf : cells ≤ M.2.2.2.2.2.1.cells ∧ slots ≤ M.2.2.2.2.2.1.slots)
    (ok : zx_Ok E y M' [] h n (fun r h1 n1 => ∃ v : Nat, r = some (.ref v) ∧ zx_X E M Y q L (.ref v :: rest) h1 n1 cells slots)) : zx_X E M Y pc L (rest) h n cells slots := by
  refine zx_callN (As := []) (rest := rest) hd hq hw rfl hst (by rw [h0.1, h0.2]; exact hf) ok (fun r h1 n1 z => ?_)
  obtain ⟨v, e, k⟩ := z
  subst e
  rw [h0.1, h0.2]
  exact k
theorem zx_cN1v {x1 : Value} (hd : decode M.2.2.1 pc = .ok (.invokestatic idx, 3)) (hq : pc + 3 = q) (hw : zx_CN M M' idx y 1) (h0 : M'.2.2.2.2.2.2.1 = 0 ∧ M'.2.2.2.2.2.2.2 = 0) (hst : (rest.map fun v => v.category).sum ≤ 8) (hf : cells ≤ M.2.2.2.2.2.1.cells ∧ slots ≤ M.2.2.2.2.2.1.slots)
    (ok : zx_Ok E y M' [x1] h n (fun r h1 n1 => r = none ∧ zx_X E M Y q L (rest) h1 n1 cells slots)) : zx_X E M Y pc L (x1 :: rest) h n cells slots := by
  refine zx_callN (As := [x1]) (rest := rest) hd hq hw rfl hst (by rw [h0.1, h0.2]; exact hf) ok (fun r h1 n1 z => ?_)
  obtain ⟨e, k⟩ := z
  subst e
  rw [h0.1, h0.2]
  exact k
theorem zx_cN1i {x1 : Value} (hd : decode M.2.2.1 pc = .ok (.invokestatic idx, 3)) (hq : pc + 3 = q) (hw : zx_CN M M' idx y 1) (h0 : M'.2.2.2.2.2.2.1 = 0 ∧ M'.2.2.2.2.2.2.2 = 0) (hst : (rest.map fun v => v.category).sum ≤ 8) (hf : cells ≤ M.2.2.2.2.2.1.cells ∧ slots ≤ M.2.2.2.2.2.1.slots)
    (ok : zx_Ok E y M' [x1] h n (fun r h1 n1 => ∃ v : Int32, r = some (.int v) ∧ zx_X E M Y q L (.int v :: rest) h1 n1 cells slots)) : zx_X E M Y pc L (x1 :: rest) h n cells slots := by
  refine zx_callN (As := [x1]) (rest := rest) hd hq hw rfl hst (by rw [h0.1, h0.2]; exact hf) ok (fun r h1 n1 z => ?_)
  obtain ⟨v, e, k⟩ := z
  subst e
  rw [h0.1, h0.2]
  exact k
theorem zx_cN1l {x1 : Value} (hd : decode M.2.2.1 pc = .ok (.invokestatic idx, 3)) (hq : pc + 3 = q) (hw : zx_CN M M' idx y 1) (h0 : M'.2.2.2.2.2.2.1 = 0 ∧ M'.2.2.2.2.2.2.2 = 0) (hst : (rest.map fun v => v.category).sum ≤ 8) (hf : cells ≤ M.2.2.2.2.2.1.cells ∧ slots ≤ M.2.2.2.2.2.1.slots)
    (ok : zx_Ok E y M' [x1] h n (fun r h1 n1 => ∃ v : Int64, r = some (.long v) ∧ zx_X E M Y q L (.long v :: rest) h1 n1 cells slots)) : zx_X E M Y pc L (x1 :: rest) h n cells slots := by
  refine zx_callN (As := [x1]) (rest := rest) hd hq hw rfl hst (by rw [h0.1, h0.2]; exact hf) ok (fun r h1 n1 z => ?_)
  obtain ⟨v, e, k⟩ := z
  subst e
  rw [h0.1, h0.2]
  exact k
theorem zx_cN1a {x1 : Value} (hd : decode M.2.2.1 pc = .ok (.invokestatic idx, 3)) (hq : pc + 3 = q) (hw : zx_CN M M' idx y 1) (h0 : M'.2.2.2.2.2.2.1 = 0 ∧ M'.2.2.2.2.2.2.2 = 0) (hst : (rest.map fun v => v.category).sum ≤ 8) (hf : cells ≤ M.2.2.2.2.2.1.cells ∧ slots ≤ M.2.2.2.2.2.1.slots)
    (ok : zx_Ok E y M' [x1] h n (fun r h1 n1 => ∃ v : Nat, r = some (.ref v) ∧ zx_X E M Y q L (.ref v :: rest) h1 n1 cells slots)) : zx_X E M Y pc L (x1 :: rest) h n cells slots := by
  refine zx_callN (As := [x1]) (rest := rest) hd hq hw rfl hst (by rw [h0.1, h0.2]; exact hf) ok (fun r h1 n1 z => ?_)
  obtain ⟨v, e, k⟩ := z
  subst e
  rw [h0.1, h0.2]
  exact k
theorem zx_cN2v {x1 x2 : Value} (hd : decode M.2.2.1 pc = .ok (.invokestatic idx, 3)) (hq : pc + 3 = q) (hw : zx_CN M M' idx y 2) (h0 : M'.2.2.2.2.2.2.1 = 0 ∧ M'.2.2.2.2.2.2.2 = 0) (hst : (rest.map fun v => v.category).sum ≤ 8) (hf : cells ≤ M.2.2.2.2.2.1.cells ∧ slots ≤ M.2.2.2.2.2.1.slots)
    (ok : zx_Ok E y M' [x1, x2] h n (fun r h1 n1 => r = none ∧ zx_X E M Y q L (rest) h1 n1 cells slots)) : zx_X E M Y pc L (x2 :: x1 :: rest) h n cells slots := by
  refine zx_callN (As := [x1, x2]) (rest := rest) hd hq hw rfl hst (by rw [h0.1, h0.2]; exact hf) ok (fun r h1 n1 z => ?_)
  obtain ⟨e, k⟩ := z
  subst e
  rw [h0.1, h0.2]
  exact k
theorem zx_cN2i {x1 x2 : Value} (hd : decode M.2.2.1 pc = .ok (.invokestatic idx, 3)) (hq : pc + 3 = q) (hw : zx_CN M M' idx y 2) (h0 : M'.2.2.2.2.2.2.1 = 0 ∧ M'.2.2.2.2.2.2.2 = 0) (hst : (rest.map fun v => v.category).sum ≤ 8) (hf : cells ≤ M.2.2.2.2.2.1.cells ∧ slots ≤ M.2.2.2.2.2.1.slots)
    (ok : zx_Ok E y M' [x1, x2] h n (fun r h1 n1 => ∃ v : Int32, r = some (.int v) ∧ zx_X E M Y q L (.int v :: rest) h1 n1 cells slots)) : zx_X E M Y pc L (x2 :: x1 :: rest) h n cells slots := by
  refine zx_callN (As := [x1, x2]) (rest := rest) hd hq hw rfl hst (by rw [h0.1, h0.2]; exact hf) ok (fun r h1 n1 z => ?_)
  obtain ⟨v, e, k⟩ := z
  subst e
  rw [h0.1, h0.2]
  exact k
theorem zx_cN2l {x1 x2 : Value} (hd : decode M.2.2.1 pc = .ok (.invokestatic idx, 3)) (hq : pc + 3 = q) (hw : zx_CN M M' idx y 2) (h0 : M'.2.2.2.2.2.2.1 = 0 ∧ M'.2.2.2.2.2.2.2 = 0) (hst : (rest.map fun v => v.category).sum ≤ 8) (hf : cells ≤ M.2.2.2.2.2.1.cells ∧ slots ≤ M.2.2.2.2.2.1.slots)
    (ok : zx_Ok E y M' [x1, x2] h n (fun r h1 n1 => ∃ v : Int64, r = some (.long v) ∧ zx_X E M Y q L (.long v :: rest) h1 n1 cells slots)) : zx_X E M Y pc L (x2 :: x1 :: rest) h n cells slots := by
  refine zx_callN (As := [x1, x2]) (rest := rest) hd hq hw rfl hst (by rw [h0.1, h0.2]; exact hf) ok (fun r h1 n1 z => ?_)
  obtain ⟨v, e, k⟩ := z
  subst e
  rw [h0.1, h0.2]
  exact k
theorem zx_cN2a {x1 x2 : Value} (hd : decode M.2.2.1 pc = .ok (.invokestatic idx, 3)) (hq : pc + 3 = q) (hw : zx_CN M M' idx y 2) (h0 : M'.2.2.2.2.2.2.1 = 0 ∧ M'.2.2.2.2.2.2.2 = 0) (hst : (rest.map fun v => v.category).sum ≤ 8) (hf : cells ≤ M.2.2.2.2.2.1.cells ∧ slots ≤ M.2.2.2.2.2.1.slots)
    (ok : zx_Ok E y M' [x1, x2] h n (fun r h1 n1 => ∃ v : Nat, r = some (.ref v) ∧ zx_X E M Y q L (.ref v :: rest) h1 n1 cells slots)) : zx_X E M Y pc L (x2 :: x1 :: rest) h n cells slots := by
  refine zx_callN (As := [x1, x2]) (rest := rest) hd hq hw rfl hst (by rw [h0.1, h0.2]; exact hf) ok (fun r h1 n1 z => ?_)
  obtain ⟨v, e, k⟩ := z
  subst e
  rw [h0.1, h0.2]
  exact k
theorem zx_cN3v {x1 x2 x3 : Value} (hd : decode M.2.2.1 pc = .ok (.invokestatic idx, 3)) (hq : pc + 3 = q) (hw : zx_CN M M' idx y 3) (h0 : M'.2.2.2.2.2.2.1 = 0 ∧ M'.2.2.2.2.2.2.2 = 0) (hst : (rest.map fun v => v.category).sum ≤ 8) (hf : cells ≤ M.2.2.2.2.2.1.cells ∧ slots ≤ M.2.2.2.2.2.1.slots)
    (ok : zx_Ok E y M' [x1, x2, x3] h n (fun r h1 n1 => r = none ∧ zx_X E M Y q L (rest) h1 n1 cells slots)) : zx_X E M Y pc L (x3 :: x2 :: x1 :: rest) h n cells slots := by
  refine zx_callN (As := [x1, x2, x3]) (rest := rest) hd hq hw rfl hst (by rw [h0.1, h0.2]; exact hf) ok (fun r h1 n1 z => ?_)
  obtain ⟨e, k⟩ := z
  subst e
  rw [h0.1, h0.2]
  exact k
theorem zx_cN3i {x1 x2 x3 : Value} (hd : decode M.2.2.1 pc = .ok (.invokestatic idx, 3)) (hq : pc + 3 = q) (hw : zx_CN M M' idx y 3) (h0 : M'.2.2.2.2.2.2.1 = 0 ∧ M'.2.2.2.2.2.2.2 = 0) (hst : (rest.map fun v => v.category).sum ≤ 8) (hf : cells ≤ M.2.2.2.2.2.1.cells ∧ slots ≤ M.2.2.2.2.2.1.slots)
    (ok : zx_Ok E y M' [x1, x2, x3] h n (fun r h1 n1 => ∃ v : Int32, r = some (.int v) ∧ zx_X E M Y q L (.int v :: rest) h1 n1 cells slots)) : zx_X E M Y pc L (x3 :: x2 :: x1 :: rest) h n cells slots := by
  refine zx_callN (As := [x1, x2, x3]) (rest := rest) hd hq hw rfl hst (by rw [h0.1, h0.2]; exact hf) ok (fun r h1 n1 z => ?_)
  obtain ⟨v, e, k⟩ := z
  subst e
  rw [h0.1, h0.2]
  exact k
theorem zx_cN3l {x1 x2 x3 : Value} (hd : decode M.2.2.1 pc = .ok (.invokestatic idx, 3)) (hq : pc + 3 = q) (hw : zx_CN M M' idx y 3) (h0 : M'.2.2.2.2.2.2.1 = 0 ∧ M'.2.2.2.2.2.2.2 = 0) (hst : (rest.map fun v => v.category).sum ≤ 8) (hf : cells ≤ M.2.2.2.2.2.1.cells ∧ slots ≤ M.2.2.2.2.2.1.slots)
    (ok : zx_Ok E y M' [x1, x2, x3] h n (fun r h1 n1 => ∃ v : Int64, r = some (.long v) ∧ zx_X E M Y q L (.long v :: rest) h1 n1 cells slots)) : zx_X E M Y pc L (x3 :: x2 :: x1 :: rest) h n cells slots := by
  refine zx_callN (As := [x1, x2, x3]) (rest := rest) hd hq hw rfl hst (by rw [h0.1, h0.2]; exact hf) ok (fun r h1 n1 z => ?_)
  obtain ⟨v, e, k⟩ := z
  subst e
  rw [h0.1, h0.2]
  exact k
theorem zx_cN3a {x1 x2 x3 : Value} (hd : decode M.2.2.1 pc = .ok (.invokestatic idx, 3)) (hq : pc + 3 = q) (hw : zx_CN M M' idx y 3) (h0 : M'.2.2.2.2.2.2.1 = 0 ∧ M'.2.2.2.2.2.2.2 = 0) (hst : (rest.map fun v => v.category).sum ≤ 8) (hf : cells ≤ M.2.2.2.2.2.1.cells ∧ slots ≤ M.2.2.2.2.2.1.slots)
    (ok : zx_Ok E y M' [x1, x2, x3] h n (fun r h1 n1 => ∃ v : Nat, r = some (.ref v) ∧ zx_X E M Y q L (.ref v :: rest) h1 n1 cells slots)) : zx_X E M Y pc L (x3 :: x2 :: x1 :: rest) h n cells slots := by
  refine zx_callN (As := [x1, x2, x3]) (rest := rest) hd hq hw rfl hst (by rw [h0.1, h0.2]; exact hf) ok (fun r h1 n1 z => ?_)
  obtain ⟨v, e, k⟩ := z
  subst e
  rw [h0.1, h0.2]
  exact k
theorem zx_cN4v {x1 x2 x3 x4 : Value} (hd : decode M.2.2.1 pc = .ok (.invokestatic idx, 3)) (hq : pc + 3 = q) (hw : zx_CN M M' idx y 4) (h0 : M'.2.2.2.2.2.2.1 = 0 ∧ M'.2.2.2.2.2.2.2 = 0) (hst : (rest.map fun v => v.category).sum ≤ 8) (hf : cells ≤ M.2.2.2.2.2.1.cells ∧ slots ≤ M.2.2.2.2.2.1.slots)
    (ok : zx_Ok E y M' [x1, x2, x3, x4] h n (fun r h1 n1 => r = none ∧ zx_X E M Y q L (rest) h1 n1 cells slots)) : zx_X E M Y pc L (x4 :: x3 :: x2 :: x1 :: rest) h n cells slots := by
  refine zx_callN (As := [x1, x2, x3, x4]) (rest := rest) hd hq hw rfl hst (by rw [h0.1, h0.2]; exact hf) ok (fun r h1 n1 z => ?_)
  obtain ⟨e, k⟩ := z
  subst e
  rw [h0.1, h0.2]
  exact k
theorem zx_cN4i {x1 x2 x3 x4 : Value} (hd : decode M.2.2.1 pc = .ok (.invokestatic idx, 3)) (hq : pc + 3 = q) (hw : zx_CN M M' idx y 4) (h0 : M'.2.2.2.2.2.2.1 = 0 ∧ M'.2.2.2.2.2.2.2 = 0) (hst : (rest.map fun v => v.category).sum ≤ 8) (hf : cells ≤ M.2.2.2.2.2.1.cells ∧ slots ≤ M.2.2.2.2.2.1.slots)
    (ok : zx_Ok E y M' [x1, x2, x3, x4] h n (fun r h1 n1 => ∃ v : Int32, r = some (.int v) ∧ zx_X E M Y q L (.int v :: rest) h1 n1 cells slots)) : zx_X E M Y pc L (x4 :: x3 :: x2 :: x1 :: rest) h n cells slots := by
  refine zx_callN (As := [x1, x2, x3, x4]) (rest := rest) hd hq hw rfl hst (by rw [h0.1, h0.2]; exact hf) ok (fun r h1 n1 z => ?_)
  obtain ⟨v, e, k⟩ := z
  subst e
  rw [h0.1, h0.2]
  exact k
theorem zx_cN4l {x1 x2 x3 x4 : Value} (hd : decode M.2.2.1 pc = .ok (.invokestatic idx, 3)) (hq : pc + 3 = q) (hw : zx_CN M M' idx y 4) (h0 : M'.2.2.2.2.2.2.1 = 0 ∧ M'.2.2.2.2.2.2.2 = 0) (hst : (rest.map fun v => v.category).sum ≤ 8) (hf : cells ≤ M.2.2.2.2.2.1.cells ∧ slots ≤ M.2.2.2.2.2.1.slots)
    (ok : zx_Ok E y M' [x1, x2, x3, x4] h n (fun r h1 n1 => ∃ v : Int64, r = some (.long v) ∧ zx_X E M Y q L (.long v :: rest) h1 n1 cells slots)) : zx_X E M Y pc L (x4 :: x3 :: x2 :: x1 :: rest) h n cells slots := by
  refine zx_callN (As := [x1, x2, x3, x4]) (rest := rest) hd hq hw rfl hst (by rw [h0.1, h0.2]; exact hf) ok (fun r h1 n1 z => ?_)
  obtain ⟨v, e, k⟩ := z
  subst e
  rw [h0.1, h0.2]
  exact k
theorem zx_cN4a {x1 x2 x3 x4 : Value} (hd : decode M.2.2.1 pc = .ok (.invokestatic idx, 3)) (hq : pc + 3 = q) (hw : zx_CN M M' idx y 4) (h0 : M'.2.2.2.2.2.2.1 = 0 ∧ M'.2.2.2.2.2.2.2 = 0) (hst : (rest.map fun v => v.category).sum ≤ 8) (hf : cells ≤ M.2.2.2.2.2.1.cells ∧ slots ≤ M.2.2.2.2.2.1.slots)
    (ok : zx_Ok E y M' [x1, x2, x3, x4] h n (fun r h1 n1 => ∃ v : Nat, r = some (.ref v) ∧ zx_X E M Y q L (.ref v :: rest) h1 n1 cells slots)) : zx_X E M Y pc L (x4 :: x3 :: x2 :: x1 :: rest) h n cells slots := by
  refine zx_callN (As := [x1, x2, x3, x4]) (rest := rest) hd hq hw rfl hst (by rw [h0.1, h0.2]; exact hf) ok (fun r h1 n1 z => ?_)
  obtain ⟨v, e, k⟩ := z
  subst e
  rw [h0.1, h0.2]
  exact k
theorem zx_cN5v {x1 x2 x3 x4 x5 : Value} (hd : decode M.2.2.1 pc = .ok (.invokestatic idx, 3)) (hq : pc + 3 = q) (hw : zx_CN M M' idx y 5) (h0 : M'.2.2.2.2.2.2.1 = 0 ∧ M'.2.2.2.2.2.2.2 = 0) (hst : (rest.map fun v => v.category).sum ≤ 8) (hf : cells ≤ M.2.2.2.2.2.1.cells ∧ slots ≤ M.2.2.2.2.2.1.slots)
    (ok : zx_Ok E y M' [x1, x2, x3, x4, x5] h n (fun r h1 n1 => r = none ∧ zx_X E M Y q L (rest) h1 n1 cells slots)) : zx_X E M Y pc L (x5 :: x4 :: x3 :: x2 :: x1 :: rest) h n cells slots := by
  refine zx_callN (As := [x1, x2, x3, x4, x5]) (rest := rest) hd hq hw rfl hst (by rw [h0.1, h0.2]; exact hf) ok (fun r h1 n1 z => ?_)
  obtain ⟨e, k⟩ := z
  subst e
  rw [h0.1, h0.2]
  exact k
theorem zx_cN5i {x1 x2 x3 x4 x5 : Value} (hd : decode M.2.2.1 pc = .ok (.invokestatic idx, 3)) (hq : pc + 3 = q) (hw : zx_CN M M' idx y 5) (h0 : M'.2.2.2.2.2.2.1 = 0 ∧ M'.2.2.2.2.2.2.2 = 0) (hst : (rest.map fun v => v.category).sum ≤ 8) (hf : cells ≤ M.2.2.2.2.2.1.cells ∧ slots ≤ M.2.2.2.2.2.1.slots)
    (ok : zx_Ok E y M' [x1, x2, x3, x4, x5] h n (fun r h1 n1 => ∃ v : Int32, r = some (.int v) ∧ zx_X E M Y q L (.int v :: rest) h1 n1 cells slots)) : zx_X E M Y pc L (x5 :: x4 :: x3 :: x2 :: x1 :: rest) h n cells slots := by
  refine zx_callN (As := [x1, x2, x3, x4, x5]) (rest := rest) hd hq hw rfl hst (by rw [h0.1, h0.2]; exact hf) ok (fun r h1 n1 z => ?_)
  obtain ⟨v, e, k⟩ := z
  subst e
  rw [h0.1, h0.2]
  exact k
theorem zx_cN5l {x1 x2 x3 x4 x5 : Value} (hd : decode M.2.2.1 pc = .ok (.invokestatic idx, 3)) (hq : pc + 3 = q) (hw : zx_CN M M' idx y 5) (h0 : M'.2.2.2.2.2.2.1 = 0 ∧ M'.2.2.2.2.2.2.2 = 0) (hst : (rest.map fun v => v.category).sum ≤ 8) (hf : cells ≤ M.2.2.2.2.2.1.cells ∧ slots ≤ M.2.2.2.2.2.1.slots)
    (ok : zx_Ok E y M' [x1, x2, x3, x4, x5] h n (fun r h1 n1 => ∃ v : Int64, r = some (.long v) ∧ zx_X E M Y q L (.long v :: rest) h1 n1 cells slots)) : zx_X E M Y pc L (x5 :: x4 :: x3 :: x2 :: x1 :: rest) h n cells slots := by
  refine zx_callN (As := [x1, x2, x3, x4, x5]) (rest := rest) hd hq hw rfl hst (by rw [h0.1, h0.2]; exact hf) ok (fun r h1 n1 z => ?_)
  obtain ⟨v, e, k⟩ := z
  subst e
  rw [h0.1, h0.2]
  exact k
theorem zx_cN5a {x1 x2 x3 x4 x5 : Value} (hd : decode M.2.2.1 pc = .ok (.invokestatic idx, 3)) (hq : pc + 3 = q) (hw : zx_CN M M' idx y 5) (h0 : M'.2.2.2.2.2.2.1 = 0 ∧ M'.2.2.2.2.2.2.2 = 0) (hst : (rest.map fun v => v.category).sum ≤ 8) (hf : cells ≤ M.2.2.2.2.2.1.cells ∧ slots ≤ M.2.2.2.2.2.1.slots)
    (ok : zx_Ok E y M' [x1, x2, x3, x4, x5] h n (fun r h1 n1 => ∃ v : Nat, r = some (.ref v) ∧ zx_X E M Y q L (.ref v :: rest) h1 n1 cells slots)) : zx_X E M Y pc L (x5 :: x4 :: x3 :: x2 :: x1 :: rest) h n cells slots := by
  refine zx_callN (As := [x1, x2, x3, x4, x5]) (rest := rest) hd hq hw rfl hst (by rw [h0.1, h0.2]; exact hf) ok (fun r h1 n1 z => ?_)
  obtain ⟨v, e, k⟩ := z
  subst e
  rw [h0.1, h0.2]
  exact k
theorem zx_cN6v {x1 x2 x3 x4 x5 x6 : Value} (hd : decode M.2.2.1 pc = .ok (.invokestatic idx, 3)) (hq : pc + 3 = q) (hw : zx_CN M M' idx y 6) (h0 : M'.2.2.2.2.2.2.1 = 0 ∧ M'.2.2.2.2.2.2.2 = 0) (hst : (rest.map fun v => v.category).sum ≤ 8) (hf : cells ≤ M.2.2.2.2.2.1.cells ∧ slots ≤ M.2.2.2.2.2.1.slots)
    (ok : zx_Ok E y M' [x1, x2, x3, x4, x5, x6] h n (fun r h1 n1 => r = none ∧ zx_X E M Y q L (rest) h1 n1 cells slots)) : zx_X E M Y pc L (x6 :: x5 :: x4 :: x3 :: x2 :: x1 :: rest) h n cells slots := by
  refine zx_callN (As := [x1, x2, x3, x4, x5, x6]) (rest := rest) hd hq hw rfl hst (by rw [h0.1, h0.2]; exact hf) ok (fun r h1 n1 z => ?_)
  obtain ⟨e, k⟩ := z
  subst e
  rw [h0.1, h0.2]
  exact k
theorem zx_cN6i {x1 x2 x3 x4 x5 x6 : Value} (hd : decode M.2.2.1 pc = .ok (.invokestatic idx, 3)) (hq : pc + 3 = q) (hw : zx_CN M M' idx y 6) (h0 : M'.2.2.2.2.2.2.1 = 0 ∧ M'.2.2.2.2.2.2.2 = 0) (hst : (rest.map fun v => v.category).sum ≤ 8) (hf : cells ≤ M.2.2.2.2.2.1.cells ∧ slots ≤ M.2.2.2.2.2.1.slots)
    (ok : zx_Ok E y M' [x1, x2, x3, x4, x5, x6] h n (fun r h1 n1 => ∃ v : Int32, r = some (.int v) ∧ zx_X E M Y q L (.int v :: rest) h1 n1 cells slots)) : zx_X E M Y pc L (x6 :: x5 :: x4 :: x3 :: x2 :: x1 :: rest) h n cells slots := by
  refine zx_callN (As := [x1, x2, x3, x4, x5, x6]) (rest := rest) hd hq hw rfl hst (by rw [h0.1, h0.2]; exact hf) ok (fun r h1 n1 z => ?_)
  obtain ⟨v, e, k⟩ := z
  subst e
  rw [h0.1, h0.2]
  exact k
theorem zx_cN6l {x1 x2 x3 x4 x5 x6 : Value} (hd : decode M.2.2.1 pc = .ok (.invokestatic idx, 3)) (hq : pc + 3 = q) (hw : zx_CN M M' idx y 6) (h0 : M'.2.2.2.2.2.2.1 = 0 ∧ M'.2.2.2.2.2.2.2 = 0) (hst : (rest.map fun v => v.category).sum ≤ 8) (hf : cells ≤ M.2.2.2.2.2.1.cells ∧ slots ≤ M.2.2.2.2.2.1.slots)
    (ok : zx_Ok E y M' [x1, x2, x3, x4, x5, x6] h n (fun r h1 n1 => ∃ v : Int64, r = some (.long v) ∧ zx_X E M Y q L (.long v :: rest) h1 n1 cells slots)) : zx_X E M Y pc L (x6 :: x5 :: x4 :: x3 :: x2 :: x1 :: rest) h n cells slots := by
  refine zx_callN (As := [x1, x2, x3, x4, x5, x6]) (rest := rest) hd hq hw rfl hst (by rw [h0.1, h0.2]; exact hf) ok (fun r h1 n1 z => ?_)
  obtain ⟨v, e, k⟩ := z
  subst e
  rw [h0.1, h0.2]
  exact k
theorem zx_cN6a {x1 x2 x3 x4 x5 x6 : Value} (hd : decode M.2.2.1 pc = .ok (.invokestatic idx, 3)) (hq : pc + 3 = q) (hw : zx_CN M M' idx y 6) (h0 : M'.2.2.2.2.2.2.1 = 0 ∧ M'.2.2.2.2.2.2.2 = 0) (hst : (rest.map fun v => v.category).sum ≤ 8) (hf : cells ≤ M.2.2.2.2.2.1.cells ∧ slots ≤ M.2.2.2.2.2.1.slots)
    (ok : zx_Ok E y M' [x1, x2, x3, x4, x5, x6] h n (fun r h1 n1 => ∃ v : Nat, r = some (.ref v) ∧ zx_X E M Y q L (.ref v :: rest) h1 n1 cells slots)) : zx_X E M Y pc L (x6 :: x5 :: x4 :: x3 :: x2 :: x1 :: rest) h n cells slots := by
  refine zx_callN (As := [x1, x2, x3, x4, x5, x6]) (rest := rest) hd hq hw rfl hst (by rw [h0.1, h0.2]; exact hf) ok (fun r h1 n1 z => ?_)
  obtain ⟨v, e, k⟩ := z
  subst e
  rw [h0.1, h0.2]
  exact k
theorem zx_cN7v {x1 x2 x3 x4 x5 x6 x7 : Value} (hd : decode M.2.2.1 pc = .ok (.invokestatic idx, 3)) (hq : pc + 3 = q) (hw : zx_CN M M' idx y 7) (h0 : M'.2.2.2.2.2.2.1 = 0 ∧ M'.2.2.2.2.2.2.2 = 0) (hst : (rest.map fun v => v.category).sum ≤ 8) (hf : cells ≤ M.2.2.2.2.2.1.cells ∧ slots ≤ M.2.2.2.2.2.1.slots)
    (ok : zx_Ok E y M' [x1, x2, x3, x4, x5, x6, x7] h n (fun r h1 n1 => r = none ∧ zx_X E M Y q L (rest) h1 n1 cells slots)) : zx_X E M Y pc L (x7 :: x6 :: x5 :: x4 :: x3 :: x2 :: x1 :: rest) h n cells slots := by
  refine zx_callN (As := [x1, x2, x3, x4, x5, x6, x7]) (rest := rest) hd hq hw rfl hst (by rw [h0.1, h0.2]; exact hf) ok (fun r h1 n1 z => ?_)
  obtain ⟨e, k⟩ := z
  subst e
  rw [h0.1, h0.2]
  exact k
theorem zx_cN7i {x1 x2 x3 x4 x5 x6 x7 : Value} (hd : decode M.2.2.1 pc = .ok (.invokestatic idx, 3)) (hq : pc + 3 = q) (hw : zx_CN M M' idx y 7) (h0 : M'.2.2.2.2.2.2.1 = 0 ∧ M'.2.2.2.2.2.2.2 = 0) (hst : (rest.map fun v => v.category).sum ≤ 8) (hf : cells ≤ M.2.2.2.2.2.1.cells ∧ slots ≤ M.2.2.2.2.2.1.slots)
    (ok : zx_Ok E y M' [x1, x2, x3, x4, x5, x6, x7] h n (fun r h1 n1 => ∃ v : Int32, r = some (.int v) ∧ zx_X E M Y q L (.int v :: rest) h1 n1 cells slots)) : zx_X E M Y pc L (x7 :: x6 :: x5 :: x4 :: x3 :: x2 :: x1 :: rest) h n cells slots := by
  refine zx_callN (As := [x1, x2, x3, x4, x5, x6, x7]) (rest := rest) hd hq hw rfl hst (by rw [h0.1, h0.2]; exact hf) ok (fun r h1 n1 z => ?_)
  obtain ⟨v, e, k⟩ := z
  subst e
  rw [h0.1, h0.2]
  exact k
theorem zx_cN7l {x1 x2 x3 x4 x5 x6 x7 : Value} (hd : decode M.2.2.1 pc = .ok (.invokestatic idx, 3)) (hq : pc + 3 = q) (hw : zx_CN M M' idx y 7) (h0 : M'.2.2.2.2.2.2.1 = 0 ∧ M'.2.2.2.2.2.2.2 = 0) (hst : (rest.map fun v => v.category).sum ≤ 8) (hf : cells ≤ M.2.2.2.2.2.1.cells ∧ slots ≤ M.2.2.2.2.2.1.slots)
    (ok : zx_Ok E y M' [x1, x2, x3, x4, x5, x6, x7] h n (fun r h1 n1 => ∃ v : Int64, r = some (.long v) ∧ zx_X E M Y q L (.long v :: rest) h1 n1 cells slots)) : zx_X E M Y pc L (x7 :: x6 :: x5 :: x4 :: x3 :: x2 :: x1 :: rest) h n cells slots := by
  refine zx_callN (As := [x1, x2, x3, x4, x5, x6, x7]) (rest := rest) hd hq hw rfl hst (by rw [h0.1, h0.2]; exact hf) ok (fun r h1 n1 z => ?_)
  obtain ⟨v, e, k⟩ := z
  subst e
  rw [h0.1, h0.2]
  exact k
theorem zx_cN7a {x1 x2 x3 x4 x5 x6 x7 : Value} (hd : decode M.2.2.1 pc = .ok (.invokestatic idx, 3)) (hq : pc + 3 = q) (hw : zx_CN M M' idx y 7) (h0 : M'.2.2.2.2.2.2.1 = 0 ∧ M'.2.2.2.2.2.2.2 = 0) (hst : (rest.map fun v => v.category).sum ≤ 8) (hf : cells ≤ M.2.2.2.2.2.1.cells ∧ slots ≤ M.2.2.2.2.2.1.slots)
    (ok : zx_Ok E y M' [x1, x2, x3, x4, x5, x6, x7] h n (fun r h1 n1 => ∃ v : Nat, r = some (.ref v) ∧ zx_X E M Y q L (.ref v :: rest) h1 n1 cells slots)) : zx_X E M Y pc L (x7 :: x6 :: x5 :: x4 :: x3 :: x2 :: x1 :: rest) h n cells slots := by
  refine zx_callN (As := [x1, x2, x3, x4, x5, x6, x7]) (rest := rest) hd hq hw rfl hst (by rw [h0.1, h0.2]; exact hf) ok (fun r h1 n1 z => ?_)
  obtain ⟨v, e, k⟩ := z
  subst e
  rw [h0.1, h0.2]
  exact k
end ZD
end
section
theorem kw_Bu : ∀ w ∈ u_ws "AddressClaimBus$Bus" nT_Bu 6, w ∈ zx_T := by
  intro w hw
  obtain ⟨i, hi, rfl⟩ := List.mem_map.mp hw
  have hi : i < 6 := List.mem_range.mp hi
  match i, hi with
  | 0, _ => exact wd_38
  | 1, _ => exact wd_40
  | 2, _ => exact wd_42
  | 3, _ => exact wd_44
  | 4, _ => exact wd_46
  | 5, _ => exact wd_48
theorem kc_Bu : zx_Cl 0 "AddressClaimBus$Bus" nT_Bu 6 nt_Bu := ⟨rfl, kw_Bu, by decide +kernel, by decide +kernel⟩
theorem kw_Fu : ∀ w ∈ u_ws "AddressClaimBus$Function" nT_Fu 10, w ∈ zx_T := by
  intro w hw
  obtain ⟨i, hi, rfl⟩ := List.mem_map.mp hw
  have hi : i < 10 := List.mem_range.mp hi
  match i, hi with
  | 0, _ => exact wd_214
  | 1, _ => exact wd_216
  | 2, _ => exact wd_218
  | 3, _ => exact wd_220
  | 4, _ => exact wd_222
  | 5, _ => exact wd_224
  | 6, _ => exact wd_226
  | 7, _ => exact wd_228
  | 8, _ => exact wd_230
  | 9, _ => exact wd_232
theorem kc_Fu : zx_Cl 1 "AddressClaimBus$Function" nT_Fu 10 nt_Fu := ⟨rfl, kw_Fu, by decide +kernel, by decide +kernel⟩
theorem kw_In : ∀ w ∈ u_ws "AddressClaimBus$Incoming" nT_In 9, w ∈ zx_T := by
  intro w hw
  obtain ⟨i, hi, rfl⟩ := List.mem_map.mp hw
  have hi : i < 9 := List.mem_range.mp hi
  match i, hi with
  | 0, _ => exact wd_178
  | 1, _ => exact wd_180
  | 2, _ => exact wd_182
  | 3, _ => exact wd_184
  | 4, _ => exact wd_186
  | 5, _ => exact wd_188
  | 6, _ => exact wd_190
  | 7, _ => exact wd_192
  | 8, _ => exact wd_194
theorem kc_In : zx_Cl 2 "AddressClaimBus$Incoming" nT_In 9 nt_In := ⟨rfl, kw_In, by decide +kernel, by decide +kernel⟩
theorem kw_Ms : ∀ w ∈ u_ws "AddressClaimBus$Message" nT_Ms 5, w ∈ zx_T := by
  intro w hw
  obtain ⟨i, hi, rfl⟩ := List.mem_map.mp hw
  have hi : i < 5 := List.mem_range.mp hi
  match i, hi with
  | 0, _ => exact wd_103
  | 1, _ => exact wd_105
  | 2, _ => exact wd_107
  | 3, _ => exact wd_109
  | 4, _ => exact wd_111
theorem kc_Ms : zx_Cl 3 "AddressClaimBus$Message" nT_Ms 5 nt_Ms := ⟨rfl, kw_Ms, by decide +kernel, by decide +kernel⟩
theorem kw_Ou : ∀ w ∈ u_ws "AddressClaimBus$Outgoing" nT_Ou 10, w ∈ zx_T := by
  intro w hw
  obtain ⟨i, hi, rfl⟩ := List.mem_map.mp hw
  have hi : i < 10 := List.mem_range.mp hi
  match i, hi with
  | 0, _ => exact wd_137
  | 1, _ => exact wd_139
  | 2, _ => exact wd_141
  | 3, _ => exact wd_143
  | 4, _ => exact wd_145
  | 5, _ => exact wd_147
  | 6, _ => exact wd_149
  | 7, _ => exact wd_151
  | 8, _ => exact wd_153
  | 9, _ => exact wd_155
theorem kc_Ou : zx_Cl 4 "AddressClaimBus$Outgoing" nT_Ou 10 nt_Ou := ⟨rfl, kw_Ou, by decide +kernel, by decide +kernel⟩
theorem kw_St : ∀ w ∈ u_ws "AddressClaimBus$Station" nT_St 3, w ∈ zx_T := by
  intro w hw
  obtain ⟨i, hi, rfl⟩ := List.mem_map.mp hw
  have hi : i < 3 := List.mem_range.mp hi
  match i, hi with
  | 0, _ => exact wd_70
  | 1, _ => exact wd_72
  | 2, _ => exact wd_74
theorem kc_St : zx_Cl 5 "AddressClaimBus$Station" nT_St 3 nt_St := ⟨rfl, kw_St, by decide +kernel, by decide +kernel⟩
theorem kw_Ab : ∀ w ∈ u_ws "AddressClaimBus" nT_Ab 2, w ∈ zx_T := by
  intro w hw
  obtain ⟨i, hi, rfl⟩ := List.mem_map.mp hw
  have hi : i < 2 := List.mem_range.mp hi
  match i, hi with
  | 0, _ => exact wd_237
  | 1, _ => exact wd_239
theorem kc_Ab : zx_Cl 6 "AddressClaimBus" nT_Ab 2 nt_Ab := ⟨rfl, kw_Ab, by decide +kernel, by decide +kernel⟩
theorem kw_Md : ∀ w ∈ u_ws "AddressClaimBusModel" nT_Md 34, w ∈ zx_T := by
  intro w hw
  obtain ⟨i, hi, rfl⟩ := List.mem_map.mp hw
  have hi : i < 34 := List.mem_range.mp hi
  match i, hi with
  | 0, _ => exact wd_614
  | 1, _ => exact wd_616
  | 2, _ => exact wd_618
  | 3, _ => exact wd_620
  | 4, _ => exact wd_622
  | 5, _ => exact wd_624
  | 6, _ => exact wd_626
  | 7, _ => exact wd_628
  | 8, _ => exact wd_630
  | 9, _ => exact wd_632
  | 10, _ => exact wd_634
  | 11, _ => exact wd_636
  | 12, _ => exact wd_638
  | 13, _ => exact wd_640
  | 14, _ => exact wd_642
  | 15, _ => exact wd_644
  | 16, _ => exact wd_646
  | 17, _ => exact wd_648
  | 18, _ => exact wd_650
  | 19, _ => exact wd_652
  | 20, _ => exact wd_654
  | 21, _ => exact wd_656
  | 22, _ => exact wd_658
  | 23, _ => exact wd_660
  | 24, _ => exact wd_662
  | 25, _ => exact wd_664
  | 26, _ => exact wd_666
  | 27, _ => exact wd_668
  | 28, _ => exact wd_670
  | 29, _ => exact wd_672
  | 30, _ => exact wd_674
  | 31, _ => exact wd_676
  | 32, _ => exact wd_678
  | 33, _ => exact wd_680
  | j + 34, h => exact absurd h (by omega)
theorem kc_Md : zx_Cl 7 "AddressClaimBusModel" nT_Md 34 nt_Md := ⟨rfl, kw_Md, by decide +kernel, by decide +kernel⟩
def my_Ab_init : MethodName := ⟨"AddressClaimBus", "<init>", "()V"⟩
def mi_Ab_init : zxM := ("AddressClaimBus", "<init>", prog_1_method_1_code, 2, none, { frames := 4, cells := 70, slots := 575, locals := 160 }, 70, 575)
def my_Ab_start : MethodName := ⟨"AddressClaimBus", "start", "(IJI)Z"⟩
def mi_Ab_start : zxM := ("AddressClaimBus", "start", prog_1_method_2_code, 5, (some FieldType.boolean), { frames := 4, cells := 0, slots := 0, locals := 160 }, 0, 0)
def my_Ab_stop : MethodName := ⟨"AddressClaimBus", "stop", "(I)Z"⟩
def mi_Ab_stop : zxM := ("AddressClaimBus", "stop", prog_1_method_3_code, 2, (some FieldType.boolean), { frames := 3, cells := 0, slots := 0, locals := 120 }, 0, 0)
def my_Ab_busy : MethodName := ⟨"AddressClaimBus", "busy", "(IZ)Z"⟩
def mi_Ab_busy : zxM := ("AddressClaimBus", "busy", prog_1_method_4_code, 3, (some FieldType.boolean), { frames := 1, cells := 0, slots := 0, locals := 40 }, 0, 0)
def my_Ab_state : MethodName := ⟨"AddressClaimBus", "state", "(I)I"⟩
def mi_Ab_state : zxM := ("AddressClaimBus", "state", prog_1_method_5_code, 2, (some FieldType.int), { frames := 1, cells := 0, slots := 0, locals := 40 }, 0, 0)
def my_Ab_address : MethodName := ⟨"AddressClaimBus", "address", "(I)I"⟩
def mi_Ab_address : zxM := ("AddressClaimBus", "address", prog_1_method_6_code, 2, (some FieldType.int), { frames := 2, cells := 0, slots := 0, locals := 80 }, 0, 0)
def my_Ab_noted : MethodName := ⟨"AddressClaimBus", "noted", "(II)I"⟩
def mi_Ab_noted : zxM := ("AddressClaimBus", "noted", prog_1_method_7_code, 3, (some FieldType.int), { frames := 2, cells := 0, slots := 0, locals := 80 }, 0, 0)
def my_Ab_request : MethodName := ⟨"AddressClaimBus", "request", "(I)Z"⟩
def mi_Ab_request : zxM := ("AddressClaimBus", "request", prog_1_method_8_code, 2, (some FieldType.boolean), { frames := 2, cells := 0, slots := 0, locals := 80 }, 0, 0)
def my_Ab_send : MethodName := ⟨"AddressClaimBus", "send", "(IIIIJ)Z"⟩
def mi_Ab_send : zxM := ("AddressClaimBus", "send", prog_1_method_9_code, 7, (some FieldType.boolean), { frames := 3, cells := 0, slots := 0, locals := 120 }, 0, 0)
def my_Ab_waiting : MethodName := ⟨"AddressClaimBus", "waiting", "()I"⟩
def mi_Ab_waiting : zxM := ("AddressClaimBus", "waiting", prog_1_method_10_code, 1, (some FieldType.int), { frames := 0, cells := 0, slots := 0, locals := 0 }, 0, 0)
def my_Ab_identifier : MethodName := ⟨"AddressClaimBus", "identifier", "()I"⟩
def mi_Ab_identifier : zxM := ("AddressClaimBus", "identifier", prog_1_method_11_code, 2, (some FieldType.int), { frames := 1, cells := 0, slots := 0, locals := 40 }, 0, 0)
def my_Ab_data : MethodName := ⟨"AddressClaimBus", "data", "()J"⟩
def mi_Ab_data : zxM := ("AddressClaimBus", "data", prog_1_method_12_code, 2, (some FieldType.long), { frames := 1, cells := 0, slots := 0, locals := 40 }, 0, 0)
def my_Ab_deliver : MethodName := ⟨"AddressClaimBus", "deliver", "(Z)Z"⟩
def mi_Ab_deliver : zxM := ("AddressClaimBus", "deliver", prog_1_method_13_code, 8, (some FieldType.boolean), { frames := 6, cells := 0, slots := 0, locals := 240 }, 0, 0)
def my_Ab_lose : MethodName := ⟨"AddressClaimBus", "lose", "()Z"⟩
def mi_Ab_lose : zxM := ("AddressClaimBus", "lose", prog_1_method_14_code, 2, (some FieldType.boolean), { frames := 2, cells := 0, slots := 0, locals := 80 }, 0, 0)
def my_Ab_overflowed : MethodName := ⟨"AddressClaimBus", "overflowed", "()I"⟩
def mi_Ab_overflowed : zxM := ("AddressClaimBus", "overflowed", prog_1_method_15_code, 1, (some FieldType.int), { frames := 0, cells := 0, slots := 0, locals := 0 }, 0, 0)
def my_Ab_tick : MethodName := ⟨"AddressClaimBus", "tick", "(I)I"⟩
def mi_Ab_tick : zxM := ("AddressClaimBus", "tick", prog_1_method_16_code, 8, (some FieldType.int), { frames := 5, cells := 0, slots := 0, locals := 200 }, 0, 0)
def my_Ab_outgoing : MethodName := ⟨"AddressClaimBus", "outgoing", "(I)I"⟩
def mi_Ab_outgoing : zxM := ("AddressClaimBus", "outgoing", prog_1_method_17_code, 3, (some FieldType.int), { frames := 2, cells := 0, slots := 0, locals := 80 }, 0, 0)
def my_Ab_incoming : MethodName := ⟨"AddressClaimBus", "incoming", "(I)I"⟩
def mi_Ab_incoming : zxM := ("AddressClaimBus", "incoming", prog_1_method_18_code, 2, (some FieldType.int), { frames := 2, cells := 0, slots := 0, locals := 80 }, 0, 0)
def my_Ab_delivered : MethodName := ⟨"AddressClaimBus", "delivered", "(I)I"⟩
def mi_Ab_delivered : zxM := ("AddressClaimBus", "delivered", prog_1_method_19_code, 2, (some FieldType.int), { frames := 2, cells := 0, slots := 0, locals := 80 }, 0, 0)
def my_Ab_message : MethodName := ⟨"AddressClaimBus", "message", "(II)I"⟩
def mi_Ab_message : zxM := ("AddressClaimBus", "message", prog_1_method_20_code, 4, (some FieldType.int), { frames := 3, cells := 0, slots := 0, locals := 120 }, 0, 0)
def my_Ab_byteOf : MethodName := ⟨"AddressClaimBus", "byteOf", "(II)I"⟩
def mi_Ab_byteOf : zxM := ("AddressClaimBus", "byteOf", prog_1_method_21_code, 3, (some FieldType.int), { frames := 3, cells := 0, slots := 0, locals := 120 }, 0, 0)
def my_Ab_isFunction : MethodName := ⟨"AddressClaimBus", "isFunction", "(I)Z"⟩
def mi_Ab_isFunction : zxM := ("AddressClaimBus", "isFunction", prog_1_method_22_code, 2, (some FieldType.boolean), { frames := 0, cells := 0, slots := 0, locals := 0 }, 0, 0)
def my_Ab_isOn : MethodName := ⟨"AddressClaimBus", "isOn", "(I)Z"⟩
def mi_Ab_isOn : zxM := ("AddressClaimBus", "isOn", prog_1_method_23_code, 2, (some FieldType.boolean), { frames := 1, cells := 0, slots := 0, locals := 40 }, 0, 0)
def my_Ab_hasMessage : MethodName := ⟨"AddressClaimBus", "hasMessage", "(I)Z"⟩
def mi_Ab_hasMessage : zxM := ("AddressClaimBus", "hasMessage", prog_1_method_24_code, 2, (some FieldType.boolean), { frames := 2, cells := 0, slots := 0, locals := 80 }, 0, 0)
def my_Ab_isNameTaken : MethodName := ⟨"AddressClaimBus", "isNameTaken", "(J)Z"⟩
def mi_Ab_isNameTaken : zxM := ("AddressClaimBus", "isNameTaken", prog_1_method_25_code, 4, (some FieldType.boolean), { frames := 2, cells := 0, slots := 0, locals := 80 }, 0, 0)
def my_Ab_firstDue : MethodName := ⟨"AddressClaimBus", "firstDue", "()I"⟩
def mi_Ab_firstDue : zxM := ("AddressClaimBus", "firstDue", prog_1_method_26_code, 3, (some FieldType.int), { frames := 2, cells := 0, slots := 0, locals := 80 }, 0, 0)
def my_Ab_packetsFor : MethodName := ⟨"AddressClaimBus", "packetsFor", "(I)I"⟩
def mi_Ab_packetsFor : zxM := ("AddressClaimBus", "packetsFor", prog_1_method_27_code, 1, (some FieldType.int), { frames := 0, cells := 0, slots := 0, locals := 0 }, 0, 0)
def my_Ab_frameByte : MethodName := ⟨"AddressClaimBus", "frameByte", "(JI)I"⟩
def mi_Ab_frameByte : zxM := ("AddressClaimBus", "frameByte", prog_1_method_28_code, 3, (some FieldType.int), { frames := 0, cells := 0, slots := 0, locals := 0 }, 0, 0)
def my_Ab_controlData : MethodName := ⟨"AddressClaimBus", "controlData", "(IIIII)J"⟩
def mi_Ab_controlData : zxM := ("AddressClaimBus", "controlData", prog_1_method_29_code, 7, (some FieldType.long), { frames := 0, cells := 0, slots := 0, locals := 0 }, 0, 0)
def my_Ab_extentData : MethodName := ⟨"AddressClaimBus", "extentData", "(III)J"⟩
def mi_Ab_extentData : zxM := ("AddressClaimBus", "extentData", prog_1_method_30_code, 3, (some FieldType.long), { frames := 1, cells := 0, slots := 0, locals := 40 }, 0, 0)
def my_Ab_abortData : MethodName := ⟨"AddressClaimBus", "abortData", "(II)J"⟩
def mi_Ab_abortData : zxM := ("AddressClaimBus", "abortData", prog_1_method_31_code, 2, (some FieldType.long), { frames := 1, cells := 0, slots := 0, locals := 40 }, 0, 0)
def my_Md_init : MethodName := ⟨"AddressClaimBusModel", "<init>", "()V"⟩
def mi_Md_init : zxM := ("AddressClaimBusModel", "<init>", prog_9_method_1_code, 1, none, { frames := 1, cells := 31, slots := 1089, locals := 40 }, 31, 1089)
def my_Md_on : MethodName := ⟨"AddressClaimBusModel", "on", "(I)Z"⟩
def mi_Md_on : zxM := ("AddressClaimBusModel", "on", prog_9_method_2_code, 2, (some FieldType.boolean), { frames := 0, cells := 0, slots := 0, locals := 0 }, 0, 0)
def my_Md_packets : MethodName := ⟨"AddressClaimBusModel", "packets", "(I)I"⟩
def mi_Md_packets : zxM := ("AddressClaimBusModel", "packets", prog_9_method_3_code, 1, (some FieldType.int), { frames := 0, cells := 0, slots := 0, locals := 0 }, 0, 0)
def my_Md_source : MethodName := ⟨"AddressClaimBusModel", "source", "(I)I"⟩
def mi_Md_source : zxM := ("AddressClaimBusModel", "source", prog_9_method_4_code, 2, (some FieldType.int), { frames := 0, cells := 0, slots := 0, locals := 0 }, 0, 0)
def my_Md_put : MethodName := ⟨"AddressClaimBusModel", "put", "(IIIIJ)V"⟩
def mi_Md_put : zxM := ("AddressClaimBusModel", "put", prog_9_method_5_code, 7, none, { frames := 1, cells := 0, slots := 0, locals := 40 }, 0, 0)
def my_Md_putClaim : MethodName := ⟨"AddressClaimBusModel", "putClaim", "(I)V"⟩
def mi_Md_putClaim : zxM := ("AddressClaimBusModel", "putClaim", prog_9_method_6_code, 2, none, { frames := 2, cells := 0, slots := 0, locals := 80 }, 0, 0)
def my_Md_putControl : MethodName := ⟨"AddressClaimBusModel", "putControl", "(IIIIIII)V"⟩
def mi_Md_putControl : zxM := ("AddressClaimBusModel", "putControl", prog_9_method_7_code, 8, none, { frames := 2, cells := 0, slots := 0, locals := 80 }, 0, 0)
def my_Md_putAbort : MethodName := ⟨"AddressClaimBusModel", "putAbort", "(IIII)V"⟩
def mi_Md_putAbort : zxM := ("AddressClaimBusModel", "putAbort", prog_9_method_8_code, 5, none, { frames := 3, cells := 0, slots := 0, locals := 120 }, 0, 0)
def my_Md_putPacket : MethodName := ⟨"AddressClaimBusModel", "putPacket", "(II)V"⟩
def mi_Md_putPacket : zxM := ("AddressClaimBusModel", "putPacket", prog_9_method_9_code, 9, none, { frames := 2, cells := 0, slots := 0, locals := 80 }, 0, 0)
def my_Md_takeAway : MethodName := ⟨"AddressClaimBusModel", "takeAway", "(I)V"⟩
def mi_Md_takeAway : zxM := ("AddressClaimBusModel", "takeAway", prog_9_method_10_code, 3, none, { frames := 0, cells := 0, slots := 0, locals := 0 }, 0, 0)
def my_Md_next : MethodName := ⟨"AddressClaimBusModel", "next", "()I"⟩
def mi_Md_next : zxM := ("AddressClaimBusModel", "next", prog_9_method_11_code, 3, (some FieldType.int), { frames := 0, cells := 0, slots := 0, locals := 0 }, 0, 0)
def my_Md_waiting : MethodName := ⟨"AddressClaimBusModel", "waiting", "()I"⟩
def mi_Md_waiting : zxM := ("AddressClaimBusModel", "waiting", prog_9_method_12_code, 1, (some FieldType.int), { frames := 0, cells := 0, slots := 0, locals := 0 }, 0, 0)
def my_Md_identifier : MethodName := ⟨"AddressClaimBusModel", "identifier", "()I"⟩
def mi_Md_identifier : zxM := ("AddressClaimBusModel", "identifier", prog_9_method_13_code, 2, (some FieldType.int), { frames := 1, cells := 0, slots := 0, locals := 40 }, 0, 0)
def my_Md_data : MethodName := ⟨"AddressClaimBusModel", "data", "()J"⟩
def mi_Md_data : zxM := ("AddressClaimBusModel", "data", prog_9_method_14_code, 2, (some FieldType.long), { frames := 1, cells := 0, slots := 0, locals := 40 }, 0, 0)
def my_Md_lose : MethodName := ⟨"AddressClaimBusModel", "lose", "()Z"⟩
def mi_Md_lose : zxM := ("AddressClaimBusModel", "lose", prog_9_method_15_code, 2, (some FieldType.boolean), { frames := 1, cells := 0, slots := 0, locals := 40 }, 0, 0)
def my_Md_overflowed : MethodName := ⟨"AddressClaimBusModel", "overflowed", "()I"⟩
def mi_Md_overflowed : zxM := ("AddressClaimBusModel", "overflowed", prog_9_method_16_code, 1, (some FieldType.int), { frames := 0, cells := 0, slots := 0, locals := 0 }, 0, 0)
def my_Md_deliver : MethodName := ⟨"AddressClaimBusModel", "deliver", "(Z)Z"⟩
def mi_Md_deliver : zxM := ("AddressClaimBusModel", "deliver", prog_9_method_17_code, 12, (some FieldType.boolean), { frames := 7, cells := 0, slots := 0, locals := 280 }, 0, 0)
def my_Md_reach : MethodName := ⟨"AddressClaimBusModel", "reach", "(IIIIIJ)V"⟩
def mi_Md_reach : zxM := ("AddressClaimBusModel", "reach", prog_9_method_18_code, 8, none, { frames := 6, cells := 0, slots := 0, locals := 240 }, 0, 0)
def my_Md_start : MethodName := ⟨"AddressClaimBusModel", "start", "(IJI)Z"⟩
def mi_Md_start : zxM := ("AddressClaimBusModel", "start", prog_9_method_19_code, 6, (some FieldType.boolean), { frames := 3, cells := 0, slots := 0, locals := 120 }, 0, 0)
def my_Md_stop : MethodName := ⟨"AddressClaimBusModel", "stop", "(I)Z"⟩
def mi_Md_stop : zxM := ("AddressClaimBusModel", "stop", prog_9_method_20_code, 3, (some FieldType.boolean), { frames := 1, cells := 0, slots := 0, locals := 40 }, 0, 0)
def my_Md_busy : MethodName := ⟨"AddressClaimBusModel", "busy", "(IZ)Z"⟩
def mi_Md_busy : zxM := ("AddressClaimBusModel", "busy", prog_9_method_21_code, 3, (some FieldType.boolean), { frames := 0, cells := 0, slots := 0, locals := 0 }, 0, 0)
def my_Md_state : MethodName := ⟨"AddressClaimBusModel", "state", "(I)I"⟩
def mi_Md_state : zxM := ("AddressClaimBusModel", "state", prog_9_method_22_code, 2, (some FieldType.int), { frames := 0, cells := 0, slots := 0, locals := 0 }, 0, 0)
def my_Md_address : MethodName := ⟨"AddressClaimBusModel", "address", "(I)I"⟩
def mi_Md_address : zxM := ("AddressClaimBusModel", "address", prog_9_method_23_code, 2, (some FieldType.int), { frames := 1, cells := 0, slots := 0, locals := 40 }, 0, 0)
def my_Md_noted : MethodName := ⟨"AddressClaimBusModel", "noted", "(II)I"⟩
def mi_Md_noted : zxM := ("AddressClaimBusModel", "noted", prog_9_method_24_code, 3, (some FieldType.int), { frames := 1, cells := 0, slots := 0, locals := 40 }, 0, 0)
def my_Md_request : MethodName := ⟨"AddressClaimBusModel", "request", "(I)Z"⟩
def mi_Md_request : zxM := ("AddressClaimBusModel", "request", prog_9_method_25_code, 2, (some FieldType.boolean), { frames := 2, cells := 0, slots := 0, locals := 80 }, 0, 0)
def my_Md_below : MethodName := ⟨"AddressClaimBusModel", "below", "(JJ)Z"⟩
def mi_Md_below : zxM := ("AddressClaimBusModel", "below", prog_9_method_26_code, 4, (some FieldType.boolean), { frames := 0, cells := 0, slots := 0, locals := 0 }, 0, 0)
def my_Md_claimed : MethodName := ⟨"AddressClaimBusModel", "claimed", "(IIIJ)V"⟩
def mi_Md_claimed : zxM := ("AddressClaimBusModel", "claimed", prog_9_method_27_code, 7, none, { frames := 3, cells := 0, slots := 0, locals := 120 }, 0, 0)
def my_Md_spare : MethodName := ⟨"AddressClaimBusModel", "spare", "(I)I"⟩
def mi_Md_spare : zxM := ("AddressClaimBusModel", "spare", prog_9_method_28_code, 5, (some FieldType.int), { frames := 0, cells := 0, slots := 0, locals := 0 }, 0, 0)
def my_Md_send : MethodName := ⟨"AddressClaimBusModel", "send", "(IIIIJ)Z"⟩
def mi_Md_send : zxM := ("AddressClaimBusModel", "send", prog_9_method_29_code, 8, (some FieldType.boolean), { frames := 3, cells := 0, slots := 0, locals := 120 }, 0, 0)
def my_Md_finish : MethodName := ⟨"AddressClaimBusModel", "finish", "(II)V"⟩
def mi_Md_finish : zxM := ("AddressClaimBusModel", "finish", prog_9_method_30_code, 3, none, { frames := 0, cells := 0, slots := 0, locals := 0 }, 0, 0)
def my_Md_control : MethodName := ⟨"AddressClaimBusModel", "control", "(IIIJ)V"⟩
def mi_Md_control : zxM := ("AddressClaimBusModel", "control", prog_9_method_31_code, 12, none, { frames := 5, cells := 0, slots := 0, locals := 200 }, 0, 0)
def my_Md_granted : MethodName := ⟨"AddressClaimBusModel", "granted", "(III)V"⟩
def mi_Md_granted : zxM := ("AddressClaimBusModel", "granted", prog_9_method_32_code, 5, none, { frames := 3, cells := 0, slots := 0, locals := 120 }, 0, 0)
def my_Md_find : MethodName := ⟨"AddressClaimBusModel", "find", "(IIZ)I"⟩
def mi_Md_find : zxM := ("AddressClaimBusModel", "find", prog_9_method_33_code, 5, (some FieldType.int), { frames := 0, cells := 0, slots := 0, locals := 0 }, 0, 0)
def my_Md_close : MethodName := ⟨"AddressClaimBusModel", "close", "(II)V"⟩
def mi_Md_close : zxM := ("AddressClaimBusModel", "close", prog_9_method_34_code, 5, none, { frames := 0, cells := 0, slots := 0, locals := 0 }, 0, 0)
def my_Md_opened : MethodName := ⟨"AddressClaimBusModel", "opened", "(IIIIZ)V"⟩
def mi_Md_opened : zxM := ("AddressClaimBusModel", "opened", prog_9_method_35_code, 8, none, { frames := 4, cells := 0, slots := 0, locals := 160 }, 0, 0)
def my_Md_grant : MethodName := ⟨"AddressClaimBusModel", "grant", "(II)V"⟩
def mi_Md_grant : zxM := ("AddressClaimBusModel", "grant", prog_9_method_36_code, 5, none, { frames := 3, cells := 0, slots := 0, locals := 120 }, 0, 0)
def my_Md_askAgain : MethodName := ⟨"AddressClaimBusModel", "askAgain", "(III)V"⟩
def mi_Md_askAgain : zxM := ("AddressClaimBusModel", "askAgain", prog_9_method_37_code, 4, none, { frames := 4, cells := 0, slots := 0, locals := 160 }, 0, 0)
def my_Md_packet : MethodName := ⟨"AddressClaimBusModel", "packet", "(IIIJ)V"⟩
def mi_Md_packet : zxM := ("AddressClaimBusModel", "packet", prog_9_method_38_code, 8, none, { frames := 5, cells := 0, slots := 0, locals := 200 }, 0, 0)
def my_Md_keep : MethodName := ⟨"AddressClaimBusModel", "keep", "(IIIJ)V"⟩
def mi_Md_keep : zxM := ("AddressClaimBusModel", "keep", prog_9_method_39_code, 8, none, { frames := 4, cells := 0, slots := 0, locals := 160 }, 0, 0)
def my_Md_due : MethodName := ⟨"AddressClaimBusModel", "due", "(I)I"⟩
def mi_Md_due : zxM := ("AddressClaimBusModel", "due", prog_9_method_40_code, 4, (some FieldType.int), { frames := 0, cells := 0, slots := 0, locals := 0 }, 0, 0)
def my_Md_goOff : MethodName := ⟨"AddressClaimBusModel", "goOff", "(I)V"⟩
def mi_Md_goOff : zxM := ("AddressClaimBusModel", "goOff", prog_9_method_41_code, 5, none, { frames := 5, cells := 0, slots := 0, locals := 200 }, 0, 0)
def my_Md_outgoingOff : MethodName := ⟨"AddressClaimBusModel", "outgoingOff", "(I)V"⟩
def mi_Md_outgoingOff : zxM := ("AddressClaimBusModel", "outgoingOff", prog_9_method_42_code, 2, none, { frames := 4, cells := 0, slots := 0, locals := 160 }, 0, 0)
def my_Md_tick : MethodName := ⟨"AddressClaimBusModel", "tick", "(I)I"⟩
def mi_Md_tick : zxM := ("AddressClaimBusModel", "tick", prog_9_method_43_code, 6, (some FieldType.int), { frames := 6, cells := 0, slots := 0, locals := 240 }, 0, 0)
def my_Md_outgoing : MethodName := ⟨"AddressClaimBusModel", "outgoing", "(I)I"⟩
def mi_Md_outgoing : zxM := ("AddressClaimBusModel", "outgoing", prog_9_method_44_code, 2, (some FieldType.int), { frames := 1, cells := 0, slots := 0, locals := 40 }, 0, 0)
def my_Md_incoming : MethodName := ⟨"AddressClaimBusModel", "incoming", "(I)I"⟩
def mi_Md_incoming : zxM := ("AddressClaimBusModel", "incoming", prog_9_method_45_code, 2, (some FieldType.int), { frames := 1, cells := 0, slots := 0, locals := 40 }, 0, 0)
def my_Md_delivered : MethodName := ⟨"AddressClaimBusModel", "delivered", "(I)I"⟩
def mi_Md_delivered : zxM := ("AddressClaimBusModel", "delivered", prog_9_method_46_code, 2, (some FieldType.int), { frames := 1, cells := 0, slots := 0, locals := 40 }, 0, 0)
def my_Md_message : MethodName := ⟨"AddressClaimBusModel", "message", "(II)I"⟩
def mi_Md_message : zxM := ("AddressClaimBusModel", "message", prog_9_method_47_code, 3, (some FieldType.int), { frames := 1, cells := 0, slots := 0, locals := 40 }, 0, 0)
def my_Md_byteOf : MethodName := ⟨"AddressClaimBusModel", "byteOf", "(II)I"⟩
def mi_Md_byteOf : zxM := ("AddressClaimBusModel", "byteOf", prog_9_method_48_code, 3, (some FieldType.int), { frames := 1, cells := 0, slots := 0, locals := 40 }, 0, 0)
def my_Bu_init : MethodName := ⟨"AddressClaimBus$Bus", "<init>", "()V"⟩
def mi_Bu_init : zxM := ("AddressClaimBus$Bus", "<init>", prog_2_method_1_code, 1, none, { frames := 1, cells := 3, slots := 144, locals := 40 }, 3, 144)
def my_Bu_put : MethodName := ⟨"AddressClaimBus$Bus", "put", "(LAddressClaimBus$Station;IIJ)V"⟩
def mi_Bu_put : zxM := ("AddressClaimBus$Bus", "put", prog_2_method_2_code, 6, none, { frames := 0, cells := 0, slots := 0, locals := 0 }, 0, 0)
def my_Bu_placeOfNext : MethodName := ⟨"AddressClaimBus$Bus", "placeOfNext", "()I"⟩
def mi_Bu_placeOfNext : zxM := ("AddressClaimBus$Bus", "placeOfNext", prog_2_method_3_code, 3, (some FieldType.int), { frames := 0, cells := 0, slots := 0, locals := 0 }, 0, 0)
def my_Bu_takeAway : MethodName := ⟨"AddressClaimBus$Bus", "takeAway", "(I)V"⟩
def mi_Bu_takeAway : zxM := ("AddressClaimBus$Bus", "takeAway", prog_2_method_4_code, 3, none, { frames := 1, cells := 0, slots := 0, locals := 40 }, 0, 0)
def my_Bu_takeAwayFramesOf : MethodName := ⟨"AddressClaimBus$Bus", "takeAwayFramesOf", "(I)V"⟩
def mi_Bu_takeAwayFramesOf : zxM := ("AddressClaimBus$Bus", "takeAwayFramesOf", prog_2_method_5_code, 4, none, { frames := 1, cells := 0, slots := 0, locals := 40 }, 0, 0)
def my_Bu_move : MethodName := ⟨"AddressClaimBus$Bus", "move", "(II)V"⟩
def mi_Bu_move : zxM := ("AddressClaimBus$Bus", "move", prog_2_method_6_code, 3, none, { frames := 0, cells := 0, slots := 0, locals := 0 }, 0, 0)
def my_Fu_init : MethodName := ⟨"AddressClaimBus$Function", "<init>", "(LAddressClaimBus$Bus;LAddressClaimBus$Station;)V"⟩
def mi_Fu_init : zxM := ("AddressClaimBus$Function", "<init>", prog_3_method_1_code, 4, none, { frames := 3, cells := 11, slots := 71, locals := 120 }, 11, 71)
def my_Fu_switchOn : MethodName := ⟨"AddressClaimBus$Function", "switchOn", "(JI)V"⟩
def mi_Fu_switchOn : zxM := ("AddressClaimBus$Function", "switchOn", prog_3_method_2_code, 5, none, { frames := 3, cells := 0, slots := 0, locals := 120 }, 0, 0)
def my_Fu_switchOff : MethodName := ⟨"AddressClaimBus$Function", "switchOff", "()V"⟩
def mi_Fu_switchOff : zxM := ("AddressClaimBus$Function", "switchOff", prog_3_method_3_code, 1, none, { frames := 2, cells := 0, slots := 0, locals := 80 }, 0, 0)
def my_Fu_canSendTo : MethodName := ⟨"AddressClaimBus$Function", "canSendTo", "(I)Z"⟩
def mi_Fu_canSendTo : zxM := ("AddressClaimBus$Function", "canSendTo", prog_3_method_4_code, 3, (some FieldType.boolean), { frames := 0, cells := 0, slots := 0, locals := 0 }, 0, 0)
def my_Fu_countIncoming : MethodName := ⟨"AddressClaimBus$Function", "countIncoming", "()I"⟩
def mi_Fu_countIncoming : zxM := ("AddressClaimBus$Function", "countIncoming", prog_3_method_5_code, 3, (some FieldType.int), { frames := 0, cells := 0, slots := 0, locals := 0 }, 0, 0)
def my_Fu_reach : MethodName := ⟨"AddressClaimBus$Function", "reach", "(IIJ)V"⟩
def mi_Fu_reach : zxM := ("AddressClaimBus$Function", "reach", prog_3_method_6_code, 8, none, { frames := 5, cells := 0, slots := 0, locals := 200 }, 0, 0)
def my_Fu_nextDue : MethodName := ⟨"AddressClaimBus$Function", "nextDue", "()J"⟩
def mi_Fu_nextDue : zxM := ("AddressClaimBus$Function", "nextDue", prog_3_method_7_code, 4, (some FieldType.long), { frames := 1, cells := 0, slots := 0, locals := 40 }, 0, 0)
def my_Fu_goOff : MethodName := ⟨"AddressClaimBus$Function", "goOff", "()V"⟩
def mi_Fu_goOff : zxM := ("AddressClaimBus$Function", "goOff", prog_3_method_8_code, 3, none, { frames := 4, cells := 0, slots := 0, locals := 160 }, 0, 0)
def my_Fu_claim : MethodName := ⟨"AddressClaimBus$Function", "claim", "(I)V"⟩
def mi_Fu_claim : zxM := ("AddressClaimBus$Function", "claim", prog_3_method_9_code, 2, none, { frames := 2, cells := 0, slots := 0, locals := 80 }, 0, 0)
def my_Fu_sendClaim : MethodName := ⟨"AddressClaimBus$Function", "sendClaim", "()V"⟩
def mi_Fu_sendClaim : zxM := ("AddressClaimBus$Function", "sendClaim", prog_3_method_10_code, 1, none, { frames := 1, cells := 0, slots := 0, locals := 40 }, 0, 0)
def my_Fu_takeClaim : MethodName := ⟨"AddressClaimBus$Function", "takeClaim", "(IIJ)V"⟩
def mi_Fu_takeClaim : zxM := ("AddressClaimBus$Function", "takeClaim", prog_3_method_11_code, 5, none, { frames := 4, cells := 0, slots := 0, locals := 160 }, 0, 0)
def my_Fu_isNameLessThan : MethodName := ⟨"AddressClaimBus$Function", "isNameLessThan", "(J)Z"⟩
def mi_Fu_isNameLessThan : zxM := ("AddressClaimBus$Function", "isNameLessThan", prog_3_method_12_code, 3, (some FieldType.boolean), { frames := 0, cells := 0, slots := 0, locals := 0 }, 0, 0)
def my_Fu_loseAddress : MethodName := ⟨"AddressClaimBus$Function", "loseAddress", "()V"⟩
def mi_Fu_loseAddress : zxM := ("AddressClaimBus$Function", "loseAddress", prog_3_method_13_code, 2, none, { frames := 3, cells := 0, slots := 0, locals := 120 }, 0, 0)
def my_Fu_spareAddress : MethodName := ⟨"AddressClaimBus$Function", "spareAddress", "()I"⟩
def mi_Fu_spareAddress : zxM := ("AddressClaimBus$Function", "spareAddress", prog_3_method_14_code, 2, (some FieldType.int), { frames := 1, cells := 0, slots := 0, locals := 40 }, 0, 0)
def my_Fu_isNoted : MethodName := ⟨"AddressClaimBus$Function", "isNoted", "(I)Z"⟩
def mi_Fu_isNoted : zxM := ("AddressClaimBus$Function", "isNoted", prog_3_method_15_code, 3, (some FieldType.boolean), { frames := 0, cells := 0, slots := 0, locals := 0 }, 0, 0)
def my_Fu_endSessions : MethodName := ⟨"AddressClaimBus$Function", "endSessions", "()V"⟩
def mi_Fu_endSessions : zxM := ("AddressClaimBus$Function", "endSessions", prog_3_method_16_code, 2, none, { frames := 1, cells := 0, slots := 0, locals := 40 }, 0, 0)
def my_Fu_takeControl : MethodName := ⟨"AddressClaimBus$Function", "takeControl", "(IJ)V"⟩
def mi_Fu_takeControl : zxM := ("AddressClaimBus$Function", "takeControl", prog_3_method_17_code, 7, none, { frames := 4, cells := 0, slots := 0, locals := 160 }, 0, 0)
def my_Fu_takeOpening : MethodName := ⟨"AddressClaimBus$Function", "takeOpening", "(IIJZ)V"⟩
def mi_Fu_takeOpening : zxM := ("AddressClaimBus$Function", "takeOpening", prog_3_method_18_code, 7, none, { frames := 3, cells := 0, slots := 0, locals := 120 }, 0, 0)
def my_Fu_roomForIncoming : MethodName := ⟨"AddressClaimBus$Function", "roomForIncoming", "()LAddressClaimBus$Incoming;"⟩
def mi_Fu_roomForIncoming : zxM := ("AddressClaimBus$Function", "roomForIncoming", prog_3_method_19_code, 2, (some (FieldType.object "AddressClaimBus$Incoming")), { frames := 0, cells := 0, slots := 0, locals := 0 }, 0, 0)
def my_Fu_abortIncoming : MethodName := ⟨"AddressClaimBus$Function", "abortIncoming", "(II)V"⟩
def mi_Fu_abortIncoming : zxM := ("AddressClaimBus$Function", "abortIncoming", prog_3_method_20_code, 4, none, { frames := 1, cells := 0, slots := 0, locals := 40 }, 0, 0)
def my_Fu_takePacket : MethodName := ⟨"AddressClaimBus$Function", "takePacket", "(IZJ)V"⟩
def mi_Fu_takePacket : zxM := ("AddressClaimBus$Function", "takePacket", prog_3_method_21_code, 8, none, { frames := 4, cells := 0, slots := 0, locals := 160 }, 0, 0)
def my_In_init : MethodName := ⟨"AddressClaimBus$Incoming", "<init>", "(LAddressClaimBus$Bus;LAddressClaimBus$Station;)V"⟩
def mi_In_init : zxM := ("AddressClaimBus$Incoming", "<init>", prog_4_method_1_code, 3, none, { frames := 2, cells := 2, slots := 12, locals := 80 }, 2, 12)
def my_In_begin : MethodName := ⟨"AddressClaimBus$Incoming", "begin", "(IIIZ)V"⟩
def mi_In_begin : zxM := ("AddressClaimBus$Incoming", "begin", prog_4_method_2_code, 5, none, { frames := 2, cells := 0, slots := 0, locals := 80 }, 0, 0)
def my_In_end : MethodName := ⟨"AddressClaimBus$Incoming", "end", "()V"⟩
def mi_In_end : zxM := ("AddressClaimBus$Incoming", "end", prog_4_method_3_code, 1, none, { frames := 0, cells := 0, slots := 0, locals := 0 }, 0, 0)
def my_In_isFrom : MethodName := ⟨"AddressClaimBus$Incoming", "isFrom", "(IZ)Z"⟩
def mi_In_isFrom : zxM := ("AddressClaimBus$Incoming", "isFrom", prog_4_method_4_code, 3, (some FieldType.boolean), { frames := 0, cells := 0, slots := 0, locals := 0 }, 0, 0)
def my_In_goOff : MethodName := ⟨"AddressClaimBus$Incoming", "goOff", "()V"⟩
def mi_In_goOff : zxM := ("AddressClaimBus$Incoming", "goOff", prog_4_method_5_code, 1, none, { frames := 3, cells := 0, slots := 0, locals := 120 }, 0, 0)
def my_In_takeToAll : MethodName := ⟨"AddressClaimBus$Incoming", "takeToAll", "(J)Z"⟩
def mi_In_takeToAll : zxM := ("AddressClaimBus$Incoming", "takeToAll", prog_4_method_6_code, 4, (some FieldType.boolean), { frames := 2, cells := 0, slots := 0, locals := 80 }, 0, 0)
def my_In_takeDirected : MethodName := ⟨"AddressClaimBus$Incoming", "takeDirected", "(J)Z"⟩
def mi_In_takeDirected : zxM := ("AddressClaimBus$Incoming", "takeDirected", prog_4_method_7_code, 4, (some FieldType.boolean), { frames := 3, cells := 0, slots := 0, locals := 120 }, 0, 0)
def my_In_keepExpected : MethodName := ⟨"AddressClaimBus$Incoming", "keepExpected", "(J)V"⟩
def mi_In_keepExpected : zxM := ("AddressClaimBus$Incoming", "keepExpected", prog_4_method_8_code, 3, none, { frames := 1, cells := 0, slots := 0, locals := 40 }, 0, 0)
def my_In_isWhole : MethodName := ⟨"AddressClaimBus$Incoming", "isWhole", "()Z"⟩
def mi_In_isWhole : zxM := ("AddressClaimBus$Incoming", "isWhole", prog_4_method_9_code, 1, (some FieldType.boolean), { frames := 1, cells := 0, slots := 0, locals := 40 }, 0, 0)
def my_In_askAgain : MethodName := ⟨"AddressClaimBus$Incoming", "askAgain", "(I)V"⟩
def mi_In_askAgain : zxM := ("AddressClaimBus$Incoming", "askAgain", prog_4_method_10_code, 2, none, { frames := 2, cells := 0, slots := 0, locals := 80 }, 0, 0)
def my_In_grant : MethodName := ⟨"AddressClaimBus$Incoming", "grant", "()V"⟩
def mi_In_grant : zxM := ("AddressClaimBus$Incoming", "grant", prog_4_method_11_code, 5, none, { frames := 1, cells := 0, slots := 0, locals := 40 }, 0, 0)
def my_Ms_init : MethodName := ⟨"AddressClaimBus$Message", "<init>", "()V"⟩
def mi_Ms_init : zxM := ("AddressClaimBus$Message", "<init>", prog_5_method_1_code, 1, none, { frames := 1, cells := 1, slots := 7, locals := 40 }, 1, 7)
def my_Ms_keep : MethodName := ⟨"AddressClaimBus$Message", "keep", "(IJ)V"⟩
def mi_Ms_keep : zxM := ("AddressClaimBus$Message", "keep", prog_5_method_2_code, 4, none, { frames := 0, cells := 0, slots := 0, locals := 0 }, 0, 0)
def my_Ms_copy : MethodName := ⟨"AddressClaimBus$Message", "copy", "(LAddressClaimBus$Message;)V"⟩
def mi_Ms_copy : zxM := ("AddressClaimBus$Message", "copy", prog_5_method_3_code, 3, none, { frames := 0, cells := 0, slots := 0, locals := 0 }, 0, 0)
def my_Ms_byteAt : MethodName := ⟨"AddressClaimBus$Message", "byteAt", "(I)I"⟩
def mi_Ms_byteAt : zxM := ("AddressClaimBus$Message", "byteAt", prog_5_method_4_code, 2, (some FieldType.int), { frames := 1, cells := 0, slots := 0, locals := 40 }, 0, 0)
def my_Ou_init : MethodName := ⟨"AddressClaimBus$Outgoing", "<init>", "(LAddressClaimBus$Bus;LAddressClaimBus$Station;)V"⟩
def mi_Ou_init : zxM := ("AddressClaimBus$Outgoing", "<init>", prog_6_method_1_code, 3, none, { frames := 1, cells := 0, slots := 0, locals := 40 }, 0, 0)
def my_Ou_begin : MethodName := ⟨"AddressClaimBus$Outgoing", "begin", "(IIIJ)V"⟩
def mi_Ou_begin : zxM := ("AddressClaimBus$Outgoing", "begin", prog_6_method_2_code, 7, none, { frames := 2, cells := 0, slots := 0, locals := 80 }, 0, 0)
def my_Ou_end : MethodName := ⟨"AddressClaimBus$Outgoing", "end", "(I)V"⟩
def mi_Ou_end : zxM := ("AddressClaimBus$Outgoing", "end", prog_6_method_3_code, 2, none, { frames := 0, cells := 0, slots := 0, locals := 0 }, 0, 0)
def my_Ou_isWith : MethodName := ⟨"AddressClaimBus$Outgoing", "isWith", "(II)Z"⟩
def mi_Ou_isWith : zxM := ("AddressClaimBus$Outgoing", "isWith", prog_6_method_4_code, 3, (some FieldType.boolean), { frames := 0, cells := 0, slots := 0, locals := 0 }, 0, 0)
def my_Ou_takeGrant : MethodName := ⟨"AddressClaimBus$Outgoing", "takeGrant", "(II)V"⟩
def mi_Ou_takeGrant : zxM := ("AddressClaimBus$Outgoing", "takeGrant", prog_6_method_5_code, 5, none, { frames := 2, cells := 0, slots := 0, locals := 80 }, 0, 0)
def my_Ou_goOff : MethodName := ⟨"AddressClaimBus$Outgoing", "goOff", "()V"⟩
def mi_Ou_goOff : zxM := ("AddressClaimBus$Outgoing", "goOff", prog_6_method_6_code, 1, none, { frames := 3, cells := 0, slots := 0, locals := 120 }, 0, 0)
def my_Ou_sendNextToAll : MethodName := ⟨"AddressClaimBus$Outgoing", "sendNextToAll", "()V"⟩
def mi_Ou_sendNextToAll : zxM := ("AddressClaimBus$Outgoing", "sendNextToAll", prog_6_method_7_code, 1, none, { frames := 2, cells := 0, slots := 0, locals := 80 }, 0, 0)
def my_Ou_sendPacket : MethodName := ⟨"AddressClaimBus$Outgoing", "sendPacket", "(I)V"⟩
def mi_Ou_sendPacket : zxM := ("AddressClaimBus$Outgoing", "sendPacket", prog_6_method_8_code, 8, none, { frames := 1, cells := 0, slots := 0, locals := 40 }, 0, 0)
def my_St_init : MethodName := ⟨"AddressClaimBus$Station", "<init>", "(I)V"⟩
def mi_St_init : zxM := ("AddressClaimBus$Station", "<init>", prog_7_method_1_code, 2, none, { frames := 1, cells := 0, slots := 0, locals := 40 }, 0, 0)
def mi_La_law : zxM := ("AddressClaimBusLaw", "law", code, maxLocals, ret, room_1, 600000, 7302250)
theorem cw_Ab_obj : Cond.methodLink "AddressClaimBus" 3 objectInit ∈ zx_T ∧ Cond.instanceMethod objectInit ∈ zx_T ∧ Cond.code objectInit ⟨#[0xb1]⟩ 1 none ∈ zx_T := ⟨wd_15, wd_16, wd_17⟩
theorem nw_Ab_9 : Cond.classLink "AddressClaimBus" 9 "AddressClaimBus$Bus" ∈ zx_T ∧ Cond.instantiable "AddressClaimBus$Bus" 6 ∈ zx_T ∧ Cond.initialized "AddressClaimBus$Bus" ∈ zx_T := ⟨wd_18, wd_19, wd_2⟩
theorem ci_Ab_init_11 : zx_CJ mi_Ab_init mi_Bu_init 11 my_Bu_init 0 := ⟨⟨List.mem_of_getElem? (i := 0) rfl, wd_21, wd_2, wd_22⟩, rfl, rfl, ⟨by decide, by decide, by decide +kernel⟩, ⟨rfl, rfl, by decide, by decide⟩⟩
theorem fl_Ab_12 : zx_Fl "AddressClaimBus" 12 6 0 (.object "AddressClaimBus$Bus") true := ⟨_, _, _, _, kc_Ab, by decide, wd_235, rfl, rfl, rfl⟩
theorem na_Ab_16 : Cond.classLink "AddressClaimBus" 16 "AddressClaimBus$Function" ∈ zx_T ∧ "AddressClaimBus$Function" ∈ zx_AO := ⟨wd_53, by decide⟩
theorem fl_Ab_18 : zx_Fl "AddressClaimBus" 18 6 1 (.array (.object "AddressClaimBus$Function")) true := ⟨_, _, _, _, kc_Ab, by decide, wd_236, rfl, rfl, rfl⟩
theorem nw_Ab_16 : Cond.classLink "AddressClaimBus" 16 "AddressClaimBus$Function" ∈ zx_T ∧ Cond.instantiable "AddressClaimBus$Function" 10 ∈ zx_T ∧ Cond.initialized "AddressClaimBus$Function" ∈ zx_T := ⟨wd_53, wd_55, wd_3⟩
theorem nw_Ab_22 : Cond.classLink "AddressClaimBus" 22 "AddressClaimBus$Station" ∈ zx_T ∧ Cond.instantiable "AddressClaimBus$Station" 3 ∈ zx_T ∧ Cond.initialized "AddressClaimBus$Station" ∈ zx_T := ⟨wd_56, wd_57, wd_4⟩
theorem ci_Ab_init_24 : zx_CI mi_Ab_init mi_St_init 24 my_St_init 1 := ⟨⟨wd_58, wd_59, wd_4, wd_60⟩, rfl, rfl, ⟨by decide, by decide, by decide +kernel⟩, ⟨rfl, rfl, by decide, by decide⟩⟩
theorem ci_Ab_init_27 : zx_CI mi_Ab_init mi_Fu_init 27 my_Fu_init 2 := ⟨⟨wd_77, wd_78, wd_3, wd_79⟩, rfl, rfl, ⟨by decide, by decide, by decide +kernel⟩, ⟨rfl, rfl, by decide, by decide⟩⟩
theorem cv_Ab_start_30 : zx_CV mi_Ab_start mi_Ab_isFunction 30 my_Ab_isFunction 1 := ⟨⟨wd_246, wd_248, wp_0, wd_1, wd_249⟩, rfl, ⟨by decide, by decide, by decide +kernel⟩, ⟨rfl, rfl, by decide, by decide⟩⟩
theorem cv_Ab_start_34 : zx_CV mi_Ab_start mi_Ab_isOn 34 my_Ab_isOn 1 := ⟨⟨wd_250, wd_252, wp_1, wd_1, wd_253⟩, rfl, ⟨by decide, by decide, by decide +kernel⟩, ⟨rfl, rfl, by decide, by decide⟩⟩
theorem cv_Ab_start_37 : zx_CV mi_Ab_start mi_Ab_isNameTaken 37 my_Ab_isNameTaken 1 := ⟨⟨wd_254, wd_256, wp_2, wd_1, wd_257⟩, rfl, ⟨by decide, by decide, by decide +kernel⟩, ⟨rfl, rfl, by decide, by decide⟩⟩
theorem cv_Ab_start_41 : zx_CV mi_Ab_start mi_Fu_switchOn 41 my_Fu_switchOn 2 := ⟨⟨wd_258, wd_259, wd_260, wd_3, wd_261⟩, rfl, ⟨by decide, by decide, by decide +kernel⟩, ⟨rfl, rfl, by decide, by decide⟩⟩
theorem cv_Ab_stop_34 : zx_CV mi_Ab_stop mi_Ab_isOn 34 my_Ab_isOn 1 := ⟨⟨wd_250, wd_252, wp_1, wd_1, wd_253⟩, rfl, ⟨by decide, by decide, by decide +kernel⟩, ⟨rfl, rfl, by decide, by decide⟩⟩
theorem cv_Ab_stop_45 : zx_CV mi_Ab_stop mi_Fu_switchOff 45 my_Fu_switchOff 0 := ⟨⟨wd_280, wd_281, wd_282, wd_3, wd_283⟩, rfl, ⟨by decide, by decide, by decide +kernel⟩, ⟨rfl, rfl, by decide, by decide⟩⟩
theorem cv_Ab_busy_30 : zx_CV mi_Ab_busy mi_Ab_isFunction 30 my_Ab_isFunction 1 := ⟨⟨wd_246, wd_248, wp_0, wd_1, wd_249⟩, rfl, ⟨by decide, by decide, by decide +kernel⟩, ⟨rfl, rfl, by decide, by decide⟩⟩
theorem fl_Ab_48 : zx_Fl "AddressClaimBus" 48 1 1 (.object "AddressClaimBus$Station") true := ⟨_, _, _, _, kc_Fu, by decide, wd_199, rfl, rfl, rfl⟩
theorem fl_Ab_52 : zx_Fl "AddressClaimBus" 52 5 2 .boolean false := ⟨_, _, _, _, kc_St, by decide, wd_68, rfl, rfl, rfl⟩
theorem cv_Ab_state_30 : zx_CV mi_Ab_state mi_Ab_isFunction 30 my_Ab_isFunction 1 := ⟨⟨wd_246, wd_248, wp_0, wd_1, wd_249⟩, rfl, ⟨by decide, by decide, by decide +kernel⟩, ⟨rfl, rfl, by decide, by decide⟩⟩
theorem fl_Ab_56 : zx_Fl "AddressClaimBus" 56 1 7 .int false := ⟨_, _, _, _, kc_Fu, by decide, wd_210, rfl, rfl, rfl⟩
theorem cv_Ab_address_34 : zx_CV mi_Ab_address mi_Ab_isOn 34 my_Ab_isOn 1 := ⟨⟨wd_250, wd_252, wp_1, wd_1, wd_253⟩, rfl, ⟨by decide, by decide, by decide +kernel⟩, ⟨rfl, rfl, by decide, by decide⟩⟩
theorem fl_Ab_60 : zx_Fl "AddressClaimBus" 60 5 1 .int false := ⟨_, _, _, _, kc_St, by decide, wd_67, rfl, rfl, rfl⟩
theorem cv_Ab_noted_34 : zx_CV mi_Ab_noted mi_Ab_isOn 34 my_Ab_isOn 1 := ⟨⟨wd_250, wd_252, wp_1, wd_1, wd_253⟩, rfl, ⟨by decide, by decide, by decide +kernel⟩, ⟨rfl, rfl, by decide, by decide⟩⟩
theorem cv_Ab_noted_30 : zx_CV mi_Ab_noted mi_Ab_isFunction 30 my_Ab_isFunction 1 := ⟨⟨wd_246, wd_248, wp_0, wd_1, wd_249⟩, rfl, ⟨by decide, by decide, by decide +kernel⟩, ⟨rfl, rfl, by decide, by decide⟩⟩
theorem fl_Ab_63 : zx_Fl "AddressClaimBus" 63 1 2 (.array .int) true := ⟨_, _, _, _, kc_Fu, by decide, wd_201, rfl, rfl, rfl⟩
theorem cv_Ab_request_34 : zx_CV mi_Ab_request mi_Ab_isOn 34 my_Ab_isOn 1 := ⟨⟨wd_250, wd_252, wp_1, wd_1, wd_253⟩, rfl, ⟨by decide, by decide, by decide +kernel⟩, ⟨rfl, rfl, by decide, by decide⟩⟩
theorem kk_Ab_67 : Cond.constant "AddressClaimBus" 67 (nI 417988608) ∈ zx_T := wd_324
theorem kk_Ab_68 : Cond.constantLong "AddressClaimBus" 68 (lN 60928) ∈ zx_T := wd_325
theorem cv_Ab_request_70 : zx_CV mi_Ab_request mi_Bu_put 70 my_Bu_put 4 := ⟨⟨wd_326, wd_273, wd_274, wd_2, wd_275⟩, rfl, ⟨by decide, by decide, by decide +kernel⟩, ⟨rfl, rfl, by decide, by decide⟩⟩
theorem cv_Ab_send_30 : zx_CV mi_Ab_send mi_Ab_isFunction 30 my_Ab_isFunction 1 := ⟨⟨wd_246, wd_248, wp_0, wd_1, wd_249⟩, rfl, ⟨by decide, by decide, by decide +kernel⟩, ⟨rfl, rfl, by decide, by decide⟩⟩
theorem cv_Ab_send_74 : zx_CV mi_Ab_send mi_Fu_canSendTo 74 my_Fu_canSendTo 1 := ⟨⟨wd_331, wd_332, wd_333, wd_3, wd_334⟩, rfl, ⟨by decide, by decide, by decide +kernel⟩, ⟨rfl, rfl, by decide, by decide⟩⟩
theorem kk_Ab_77 : Cond.constant "AddressClaimBus" 77 (nI 262143) ∈ zx_T := wd_335
theorem fl_Ab_78 : zx_Fl "AddressClaimBus" 78 1 3 (.object "AddressClaimBus$Outgoing") true := ⟨_, _, _, _, kc_Fu, by decide, wd_203, rfl, rfl, rfl⟩
theorem cv_Ab_send_82 : zx_CV mi_Ab_send mi_Ou_begin 82 my_Ou_begin 4 := ⟨⟨wd_336, wd_337, wd_338, wd_6, wd_339⟩, rfl, ⟨by decide, by decide, by decide +kernel⟩, ⟨rfl, rfl, by decide, by decide⟩⟩
theorem fl_Ab_88 : zx_Fl "AddressClaimBus" 88 0 3 .int false := ⟨_, _, _, _, kc_Bu, by decide, wd_31, rfl, rfl, rfl⟩
theorem cv_Ab_identifier_91 : zx_CV mi_Ab_identifier mi_Bu_placeOfNext 91 my_Bu_placeOfNext 0 := ⟨⟨wd_360, wd_361, wd_362, wd_2, wd_363⟩, rfl, ⟨by decide, by decide, by decide +kernel⟩, ⟨rfl, rfl, by decide, by decide⟩⟩
theorem fl_Ab_95 : zx_Fl "AddressClaimBus" 95 0 0 (.array .int) true := ⟨_, _, _, _, kc_Bu, by decide, wd_25, rfl, rfl, rfl⟩
theorem cv_Ab_data_91 : zx_CV mi_Ab_data mi_Bu_placeOfNext 91 my_Bu_placeOfNext 0 := ⟨⟨wd_360, wd_361, wd_362, wd_2, wd_363⟩, rfl, ⟨by decide, by decide, by decide +kernel⟩, ⟨rfl, rfl, by decide, by decide⟩⟩
theorem fl_Ab_98 : zx_Fl "AddressClaimBus" 98 0 1 (.array .long) true := ⟨_, _, _, _, kc_Bu, by decide, wd_27, rfl, rfl, rfl⟩
theorem cv_Ab_deliver_91 : zx_CV mi_Ab_deliver mi_Bu_placeOfNext 91 my_Bu_placeOfNext 0 := ⟨⟨wd_360, wd_361, wd_362, wd_2, wd_363⟩, rfl, ⟨by decide, by decide, by decide +kernel⟩, ⟨rfl, rfl, by decide, by decide⟩⟩
theorem fl_Ab_102 : zx_Fl "AddressClaimBus" 102 0 2 (.array .int) true := ⟨_, _, _, _, kc_Bu, by decide, wd_29, rfl, rfl, rfl⟩
theorem cv_Ab_deliver_105 : zx_CV mi_Ab_deliver mi_Bu_takeAway 105 my_Bu_takeAway 1 := ⟨⟨wd_372, wd_373, wd_374, wd_2, wd_375⟩, rfl, ⟨by decide, by decide, by decide +kernel⟩, ⟨rfl, rfl, by decide, by decide⟩⟩
theorem cv_Ab_deliver_108 : zx_CV mi_Ab_deliver mi_Fu_reach 108 my_Fu_reach 3 := ⟨⟨wd_376, wd_377, wd_378, wd_3, wd_379⟩, rfl, ⟨by decide, by decide, by decide +kernel⟩, ⟨rfl, rfl, by decide, by decide⟩⟩
theorem cv_Ab_lose_91 : zx_CV mi_Ab_lose mi_Bu_placeOfNext 91 my_Bu_placeOfNext 0 := ⟨⟨wd_360, wd_361, wd_362, wd_2, wd_363⟩, rfl, ⟨by decide, by decide, by decide +kernel⟩, ⟨rfl, rfl, by decide, by decide⟩⟩
theorem cv_Ab_lose_105 : zx_CV mi_Ab_lose mi_Bu_takeAway 105 my_Bu_takeAway 1 := ⟨⟨wd_372, wd_373, wd_374, wd_2, wd_375⟩, rfl, ⟨by decide, by decide, by decide +kernel⟩, ⟨rfl, rfl, by decide, by decide⟩⟩
theorem fl_Ab_112 : zx_Fl "AddressClaimBus" 112 0 4 .int false := ⟨_, _, _, _, kc_Bu, by decide, wd_33, rfl, rfl, rfl⟩
theorem fl_Ab_115 : zx_Fl "AddressClaimBus" 115 0 5 .long false := ⟨_, _, _, _, kc_Bu, by decide, wd_37, rfl, rfl, rfl⟩
theorem cv_Ab_tick_119 : zx_CV mi_Ab_tick mi_Ab_firstDue 119 my_Ab_firstDue 0 := ⟨⟨wd_514, wd_516, wp_22, wd_1, wd_517⟩, rfl, ⟨by decide, by decide, by decide +kernel⟩, ⟨rfl, rfl, by decide, by decide⟩⟩
theorem cv_Ab_tick_122 : zx_CV mi_Ab_tick mi_Fu_nextDue 122 my_Fu_nextDue 0 := ⟨⟨wd_518, wd_519, wd_520, wd_3, wd_521⟩, rfl, ⟨by decide, by decide, by decide +kernel⟩, ⟨rfl, rfl, by decide, by decide⟩⟩
theorem cv_Ab_tick_126 : zx_CV mi_Ab_tick mi_Fu_goOff 126 my_Fu_goOff 0 := ⟨⟨wd_525, wd_526, wd_527, wd_3, wd_528⟩, rfl, ⟨by decide, by decide, by decide +kernel⟩, ⟨rfl, rfl, by decide, by decide⟩⟩
theorem cv_Ab_outgoing_34 : zx_CV mi_Ab_outgoing mi_Ab_isOn 34 my_Ab_isOn 1 := ⟨⟨wd_250, wd_252, wp_1, wd_1, wd_253⟩, rfl, ⟨by decide, by decide, by decide +kernel⟩, ⟨rfl, rfl, by decide, by decide⟩⟩
theorem fl_Ab_129 : zx_Fl "AddressClaimBus" 129 4 2 .int false := ⟨_, _, _, _, kc_Ou, by decide, wd_126, rfl, rfl, rfl⟩
theorem fl_Ab_132 : zx_Fl "AddressClaimBus" 132 4 3 .int false := ⟨_, _, _, _, kc_Ou, by decide, wd_129, rfl, rfl, rfl⟩
theorem cv_Ab_incoming_34 : zx_CV mi_Ab_incoming mi_Ab_isOn 34 my_Ab_isOn 1 := ⟨⟨wd_250, wd_252, wp_1, wd_1, wd_253⟩, rfl, ⟨by decide, by decide, by decide +kernel⟩, ⟨rfl, rfl, by decide, by decide⟩⟩
theorem cv_Ab_incoming_135 : zx_CV mi_Ab_incoming mi_Fu_countIncoming 135 my_Fu_countIncoming 0 := ⟨⟨wd_552, wd_421, wd_422, wd_3, wd_423⟩, rfl, ⟨by decide, by decide, by decide +kernel⟩, ⟨rfl, rfl, by decide, by decide⟩⟩
theorem cv_Ab_delivered_34 : zx_CV mi_Ab_delivered mi_Ab_isOn 34 my_Ab_isOn 1 := ⟨⟨wd_250, wd_252, wp_1, wd_1, wd_253⟩, rfl, ⟨by decide, by decide, by decide +kernel⟩, ⟨rfl, rfl, by decide, by decide⟩⟩
theorem fl_Ab_138 : zx_Fl "AddressClaimBus" 138 1 6 .int false := ⟨_, _, _, _, kc_Fu, by decide, wd_208, rfl, rfl, rfl⟩
theorem cv_Ab_message_141 : zx_CV mi_Ab_message mi_Ab_hasMessage 141 my_Ab_hasMessage 1 := ⟨⟨wd_561, wd_563, wp_24, wd_1, wd_564⟩, rfl, ⟨by decide, by decide, by decide +kernel⟩, ⟨rfl, rfl, by decide, by decide⟩⟩
theorem fl_Ab_144 : zx_Fl "AddressClaimBus" 144 1 5 (.object "AddressClaimBus$Message") true := ⟨_, _, _, _, kc_Fu, by decide, wd_206, rfl, rfl, rfl⟩
theorem fl_Ab_148 : zx_Fl "AddressClaimBus" 148 3 1 .int false := ⟨_, _, _, _, kc_Ms, by decide, wd_92, rfl, rfl, rfl⟩
theorem fl_Ab_153 : zx_Fl "AddressClaimBus" 153 3 2 .int false := ⟨_, _, _, _, kc_Ms, by decide, wd_96, rfl, rfl, rfl⟩
theorem fl_Ab_156 : zx_Fl "AddressClaimBus" 156 3 3 .int false := ⟨_, _, _, _, kc_Ms, by decide, wd_99, rfl, rfl, rfl⟩
theorem fl_Ab_159 : zx_Fl "AddressClaimBus" 159 3 4 .boolean false := ⟨_, _, _, _, kc_Ms, by decide, wd_102, rfl, rfl, rfl⟩
theorem cv_Ab_byteOf_141 : zx_CV mi_Ab_byteOf mi_Ab_hasMessage 141 my_Ab_hasMessage 1 := ⟨⟨wd_561, wd_563, wp_24, wd_1, wd_564⟩, rfl, ⟨by decide, by decide, by decide +kernel⟩, ⟨rfl, rfl, by decide, by decide⟩⟩
theorem cv_Ab_byteOf_162 : zx_CV mi_Ab_byteOf mi_Ms_byteAt 162 my_Ms_byteAt 1 := ⟨⟨wd_569, wd_570, wd_571, wd_5, wd_572⟩, rfl, ⟨by decide, by decide, by decide +kernel⟩, ⟨rfl, rfl, by decide, by decide⟩⟩
theorem cv_Ab_isOn_30 : zx_CV mi_Ab_isOn mi_Ab_isFunction 30 my_Ab_isFunction 1 := ⟨⟨wd_246, wd_248, wp_0, wd_1, wd_249⟩, rfl, ⟨by decide, by decide, by decide +kernel⟩, ⟨rfl, rfl, by decide, by decide⟩⟩
theorem cv_Ab_hasMessage_34 : zx_CV mi_Ab_hasMessage mi_Ab_isOn 34 my_Ab_isOn 1 := ⟨⟨wd_250, wd_252, wp_1, wd_1, wd_253⟩, rfl, ⟨by decide, by decide, by decide +kernel⟩, ⟨rfl, rfl, by decide, by decide⟩⟩
theorem cv_Ab_isNameTaken_34 : zx_CV mi_Ab_isNameTaken mi_Ab_isOn 34 my_Ab_isOn 1 := ⟨⟨wd_250, wd_252, wp_1, wd_1, wd_253⟩, rfl, ⟨by decide, by decide, by decide +kernel⟩, ⟨rfl, rfl, by decide, by decide⟩⟩
theorem fl_Ab_166 : zx_Fl "AddressClaimBus" 166 1 8 .long false := ⟨_, _, _, _, kc_Fu, by decide, wd_212, rfl, rfl, rfl⟩
theorem cv_Ab_firstDue_122 : zx_CV mi_Ab_firstDue mi_Fu_nextDue 122 my_Fu_nextDue 0 := ⟨⟨wd_518, wd_519, wd_520, wd_3, wd_521⟩, rfl, ⟨by decide, by decide, by decide +kernel⟩, ⟨rfl, rfl, by decide, by decide⟩⟩
theorem kk_Ab_169 : Cond.constantLong "AddressClaimBus" 169 (lN 1095216660480) ∈ zx_T := wd_350
theorem cs_Ab_extentData_171 : zx_CS mi_Ab_extentData mi_Ab_packetsFor 171 my_Ab_packetsFor 1 := ⟨⟨wd_344, wd_345, wd_1, wd_346⟩, rfl, ⟨by decide, by decide, by decide +kernel⟩, ⟨rfl, rfl, by decide, by decide⟩⟩
theorem cs_Ab_extentData_174 : zx_CS mi_Ab_extentData mi_Ab_controlData 174 my_Ab_controlData 5 := ⟨⟨wd_347, wd_348, wd_1, wd_349⟩, rfl, ⟨by decide, by decide, by decide +kernel⟩, ⟨rfl, rfl, by decide, by decide⟩⟩
theorem cs_Ab_abortData_174 : zx_CS mi_Ab_abortData mi_Ab_controlData 174 my_Ab_controlData 5 := ⟨⟨wd_347, wd_348, wd_1, wd_349⟩, rfl, ⟨by decide, by decide, by decide +kernel⟩, ⟨rfl, rfl, by decide, by decide⟩⟩
theorem cw_Md_obj : Cond.methodLink "AddressClaimBusModel" 1 objectInit ∈ zx_T ∧ Cond.instanceMethod objectInit ∈ zx_T ∧ Cond.code objectInit ⟨#[0xb1]⟩ 1 none ∈ zx_T := ⟨wd_579, wd_16, wd_17⟩
theorem fl_Md_7 : zx_Fl "AddressClaimBusModel" 7 7 1 (.array .int) false := ⟨_, _, _, _, kc_Md, by decide, wd_581, rfl, rfl, rfl⟩
theorem fl_Md_13 : zx_Fl "AddressClaimBusModel" 13 7 2 (.array .int) false := ⟨_, _, _, _, kc_Md, by decide, wd_582, rfl, rfl, rfl⟩
theorem fl_Md_16 : zx_Fl "AddressClaimBusModel" 16 7 3 (.array .long) false := ⟨_, _, _, _, kc_Md, by decide, wd_583, rfl, rfl, rfl⟩
theorem fl_Md_20 : zx_Fl "AddressClaimBusModel" 20 7 4 (.array .boolean) false := ⟨_, _, _, _, kc_Md, by decide, wd_584, rfl, rfl, rfl⟩
theorem fl_Md_24 : zx_Fl "AddressClaimBusModel" 24 7 5 (.array .int) false := ⟨_, _, _, _, kc_Md, by decide, wd_585, rfl, rfl, rfl⟩
theorem fl_Md_27 : zx_Fl "AddressClaimBusModel" 27 7 6 (.array .int) false := ⟨_, _, _, _, kc_Md, by decide, wd_586, rfl, rfl, rfl⟩
theorem fl_Md_30 : zx_Fl "AddressClaimBusModel" 30 7 8 (.array .int) false := ⟨_, _, _, _, kc_Md, by decide, wd_588, rfl, rfl, rfl⟩
theorem fl_Md_33 : zx_Fl "AddressClaimBusModel" 33 7 9 (.array .long) false := ⟨_, _, _, _, kc_Md, by decide, wd_589, rfl, rfl, rfl⟩
theorem fl_Md_36 : zx_Fl "AddressClaimBusModel" 36 7 10 (.array .int) false := ⟨_, _, _, _, kc_Md, by decide, wd_590, rfl, rfl, rfl⟩
theorem fl_Md_39 : zx_Fl "AddressClaimBusModel" 39 7 12 (.array .int) false := ⟨_, _, _, _, kc_Md, by decide, wd_592, rfl, rfl, rfl⟩
theorem fl_Md_42 : zx_Fl "AddressClaimBusModel" 42 7 13 (.array .int) false := ⟨_, _, _, _, kc_Md, by decide, wd_593, rfl, rfl, rfl⟩
theorem fl_Md_45 : zx_Fl "AddressClaimBusModel" 45 7 14 (.array .int) false := ⟨_, _, _, _, kc_Md, by decide, wd_594, rfl, rfl, rfl⟩
theorem fl_Md_48 : zx_Fl "AddressClaimBusModel" 48 7 15 (.array .int) false := ⟨_, _, _, _, kc_Md, by decide, wd_595, rfl, rfl, rfl⟩
theorem fl_Md_51 : zx_Fl "AddressClaimBusModel" 51 7 16 (.array .int) false := ⟨_, _, _, _, kc_Md, by decide, wd_596, rfl, rfl, rfl⟩
theorem fl_Md_54 : zx_Fl "AddressClaimBusModel" 54 7 17 (.array .long) false := ⟨_, _, _, _, kc_Md, by decide, wd_597, rfl, rfl, rfl⟩
theorem fl_Md_57 : zx_Fl "AddressClaimBusModel" 57 7 18 (.array .int) false := ⟨_, _, _, _, kc_Md, by decide, wd_598, rfl, rfl, rfl⟩
theorem fl_Md_60 : zx_Fl "AddressClaimBusModel" 60 7 19 (.array .int) false := ⟨_, _, _, _, kc_Md, by decide, wd_599, rfl, rfl, rfl⟩
theorem fl_Md_63 : zx_Fl "AddressClaimBusModel" 63 7 20 (.array .int) false := ⟨_, _, _, _, kc_Md, by decide, wd_600, rfl, rfl, rfl⟩
theorem fl_Md_66 : zx_Fl "AddressClaimBusModel" 66 7 21 (.array .boolean) false := ⟨_, _, _, _, kc_Md, by decide, wd_601, rfl, rfl, rfl⟩
theorem fl_Md_69 : zx_Fl "AddressClaimBusModel" 69 7 22 (.array .int) false := ⟨_, _, _, _, kc_Md, by decide, wd_602, rfl, rfl, rfl⟩
theorem fl_Md_72 : zx_Fl "AddressClaimBusModel" 72 7 23 (.array .int) false := ⟨_, _, _, _, kc_Md, by decide, wd_603, rfl, rfl, rfl⟩
theorem fl_Md_75 : zx_Fl "AddressClaimBusModel" 75 7 24 (.array .int) false := ⟨_, _, _, _, kc_Md, by decide, wd_604, rfl, rfl, rfl⟩
theorem fl_Md_78 : zx_Fl "AddressClaimBusModel" 78 7 25 (.array .int) false := ⟨_, _, _, _, kc_Md, by decide, wd_605, rfl, rfl, rfl⟩
theorem fl_Md_81 : zx_Fl "AddressClaimBusModel" 81 7 26 (.array .int) false := ⟨_, _, _, _, kc_Md, by decide, wd_606, rfl, rfl, rfl⟩
theorem fl_Md_84 : zx_Fl "AddressClaimBusModel" 84 7 27 (.array .int) false := ⟨_, _, _, _, kc_Md, by decide, wd_607, rfl, rfl, rfl⟩
theorem fl_Md_87 : zx_Fl "AddressClaimBusModel" 87 7 28 (.array .boolean) false := ⟨_, _, _, _, kc_Md, by decide, wd_608, rfl, rfl, rfl⟩
theorem fl_Md_90 : zx_Fl "AddressClaimBusModel" 90 7 29 (.array .int) false := ⟨_, _, _, _, kc_Md, by decide, wd_609, rfl, rfl, rfl⟩
theorem fl_Md_93 : zx_Fl "AddressClaimBusModel" 93 7 30 (.array .int) false := ⟨_, _, _, _, kc_Md, by decide, wd_610, rfl, rfl, rfl⟩
theorem fl_Md_96 : zx_Fl "AddressClaimBusModel" 96 7 31 (.array .int) false := ⟨_, _, _, _, kc_Md, by decide, wd_611, rfl, rfl, rfl⟩
theorem fl_Md_99 : zx_Fl "AddressClaimBusModel" 99 7 32 (.array .int) false := ⟨_, _, _, _, kc_Md, by decide, wd_612, rfl, rfl, rfl⟩
theorem fl_Md_102 : zx_Fl "AddressClaimBusModel" 102 7 33 (.array .int) false := ⟨_, _, _, _, kc_Md, by decide, wd_613, rfl, rfl, rfl⟩
theorem fl_Md_105 : zx_Fl "AddressClaimBusModel" 105 7 7 .int false := ⟨_, _, _, _, kc_Md, by decide, wd_587, rfl, rfl, rfl⟩
theorem fl_Md_109 : zx_Fl "AddressClaimBusModel" 109 7 11 .int false := ⟨_, _, _, _, kc_Md, by decide, wd_591, rfl, rfl, rfl⟩
theorem cv_Md_put_112 : zx_CV mi_Md_put mi_Md_source 112 my_Md_source 1 := ⟨⟨wd_739, wd_741, wp_32, wd_8, wd_742⟩, rfl, ⟨by decide, by decide, by decide +kernel⟩, ⟨rfl, rfl, by decide, by decide⟩⟩
theorem cv_Md_putClaim_116 : zx_CV mi_Md_putClaim mi_Md_put 116 my_Md_put 5 := ⟨⟨wd_735, wd_737, wp_31, wd_8, wd_738⟩, rfl, ⟨by decide, by decide, by decide +kernel⟩, ⟨rfl, rfl, by decide, by decide⟩⟩
theorem kk_Md_120 : Cond.constantLong "AddressClaimBusModel" 120 (lN 1095216660480) ∈ zx_T := wd_769
theorem cv_Md_putControl_116 : zx_CV mi_Md_putControl mi_Md_put 116 my_Md_put 5 := ⟨⟨wd_735, wd_737, wp_31, wd_8, wd_738⟩, rfl, ⟨by decide, by decide, by decide +kernel⟩, ⟨rfl, rfl, by decide, by decide⟩⟩
theorem cv_Md_putAbort_122 : zx_CV mi_Md_putAbort mi_Md_putControl 122 my_Md_putControl 7 := ⟨⟨wd_765, wd_767, wp_38, wd_8, wd_768⟩, rfl, ⟨by decide, by decide, by decide +kernel⟩, ⟨rfl, rfl, by decide, by decide⟩⟩
theorem kk_Md_126 : Cond.constantLong "AddressClaimBusModel" 126 (lN 255) ∈ zx_T := wd_747
theorem cv_Md_putPacket_116 : zx_CV mi_Md_putPacket mi_Md_put 116 my_Md_put 5 := ⟨⟨wd_735, wd_737, wp_31, wd_8, wd_738⟩, rfl, ⟨by decide, by decide, by decide +kernel⟩, ⟨rfl, rfl, by decide, by decide⟩⟩
theorem cv_Md_identifier_128 : zx_CV mi_Md_identifier mi_Md_next 128 my_Md_next 0 := ⟨⟨wd_692, wd_694, wp_25, wd_8, wd_695⟩, rfl, ⟨by decide, by decide, by decide +kernel⟩, ⟨rfl, rfl, by decide, by decide⟩⟩
theorem cv_Md_data_128 : zx_CV mi_Md_data mi_Md_next 128 my_Md_next 0 := ⟨⟨wd_692, wd_694, wp_25, wd_8, wd_695⟩, rfl, ⟨by decide, by decide, by decide +kernel⟩, ⟨rfl, rfl, by decide, by decide⟩⟩
theorem cv_Md_lose_128 : zx_CV mi_Md_lose mi_Md_next 128 my_Md_next 0 := ⟨⟨wd_692, wd_694, wp_25, wd_8, wd_695⟩, rfl, ⟨by decide, by decide, by decide +kernel⟩, ⟨rfl, rfl, by decide, by decide⟩⟩
theorem cv_Md_lose_132 : zx_CV mi_Md_lose mi_Md_takeAway 132 my_Md_takeAway 1 := ⟨⟨wd_704, wd_706, wp_26, wd_8, wd_707⟩, rfl, ⟨by decide, by decide, by decide +kernel⟩, ⟨rfl, rfl, by decide, by decide⟩⟩
theorem cv_Md_deliver_128 : zx_CV mi_Md_deliver mi_Md_next 128 my_Md_next 0 := ⟨⟨wd_692, wd_694, wp_25, wd_8, wd_695⟩, rfl, ⟨by decide, by decide, by decide +kernel⟩, ⟨rfl, rfl, by decide, by decide⟩⟩
theorem cv_Md_deliver_132 : zx_CV mi_Md_deliver mi_Md_takeAway 132 my_Md_takeAway 1 := ⟨⟨wd_704, wd_706, wp_26, wd_8, wd_707⟩, rfl, ⟨by decide, by decide, by decide +kernel⟩, ⟨rfl, rfl, by decide, by decide⟩⟩
theorem cv_Md_deliver_136 : zx_CV mi_Md_deliver mi_Md_reach 136 my_Md_reach 6 := ⟨⟨wd_716, wd_718, wp_27, wd_8, wd_719⟩, rfl, ⟨by decide, by decide, by decide +kernel⟩, ⟨rfl, rfl, by decide, by decide⟩⟩
theorem cv_Md_reach_140 : zx_CV mi_Md_reach mi_Md_claimed 140 my_Md_claimed 4 := ⟨⟨wd_720, wd_722, wp_28, wd_8, wd_723⟩, rfl, ⟨by decide, by decide, by decide +kernel⟩, ⟨rfl, rfl, by decide, by decide⟩⟩
theorem cv_Md_reach_144 : zx_CV mi_Md_reach mi_Md_putClaim 144 my_Md_putClaim 1 := ⟨⟨wd_731, wd_733, wp_30, wd_8, wd_734⟩, rfl, ⟨by decide, by decide, by decide +kernel⟩, ⟨rfl, rfl, by decide, by decide⟩⟩
theorem cv_Md_reach_147 : zx_CV mi_Md_reach mi_Md_control 147 my_Md_control 4 := ⟨⟨wd_743, wd_745, wp_33, wd_8, wd_746⟩, rfl, ⟨by decide, by decide, by decide +kernel⟩, ⟨rfl, rfl, by decide, by decide⟩⟩
theorem cv_Md_reach_150 : zx_CV mi_Md_reach mi_Md_packet 150 my_Md_packet 4 := ⟨⟨wd_789, wd_791, wp_43, wd_8, wd_792⟩, rfl, ⟨by decide, by decide, by decide +kernel⟩, ⟨rfl, rfl, by decide, by decide⟩⟩
theorem fl_Md_153 : zx_Fl "AddressClaimBusModel" 153 7 0 .int false := ⟨_, _, _, _, kc_Md, by decide, wd_580, rfl, rfl, rfl⟩
theorem cv_Md_start_144 : zx_CV mi_Md_start mi_Md_putClaim 144 my_Md_putClaim 1 := ⟨⟨wd_731, wd_733, wp_30, wd_8, wd_734⟩, rfl, ⟨by decide, by decide, by decide +kernel⟩, ⟨rfl, rfl, by decide, by decide⟩⟩
theorem cv_Md_stop_156 : zx_CV mi_Md_stop mi_Md_on 156 my_Md_on 1 := ⟨⟨wd_809, wd_811, wp_46, wd_8, wd_812⟩, rfl, ⟨by decide, by decide, by decide +kernel⟩, ⟨rfl, rfl, by decide, by decide⟩⟩
theorem cv_Md_stop_132 : zx_CV mi_Md_stop mi_Md_takeAway 132 my_Md_takeAway 1 := ⟨⟨wd_704, wd_706, wp_26, wd_8, wd_707⟩, rfl, ⟨by decide, by decide, by decide +kernel⟩, ⟨rfl, rfl, by decide, by decide⟩⟩
theorem cv_Md_address_156 : zx_CV mi_Md_address mi_Md_on 156 my_Md_on 1 := ⟨⟨wd_809, wd_811, wp_46, wd_8, wd_812⟩, rfl, ⟨by decide, by decide, by decide +kernel⟩, ⟨rfl, rfl, by decide, by decide⟩⟩
theorem cv_Md_address_112 : zx_CV mi_Md_address mi_Md_source 112 my_Md_source 1 := ⟨⟨wd_739, wd_741, wp_32, wd_8, wd_742⟩, rfl, ⟨by decide, by decide, by decide +kernel⟩, ⟨rfl, rfl, by decide, by decide⟩⟩
theorem cv_Md_noted_156 : zx_CV mi_Md_noted mi_Md_on 156 my_Md_on 1 := ⟨⟨wd_809, wd_811, wp_46, wd_8, wd_812⟩, rfl, ⟨by decide, by decide, by decide +kernel⟩, ⟨rfl, rfl, by decide, by decide⟩⟩
theorem cv_Md_request_156 : zx_CV mi_Md_request mi_Md_on 156 my_Md_on 1 := ⟨⟨wd_809, wd_811, wp_46, wd_8, wd_812⟩, rfl, ⟨by decide, by decide, by decide +kernel⟩, ⟨rfl, rfl, by decide, by decide⟩⟩
theorem kk_Md_160 : Cond.constantLong "AddressClaimBusModel" 160 (lN 60928) ∈ zx_T := wd_833
theorem cv_Md_request_116 : zx_CV mi_Md_request mi_Md_put 116 my_Md_put 5 := ⟨⟨wd_735, wd_737, wp_31, wd_8, wd_738⟩, rfl, ⟨by decide, by decide, by decide +kernel⟩, ⟨rfl, rfl, by decide, by decide⟩⟩
theorem cs_Md_claimed_162 : zx_CS mi_Md_claimed mi_Md_below 162 my_Md_below 2 := ⟨⟨wd_724, wd_725, wd_8, wd_726⟩, rfl, ⟨by decide, by decide, by decide +kernel⟩, ⟨rfl, rfl, by decide, by decide⟩⟩
theorem cv_Md_claimed_166 : zx_CV mi_Md_claimed mi_Md_spare 166 my_Md_spare 1 := ⟨⟨wd_727, wd_729, wp_29, wd_8, wd_730⟩, rfl, ⟨by decide, by decide, by decide +kernel⟩, ⟨rfl, rfl, by decide, by decide⟩⟩
theorem cv_Md_claimed_144 : zx_CV mi_Md_claimed mi_Md_putClaim 144 my_Md_putClaim 1 := ⟨⟨wd_731, wd_733, wp_30, wd_8, wd_734⟩, rfl, ⟨by decide, by decide, by decide +kernel⟩, ⟨rfl, rfl, by decide, by decide⟩⟩
theorem cv_Md_send_156 : zx_CV mi_Md_send mi_Md_on 156 my_Md_on 1 := ⟨⟨wd_809, wd_811, wp_46, wd_8, wd_812⟩, rfl, ⟨by decide, by decide, by decide +kernel⟩, ⟨rfl, rfl, by decide, by decide⟩⟩
theorem kk_Md_169 : Cond.constant "AddressClaimBusModel" 169 (nI 262143) ∈ zx_T := wd_838
theorem cs_Md_send_170 : zx_CS mi_Md_send mi_Md_packets 170 my_Md_packets 1 := ⟨⟨wd_774, wd_775, wd_8, wd_776⟩, rfl, ⟨by decide, by decide, by decide +kernel⟩, ⟨rfl, rfl, by decide, by decide⟩⟩
theorem cv_Md_send_122 : zx_CV mi_Md_send mi_Md_putControl 122 my_Md_putControl 7 := ⟨⟨wd_765, wd_767, wp_38, wd_8, wd_768⟩, rfl, ⟨by decide, by decide, by decide +kernel⟩, ⟨rfl, rfl, by decide, by decide⟩⟩
theorem kk_Md_173 : Cond.constantLong "AddressClaimBusModel" 173 (lN 16777215) ∈ zx_T := wd_748
theorem cv_Md_control_175 : zx_CV mi_Md_control mi_Md_find 175 my_Md_find 3 := ⟨⟨wd_749, wd_751, wp_34, wd_8, wd_752⟩, rfl, ⟨by decide, by decide, by decide +kernel⟩, ⟨rfl, rfl, by decide, by decide⟩⟩
theorem cv_Md_control_179 : zx_CV mi_Md_control mi_Md_opened 179 my_Md_opened 5 := ⟨⟨wd_753, wd_755, wp_35, wd_8, wd_756⟩, rfl, ⟨by decide, by decide, by decide +kernel⟩, ⟨rfl, rfl, by decide, by decide⟩⟩
theorem cv_Md_control_183 : zx_CV mi_Md_control mi_Md_granted 183 my_Md_granted 3 := ⟨⟨wd_777, wd_779, wp_40, wd_8, wd_780⟩, rfl, ⟨by decide, by decide, by decide +kernel⟩, ⟨rfl, rfl, by decide, by decide⟩⟩
theorem cv_Md_control_187 : zx_CV mi_Md_control mi_Md_finish 187 my_Md_finish 2 := ⟨⟨wd_785, wd_787, wp_42, wd_8, wd_788⟩, rfl, ⟨by decide, by decide, by decide +kernel⟩, ⟨rfl, rfl, by decide, by decide⟩⟩
theorem cv_Md_control_191 : zx_CV mi_Md_control mi_Md_close 191 my_Md_close 2 := ⟨⟨wd_757, wd_759, wp_36, wd_8, wd_760⟩, rfl, ⟨by decide, by decide, by decide +kernel⟩, ⟨rfl, rfl, by decide, by decide⟩⟩
theorem cs_Md_granted_170 : zx_CS mi_Md_granted mi_Md_packets 170 my_Md_packets 1 := ⟨⟨wd_774, wd_775, wd_8, wd_776⟩, rfl, ⟨by decide, by decide, by decide +kernel⟩, ⟨rfl, rfl, by decide, by decide⟩⟩
theorem cv_Md_granted_194 : zx_CV mi_Md_granted mi_Md_putPacket 194 my_Md_putPacket 2 := ⟨⟨wd_781, wd_783, wp_41, wd_8, wd_784⟩, rfl, ⟨by decide, by decide, by decide +kernel⟩, ⟨rfl, rfl, by decide, by decide⟩⟩
theorem cv_Md_opened_175 : zx_CV mi_Md_opened mi_Md_find 175 my_Md_find 3 := ⟨⟨wd_749, wd_751, wp_34, wd_8, wd_752⟩, rfl, ⟨by decide, by decide, by decide +kernel⟩, ⟨rfl, rfl, by decide, by decide⟩⟩
theorem cv_Md_opened_191 : zx_CV mi_Md_opened mi_Md_close 191 my_Md_close 2 := ⟨⟨wd_757, wd_759, wp_36, wd_8, wd_760⟩, rfl, ⟨by decide, by decide, by decide +kernel⟩, ⟨rfl, rfl, by decide, by decide⟩⟩
theorem cv_Md_opened_197 : zx_CV mi_Md_opened mi_Md_putAbort 197 my_Md_putAbort 4 := ⟨⟨wd_761, wd_763, wp_37, wd_8, wd_764⟩, rfl, ⟨by decide, by decide, by decide +kernel⟩, ⟨rfl, rfl, by decide, by decide⟩⟩
theorem cv_Md_opened_201 : zx_CV mi_Md_opened mi_Md_grant 201 my_Md_grant 2 := ⟨⟨wd_770, wd_772, wp_39, wd_8, wd_773⟩, rfl, ⟨by decide, by decide, by decide +kernel⟩, ⟨rfl, rfl, by decide, by decide⟩⟩
theorem cs_Md_grant_170 : zx_CS mi_Md_grant mi_Md_packets 170 my_Md_packets 1 := ⟨⟨wd_774, wd_775, wd_8, wd_776⟩, rfl, ⟨by decide, by decide, by decide +kernel⟩, ⟨rfl, rfl, by decide, by decide⟩⟩
theorem cv_Md_grant_122 : zx_CV mi_Md_grant mi_Md_putControl 122 my_Md_putControl 7 := ⟨⟨wd_765, wd_767, wp_38, wd_8, wd_768⟩, rfl, ⟨by decide, by decide, by decide +kernel⟩, ⟨rfl, rfl, by decide, by decide⟩⟩
theorem cv_Md_askAgain_201 : zx_CV mi_Md_askAgain mi_Md_grant 201 my_Md_grant 2 := ⟨⟨wd_770, wd_772, wp_39, wd_8, wd_773⟩, rfl, ⟨by decide, by decide, by decide +kernel⟩, ⟨rfl, rfl, by decide, by decide⟩⟩
theorem cv_Md_askAgain_197 : zx_CV mi_Md_askAgain mi_Md_putAbort 197 my_Md_putAbort 4 := ⟨⟨wd_761, wd_763, wp_37, wd_8, wd_764⟩, rfl, ⟨by decide, by decide, by decide +kernel⟩, ⟨rfl, rfl, by decide, by decide⟩⟩
theorem cv_Md_askAgain_191 : zx_CV mi_Md_askAgain mi_Md_close 191 my_Md_close 2 := ⟨⟨wd_757, wd_759, wp_36, wd_8, wd_760⟩, rfl, ⟨by decide, by decide, by decide +kernel⟩, ⟨rfl, rfl, by decide, by decide⟩⟩
theorem cv_Md_packet_175 : zx_CV mi_Md_packet mi_Md_find 175 my_Md_find 3 := ⟨⟨wd_749, wd_751, wp_34, wd_8, wd_752⟩, rfl, ⟨by decide, by decide, by decide +kernel⟩, ⟨rfl, rfl, by decide, by decide⟩⟩
theorem cv_Md_packet_204 : zx_CV mi_Md_packet mi_Md_keep 204 my_Md_keep 4 := ⟨⟨wd_793, wd_795, wp_44, wd_8, wd_796⟩, rfl, ⟨by decide, by decide, by decide +kernel⟩, ⟨rfl, rfl, by decide, by decide⟩⟩
theorem cv_Md_packet_191 : zx_CV mi_Md_packet mi_Md_close 191 my_Md_close 2 := ⟨⟨wd_757, wd_759, wp_36, wd_8, wd_760⟩, rfl, ⟨by decide, by decide, by decide +kernel⟩, ⟨rfl, rfl, by decide, by decide⟩⟩
theorem cv_Md_packet_207 : zx_CV mi_Md_packet mi_Md_askAgain 207 my_Md_askAgain 3 := ⟨⟨wd_797, wd_799, wp_45, wd_8, wd_800⟩, rfl, ⟨by decide, by decide, by decide +kernel⟩, ⟨rfl, rfl, by decide, by decide⟩⟩
theorem cs_Md_keep_170 : zx_CS mi_Md_keep mi_Md_packets 170 my_Md_packets 1 := ⟨⟨wd_774, wd_775, wd_8, wd_776⟩, rfl, ⟨by decide, by decide, by decide +kernel⟩, ⟨rfl, rfl, by decide, by decide⟩⟩
theorem cv_Md_keep_201 : zx_CV mi_Md_keep mi_Md_grant 201 my_Md_grant 2 := ⟨⟨wd_770, wd_772, wp_39, wd_8, wd_773⟩, rfl, ⟨by decide, by decide, by decide +kernel⟩, ⟨rfl, rfl, by decide, by decide⟩⟩
theorem cv_Md_keep_122 : zx_CV mi_Md_keep mi_Md_putControl 122 my_Md_putControl 7 := ⟨⟨wd_765, wd_767, wp_38, wd_8, wd_768⟩, rfl, ⟨by decide, by decide, by decide +kernel⟩, ⟨rfl, rfl, by decide, by decide⟩⟩
theorem cv_Md_keep_191 : zx_CV mi_Md_keep mi_Md_close 191 my_Md_close 2 := ⟨⟨wd_757, wd_759, wp_36, wd_8, wd_760⟩, rfl, ⟨by decide, by decide, by decide +kernel⟩, ⟨rfl, rfl, by decide, by decide⟩⟩
theorem cv_Md_goOff_210 : zx_CV mi_Md_goOff mi_Md_outgoingOff 210 my_Md_outgoingOff 1 := ⟨⟨wd_851, wd_853, wp_49, wd_8, wd_854⟩, rfl, ⟨by decide, by decide, by decide +kernel⟩, ⟨rfl, rfl, by decide, by decide⟩⟩
theorem cv_Md_goOff_191 : zx_CV mi_Md_goOff mi_Md_close 191 my_Md_close 2 := ⟨⟨wd_757, wd_759, wp_36, wd_8, wd_760⟩, rfl, ⟨by decide, by decide, by decide +kernel⟩, ⟨rfl, rfl, by decide, by decide⟩⟩
theorem cv_Md_goOff_201 : zx_CV mi_Md_goOff mi_Md_grant 201 my_Md_grant 2 := ⟨⟨wd_770, wd_772, wp_39, wd_8, wd_773⟩, rfl, ⟨by decide, by decide, by decide +kernel⟩, ⟨rfl, rfl, by decide, by decide⟩⟩
theorem cv_Md_goOff_207 : zx_CV mi_Md_goOff mi_Md_askAgain 207 my_Md_askAgain 3 := ⟨⟨wd_797, wd_799, wp_45, wd_8, wd_800⟩, rfl, ⟨by decide, by decide, by decide +kernel⟩, ⟨rfl, rfl, by decide, by decide⟩⟩
theorem cv_Md_outgoingOff_197 : zx_CV mi_Md_outgoingOff mi_Md_putAbort 197 my_Md_putAbort 4 := ⟨⟨wd_761, wd_763, wp_37, wd_8, wd_764⟩, rfl, ⟨by decide, by decide, by decide +kernel⟩, ⟨rfl, rfl, by decide, by decide⟩⟩
theorem cv_Md_outgoingOff_187 : zx_CV mi_Md_outgoingOff mi_Md_finish 187 my_Md_finish 2 := ⟨⟨wd_785, wd_787, wp_42, wd_8, wd_788⟩, rfl, ⟨by decide, by decide, by decide +kernel⟩, ⟨rfl, rfl, by decide, by decide⟩⟩
theorem cv_Md_outgoingOff_194 : zx_CV mi_Md_outgoingOff mi_Md_putPacket 194 my_Md_putPacket 2 := ⟨⟨wd_781, wd_783, wp_41, wd_8, wd_784⟩, rfl, ⟨by decide, by decide, by decide +kernel⟩, ⟨rfl, rfl, by decide, by decide⟩⟩
theorem cs_Md_outgoingOff_170 : zx_CS mi_Md_outgoingOff mi_Md_packets 170 my_Md_packets 1 := ⟨⟨wd_774, wd_775, wd_8, wd_776⟩, rfl, ⟨by decide, by decide, by decide +kernel⟩, ⟨rfl, rfl, by decide, by decide⟩⟩
theorem cv_Md_tick_213 : zx_CV mi_Md_tick mi_Md_due 213 my_Md_due 1 := ⟨⟨wd_843, wd_845, wp_47, wd_8, wd_846⟩, rfl, ⟨by decide, by decide, by decide +kernel⟩, ⟨rfl, rfl, by decide, by decide⟩⟩
theorem cv_Md_tick_216 : zx_CV mi_Md_tick mi_Md_goOff 216 my_Md_goOff 1 := ⟨⟨wd_847, wd_849, wp_48, wd_8, wd_850⟩, rfl, ⟨by decide, by decide, by decide +kernel⟩, ⟨rfl, rfl, by decide, by decide⟩⟩
theorem cv_Md_outgoing_156 : zx_CV mi_Md_outgoing mi_Md_on 156 my_Md_on 1 := ⟨⟨wd_809, wd_811, wp_46, wd_8, wd_812⟩, rfl, ⟨by decide, by decide, by decide +kernel⟩, ⟨rfl, rfl, by decide, by decide⟩⟩
theorem cv_Md_incoming_156 : zx_CV mi_Md_incoming mi_Md_on 156 my_Md_on 1 := ⟨⟨wd_809, wd_811, wp_46, wd_8, wd_812⟩, rfl, ⟨by decide, by decide, by decide +kernel⟩, ⟨rfl, rfl, by decide, by decide⟩⟩
theorem cv_Md_delivered_156 : zx_CV mi_Md_delivered mi_Md_on 156 my_Md_on 1 := ⟨⟨wd_809, wd_811, wp_46, wd_8, wd_812⟩, rfl, ⟨by decide, by decide, by decide +kernel⟩, ⟨rfl, rfl, by decide, by decide⟩⟩
theorem cv_Md_message_156 : zx_CV mi_Md_message mi_Md_on 156 my_Md_on 1 := ⟨⟨wd_809, wd_811, wp_46, wd_8, wd_812⟩, rfl, ⟨by decide, by decide, by decide +kernel⟩, ⟨rfl, rfl, by decide, by decide⟩⟩
theorem cv_Md_byteOf_156 : zx_CV mi_Md_byteOf mi_Md_on 156 my_Md_on 1 := ⟨⟨wd_809, wd_811, wp_46, wd_8, wd_812⟩, rfl, ⟨by decide, by decide, by decide +kernel⟩, ⟨rfl, rfl, by decide, by decide⟩⟩
theorem cw_Bu_obj : Cond.methodLink "AddressClaimBus$Bus" 3 objectInit ∈ zx_T ∧ Cond.instanceMethod objectInit ∈ zx_T ∧ Cond.code objectInit ⟨#[0xb1]⟩ 1 none ∈ zx_T := ⟨wd_23, wd_16, wd_17⟩
theorem fl_Bu_9 : zx_Fl "AddressClaimBus$Bus" 9 0 0 (.array .int) true := ⟨_, _, _, _, kc_Bu, by decide, wd_24, rfl, rfl, rfl⟩
theorem fl_Bu_15 : zx_Fl "AddressClaimBus$Bus" 15 0 1 (.array .long) true := ⟨_, _, _, _, kc_Bu, by decide, wd_26, rfl, rfl, rfl⟩
theorem fl_Bu_19 : zx_Fl "AddressClaimBus$Bus" 19 0 2 (.array .int) true := ⟨_, _, _, _, kc_Bu, by decide, wd_28, rfl, rfl, rfl⟩
theorem fl_Bu_22 : zx_Fl "AddressClaimBus$Bus" 22 0 3 .int false := ⟨_, _, _, _, kc_Bu, by decide, wd_30, rfl, rfl, rfl⟩
theorem fl_Bu_26 : zx_Fl "AddressClaimBus$Bus" 26 0 4 .int false := ⟨_, _, _, _, kc_Bu, by decide, wd_32, rfl, rfl, rfl⟩
theorem fl_Bu_29 : zx_Fl "AddressClaimBus$Bus" 29 5 1 .int false := ⟨_, _, _, _, kc_St, by decide, wd_65, rfl, rfl, rfl⟩
theorem fl_Bu_34 : zx_Fl "AddressClaimBus$Bus" 34 5 0 .int true := ⟨_, _, _, _, kc_St, by decide, wd_63, rfl, rfl, rfl⟩
theorem cv_Bu_takeAway_37 : zx_CV mi_Bu_takeAway mi_Bu_move 37 my_Bu_move 2 := ⟨⟨wd_300, wd_302, wp_6, wd_2, wd_303⟩, rfl, ⟨by decide, by decide, by decide +kernel⟩, ⟨rfl, rfl, by decide, by decide⟩⟩
theorem cv_Bu_takeAwayFramesOf_37 : zx_CV mi_Bu_takeAwayFramesOf mi_Bu_move 37 my_Bu_move 2 := ⟨⟨wd_300, wd_302, wp_6, wd_2, wd_303⟩, rfl, ⟨by decide, by decide, by decide +kernel⟩, ⟨rfl, rfl, by decide, by decide⟩⟩
theorem cw_Fu_obj : Cond.methodLink "AddressClaimBus$Function" 3 objectInit ∈ zx_T ∧ Cond.instanceMethod objectInit ∈ zx_T ∧ Cond.code objectInit ⟨#[0xb1]⟩ 1 none ∈ zx_T := ⟨wd_80, wd_16, wd_17⟩
theorem fl_Fu_9 : zx_Fl "AddressClaimBus$Function" 9 1 2 (.array .int) true := ⟨_, _, _, _, kc_Fu, by decide, wd_200, rfl, rfl, rfl⟩
theorem na_Fu_15 : Cond.classLink "AddressClaimBus$Function" 15 "AddressClaimBus$Incoming" ∈ zx_T ∧ "AddressClaimBus$Incoming" ∈ zx_AO := ⟨wd_81, by decide⟩
theorem fl_Fu_17 : zx_Fl "AddressClaimBus$Function" 17 1 4 (.array (.object "AddressClaimBus$Incoming")) true := ⟨_, _, _, _, kc_Fu, by decide, wd_204, rfl, rfl, rfl⟩
theorem nw_Fu_21 : Cond.classLink "AddressClaimBus$Function" 21 "AddressClaimBus$Message" ∈ zx_T ∧ Cond.instantiable "AddressClaimBus$Message" 5 ∈ zx_T ∧ Cond.initialized "AddressClaimBus$Message" ∈ zx_T := ⟨wd_83, wd_84, wd_5⟩
theorem ci_Fu_init_23 : zx_CJ mi_Fu_init mi_Ms_init 23 my_Ms_init 0 := ⟨⟨List.mem_of_getElem? (i := 1) rfl, wd_86, wd_5, wd_87⟩, rfl, rfl, ⟨by decide, by decide, by decide +kernel⟩, ⟨rfl, rfl, by decide, by decide⟩⟩
theorem fl_Fu_24 : zx_Fl "AddressClaimBus$Function" 24 1 5 (.object "AddressClaimBus$Message") true := ⟨_, _, _, _, kc_Fu, by decide, wd_205, rfl, rfl, rfl⟩
theorem fl_Fu_28 : zx_Fl "AddressClaimBus$Function" 28 1 7 .int false := ⟨_, _, _, _, kc_Fu, by decide, wd_209, rfl, rfl, rfl⟩
theorem kk_Fu_32 : Cond.constantLong "AddressClaimBus$Function" 32 (lN 9223372036854775807) ∈ zx_T := wd_114
theorem fl_Fu_34 : zx_Fl "AddressClaimBus$Function" 34 1 9 .long false := ⟨_, _, _, _, kc_Fu, by decide, wd_213, rfl, rfl, rfl⟩
theorem fl_Fu_38 : zx_Fl "AddressClaimBus$Function" 38 1 0 (.object "AddressClaimBus$Bus") true := ⟨_, _, _, _, kc_Fu, by decide, wd_197, rfl, rfl, rfl⟩
theorem fl_Fu_42 : zx_Fl "AddressClaimBus$Function" 42 1 1 (.object "AddressClaimBus$Station") true := ⟨_, _, _, _, kc_Fu, by decide, wd_198, rfl, rfl, rfl⟩
theorem nw_Fu_46 : Cond.classLink "AddressClaimBus$Function" 46 "AddressClaimBus$Outgoing" ∈ zx_T ∧ Cond.instantiable "AddressClaimBus$Outgoing" 10 ∈ zx_T ∧ Cond.initialized "AddressClaimBus$Outgoing" ∈ zx_T := ⟨wd_115, wd_116, wd_6⟩
theorem ci_Fu_init_48 : zx_CI mi_Fu_init mi_Ou_init 48 my_Ou_init 2 := ⟨⟨wd_117, wd_118, wd_6, wd_119⟩, rfl, rfl, ⟨by decide, by decide, by decide +kernel⟩, ⟨rfl, rfl, by decide, by decide⟩⟩
theorem fl_Fu_51 : zx_Fl "AddressClaimBus$Function" 51 1 3 (.object "AddressClaimBus$Outgoing") true := ⟨_, _, _, _, kc_Fu, by decide, wd_202, rfl, rfl, rfl⟩
theorem nw_Fu_15 : Cond.classLink "AddressClaimBus$Function" 15 "AddressClaimBus$Incoming" ∈ zx_T ∧ Cond.instantiable "AddressClaimBus$Incoming" 9 ∈ zx_T ∧ Cond.initialized "AddressClaimBus$Incoming" ∈ zx_T := ⟨wd_81, wd_158, wd_7⟩
theorem ci_Fu_init_55 : zx_CI mi_Fu_init mi_In_init 55 my_In_init 2 := ⟨⟨wd_159, wd_160, wd_7, wd_161⟩, rfl, rfl, ⟨by decide, by decide, by decide +kernel⟩, ⟨rfl, rfl, by decide, by decide⟩⟩
theorem fl_Fu_56 : zx_Fl "AddressClaimBus$Function" 56 1 8 .long false := ⟨_, _, _, _, kc_Fu, by decide, wd_211, rfl, rfl, rfl⟩
theorem fl_Fu_59 : zx_Fl "AddressClaimBus$Function" 59 4 3 .int false := ⟨_, _, _, _, kc_Ou, by decide, wd_127, rfl, rfl, rfl⟩
theorem fl_Fu_62 : zx_Fl "AddressClaimBus$Function" 62 1 6 .int false := ⟨_, _, _, _, kc_Fu, by decide, wd_207, rfl, rfl, rfl⟩
theorem cv_Fu_switchOn_65 : zx_CV mi_Fu_switchOn mi_Fu_claim 65 my_Fu_claim 1 := ⟨⟨wd_262, wd_264, wp_3, wd_3, wd_265⟩, rfl, ⟨by decide, by decide, by decide +kernel⟩, ⟨rfl, rfl, by decide, by decide⟩⟩
theorem cv_Fu_switchOff_69 : zx_CV mi_Fu_switchOff mi_Fu_endSessions 69 my_Fu_endSessions 0 := ⟨⟨wd_284, wd_286, wp_5, wd_3, wd_287⟩, rfl, ⟨by decide, by decide, by decide +kernel⟩, ⟨rfl, rfl, by decide, by decide⟩⟩
theorem fl_Fu_72 : zx_Fl "AddressClaimBus$Function" 72 5 0 .int true := ⟨_, _, _, _, kc_St, by decide, wd_64, rfl, rfl, rfl⟩
theorem cv_Fu_switchOff_77 : zx_CV mi_Fu_switchOff mi_Bu_takeAwayFramesOf 77 my_Bu_takeAwayFramesOf 1 := ⟨⟨wd_296, wd_297, wd_298, wd_2, wd_299⟩, rfl, ⟨by decide, by decide, by decide +kernel⟩, ⟨rfl, rfl, by decide, by decide⟩⟩
theorem fl_Fu_82 : zx_Fl "AddressClaimBus$Function" 82 5 1 .int false := ⟨_, _, _, _, kc_St, by decide, wd_66, rfl, rfl, rfl⟩
theorem fl_Fu_85 : zx_Fl "AddressClaimBus$Function" 85 4 2 .int false := ⟨_, _, _, _, kc_Ou, by decide, wd_125, rfl, rfl, rfl⟩
theorem fl_Fu_88 : zx_Fl "AddressClaimBus$Function" 88 2 3 .boolean false := ⟨_, _, _, _, kc_In, by decide, wd_171, rfl, rfl, rfl⟩
theorem cv_Fu_reach_92 : zx_CV mi_Fu_reach mi_Fu_takeClaim 92 my_Fu_takeClaim 3 := ⟨⟨wd_380, wd_382, wp_7, wd_3, wd_383⟩, rfl, ⟨by decide, by decide, by decide +kernel⟩, ⟨rfl, rfl, by decide, by decide⟩⟩
theorem cv_Fu_reach_96 : zx_CV mi_Fu_reach mi_Fu_sendClaim 96 my_Fu_sendClaim 0 := ⟨⟨wd_267, wd_269, wp_4, wd_3, wd_270⟩, rfl, ⟨by decide, by decide, by decide +kernel⟩, ⟨rfl, rfl, by decide, by decide⟩⟩
theorem cv_Fu_reach_99 : zx_CV mi_Fu_reach mi_Fu_takeControl 99 my_Fu_takeControl 2 := ⟨⟨wd_401, wd_403, wp_12, wd_3, wd_404⟩, rfl, ⟨by decide, by decide, by decide +kernel⟩, ⟨rfl, rfl, by decide, by decide⟩⟩
theorem cv_Fu_reach_103 : zx_CV mi_Fu_reach mi_Fu_takePacket 103 my_Fu_takePacket 3 := ⟨⟨wd_466, wd_468, wp_18, wd_3, wd_469⟩, rfl, ⟨by decide, by decide, by decide +kernel⟩, ⟨rfl, rfl, by decide, by decide⟩⟩
theorem fl_Fu_107 : zx_Fl "AddressClaimBus$Function" 107 4 9 .long false := ⟨_, _, _, _, kc_Ou, by decide, wd_136, rfl, rfl, rfl⟩
theorem cw_Fu_110 : Cond.methodLink "AddressClaimBus$Function" 110 Lib.MathLoose.min_long.x ∈ zx_T ∧ Cond.static Lib.MathLoose.min_long.x ∈ zx_T ∧ Cond.initialized "java/lang/Math" ∈ zx_T ∧ Cond.code Lib.MathLoose.min_long.x Lib.MathLoose.min_long.code 4 (some .long) ∈ zx_T := ⟨wd_522, wd_523, wd_9, wd_524⟩
theorem fl_Fu_116 : zx_Fl "AddressClaimBus$Function" 116 2 8 .long false := ⟨_, _, _, _, kc_In, by decide, wd_177, rfl, rfl, rfl⟩
theorem fl_Fu_117 : zx_Fl "AddressClaimBus$Function" 117 0 5 .long false := ⟨_, _, _, _, kc_Bu, by decide, wd_36, rfl, rfl, rfl⟩
theorem cv_Fu_goOff_120 : zx_CV mi_Fu_goOff mi_Ou_goOff 120 my_Ou_goOff 0 := ⟨⟨wd_529, wd_530, wd_531, wd_6, wd_532⟩, rfl, ⟨by decide, by decide, by decide +kernel⟩, ⟨rfl, rfl, by decide, by decide⟩⟩
theorem cv_Fu_goOff_123 : zx_CV mi_Fu_goOff mi_In_goOff 123 my_In_goOff 0 := ⟨⟨wd_540, wd_541, wd_542, wd_7, wd_543⟩, rfl, ⟨by decide, by decide, by decide +kernel⟩, ⟨rfl, rfl, by decide, by decide⟩⟩
theorem kk_Fu_124 : Cond.constantLong "AddressClaimBus$Function" 124 (lN 250) ∈ zx_T := wd_266
theorem cv_Fu_claim_96 : zx_CV mi_Fu_claim mi_Fu_sendClaim 96 my_Fu_sendClaim 0 := ⟨⟨wd_267, wd_269, wp_4, wd_3, wd_270⟩, rfl, ⟨by decide, by decide, by decide +kernel⟩, ⟨rfl, rfl, by decide, by decide⟩⟩
theorem kk_Fu_126 : Cond.constant "AddressClaimBus$Function" 126 (nI 418250752) ∈ zx_T := wd_271
theorem cv_Fu_sendClaim_127 : zx_CV mi_Fu_sendClaim mi_Bu_put 127 my_Bu_put 4 := ⟨⟨wd_272, wd_273, wd_274, wd_2, wd_275⟩, rfl, ⟨by decide, by decide, by decide +kernel⟩, ⟨rfl, rfl, by decide, by decide⟩⟩
theorem cv_Fu_takeClaim_131 : zx_CV mi_Fu_takeClaim mi_Fu_isNameLessThan 131 my_Fu_isNameLessThan 1 := ⟨⟨wd_384, wd_386, wp_8, wd_3, wd_387⟩, rfl, ⟨by decide, by decide, by decide +kernel⟩, ⟨rfl, rfl, by decide, by decide⟩⟩
theorem cv_Fu_takeClaim_135 : zx_CV mi_Fu_takeClaim mi_Fu_loseAddress 135 my_Fu_loseAddress 0 := ⟨⟨wd_389, wd_391, wp_9, wd_3, wd_392⟩, rfl, ⟨by decide, by decide, by decide +kernel⟩, ⟨rfl, rfl, by decide, by decide⟩⟩
theorem cv_Fu_takeClaim_96 : zx_CV mi_Fu_takeClaim mi_Fu_sendClaim 96 my_Fu_sendClaim 0 := ⟨⟨wd_267, wd_269, wp_4, wd_3, wd_270⟩, rfl, ⟨by decide, by decide, by decide +kernel⟩, ⟨rfl, rfl, by decide, by decide⟩⟩
theorem kk_Fu_138 : Cond.constantLong "AddressClaimBus$Function" 138 (-9223372036854775808) ∈ zx_T := wd_388
theorem cv_Fu_loseAddress_69 : zx_CV mi_Fu_loseAddress mi_Fu_endSessions 69 my_Fu_endSessions 0 := ⟨⟨wd_284, wd_286, wp_5, wd_3, wd_287⟩, rfl, ⟨by decide, by decide, by decide +kernel⟩, ⟨rfl, rfl, by decide, by decide⟩⟩
theorem cv_Fu_loseAddress_140 : zx_CV mi_Fu_loseAddress mi_Fu_spareAddress 140 my_Fu_spareAddress 0 := ⟨⟨wd_393, wd_395, wp_10, wd_3, wd_396⟩, rfl, ⟨by decide, by decide, by decide +kernel⟩, ⟨rfl, rfl, by decide, by decide⟩⟩
theorem cv_Fu_loseAddress_65 : zx_CV mi_Fu_loseAddress mi_Fu_claim 65 my_Fu_claim 1 := ⟨⟨wd_262, wd_264, wp_3, wd_3, wd_265⟩, rfl, ⟨by decide, by decide, by decide +kernel⟩, ⟨rfl, rfl, by decide, by decide⟩⟩
theorem cv_Fu_loseAddress_96 : zx_CV mi_Fu_loseAddress mi_Fu_sendClaim 96 my_Fu_sendClaim 0 := ⟨⟨wd_267, wd_269, wp_4, wd_3, wd_270⟩, rfl, ⟨by decide, by decide, by decide +kernel⟩, ⟨rfl, rfl, by decide, by decide⟩⟩
theorem cv_Fu_spareAddress_144 : zx_CV mi_Fu_spareAddress mi_Fu_isNoted 144 my_Fu_isNoted 1 := ⟨⟨wd_397, wd_399, wp_11, wd_3, wd_400⟩, rfl, ⟨by decide, by decide, by decide +kernel⟩, ⟨rfl, rfl, by decide, by decide⟩⟩
theorem cv_Fu_endSessions_148 : zx_CV mi_Fu_endSessions mi_Ou_end 148 my_Ou_end 1 := ⟨⟨wd_288, wd_289, wd_290, wd_6, wd_291⟩, rfl, ⟨by decide, by decide, by decide +kernel⟩, ⟨rfl, rfl, by decide, by decide⟩⟩
theorem cv_Fu_endSessions_151 : zx_CV mi_Fu_endSessions mi_In_end 151 my_In_end 0 := ⟨⟨wd_292, wd_293, wd_294, wd_7, wd_295⟩, rfl, ⟨by decide, by decide, by decide +kernel⟩, ⟨rfl, rfl, by decide, by decide⟩⟩
theorem cs_Fu_takeControl_153 : zx_CN mi_Fu_takeControl mi_Ab_frameByte 153 my_Ab_frameByte 2 := ⟨⟨List.mem_of_getElem? (i := 2) rfl, wd_406, wd_1, wd_407⟩, ⟨by decide, by decide, by decide +kernel⟩, ⟨rfl, rfl, by decide, by decide⟩⟩
theorem cv_Fu_takeControl_157 : zx_CV mi_Fu_takeControl mi_Ou_isWith 157 my_Ou_isWith 2 := ⟨⟨wd_408, wd_409, wd_410, wd_6, wd_411⟩, rfl, ⟨by decide, by decide, by decide +kernel⟩, ⟨rfl, rfl, by decide, by decide⟩⟩
theorem cv_Fu_takeControl_161 : zx_CV mi_Fu_takeControl mi_Fu_takeOpening 161 my_Fu_takeOpening 4 := ⟨⟨wd_412, wd_414, wp_13, wd_3, wd_415⟩, rfl, ⟨by decide, by decide, by decide +kernel⟩, ⟨rfl, rfl, by decide, by decide⟩⟩
theorem cv_Fu_takeControl_165 : zx_CV mi_Fu_takeControl mi_Ou_takeGrant 165 my_Ou_takeGrant 2 := ⟨⟨wd_448, wd_449, wd_450, wd_6, wd_451⟩, rfl, ⟨by decide, by decide, by decide +kernel⟩, ⟨rfl, rfl, by decide, by decide⟩⟩
theorem cv_Fu_takeControl_148 : zx_CV mi_Fu_takeControl mi_Ou_end 148 my_Ou_end 1 := ⟨⟨wd_288, wd_289, wd_290, wd_6, wd_291⟩, rfl, ⟨by decide, by decide, by decide +kernel⟩, ⟨rfl, rfl, by decide, by decide⟩⟩
theorem cv_Fu_takeControl_169 : zx_CV mi_Fu_takeControl mi_Fu_abortIncoming 169 my_Fu_abortIncoming 2 := ⟨⟨wd_462, wd_464, wp_17, wd_3, wd_465⟩, rfl, ⟨by decide, by decide, by decide +kernel⟩, ⟨rfl, rfl, by decide, by decide⟩⟩
theorem cv_Fu_takeOpening_172 : zx_CV mi_Fu_takeOpening mi_In_isFrom 172 my_In_isFrom 2 := ⟨⟨wd_416, wd_417, wd_418, wd_7, wd_419⟩, rfl, ⟨by decide, by decide, by decide +kernel⟩, ⟨rfl, rfl, by decide, by decide⟩⟩
theorem cv_Fu_takeOpening_151 : zx_CV mi_Fu_takeOpening mi_In_end 151 my_In_end 0 := ⟨⟨wd_292, wd_293, wd_294, wd_7, wd_295⟩, rfl, ⟨by decide, by decide, by decide +kernel⟩, ⟨rfl, rfl, by decide, by decide⟩⟩
theorem cv_Fu_takeOpening_176 : zx_CV mi_Fu_takeOpening mi_Fu_countIncoming 176 my_Fu_countIncoming 0 := ⟨⟨wd_420, wd_421, wd_422, wd_3, wd_423⟩, rfl, ⟨by decide, by decide, by decide +kernel⟩, ⟨rfl, rfl, by decide, by decide⟩⟩
theorem cs_Fu_takeOpening_153 : zx_CN mi_Fu_takeOpening mi_Ab_frameByte 153 my_Ab_frameByte 2 := ⟨⟨List.mem_of_getElem? (i := 2) rfl, wd_406, wd_1, wd_407⟩, ⟨by decide, by decide, by decide +kernel⟩, ⟨rfl, rfl, by decide, by decide⟩⟩
theorem cv_Fu_takeOpening_179 : zx_CV mi_Fu_takeOpening mi_Fu_roomForIncoming 179 my_Fu_roomForIncoming 0 := ⟨⟨wd_424, wd_426, wp_14, wd_3, wd_427⟩, rfl, ⟨by decide, by decide, by decide +kernel⟩, ⟨rfl, rfl, by decide, by decide⟩⟩
theorem cv_Fu_takeOpening_183 : zx_CV mi_Fu_takeOpening mi_In_begin 183 my_In_begin 4 := ⟨⟨wd_428, wd_429, wd_430, wd_7, wd_431⟩, rfl, ⟨by decide, by decide, by decide +kernel⟩, ⟨rfl, rfl, by decide, by decide⟩⟩
theorem kk_Fu_187 : Cond.constant "AddressClaimBus$Function" 187 (nI 485228544) ∈ zx_T := wd_444
theorem cs_Fu_takeOpening_188 : zx_CN mi_Fu_takeOpening mi_Ab_abortData 188 my_Ab_abortData 2 := ⟨⟨List.mem_of_getElem? (i := 3) rfl, wd_446, wd_1, wd_447⟩, ⟨by decide, by decide, by decide +kernel⟩, ⟨rfl, rfl, by decide, by decide⟩⟩
theorem cv_Fu_takeOpening_127 : zx_CV mi_Fu_takeOpening mi_Bu_put 127 my_Bu_put 4 := ⟨⟨wd_272, wd_273, wd_274, wd_2, wd_275⟩, rfl, ⟨by decide, by decide, by decide +kernel⟩, ⟨rfl, rfl, by decide, by decide⟩⟩
theorem cv_Fu_abortIncoming_172 : zx_CV mi_Fu_abortIncoming mi_In_isFrom 172 my_In_isFrom 2 := ⟨⟨wd_416, wd_417, wd_418, wd_7, wd_419⟩, rfl, ⟨by decide, by decide, by decide +kernel⟩, ⟨rfl, rfl, by decide, by decide⟩⟩
theorem fl_Fu_192 : zx_Fl "AddressClaimBus$Function" 192 2 2 (.object "AddressClaimBus$Message") true := ⟨_, _, _, _, kc_In, by decide, wd_169, rfl, rfl, rfl⟩
theorem fl_Fu_195 : zx_Fl "AddressClaimBus$Function" 195 3 2 .int false := ⟨_, _, _, _, kc_Ms, by decide, wd_95, rfl, rfl, rfl⟩
theorem cv_Fu_abortIncoming_151 : zx_CV mi_Fu_abortIncoming mi_In_end 151 my_In_end 0 := ⟨⟨wd_292, wd_293, wd_294, wd_7, wd_295⟩, rfl, ⟨by decide, by decide, by decide +kernel⟩, ⟨rfl, rfl, by decide, by decide⟩⟩
theorem cv_Fu_takePacket_172 : zx_CV mi_Fu_takePacket mi_In_isFrom 172 my_In_isFrom 2 := ⟨⟨wd_416, wd_417, wd_418, wd_7, wd_419⟩, rfl, ⟨by decide, by decide, by decide +kernel⟩, ⟨rfl, rfl, by decide, by decide⟩⟩
theorem cv_Fu_takePacket_198 : zx_CV mi_Fu_takePacket mi_In_takeToAll 198 my_In_takeToAll 1 := ⟨⟨wd_470, wd_471, wd_472, wd_7, wd_473⟩, rfl, ⟨by decide, by decide, by decide +kernel⟩, ⟨rfl, rfl, by decide, by decide⟩⟩
theorem cv_Fu_takePacket_201 : zx_CV mi_Fu_takePacket mi_In_takeDirected 201 my_In_takeDirected 1 := ⟨⟨wd_488, wd_489, wd_490, wd_7, wd_491⟩, rfl, ⟨by decide, by decide, by decide +kernel⟩, ⟨rfl, rfl, by decide, by decide⟩⟩
theorem cv_Fu_takePacket_204 : zx_CV mi_Fu_takePacket mi_Ms_copy 204 my_Ms_copy 1 := ⟨⟨wd_498, wd_499, wd_500, wd_5, wd_501⟩, rfl, ⟨by decide, by decide, by decide +kernel⟩, ⟨rfl, rfl, by decide, by decide⟩⟩
theorem cw_In_obj : Cond.methodLink "AddressClaimBus$Incoming" 3 objectInit ∈ zx_T ∧ Cond.instanceMethod objectInit ∈ zx_T ∧ Cond.code objectInit ⟨#[0xb1]⟩ 1 none ∈ zx_T := ⟨wd_162, wd_16, wd_17⟩
theorem nw_In_9 : Cond.classLink "AddressClaimBus$Incoming" 9 "AddressClaimBus$Message" ∈ zx_T ∧ Cond.instantiable "AddressClaimBus$Message" 5 ∈ zx_T ∧ Cond.initialized "AddressClaimBus$Message" ∈ zx_T := ⟨wd_163, wd_84, wd_5⟩
theorem ci_In_init_11 : zx_CJ mi_In_init mi_Ms_init 11 my_Ms_init 0 := ⟨⟨List.mem_of_getElem? (i := 4) rfl, wd_86, wd_5, wd_87⟩, rfl, rfl, ⟨by decide, by decide, by decide +kernel⟩, ⟨rfl, rfl, by decide, by decide⟩⟩
theorem fl_In_12 : zx_Fl "AddressClaimBus$Incoming" 12 2 2 (.object "AddressClaimBus$Message") true := ⟨_, _, _, _, kc_In, by decide, wd_168, rfl, rfl, rfl⟩
theorem kk_In_18 : Cond.constantLong "AddressClaimBus$Incoming" 18 (lN 9223372036854775807) ∈ zx_T := wd_165
theorem fl_In_20 : zx_Fl "AddressClaimBus$Incoming" 20 2 8 .long false := ⟨_, _, _, _, kc_In, by decide, wd_176, rfl, rfl, rfl⟩
theorem fl_In_24 : zx_Fl "AddressClaimBus$Incoming" 24 2 0 (.object "AddressClaimBus$Bus") true := ⟨_, _, _, _, kc_In, by decide, wd_166, rfl, rfl, rfl⟩
theorem fl_In_28 : zx_Fl "AddressClaimBus$Incoming" 28 2 1 (.object "AddressClaimBus$Station") true := ⟨_, _, _, _, kc_In, by decide, wd_167, rfl, rfl, rfl⟩
theorem fl_In_32 : zx_Fl "AddressClaimBus$Incoming" 32 3 1 .int false := ⟨_, _, _, _, kc_Ms, by decide, wd_90, rfl, rfl, rfl⟩
theorem fl_In_36 : zx_Fl "AddressClaimBus$Incoming" 36 3 2 .int false := ⟨_, _, _, _, kc_Ms, by decide, wd_93, rfl, rfl, rfl⟩
theorem fl_In_39 : zx_Fl "AddressClaimBus$Incoming" 39 3 3 .int false := ⟨_, _, _, _, kc_Ms, by decide, wd_97, rfl, rfl, rfl⟩
theorem fl_In_42 : zx_Fl "AddressClaimBus$Incoming" 42 3 4 .boolean false := ⟨_, _, _, _, kc_Ms, by decide, wd_100, rfl, rfl, rfl⟩
theorem fl_In_46 : zx_Fl "AddressClaimBus$Incoming" 46 2 3 .boolean false := ⟨_, _, _, _, kc_In, by decide, wd_170, rfl, rfl, rfl⟩
theorem fl_In_49 : zx_Fl "AddressClaimBus$Incoming" 49 2 5 .int false := ⟨_, _, _, _, kc_In, by decide, wd_173, rfl, rfl, rfl⟩
theorem fl_In_52 : zx_Fl "AddressClaimBus$Incoming" 52 2 7 .int false := ⟨_, _, _, _, kc_In, by decide, wd_175, rfl, rfl, rfl⟩
theorem fl_In_55 : zx_Fl "AddressClaimBus$Incoming" 55 0 5 .long false := ⟨_, _, _, _, kc_Bu, by decide, wd_34, rfl, rfl, rfl⟩
theorem kk_In_60 : Cond.constantLong "AddressClaimBus$Incoming" 60 (lN 750) ∈ zx_T := wd_432
theorem cv_In_begin_62 : zx_CV mi_In_begin mi_In_grant 62 my_In_grant 0 := ⟨⟨wd_433, wd_435, wp_15, wd_7, wd_436⟩, rfl, ⟨by decide, by decide, by decide +kernel⟩, ⟨rfl, rfl, by decide, by decide⟩⟩
theorem cv_In_goOff_65 : zx_CV mi_In_goOff mi_In_end 65 my_In_end 0 := ⟨⟨wd_475, wd_293, wd_294, wd_7, wd_295⟩, rfl, ⟨by decide, by decide, by decide +kernel⟩, ⟨rfl, rfl, by decide, by decide⟩⟩
theorem fl_In_68 : zx_Fl "AddressClaimBus$Incoming" 68 2 4 .boolean false := ⟨_, _, _, _, kc_In, by decide, wd_172, rfl, rfl, rfl⟩
theorem cv_In_goOff_62 : zx_CV mi_In_goOff mi_In_grant 62 my_In_grant 0 := ⟨⟨wd_433, wd_435, wp_15, wd_7, wd_436⟩, rfl, ⟨by decide, by decide, by decide +kernel⟩, ⟨rfl, rfl, by decide, by decide⟩⟩
theorem cv_In_goOff_71 : zx_CV mi_In_goOff mi_In_askAgain 71 my_In_askAgain 1 := ⟨⟨wd_492, wd_494, wp_21, wd_7, wd_495⟩, rfl, ⟨by decide, by decide, by decide +kernel⟩, ⟨rfl, rfl, by decide, by decide⟩⟩
theorem cs_In_takeToAll_75 : zx_CN mi_In_takeToAll mi_Ab_frameByte 75 my_Ab_frameByte 2 := ⟨⟨List.mem_of_getElem? (i := 5) rfl, wd_406, wd_1, wd_407⟩, ⟨by decide, by decide, by decide +kernel⟩, ⟨rfl, rfl, by decide, by decide⟩⟩
theorem cv_In_takeToAll_65 : zx_CV mi_In_takeToAll mi_In_end 65 my_In_end 0 := ⟨⟨wd_475, wd_293, wd_294, wd_7, wd_295⟩, rfl, ⟨by decide, by decide, by decide +kernel⟩, ⟨rfl, rfl, by decide, by decide⟩⟩
theorem cv_In_takeToAll_79 : zx_CV mi_In_takeToAll mi_In_keepExpected 79 my_In_keepExpected 1 := ⟨⟨wd_476, wd_478, wp_19, wd_7, wd_479⟩, rfl, ⟨by decide, by decide, by decide +kernel⟩, ⟨rfl, rfl, by decide, by decide⟩⟩
theorem cv_In_takeToAll_83 : zx_CV mi_In_takeToAll mi_In_isWhole 83 my_In_isWhole 0 := ⟨⟨wd_484, wd_486, wp_20, wd_7, wd_487⟩, rfl, ⟨by decide, by decide, by decide +kernel⟩, ⟨rfl, rfl, by decide, by decide⟩⟩
theorem cs_In_takeDirected_75 : zx_CN mi_In_takeDirected mi_Ab_frameByte 75 my_Ab_frameByte 2 := ⟨⟨List.mem_of_getElem? (i := 5) rfl, wd_406, wd_1, wd_407⟩, ⟨by decide, by decide, by decide +kernel⟩, ⟨rfl, rfl, by decide, by decide⟩⟩
theorem fl_In_87 : zx_Fl "AddressClaimBus$Incoming" 87 2 6 .int false := ⟨_, _, _, _, kc_In, by decide, wd_174, rfl, rfl, rfl⟩
theorem cv_In_takeDirected_71 : zx_CV mi_In_takeDirected mi_In_askAgain 71 my_In_askAgain 1 := ⟨⟨wd_492, wd_494, wp_21, wd_7, wd_495⟩, rfl, ⟨by decide, by decide, by decide +kernel⟩, ⟨rfl, rfl, by decide, by decide⟩⟩
theorem cv_In_takeDirected_79 : zx_CV mi_In_takeDirected mi_In_keepExpected 79 my_In_keepExpected 1 := ⟨⟨wd_476, wd_478, wp_19, wd_7, wd_479⟩, rfl, ⟨by decide, by decide, by decide +kernel⟩, ⟨rfl, rfl, by decide, by decide⟩⟩
theorem cv_In_takeDirected_83 : zx_CV mi_In_takeDirected mi_In_isWhole 83 my_In_isWhole 0 := ⟨⟨wd_484, wd_486, wp_20, wd_7, wd_487⟩, rfl, ⟨by decide, by decide, by decide +kernel⟩, ⟨rfl, rfl, by decide, by decide⟩⟩
theorem kk_In_90 : Cond.constant "AddressClaimBus$Incoming" 90 (nI 485228544) ∈ zx_T := wd_442
theorem cs_In_takeDirected_91 : zx_CN mi_In_takeDirected mi_Ab_extentData 91 my_Ab_extentData 3 := ⟨⟨List.mem_of_getElem? (i := 6) rfl, wd_342, wd_1, wd_343⟩, ⟨by decide, by decide, by decide +kernel⟩, ⟨rfl, rfl, by decide, by decide⟩⟩
theorem cv_In_takeDirected_95 : zx_CV mi_In_takeDirected mi_Bu_put 95 my_Bu_put 4 := ⟨⟨wd_443, wd_273, wd_274, wd_2, wd_275⟩, rfl, ⟨by decide, by decide, by decide +kernel⟩, ⟨rfl, rfl, by decide, by decide⟩⟩
theorem cv_In_takeDirected_65 : zx_CV mi_In_takeDirected mi_In_end 65 my_In_end 0 := ⟨⟨wd_475, wd_293, wd_294, wd_7, wd_295⟩, rfl, ⟨by decide, by decide, by decide +kernel⟩, ⟨rfl, rfl, by decide, by decide⟩⟩
theorem cv_In_takeDirected_62 : zx_CV mi_In_takeDirected mi_In_grant 62 my_In_grant 0 := ⟨⟨wd_433, wd_435, wp_15, wd_7, wd_436⟩, rfl, ⟨by decide, by decide, by decide +kernel⟩, ⟨rfl, rfl, by decide, by decide⟩⟩
theorem cv_In_keepExpected_99 : zx_CV mi_In_keepExpected mi_Ms_keep 99 my_Ms_keep 2 := ⟨⟨wd_480, wd_481, wd_482, wd_5, wd_483⟩, rfl, ⟨by decide, by decide, by decide +kernel⟩, ⟨rfl, rfl, by decide, by decide⟩⟩
theorem cs_In_isWhole_103 : zx_CN mi_In_isWhole mi_Ab_packetsFor 103 my_Ab_packetsFor 1 := ⟨⟨List.mem_of_getElem? (i := 7) rfl, wd_345, wd_1, wd_346⟩, ⟨by decide, by decide, by decide +kernel⟩, ⟨rfl, rfl, by decide, by decide⟩⟩
theorem cv_In_askAgain_62 : zx_CV mi_In_askAgain mi_In_grant 62 my_In_grant 0 := ⟨⟨wd_433, wd_435, wp_15, wd_7, wd_436⟩, rfl, ⟨by decide, by decide, by decide +kernel⟩, ⟨rfl, rfl, by decide, by decide⟩⟩
theorem cs_In_askAgain_107 : zx_CN mi_In_askAgain mi_Ab_abortData 107 my_Ab_abortData 2 := ⟨⟨List.mem_of_getElem? (i := 8) rfl, wd_446, wd_1, wd_447⟩, ⟨by decide, by decide, by decide +kernel⟩, ⟨rfl, rfl, by decide, by decide⟩⟩
theorem cv_In_askAgain_95 : zx_CV mi_In_askAgain mi_Bu_put 95 my_Bu_put 4 := ⟨⟨wd_443, wd_273, wd_274, wd_2, wd_275⟩, rfl, ⟨by decide, by decide, by decide +kernel⟩, ⟨rfl, rfl, by decide, by decide⟩⟩
theorem cv_In_askAgain_65 : zx_CV mi_In_askAgain mi_In_end 65 my_In_end 0 := ⟨⟨wd_475, wd_293, wd_294, wd_7, wd_295⟩, rfl, ⟨by decide, by decide, by decide +kernel⟩, ⟨rfl, rfl, by decide, by decide⟩⟩
theorem fl_In_111 : zx_Fl "AddressClaimBus$Incoming" 111 5 2 .boolean false := ⟨_, _, _, _, kc_St, by decide, wd_69, rfl, rfl, rfl⟩
theorem cs_In_grant_103 : zx_CN mi_In_grant mi_Ab_packetsFor 103 my_Ab_packetsFor 1 := ⟨⟨List.mem_of_getElem? (i := 7) rfl, wd_345, wd_1, wd_346⟩, ⟨by decide, by decide, by decide +kernel⟩, ⟨rfl, rfl, by decide, by decide⟩⟩
theorem cw_In_116 : Cond.methodLink "AddressClaimBus$Incoming" 116 Lib.Math.min.name ∈ zx_T ∧ Cond.static Lib.Math.min.name ∈ zx_T ∧ Cond.initialized "java/lang/Math" ∈ zx_T ∧ Cond.code Lib.Math.min.name Lib.Math.min.code 2 (some .int) ∈ zx_T := ⟨wd_438, wd_439, wd_9, wd_440⟩
theorem cs_In_grant_122 : zx_CN mi_In_grant mi_Ab_controlData 122 my_Ab_controlData 5 := ⟨⟨List.mem_of_getElem? (i := 9) rfl, wd_348, wd_1, wd_349⟩, ⟨by decide, by decide, by decide +kernel⟩, ⟨rfl, rfl, by decide, by decide⟩⟩
theorem cv_In_grant_95 : zx_CV mi_In_grant mi_Bu_put 95 my_Bu_put 4 := ⟨⟨wd_443, wd_273, wd_274, wd_2, wd_275⟩, rfl, ⟨by decide, by decide, by decide +kernel⟩, ⟨rfl, rfl, by decide, by decide⟩⟩
theorem cw_Ms_obj : Cond.methodLink "AddressClaimBus$Message" 3 objectInit ∈ zx_T ∧ Cond.instanceMethod objectInit ∈ zx_T ∧ Cond.code objectInit ⟨#[0xb1]⟩ 1 none ∈ zx_T := ⟨wd_88, wd_16, wd_17⟩
theorem fl_Ms_9 : zx_Fl "AddressClaimBus$Message" 9 3 0 (.array .long) true := ⟨_, _, _, _, kc_Ms, by decide, wd_89, rfl, rfl, rfl⟩
theorem fl_Ms_15 : zx_Fl "AddressClaimBus$Message" 15 3 1 .int false := ⟨_, _, _, _, kc_Ms, by decide, wd_91, rfl, rfl, rfl⟩
theorem fl_Ms_19 : zx_Fl "AddressClaimBus$Message" 19 3 2 .int false := ⟨_, _, _, _, kc_Ms, by decide, wd_94, rfl, rfl, rfl⟩
theorem fl_Ms_22 : zx_Fl "AddressClaimBus$Message" 22 3 3 .int false := ⟨_, _, _, _, kc_Ms, by decide, wd_98, rfl, rfl, rfl⟩
theorem fl_Ms_25 : zx_Fl "AddressClaimBus$Message" 25 3 4 .boolean false := ⟨_, _, _, _, kc_Ms, by decide, wd_101, rfl, rfl, rfl⟩
theorem cs_Ms_byteAt_29 : zx_CN mi_Ms_byteAt mi_Ab_frameByte 29 my_Ab_frameByte 2 := ⟨⟨List.mem_of_getElem? (i := 10) rfl, wd_406, wd_1, wd_407⟩, ⟨by decide, by decide, by decide +kernel⟩, ⟨rfl, rfl, by decide, by decide⟩⟩
theorem cw_Ou_obj : Cond.methodLink "AddressClaimBus$Outgoing" 3 objectInit ∈ zx_T ∧ Cond.instanceMethod objectInit ∈ zx_T ∧ Cond.code objectInit ⟨#[0xb1]⟩ 1 none ∈ zx_T := ⟨wd_120, wd_16, wd_17⟩
theorem fl_Ou_9 : zx_Fl "AddressClaimBus$Outgoing" 9 4 2 .int false := ⟨_, _, _, _, kc_Ou, by decide, wd_124, rfl, rfl, rfl⟩
theorem kk_Ou_15 : Cond.constantLong "AddressClaimBus$Outgoing" 15 (lN 9223372036854775807) ∈ zx_T := wd_121
theorem fl_Ou_17 : zx_Fl "AddressClaimBus$Outgoing" 17 4 9 .long false := ⟨_, _, _, _, kc_Ou, by decide, wd_135, rfl, rfl, rfl⟩
theorem fl_Ou_21 : zx_Fl "AddressClaimBus$Outgoing" 21 4 0 (.object "AddressClaimBus$Bus") true := ⟨_, _, _, _, kc_Ou, by decide, wd_122, rfl, rfl, rfl⟩
theorem fl_Ou_25 : zx_Fl "AddressClaimBus$Outgoing" 25 4 1 (.object "AddressClaimBus$Station") true := ⟨_, _, _, _, kc_Ou, by decide, wd_123, rfl, rfl, rfl⟩
theorem fl_Ou_29 : zx_Fl "AddressClaimBus$Outgoing" 29 4 4 .int false := ⟨_, _, _, _, kc_Ou, by decide, wd_130, rfl, rfl, rfl⟩
theorem fl_Ou_32 : zx_Fl "AddressClaimBus$Outgoing" 32 4 5 .int false := ⟨_, _, _, _, kc_Ou, by decide, wd_131, rfl, rfl, rfl⟩
theorem fl_Ou_35 : zx_Fl "AddressClaimBus$Outgoing" 35 4 6 .int false := ⟨_, _, _, _, kc_Ou, by decide, wd_132, rfl, rfl, rfl⟩
theorem fl_Ou_38 : zx_Fl "AddressClaimBus$Outgoing" 38 4 7 .long false := ⟨_, _, _, _, kc_Ou, by decide, wd_133, rfl, rfl, rfl⟩
theorem fl_Ou_41 : zx_Fl "AddressClaimBus$Outgoing" 41 4 8 .int false := ⟨_, _, _, _, kc_Ou, by decide, wd_134, rfl, rfl, rfl⟩
theorem kk_Ou_44 : Cond.constant "AddressClaimBus$Outgoing" 44 (nI 485228544) ∈ zx_T := wd_340
theorem cs_Ou_begin_45 : zx_CN mi_Ou_begin mi_Ab_extentData 45 my_Ab_extentData 3 := ⟨⟨List.mem_of_getElem? (i := 11) rfl, wd_342, wd_1, wd_343⟩, ⟨by decide, by decide, by decide +kernel⟩, ⟨rfl, rfl, by decide, by decide⟩⟩
theorem cv_Ou_begin_49 : zx_CV mi_Ou_begin mi_Bu_put 49 my_Bu_put 4 := ⟨⟨wd_351, wd_273, wd_274, wd_2, wd_275⟩, rfl, ⟨by decide, by decide, by decide +kernel⟩, ⟨rfl, rfl, by decide, by decide⟩⟩
theorem fl_Ou_55 : zx_Fl "AddressClaimBus$Outgoing" 55 0 5 .long false := ⟨_, _, _, _, kc_Bu, by decide, wd_35, rfl, rfl, rfl⟩
theorem fl_Ou_58 : zx_Fl "AddressClaimBus$Outgoing" 58 4 3 .int false := ⟨_, _, _, _, kc_Ou, by decide, wd_128, rfl, rfl, rfl⟩
theorem kk_Ou_61 : Cond.constantLong "AddressClaimBus$Outgoing" 61 (lN 1050) ∈ zx_T := wd_452
theorem cs_Ou_takeGrant_63 : zx_CN mi_Ou_takeGrant mi_Ab_packetsFor 63 my_Ab_packetsFor 1 := ⟨⟨List.mem_of_getElem? (i := 12) rfl, wd_345, wd_1, wd_346⟩, ⟨by decide, by decide, by decide +kernel⟩, ⟨rfl, rfl, by decide, by decide⟩⟩
theorem cw_Ou_67 : Cond.methodLink "AddressClaimBus$Outgoing" 67 Lib.Math.min.name ∈ zx_T ∧ Cond.static Lib.Math.min.name ∈ zx_T ∧ Cond.initialized "java/lang/Math" ∈ zx_T ∧ Cond.code Lib.Math.min.name Lib.Math.min.code 2 (some .int) ∈ zx_T := ⟨wd_454, wd_439, wd_9, wd_440⟩
theorem cv_Ou_takeGrant_73 : zx_CV mi_Ou_takeGrant mi_Ou_sendPacket 73 my_Ou_sendPacket 1 := ⟨⟨wd_455, wd_457, wp_16, wd_6, wd_458⟩, rfl, ⟨by decide, by decide, by decide +kernel⟩, ⟨rfl, rfl, by decide, by decide⟩⟩
theorem kk_Ou_77 : Cond.constantLong "AddressClaimBus$Outgoing" 77 (lN 1250) ∈ zx_T := wd_461
theorem cv_Ou_goOff_79 : zx_CV mi_Ou_goOff mi_Ou_sendNextToAll 79 my_Ou_sendNextToAll 0 := ⟨⟨wd_533, wd_535, wp_23, wd_6, wd_536⟩, rfl, ⟨by decide, by decide, by decide +kernel⟩, ⟨rfl, rfl, by decide, by decide⟩⟩
theorem cs_Ou_goOff_82 : zx_CN mi_Ou_goOff mi_Ab_abortData 82 my_Ab_abortData 2 := ⟨⟨List.mem_of_getElem? (i := 13) rfl, wd_446, wd_1, wd_447⟩, ⟨by decide, by decide, by decide +kernel⟩, ⟨rfl, rfl, by decide, by decide⟩⟩
theorem cv_Ou_goOff_49 : zx_CV mi_Ou_goOff mi_Bu_put 49 my_Bu_put 4 := ⟨⟨wd_351, wd_273, wd_274, wd_2, wd_275⟩, rfl, ⟨by decide, by decide, by decide +kernel⟩, ⟨rfl, rfl, by decide, by decide⟩⟩
theorem cv_Ou_goOff_86 : zx_CV mi_Ou_goOff mi_Ou_end 86 my_Ou_end 1 := ⟨⟨wd_537, wd_289, wd_290, wd_6, wd_291⟩, rfl, ⟨by decide, by decide, by decide +kernel⟩, ⟨rfl, rfl, by decide, by decide⟩⟩
theorem cv_Ou_sendNextToAll_73 : zx_CV mi_Ou_sendNextToAll mi_Ou_sendPacket 73 my_Ou_sendPacket 1 := ⟨⟨wd_455, wd_457, wp_16, wd_6, wd_458⟩, rfl, ⟨by decide, by decide, by decide +kernel⟩, ⟨rfl, rfl, by decide, by decide⟩⟩
theorem cs_Ou_sendNextToAll_63 : zx_CN mi_Ou_sendNextToAll mi_Ab_packetsFor 63 my_Ab_packetsFor 1 := ⟨⟨List.mem_of_getElem? (i := 12) rfl, wd_345, wd_1, wd_346⟩, ⟨by decide, by decide, by decide +kernel⟩, ⟨rfl, rfl, by decide, by decide⟩⟩
theorem cv_Ou_sendNextToAll_86 : zx_CV mi_Ou_sendNextToAll mi_Ou_end 86 my_Ou_end 1 := ⟨⟨wd_537, wd_289, wd_290, wd_6, wd_291⟩, rfl, ⟨by decide, by decide, by decide +kernel⟩, ⟨rfl, rfl, by decide, by decide⟩⟩
theorem kk_Ou_89 : Cond.constantLong "AddressClaimBus$Outgoing" 89 (lN 50) ∈ zx_T := wd_538
theorem kk_Ou_91 : Cond.constantLong "AddressClaimBus$Outgoing" 91 (lN 255) ∈ zx_T := wd_459
theorem kk_Ou_93 : Cond.constant "AddressClaimBus$Outgoing" 93 (nI 485163008) ∈ zx_T := wd_460
theorem cv_Ou_sendPacket_49 : zx_CV mi_Ou_sendPacket mi_Bu_put 49 my_Bu_put 4 := ⟨⟨wd_351, wd_273, wd_274, wd_2, wd_275⟩, rfl, ⟨by decide, by decide, by decide +kernel⟩, ⟨rfl, rfl, by decide, by decide⟩⟩
theorem cw_St_obj : Cond.methodLink "AddressClaimBus$Station" 1 objectInit ∈ zx_T ∧ Cond.instanceMethod objectInit ∈ zx_T ∧ Cond.code objectInit ⟨#[0xb1]⟩ 1 none ∈ zx_T := ⟨wd_61, wd_16, wd_17⟩
theorem fl_St_7 : zx_Fl "AddressClaimBus$Station" 7 5 0 .int true := ⟨_, _, _, _, kc_St, by decide, wd_62, rfl, rfl, rfl⟩
theorem nw_La_7 : Cond.classLink "AddressClaimBusLaw" 7 "AddressClaimBus" ∈ zx_T ∧ Cond.instantiable "AddressClaimBus" 2 ∈ zx_T ∧ Cond.initialized "AddressClaimBus" ∈ zx_T := ⟨wd_10, wd_11, wd_1⟩
theorem ci_La_law_9 : zx_CI mi_La_law mi_Ab_init 9 my_Ab_init 0 := ⟨⟨wd_12, wd_13, wd_1, wd_14⟩, rfl, rfl, ⟨by decide, by decide, by decide +kernel⟩, ⟨rfl, rfl, by decide, by decide⟩⟩
theorem nw_La_10 : Cond.classLink "AddressClaimBusLaw" 10 "AddressClaimBusModel" ∈ zx_T ∧ Cond.instantiable "AddressClaimBusModel" 34 ∈ zx_T ∧ Cond.initialized "AddressClaimBusModel" ∈ zx_T := ⟨wd_574, wd_575, wd_8⟩
theorem ci_La_law_12 : zx_CI mi_La_law mi_Md_init 12 my_Md_init 0 := ⟨⟨wd_576, wd_577, wd_8, wd_578⟩, rfl, rfl, ⟨by decide, by decide, by decide +kernel⟩, ⟨rfl, rfl, by decide, by decide⟩⟩
theorem kk_La_13 : Cond.constantLong "AddressClaimBusLaw" 13 (lN 4294967295) ∈ zx_T := wd_875
theorem cv_La_law_15 : zx_CV mi_La_law mi_Ab_start 15 my_Ab_start 3 := ⟨⟨wd_242, wd_243, wd_244, wd_1, wd_245⟩, rfl, ⟨by decide, by decide, by decide +kernel⟩, ⟨rfl, rfl, by decide, by decide⟩⟩
theorem cv_La_law_19 : zx_CV mi_La_law mi_Md_start 19 my_Md_start 3 := ⟨⟨wd_801, wd_802, wd_803, wd_8, wd_804⟩, rfl, ⟨by decide, by decide, by decide +kernel⟩, ⟨rfl, rfl, by decide, by decide⟩⟩
theorem cv_La_law_20 : zx_CV mi_La_law mi_Ab_stop 20 my_Ab_stop 1 := ⟨⟨wd_276, wd_277, wd_278, wd_1, wd_279⟩, rfl, ⟨by decide, by decide, by decide +kernel⟩, ⟨rfl, rfl, by decide, by decide⟩⟩
theorem cv_La_law_24 : zx_CV mi_La_law mi_Md_stop 24 my_Md_stop 1 := ⟨⟨wd_805, wd_806, wd_807, wd_8, wd_808⟩, rfl, ⟨by decide, by decide, by decide +kernel⟩, ⟨rfl, rfl, by decide, by decide⟩⟩
theorem cv_La_law_25 : zx_CV mi_La_law mi_Ab_busy 25 my_Ab_busy 2 := ⟨⟨wd_304, wd_305, wd_306, wd_1, wd_307⟩, rfl, ⟨by decide, by decide, by decide +kernel⟩, ⟨rfl, rfl, by decide, by decide⟩⟩
theorem cv_La_law_29 : zx_CV mi_La_law mi_Md_busy 29 my_Md_busy 2 := ⟨⟨wd_813, wd_814, wd_815, wd_8, wd_816⟩, rfl, ⟨by decide, by decide, by decide +kernel⟩, ⟨rfl, rfl, by decide, by decide⟩⟩
theorem cv_La_law_30 : zx_CV mi_La_law mi_Ab_state 30 my_Ab_state 1 := ⟨⟨wd_308, wd_309, wd_310, wd_1, wd_311⟩, rfl, ⟨by decide, by decide, by decide +kernel⟩, ⟨rfl, rfl, by decide, by decide⟩⟩
theorem cv_La_law_34 : zx_CV mi_La_law mi_Md_state 34 my_Md_state 1 := ⟨⟨wd_817, wd_818, wd_819, wd_8, wd_820⟩, rfl, ⟨by decide, by decide, by decide +kernel⟩, ⟨rfl, rfl, by decide, by decide⟩⟩
theorem cv_La_law_35 : zx_CV mi_La_law mi_Ab_address 35 my_Ab_address 1 := ⟨⟨wd_312, wd_313, wd_314, wd_1, wd_315⟩, rfl, ⟨by decide, by decide, by decide +kernel⟩, ⟨rfl, rfl, by decide, by decide⟩⟩
theorem cv_La_law_38 : zx_CV mi_La_law mi_Md_address 38 my_Md_address 1 := ⟨⟨wd_821, wd_822, wd_823, wd_8, wd_824⟩, rfl, ⟨by decide, by decide, by decide +kernel⟩, ⟨rfl, rfl, by decide, by decide⟩⟩
theorem cv_La_law_39 : zx_CV mi_La_law mi_Ab_noted 39 my_Ab_noted 2 := ⟨⟨wd_316, wd_317, wd_318, wd_1, wd_319⟩, rfl, ⟨by decide, by decide, by decide +kernel⟩, ⟨rfl, rfl, by decide, by decide⟩⟩
theorem cv_La_law_43 : zx_CV mi_La_law mi_Md_noted 43 my_Md_noted 2 := ⟨⟨wd_825, wd_826, wd_827, wd_8, wd_828⟩, rfl, ⟨by decide, by decide, by decide +kernel⟩, ⟨rfl, rfl, by decide, by decide⟩⟩
theorem cv_La_law_44 : zx_CV mi_La_law mi_Ab_request 44 my_Ab_request 1 := ⟨⟨wd_320, wd_321, wd_322, wd_1, wd_323⟩, rfl, ⟨by decide, by decide, by decide +kernel⟩, ⟨rfl, rfl, by decide, by decide⟩⟩
theorem cv_La_law_47 : zx_CV mi_La_law mi_Md_request 47 my_Md_request 1 := ⟨⟨wd_829, wd_830, wd_831, wd_8, wd_832⟩, rfl, ⟨by decide, by decide, by decide +kernel⟩, ⟨rfl, rfl, by decide, by decide⟩⟩
theorem cv_La_law_48 : zx_CV mi_La_law mi_Ab_send 48 my_Ab_send 5 := ⟨⟨wd_327, wd_328, wd_329, wd_1, wd_330⟩, rfl, ⟨by decide, by decide, by decide +kernel⟩, ⟨rfl, rfl, by decide, by decide⟩⟩
theorem cv_La_law_52 : zx_CV mi_La_law mi_Md_send 52 my_Md_send 5 := ⟨⟨wd_834, wd_835, wd_836, wd_8, wd_837⟩, rfl, ⟨by decide, by decide, by decide +kernel⟩, ⟨rfl, rfl, by decide, by decide⟩⟩
theorem cv_La_law_53 : zx_CV mi_La_law mi_Ab_waiting 53 my_Ab_waiting 0 := ⟨⟨wd_352, wd_353, wd_354, wd_1, wd_355⟩, rfl, ⟨by decide, by decide, by decide +kernel⟩, ⟨rfl, rfl, by decide, by decide⟩⟩
theorem cv_La_law_57 : zx_CV mi_La_law mi_Md_waiting 57 my_Md_waiting 0 := ⟨⟨wd_684, wd_685, wd_686, wd_8, wd_687⟩, rfl, ⟨by decide, by decide, by decide +kernel⟩, ⟨rfl, rfl, by decide, by decide⟩⟩
theorem cv_La_law_58 : zx_CV mi_La_law mi_Ab_identifier 58 my_Ab_identifier 0 := ⟨⟨wd_356, wd_357, wd_358, wd_1, wd_359⟩, rfl, ⟨by decide, by decide, by decide +kernel⟩, ⟨rfl, rfl, by decide, by decide⟩⟩
theorem cv_La_law_61 : zx_CV mi_La_law mi_Md_identifier 61 my_Md_identifier 0 := ⟨⟨wd_688, wd_689, wd_690, wd_8, wd_691⟩, rfl, ⟨by decide, by decide, by decide +kernel⟩, ⟨rfl, rfl, by decide, by decide⟩⟩
theorem cv_La_law_62 : zx_CV mi_La_law mi_Ab_data 62 my_Ab_data 0 := ⟨⟨wd_364, wd_365, wd_366, wd_1, wd_367⟩, rfl, ⟨by decide, by decide, by decide +kernel⟩, ⟨rfl, rfl, by decide, by decide⟩⟩
theorem cv_La_law_66 : zx_CV mi_La_law mi_Md_data 66 my_Md_data 0 := ⟨⟨wd_696, wd_697, wd_698, wd_8, wd_699⟩, rfl, ⟨by decide, by decide, by decide +kernel⟩, ⟨rfl, rfl, by decide, by decide⟩⟩
theorem cv_La_law_67 : zx_CV mi_La_law mi_Ab_deliver 67 my_Ab_deliver 1 := ⟨⟨wd_368, wd_369, wd_370, wd_1, wd_371⟩, rfl, ⟨by decide, by decide, by decide +kernel⟩, ⟨rfl, rfl, by decide, by decide⟩⟩
theorem cv_La_law_71 : zx_CV mi_La_law mi_Md_deliver 71 my_Md_deliver 1 := ⟨⟨wd_712, wd_713, wd_714, wd_8, wd_715⟩, rfl, ⟨by decide, by decide, by decide +kernel⟩, ⟨rfl, rfl, by decide, by decide⟩⟩
theorem cv_La_law_72 : zx_CV mi_La_law mi_Ab_lose 72 my_Ab_lose 0 := ⟨⟨wd_502, wd_503, wd_504, wd_1, wd_505⟩, rfl, ⟨by decide, by decide, by decide +kernel⟩, ⟨rfl, rfl, by decide, by decide⟩⟩
theorem cv_La_law_76 : zx_CV mi_La_law mi_Md_lose 76 my_Md_lose 0 := ⟨⟨wd_700, wd_701, wd_702, wd_8, wd_703⟩, rfl, ⟨by decide, by decide, by decide +kernel⟩, ⟨rfl, rfl, by decide, by decide⟩⟩
theorem cv_La_law_77 : zx_CV mi_La_law mi_Ab_overflowed 77 my_Ab_overflowed 0 := ⟨⟨wd_506, wd_507, wd_508, wd_1, wd_509⟩, rfl, ⟨by decide, by decide, by decide +kernel⟩, ⟨rfl, rfl, by decide, by decide⟩⟩
theorem cv_La_law_80 : zx_CV mi_La_law mi_Md_overflowed 80 my_Md_overflowed 0 := ⟨⟨wd_708, wd_709, wd_710, wd_8, wd_711⟩, rfl, ⟨by decide, by decide, by decide +kernel⟩, ⟨rfl, rfl, by decide, by decide⟩⟩
theorem cv_La_law_81 : zx_CV mi_La_law mi_Ab_tick 81 my_Ab_tick 1 := ⟨⟨wd_510, wd_511, wd_512, wd_1, wd_513⟩, rfl, ⟨by decide, by decide, by decide +kernel⟩, ⟨rfl, rfl, by decide, by decide⟩⟩
theorem cv_La_law_84 : zx_CV mi_La_law mi_Md_tick 84 my_Md_tick 1 := ⟨⟨wd_839, wd_840, wd_841, wd_8, wd_842⟩, rfl, ⟨by decide, by decide, by decide +kernel⟩, ⟨rfl, rfl, by decide, by decide⟩⟩
theorem cv_La_law_85 : zx_CV mi_La_law mi_Ab_outgoing 85 my_Ab_outgoing 1 := ⟨⟨wd_544, wd_545, wd_546, wd_1, wd_547⟩, rfl, ⟨by decide, by decide, by decide +kernel⟩, ⟨rfl, rfl, by decide, by decide⟩⟩
theorem cv_La_law_88 : zx_CV mi_La_law mi_Md_outgoing 88 my_Md_outgoing 1 := ⟨⟨wd_855, wd_856, wd_857, wd_8, wd_858⟩, rfl, ⟨by decide, by decide, by decide +kernel⟩, ⟨rfl, rfl, by decide, by decide⟩⟩
theorem cv_La_law_89 : zx_CV mi_La_law mi_Ab_incoming 89 my_Ab_incoming 1 := ⟨⟨wd_548, wd_549, wd_550, wd_1, wd_551⟩, rfl, ⟨by decide, by decide, by decide +kernel⟩, ⟨rfl, rfl, by decide, by decide⟩⟩
theorem cv_La_law_92 : zx_CV mi_La_law mi_Md_incoming 92 my_Md_incoming 1 := ⟨⟨wd_859, wd_860, wd_861, wd_8, wd_862⟩, rfl, ⟨by decide, by decide, by decide +kernel⟩, ⟨rfl, rfl, by decide, by decide⟩⟩
theorem cv_La_law_93 : zx_CV mi_La_law mi_Ab_delivered 93 my_Ab_delivered 1 := ⟨⟨wd_553, wd_554, wd_555, wd_1, wd_556⟩, rfl, ⟨by decide, by decide, by decide +kernel⟩, ⟨rfl, rfl, by decide, by decide⟩⟩
theorem cv_La_law_96 : zx_CV mi_La_law mi_Md_delivered 96 my_Md_delivered 1 := ⟨⟨wd_863, wd_864, wd_865, wd_8, wd_866⟩, rfl, ⟨by decide, by decide, by decide +kernel⟩, ⟨rfl, rfl, by decide, by decide⟩⟩
theorem cv_La_law_97 : zx_CV mi_La_law mi_Ab_message 97 my_Ab_message 2 := ⟨⟨wd_557, wd_558, wd_559, wd_1, wd_560⟩, rfl, ⟨by decide, by decide, by decide +kernel⟩, ⟨rfl, rfl, by decide, by decide⟩⟩
theorem cv_La_law_100 : zx_CV mi_La_law mi_Md_message 100 my_Md_message 2 := ⟨⟨wd_867, wd_868, wd_869, wd_8, wd_870⟩, rfl, ⟨by decide, by decide, by decide +kernel⟩, ⟨rfl, rfl, by decide, by decide⟩⟩
theorem cv_La_law_101 : zx_CV mi_La_law mi_Ab_byteOf 101 my_Ab_byteOf 2 := ⟨⟨wd_565, wd_566, wd_567, wd_1, wd_568⟩, rfl, ⟨by decide, by decide, by decide +kernel⟩, ⟨rfl, rfl, by decide, by decide⟩⟩
theorem cv_La_law_104 : zx_CV mi_La_law mi_Md_byteOf 104 my_Md_byteOf 2 := ⟨⟨wd_871, wd_872, wd_873, wd_8, wd_874⟩, rfl, ⟨by decide, by decide, by decide +kernel⟩, ⟨rfl, rfl, by decide, by decide⟩⟩
theorem ac_int : Cond.arrayClass .int ∈ zx_T := wd_51
theorem ac_long : Cond.arrayClass .long ∈ zx_T := wd_52
theorem ac_boolean : Cond.arrayClass .boolean ∈ zx_T := wd_683
end
section
/-! What a state is: numbers and functions; where they lie in the heap (b: the first address). -/
/-- the bus: identifiers, contents, senders, count, overflows, now -/
abbrev zB : Type := (Nat → Int32) × (Nat → Int64) × (Nat → Int32) × Nat × Int32 × Int64
/-- a message: packets, source, group, size, toAll -/
abbrev zMs : Type := (Nat → Int64) × Int32 × Int32 × Int32 × Bool
/-- the outgoing session: phase, result, target, group, size, seed, nextPacket, due -/
abbrev zOu : Type := Int32 × Int32 × Int32 × Int32 × Int32 × Int64 × Int32 × Int64
/-- an incoming session: message, whether it goes on, held, expected, last, asked, due -/
abbrev zIn : Type := zMs × Bool × Bool × Nat × Int32 × Int32 × Int64
/-- a function: address, busy, noted, which room is the first (0 or 1), latest, outgoing, the two rooms, deliveries, state, name, holdDue -/
abbrev zFn : Type := Int32 × Bool × (Nat → Int32) × Nat × zMs × zOu × (Nat → zIn) × Int32 × Int32 × Int64 × Int64
/-- the reference: now, frames, lost, its arrays of ints (booleans too) and of longs by their numbers -/
abbrev zMd : Type := Int32 × Nat × Int32 × (Nat → Nat → Int32) × (Nat → Nat → Int64)
abbrev zS : Type := zB × (Nat → zFn) × zMd
def zb (x : Bool) : Int32 := if x then 1 else 0
def fa (b f i : Nat) : Nat := b + (6 + 13 * f + i)
def ma (b k : Nat) : Nat := b + (72 + k)
def foc {α : Type} (F : Nat → α) (f : Nat) (G : α) : Nat → α := fun g => if g = f then G else F g
theorem foc_at {α : Type} (F : Nat → α) (f : Nat) (G : α) : foc F f G f = G := if_pos rfl
theorem foc_ne {α : Type} (F : Nat → α) {f g : Nat} (G : α) (h : g ≠ f) : foc F f G g = F g := if_neg h
theorem foc_foc {α : Type} (F : Nat → α) (f : Nat) (G G' : α) : foc (foc F f G) f G' = foc F f G' := by
  funext g
  by_cases h : g = f
  · subst h
    rw [foc_at, foc_at]
  · rw [foc_ne _ _ h, foc_ne _ _ h, foc_ne _ _ h]
theorem foc_self {α : Type} (F : Nat → α) (f : Nat) : foc F f (F f) = F := by
  funext g
  by_cases h : g = f
  · subst h
    rw [foc_at]
  · rw [foc_ne _ _ h]
def zc_ms (q : Nat) (m : zMs) : va_E := match m with
  | (_, so, gr, si, ta) => .inr (3, [.ref q, .int so, .int gr, .int si, .int (zb ta)])
def zc_pk (m : zMs) : va_E := .inl (1, 7, .inr (.inl m.1))
def zc_ou (b f : Nat) (x : zOu) : va_E := match x with
  | (ph, re, tg, gr, si, se, nx, du) => .inr (4, [.ref (b + 1), .ref (fa b f 1), .int ph, .int re, .int tg, .int gr, .int si, .long se, .int nx, .long du])
def zc_in (b f p : Nat) (x : zIn) : va_E := match x with
  | (_, op, he, ex, la, ak, du) => .inr (2, [.ref (b + 1), .ref (fa b f 1), .ref (fa b f (8 + 3 * p)), .int (zb op), .int (zb he), .int (nI ex), .int la, .int ak, .long du])
def zc_ord (b f o : Nat) : Nat → Option Nat := fun i => some (fa b f (7 + 3 * (if i = 0 then o else 1 - o)))
def zc_fn (b f : Nat) (G : zFn) (i : Nat) : va_E := match G with
  | (ad, bz, nt, o, la, ou, xs, de, st, nm, hd) => match i with
    | 0 => .inr (1, [.ref (b + 1), .ref (fa b f 1), .ref (fa b f 2), .ref (fa b f 6), .ref (fa b f 3), .ref (fa b f 4), .int de, .int st, .long nm, .long hd])
    | 1 => .inr (5, [.int (nI f), .int ad, .int (zb bz)])
    | 2 => .inl (0, 5, .inl nt)
    | 3 => .inl (4, 2, .inr (.inr (.inr (.inr (zc_ord b f o)))))
    | 4 => zc_ms (fa b f 5) la
    | 5 => zc_pk la
    | 6 => zc_ou b f ou
    | 7 => zc_in b f 0 (xs 0)
    | 8 => zc_ms (fa b f 9) (xs 0).1
    | 9 => zc_pk (xs 0).1
    | 10 => zc_in b f 1 (xs 1)
    | 11 => zc_ms (fa b f 12) (xs 1).1
    | _ => zc_pk (xs 1).1
def zc_bus (b : Nat) (B : zB) (i : Nat) : va_E := match B with
  | (ids, con, snd, cnt, ovf, now) => match i with
    | 0 => .inr (6, [.ref (b + 1), .ref (b + 5)])
    | 1 => .inr (0, [.ref (b + 2), .ref (b + 3), .ref (b + 4), .int (nI cnt), .int ovf, .long now])
    | 2 => .inl (0, 48, .inl ids)
    | 3 => .inl (1, 48, .inr (.inl con))
    | 4 => .inl (0, 48, .inl snd)
    | _ => .inl (3, 5, .inr (.inr (.inr (.inr (fun i => some (fa b i 0))))))
def zc_md (b : Nat) (D : zMd) (i : Nat) : va_E := match D with
  | (t, fr, lo, I, J) => match i with
    | 0 => .inr (7, [.int t, .ref (ma b 0), .ref (ma b 1), .ref (ma b 2), .ref (ma b 3), .ref (ma b 4), .ref (ma b 5), .int (nI fr), .ref (ma b 6), .ref (ma b 7), .ref (ma b 8), .int lo, .ref (ma b 9), .ref (ma b 10), .ref (ma b 11), .ref (ma b 12), .ref (ma b 13), .ref (ma b 14), .ref (ma b 15), .ref (ma b 16), .ref (ma b 17), .ref (ma b 18), .ref (ma b 19), .ref (ma b 20), .ref (ma b 21), .ref (ma b 22), .ref (ma b 23), .ref (ma b 24), .ref (ma b 25), .ref (ma b 26), .ref (ma b 27), .ref (ma b 28), .ref (ma b 29), .ref (ma b 30)])
    | 1 => .inl (0, 5, .inl (I 0))
    | 2 => .inl (0, 5, .inl (I 1))
    | 3 => .inl (1, 5, .inr (.inl (J 2)))
    | 4 => .inl (2, 5, .inl (I 3))
    | 5 => .inl (0, 5, .inl (I 4))
    | 6 => .inl (0, 25, .inl (I 5))
    | 7 => .inl (0, 48, .inl (I 6))
    | 8 => .inl (1, 48, .inr (.inl (J 7)))
    | 9 => .inl (0, 48, .inl (I 8))
    | 10 => .inl (0, 5, .inl (I 9))
    | 11 => .inl (0, 5, .inl (I 10))
    | 12 => .inl (0, 5, .inl (I 11))
    | 13 => .inl (0, 5, .inl (I 12))
    | 14 => .inl (0, 5, .inl (I 13))
    | 15 => .inl (1, 5, .inr (.inl (J 14)))
    | 16 => .inl (0, 5, .inl (I 15))
    | 17 => .inl (0, 5, .inl (I 16))
    | 18 => .inl (0, 5, .inl (I 17))
    | 19 => .inl (2, 10, .inl (I 18))
    | 20 => .inl (0, 10, .inl (I 19))
    | 21 => .inl (0, 10, .inl (I 20))
    | 22 => .inl (0, 10, .inl (I 21))
    | 23 => .inl (0, 10, .inl (I 22))
    | 24 => .inl (0, 10, .inl (I 23))
    | 25 => .inl (0, 10, .inl (I 24))
    | 26 => .inl (2, 10, .inl (I 25))
    | 27 => .inl (0, 10, .inl (I 26))
    | 28 => .inl (0, 490, .inl (I 27))
    | 29 => .inl (0, 5, .inl (I 28))
    | 30 => .inl (0, 20, .inl (I 29))
    | _ => .inl (0, 245, .inl (I 30))
def zc (b : Nat) (S : zS) (c : Nat) : Option va_E := if c < 6 then some (zc_bus b S.1 c) else if c < 71 then some (zc_fn b ((c - 6) / 13) (S.2.1 ((c - 6) / 13)) ((c - 6) % 13)) else if c < 103 then some (zc_md b S.2.2 (c - 71)) else none
def zs (b : Nat) (S : zS) : zxH := fun a => if a < b then none else zc b S (a - b)
theorem zs_at (b : Nat) (S : zS) (c : Nat) : zs b S (b + c) = zc b S c := by
  unfold zs
  rw [if_neg (by omega), Nat.add_sub_cancel_left]
theorem at_bus {b : Nat} {B : zB} {F : Nat → zFn} {D : zMd} (c : Nat) (h : c < 6) : zs b (B, F, D) (b + c) = some (zc_bus b B c) := by
  rw [zs_at]
  unfold zc
  rw [if_pos h]
theorem at_md {b : Nat} {B : zB} {F : Nat → zFn} {D : zMd} (i : Nat) (h : i < 32) : zs b (B, F, D) (b + (71 + i)) = some (zc_md b D i) := by
  rw [zs_at]
  unfold zc
  rw [if_neg (by omega), if_neg (by omega), if_pos (by omega), Nat.add_sub_cancel_left]
theorem at_fn {b : Nat} {B : zB} {F : Nat → zFn} {D : zMd} {f : Nat} (i : Nat) (hf : f < 5) (h : i < 13) : zs b (B, F, D) (fa b f i) = some (zc_fn b f (F f) i) := by
  unfold fa
  rw [zs_at]
  unfold zc
  rw [if_neg (by omega), if_pos (by omega), show (6 + 13 * f + i - 6) / 13 = f by omega, show (6 + 13 * f + i - 6) % 13 = i by omega]
theorem zs_up {b c : Nat} {S S' : zS} {e : va_E} (h1 : zc b S' c = some e) (h2 : ∀ d, d ≠ c → zc b S' d = zc b S d) : zx_up (zs b S) (b + c) e = zs b S' := by
  funext q
  unfold zx_up
  by_cases hq : q = b + c
  · subst hq
    rw [if_pos rfl, zs_at, h1]
  · rw [if_neg hq]
    unfold zs
    by_cases hb : q < b
    · rw [if_pos hb, if_pos hb]
    · rw [if_neg hb, if_neg hb, h2 (q - b) (by omega)]
theorem up_bus {b : Nat} {B B' : zB} {F : Nat → zFn} {D : zMd} {e : va_E} (c : Nat) (h : c < 6) (h1 : zc_bus b B' c = e) (h2 : ∀ d, d < 6 → d ≠ c → zc_bus b B' d = zc_bus b B d) : zx_up (zs b (B, F, D)) (b + c) e = zs b (B', F, D) := by
  refine zs_up ?_ (fun d hd => ?_)
  · unfold zc
    rw [if_pos h, h1]
  · unfold zc
    by_cases g : d < 6
    · rw [if_pos g, if_pos g, h2 d g hd]
    · rw [if_neg g, if_neg g]
theorem up_md {b : Nat} {B : zB} {F : Nat → zFn} {D D' : zMd} {e : va_E} (i : Nat) (h : i < 32) (h1 : zc_md b D' i = e) (h2 : ∀ d, d < 32 → d ≠ i → zc_md b D' d = zc_md b D d) : zx_up (zs b (B, F, D)) (b + (71 + i)) e = zs b (B, F, D') := by
  refine zs_up ?_ (fun d hd => ?_)
  · unfold zc
    rw [if_neg (by omega), if_neg (by omega), if_pos (by omega), Nat.add_sub_cancel_left, h1]
  · unfold zc
    by_cases g : d < 6
    · rw [if_pos g, if_pos g]
    · rw [if_neg g, if_neg g]
      by_cases g2 : d < 71
      · rw [if_pos g2, if_pos g2]
      · rw [if_neg g2, if_neg g2]
        by_cases g3 : d < 103
        · rw [if_pos g3, if_pos g3, h2 (d - 71) (by omega) (by omega)]
        · rw [if_neg g3, if_neg g3]
theorem up_fn {b : Nat} {B : zB} {F : Nat → zFn} {D : zMd} {f : Nat} {G G' : zFn} {e : va_E} (i : Nat) (hf : f < 5) (h : i < 13) (h1 : zc_fn b f G' i = e) (h2 : ∀ d, d < 13 → d ≠ i → zc_fn b f G' d = zc_fn b f G d) : zx_up (zs b (B, foc F f G, D)) (fa b f i) e = zs b (B, foc F f G', D) := by
  unfold fa
  refine zs_up ?_ (fun d hd => ?_)
  · unfold zc
    rw [if_neg (by omega), if_pos (by omega), show (6 + 13 * f + i - 6) / 13 = f by omega, show (6 + 13 * f + i - 6) % 13 = i by omega]
    show some (zc_fn b f (foc F f G' f) i) = _
    rw [foc_at, h1]
  · unfold zc
    by_cases g : d < 6
    · rw [if_pos g, if_pos g]
    · rw [if_neg g, if_neg g]
      by_cases g2 : d < 71
      · rw [if_pos g2, if_pos g2]
        show some (zc_fn b ((d - 6) / 13) (foc F f G' ((d - 6) / 13)) ((d - 6) % 13)) = some (zc_fn b ((d - 6) / 13) (foc F f G ((d - 6) / 13)) ((d - 6) % 13))
        by_cases g3 : (d - 6) / 13 = f
        · rw [g3, foc_at, foc_at, h2 ((d - 6) % 13) (by omega) (by omega)]
        · rw [foc_ne _ _ g3, foc_ne _ _ g3]
      · rw [if_neg g2, if_neg g2]
section ZSR
variable {b f : Nat} {F : Nat → zFn} {D : zMd} {B : zB} {ids snd nt : Nat → Int32} {con : Nat → Int64} {cnt o : Nat} {ovf ad de st : Int32} {now nm hd : Int64} {bz : Bool} {la : zMs} {ou : zOu} {xs : Nat → zIn}
theorem at_ab : zs b (B, F, D) b = some (.inr (6, [.ref (b + 1), .ref (b + 5)])) := at_bus 0 (by decide)
theorem at_b1 : zs b ((ids, con, snd, cnt, ovf, now), F, D) (b + 1) = some (.inr (0, [.ref (b + 2), .ref (b + 3), .ref (b + 4), .int (nI cnt), .int ovf, .long now])) := at_bus 1 (by decide)
theorem at_b2 : zs b ((ids, con, snd, cnt, ovf, now), F, D) (b + 2) = some (.inl (0, 48, .inl ids)) := at_bus 2 (by decide)
theorem at_b3 : zs b ((ids, con, snd, cnt, ovf, now), F, D) (b + 3) = some (.inl (1, 48, .inr (.inl con))) := at_bus 3 (by decide)
theorem at_b4 : zs b ((ids, con, snd, cnt, ovf, now), F, D) (b + 4) = some (.inl (0, 48, .inl snd)) := at_bus 4 (by decide)
theorem at_b5 : zs b (B, F, D) (b + 5) = some (.inl (3, 5, .inr (.inr (.inr (.inr (fun i => some (fa b i 0))))))) := at_bus 5 (by decide)
theorem at_f0 (hf : f < 5) : zs b (B, foc F f (ad, bz, nt, o, la, ou, xs, de, st, nm, hd), D) (fa b f 0) = some (.inr (1, [.ref (b + 1), .ref (fa b f 1), .ref (fa b f 2), .ref (fa b f 6), .ref (fa b f 3), .ref (fa b f 4), .int de, .int st, .long nm, .long hd])) := by rw [at_fn 0 hf (by decide), foc_at]; rfl
theorem at_f1 (hf : f < 5) : zs b (B, foc F f (ad, bz, nt, o, la, ou, xs, de, st, nm, hd), D) (fa b f 1) = some (.inr (5, [.int (nI f), .int ad, .int (zb bz)])) := by rw [at_fn 1 hf (by decide), foc_at]; rfl
theorem at_f2 (hf : f < 5) : zs b (B, foc F f (ad, bz, nt, o, la, ou, xs, de, st, nm, hd), D) (fa b f 2) = some (.inl (0, 5, .inl nt)) := by rw [at_fn 2 hf (by decide), foc_at]; rfl
theorem at_f3 (hf : f < 5) : zs b (B, foc F f (ad, bz, nt, o, la, ou, xs, de, st, nm, hd), D) (fa b f 3) = some (.inl (4, 2, .inr (.inr (.inr (.inr (zc_ord b f o)))))) := by rw [at_fn 3 hf (by decide), foc_at]; rfl
theorem at_f4 {pk : Nat → Int64} {so gr si : Int32} {ta : Bool} (hf : f < 5) : zs b (B, foc F f (ad, bz, nt, o, (pk, so, gr, si, ta), ou, xs, de, st, nm, hd), D) (fa b f 4) = some (.inr (3, [.ref (fa b f 5), .int so, .int gr, .int si, .int (zb ta)])) := by rw [at_fn 4 hf (by decide), foc_at]; rfl
theorem at_f5 {pk : Nat → Int64} {so gr si : Int32} {ta : Bool} (hf : f < 5) : zs b (B, foc F f (ad, bz, nt, o, (pk, so, gr, si, ta), ou, xs, de, st, nm, hd), D) (fa b f 5) = some (.inl (1, 7, .inr (.inl pk))) := by rw [at_fn 5 hf (by decide), foc_at]; rfl
theorem at_f6 {ph re tg gp sz nx : Int32} {se du : Int64} (hf : f < 5) : zs b (B, foc F f (ad, bz, nt, o, la, (ph, re, tg, gp, sz, se, nx, du), xs, de, st, nm, hd), D) (fa b f 6) = some (.inr (4, [.ref (b + 1), .ref (fa b f 1), .int ph, .int re, .int tg, .int gp, .int sz, .long se, .int nx, .long du])) := by rw [at_fn 6 hf (by decide), foc_at]; rfl
theorem at_i7 {p : Nat} {pk : Nat → Int64} {so gr si lt ak : Int32} {ta op he : Bool} {ex : Nat} {du : Int64} (hf : f < 5) (hp : p < 2) : zs b (B, foc F f (ad, bz, nt, o, la, ou, foc xs p ((pk, so, gr, si, ta), op, he, ex, lt, ak, du), de, st, nm, hd), D) (fa b f (7 + 3 * p)) = some (.inr (2, [.ref (b + 1), .ref (fa b f 1), .ref (fa b f (8 + 3 * p)), .int (zb op), .int (zb he), .int (nI ex), .int lt, .int ak, .long du])) := by
  rw [at_fn (7 + 3 * p) hf (by omega), foc_at]
  match p, hp with
  | 0, _ => simp only [zc_fn, zc_in, zc_ms, zc_pk, foc_at, Nat.mul_zero, Nat.add_zero]
  | 1, _ => simp only [zc_fn, zc_in, zc_ms, zc_pk, foc_at, Nat.mul_one]
theorem at_i8 {p : Nat} {pk : Nat → Int64} {so gr si lt ak : Int32} {ta op he : Bool} {ex : Nat} {du : Int64} (hf : f < 5) (hp : p < 2) : zs b (B, foc F f (ad, bz, nt, o, la, ou, foc xs p ((pk, so, gr, si, ta), op, he, ex, lt, ak, du), de, st, nm, hd), D) (fa b f (8 + 3 * p)) = some (.inr (3, [.ref (fa b f (9 + 3 * p)), .int so, .int gr, .int si, .int (zb ta)])) := by
  rw [at_fn (8 + 3 * p) hf (by omega), foc_at]
  match p, hp with
  | 0, _ => simp only [zc_fn, zc_in, zc_ms, zc_pk, foc_at, Nat.mul_zero, Nat.add_zero]
  | 1, _ => simp only [zc_fn, zc_in, zc_ms, zc_pk, foc_at, Nat.mul_one]
theorem at_i9 {p : Nat} {pk : Nat → Int64} {so gr si lt ak : Int32} {ta op he : Bool} {ex : Nat} {du : Int64} (hf : f < 5) (hp : p < 2) : zs b (B, foc F f (ad, bz, nt, o, la, ou, foc xs p ((pk, so, gr, si, ta), op, he, ex, lt, ak, du), de, st, nm, hd), D) (fa b f (9 + 3 * p)) = some (.inl (1, 7, .inr (.inl pk))) := by
  rw [at_fn (9 + 3 * p) hf (by omega), foc_at]
  match p, hp with
  | 0, _ => simp only [zc_fn, zc_in, zc_ms, zc_pk, foc_at, Nat.mul_zero, Nat.add_zero]
  | 1, _ => simp only [zc_fn, zc_in, zc_ms, zc_pk, foc_at, Nat.mul_one]
variable {t lo : Int32} {fr : Nat} {I : Nat → Nat → Int32} {J : Nat → Nat → Int64}
theorem at_m : zs b (B, F, (t, fr, lo, I, J)) (b + 71) = some (.inr (7, [.int t, .ref (ma b 0), .ref (ma b 1), .ref (ma b 2), .ref (ma b 3), .ref (ma b 4), .ref (ma b 5), .int (nI fr), .ref (ma b 6), .ref (ma b 7), .ref (ma b 8), .int lo, .ref (ma b 9), .ref (ma b 10), .ref (ma b 11), .ref (ma b 12), .ref (ma b 13), .ref (ma b 14), .ref (ma b 15), .ref (ma b 16), .ref (ma b 17), .ref (ma b 18), .ref (ma b 19), .ref (ma b 20), .ref (ma b 21), .ref (ma b 22), .ref (ma b 23), .ref (ma b 24), .ref (ma b 25), .ref (ma b 26), .ref (ma b 27), .ref (ma b 28), .ref (ma b 29), .ref (ma b 30)])) := at_md 0 (by decide)
theorem at_m0 : zs b (B, F, (t, fr, lo, I, J)) (ma b 0) = some (.inl (0, 5, .inl (I 0))) := at_md 1 (by decide)
theorem at_m1 : zs b (B, F, (t, fr, lo, I, J)) (ma b 1) = some (.inl (0, 5, .inl (I 1))) := at_md 2 (by decide)
theorem at_m2 : zs b (B, F, (t, fr, lo, I, J)) (ma b 2) = some (.inl (1, 5, .inr (.inl (J 2)))) := at_md 3 (by decide)
theorem at_m3 : zs b (B, F, (t, fr, lo, I, J)) (ma b 3) = some (.inl (2, 5, .inl (I 3))) := at_md 4 (by decide)
theorem at_m4 : zs b (B, F, (t, fr, lo, I, J)) (ma b 4) = some (.inl (0, 5, .inl (I 4))) := at_md 5 (by decide)
theorem at_m5 : zs b (B, F, (t, fr, lo, I, J)) (ma b 5) = some (.inl (0, 25, .inl (I 5))) := at_md 6 (by decide)
theorem at_m6 : zs b (B, F, (t, fr, lo, I, J)) (ma b 6) = some (.inl (0, 48, .inl (I 6))) := at_md 7 (by decide)
theorem at_m7 : zs b (B, F, (t, fr, lo, I, J)) (ma b 7) = some (.inl (1, 48, .inr (.inl (J 7)))) := at_md 8 (by decide)
theorem at_m8 : zs b (B, F, (t, fr, lo, I, J)) (ma b 8) = some (.inl (0, 48, .inl (I 8))) := at_md 9 (by decide)
theorem at_m9 : zs b (B, F, (t, fr, lo, I, J)) (ma b 9) = some (.inl (0, 5, .inl (I 9))) := at_md 10 (by decide)
theorem at_m10 : zs b (B, F, (t, fr, lo, I, J)) (ma b 10) = some (.inl (0, 5, .inl (I 10))) := at_md 11 (by decide)
theorem at_m11 : zs b (B, F, (t, fr, lo, I, J)) (ma b 11) = some (.inl (0, 5, .inl (I 11))) := at_md 12 (by decide)
theorem at_m12 : zs b (B, F, (t, fr, lo, I, J)) (ma b 12) = some (.inl (0, 5, .inl (I 12))) := at_md 13 (by decide)
theorem at_m13 : zs b (B, F, (t, fr, lo, I, J)) (ma b 13) = some (.inl (0, 5, .inl (I 13))) := at_md 14 (by decide)
theorem at_m14 : zs b (B, F, (t, fr, lo, I, J)) (ma b 14) = some (.inl (1, 5, .inr (.inl (J 14)))) := at_md 15 (by decide)
theorem at_m15 : zs b (B, F, (t, fr, lo, I, J)) (ma b 15) = some (.inl (0, 5, .inl (I 15))) := at_md 16 (by decide)
theorem at_m16 : zs b (B, F, (t, fr, lo, I, J)) (ma b 16) = some (.inl (0, 5, .inl (I 16))) := at_md 17 (by decide)
theorem at_m17 : zs b (B, F, (t, fr, lo, I, J)) (ma b 17) = some (.inl (0, 5, .inl (I 17))) := at_md 18 (by decide)
theorem at_m18 : zs b (B, F, (t, fr, lo, I, J)) (ma b 18) = some (.inl (2, 10, .inl (I 18))) := at_md 19 (by decide)
theorem at_m19 : zs b (B, F, (t, fr, lo, I, J)) (ma b 19) = some (.inl (0, 10, .inl (I 19))) := at_md 20 (by decide)
theorem at_m20 : zs b (B, F, (t, fr, lo, I, J)) (ma b 20) = some (.inl (0, 10, .inl (I 20))) := at_md 21 (by decide)
theorem at_m21 : zs b (B, F, (t, fr, lo, I, J)) (ma b 21) = some (.inl (0, 10, .inl (I 21))) := at_md 22 (by decide)
theorem at_m22 : zs b (B, F, (t, fr, lo, I, J)) (ma b 22) = some (.inl (0, 10, .inl (I 22))) := at_md 23 (by decide)
theorem at_m23 : zs b (B, F, (t, fr, lo, I, J)) (ma b 23) = some (.inl (0, 10, .inl (I 23))) := at_md 24 (by decide)
theorem at_m24 : zs b (B, F, (t, fr, lo, I, J)) (ma b 24) = some (.inl (0, 10, .inl (I 24))) := at_md 25 (by decide)
theorem at_m25 : zs b (B, F, (t, fr, lo, I, J)) (ma b 25) = some (.inl (2, 10, .inl (I 25))) := at_md 26 (by decide)
theorem at_m26 : zs b (B, F, (t, fr, lo, I, J)) (ma b 26) = some (.inl (0, 10, .inl (I 26))) := at_md 27 (by decide)
theorem at_m27 : zs b (B, F, (t, fr, lo, I, J)) (ma b 27) = some (.inl (0, 490, .inl (I 27))) := at_md 28 (by decide)
theorem at_m28 : zs b (B, F, (t, fr, lo, I, J)) (ma b 28) = some (.inl (0, 5, .inl (I 28))) := at_md 29 (by decide)
theorem at_m29 : zs b (B, F, (t, fr, lo, I, J)) (ma b 29) = some (.inl (0, 20, .inl (I 29))) := at_md 30 (by decide)
theorem at_m30 : zs b (B, F, (t, fr, lo, I, J)) (ma b 30) = some (.inl (0, 245, .inl (I 30))) := at_md 31 (by decide)
variable {ids' snd' nt' : Nat → Int32} {con' : Nat → Int64} {cnt' o' : Nat} {ovf' ad' de' st' : Int32} {now' nm' hd' : Int64} {bz' : Bool}
theorem up_b1 : zx_up (zs b ((ids, con, snd, cnt, ovf, now), F, D)) (b + 1) (.inr (0, [.ref (b + 2), .ref (b + 3), .ref (b + 4), .int (nI cnt'), .int ovf', .long now'])) = zs b ((ids, con, snd, cnt', ovf', now'), F, D) := up_bus 1 (by decide) rfl (fun d h g => match d, h, g with | 0, _, _ => rfl | 1, _, h => absurd rfl h | 2, _, _ => rfl | 3, _, _ => rfl | 4, _, _ => rfl | 5, _, _ => rfl)
theorem up_b2 : zx_up (zs b ((ids, con, snd, cnt, ovf, now), F, D)) (b + 2) (.inl (0, 48, .inl ids')) = zs b ((ids', con, snd, cnt, ovf, now), F, D) := up_bus 2 (by decide) rfl (fun d h g => match d, h, g with | 0, _, _ => rfl | 1, _, _ => rfl | 2, _, h => absurd rfl h | 3, _, _ => rfl | 4, _, _ => rfl | 5, _, _ => rfl)
theorem up_b3 : zx_up (zs b ((ids, con, snd, cnt, ovf, now), F, D)) (b + 3) (.inl (1, 48, .inr (.inl con'))) = zs b ((ids, con', snd, cnt, ovf, now), F, D) := up_bus 3 (by decide) rfl (fun d h g => match d, h, g with | 0, _, _ => rfl | 1, _, _ => rfl | 2, _, _ => rfl | 3, _, h => absurd rfl h | 4, _, _ => rfl | 5, _, _ => rfl)
theorem up_b4 : zx_up (zs b ((ids, con, snd, cnt, ovf, now), F, D)) (b + 4) (.inl (0, 48, .inl snd')) = zs b ((ids, con, snd', cnt, ovf, now), F, D) := up_bus 4 (by decide) rfl (fun d h g => match d, h, g with | 0, _, _ => rfl | 1, _, _ => rfl | 2, _, _ => rfl | 3, _, _ => rfl | 4, _, h => absurd rfl h | 5, _, _ => rfl)
theorem up_f0 (hf : f < 5) : zx_up (zs b (B, foc F f (ad, bz, nt, o, la, ou, xs, de, st, nm, hd), D)) (fa b f 0) (.inr (1, [.ref (b + 1), .ref (fa b f 1), .ref (fa b f 2), .ref (fa b f 6), .ref (fa b f 3), .ref (fa b f 4), .int de', .int st', .long nm', .long hd'])) = zs b (B, foc F f (ad, bz, nt, o, la, ou, xs, de', st', nm', hd'), D) := up_fn 0 hf (by decide) rfl (fun d h g => match d, h, g with | 0, _, h => absurd rfl h | 1, _, _ => rfl | 2, _, _ => rfl | 3, _, _ => rfl | 4, _, _ => rfl | 5, _, _ => rfl | 6, _, _ => rfl | 7, _, _ => rfl | 8, _, _ => rfl | 9, _, _ => rfl | 10, _, _ => rfl | 11, _, _ => rfl | 12, _, _ => rfl)
theorem up_f1 (hf : f < 5) : zx_up (zs b (B, foc F f (ad, bz, nt, o, la, ou, xs, de, st, nm, hd), D)) (fa b f 1) (.inr (5, [.int (nI f), .int ad', .int (zb bz')])) = zs b (B, foc F f (ad', bz', nt, o, la, ou, xs, de, st, nm, hd), D) := up_fn 1 hf (by decide) rfl (fun d h g => match d, h, g with | 0, _, _ => rfl | 1, _, h => absurd rfl h | 2, _, _ => rfl | 3, _, _ => rfl | 4, _, _ => rfl | 5, _, _ => rfl | 6, _, _ => rfl | 7, _, _ => rfl | 8, _, _ => rfl | 9, _, _ => rfl | 10, _, _ => rfl | 11, _, _ => rfl | 12, _, _ => rfl)
theorem up_f2 (hf : f < 5) : zx_up (zs b (B, foc F f (ad, bz, nt, o, la, ou, xs, de, st, nm, hd), D)) (fa b f 2) (.inl (0, 5, .inl nt')) = zs b (B, foc F f (ad, bz, nt', o, la, ou, xs, de, st, nm, hd), D) := up_fn 2 hf (by decide) rfl (fun d h g => match d, h, g with | 0, _, _ => rfl | 1, _, _ => rfl | 2, _, h => absurd rfl h | 3, _, _ => rfl | 4, _, _ => rfl | 5, _, _ => rfl | 6, _, _ => rfl | 7, _, _ => rfl | 8, _, _ => rfl | 9, _, _ => rfl | 10, _, _ => rfl | 11, _, _ => rfl | 12, _, _ => rfl)
theorem up_f4 {pk : Nat → Int64} {so gr si so' gr' si' : Int32} {ta ta' : Bool} (hf : f < 5) : zx_up (zs b (B, foc F f (ad, bz, nt, o, (pk, so, gr, si, ta), ou, xs, de, st, nm, hd), D)) (fa b f 4) (.inr (3, [.ref (fa b f 5), .int so', .int gr', .int si', .int (zb ta')])) = zs b (B, foc F f (ad, bz, nt, o, (pk, so', gr', si', ta'), ou, xs, de, st, nm, hd), D) := up_fn 4 hf (by decide) rfl (fun d h g => match d, h, g with | 0, _, _ => rfl | 1, _, _ => rfl | 2, _, _ => rfl | 3, _, _ => rfl | 4, _, h => absurd rfl h | 5, _, _ => rfl | 6, _, _ => rfl | 7, _, _ => rfl | 8, _, _ => rfl | 9, _, _ => rfl | 10, _, _ => rfl | 11, _, _ => rfl | 12, _, _ => rfl)
theorem up_f5 {pk pk' : Nat → Int64} {so gr si : Int32} {ta : Bool} (hf : f < 5) : zx_up (zs b (B, foc F f (ad, bz, nt, o, (pk, so, gr, si, ta), ou, xs, de, st, nm, hd), D)) (fa b f 5) (.inl (1, 7, .inr (.inl pk'))) = zs b (B, foc F f (ad, bz, nt, o, (pk', so, gr, si, ta), ou, xs, de, st, nm, hd), D) := up_fn 5 hf (by decide) rfl (fun d h g => match d, h, g with | 0, _, _ => rfl | 1, _, _ => rfl | 2, _, _ => rfl | 3, _, _ => rfl | 4, _, _ => rfl | 5, _, h => absurd rfl h | 6, _, _ => rfl | 7, _, _ => rfl | 8, _, _ => rfl | 9, _, _ => rfl | 10, _, _ => rfl | 11, _, _ => rfl | 12, _, _ => rfl)
theorem up_f6 {ph re tg gp sz nx ph' re' tg' gp' sz' nx' : Int32} {se du se' du' : Int64} (hf : f < 5) : zx_up (zs b (B, foc F f (ad, bz, nt, o, la, (ph, re, tg, gp, sz, se, nx, du), xs, de, st, nm, hd), D)) (fa b f 6) (.inr (4, [.ref (b + 1), .ref (fa b f 1), .int ph', .int re', .int tg', .int gp', .int sz', .long se', .int nx', .long du'])) = zs b (B, foc F f (ad, bz, nt, o, la, (ph', re', tg', gp', sz', se', nx', du'), xs, de, st, nm, hd), D) := up_fn 6 hf (by decide) rfl (fun d h g => match d, h, g with | 0, _, _ => rfl | 1, _, _ => rfl | 2, _, _ => rfl | 3, _, _ => rfl | 4, _, _ => rfl | 5, _, _ => rfl | 6, _, h => absurd rfl h | 7, _, _ => rfl | 8, _, _ => rfl | 9, _, _ => rfl | 10, _, _ => rfl | 11, _, _ => rfl | 12, _, _ => rfl)
theorem up_i7 {p : Nat} {pk : Nat → Int64} {so gr si lt ak : Int32} {ta op he : Bool} {ex : Nat} {du : Int64} {lt' ak' : Int32} {op' he' : Bool} {ex' : Nat} {du' : Int64} (hf : f < 5) (hp : p < 2) : zx_up (zs b (B, foc F f (ad, bz, nt, o, la, ou, foc xs p ((pk, so, gr, si, ta), op, he, ex, lt, ak, du), de, st, nm, hd), D)) (fa b f (7 + 3 * p)) (.inr (2, [.ref (b + 1), .ref (fa b f 1), .ref (fa b f (8 + 3 * p)), .int (zb op'), .int (zb he'), .int (nI ex'), .int lt', .int ak', .long du'])) = zs b (B, foc F f (ad, bz, nt, o, la, ou, foc xs p ((pk, so, gr, si, ta), op', he', ex', lt', ak', du'), de, st, nm, hd), D) := by
  match p, hp with
  | 0, _ =>
    refine up_fn 7 hf (by decide) ?_ (fun d h g => ?_)
    · simp only [zc_fn, zc_in, zc_ms, zc_pk, foc_at] <;> rfl
    · match d, h, g with
      | 0, _, _ => rfl
      | 1, _, _ => rfl
      | 2, _, _ => rfl
      | 3, _, _ => rfl
      | 4, _, _ => rfl
      | 5, _, _ => rfl
      | 6, _, _ => rfl
      | 7, _, g => exact absurd rfl g
      | 8, _, _ => simp only [zc_fn, zc_in, zc_ms, zc_pk, foc_at]
      | 9, _, _ => simp only [zc_fn, zc_in, zc_ms, zc_pk, foc_at]
      | 10, _, _ => simp only [zc_fn, zc_in, zc_ms, zc_pk, foc_ne xs _ (show 1 ≠ 0 by decide)]
      | 11, _, _ => simp only [zc_fn, zc_in, zc_ms, zc_pk, foc_ne xs _ (show 1 ≠ 0 by decide)]
      | 12, _, _ => simp only [zc_fn, zc_in, zc_ms, zc_pk, foc_ne xs _ (show 1 ≠ 0 by decide)]
  | 1, _ =>
    refine up_fn 10 hf (by decide) ?_ (fun d h g => ?_)
    · simp only [zc_fn, zc_in, zc_ms, zc_pk, foc_at] <;> rfl
    · match d, h, g with
      | 0, _, _ => rfl
      | 1, _, _ => rfl
      | 2, _, _ => rfl
      | 3, _, _ => rfl
      | 4, _, _ => rfl
      | 5, _, _ => rfl
      | 6, _, _ => rfl
      | 7, _, _ => simp only [zc_fn, zc_in, zc_ms, zc_pk, foc_ne xs _ (show 0 ≠ 1 by decide)]
      | 8, _, _ => simp only [zc_fn, zc_in, zc_ms, zc_pk, foc_ne xs _ (show 0 ≠ 1 by decide)]
      | 9, _, _ => simp only [zc_fn, zc_in, zc_ms, zc_pk, foc_ne xs _ (show 0 ≠ 1 by decide)]
      | 10, _, g => exact absurd rfl g
      | 11, _, _ => simp only [zc_fn, zc_in, zc_ms, zc_pk, foc_at]
      | 12, _, _ => simp only [zc_fn, zc_in, zc_ms, zc_pk, foc_at]
theorem up_i8 {p : Nat} {pk : Nat → Int64} {so gr si lt ak : Int32} {ta op he : Bool} {ex : Nat} {du : Int64} {so' gr' si' : Int32} {ta' : Bool} (hf : f < 5) (hp : p < 2) : zx_up (zs b (B, foc F f (ad, bz, nt, o, la, ou, foc xs p ((pk, so, gr, si, ta), op, he, ex, lt, ak, du), de, st, nm, hd), D)) (fa b f (8 + 3 * p)) (.inr (3, [.ref (fa b f (9 + 3 * p)), .int so', .int gr', .int si', .int (zb ta')])) = zs b (B, foc F f (ad, bz, nt, o, la, ou, foc xs p ((pk, so', gr', si', ta'), op, he, ex, lt, ak, du), de, st, nm, hd), D) := by
  match p, hp with
  | 0, _ =>
    refine up_fn 8 hf (by decide) ?_ (fun d h g => ?_)
    · simp only [zc_fn, zc_in, zc_ms, zc_pk, foc_at] <;> rfl
    · match d, h, g with
      | 0, _, _ => rfl
      | 1, _, _ => rfl
      | 2, _, _ => rfl
      | 3, _, _ => rfl
      | 4, _, _ => rfl
      | 5, _, _ => rfl
      | 6, _, _ => rfl
      | 7, _, _ => simp only [zc_fn, zc_in, zc_ms, zc_pk, foc_at]
      | 8, _, g => exact absurd rfl g
      | 9, _, _ => simp only [zc_fn, zc_in, zc_ms, zc_pk, foc_at]
      | 10, _, _ => simp only [zc_fn, zc_in, zc_ms, zc_pk, foc_ne xs _ (show 1 ≠ 0 by decide)]
      | 11, _, _ => simp only [zc_fn, zc_in, zc_ms, zc_pk, foc_ne xs _ (show 1 ≠ 0 by decide)]
      | 12, _, _ => simp only [zc_fn, zc_in, zc_ms, zc_pk, foc_ne xs _ (show 1 ≠ 0 by decide)]
  | 1, _ =>
    refine up_fn 11 hf (by decide) ?_ (fun d h g => ?_)
    · simp only [zc_fn, zc_in, zc_ms, zc_pk, foc_at] <;> rfl
    · match d, h, g with
      | 0, _, _ => rfl
      | 1, _, _ => rfl
      | 2, _, _ => rfl
      | 3, _, _ => rfl
      | 4, _, _ => rfl
      | 5, _, _ => rfl
      | 6, _, _ => rfl
      | 7, _, _ => simp only [zc_fn, zc_in, zc_ms, zc_pk, foc_ne xs _ (show 0 ≠ 1 by decide)]
      | 8, _, _ => simp only [zc_fn, zc_in, zc_ms, zc_pk, foc_ne xs _ (show 0 ≠ 1 by decide)]
      | 9, _, _ => simp only [zc_fn, zc_in, zc_ms, zc_pk, foc_ne xs _ (show 0 ≠ 1 by decide)]
      | 10, _, _ => simp only [zc_fn, zc_in, zc_ms, zc_pk, foc_at]
      | 11, _, g => exact absurd rfl g
      | 12, _, _ => simp only [zc_fn, zc_in, zc_ms, zc_pk, foc_at]
theorem up_i9 {p : Nat} {pk : Nat → Int64} {so gr si lt ak : Int32} {ta op he : Bool} {ex : Nat} {du : Int64} {pk' : Nat → Int64} (hf : f < 5) (hp : p < 2) : zx_up (zs b (B, foc F f (ad, bz, nt, o, la, ou, foc xs p ((pk, so, gr, si, ta), op, he, ex, lt, ak, du), de, st, nm, hd), D)) (fa b f (9 + 3 * p)) (.inl (1, 7, .inr (.inl pk'))) = zs b (B, foc F f (ad, bz, nt, o, la, ou, foc xs p ((pk', so, gr, si, ta), op, he, ex, lt, ak, du), de, st, nm, hd), D) := by
  match p, hp with
  | 0, _ =>
    refine up_fn 9 hf (by decide) ?_ (fun d h g => ?_)
    · simp only [zc_fn, zc_in, zc_ms, zc_pk, foc_at] <;> rfl
    · match d, h, g with
      | 0, _, _ => rfl
      | 1, _, _ => rfl
      | 2, _, _ => rfl
      | 3, _, _ => rfl
      | 4, _, _ => rfl
      | 5, _, _ => rfl
      | 6, _, _ => rfl
      | 7, _, _ => simp only [zc_fn, zc_in, zc_ms, zc_pk, foc_at]
      | 8, _, _ => simp only [zc_fn, zc_in, zc_ms, zc_pk, foc_at]
      | 9, _, g => exact absurd rfl g
      | 10, _, _ => simp only [zc_fn, zc_in, zc_ms, zc_pk, foc_ne xs _ (show 1 ≠ 0 by decide)]
      | 11, _, _ => simp only [zc_fn, zc_in, zc_ms, zc_pk, foc_ne xs _ (show 1 ≠ 0 by decide)]
      | 12, _, _ => simp only [zc_fn, zc_in, zc_ms, zc_pk, foc_ne xs _ (show 1 ≠ 0 by decide)]
  | 1, _ =>
    refine up_fn 12 hf (by decide) ?_ (fun d h g => ?_)
    · simp only [zc_fn, zc_in, zc_ms, zc_pk, foc_at] <;> rfl
    · match d, h, g with
      | 0, _, _ => rfl
      | 1, _, _ => rfl
      | 2, _, _ => rfl
      | 3, _, _ => rfl
      | 4, _, _ => rfl
      | 5, _, _ => rfl
      | 6, _, _ => rfl
      | 7, _, _ => simp only [zc_fn, zc_in, zc_ms, zc_pk, foc_ne xs _ (show 0 ≠ 1 by decide)]
      | 8, _, _ => simp only [zc_fn, zc_in, zc_ms, zc_pk, foc_ne xs _ (show 0 ≠ 1 by decide)]
      | 9, _, _ => simp only [zc_fn, zc_in, zc_ms, zc_pk, foc_ne xs _ (show 0 ≠ 1 by decide)]
      | 10, _, _ => simp only [zc_fn, zc_in, zc_ms, zc_pk, foc_at]
      | 11, _, _ => simp only [zc_fn, zc_in, zc_ms, zc_pk, foc_at]
      | 12, _, g => exact absurd rfl g
def up2 {α : Type} (I : Nat → Nat → α) (k i : Nat) (v : α) : Nat → Nat → α := fun a j => if a = k then (if j = i then v else I a j) else I a j
theorem up2_at {α : Type} (I : Nat → Nat → α) (k i : Nat) (v : α) : up2 I k i v k = fun j => if j = i then v else I k j := by
  funext j
  unfold up2
  rw [if_pos rfl]
theorem up2_ne {α : Type} (I : Nat → Nat → α) {k a : Nat} (i : Nat) (v : α) (h : a ≠ k) : up2 I k i v a = I a := by
  funext j
  unfold up2
  rw [if_neg h]
variable {t' lo' : Int32} {fr' : Nat}
theorem up_m : zx_up (zs b (B, F, (t, fr, lo, I, J))) (b + 71) (.inr (7, [.int t', .ref (ma b 0), .ref (ma b 1), .ref (ma b 2), .ref (ma b 3), .ref (ma b 4), .ref (ma b 5), .int (nI fr'), .ref (ma b 6), .ref (ma b 7), .ref (ma b 8), .int lo', .ref (ma b 9), .ref (ma b 10), .ref (ma b 11), .ref (ma b 12), .ref (ma b 13), .ref (ma b 14), .ref (ma b 15), .ref (ma b 16), .ref (ma b 17), .ref (ma b 18), .ref (ma b 19), .ref (ma b 20), .ref (ma b 21), .ref (ma b 22), .ref (ma b 23), .ref (ma b 24), .ref (ma b 25), .ref (ma b 26), .ref (ma b 27), .ref (ma b 28), .ref (ma b 29), .ref (ma b 30)])) = zs b (B, F, (t', fr', lo', I, J)) := up_md 0 (by decide) rfl (fun d h g => match d, h, g with | 0, _, h => absurd rfl h | 1, _, _ => rfl | 2, _, _ => rfl | 3, _, _ => rfl | 4, _, _ => rfl | 5, _, _ => rfl | 6, _, _ => rfl | 7, _, _ => rfl | 8, _, _ => rfl | 9, _, _ => rfl | 10, _, _ => rfl | 11, _, _ => rfl | 12, _, _ => rfl | 13, _, _ => rfl | 14, _, _ => rfl | 15, _, _ => rfl | 16, _, _ => rfl | 17, _, _ => rfl | 18, _, _ => rfl | 19, _, _ => rfl | 20, _, _ => rfl | 21, _, _ => rfl | 22, _, _ => rfl | 23, _, _ => rfl | 24, _, _ => rfl | 25, _, _ => rfl | 26, _, _ => rfl | 27, _, _ => rfl | 28, _, _ => rfl | 29, _, _ => rfl | 30, _, _ => rfl | 31, _, _ => rfl | j + 32, h, _ => absurd h (by omega))
theorem up_m0 {i : Nat} {v : Int32} : zx_up (zs b (B, F, (t, fr, lo, I, J))) (ma b 0) (.inl (0, 5, .inl (upd (I 0) i v))) = zs b (B, F, (t, fr, lo, up2 I 0 i v, J)) := by
  refine up_md 1 (by decide) ?_ (fun d h g => ?_)
  · simp only [zc_md, up2_at]; rfl
  · match d, h, g with
    | 0, _, _ => rfl
    | 1, _, g => exact absurd rfl g
    | 2, _, _ => simp only [zc_md, up2_ne _ _ _ (show 1 ≠ 0 by decide)]
    | 3, _, _ => rfl
    | 4, _, _ => simp only [zc_md, up2_ne _ _ _ (show 3 ≠ 0 by decide)]
    | 5, _, _ => simp only [zc_md, up2_ne _ _ _ (show 4 ≠ 0 by decide)]
    | 6, _, _ => simp only [zc_md, up2_ne _ _ _ (show 5 ≠ 0 by decide)]
    | 7, _, _ => simp only [zc_md, up2_ne _ _ _ (show 6 ≠ 0 by decide)]
    | 8, _, _ => rfl
    | 9, _, _ => simp only [zc_md, up2_ne _ _ _ (show 8 ≠ 0 by decide)]
    | 10, _, _ => simp only [zc_md, up2_ne _ _ _ (show 9 ≠ 0 by decide)]
    | 11, _, _ => simp only [zc_md, up2_ne _ _ _ (show 10 ≠ 0 by decide)]
    | 12, _, _ => simp only [zc_md, up2_ne _ _ _ (show 11 ≠ 0 by decide)]
    | 13, _, _ => simp only [zc_md, up2_ne _ _ _ (show 12 ≠ 0 by decide)]
    | 14, _, _ => simp only [zc_md, up2_ne _ _ _ (show 13 ≠ 0 by decide)]
    | 15, _, _ => rfl
    | 16, _, _ => simp only [zc_md, up2_ne _ _ _ (show 15 ≠ 0 by decide)]
    | 17, _, _ => simp only [zc_md, up2_ne _ _ _ (show 16 ≠ 0 by decide)]
    | 18, _, _ => simp only [zc_md, up2_ne _ _ _ (show 17 ≠ 0 by decide)]
    | 19, _, _ => simp only [zc_md, up2_ne _ _ _ (show 18 ≠ 0 by decide)]
    | 20, _, _ => simp only [zc_md, up2_ne _ _ _ (show 19 ≠ 0 by decide)]
    | 21, _, _ => simp only [zc_md, up2_ne _ _ _ (show 20 ≠ 0 by decide)]
    | 22, _, _ => simp only [zc_md, up2_ne _ _ _ (show 21 ≠ 0 by decide)]
    | 23, _, _ => simp only [zc_md, up2_ne _ _ _ (show 22 ≠ 0 by decide)]
    | 24, _, _ => simp only [zc_md, up2_ne _ _ _ (show 23 ≠ 0 by decide)]
    | 25, _, _ => simp only [zc_md, up2_ne _ _ _ (show 24 ≠ 0 by decide)]
    | 26, _, _ => simp only [zc_md, up2_ne _ _ _ (show 25 ≠ 0 by decide)]
    | 27, _, _ => simp only [zc_md, up2_ne _ _ _ (show 26 ≠ 0 by decide)]
    | 28, _, _ => simp only [zc_md, up2_ne _ _ _ (show 27 ≠ 0 by decide)]
    | 29, _, _ => simp only [zc_md, up2_ne _ _ _ (show 28 ≠ 0 by decide)]
    | 30, _, _ => simp only [zc_md, up2_ne _ _ _ (show 29 ≠ 0 by decide)]
    | 31, _, _ => simp only [zc_md, up2_ne _ _ _ (show 30 ≠ 0 by decide)]
    | j + 32, h, _ => exact absurd h (by omega)
theorem up_m1 {i : Nat} {v : Int32} : zx_up (zs b (B, F, (t, fr, lo, I, J))) (ma b 1) (.inl (0, 5, .inl (upd (I 1) i v))) = zs b (B, F, (t, fr, lo, up2 I 1 i v, J)) := by
  refine up_md 2 (by decide) ?_ (fun d h g => ?_)
  · simp only [zc_md, up2_at]; rfl
  · match d, h, g with
    | 0, _, _ => rfl
    | 1, _, _ => simp only [zc_md, up2_ne _ _ _ (show 0 ≠ 1 by decide)]
    | 2, _, g => exact absurd rfl g
    | 3, _, _ => rfl
    | 4, _, _ => simp only [zc_md, up2_ne _ _ _ (show 3 ≠ 1 by decide)]
    | 5, _, _ => simp only [zc_md, up2_ne _ _ _ (show 4 ≠ 1 by decide)]
    | 6, _, _ => simp only [zc_md, up2_ne _ _ _ (show 5 ≠ 1 by decide)]
    | 7, _, _ => simp only [zc_md, up2_ne _ _ _ (show 6 ≠ 1 by decide)]
    | 8, _, _ => rfl
    | 9, _, _ => simp only [zc_md, up2_ne _ _ _ (show 8 ≠ 1 by decide)]
    | 10, _, _ => simp only [zc_md, up2_ne _ _ _ (show 9 ≠ 1 by decide)]
    | 11, _, _ => simp only [zc_md, up2_ne _ _ _ (show 10 ≠ 1 by decide)]
    | 12, _, _ => simp only [zc_md, up2_ne _ _ _ (show 11 ≠ 1 by decide)]
    | 13, _, _ => simp only [zc_md, up2_ne _ _ _ (show 12 ≠ 1 by decide)]
    | 14, _, _ => simp only [zc_md, up2_ne _ _ _ (show 13 ≠ 1 by decide)]
    | 15, _, _ => rfl
    | 16, _, _ => simp only [zc_md, up2_ne _ _ _ (show 15 ≠ 1 by decide)]
    | 17, _, _ => simp only [zc_md, up2_ne _ _ _ (show 16 ≠ 1 by decide)]
    | 18, _, _ => simp only [zc_md, up2_ne _ _ _ (show 17 ≠ 1 by decide)]
    | 19, _, _ => simp only [zc_md, up2_ne _ _ _ (show 18 ≠ 1 by decide)]
    | 20, _, _ => simp only [zc_md, up2_ne _ _ _ (show 19 ≠ 1 by decide)]
    | 21, _, _ => simp only [zc_md, up2_ne _ _ _ (show 20 ≠ 1 by decide)]
    | 22, _, _ => simp only [zc_md, up2_ne _ _ _ (show 21 ≠ 1 by decide)]
    | 23, _, _ => simp only [zc_md, up2_ne _ _ _ (show 22 ≠ 1 by decide)]
    | 24, _, _ => simp only [zc_md, up2_ne _ _ _ (show 23 ≠ 1 by decide)]
    | 25, _, _ => simp only [zc_md, up2_ne _ _ _ (show 24 ≠ 1 by decide)]
    | 26, _, _ => simp only [zc_md, up2_ne _ _ _ (show 25 ≠ 1 by decide)]
    | 27, _, _ => simp only [zc_md, up2_ne _ _ _ (show 26 ≠ 1 by decide)]
    | 28, _, _ => simp only [zc_md, up2_ne _ _ _ (show 27 ≠ 1 by decide)]
    | 29, _, _ => simp only [zc_md, up2_ne _ _ _ (show 28 ≠ 1 by decide)]
    | 30, _, _ => simp only [zc_md, up2_ne _ _ _ (show 29 ≠ 1 by decide)]
    | 31, _, _ => simp only [zc_md, up2_ne _ _ _ (show 30 ≠ 1 by decide)]
    | j + 32, h, _ => exact absurd h (by omega)
theorem up_m2 {i : Nat} {v : Int64} : zx_up (zs b (B, F, (t, fr, lo, I, J))) (ma b 2) (.inl (1, 5, .inr (.inl (vp_updL (J 2) i v)))) = zs b (B, F, (t, fr, lo, I, up2 J 2 i v)) := by
  refine up_md 3 (by decide) ?_ (fun d h g => ?_)
  · simp only [zc_md, up2_at]; rfl
  · match d, h, g with
    | 0, _, _ => rfl
    | 1, _, _ => rfl
    | 2, _, _ => rfl
    | 3, _, g => exact absurd rfl g
    | 4, _, _ => rfl
    | 5, _, _ => rfl
    | 6, _, _ => rfl
    | 7, _, _ => rfl
    | 8, _, _ => simp only [zc_md, up2_ne _ _ _ (show 7 ≠ 2 by decide)]
    | 9, _, _ => rfl
    | 10, _, _ => rfl
    | 11, _, _ => rfl
    | 12, _, _ => rfl
    | 13, _, _ => rfl
    | 14, _, _ => rfl
    | 15, _, _ => simp only [zc_md, up2_ne _ _ _ (show 14 ≠ 2 by decide)]
    | 16, _, _ => rfl
    | 17, _, _ => rfl
    | 18, _, _ => rfl
    | 19, _, _ => rfl
    | 20, _, _ => rfl
    | 21, _, _ => rfl
    | 22, _, _ => rfl
    | 23, _, _ => rfl
    | 24, _, _ => rfl
    | 25, _, _ => rfl
    | 26, _, _ => rfl
    | 27, _, _ => rfl
    | 28, _, _ => rfl
    | 29, _, _ => rfl
    | 30, _, _ => rfl
    | 31, _, _ => rfl
    | j + 32, h, _ => exact absurd h (by omega)
theorem up_m3 {i : Nat} {v : Int32} : zx_up (zs b (B, F, (t, fr, lo, I, J))) (ma b 3) (.inl (2, 5, .inl (upd (I 3) i v))) = zs b (B, F, (t, fr, lo, up2 I 3 i v, J)) := by
  refine up_md 4 (by decide) ?_ (fun d h g => ?_)
  · simp only [zc_md, up2_at]; rfl
  · match d, h, g with
    | 0, _, _ => rfl
    | 1, _, _ => simp only [zc_md, up2_ne _ _ _ (show 0 ≠ 3 by decide)]
    | 2, _, _ => simp only [zc_md, up2_ne _ _ _ (show 1 ≠ 3 by decide)]
    | 3, _, _ => rfl
    | 4, _, g => exact absurd rfl g
    | 5, _, _ => simp only [zc_md, up2_ne _ _ _ (show 4 ≠ 3 by decide)]
    | 6, _, _ => simp only [zc_md, up2_ne _ _ _ (show 5 ≠ 3 by decide)]
    | 7, _, _ => simp only [zc_md, up2_ne _ _ _ (show 6 ≠ 3 by decide)]
    | 8, _, _ => rfl
    | 9, _, _ => simp only [zc_md, up2_ne _ _ _ (show 8 ≠ 3 by decide)]
    | 10, _, _ => simp only [zc_md, up2_ne _ _ _ (show 9 ≠ 3 by decide)]
    | 11, _, _ => simp only [zc_md, up2_ne _ _ _ (show 10 ≠ 3 by decide)]
    | 12, _, _ => simp only [zc_md, up2_ne _ _ _ (show 11 ≠ 3 by decide)]
    | 13, _, _ => simp only [zc_md, up2_ne _ _ _ (show 12 ≠ 3 by decide)]
    | 14, _, _ => simp only [zc_md, up2_ne _ _ _ (show 13 ≠ 3 by decide)]
    | 15, _, _ => rfl
    | 16, _, _ => simp only [zc_md, up2_ne _ _ _ (show 15 ≠ 3 by decide)]
    | 17, _, _ => simp only [zc_md, up2_ne _ _ _ (show 16 ≠ 3 by decide)]
    | 18, _, _ => simp only [zc_md, up2_ne _ _ _ (show 17 ≠ 3 by decide)]
    | 19, _, _ => simp only [zc_md, up2_ne _ _ _ (show 18 ≠ 3 by decide)]
    | 20, _, _ => simp only [zc_md, up2_ne _ _ _ (show 19 ≠ 3 by decide)]
    | 21, _, _ => simp only [zc_md, up2_ne _ _ _ (show 20 ≠ 3 by decide)]
    | 22, _, _ => simp only [zc_md, up2_ne _ _ _ (show 21 ≠ 3 by decide)]
    | 23, _, _ => simp only [zc_md, up2_ne _ _ _ (show 22 ≠ 3 by decide)]
    | 24, _, _ => simp only [zc_md, up2_ne _ _ _ (show 23 ≠ 3 by decide)]
    | 25, _, _ => simp only [zc_md, up2_ne _ _ _ (show 24 ≠ 3 by decide)]
    | 26, _, _ => simp only [zc_md, up2_ne _ _ _ (show 25 ≠ 3 by decide)]
    | 27, _, _ => simp only [zc_md, up2_ne _ _ _ (show 26 ≠ 3 by decide)]
    | 28, _, _ => simp only [zc_md, up2_ne _ _ _ (show 27 ≠ 3 by decide)]
    | 29, _, _ => simp only [zc_md, up2_ne _ _ _ (show 28 ≠ 3 by decide)]
    | 30, _, _ => simp only [zc_md, up2_ne _ _ _ (show 29 ≠ 3 by decide)]
    | 31, _, _ => simp only [zc_md, up2_ne _ _ _ (show 30 ≠ 3 by decide)]
    | j + 32, h, _ => exact absurd h (by omega)
theorem up_m4 {i : Nat} {v : Int32} : zx_up (zs b (B, F, (t, fr, lo, I, J))) (ma b 4) (.inl (0, 5, .inl (upd (I 4) i v))) = zs b (B, F, (t, fr, lo, up2 I 4 i v, J)) := by
  refine up_md 5 (by decide) ?_ (fun d h g => ?_)
  · simp only [zc_md, up2_at]; rfl
  · match d, h, g with
    | 0, _, _ => rfl
    | 1, _, _ => simp only [zc_md, up2_ne _ _ _ (show 0 ≠ 4 by decide)]
    | 2, _, _ => simp only [zc_md, up2_ne _ _ _ (show 1 ≠ 4 by decide)]
    | 3, _, _ => rfl
    | 4, _, _ => simp only [zc_md, up2_ne _ _ _ (show 3 ≠ 4 by decide)]
    | 5, _, g => exact absurd rfl g
    | 6, _, _ => simp only [zc_md, up2_ne _ _ _ (show 5 ≠ 4 by decide)]
    | 7, _, _ => simp only [zc_md, up2_ne _ _ _ (show 6 ≠ 4 by decide)]
    | 8, _, _ => rfl
    | 9, _, _ => simp only [zc_md, up2_ne _ _ _ (show 8 ≠ 4 by decide)]
    | 10, _, _ => simp only [zc_md, up2_ne _ _ _ (show 9 ≠ 4 by decide)]
    | 11, _, _ => simp only [zc_md, up2_ne _ _ _ (show 10 ≠ 4 by decide)]
    | 12, _, _ => simp only [zc_md, up2_ne _ _ _ (show 11 ≠ 4 by decide)]
    | 13, _, _ => simp only [zc_md, up2_ne _ _ _ (show 12 ≠ 4 by decide)]
    | 14, _, _ => simp only [zc_md, up2_ne _ _ _ (show 13 ≠ 4 by decide)]
    | 15, _, _ => rfl
    | 16, _, _ => simp only [zc_md, up2_ne _ _ _ (show 15 ≠ 4 by decide)]
    | 17, _, _ => simp only [zc_md, up2_ne _ _ _ (show 16 ≠ 4 by decide)]
    | 18, _, _ => simp only [zc_md, up2_ne _ _ _ (show 17 ≠ 4 by decide)]
    | 19, _, _ => simp only [zc_md, up2_ne _ _ _ (show 18 ≠ 4 by decide)]
    | 20, _, _ => simp only [zc_md, up2_ne _ _ _ (show 19 ≠ 4 by decide)]
    | 21, _, _ => simp only [zc_md, up2_ne _ _ _ (show 20 ≠ 4 by decide)]
    | 22, _, _ => simp only [zc_md, up2_ne _ _ _ (show 21 ≠ 4 by decide)]
    | 23, _, _ => simp only [zc_md, up2_ne _ _ _ (show 22 ≠ 4 by decide)]
    | 24, _, _ => simp only [zc_md, up2_ne _ _ _ (show 23 ≠ 4 by decide)]
    | 25, _, _ => simp only [zc_md, up2_ne _ _ _ (show 24 ≠ 4 by decide)]
    | 26, _, _ => simp only [zc_md, up2_ne _ _ _ (show 25 ≠ 4 by decide)]
    | 27, _, _ => simp only [zc_md, up2_ne _ _ _ (show 26 ≠ 4 by decide)]
    | 28, _, _ => simp only [zc_md, up2_ne _ _ _ (show 27 ≠ 4 by decide)]
    | 29, _, _ => simp only [zc_md, up2_ne _ _ _ (show 28 ≠ 4 by decide)]
    | 30, _, _ => simp only [zc_md, up2_ne _ _ _ (show 29 ≠ 4 by decide)]
    | 31, _, _ => simp only [zc_md, up2_ne _ _ _ (show 30 ≠ 4 by decide)]
    | j + 32, h, _ => exact absurd h (by omega)
theorem up_m5 {i : Nat} {v : Int32} : zx_up (zs b (B, F, (t, fr, lo, I, J))) (ma b 5) (.inl (0, 25, .inl (upd (I 5) i v))) = zs b (B, F, (t, fr, lo, up2 I 5 i v, J)) := by
  refine up_md 6 (by decide) ?_ (fun d h g => ?_)
  · simp only [zc_md, up2_at]; rfl
  · match d, h, g with
    | 0, _, _ => rfl
    | 1, _, _ => simp only [zc_md, up2_ne _ _ _ (show 0 ≠ 5 by decide)]
    | 2, _, _ => simp only [zc_md, up2_ne _ _ _ (show 1 ≠ 5 by decide)]
    | 3, _, _ => rfl
    | 4, _, _ => simp only [zc_md, up2_ne _ _ _ (show 3 ≠ 5 by decide)]
    | 5, _, _ => simp only [zc_md, up2_ne _ _ _ (show 4 ≠ 5 by decide)]
    | 6, _, g => exact absurd rfl g
    | 7, _, _ => simp only [zc_md, up2_ne _ _ _ (show 6 ≠ 5 by decide)]
    | 8, _, _ => rfl
    | 9, _, _ => simp only [zc_md, up2_ne _ _ _ (show 8 ≠ 5 by decide)]
    | 10, _, _ => simp only [zc_md, up2_ne _ _ _ (show 9 ≠ 5 by decide)]
    | 11, _, _ => simp only [zc_md, up2_ne _ _ _ (show 10 ≠ 5 by decide)]
    | 12, _, _ => simp only [zc_md, up2_ne _ _ _ (show 11 ≠ 5 by decide)]
    | 13, _, _ => simp only [zc_md, up2_ne _ _ _ (show 12 ≠ 5 by decide)]
    | 14, _, _ => simp only [zc_md, up2_ne _ _ _ (show 13 ≠ 5 by decide)]
    | 15, _, _ => rfl
    | 16, _, _ => simp only [zc_md, up2_ne _ _ _ (show 15 ≠ 5 by decide)]
    | 17, _, _ => simp only [zc_md, up2_ne _ _ _ (show 16 ≠ 5 by decide)]
    | 18, _, _ => simp only [zc_md, up2_ne _ _ _ (show 17 ≠ 5 by decide)]
    | 19, _, _ => simp only [zc_md, up2_ne _ _ _ (show 18 ≠ 5 by decide)]
    | 20, _, _ => simp only [zc_md, up2_ne _ _ _ (show 19 ≠ 5 by decide)]
    | 21, _, _ => simp only [zc_md, up2_ne _ _ _ (show 20 ≠ 5 by decide)]
    | 22, _, _ => simp only [zc_md, up2_ne _ _ _ (show 21 ≠ 5 by decide)]
    | 23, _, _ => simp only [zc_md, up2_ne _ _ _ (show 22 ≠ 5 by decide)]
    | 24, _, _ => simp only [zc_md, up2_ne _ _ _ (show 23 ≠ 5 by decide)]
    | 25, _, _ => simp only [zc_md, up2_ne _ _ _ (show 24 ≠ 5 by decide)]
    | 26, _, _ => simp only [zc_md, up2_ne _ _ _ (show 25 ≠ 5 by decide)]
    | 27, _, _ => simp only [zc_md, up2_ne _ _ _ (show 26 ≠ 5 by decide)]
    | 28, _, _ => simp only [zc_md, up2_ne _ _ _ (show 27 ≠ 5 by decide)]
    | 29, _, _ => simp only [zc_md, up2_ne _ _ _ (show 28 ≠ 5 by decide)]
    | 30, _, _ => simp only [zc_md, up2_ne _ _ _ (show 29 ≠ 5 by decide)]
    | 31, _, _ => simp only [zc_md, up2_ne _ _ _ (show 30 ≠ 5 by decide)]
    | j + 32, h, _ => exact absurd h (by omega)
theorem up_m6 {i : Nat} {v : Int32} : zx_up (zs b (B, F, (t, fr, lo, I, J))) (ma b 6) (.inl (0, 48, .inl (upd (I 6) i v))) = zs b (B, F, (t, fr, lo, up2 I 6 i v, J)) := by
  refine up_md 7 (by decide) ?_ (fun d h g => ?_)
  · simp only [zc_md, up2_at]; rfl
  · match d, h, g with
    | 0, _, _ => rfl
    | 1, _, _ => simp only [zc_md, up2_ne _ _ _ (show 0 ≠ 6 by decide)]
    | 2, _, _ => simp only [zc_md, up2_ne _ _ _ (show 1 ≠ 6 by decide)]
    | 3, _, _ => rfl
    | 4, _, _ => simp only [zc_md, up2_ne _ _ _ (show 3 ≠ 6 by decide)]
    | 5, _, _ => simp only [zc_md, up2_ne _ _ _ (show 4 ≠ 6 by decide)]
    | 6, _, _ => simp only [zc_md, up2_ne _ _ _ (show 5 ≠ 6 by decide)]
    | 7, _, g => exact absurd rfl g
    | 8, _, _ => rfl
    | 9, _, _ => simp only [zc_md, up2_ne _ _ _ (show 8 ≠ 6 by decide)]
    | 10, _, _ => simp only [zc_md, up2_ne _ _ _ (show 9 ≠ 6 by decide)]
    | 11, _, _ => simp only [zc_md, up2_ne _ _ _ (show 10 ≠ 6 by decide)]
    | 12, _, _ => simp only [zc_md, up2_ne _ _ _ (show 11 ≠ 6 by decide)]
    | 13, _, _ => simp only [zc_md, up2_ne _ _ _ (show 12 ≠ 6 by decide)]
    | 14, _, _ => simp only [zc_md, up2_ne _ _ _ (show 13 ≠ 6 by decide)]
    | 15, _, _ => rfl
    | 16, _, _ => simp only [zc_md, up2_ne _ _ _ (show 15 ≠ 6 by decide)]
    | 17, _, _ => simp only [zc_md, up2_ne _ _ _ (show 16 ≠ 6 by decide)]
    | 18, _, _ => simp only [zc_md, up2_ne _ _ _ (show 17 ≠ 6 by decide)]
    | 19, _, _ => simp only [zc_md, up2_ne _ _ _ (show 18 ≠ 6 by decide)]
    | 20, _, _ => simp only [zc_md, up2_ne _ _ _ (show 19 ≠ 6 by decide)]
    | 21, _, _ => simp only [zc_md, up2_ne _ _ _ (show 20 ≠ 6 by decide)]
    | 22, _, _ => simp only [zc_md, up2_ne _ _ _ (show 21 ≠ 6 by decide)]
    | 23, _, _ => simp only [zc_md, up2_ne _ _ _ (show 22 ≠ 6 by decide)]
    | 24, _, _ => simp only [zc_md, up2_ne _ _ _ (show 23 ≠ 6 by decide)]
    | 25, _, _ => simp only [zc_md, up2_ne _ _ _ (show 24 ≠ 6 by decide)]
    | 26, _, _ => simp only [zc_md, up2_ne _ _ _ (show 25 ≠ 6 by decide)]
    | 27, _, _ => simp only [zc_md, up2_ne _ _ _ (show 26 ≠ 6 by decide)]
    | 28, _, _ => simp only [zc_md, up2_ne _ _ _ (show 27 ≠ 6 by decide)]
    | 29, _, _ => simp only [zc_md, up2_ne _ _ _ (show 28 ≠ 6 by decide)]
    | 30, _, _ => simp only [zc_md, up2_ne _ _ _ (show 29 ≠ 6 by decide)]
    | 31, _, _ => simp only [zc_md, up2_ne _ _ _ (show 30 ≠ 6 by decide)]
    | j + 32, h, _ => exact absurd h (by omega)
theorem up_m7 {i : Nat} {v : Int64} : zx_up (zs b (B, F, (t, fr, lo, I, J))) (ma b 7) (.inl (1, 48, .inr (.inl (vp_updL (J 7) i v)))) = zs b (B, F, (t, fr, lo, I, up2 J 7 i v)) := by
  refine up_md 8 (by decide) ?_ (fun d h g => ?_)
  · simp only [zc_md, up2_at]; rfl
  · match d, h, g with
    | 0, _, _ => rfl
    | 1, _, _ => rfl
    | 2, _, _ => rfl
    | 3, _, _ => simp only [zc_md, up2_ne _ _ _ (show 2 ≠ 7 by decide)]
    | 4, _, _ => rfl
    | 5, _, _ => rfl
    | 6, _, _ => rfl
    | 7, _, _ => rfl
    | 8, _, g => exact absurd rfl g
    | 9, _, _ => rfl
    | 10, _, _ => rfl
    | 11, _, _ => rfl
    | 12, _, _ => rfl
    | 13, _, _ => rfl
    | 14, _, _ => rfl
    | 15, _, _ => simp only [zc_md, up2_ne _ _ _ (show 14 ≠ 7 by decide)]
    | 16, _, _ => rfl
    | 17, _, _ => rfl
    | 18, _, _ => rfl
    | 19, _, _ => rfl
    | 20, _, _ => rfl
    | 21, _, _ => rfl
    | 22, _, _ => rfl
    | 23, _, _ => rfl
    | 24, _, _ => rfl
    | 25, _, _ => rfl
    | 26, _, _ => rfl
    | 27, _, _ => rfl
    | 28, _, _ => rfl
    | 29, _, _ => rfl
    | 30, _, _ => rfl
    | 31, _, _ => rfl
    | j + 32, h, _ => exact absurd h (by omega)
theorem up_m8 {i : Nat} {v : Int32} : zx_up (zs b (B, F, (t, fr, lo, I, J))) (ma b 8) (.inl (0, 48, .inl (upd (I 8) i v))) = zs b (B, F, (t, fr, lo, up2 I 8 i v, J)) := by
  refine up_md 9 (by decide) ?_ (fun d h g => ?_)
  · simp only [zc_md, up2_at]; rfl
  · match d, h, g with
    | 0, _, _ => rfl
    | 1, _, _ => simp only [zc_md, up2_ne _ _ _ (show 0 ≠ 8 by decide)]
    | 2, _, _ => simp only [zc_md, up2_ne _ _ _ (show 1 ≠ 8 by decide)]
    | 3, _, _ => rfl
    | 4, _, _ => simp only [zc_md, up2_ne _ _ _ (show 3 ≠ 8 by decide)]
    | 5, _, _ => simp only [zc_md, up2_ne _ _ _ (show 4 ≠ 8 by decide)]
    | 6, _, _ => simp only [zc_md, up2_ne _ _ _ (show 5 ≠ 8 by decide)]
    | 7, _, _ => simp only [zc_md, up2_ne _ _ _ (show 6 ≠ 8 by decide)]
    | 8, _, _ => rfl
    | 9, _, g => exact absurd rfl g
    | 10, _, _ => simp only [zc_md, up2_ne _ _ _ (show 9 ≠ 8 by decide)]
    | 11, _, _ => simp only [zc_md, up2_ne _ _ _ (show 10 ≠ 8 by decide)]
    | 12, _, _ => simp only [zc_md, up2_ne _ _ _ (show 11 ≠ 8 by decide)]
    | 13, _, _ => simp only [zc_md, up2_ne _ _ _ (show 12 ≠ 8 by decide)]
    | 14, _, _ => simp only [zc_md, up2_ne _ _ _ (show 13 ≠ 8 by decide)]
    | 15, _, _ => rfl
    | 16, _, _ => simp only [zc_md, up2_ne _ _ _ (show 15 ≠ 8 by decide)]
    | 17, _, _ => simp only [zc_md, up2_ne _ _ _ (show 16 ≠ 8 by decide)]
    | 18, _, _ => simp only [zc_md, up2_ne _ _ _ (show 17 ≠ 8 by decide)]
    | 19, _, _ => simp only [zc_md, up2_ne _ _ _ (show 18 ≠ 8 by decide)]
    | 20, _, _ => simp only [zc_md, up2_ne _ _ _ (show 19 ≠ 8 by decide)]
    | 21, _, _ => simp only [zc_md, up2_ne _ _ _ (show 20 ≠ 8 by decide)]
    | 22, _, _ => simp only [zc_md, up2_ne _ _ _ (show 21 ≠ 8 by decide)]
    | 23, _, _ => simp only [zc_md, up2_ne _ _ _ (show 22 ≠ 8 by decide)]
    | 24, _, _ => simp only [zc_md, up2_ne _ _ _ (show 23 ≠ 8 by decide)]
    | 25, _, _ => simp only [zc_md, up2_ne _ _ _ (show 24 ≠ 8 by decide)]
    | 26, _, _ => simp only [zc_md, up2_ne _ _ _ (show 25 ≠ 8 by decide)]
    | 27, _, _ => simp only [zc_md, up2_ne _ _ _ (show 26 ≠ 8 by decide)]
    | 28, _, _ => simp only [zc_md, up2_ne _ _ _ (show 27 ≠ 8 by decide)]
    | 29, _, _ => simp only [zc_md, up2_ne _ _ _ (show 28 ≠ 8 by decide)]
    | 30, _, _ => simp only [zc_md, up2_ne _ _ _ (show 29 ≠ 8 by decide)]
    | 31, _, _ => simp only [zc_md, up2_ne _ _ _ (show 30 ≠ 8 by decide)]
    | j + 32, h, _ => exact absurd h (by omega)
theorem up_m9 {i : Nat} {v : Int32} : zx_up (zs b (B, F, (t, fr, lo, I, J))) (ma b 9) (.inl (0, 5, .inl (upd (I 9) i v))) = zs b (B, F, (t, fr, lo, up2 I 9 i v, J)) := by
  refine up_md 10 (by decide) ?_ (fun d h g => ?_)
  · simp only [zc_md, up2_at]; rfl
  · match d, h, g with
    | 0, _, _ => rfl
    | 1, _, _ => simp only [zc_md, up2_ne _ _ _ (show 0 ≠ 9 by decide)]
    | 2, _, _ => simp only [zc_md, up2_ne _ _ _ (show 1 ≠ 9 by decide)]
    | 3, _, _ => rfl
    | 4, _, _ => simp only [zc_md, up2_ne _ _ _ (show 3 ≠ 9 by decide)]
    | 5, _, _ => simp only [zc_md, up2_ne _ _ _ (show 4 ≠ 9 by decide)]
    | 6, _, _ => simp only [zc_md, up2_ne _ _ _ (show 5 ≠ 9 by decide)]
    | 7, _, _ => simp only [zc_md, up2_ne _ _ _ (show 6 ≠ 9 by decide)]
    | 8, _, _ => rfl
    | 9, _, _ => simp only [zc_md, up2_ne _ _ _ (show 8 ≠ 9 by decide)]
    | 10, _, g => exact absurd rfl g
    | 11, _, _ => simp only [zc_md, up2_ne _ _ _ (show 10 ≠ 9 by decide)]
    | 12, _, _ => simp only [zc_md, up2_ne _ _ _ (show 11 ≠ 9 by decide)]
    | 13, _, _ => simp only [zc_md, up2_ne _ _ _ (show 12 ≠ 9 by decide)]
    | 14, _, _ => simp only [zc_md, up2_ne _ _ _ (show 13 ≠ 9 by decide)]
    | 15, _, _ => rfl
    | 16, _, _ => simp only [zc_md, up2_ne _ _ _ (show 15 ≠ 9 by decide)]
    | 17, _, _ => simp only [zc_md, up2_ne _ _ _ (show 16 ≠ 9 by decide)]
    | 18, _, _ => simp only [zc_md, up2_ne _ _ _ (show 17 ≠ 9 by decide)]
    | 19, _, _ => simp only [zc_md, up2_ne _ _ _ (show 18 ≠ 9 by decide)]
    | 20, _, _ => simp only [zc_md, up2_ne _ _ _ (show 19 ≠ 9 by decide)]
    | 21, _, _ => simp only [zc_md, up2_ne _ _ _ (show 20 ≠ 9 by decide)]
    | 22, _, _ => simp only [zc_md, up2_ne _ _ _ (show 21 ≠ 9 by decide)]
    | 23, _, _ => simp only [zc_md, up2_ne _ _ _ (show 22 ≠ 9 by decide)]
    | 24, _, _ => simp only [zc_md, up2_ne _ _ _ (show 23 ≠ 9 by decide)]
    | 25, _, _ => simp only [zc_md, up2_ne _ _ _ (show 24 ≠ 9 by decide)]
    | 26, _, _ => simp only [zc_md, up2_ne _ _ _ (show 25 ≠ 9 by decide)]
    | 27, _, _ => simp only [zc_md, up2_ne _ _ _ (show 26 ≠ 9 by decide)]
    | 28, _, _ => simp only [zc_md, up2_ne _ _ _ (show 27 ≠ 9 by decide)]
    | 29, _, _ => simp only [zc_md, up2_ne _ _ _ (show 28 ≠ 9 by decide)]
    | 30, _, _ => simp only [zc_md, up2_ne _ _ _ (show 29 ≠ 9 by decide)]
    | 31, _, _ => simp only [zc_md, up2_ne _ _ _ (show 30 ≠ 9 by decide)]
    | j + 32, h, _ => exact absurd h (by omega)
theorem up_m10 {i : Nat} {v : Int32} : zx_up (zs b (B, F, (t, fr, lo, I, J))) (ma b 10) (.inl (0, 5, .inl (upd (I 10) i v))) = zs b (B, F, (t, fr, lo, up2 I 10 i v, J)) := by
  refine up_md 11 (by decide) ?_ (fun d h g => ?_)
  · simp only [zc_md, up2_at]; rfl
  · match d, h, g with
    | 0, _, _ => rfl
    | 1, _, _ => simp only [zc_md, up2_ne _ _ _ (show 0 ≠ 10 by decide)]
    | 2, _, _ => simp only [zc_md, up2_ne _ _ _ (show 1 ≠ 10 by decide)]
    | 3, _, _ => rfl
    | 4, _, _ => simp only [zc_md, up2_ne _ _ _ (show 3 ≠ 10 by decide)]
    | 5, _, _ => simp only [zc_md, up2_ne _ _ _ (show 4 ≠ 10 by decide)]
    | 6, _, _ => simp only [zc_md, up2_ne _ _ _ (show 5 ≠ 10 by decide)]
    | 7, _, _ => simp only [zc_md, up2_ne _ _ _ (show 6 ≠ 10 by decide)]
    | 8, _, _ => rfl
    | 9, _, _ => simp only [zc_md, up2_ne _ _ _ (show 8 ≠ 10 by decide)]
    | 10, _, _ => simp only [zc_md, up2_ne _ _ _ (show 9 ≠ 10 by decide)]
    | 11, _, g => exact absurd rfl g
    | 12, _, _ => simp only [zc_md, up2_ne _ _ _ (show 11 ≠ 10 by decide)]
    | 13, _, _ => simp only [zc_md, up2_ne _ _ _ (show 12 ≠ 10 by decide)]
    | 14, _, _ => simp only [zc_md, up2_ne _ _ _ (show 13 ≠ 10 by decide)]
    | 15, _, _ => rfl
    | 16, _, _ => simp only [zc_md, up2_ne _ _ _ (show 15 ≠ 10 by decide)]
    | 17, _, _ => simp only [zc_md, up2_ne _ _ _ (show 16 ≠ 10 by decide)]
    | 18, _, _ => simp only [zc_md, up2_ne _ _ _ (show 17 ≠ 10 by decide)]
    | 19, _, _ => simp only [zc_md, up2_ne _ _ _ (show 18 ≠ 10 by decide)]
    | 20, _, _ => simp only [zc_md, up2_ne _ _ _ (show 19 ≠ 10 by decide)]
    | 21, _, _ => simp only [zc_md, up2_ne _ _ _ (show 20 ≠ 10 by decide)]
    | 22, _, _ => simp only [zc_md, up2_ne _ _ _ (show 21 ≠ 10 by decide)]
    | 23, _, _ => simp only [zc_md, up2_ne _ _ _ (show 22 ≠ 10 by decide)]
    | 24, _, _ => simp only [zc_md, up2_ne _ _ _ (show 23 ≠ 10 by decide)]
    | 25, _, _ => simp only [zc_md, up2_ne _ _ _ (show 24 ≠ 10 by decide)]
    | 26, _, _ => simp only [zc_md, up2_ne _ _ _ (show 25 ≠ 10 by decide)]
    | 27, _, _ => simp only [zc_md, up2_ne _ _ _ (show 26 ≠ 10 by decide)]
    | 28, _, _ => simp only [zc_md, up2_ne _ _ _ (show 27 ≠ 10 by decide)]
    | 29, _, _ => simp only [zc_md, up2_ne _ _ _ (show 28 ≠ 10 by decide)]
    | 30, _, _ => simp only [zc_md, up2_ne _ _ _ (show 29 ≠ 10 by decide)]
    | 31, _, _ => simp only [zc_md, up2_ne _ _ _ (show 30 ≠ 10 by decide)]
    | j + 32, h, _ => exact absurd h (by omega)
theorem up_m11 {i : Nat} {v : Int32} : zx_up (zs b (B, F, (t, fr, lo, I, J))) (ma b 11) (.inl (0, 5, .inl (upd (I 11) i v))) = zs b (B, F, (t, fr, lo, up2 I 11 i v, J)) := by
  refine up_md 12 (by decide) ?_ (fun d h g => ?_)
  · simp only [zc_md, up2_at]; rfl
  · match d, h, g with
    | 0, _, _ => rfl
    | 1, _, _ => simp only [zc_md, up2_ne _ _ _ (show 0 ≠ 11 by decide)]
    | 2, _, _ => simp only [zc_md, up2_ne _ _ _ (show 1 ≠ 11 by decide)]
    | 3, _, _ => rfl
    | 4, _, _ => simp only [zc_md, up2_ne _ _ _ (show 3 ≠ 11 by decide)]
    | 5, _, _ => simp only [zc_md, up2_ne _ _ _ (show 4 ≠ 11 by decide)]
    | 6, _, _ => simp only [zc_md, up2_ne _ _ _ (show 5 ≠ 11 by decide)]
    | 7, _, _ => simp only [zc_md, up2_ne _ _ _ (show 6 ≠ 11 by decide)]
    | 8, _, _ => rfl
    | 9, _, _ => simp only [zc_md, up2_ne _ _ _ (show 8 ≠ 11 by decide)]
    | 10, _, _ => simp only [zc_md, up2_ne _ _ _ (show 9 ≠ 11 by decide)]
    | 11, _, _ => simp only [zc_md, up2_ne _ _ _ (show 10 ≠ 11 by decide)]
    | 12, _, g => exact absurd rfl g
    | 13, _, _ => simp only [zc_md, up2_ne _ _ _ (show 12 ≠ 11 by decide)]
    | 14, _, _ => simp only [zc_md, up2_ne _ _ _ (show 13 ≠ 11 by decide)]
    | 15, _, _ => rfl
    | 16, _, _ => simp only [zc_md, up2_ne _ _ _ (show 15 ≠ 11 by decide)]
    | 17, _, _ => simp only [zc_md, up2_ne _ _ _ (show 16 ≠ 11 by decide)]
    | 18, _, _ => simp only [zc_md, up2_ne _ _ _ (show 17 ≠ 11 by decide)]
    | 19, _, _ => simp only [zc_md, up2_ne _ _ _ (show 18 ≠ 11 by decide)]
    | 20, _, _ => simp only [zc_md, up2_ne _ _ _ (show 19 ≠ 11 by decide)]
    | 21, _, _ => simp only [zc_md, up2_ne _ _ _ (show 20 ≠ 11 by decide)]
    | 22, _, _ => simp only [zc_md, up2_ne _ _ _ (show 21 ≠ 11 by decide)]
    | 23, _, _ => simp only [zc_md, up2_ne _ _ _ (show 22 ≠ 11 by decide)]
    | 24, _, _ => simp only [zc_md, up2_ne _ _ _ (show 23 ≠ 11 by decide)]
    | 25, _, _ => simp only [zc_md, up2_ne _ _ _ (show 24 ≠ 11 by decide)]
    | 26, _, _ => simp only [zc_md, up2_ne _ _ _ (show 25 ≠ 11 by decide)]
    | 27, _, _ => simp only [zc_md, up2_ne _ _ _ (show 26 ≠ 11 by decide)]
    | 28, _, _ => simp only [zc_md, up2_ne _ _ _ (show 27 ≠ 11 by decide)]
    | 29, _, _ => simp only [zc_md, up2_ne _ _ _ (show 28 ≠ 11 by decide)]
    | 30, _, _ => simp only [zc_md, up2_ne _ _ _ (show 29 ≠ 11 by decide)]
    | 31, _, _ => simp only [zc_md, up2_ne _ _ _ (show 30 ≠ 11 by decide)]
    | j + 32, h, _ => exact absurd h (by omega)
theorem up_m12 {i : Nat} {v : Int32} : zx_up (zs b (B, F, (t, fr, lo, I, J))) (ma b 12) (.inl (0, 5, .inl (upd (I 12) i v))) = zs b (B, F, (t, fr, lo, up2 I 12 i v, J)) := by
  refine up_md 13 (by decide) ?_ (fun d h g => ?_)
  · simp only [zc_md, up2_at]; rfl
  · match d, h, g with
    | 0, _, _ => rfl
    | 1, _, _ => simp only [zc_md, up2_ne _ _ _ (show 0 ≠ 12 by decide)]
    | 2, _, _ => simp only [zc_md, up2_ne _ _ _ (show 1 ≠ 12 by decide)]
    | 3, _, _ => rfl
    | 4, _, _ => simp only [zc_md, up2_ne _ _ _ (show 3 ≠ 12 by decide)]
    | 5, _, _ => simp only [zc_md, up2_ne _ _ _ (show 4 ≠ 12 by decide)]
    | 6, _, _ => simp only [zc_md, up2_ne _ _ _ (show 5 ≠ 12 by decide)]
    | 7, _, _ => simp only [zc_md, up2_ne _ _ _ (show 6 ≠ 12 by decide)]
    | 8, _, _ => rfl
    | 9, _, _ => simp only [zc_md, up2_ne _ _ _ (show 8 ≠ 12 by decide)]
    | 10, _, _ => simp only [zc_md, up2_ne _ _ _ (show 9 ≠ 12 by decide)]
    | 11, _, _ => simp only [zc_md, up2_ne _ _ _ (show 10 ≠ 12 by decide)]
    | 12, _, _ => simp only [zc_md, up2_ne _ _ _ (show 11 ≠ 12 by decide)]
    | 13, _, g => exact absurd rfl g
    | 14, _, _ => simp only [zc_md, up2_ne _ _ _ (show 13 ≠ 12 by decide)]
    | 15, _, _ => rfl
    | 16, _, _ => simp only [zc_md, up2_ne _ _ _ (show 15 ≠ 12 by decide)]
    | 17, _, _ => simp only [zc_md, up2_ne _ _ _ (show 16 ≠ 12 by decide)]
    | 18, _, _ => simp only [zc_md, up2_ne _ _ _ (show 17 ≠ 12 by decide)]
    | 19, _, _ => simp only [zc_md, up2_ne _ _ _ (show 18 ≠ 12 by decide)]
    | 20, _, _ => simp only [zc_md, up2_ne _ _ _ (show 19 ≠ 12 by decide)]
    | 21, _, _ => simp only [zc_md, up2_ne _ _ _ (show 20 ≠ 12 by decide)]
    | 22, _, _ => simp only [zc_md, up2_ne _ _ _ (show 21 ≠ 12 by decide)]
    | 23, _, _ => simp only [zc_md, up2_ne _ _ _ (show 22 ≠ 12 by decide)]
    | 24, _, _ => simp only [zc_md, up2_ne _ _ _ (show 23 ≠ 12 by decide)]
    | 25, _, _ => simp only [zc_md, up2_ne _ _ _ (show 24 ≠ 12 by decide)]
    | 26, _, _ => simp only [zc_md, up2_ne _ _ _ (show 25 ≠ 12 by decide)]
    | 27, _, _ => simp only [zc_md, up2_ne _ _ _ (show 26 ≠ 12 by decide)]
    | 28, _, _ => simp only [zc_md, up2_ne _ _ _ (show 27 ≠ 12 by decide)]
    | 29, _, _ => simp only [zc_md, up2_ne _ _ _ (show 28 ≠ 12 by decide)]
    | 30, _, _ => simp only [zc_md, up2_ne _ _ _ (show 29 ≠ 12 by decide)]
    | 31, _, _ => simp only [zc_md, up2_ne _ _ _ (show 30 ≠ 12 by decide)]
    | j + 32, h, _ => exact absurd h (by omega)
theorem up_m13 {i : Nat} {v : Int32} : zx_up (zs b (B, F, (t, fr, lo, I, J))) (ma b 13) (.inl (0, 5, .inl (upd (I 13) i v))) = zs b (B, F, (t, fr, lo, up2 I 13 i v, J)) := by
  refine up_md 14 (by decide) ?_ (fun d h g => ?_)
  · simp only [zc_md, up2_at]; rfl
  · match d, h, g with
    | 0, _, _ => rfl
    | 1, _, _ => simp only [zc_md, up2_ne _ _ _ (show 0 ≠ 13 by decide)]
    | 2, _, _ => simp only [zc_md, up2_ne _ _ _ (show 1 ≠ 13 by decide)]
    | 3, _, _ => rfl
    | 4, _, _ => simp only [zc_md, up2_ne _ _ _ (show 3 ≠ 13 by decide)]
    | 5, _, _ => simp only [zc_md, up2_ne _ _ _ (show 4 ≠ 13 by decide)]
    | 6, _, _ => simp only [zc_md, up2_ne _ _ _ (show 5 ≠ 13 by decide)]
    | 7, _, _ => simp only [zc_md, up2_ne _ _ _ (show 6 ≠ 13 by decide)]
    | 8, _, _ => rfl
    | 9, _, _ => simp only [zc_md, up2_ne _ _ _ (show 8 ≠ 13 by decide)]
    | 10, _, _ => simp only [zc_md, up2_ne _ _ _ (show 9 ≠ 13 by decide)]
    | 11, _, _ => simp only [zc_md, up2_ne _ _ _ (show 10 ≠ 13 by decide)]
    | 12, _, _ => simp only [zc_md, up2_ne _ _ _ (show 11 ≠ 13 by decide)]
    | 13, _, _ => simp only [zc_md, up2_ne _ _ _ (show 12 ≠ 13 by decide)]
    | 14, _, g => exact absurd rfl g
    | 15, _, _ => rfl
    | 16, _, _ => simp only [zc_md, up2_ne _ _ _ (show 15 ≠ 13 by decide)]
    | 17, _, _ => simp only [zc_md, up2_ne _ _ _ (show 16 ≠ 13 by decide)]
    | 18, _, _ => simp only [zc_md, up2_ne _ _ _ (show 17 ≠ 13 by decide)]
    | 19, _, _ => simp only [zc_md, up2_ne _ _ _ (show 18 ≠ 13 by decide)]
    | 20, _, _ => simp only [zc_md, up2_ne _ _ _ (show 19 ≠ 13 by decide)]
    | 21, _, _ => simp only [zc_md, up2_ne _ _ _ (show 20 ≠ 13 by decide)]
    | 22, _, _ => simp only [zc_md, up2_ne _ _ _ (show 21 ≠ 13 by decide)]
    | 23, _, _ => simp only [zc_md, up2_ne _ _ _ (show 22 ≠ 13 by decide)]
    | 24, _, _ => simp only [zc_md, up2_ne _ _ _ (show 23 ≠ 13 by decide)]
    | 25, _, _ => simp only [zc_md, up2_ne _ _ _ (show 24 ≠ 13 by decide)]
    | 26, _, _ => simp only [zc_md, up2_ne _ _ _ (show 25 ≠ 13 by decide)]
    | 27, _, _ => simp only [zc_md, up2_ne _ _ _ (show 26 ≠ 13 by decide)]
    | 28, _, _ => simp only [zc_md, up2_ne _ _ _ (show 27 ≠ 13 by decide)]
    | 29, _, _ => simp only [zc_md, up2_ne _ _ _ (show 28 ≠ 13 by decide)]
    | 30, _, _ => simp only [zc_md, up2_ne _ _ _ (show 29 ≠ 13 by decide)]
    | 31, _, _ => simp only [zc_md, up2_ne _ _ _ (show 30 ≠ 13 by decide)]
    | j + 32, h, _ => exact absurd h (by omega)
theorem up_m14 {i : Nat} {v : Int64} : zx_up (zs b (B, F, (t, fr, lo, I, J))) (ma b 14) (.inl (1, 5, .inr (.inl (vp_updL (J 14) i v)))) = zs b (B, F, (t, fr, lo, I, up2 J 14 i v)) := by
  refine up_md 15 (by decide) ?_ (fun d h g => ?_)
  · simp only [zc_md, up2_at]; rfl
  · match d, h, g with
    | 0, _, _ => rfl
    | 1, _, _ => rfl
    | 2, _, _ => rfl
    | 3, _, _ => simp only [zc_md, up2_ne _ _ _ (show 2 ≠ 14 by decide)]
    | 4, _, _ => rfl
    | 5, _, _ => rfl
    | 6, _, _ => rfl
    | 7, _, _ => rfl
    | 8, _, _ => simp only [zc_md, up2_ne _ _ _ (show 7 ≠ 14 by decide)]
    | 9, _, _ => rfl
    | 10, _, _ => rfl
    | 11, _, _ => rfl
    | 12, _, _ => rfl
    | 13, _, _ => rfl
    | 14, _, _ => rfl
    | 15, _, g => exact absurd rfl g
    | 16, _, _ => rfl
    | 17, _, _ => rfl
    | 18, _, _ => rfl
    | 19, _, _ => rfl
    | 20, _, _ => rfl
    | 21, _, _ => rfl
    | 22, _, _ => rfl
    | 23, _, _ => rfl
    | 24, _, _ => rfl
    | 25, _, _ => rfl
    | 26, _, _ => rfl
    | 27, _, _ => rfl
    | 28, _, _ => rfl
    | 29, _, _ => rfl
    | 30, _, _ => rfl
    | 31, _, _ => rfl
    | j + 32, h, _ => exact absurd h (by omega)
theorem up_m15 {i : Nat} {v : Int32} : zx_up (zs b (B, F, (t, fr, lo, I, J))) (ma b 15) (.inl (0, 5, .inl (upd (I 15) i v))) = zs b (B, F, (t, fr, lo, up2 I 15 i v, J)) := by
  refine up_md 16 (by decide) ?_ (fun d h g => ?_)
  · simp only [zc_md, up2_at]; rfl
  · match d, h, g with
    | 0, _, _ => rfl
    | 1, _, _ => simp only [zc_md, up2_ne _ _ _ (show 0 ≠ 15 by decide)]
    | 2, _, _ => simp only [zc_md, up2_ne _ _ _ (show 1 ≠ 15 by decide)]
    | 3, _, _ => rfl
    | 4, _, _ => simp only [zc_md, up2_ne _ _ _ (show 3 ≠ 15 by decide)]
    | 5, _, _ => simp only [zc_md, up2_ne _ _ _ (show 4 ≠ 15 by decide)]
    | 6, _, _ => simp only [zc_md, up2_ne _ _ _ (show 5 ≠ 15 by decide)]
    | 7, _, _ => simp only [zc_md, up2_ne _ _ _ (show 6 ≠ 15 by decide)]
    | 8, _, _ => rfl
    | 9, _, _ => simp only [zc_md, up2_ne _ _ _ (show 8 ≠ 15 by decide)]
    | 10, _, _ => simp only [zc_md, up2_ne _ _ _ (show 9 ≠ 15 by decide)]
    | 11, _, _ => simp only [zc_md, up2_ne _ _ _ (show 10 ≠ 15 by decide)]
    | 12, _, _ => simp only [zc_md, up2_ne _ _ _ (show 11 ≠ 15 by decide)]
    | 13, _, _ => simp only [zc_md, up2_ne _ _ _ (show 12 ≠ 15 by decide)]
    | 14, _, _ => simp only [zc_md, up2_ne _ _ _ (show 13 ≠ 15 by decide)]
    | 15, _, _ => rfl
    | 16, _, g => exact absurd rfl g
    | 17, _, _ => simp only [zc_md, up2_ne _ _ _ (show 16 ≠ 15 by decide)]
    | 18, _, _ => simp only [zc_md, up2_ne _ _ _ (show 17 ≠ 15 by decide)]
    | 19, _, _ => simp only [zc_md, up2_ne _ _ _ (show 18 ≠ 15 by decide)]
    | 20, _, _ => simp only [zc_md, up2_ne _ _ _ (show 19 ≠ 15 by decide)]
    | 21, _, _ => simp only [zc_md, up2_ne _ _ _ (show 20 ≠ 15 by decide)]
    | 22, _, _ => simp only [zc_md, up2_ne _ _ _ (show 21 ≠ 15 by decide)]
    | 23, _, _ => simp only [zc_md, up2_ne _ _ _ (show 22 ≠ 15 by decide)]
    | 24, _, _ => simp only [zc_md, up2_ne _ _ _ (show 23 ≠ 15 by decide)]
    | 25, _, _ => simp only [zc_md, up2_ne _ _ _ (show 24 ≠ 15 by decide)]
    | 26, _, _ => simp only [zc_md, up2_ne _ _ _ (show 25 ≠ 15 by decide)]
    | 27, _, _ => simp only [zc_md, up2_ne _ _ _ (show 26 ≠ 15 by decide)]
    | 28, _, _ => simp only [zc_md, up2_ne _ _ _ (show 27 ≠ 15 by decide)]
    | 29, _, _ => simp only [zc_md, up2_ne _ _ _ (show 28 ≠ 15 by decide)]
    | 30, _, _ => simp only [zc_md, up2_ne _ _ _ (show 29 ≠ 15 by decide)]
    | 31, _, _ => simp only [zc_md, up2_ne _ _ _ (show 30 ≠ 15 by decide)]
    | j + 32, h, _ => exact absurd h (by omega)
theorem up_m16 {i : Nat} {v : Int32} : zx_up (zs b (B, F, (t, fr, lo, I, J))) (ma b 16) (.inl (0, 5, .inl (upd (I 16) i v))) = zs b (B, F, (t, fr, lo, up2 I 16 i v, J)) := by
  refine up_md 17 (by decide) ?_ (fun d h g => ?_)
  · simp only [zc_md, up2_at]; rfl
  · match d, h, g with
    | 0, _, _ => rfl
    | 1, _, _ => simp only [zc_md, up2_ne _ _ _ (show 0 ≠ 16 by decide)]
    | 2, _, _ => simp only [zc_md, up2_ne _ _ _ (show 1 ≠ 16 by decide)]
    | 3, _, _ => rfl
    | 4, _, _ => simp only [zc_md, up2_ne _ _ _ (show 3 ≠ 16 by decide)]
    | 5, _, _ => simp only [zc_md, up2_ne _ _ _ (show 4 ≠ 16 by decide)]
    | 6, _, _ => simp only [zc_md, up2_ne _ _ _ (show 5 ≠ 16 by decide)]
    | 7, _, _ => simp only [zc_md, up2_ne _ _ _ (show 6 ≠ 16 by decide)]
    | 8, _, _ => rfl
    | 9, _, _ => simp only [zc_md, up2_ne _ _ _ (show 8 ≠ 16 by decide)]
    | 10, _, _ => simp only [zc_md, up2_ne _ _ _ (show 9 ≠ 16 by decide)]
    | 11, _, _ => simp only [zc_md, up2_ne _ _ _ (show 10 ≠ 16 by decide)]
    | 12, _, _ => simp only [zc_md, up2_ne _ _ _ (show 11 ≠ 16 by decide)]
    | 13, _, _ => simp only [zc_md, up2_ne _ _ _ (show 12 ≠ 16 by decide)]
    | 14, _, _ => simp only [zc_md, up2_ne _ _ _ (show 13 ≠ 16 by decide)]
    | 15, _, _ => rfl
    | 16, _, _ => simp only [zc_md, up2_ne _ _ _ (show 15 ≠ 16 by decide)]
    | 17, _, g => exact absurd rfl g
    | 18, _, _ => simp only [zc_md, up2_ne _ _ _ (show 17 ≠ 16 by decide)]
    | 19, _, _ => simp only [zc_md, up2_ne _ _ _ (show 18 ≠ 16 by decide)]
    | 20, _, _ => simp only [zc_md, up2_ne _ _ _ (show 19 ≠ 16 by decide)]
    | 21, _, _ => simp only [zc_md, up2_ne _ _ _ (show 20 ≠ 16 by decide)]
    | 22, _, _ => simp only [zc_md, up2_ne _ _ _ (show 21 ≠ 16 by decide)]
    | 23, _, _ => simp only [zc_md, up2_ne _ _ _ (show 22 ≠ 16 by decide)]
    | 24, _, _ => simp only [zc_md, up2_ne _ _ _ (show 23 ≠ 16 by decide)]
    | 25, _, _ => simp only [zc_md, up2_ne _ _ _ (show 24 ≠ 16 by decide)]
    | 26, _, _ => simp only [zc_md, up2_ne _ _ _ (show 25 ≠ 16 by decide)]
    | 27, _, _ => simp only [zc_md, up2_ne _ _ _ (show 26 ≠ 16 by decide)]
    | 28, _, _ => simp only [zc_md, up2_ne _ _ _ (show 27 ≠ 16 by decide)]
    | 29, _, _ => simp only [zc_md, up2_ne _ _ _ (show 28 ≠ 16 by decide)]
    | 30, _, _ => simp only [zc_md, up2_ne _ _ _ (show 29 ≠ 16 by decide)]
    | 31, _, _ => simp only [zc_md, up2_ne _ _ _ (show 30 ≠ 16 by decide)]
    | j + 32, h, _ => exact absurd h (by omega)
theorem up_m17 {i : Nat} {v : Int32} : zx_up (zs b (B, F, (t, fr, lo, I, J))) (ma b 17) (.inl (0, 5, .inl (upd (I 17) i v))) = zs b (B, F, (t, fr, lo, up2 I 17 i v, J)) := by
  refine up_md 18 (by decide) ?_ (fun d h g => ?_)
  · simp only [zc_md, up2_at]; rfl
  · match d, h, g with
    | 0, _, _ => rfl
    | 1, _, _ => simp only [zc_md, up2_ne _ _ _ (show 0 ≠ 17 by decide)]
    | 2, _, _ => simp only [zc_md, up2_ne _ _ _ (show 1 ≠ 17 by decide)]
    | 3, _, _ => rfl
    | 4, _, _ => simp only [zc_md, up2_ne _ _ _ (show 3 ≠ 17 by decide)]
    | 5, _, _ => simp only [zc_md, up2_ne _ _ _ (show 4 ≠ 17 by decide)]
    | 6, _, _ => simp only [zc_md, up2_ne _ _ _ (show 5 ≠ 17 by decide)]
    | 7, _, _ => simp only [zc_md, up2_ne _ _ _ (show 6 ≠ 17 by decide)]
    | 8, _, _ => rfl
    | 9, _, _ => simp only [zc_md, up2_ne _ _ _ (show 8 ≠ 17 by decide)]
    | 10, _, _ => simp only [zc_md, up2_ne _ _ _ (show 9 ≠ 17 by decide)]
    | 11, _, _ => simp only [zc_md, up2_ne _ _ _ (show 10 ≠ 17 by decide)]
    | 12, _, _ => simp only [zc_md, up2_ne _ _ _ (show 11 ≠ 17 by decide)]
    | 13, _, _ => simp only [zc_md, up2_ne _ _ _ (show 12 ≠ 17 by decide)]
    | 14, _, _ => simp only [zc_md, up2_ne _ _ _ (show 13 ≠ 17 by decide)]
    | 15, _, _ => rfl
    | 16, _, _ => simp only [zc_md, up2_ne _ _ _ (show 15 ≠ 17 by decide)]
    | 17, _, _ => simp only [zc_md, up2_ne _ _ _ (show 16 ≠ 17 by decide)]
    | 18, _, g => exact absurd rfl g
    | 19, _, _ => simp only [zc_md, up2_ne _ _ _ (show 18 ≠ 17 by decide)]
    | 20, _, _ => simp only [zc_md, up2_ne _ _ _ (show 19 ≠ 17 by decide)]
    | 21, _, _ => simp only [zc_md, up2_ne _ _ _ (show 20 ≠ 17 by decide)]
    | 22, _, _ => simp only [zc_md, up2_ne _ _ _ (show 21 ≠ 17 by decide)]
    | 23, _, _ => simp only [zc_md, up2_ne _ _ _ (show 22 ≠ 17 by decide)]
    | 24, _, _ => simp only [zc_md, up2_ne _ _ _ (show 23 ≠ 17 by decide)]
    | 25, _, _ => simp only [zc_md, up2_ne _ _ _ (show 24 ≠ 17 by decide)]
    | 26, _, _ => simp only [zc_md, up2_ne _ _ _ (show 25 ≠ 17 by decide)]
    | 27, _, _ => simp only [zc_md, up2_ne _ _ _ (show 26 ≠ 17 by decide)]
    | 28, _, _ => simp only [zc_md, up2_ne _ _ _ (show 27 ≠ 17 by decide)]
    | 29, _, _ => simp only [zc_md, up2_ne _ _ _ (show 28 ≠ 17 by decide)]
    | 30, _, _ => simp only [zc_md, up2_ne _ _ _ (show 29 ≠ 17 by decide)]
    | 31, _, _ => simp only [zc_md, up2_ne _ _ _ (show 30 ≠ 17 by decide)]
    | j + 32, h, _ => exact absurd h (by omega)
theorem up_m18 {i : Nat} {v : Int32} : zx_up (zs b (B, F, (t, fr, lo, I, J))) (ma b 18) (.inl (2, 10, .inl (upd (I 18) i v))) = zs b (B, F, (t, fr, lo, up2 I 18 i v, J)) := by
  refine up_md 19 (by decide) ?_ (fun d h g => ?_)
  · simp only [zc_md, up2_at]; rfl
  · match d, h, g with
    | 0, _, _ => rfl
    | 1, _, _ => simp only [zc_md, up2_ne _ _ _ (show 0 ≠ 18 by decide)]
    | 2, _, _ => simp only [zc_md, up2_ne _ _ _ (show 1 ≠ 18 by decide)]
    | 3, _, _ => rfl
    | 4, _, _ => simp only [zc_md, up2_ne _ _ _ (show 3 ≠ 18 by decide)]
    | 5, _, _ => simp only [zc_md, up2_ne _ _ _ (show 4 ≠ 18 by decide)]
    | 6, _, _ => simp only [zc_md, up2_ne _ _ _ (show 5 ≠ 18 by decide)]
    | 7, _, _ => simp only [zc_md, up2_ne _ _ _ (show 6 ≠ 18 by decide)]
    | 8, _, _ => rfl
    | 9, _, _ => simp only [zc_md, up2_ne _ _ _ (show 8 ≠ 18 by decide)]
    | 10, _, _ => simp only [zc_md, up2_ne _ _ _ (show 9 ≠ 18 by decide)]
    | 11, _, _ => simp only [zc_md, up2_ne _ _ _ (show 10 ≠ 18 by decide)]
    | 12, _, _ => simp only [zc_md, up2_ne _ _ _ (show 11 ≠ 18 by decide)]
    | 13, _, _ => simp only [zc_md, up2_ne _ _ _ (show 12 ≠ 18 by decide)]
    | 14, _, _ => simp only [zc_md, up2_ne _ _ _ (show 13 ≠ 18 by decide)]
    | 15, _, _ => rfl
    | 16, _, _ => simp only [zc_md, up2_ne _ _ _ (show 15 ≠ 18 by decide)]
    | 17, _, _ => simp only [zc_md, up2_ne _ _ _ (show 16 ≠ 18 by decide)]
    | 18, _, _ => simp only [zc_md, up2_ne _ _ _ (show 17 ≠ 18 by decide)]
    | 19, _, g => exact absurd rfl g
    | 20, _, _ => simp only [zc_md, up2_ne _ _ _ (show 19 ≠ 18 by decide)]
    | 21, _, _ => simp only [zc_md, up2_ne _ _ _ (show 20 ≠ 18 by decide)]
    | 22, _, _ => simp only [zc_md, up2_ne _ _ _ (show 21 ≠ 18 by decide)]
    | 23, _, _ => simp only [zc_md, up2_ne _ _ _ (show 22 ≠ 18 by decide)]
    | 24, _, _ => simp only [zc_md, up2_ne _ _ _ (show 23 ≠ 18 by decide)]
    | 25, _, _ => simp only [zc_md, up2_ne _ _ _ (show 24 ≠ 18 by decide)]
    | 26, _, _ => simp only [zc_md, up2_ne _ _ _ (show 25 ≠ 18 by decide)]
    | 27, _, _ => simp only [zc_md, up2_ne _ _ _ (show 26 ≠ 18 by decide)]
    | 28, _, _ => simp only [zc_md, up2_ne _ _ _ (show 27 ≠ 18 by decide)]
    | 29, _, _ => simp only [zc_md, up2_ne _ _ _ (show 28 ≠ 18 by decide)]
    | 30, _, _ => simp only [zc_md, up2_ne _ _ _ (show 29 ≠ 18 by decide)]
    | 31, _, _ => simp only [zc_md, up2_ne _ _ _ (show 30 ≠ 18 by decide)]
    | j + 32, h, _ => exact absurd h (by omega)
theorem up_m19 {i : Nat} {v : Int32} : zx_up (zs b (B, F, (t, fr, lo, I, J))) (ma b 19) (.inl (0, 10, .inl (upd (I 19) i v))) = zs b (B, F, (t, fr, lo, up2 I 19 i v, J)) := by
  refine up_md 20 (by decide) ?_ (fun d h g => ?_)
  · simp only [zc_md, up2_at]; rfl
  · match d, h, g with
    | 0, _, _ => rfl
    | 1, _, _ => simp only [zc_md, up2_ne _ _ _ (show 0 ≠ 19 by decide)]
    | 2, _, _ => simp only [zc_md, up2_ne _ _ _ (show 1 ≠ 19 by decide)]
    | 3, _, _ => rfl
    | 4, _, _ => simp only [zc_md, up2_ne _ _ _ (show 3 ≠ 19 by decide)]
    | 5, _, _ => simp only [zc_md, up2_ne _ _ _ (show 4 ≠ 19 by decide)]
    | 6, _, _ => simp only [zc_md, up2_ne _ _ _ (show 5 ≠ 19 by decide)]
    | 7, _, _ => simp only [zc_md, up2_ne _ _ _ (show 6 ≠ 19 by decide)]
    | 8, _, _ => rfl
    | 9, _, _ => simp only [zc_md, up2_ne _ _ _ (show 8 ≠ 19 by decide)]
    | 10, _, _ => simp only [zc_md, up2_ne _ _ _ (show 9 ≠ 19 by decide)]
    | 11, _, _ => simp only [zc_md, up2_ne _ _ _ (show 10 ≠ 19 by decide)]
    | 12, _, _ => simp only [zc_md, up2_ne _ _ _ (show 11 ≠ 19 by decide)]
    | 13, _, _ => simp only [zc_md, up2_ne _ _ _ (show 12 ≠ 19 by decide)]
    | 14, _, _ => simp only [zc_md, up2_ne _ _ _ (show 13 ≠ 19 by decide)]
    | 15, _, _ => rfl
    | 16, _, _ => simp only [zc_md, up2_ne _ _ _ (show 15 ≠ 19 by decide)]
    | 17, _, _ => simp only [zc_md, up2_ne _ _ _ (show 16 ≠ 19 by decide)]
    | 18, _, _ => simp only [zc_md, up2_ne _ _ _ (show 17 ≠ 19 by decide)]
    | 19, _, _ => simp only [zc_md, up2_ne _ _ _ (show 18 ≠ 19 by decide)]
    | 20, _, g => exact absurd rfl g
    | 21, _, _ => simp only [zc_md, up2_ne _ _ _ (show 20 ≠ 19 by decide)]
    | 22, _, _ => simp only [zc_md, up2_ne _ _ _ (show 21 ≠ 19 by decide)]
    | 23, _, _ => simp only [zc_md, up2_ne _ _ _ (show 22 ≠ 19 by decide)]
    | 24, _, _ => simp only [zc_md, up2_ne _ _ _ (show 23 ≠ 19 by decide)]
    | 25, _, _ => simp only [zc_md, up2_ne _ _ _ (show 24 ≠ 19 by decide)]
    | 26, _, _ => simp only [zc_md, up2_ne _ _ _ (show 25 ≠ 19 by decide)]
    | 27, _, _ => simp only [zc_md, up2_ne _ _ _ (show 26 ≠ 19 by decide)]
    | 28, _, _ => simp only [zc_md, up2_ne _ _ _ (show 27 ≠ 19 by decide)]
    | 29, _, _ => simp only [zc_md, up2_ne _ _ _ (show 28 ≠ 19 by decide)]
    | 30, _, _ => simp only [zc_md, up2_ne _ _ _ (show 29 ≠ 19 by decide)]
    | 31, _, _ => simp only [zc_md, up2_ne _ _ _ (show 30 ≠ 19 by decide)]
    | j + 32, h, _ => exact absurd h (by omega)
theorem up_m20 {i : Nat} {v : Int32} : zx_up (zs b (B, F, (t, fr, lo, I, J))) (ma b 20) (.inl (0, 10, .inl (upd (I 20) i v))) = zs b (B, F, (t, fr, lo, up2 I 20 i v, J)) := by
  refine up_md 21 (by decide) ?_ (fun d h g => ?_)
  · simp only [zc_md, up2_at]; rfl
  · match d, h, g with
    | 0, _, _ => rfl
    | 1, _, _ => simp only [zc_md, up2_ne _ _ _ (show 0 ≠ 20 by decide)]
    | 2, _, _ => simp only [zc_md, up2_ne _ _ _ (show 1 ≠ 20 by decide)]
    | 3, _, _ => rfl
    | 4, _, _ => simp only [zc_md, up2_ne _ _ _ (show 3 ≠ 20 by decide)]
    | 5, _, _ => simp only [zc_md, up2_ne _ _ _ (show 4 ≠ 20 by decide)]
    | 6, _, _ => simp only [zc_md, up2_ne _ _ _ (show 5 ≠ 20 by decide)]
    | 7, _, _ => simp only [zc_md, up2_ne _ _ _ (show 6 ≠ 20 by decide)]
    | 8, _, _ => rfl
    | 9, _, _ => simp only [zc_md, up2_ne _ _ _ (show 8 ≠ 20 by decide)]
    | 10, _, _ => simp only [zc_md, up2_ne _ _ _ (show 9 ≠ 20 by decide)]
    | 11, _, _ => simp only [zc_md, up2_ne _ _ _ (show 10 ≠ 20 by decide)]
    | 12, _, _ => simp only [zc_md, up2_ne _ _ _ (show 11 ≠ 20 by decide)]
    | 13, _, _ => simp only [zc_md, up2_ne _ _ _ (show 12 ≠ 20 by decide)]
    | 14, _, _ => simp only [zc_md, up2_ne _ _ _ (show 13 ≠ 20 by decide)]
    | 15, _, _ => rfl
    | 16, _, _ => simp only [zc_md, up2_ne _ _ _ (show 15 ≠ 20 by decide)]
    | 17, _, _ => simp only [zc_md, up2_ne _ _ _ (show 16 ≠ 20 by decide)]
    | 18, _, _ => simp only [zc_md, up2_ne _ _ _ (show 17 ≠ 20 by decide)]
    | 19, _, _ => simp only [zc_md, up2_ne _ _ _ (show 18 ≠ 20 by decide)]
    | 20, _, _ => simp only [zc_md, up2_ne _ _ _ (show 19 ≠ 20 by decide)]
    | 21, _, g => exact absurd rfl g
    | 22, _, _ => simp only [zc_md, up2_ne _ _ _ (show 21 ≠ 20 by decide)]
    | 23, _, _ => simp only [zc_md, up2_ne _ _ _ (show 22 ≠ 20 by decide)]
    | 24, _, _ => simp only [zc_md, up2_ne _ _ _ (show 23 ≠ 20 by decide)]
    | 25, _, _ => simp only [zc_md, up2_ne _ _ _ (show 24 ≠ 20 by decide)]
    | 26, _, _ => simp only [zc_md, up2_ne _ _ _ (show 25 ≠ 20 by decide)]
    | 27, _, _ => simp only [zc_md, up2_ne _ _ _ (show 26 ≠ 20 by decide)]
    | 28, _, _ => simp only [zc_md, up2_ne _ _ _ (show 27 ≠ 20 by decide)]
    | 29, _, _ => simp only [zc_md, up2_ne _ _ _ (show 28 ≠ 20 by decide)]
    | 30, _, _ => simp only [zc_md, up2_ne _ _ _ (show 29 ≠ 20 by decide)]
    | 31, _, _ => simp only [zc_md, up2_ne _ _ _ (show 30 ≠ 20 by decide)]
    | j + 32, h, _ => exact absurd h (by omega)
theorem up_m21 {i : Nat} {v : Int32} : zx_up (zs b (B, F, (t, fr, lo, I, J))) (ma b 21) (.inl (0, 10, .inl (upd (I 21) i v))) = zs b (B, F, (t, fr, lo, up2 I 21 i v, J)) := by
  refine up_md 22 (by decide) ?_ (fun d h g => ?_)
  · simp only [zc_md, up2_at]; rfl
  · match d, h, g with
    | 0, _, _ => rfl
    | 1, _, _ => simp only [zc_md, up2_ne _ _ _ (show 0 ≠ 21 by decide)]
    | 2, _, _ => simp only [zc_md, up2_ne _ _ _ (show 1 ≠ 21 by decide)]
    | 3, _, _ => rfl
    | 4, _, _ => simp only [zc_md, up2_ne _ _ _ (show 3 ≠ 21 by decide)]
    | 5, _, _ => simp only [zc_md, up2_ne _ _ _ (show 4 ≠ 21 by decide)]
    | 6, _, _ => simp only [zc_md, up2_ne _ _ _ (show 5 ≠ 21 by decide)]
    | 7, _, _ => simp only [zc_md, up2_ne _ _ _ (show 6 ≠ 21 by decide)]
    | 8, _, _ => rfl
    | 9, _, _ => simp only [zc_md, up2_ne _ _ _ (show 8 ≠ 21 by decide)]
    | 10, _, _ => simp only [zc_md, up2_ne _ _ _ (show 9 ≠ 21 by decide)]
    | 11, _, _ => simp only [zc_md, up2_ne _ _ _ (show 10 ≠ 21 by decide)]
    | 12, _, _ => simp only [zc_md, up2_ne _ _ _ (show 11 ≠ 21 by decide)]
    | 13, _, _ => simp only [zc_md, up2_ne _ _ _ (show 12 ≠ 21 by decide)]
    | 14, _, _ => simp only [zc_md, up2_ne _ _ _ (show 13 ≠ 21 by decide)]
    | 15, _, _ => rfl
    | 16, _, _ => simp only [zc_md, up2_ne _ _ _ (show 15 ≠ 21 by decide)]
    | 17, _, _ => simp only [zc_md, up2_ne _ _ _ (show 16 ≠ 21 by decide)]
    | 18, _, _ => simp only [zc_md, up2_ne _ _ _ (show 17 ≠ 21 by decide)]
    | 19, _, _ => simp only [zc_md, up2_ne _ _ _ (show 18 ≠ 21 by decide)]
    | 20, _, _ => simp only [zc_md, up2_ne _ _ _ (show 19 ≠ 21 by decide)]
    | 21, _, _ => simp only [zc_md, up2_ne _ _ _ (show 20 ≠ 21 by decide)]
    | 22, _, g => exact absurd rfl g
    | 23, _, _ => simp only [zc_md, up2_ne _ _ _ (show 22 ≠ 21 by decide)]
    | 24, _, _ => simp only [zc_md, up2_ne _ _ _ (show 23 ≠ 21 by decide)]
    | 25, _, _ => simp only [zc_md, up2_ne _ _ _ (show 24 ≠ 21 by decide)]
    | 26, _, _ => simp only [zc_md, up2_ne _ _ _ (show 25 ≠ 21 by decide)]
    | 27, _, _ => simp only [zc_md, up2_ne _ _ _ (show 26 ≠ 21 by decide)]
    | 28, _, _ => simp only [zc_md, up2_ne _ _ _ (show 27 ≠ 21 by decide)]
    | 29, _, _ => simp only [zc_md, up2_ne _ _ _ (show 28 ≠ 21 by decide)]
    | 30, _, _ => simp only [zc_md, up2_ne _ _ _ (show 29 ≠ 21 by decide)]
    | 31, _, _ => simp only [zc_md, up2_ne _ _ _ (show 30 ≠ 21 by decide)]
    | j + 32, h, _ => exact absurd h (by omega)
theorem up_m22 {i : Nat} {v : Int32} : zx_up (zs b (B, F, (t, fr, lo, I, J))) (ma b 22) (.inl (0, 10, .inl (upd (I 22) i v))) = zs b (B, F, (t, fr, lo, up2 I 22 i v, J)) := by
  refine up_md 23 (by decide) ?_ (fun d h g => ?_)
  · simp only [zc_md, up2_at]; rfl
  · match d, h, g with
    | 0, _, _ => rfl
    | 1, _, _ => simp only [zc_md, up2_ne _ _ _ (show 0 ≠ 22 by decide)]
    | 2, _, _ => simp only [zc_md, up2_ne _ _ _ (show 1 ≠ 22 by decide)]
    | 3, _, _ => rfl
    | 4, _, _ => simp only [zc_md, up2_ne _ _ _ (show 3 ≠ 22 by decide)]
    | 5, _, _ => simp only [zc_md, up2_ne _ _ _ (show 4 ≠ 22 by decide)]
    | 6, _, _ => simp only [zc_md, up2_ne _ _ _ (show 5 ≠ 22 by decide)]
    | 7, _, _ => simp only [zc_md, up2_ne _ _ _ (show 6 ≠ 22 by decide)]
    | 8, _, _ => rfl
    | 9, _, _ => simp only [zc_md, up2_ne _ _ _ (show 8 ≠ 22 by decide)]
    | 10, _, _ => simp only [zc_md, up2_ne _ _ _ (show 9 ≠ 22 by decide)]
    | 11, _, _ => simp only [zc_md, up2_ne _ _ _ (show 10 ≠ 22 by decide)]
    | 12, _, _ => simp only [zc_md, up2_ne _ _ _ (show 11 ≠ 22 by decide)]
    | 13, _, _ => simp only [zc_md, up2_ne _ _ _ (show 12 ≠ 22 by decide)]
    | 14, _, _ => simp only [zc_md, up2_ne _ _ _ (show 13 ≠ 22 by decide)]
    | 15, _, _ => rfl
    | 16, _, _ => simp only [zc_md, up2_ne _ _ _ (show 15 ≠ 22 by decide)]
    | 17, _, _ => simp only [zc_md, up2_ne _ _ _ (show 16 ≠ 22 by decide)]
    | 18, _, _ => simp only [zc_md, up2_ne _ _ _ (show 17 ≠ 22 by decide)]
    | 19, _, _ => simp only [zc_md, up2_ne _ _ _ (show 18 ≠ 22 by decide)]
    | 20, _, _ => simp only [zc_md, up2_ne _ _ _ (show 19 ≠ 22 by decide)]
    | 21, _, _ => simp only [zc_md, up2_ne _ _ _ (show 20 ≠ 22 by decide)]
    | 22, _, _ => simp only [zc_md, up2_ne _ _ _ (show 21 ≠ 22 by decide)]
    | 23, _, g => exact absurd rfl g
    | 24, _, _ => simp only [zc_md, up2_ne _ _ _ (show 23 ≠ 22 by decide)]
    | 25, _, _ => simp only [zc_md, up2_ne _ _ _ (show 24 ≠ 22 by decide)]
    | 26, _, _ => simp only [zc_md, up2_ne _ _ _ (show 25 ≠ 22 by decide)]
    | 27, _, _ => simp only [zc_md, up2_ne _ _ _ (show 26 ≠ 22 by decide)]
    | 28, _, _ => simp only [zc_md, up2_ne _ _ _ (show 27 ≠ 22 by decide)]
    | 29, _, _ => simp only [zc_md, up2_ne _ _ _ (show 28 ≠ 22 by decide)]
    | 30, _, _ => simp only [zc_md, up2_ne _ _ _ (show 29 ≠ 22 by decide)]
    | 31, _, _ => simp only [zc_md, up2_ne _ _ _ (show 30 ≠ 22 by decide)]
    | j + 32, h, _ => exact absurd h (by omega)
theorem up_m23 {i : Nat} {v : Int32} : zx_up (zs b (B, F, (t, fr, lo, I, J))) (ma b 23) (.inl (0, 10, .inl (upd (I 23) i v))) = zs b (B, F, (t, fr, lo, up2 I 23 i v, J)) := by
  refine up_md 24 (by decide) ?_ (fun d h g => ?_)
  · simp only [zc_md, up2_at]; rfl
  · match d, h, g with
    | 0, _, _ => rfl
    | 1, _, _ => simp only [zc_md, up2_ne _ _ _ (show 0 ≠ 23 by decide)]
    | 2, _, _ => simp only [zc_md, up2_ne _ _ _ (show 1 ≠ 23 by decide)]
    | 3, _, _ => rfl
    | 4, _, _ => simp only [zc_md, up2_ne _ _ _ (show 3 ≠ 23 by decide)]
    | 5, _, _ => simp only [zc_md, up2_ne _ _ _ (show 4 ≠ 23 by decide)]
    | 6, _, _ => simp only [zc_md, up2_ne _ _ _ (show 5 ≠ 23 by decide)]
    | 7, _, _ => simp only [zc_md, up2_ne _ _ _ (show 6 ≠ 23 by decide)]
    | 8, _, _ => rfl
    | 9, _, _ => simp only [zc_md, up2_ne _ _ _ (show 8 ≠ 23 by decide)]
    | 10, _, _ => simp only [zc_md, up2_ne _ _ _ (show 9 ≠ 23 by decide)]
    | 11, _, _ => simp only [zc_md, up2_ne _ _ _ (show 10 ≠ 23 by decide)]
    | 12, _, _ => simp only [zc_md, up2_ne _ _ _ (show 11 ≠ 23 by decide)]
    | 13, _, _ => simp only [zc_md, up2_ne _ _ _ (show 12 ≠ 23 by decide)]
    | 14, _, _ => simp only [zc_md, up2_ne _ _ _ (show 13 ≠ 23 by decide)]
    | 15, _, _ => rfl
    | 16, _, _ => simp only [zc_md, up2_ne _ _ _ (show 15 ≠ 23 by decide)]
    | 17, _, _ => simp only [zc_md, up2_ne _ _ _ (show 16 ≠ 23 by decide)]
    | 18, _, _ => simp only [zc_md, up2_ne _ _ _ (show 17 ≠ 23 by decide)]
    | 19, _, _ => simp only [zc_md, up2_ne _ _ _ (show 18 ≠ 23 by decide)]
    | 20, _, _ => simp only [zc_md, up2_ne _ _ _ (show 19 ≠ 23 by decide)]
    | 21, _, _ => simp only [zc_md, up2_ne _ _ _ (show 20 ≠ 23 by decide)]
    | 22, _, _ => simp only [zc_md, up2_ne _ _ _ (show 21 ≠ 23 by decide)]
    | 23, _, _ => simp only [zc_md, up2_ne _ _ _ (show 22 ≠ 23 by decide)]
    | 24, _, g => exact absurd rfl g
    | 25, _, _ => simp only [zc_md, up2_ne _ _ _ (show 24 ≠ 23 by decide)]
    | 26, _, _ => simp only [zc_md, up2_ne _ _ _ (show 25 ≠ 23 by decide)]
    | 27, _, _ => simp only [zc_md, up2_ne _ _ _ (show 26 ≠ 23 by decide)]
    | 28, _, _ => simp only [zc_md, up2_ne _ _ _ (show 27 ≠ 23 by decide)]
    | 29, _, _ => simp only [zc_md, up2_ne _ _ _ (show 28 ≠ 23 by decide)]
    | 30, _, _ => simp only [zc_md, up2_ne _ _ _ (show 29 ≠ 23 by decide)]
    | 31, _, _ => simp only [zc_md, up2_ne _ _ _ (show 30 ≠ 23 by decide)]
    | j + 32, h, _ => exact absurd h (by omega)
theorem up_m24 {i : Nat} {v : Int32} : zx_up (zs b (B, F, (t, fr, lo, I, J))) (ma b 24) (.inl (0, 10, .inl (upd (I 24) i v))) = zs b (B, F, (t, fr, lo, up2 I 24 i v, J)) := by
  refine up_md 25 (by decide) ?_ (fun d h g => ?_)
  · simp only [zc_md, up2_at]; rfl
  · match d, h, g with
    | 0, _, _ => rfl
    | 1, _, _ => simp only [zc_md, up2_ne _ _ _ (show 0 ≠ 24 by decide)]
    | 2, _, _ => simp only [zc_md, up2_ne _ _ _ (show 1 ≠ 24 by decide)]
    | 3, _, _ => rfl
    | 4, _, _ => simp only [zc_md, up2_ne _ _ _ (show 3 ≠ 24 by decide)]
    | 5, _, _ => simp only [zc_md, up2_ne _ _ _ (show 4 ≠ 24 by decide)]
    | 6, _, _ => simp only [zc_md, up2_ne _ _ _ (show 5 ≠ 24 by decide)]
    | 7, _, _ => simp only [zc_md, up2_ne _ _ _ (show 6 ≠ 24 by decide)]
    | 8, _, _ => rfl
    | 9, _, _ => simp only [zc_md, up2_ne _ _ _ (show 8 ≠ 24 by decide)]
    | 10, _, _ => simp only [zc_md, up2_ne _ _ _ (show 9 ≠ 24 by decide)]
    | 11, _, _ => simp only [zc_md, up2_ne _ _ _ (show 10 ≠ 24 by decide)]
    | 12, _, _ => simp only [zc_md, up2_ne _ _ _ (show 11 ≠ 24 by decide)]
    | 13, _, _ => simp only [zc_md, up2_ne _ _ _ (show 12 ≠ 24 by decide)]
    | 14, _, _ => simp only [zc_md, up2_ne _ _ _ (show 13 ≠ 24 by decide)]
    | 15, _, _ => rfl
    | 16, _, _ => simp only [zc_md, up2_ne _ _ _ (show 15 ≠ 24 by decide)]
    | 17, _, _ => simp only [zc_md, up2_ne _ _ _ (show 16 ≠ 24 by decide)]
    | 18, _, _ => simp only [zc_md, up2_ne _ _ _ (show 17 ≠ 24 by decide)]
    | 19, _, _ => simp only [zc_md, up2_ne _ _ _ (show 18 ≠ 24 by decide)]
    | 20, _, _ => simp only [zc_md, up2_ne _ _ _ (show 19 ≠ 24 by decide)]
    | 21, _, _ => simp only [zc_md, up2_ne _ _ _ (show 20 ≠ 24 by decide)]
    | 22, _, _ => simp only [zc_md, up2_ne _ _ _ (show 21 ≠ 24 by decide)]
    | 23, _, _ => simp only [zc_md, up2_ne _ _ _ (show 22 ≠ 24 by decide)]
    | 24, _, _ => simp only [zc_md, up2_ne _ _ _ (show 23 ≠ 24 by decide)]
    | 25, _, g => exact absurd rfl g
    | 26, _, _ => simp only [zc_md, up2_ne _ _ _ (show 25 ≠ 24 by decide)]
    | 27, _, _ => simp only [zc_md, up2_ne _ _ _ (show 26 ≠ 24 by decide)]
    | 28, _, _ => simp only [zc_md, up2_ne _ _ _ (show 27 ≠ 24 by decide)]
    | 29, _, _ => simp only [zc_md, up2_ne _ _ _ (show 28 ≠ 24 by decide)]
    | 30, _, _ => simp only [zc_md, up2_ne _ _ _ (show 29 ≠ 24 by decide)]
    | 31, _, _ => simp only [zc_md, up2_ne _ _ _ (show 30 ≠ 24 by decide)]
    | j + 32, h, _ => exact absurd h (by omega)
theorem up_m25 {i : Nat} {v : Int32} : zx_up (zs b (B, F, (t, fr, lo, I, J))) (ma b 25) (.inl (2, 10, .inl (upd (I 25) i v))) = zs b (B, F, (t, fr, lo, up2 I 25 i v, J)) := by
  refine up_md 26 (by decide) ?_ (fun d h g => ?_)
  · simp only [zc_md, up2_at]; rfl
  · match d, h, g with
    | 0, _, _ => rfl
    | 1, _, _ => simp only [zc_md, up2_ne _ _ _ (show 0 ≠ 25 by decide)]
    | 2, _, _ => simp only [zc_md, up2_ne _ _ _ (show 1 ≠ 25 by decide)]
    | 3, _, _ => rfl
    | 4, _, _ => simp only [zc_md, up2_ne _ _ _ (show 3 ≠ 25 by decide)]
    | 5, _, _ => simp only [zc_md, up2_ne _ _ _ (show 4 ≠ 25 by decide)]
    | 6, _, _ => simp only [zc_md, up2_ne _ _ _ (show 5 ≠ 25 by decide)]
    | 7, _, _ => simp only [zc_md, up2_ne _ _ _ (show 6 ≠ 25 by decide)]
    | 8, _, _ => rfl
    | 9, _, _ => simp only [zc_md, up2_ne _ _ _ (show 8 ≠ 25 by decide)]
    | 10, _, _ => simp only [zc_md, up2_ne _ _ _ (show 9 ≠ 25 by decide)]
    | 11, _, _ => simp only [zc_md, up2_ne _ _ _ (show 10 ≠ 25 by decide)]
    | 12, _, _ => simp only [zc_md, up2_ne _ _ _ (show 11 ≠ 25 by decide)]
    | 13, _, _ => simp only [zc_md, up2_ne _ _ _ (show 12 ≠ 25 by decide)]
    | 14, _, _ => simp only [zc_md, up2_ne _ _ _ (show 13 ≠ 25 by decide)]
    | 15, _, _ => rfl
    | 16, _, _ => simp only [zc_md, up2_ne _ _ _ (show 15 ≠ 25 by decide)]
    | 17, _, _ => simp only [zc_md, up2_ne _ _ _ (show 16 ≠ 25 by decide)]
    | 18, _, _ => simp only [zc_md, up2_ne _ _ _ (show 17 ≠ 25 by decide)]
    | 19, _, _ => simp only [zc_md, up2_ne _ _ _ (show 18 ≠ 25 by decide)]
    | 20, _, _ => simp only [zc_md, up2_ne _ _ _ (show 19 ≠ 25 by decide)]
    | 21, _, _ => simp only [zc_md, up2_ne _ _ _ (show 20 ≠ 25 by decide)]
    | 22, _, _ => simp only [zc_md, up2_ne _ _ _ (show 21 ≠ 25 by decide)]
    | 23, _, _ => simp only [zc_md, up2_ne _ _ _ (show 22 ≠ 25 by decide)]
    | 24, _, _ => simp only [zc_md, up2_ne _ _ _ (show 23 ≠ 25 by decide)]
    | 25, _, _ => simp only [zc_md, up2_ne _ _ _ (show 24 ≠ 25 by decide)]
    | 26, _, g => exact absurd rfl g
    | 27, _, _ => simp only [zc_md, up2_ne _ _ _ (show 26 ≠ 25 by decide)]
    | 28, _, _ => simp only [zc_md, up2_ne _ _ _ (show 27 ≠ 25 by decide)]
    | 29, _, _ => simp only [zc_md, up2_ne _ _ _ (show 28 ≠ 25 by decide)]
    | 30, _, _ => simp only [zc_md, up2_ne _ _ _ (show 29 ≠ 25 by decide)]
    | 31, _, _ => simp only [zc_md, up2_ne _ _ _ (show 30 ≠ 25 by decide)]
    | j + 32, h, _ => exact absurd h (by omega)
theorem up_m26 {i : Nat} {v : Int32} : zx_up (zs b (B, F, (t, fr, lo, I, J))) (ma b 26) (.inl (0, 10, .inl (upd (I 26) i v))) = zs b (B, F, (t, fr, lo, up2 I 26 i v, J)) := by
  refine up_md 27 (by decide) ?_ (fun d h g => ?_)
  · simp only [zc_md, up2_at]; rfl
  · match d, h, g with
    | 0, _, _ => rfl
    | 1, _, _ => simp only [zc_md, up2_ne _ _ _ (show 0 ≠ 26 by decide)]
    | 2, _, _ => simp only [zc_md, up2_ne _ _ _ (show 1 ≠ 26 by decide)]
    | 3, _, _ => rfl
    | 4, _, _ => simp only [zc_md, up2_ne _ _ _ (show 3 ≠ 26 by decide)]
    | 5, _, _ => simp only [zc_md, up2_ne _ _ _ (show 4 ≠ 26 by decide)]
    | 6, _, _ => simp only [zc_md, up2_ne _ _ _ (show 5 ≠ 26 by decide)]
    | 7, _, _ => simp only [zc_md, up2_ne _ _ _ (show 6 ≠ 26 by decide)]
    | 8, _, _ => rfl
    | 9, _, _ => simp only [zc_md, up2_ne _ _ _ (show 8 ≠ 26 by decide)]
    | 10, _, _ => simp only [zc_md, up2_ne _ _ _ (show 9 ≠ 26 by decide)]
    | 11, _, _ => simp only [zc_md, up2_ne _ _ _ (show 10 ≠ 26 by decide)]
    | 12, _, _ => simp only [zc_md, up2_ne _ _ _ (show 11 ≠ 26 by decide)]
    | 13, _, _ => simp only [zc_md, up2_ne _ _ _ (show 12 ≠ 26 by decide)]
    | 14, _, _ => simp only [zc_md, up2_ne _ _ _ (show 13 ≠ 26 by decide)]
    | 15, _, _ => rfl
    | 16, _, _ => simp only [zc_md, up2_ne _ _ _ (show 15 ≠ 26 by decide)]
    | 17, _, _ => simp only [zc_md, up2_ne _ _ _ (show 16 ≠ 26 by decide)]
    | 18, _, _ => simp only [zc_md, up2_ne _ _ _ (show 17 ≠ 26 by decide)]
    | 19, _, _ => simp only [zc_md, up2_ne _ _ _ (show 18 ≠ 26 by decide)]
    | 20, _, _ => simp only [zc_md, up2_ne _ _ _ (show 19 ≠ 26 by decide)]
    | 21, _, _ => simp only [zc_md, up2_ne _ _ _ (show 20 ≠ 26 by decide)]
    | 22, _, _ => simp only [zc_md, up2_ne _ _ _ (show 21 ≠ 26 by decide)]
    | 23, _, _ => simp only [zc_md, up2_ne _ _ _ (show 22 ≠ 26 by decide)]
    | 24, _, _ => simp only [zc_md, up2_ne _ _ _ (show 23 ≠ 26 by decide)]
    | 25, _, _ => simp only [zc_md, up2_ne _ _ _ (show 24 ≠ 26 by decide)]
    | 26, _, _ => simp only [zc_md, up2_ne _ _ _ (show 25 ≠ 26 by decide)]
    | 27, _, g => exact absurd rfl g
    | 28, _, _ => simp only [zc_md, up2_ne _ _ _ (show 27 ≠ 26 by decide)]
    | 29, _, _ => simp only [zc_md, up2_ne _ _ _ (show 28 ≠ 26 by decide)]
    | 30, _, _ => simp only [zc_md, up2_ne _ _ _ (show 29 ≠ 26 by decide)]
    | 31, _, _ => simp only [zc_md, up2_ne _ _ _ (show 30 ≠ 26 by decide)]
    | j + 32, h, _ => exact absurd h (by omega)
theorem up_m27 {i : Nat} {v : Int32} : zx_up (zs b (B, F, (t, fr, lo, I, J))) (ma b 27) (.inl (0, 490, .inl (upd (I 27) i v))) = zs b (B, F, (t, fr, lo, up2 I 27 i v, J)) := by
  refine up_md 28 (by decide) ?_ (fun d h g => ?_)
  · simp only [zc_md, up2_at]; rfl
  · match d, h, g with
    | 0, _, _ => rfl
    | 1, _, _ => simp only [zc_md, up2_ne _ _ _ (show 0 ≠ 27 by decide)]
    | 2, _, _ => simp only [zc_md, up2_ne _ _ _ (show 1 ≠ 27 by decide)]
    | 3, _, _ => rfl
    | 4, _, _ => simp only [zc_md, up2_ne _ _ _ (show 3 ≠ 27 by decide)]
    | 5, _, _ => simp only [zc_md, up2_ne _ _ _ (show 4 ≠ 27 by decide)]
    | 6, _, _ => simp only [zc_md, up2_ne _ _ _ (show 5 ≠ 27 by decide)]
    | 7, _, _ => simp only [zc_md, up2_ne _ _ _ (show 6 ≠ 27 by decide)]
    | 8, _, _ => rfl
    | 9, _, _ => simp only [zc_md, up2_ne _ _ _ (show 8 ≠ 27 by decide)]
    | 10, _, _ => simp only [zc_md, up2_ne _ _ _ (show 9 ≠ 27 by decide)]
    | 11, _, _ => simp only [zc_md, up2_ne _ _ _ (show 10 ≠ 27 by decide)]
    | 12, _, _ => simp only [zc_md, up2_ne _ _ _ (show 11 ≠ 27 by decide)]
    | 13, _, _ => simp only [zc_md, up2_ne _ _ _ (show 12 ≠ 27 by decide)]
    | 14, _, _ => simp only [zc_md, up2_ne _ _ _ (show 13 ≠ 27 by decide)]
    | 15, _, _ => rfl
    | 16, _, _ => simp only [zc_md, up2_ne _ _ _ (show 15 ≠ 27 by decide)]
    | 17, _, _ => simp only [zc_md, up2_ne _ _ _ (show 16 ≠ 27 by decide)]
    | 18, _, _ => simp only [zc_md, up2_ne _ _ _ (show 17 ≠ 27 by decide)]
    | 19, _, _ => simp only [zc_md, up2_ne _ _ _ (show 18 ≠ 27 by decide)]
    | 20, _, _ => simp only [zc_md, up2_ne _ _ _ (show 19 ≠ 27 by decide)]
    | 21, _, _ => simp only [zc_md, up2_ne _ _ _ (show 20 ≠ 27 by decide)]
    | 22, _, _ => simp only [zc_md, up2_ne _ _ _ (show 21 ≠ 27 by decide)]
    | 23, _, _ => simp only [zc_md, up2_ne _ _ _ (show 22 ≠ 27 by decide)]
    | 24, _, _ => simp only [zc_md, up2_ne _ _ _ (show 23 ≠ 27 by decide)]
    | 25, _, _ => simp only [zc_md, up2_ne _ _ _ (show 24 ≠ 27 by decide)]
    | 26, _, _ => simp only [zc_md, up2_ne _ _ _ (show 25 ≠ 27 by decide)]
    | 27, _, _ => simp only [zc_md, up2_ne _ _ _ (show 26 ≠ 27 by decide)]
    | 28, _, g => exact absurd rfl g
    | 29, _, _ => simp only [zc_md, up2_ne _ _ _ (show 28 ≠ 27 by decide)]
    | 30, _, _ => simp only [zc_md, up2_ne _ _ _ (show 29 ≠ 27 by decide)]
    | 31, _, _ => simp only [zc_md, up2_ne _ _ _ (show 30 ≠ 27 by decide)]
    | j + 32, h, _ => exact absurd h (by omega)
theorem up_m28 {i : Nat} {v : Int32} : zx_up (zs b (B, F, (t, fr, lo, I, J))) (ma b 28) (.inl (0, 5, .inl (upd (I 28) i v))) = zs b (B, F, (t, fr, lo, up2 I 28 i v, J)) := by
  refine up_md 29 (by decide) ?_ (fun d h g => ?_)
  · simp only [zc_md, up2_at]; rfl
  · match d, h, g with
    | 0, _, _ => rfl
    | 1, _, _ => simp only [zc_md, up2_ne _ _ _ (show 0 ≠ 28 by decide)]
    | 2, _, _ => simp only [zc_md, up2_ne _ _ _ (show 1 ≠ 28 by decide)]
    | 3, _, _ => rfl
    | 4, _, _ => simp only [zc_md, up2_ne _ _ _ (show 3 ≠ 28 by decide)]
    | 5, _, _ => simp only [zc_md, up2_ne _ _ _ (show 4 ≠ 28 by decide)]
    | 6, _, _ => simp only [zc_md, up2_ne _ _ _ (show 5 ≠ 28 by decide)]
    | 7, _, _ => simp only [zc_md, up2_ne _ _ _ (show 6 ≠ 28 by decide)]
    | 8, _, _ => rfl
    | 9, _, _ => simp only [zc_md, up2_ne _ _ _ (show 8 ≠ 28 by decide)]
    | 10, _, _ => simp only [zc_md, up2_ne _ _ _ (show 9 ≠ 28 by decide)]
    | 11, _, _ => simp only [zc_md, up2_ne _ _ _ (show 10 ≠ 28 by decide)]
    | 12, _, _ => simp only [zc_md, up2_ne _ _ _ (show 11 ≠ 28 by decide)]
    | 13, _, _ => simp only [zc_md, up2_ne _ _ _ (show 12 ≠ 28 by decide)]
    | 14, _, _ => simp only [zc_md, up2_ne _ _ _ (show 13 ≠ 28 by decide)]
    | 15, _, _ => rfl
    | 16, _, _ => simp only [zc_md, up2_ne _ _ _ (show 15 ≠ 28 by decide)]
    | 17, _, _ => simp only [zc_md, up2_ne _ _ _ (show 16 ≠ 28 by decide)]
    | 18, _, _ => simp only [zc_md, up2_ne _ _ _ (show 17 ≠ 28 by decide)]
    | 19, _, _ => simp only [zc_md, up2_ne _ _ _ (show 18 ≠ 28 by decide)]
    | 20, _, _ => simp only [zc_md, up2_ne _ _ _ (show 19 ≠ 28 by decide)]
    | 21, _, _ => simp only [zc_md, up2_ne _ _ _ (show 20 ≠ 28 by decide)]
    | 22, _, _ => simp only [zc_md, up2_ne _ _ _ (show 21 ≠ 28 by decide)]
    | 23, _, _ => simp only [zc_md, up2_ne _ _ _ (show 22 ≠ 28 by decide)]
    | 24, _, _ => simp only [zc_md, up2_ne _ _ _ (show 23 ≠ 28 by decide)]
    | 25, _, _ => simp only [zc_md, up2_ne _ _ _ (show 24 ≠ 28 by decide)]
    | 26, _, _ => simp only [zc_md, up2_ne _ _ _ (show 25 ≠ 28 by decide)]
    | 27, _, _ => simp only [zc_md, up2_ne _ _ _ (show 26 ≠ 28 by decide)]
    | 28, _, _ => simp only [zc_md, up2_ne _ _ _ (show 27 ≠ 28 by decide)]
    | 29, _, g => exact absurd rfl g
    | 30, _, _ => simp only [zc_md, up2_ne _ _ _ (show 29 ≠ 28 by decide)]
    | 31, _, _ => simp only [zc_md, up2_ne _ _ _ (show 30 ≠ 28 by decide)]
    | j + 32, h, _ => exact absurd h (by omega)
theorem up_m29 {i : Nat} {v : Int32} : zx_up (zs b (B, F, (t, fr, lo, I, J))) (ma b 29) (.inl (0, 20, .inl (upd (I 29) i v))) = zs b (B, F, (t, fr, lo, up2 I 29 i v, J)) := by
  refine up_md 30 (by decide) ?_ (fun d h g => ?_)
  · simp only [zc_md, up2_at]; rfl
  · match d, h, g with
    | 0, _, _ => rfl
    | 1, _, _ => simp only [zc_md, up2_ne _ _ _ (show 0 ≠ 29 by decide)]
    | 2, _, _ => simp only [zc_md, up2_ne _ _ _ (show 1 ≠ 29 by decide)]
    | 3, _, _ => rfl
    | 4, _, _ => simp only [zc_md, up2_ne _ _ _ (show 3 ≠ 29 by decide)]
    | 5, _, _ => simp only [zc_md, up2_ne _ _ _ (show 4 ≠ 29 by decide)]
    | 6, _, _ => simp only [zc_md, up2_ne _ _ _ (show 5 ≠ 29 by decide)]
    | 7, _, _ => simp only [zc_md, up2_ne _ _ _ (show 6 ≠ 29 by decide)]
    | 8, _, _ => rfl
    | 9, _, _ => simp only [zc_md, up2_ne _ _ _ (show 8 ≠ 29 by decide)]
    | 10, _, _ => simp only [zc_md, up2_ne _ _ _ (show 9 ≠ 29 by decide)]
    | 11, _, _ => simp only [zc_md, up2_ne _ _ _ (show 10 ≠ 29 by decide)]
    | 12, _, _ => simp only [zc_md, up2_ne _ _ _ (show 11 ≠ 29 by decide)]
    | 13, _, _ => simp only [zc_md, up2_ne _ _ _ (show 12 ≠ 29 by decide)]
    | 14, _, _ => simp only [zc_md, up2_ne _ _ _ (show 13 ≠ 29 by decide)]
    | 15, _, _ => rfl
    | 16, _, _ => simp only [zc_md, up2_ne _ _ _ (show 15 ≠ 29 by decide)]
    | 17, _, _ => simp only [zc_md, up2_ne _ _ _ (show 16 ≠ 29 by decide)]
    | 18, _, _ => simp only [zc_md, up2_ne _ _ _ (show 17 ≠ 29 by decide)]
    | 19, _, _ => simp only [zc_md, up2_ne _ _ _ (show 18 ≠ 29 by decide)]
    | 20, _, _ => simp only [zc_md, up2_ne _ _ _ (show 19 ≠ 29 by decide)]
    | 21, _, _ => simp only [zc_md, up2_ne _ _ _ (show 20 ≠ 29 by decide)]
    | 22, _, _ => simp only [zc_md, up2_ne _ _ _ (show 21 ≠ 29 by decide)]
    | 23, _, _ => simp only [zc_md, up2_ne _ _ _ (show 22 ≠ 29 by decide)]
    | 24, _, _ => simp only [zc_md, up2_ne _ _ _ (show 23 ≠ 29 by decide)]
    | 25, _, _ => simp only [zc_md, up2_ne _ _ _ (show 24 ≠ 29 by decide)]
    | 26, _, _ => simp only [zc_md, up2_ne _ _ _ (show 25 ≠ 29 by decide)]
    | 27, _, _ => simp only [zc_md, up2_ne _ _ _ (show 26 ≠ 29 by decide)]
    | 28, _, _ => simp only [zc_md, up2_ne _ _ _ (show 27 ≠ 29 by decide)]
    | 29, _, _ => simp only [zc_md, up2_ne _ _ _ (show 28 ≠ 29 by decide)]
    | 30, _, g => exact absurd rfl g
    | 31, _, _ => simp only [zc_md, up2_ne _ _ _ (show 30 ≠ 29 by decide)]
    | j + 32, h, _ => exact absurd h (by omega)
theorem up_m30 {i : Nat} {v : Int32} : zx_up (zs b (B, F, (t, fr, lo, I, J))) (ma b 30) (.inl (0, 245, .inl (upd (I 30) i v))) = zs b (B, F, (t, fr, lo, up2 I 30 i v, J)) := by
  refine up_md 31 (by decide) ?_ (fun d h g => ?_)
  · simp only [zc_md, up2_at]; rfl
  · match d, h, g with
    | 0, _, _ => rfl
    | 1, _, _ => simp only [zc_md, up2_ne _ _ _ (show 0 ≠ 30 by decide)]
    | 2, _, _ => simp only [zc_md, up2_ne _ _ _ (show 1 ≠ 30 by decide)]
    | 3, _, _ => rfl
    | 4, _, _ => simp only [zc_md, up2_ne _ _ _ (show 3 ≠ 30 by decide)]
    | 5, _, _ => simp only [zc_md, up2_ne _ _ _ (show 4 ≠ 30 by decide)]
    | 6, _, _ => simp only [zc_md, up2_ne _ _ _ (show 5 ≠ 30 by decide)]
    | 7, _, _ => simp only [zc_md, up2_ne _ _ _ (show 6 ≠ 30 by decide)]
    | 8, _, _ => rfl
    | 9, _, _ => simp only [zc_md, up2_ne _ _ _ (show 8 ≠ 30 by decide)]
    | 10, _, _ => simp only [zc_md, up2_ne _ _ _ (show 9 ≠ 30 by decide)]
    | 11, _, _ => simp only [zc_md, up2_ne _ _ _ (show 10 ≠ 30 by decide)]
    | 12, _, _ => simp only [zc_md, up2_ne _ _ _ (show 11 ≠ 30 by decide)]
    | 13, _, _ => simp only [zc_md, up2_ne _ _ _ (show 12 ≠ 30 by decide)]
    | 14, _, _ => simp only [zc_md, up2_ne _ _ _ (show 13 ≠ 30 by decide)]
    | 15, _, _ => rfl
    | 16, _, _ => simp only [zc_md, up2_ne _ _ _ (show 15 ≠ 30 by decide)]
    | 17, _, _ => simp only [zc_md, up2_ne _ _ _ (show 16 ≠ 30 by decide)]
    | 18, _, _ => simp only [zc_md, up2_ne _ _ _ (show 17 ≠ 30 by decide)]
    | 19, _, _ => simp only [zc_md, up2_ne _ _ _ (show 18 ≠ 30 by decide)]
    | 20, _, _ => simp only [zc_md, up2_ne _ _ _ (show 19 ≠ 30 by decide)]
    | 21, _, _ => simp only [zc_md, up2_ne _ _ _ (show 20 ≠ 30 by decide)]
    | 22, _, _ => simp only [zc_md, up2_ne _ _ _ (show 21 ≠ 30 by decide)]
    | 23, _, _ => simp only [zc_md, up2_ne _ _ _ (show 22 ≠ 30 by decide)]
    | 24, _, _ => simp only [zc_md, up2_ne _ _ _ (show 23 ≠ 30 by decide)]
    | 25, _, _ => simp only [zc_md, up2_ne _ _ _ (show 24 ≠ 30 by decide)]
    | 26, _, _ => simp only [zc_md, up2_ne _ _ _ (show 25 ≠ 30 by decide)]
    | 27, _, _ => simp only [zc_md, up2_ne _ _ _ (show 26 ≠ 30 by decide)]
    | 28, _, _ => simp only [zc_md, up2_ne _ _ _ (show 27 ≠ 30 by decide)]
    | 29, _, _ => simp only [zc_md, up2_ne _ _ _ (show 28 ≠ 30 by decide)]
    | 30, _, _ => simp only [zc_md, up2_ne _ _ _ (show 29 ≠ 30 by decide)]
    | 31, _, g => exact absurd rfl g
    | j + 32, h, _ => exact absurd h (by omega)
end ZSR
end
