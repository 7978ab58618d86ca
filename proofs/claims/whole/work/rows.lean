section
-- ===== PART A: goes FIRST, ahead of the names: the tables' words, and 'selects' of the private methods out of them =====
/-- a private method of a class that the tables say can be made, by its rows of tables_1 -/
def lw_okq (q : MethodName × Nat) : Prop := (q.1.cls ≠ "java/lang/invoke/MethodHandle" ∧ q.1.cls ≠ "java/lang/invoke/VarHandle") ∧ Cond.instantiable q.1.cls q.2 ∈ tables_1 ∧ Cond.privateMethod q.1 ∈ tables_1 ∧ Cond.instanceMethod q.1 ∈ tables_1
theorem lw_p0 : lw_okq (⟨"AddressClaimBus", "isFunction", "(I)Z"⟩, 2) := ⟨⟨by decide +kernel, by decide +kernel⟩, List.mem_of_getElem? (i := 11) (by decide +kernel), List.mem_of_getElem? (i := 247) (by decide +kernel), List.mem_of_getElem? (i := 248) (by decide +kernel)⟩
theorem lw_p1 : lw_okq (⟨"AddressClaimBus", "isOn", "(I)Z"⟩, 2) := ⟨⟨by decide +kernel, by decide +kernel⟩, List.mem_of_getElem? (i := 11) (by decide +kernel), List.mem_of_getElem? (i := 251) (by decide +kernel), List.mem_of_getElem? (i := 252) (by decide +kernel)⟩
theorem lw_p2 : lw_okq (⟨"AddressClaimBus", "isNameTaken", "(J)Z"⟩, 2) := ⟨⟨by decide +kernel, by decide +kernel⟩, List.mem_of_getElem? (i := 11) (by decide +kernel), List.mem_of_getElem? (i := 255) (by decide +kernel), List.mem_of_getElem? (i := 256) (by decide +kernel)⟩
theorem lw_p3 : lw_okq (⟨"AddressClaimBus$Function", "claim", "(I)V"⟩, 10) := ⟨⟨by decide +kernel, by decide +kernel⟩, List.mem_of_getElem? (i := 55) (by decide +kernel), List.mem_of_getElem? (i := 263) (by decide +kernel), List.mem_of_getElem? (i := 264) (by decide +kernel)⟩
theorem lw_p4 : lw_okq (⟨"AddressClaimBus$Function", "sendClaim", "()V"⟩, 10) := ⟨⟨by decide +kernel, by decide +kernel⟩, List.mem_of_getElem? (i := 55) (by decide +kernel), List.mem_of_getElem? (i := 268) (by decide +kernel), List.mem_of_getElem? (i := 269) (by decide +kernel)⟩
theorem lw_p5 : lw_okq (⟨"AddressClaimBus$Function", "endSessions", "()V"⟩, 10) := ⟨⟨by decide +kernel, by decide +kernel⟩, List.mem_of_getElem? (i := 55) (by decide +kernel), List.mem_of_getElem? (i := 285) (by decide +kernel), List.mem_of_getElem? (i := 286) (by decide +kernel)⟩
theorem lw_p6 : lw_okq (⟨"AddressClaimBus$Bus", "move", "(II)V"⟩, 6) := ⟨⟨by decide +kernel, by decide +kernel⟩, List.mem_of_getElem? (i := 19) (by decide +kernel), List.mem_of_getElem? (i := 301) (by decide +kernel), List.mem_of_getElem? (i := 302) (by decide +kernel)⟩
theorem lw_p7 : lw_okq (⟨"AddressClaimBus$Function", "takeClaim", "(IIJ)V"⟩, 10) := ⟨⟨by decide +kernel, by decide +kernel⟩, List.mem_of_getElem? (i := 55) (by decide +kernel), List.mem_of_getElem? (i := 381) (by decide +kernel), List.mem_of_getElem? (i := 382) (by decide +kernel)⟩
theorem lw_p8 : lw_okq (⟨"AddressClaimBus$Function", "isNameLessThan", "(J)Z"⟩, 10) := ⟨⟨by decide +kernel, by decide +kernel⟩, List.mem_of_getElem? (i := 55) (by decide +kernel), List.mem_of_getElem? (i := 385) (by decide +kernel), List.mem_of_getElem? (i := 386) (by decide +kernel)⟩
theorem lw_p9 : lw_okq (⟨"AddressClaimBus$Function", "loseAddress", "()V"⟩, 10) := ⟨⟨by decide +kernel, by decide +kernel⟩, List.mem_of_getElem? (i := 55) (by decide +kernel), List.mem_of_getElem? (i := 390) (by decide +kernel), List.mem_of_getElem? (i := 391) (by decide +kernel)⟩
theorem lw_p10 : lw_okq (⟨"AddressClaimBus$Function", "spareAddress", "()I"⟩, 10) := ⟨⟨by decide +kernel, by decide +kernel⟩, List.mem_of_getElem? (i := 55) (by decide +kernel), List.mem_of_getElem? (i := 394) (by decide +kernel), List.mem_of_getElem? (i := 395) (by decide +kernel)⟩
theorem lw_p11 : lw_okq (⟨"AddressClaimBus$Function", "isNoted", "(I)Z"⟩, 10) := ⟨⟨by decide +kernel, by decide +kernel⟩, List.mem_of_getElem? (i := 55) (by decide +kernel), List.mem_of_getElem? (i := 398) (by decide +kernel), List.mem_of_getElem? (i := 399) (by decide +kernel)⟩
theorem lw_p12 : lw_okq (⟨"AddressClaimBus$Function", "takeControl", "(IJ)V"⟩, 10) := ⟨⟨by decide +kernel, by decide +kernel⟩, List.mem_of_getElem? (i := 55) (by decide +kernel), List.mem_of_getElem? (i := 402) (by decide +kernel), List.mem_of_getElem? (i := 403) (by decide +kernel)⟩
theorem lw_p13 : lw_okq (⟨"AddressClaimBus$Function", "takeOpening", "(IIJZ)V"⟩, 10) := ⟨⟨by decide +kernel, by decide +kernel⟩, List.mem_of_getElem? (i := 55) (by decide +kernel), List.mem_of_getElem? (i := 413) (by decide +kernel), List.mem_of_getElem? (i := 414) (by decide +kernel)⟩
theorem lw_p14 : lw_okq (⟨"AddressClaimBus$Function", "roomForIncoming", "()LAddressClaimBus$Incoming;"⟩, 10) := ⟨⟨by decide +kernel, by decide +kernel⟩, List.mem_of_getElem? (i := 55) (by decide +kernel), List.mem_of_getElem? (i := 425) (by decide +kernel), List.mem_of_getElem? (i := 426) (by decide +kernel)⟩
theorem lw_p15 : lw_okq (⟨"AddressClaimBus$Incoming", "grant", "()V"⟩, 9) := ⟨⟨by decide +kernel, by decide +kernel⟩, List.mem_of_getElem? (i := 158) (by decide +kernel), List.mem_of_getElem? (i := 434) (by decide +kernel), List.mem_of_getElem? (i := 435) (by decide +kernel)⟩
def lw_privs_1 : List (MethodName × Nat) := [(⟨"AddressClaimBus", "isFunction", "(I)Z"⟩, 2), (⟨"AddressClaimBus", "isOn", "(I)Z"⟩, 2), (⟨"AddressClaimBus", "isNameTaken", "(J)Z"⟩, 2), (⟨"AddressClaimBus$Function", "claim", "(I)V"⟩, 10), (⟨"AddressClaimBus$Function", "sendClaim", "()V"⟩, 10), (⟨"AddressClaimBus$Function", "endSessions", "()V"⟩, 10), (⟨"AddressClaimBus$Bus", "move", "(II)V"⟩, 6), (⟨"AddressClaimBus$Function", "takeClaim", "(IIJ)V"⟩, 10), (⟨"AddressClaimBus$Function", "isNameLessThan", "(J)Z"⟩, 10), (⟨"AddressClaimBus$Function", "loseAddress", "()V"⟩, 10), (⟨"AddressClaimBus$Function", "spareAddress", "()I"⟩, 10), (⟨"AddressClaimBus$Function", "isNoted", "(I)Z"⟩, 10), (⟨"AddressClaimBus$Function", "takeControl", "(IJ)V"⟩, 10), (⟨"AddressClaimBus$Function", "takeOpening", "(IIJZ)V"⟩, 10), (⟨"AddressClaimBus$Function", "roomForIncoming", "()LAddressClaimBus$Incoming;"⟩, 10), (⟨"AddressClaimBus$Incoming", "grant", "()V"⟩, 9)]
theorem lw_r1 : ∀ q ∈ lw_privs_1, lw_okq q := List.forall_mem_cons.mpr ⟨lw_p0, List.forall_mem_cons.mpr ⟨lw_p1, List.forall_mem_cons.mpr ⟨lw_p2, List.forall_mem_cons.mpr ⟨lw_p3, List.forall_mem_cons.mpr ⟨lw_p4, List.forall_mem_cons.mpr ⟨lw_p5, List.forall_mem_cons.mpr ⟨lw_p6, List.forall_mem_cons.mpr ⟨lw_p7, List.forall_mem_cons.mpr ⟨lw_p8, List.forall_mem_cons.mpr ⟨lw_p9, List.forall_mem_cons.mpr ⟨lw_p10, List.forall_mem_cons.mpr ⟨lw_p11, List.forall_mem_cons.mpr ⟨lw_p12, List.forall_mem_cons.mpr ⟨lw_p13, List.forall_mem_cons.mpr ⟨lw_p14, List.forall_mem_cons.mpr ⟨lw_p15, fun _ h => absurd h List.not_mem_nil⟩⟩⟩⟩⟩⟩⟩⟩⟩⟩⟩⟩⟩⟩⟩⟩
theorem lw_p16 : lw_okq (⟨"AddressClaimBus$Outgoing", "sendPacket", "(I)V"⟩, 10) := ⟨⟨by decide +kernel, by decide +kernel⟩, List.mem_of_getElem? (i := 116) (by decide +kernel), List.mem_of_getElem? (i := 456) (by decide +kernel), List.mem_of_getElem? (i := 457) (by decide +kernel)⟩
theorem lw_p17 : lw_okq (⟨"AddressClaimBus$Function", "abortIncoming", "(II)V"⟩, 10) := ⟨⟨by decide +kernel, by decide +kernel⟩, List.mem_of_getElem? (i := 55) (by decide +kernel), List.mem_of_getElem? (i := 463) (by decide +kernel), List.mem_of_getElem? (i := 464) (by decide +kernel)⟩
theorem lw_p18 : lw_okq (⟨"AddressClaimBus$Function", "takePacket", "(IZJ)V"⟩, 10) := ⟨⟨by decide +kernel, by decide +kernel⟩, List.mem_of_getElem? (i := 55) (by decide +kernel), List.mem_of_getElem? (i := 467) (by decide +kernel), List.mem_of_getElem? (i := 468) (by decide +kernel)⟩
theorem lw_p19 : lw_okq (⟨"AddressClaimBus$Incoming", "keepExpected", "(J)V"⟩, 9) := ⟨⟨by decide +kernel, by decide +kernel⟩, List.mem_of_getElem? (i := 158) (by decide +kernel), List.mem_of_getElem? (i := 477) (by decide +kernel), List.mem_of_getElem? (i := 478) (by decide +kernel)⟩
theorem lw_p20 : lw_okq (⟨"AddressClaimBus$Incoming", "isWhole", "()Z"⟩, 9) := ⟨⟨by decide +kernel, by decide +kernel⟩, List.mem_of_getElem? (i := 158) (by decide +kernel), List.mem_of_getElem? (i := 485) (by decide +kernel), List.mem_of_getElem? (i := 486) (by decide +kernel)⟩
theorem lw_p21 : lw_okq (⟨"AddressClaimBus$Incoming", "askAgain", "(I)V"⟩, 9) := ⟨⟨by decide +kernel, by decide +kernel⟩, List.mem_of_getElem? (i := 158) (by decide +kernel), List.mem_of_getElem? (i := 493) (by decide +kernel), List.mem_of_getElem? (i := 494) (by decide +kernel)⟩
theorem lw_p22 : lw_okq (⟨"AddressClaimBus", "firstDue", "()I"⟩, 2) := ⟨⟨by decide +kernel, by decide +kernel⟩, List.mem_of_getElem? (i := 11) (by decide +kernel), List.mem_of_getElem? (i := 515) (by decide +kernel), List.mem_of_getElem? (i := 516) (by decide +kernel)⟩
theorem lw_p23 : lw_okq (⟨"AddressClaimBus$Outgoing", "sendNextToAll", "()V"⟩, 10) := ⟨⟨by decide +kernel, by decide +kernel⟩, List.mem_of_getElem? (i := 116) (by decide +kernel), List.mem_of_getElem? (i := 534) (by decide +kernel), List.mem_of_getElem? (i := 535) (by decide +kernel)⟩
theorem lw_p24 : lw_okq (⟨"AddressClaimBus", "hasMessage", "(I)Z"⟩, 2) := ⟨⟨by decide +kernel, by decide +kernel⟩, List.mem_of_getElem? (i := 11) (by decide +kernel), List.mem_of_getElem? (i := 562) (by decide +kernel), List.mem_of_getElem? (i := 563) (by decide +kernel)⟩
theorem lw_p25 : lw_okq (⟨"AddressClaimBusModel", "next", "()I"⟩, 34) := ⟨⟨by decide +kernel, by decide +kernel⟩, List.mem_of_getElem? (i := 575) (by decide +kernel), List.mem_of_getElem? (i := 693) (by decide +kernel), List.mem_of_getElem? (i := 694) (by decide +kernel)⟩
theorem lw_p26 : lw_okq (⟨"AddressClaimBusModel", "takeAway", "(I)V"⟩, 34) := ⟨⟨by decide +kernel, by decide +kernel⟩, List.mem_of_getElem? (i := 575) (by decide +kernel), List.mem_of_getElem? (i := 705) (by decide +kernel), List.mem_of_getElem? (i := 706) (by decide +kernel)⟩
theorem lw_p27 : lw_okq (⟨"AddressClaimBusModel", "reach", "(IIIIIJ)V"⟩, 34) := ⟨⟨by decide +kernel, by decide +kernel⟩, List.mem_of_getElem? (i := 575) (by decide +kernel), List.mem_of_getElem? (i := 717) (by decide +kernel), List.mem_of_getElem? (i := 718) (by decide +kernel)⟩
theorem lw_p28 : lw_okq (⟨"AddressClaimBusModel", "claimed", "(IIIJ)V"⟩, 34) := ⟨⟨by decide +kernel, by decide +kernel⟩, List.mem_of_getElem? (i := 575) (by decide +kernel), List.mem_of_getElem? (i := 721) (by decide +kernel), List.mem_of_getElem? (i := 722) (by decide +kernel)⟩
theorem lw_p29 : lw_okq (⟨"AddressClaimBusModel", "spare", "(I)I"⟩, 34) := ⟨⟨by decide +kernel, by decide +kernel⟩, List.mem_of_getElem? (i := 575) (by decide +kernel), List.mem_of_getElem? (i := 728) (by decide +kernel), List.mem_of_getElem? (i := 729) (by decide +kernel)⟩
theorem lw_p30 : lw_okq (⟨"AddressClaimBusModel", "putClaim", "(I)V"⟩, 34) := ⟨⟨by decide +kernel, by decide +kernel⟩, List.mem_of_getElem? (i := 575) (by decide +kernel), List.mem_of_getElem? (i := 732) (by decide +kernel), List.mem_of_getElem? (i := 733) (by decide +kernel)⟩
theorem lw_p31 : lw_okq (⟨"AddressClaimBusModel", "put", "(IIIIJ)V"⟩, 34) := ⟨⟨by decide +kernel, by decide +kernel⟩, List.mem_of_getElem? (i := 575) (by decide +kernel), List.mem_of_getElem? (i := 736) (by decide +kernel), List.mem_of_getElem? (i := 737) (by decide +kernel)⟩
def lw_privs_2 : List (MethodName × Nat) := [(⟨"AddressClaimBus$Outgoing", "sendPacket", "(I)V"⟩, 10), (⟨"AddressClaimBus$Function", "abortIncoming", "(II)V"⟩, 10), (⟨"AddressClaimBus$Function", "takePacket", "(IZJ)V"⟩, 10), (⟨"AddressClaimBus$Incoming", "keepExpected", "(J)V"⟩, 9), (⟨"AddressClaimBus$Incoming", "isWhole", "()Z"⟩, 9), (⟨"AddressClaimBus$Incoming", "askAgain", "(I)V"⟩, 9), (⟨"AddressClaimBus", "firstDue", "()I"⟩, 2), (⟨"AddressClaimBus$Outgoing", "sendNextToAll", "()V"⟩, 10), (⟨"AddressClaimBus", "hasMessage", "(I)Z"⟩, 2), (⟨"AddressClaimBusModel", "next", "()I"⟩, 34), (⟨"AddressClaimBusModel", "takeAway", "(I)V"⟩, 34), (⟨"AddressClaimBusModel", "reach", "(IIIIIJ)V"⟩, 34), (⟨"AddressClaimBusModel", "claimed", "(IIIJ)V"⟩, 34), (⟨"AddressClaimBusModel", "spare", "(I)I"⟩, 34), (⟨"AddressClaimBusModel", "putClaim", "(I)V"⟩, 34), (⟨"AddressClaimBusModel", "put", "(IIIIJ)V"⟩, 34)]
theorem lw_r2 : ∀ q ∈ lw_privs_2, lw_okq q := List.forall_mem_cons.mpr ⟨lw_p16, List.forall_mem_cons.mpr ⟨lw_p17, List.forall_mem_cons.mpr ⟨lw_p18, List.forall_mem_cons.mpr ⟨lw_p19, List.forall_mem_cons.mpr ⟨lw_p20, List.forall_mem_cons.mpr ⟨lw_p21, List.forall_mem_cons.mpr ⟨lw_p22, List.forall_mem_cons.mpr ⟨lw_p23, List.forall_mem_cons.mpr ⟨lw_p24, List.forall_mem_cons.mpr ⟨lw_p25, List.forall_mem_cons.mpr ⟨lw_p26, List.forall_mem_cons.mpr ⟨lw_p27, List.forall_mem_cons.mpr ⟨lw_p28, List.forall_mem_cons.mpr ⟨lw_p29, List.forall_mem_cons.mpr ⟨lw_p30, List.forall_mem_cons.mpr ⟨lw_p31, fun _ h => absurd h List.not_mem_nil⟩⟩⟩⟩⟩⟩⟩⟩⟩⟩⟩⟩⟩⟩⟩⟩
theorem lw_p32 : lw_okq (⟨"AddressClaimBusModel", "source", "(I)I"⟩, 34) := ⟨⟨by decide +kernel, by decide +kernel⟩, List.mem_of_getElem? (i := 575) (by decide +kernel), List.mem_of_getElem? (i := 740) (by decide +kernel), List.mem_of_getElem? (i := 741) (by decide +kernel)⟩
theorem lw_p33 : lw_okq (⟨"AddressClaimBusModel", "control", "(IIIJ)V"⟩, 34) := ⟨⟨by decide +kernel, by decide +kernel⟩, List.mem_of_getElem? (i := 575) (by decide +kernel), List.mem_of_getElem? (i := 744) (by decide +kernel), List.mem_of_getElem? (i := 745) (by decide +kernel)⟩
theorem lw_p34 : lw_okq (⟨"AddressClaimBusModel", "find", "(IIZ)I"⟩, 34) := ⟨⟨by decide +kernel, by decide +kernel⟩, List.mem_of_getElem? (i := 575) (by decide +kernel), List.mem_of_getElem? (i := 750) (by decide +kernel), List.mem_of_getElem? (i := 751) (by decide +kernel)⟩
theorem lw_p35 : lw_okq (⟨"AddressClaimBusModel", "opened", "(IIIIZ)V"⟩, 34) := ⟨⟨by decide +kernel, by decide +kernel⟩, List.mem_of_getElem? (i := 575) (by decide +kernel), List.mem_of_getElem? (i := 754) (by decide +kernel), List.mem_of_getElem? (i := 755) (by decide +kernel)⟩
theorem lw_p36 : lw_okq (⟨"AddressClaimBusModel", "close", "(II)V"⟩, 34) := ⟨⟨by decide +kernel, by decide +kernel⟩, List.mem_of_getElem? (i := 575) (by decide +kernel), List.mem_of_getElem? (i := 758) (by decide +kernel), List.mem_of_getElem? (i := 759) (by decide +kernel)⟩
theorem lw_p37 : lw_okq (⟨"AddressClaimBusModel", "putAbort", "(IIII)V"⟩, 34) := ⟨⟨by decide +kernel, by decide +kernel⟩, List.mem_of_getElem? (i := 575) (by decide +kernel), List.mem_of_getElem? (i := 762) (by decide +kernel), List.mem_of_getElem? (i := 763) (by decide +kernel)⟩
theorem lw_p38 : lw_okq (⟨"AddressClaimBusModel", "putControl", "(IIIIIII)V"⟩, 34) := ⟨⟨by decide +kernel, by decide +kernel⟩, List.mem_of_getElem? (i := 575) (by decide +kernel), List.mem_of_getElem? (i := 766) (by decide +kernel), List.mem_of_getElem? (i := 767) (by decide +kernel)⟩
theorem lw_p39 : lw_okq (⟨"AddressClaimBusModel", "grant", "(II)V"⟩, 34) := ⟨⟨by decide +kernel, by decide +kernel⟩, List.mem_of_getElem? (i := 575) (by decide +kernel), List.mem_of_getElem? (i := 771) (by decide +kernel), List.mem_of_getElem? (i := 772) (by decide +kernel)⟩
theorem lw_p40 : lw_okq (⟨"AddressClaimBusModel", "granted", "(III)V"⟩, 34) := ⟨⟨by decide +kernel, by decide +kernel⟩, List.mem_of_getElem? (i := 575) (by decide +kernel), List.mem_of_getElem? (i := 778) (by decide +kernel), List.mem_of_getElem? (i := 779) (by decide +kernel)⟩
theorem lw_p41 : lw_okq (⟨"AddressClaimBusModel", "putPacket", "(II)V"⟩, 34) := ⟨⟨by decide +kernel, by decide +kernel⟩, List.mem_of_getElem? (i := 575) (by decide +kernel), List.mem_of_getElem? (i := 782) (by decide +kernel), List.mem_of_getElem? (i := 783) (by decide +kernel)⟩
theorem lw_p42 : lw_okq (⟨"AddressClaimBusModel", "finish", "(II)V"⟩, 34) := ⟨⟨by decide +kernel, by decide +kernel⟩, List.mem_of_getElem? (i := 575) (by decide +kernel), List.mem_of_getElem? (i := 786) (by decide +kernel), List.mem_of_getElem? (i := 787) (by decide +kernel)⟩
theorem lw_p43 : lw_okq (⟨"AddressClaimBusModel", "packet", "(IIIJ)V"⟩, 34) := ⟨⟨by decide +kernel, by decide +kernel⟩, List.mem_of_getElem? (i := 575) (by decide +kernel), List.mem_of_getElem? (i := 790) (by decide +kernel), List.mem_of_getElem? (i := 791) (by decide +kernel)⟩
theorem lw_p44 : lw_okq (⟨"AddressClaimBusModel", "keep", "(IIIJ)V"⟩, 34) := ⟨⟨by decide +kernel, by decide +kernel⟩, List.mem_of_getElem? (i := 575) (by decide +kernel), List.mem_of_getElem? (i := 794) (by decide +kernel), List.mem_of_getElem? (i := 795) (by decide +kernel)⟩
theorem lw_p45 : lw_okq (⟨"AddressClaimBusModel", "askAgain", "(III)V"⟩, 34) := ⟨⟨by decide +kernel, by decide +kernel⟩, List.mem_of_getElem? (i := 575) (by decide +kernel), List.mem_of_getElem? (i := 798) (by decide +kernel), List.mem_of_getElem? (i := 799) (by decide +kernel)⟩
theorem lw_p46 : lw_okq (⟨"AddressClaimBusModel", "on", "(I)Z"⟩, 34) := ⟨⟨by decide +kernel, by decide +kernel⟩, List.mem_of_getElem? (i := 575) (by decide +kernel), List.mem_of_getElem? (i := 810) (by decide +kernel), List.mem_of_getElem? (i := 811) (by decide +kernel)⟩
theorem lw_p47 : lw_okq (⟨"AddressClaimBusModel", "due", "(I)I"⟩, 34) := ⟨⟨by decide +kernel, by decide +kernel⟩, List.mem_of_getElem? (i := 575) (by decide +kernel), List.mem_of_getElem? (i := 844) (by decide +kernel), List.mem_of_getElem? (i := 845) (by decide +kernel)⟩
def lw_privs_3 : List (MethodName × Nat) := [(⟨"AddressClaimBusModel", "source", "(I)I"⟩, 34), (⟨"AddressClaimBusModel", "control", "(IIIJ)V"⟩, 34), (⟨"AddressClaimBusModel", "find", "(IIZ)I"⟩, 34), (⟨"AddressClaimBusModel", "opened", "(IIIIZ)V"⟩, 34), (⟨"AddressClaimBusModel", "close", "(II)V"⟩, 34), (⟨"AddressClaimBusModel", "putAbort", "(IIII)V"⟩, 34), (⟨"AddressClaimBusModel", "putControl", "(IIIIIII)V"⟩, 34), (⟨"AddressClaimBusModel", "grant", "(II)V"⟩, 34), (⟨"AddressClaimBusModel", "granted", "(III)V"⟩, 34), (⟨"AddressClaimBusModel", "putPacket", "(II)V"⟩, 34), (⟨"AddressClaimBusModel", "finish", "(II)V"⟩, 34), (⟨"AddressClaimBusModel", "packet", "(IIIJ)V"⟩, 34), (⟨"AddressClaimBusModel", "keep", "(IIIJ)V"⟩, 34), (⟨"AddressClaimBusModel", "askAgain", "(III)V"⟩, 34), (⟨"AddressClaimBusModel", "on", "(I)Z"⟩, 34), (⟨"AddressClaimBusModel", "due", "(I)I"⟩, 34)]
theorem lw_r3 : ∀ q ∈ lw_privs_3, lw_okq q := List.forall_mem_cons.mpr ⟨lw_p32, List.forall_mem_cons.mpr ⟨lw_p33, List.forall_mem_cons.mpr ⟨lw_p34, List.forall_mem_cons.mpr ⟨lw_p35, List.forall_mem_cons.mpr ⟨lw_p36, List.forall_mem_cons.mpr ⟨lw_p37, List.forall_mem_cons.mpr ⟨lw_p38, List.forall_mem_cons.mpr ⟨lw_p39, List.forall_mem_cons.mpr ⟨lw_p40, List.forall_mem_cons.mpr ⟨lw_p41, List.forall_mem_cons.mpr ⟨lw_p42, List.forall_mem_cons.mpr ⟨lw_p43, List.forall_mem_cons.mpr ⟨lw_p44, List.forall_mem_cons.mpr ⟨lw_p45, List.forall_mem_cons.mpr ⟨lw_p46, List.forall_mem_cons.mpr ⟨lw_p47, fun _ h => absurd h List.not_mem_nil⟩⟩⟩⟩⟩⟩⟩⟩⟩⟩⟩⟩⟩⟩⟩⟩
theorem lw_p48 : lw_okq (⟨"AddressClaimBusModel", "goOff", "(I)V"⟩, 34) := ⟨⟨by decide +kernel, by decide +kernel⟩, List.mem_of_getElem? (i := 575) (by decide +kernel), List.mem_of_getElem? (i := 848) (by decide +kernel), List.mem_of_getElem? (i := 849) (by decide +kernel)⟩
theorem lw_p49 : lw_okq (⟨"AddressClaimBusModel", "outgoingOff", "(I)V"⟩, 34) := ⟨⟨by decide +kernel, by decide +kernel⟩, List.mem_of_getElem? (i := 575) (by decide +kernel), List.mem_of_getElem? (i := 852) (by decide +kernel), List.mem_of_getElem? (i := 853) (by decide +kernel)⟩
def lw_privs_4 : List (MethodName × Nat) := [(⟨"AddressClaimBusModel", "goOff", "(I)V"⟩, 34), (⟨"AddressClaimBusModel", "outgoingOff", "(I)V"⟩, 34)]
theorem lw_r4 : ∀ q ∈ lw_privs_4, lw_okq q := List.forall_mem_cons.mpr ⟨lw_p48, List.forall_mem_cons.mpr ⟨lw_p49, fun _ h => absurd h List.not_mem_nil⟩⟩
def lw_privs : List (MethodName × Nat) := lw_privs_1 ++ (lw_privs_2 ++ (lw_privs_3 ++ (lw_privs_4)))
def lw_tbl : List Cond := k2_sels lw_privs ++ tables_1
theorem lw_privs_ok : ∀ q ∈ lw_privs, lw_okq q := by
  show ∀ q ∈ lw_privs_1 ++ (lw_privs_2 ++ (lw_privs_3 ++ (lw_privs_4))), lw_okq q
  exact List.forall_mem_append.mpr ⟨lw_r1, List.forall_mem_append.mpr ⟨lw_r2, List.forall_mem_append.mpr ⟨lw_r3, lw_r4⟩⟩⟩
end
section
def nT_Bu : u_T := fun k => match k with
  | 0 => ("AddressClaimBus$Bus", "identifiers", "[I", true)
  | 1 => ("AddressClaimBus$Bus", "contents", "[J", true)
  | 2 => ("AddressClaimBus$Bus", "senders", "[I", true)
  | 3 => ("AddressClaimBus$Bus", "count", "I", false)
  | 4 => ("AddressClaimBus$Bus", "overflows", "I", false)
  | _ => ("AddressClaimBus$Bus", "now", "J", false)
def nt_Bu : Nat → FieldType := fun k => match k with
  | 0 => .array .int
  | 1 => .array .long
  | 2 => .array .int
  | 3 => .int
  | 4 => .int
  | _ => .long
def nT_Fu : u_T := fun k => match k with
  | 0 => ("AddressClaimBus$Function", "bus", "LAddressClaimBus$Bus;", true)
  | 1 => ("AddressClaimBus$Function", "station", "LAddressClaimBus$Station;", true)
  | 2 => ("AddressClaimBus$Function", "noted", "[I", true)
  | 3 => ("AddressClaimBus$Function", "outgoing", "LAddressClaimBus$Outgoing;", true)
  | 4 => ("AddressClaimBus$Function", "incoming", "[LAddressClaimBus$Incoming;", true)
  | 5 => ("AddressClaimBus$Function", "latest", "LAddressClaimBus$Message;", true)
  | 6 => ("AddressClaimBus$Function", "deliveries", "I", false)
  | 7 => ("AddressClaimBus$Function", "state", "I", false)
  | 8 => ("AddressClaimBus$Function", "name", "J", false)
  | _ => ("AddressClaimBus$Function", "holdDue", "J", false)
def nt_Fu : Nat → FieldType := fun k => match k with
  | 0 => .object "AddressClaimBus$Bus"
  | 1 => .object "AddressClaimBus$Station"
  | 2 => .array .int
  | 3 => .object "AddressClaimBus$Outgoing"
  | 4 => .array (.object "AddressClaimBus$Incoming")
  | 5 => .object "AddressClaimBus$Message"
  | 6 => .int
  | 7 => .int
  | 8 => .long
  | _ => .long
def nT_In : u_T := fun k => match k with
  | 0 => ("AddressClaimBus$Incoming", "bus", "LAddressClaimBus$Bus;", true)
  | 1 => ("AddressClaimBus$Incoming", "station", "LAddressClaimBus$Station;", true)
  | 2 => ("AddressClaimBus$Incoming", "message", "LAddressClaimBus$Message;", true)
  | 3 => ("AddressClaimBus$Incoming", "open", "Z", false)
  | 4 => ("AddressClaimBus$Incoming", "held", "Z", false)
  | 5 => ("AddressClaimBus$Incoming", "expected", "I", false)
  | 6 => ("AddressClaimBus$Incoming", "last", "I", false)
  | 7 => ("AddressClaimBus$Incoming", "asked", "I", false)
  | _ => ("AddressClaimBus$Incoming", "due", "J", false)
def nt_In : Nat → FieldType := fun k => match k with
  | 0 => .object "AddressClaimBus$Bus"
  | 1 => .object "AddressClaimBus$Station"
  | 2 => .object "AddressClaimBus$Message"
  | 3 => .boolean
  | 4 => .boolean
  | 5 => .int
  | 6 => .int
  | 7 => .int
  | _ => .long
def nT_Ms : u_T := fun k => match k with
  | 0 => ("AddressClaimBus$Message", "packets", "[J", true)
  | 1 => ("AddressClaimBus$Message", "source", "I", false)
  | 2 => ("AddressClaimBus$Message", "group", "I", false)
  | 3 => ("AddressClaimBus$Message", "size", "I", false)
  | _ => ("AddressClaimBus$Message", "toAll", "Z", false)
def nt_Ms : Nat → FieldType := fun k => match k with
  | 0 => .array .long
  | 1 => .int
  | 2 => .int
  | 3 => .int
  | _ => .boolean
def nT_Ou : u_T := fun k => match k with
  | 0 => ("AddressClaimBus$Outgoing", "bus", "LAddressClaimBus$Bus;", true)
  | 1 => ("AddressClaimBus$Outgoing", "station", "LAddressClaimBus$Station;", true)
  | 2 => ("AddressClaimBus$Outgoing", "phase", "I", false)
  | 3 => ("AddressClaimBus$Outgoing", "result", "I", false)
  | 4 => ("AddressClaimBus$Outgoing", "target", "I", false)
  | 5 => ("AddressClaimBus$Outgoing", "group", "I", false)
  | 6 => ("AddressClaimBus$Outgoing", "size", "I", false)
  | 7 => ("AddressClaimBus$Outgoing", "seed", "J", false)
  | 8 => ("AddressClaimBus$Outgoing", "nextPacket", "I", false)
  | _ => ("AddressClaimBus$Outgoing", "due", "J", false)
def nt_Ou : Nat → FieldType := fun k => match k with
  | 0 => .object "AddressClaimBus$Bus"
  | 1 => .object "AddressClaimBus$Station"
  | 2 => .int
  | 3 => .int
  | 4 => .int
  | 5 => .int
  | 6 => .int
  | 7 => .long
  | 8 => .int
  | _ => .long
def nT_St : u_T := fun k => match k with
  | 0 => ("AddressClaimBus$Station", "number", "I", true)
  | 1 => ("AddressClaimBus$Station", "address", "I", false)
  | _ => ("AddressClaimBus$Station", "busy", "Z", false)
def nt_St : Nat → FieldType := fun k => match k with
  | 0 => .int
  | 1 => .int
  | _ => .boolean
def nT_Ab : u_T := fun k => match k with
  | 0 => ("AddressClaimBus", "bus", "LAddressClaimBus$Bus;", true)
  | _ => ("AddressClaimBus", "functions", "[LAddressClaimBus$Function;", true)
def nt_Ab : Nat → FieldType := fun k => match k with
  | 0 => .object "AddressClaimBus$Bus"
  | _ => .array (.object "AddressClaimBus$Function")
def nT_Md : u_T := fun k => match k with
  | 0 => ("AddressClaimBusModel", "now", "I", false)
  | 1 => ("AddressClaimBusModel", "state", "[I", false)
  | 2 => ("AddressClaimBusModel", "held", "[I", false)
  | 3 => ("AddressClaimBusModel", "name", "[J", false)
  | 4 => ("AddressClaimBusModel", "occupied", "[Z", false)
  | 5 => ("AddressClaimBusModel", "claimDue", "[I", false)
  | 6 => ("AddressClaimBusModel", "notes", "[I", false)
  | 7 => ("AddressClaimBusModel", "frames", "I", false)
  | 8 => ("AddressClaimBusModel", "frameId", "[I", false)
  | 9 => ("AddressClaimBusModel", "frameData", "[J", false)
  | 10 => ("AddressClaimBusModel", "frameSender", "[I", false)
  | 11 => ("AddressClaimBusModel", "lost", "I", false)
  | 12 => ("AddressClaimBusModel", "out", "[I", false)
  | 13 => ("AddressClaimBusModel", "result", "[I", false)
  | 14 => ("AddressClaimBusModel", "outOther", "[I", false)
  | 15 => ("AddressClaimBusModel", "outGroup", "[I", false)
  | 16 => ("AddressClaimBusModel", "outSize", "[I", false)
  | 17 => ("AddressClaimBusModel", "outSeed", "[J", false)
  | 18 => ("AddressClaimBusModel", "outNext", "[I", false)
  | 19 => ("AddressClaimBusModel", "outDue", "[I", false)
  | 20 => ("AddressClaimBusModel", "ins", "[I", false)
  | 21 => ("AddressClaimBusModel", "inAll", "[Z", false)
  | 22 => ("AddressClaimBusModel", "inFrom", "[I", false)
  | 23 => ("AddressClaimBusModel", "inGroup", "[I", false)
  | 24 => ("AddressClaimBusModel", "inSize", "[I", false)
  | 25 => ("AddressClaimBusModel", "inExpected", "[I", false)
  | 26 => ("AddressClaimBusModel", "inLast", "[I", false)
  | 27 => ("AddressClaimBusModel", "inAsked", "[I", false)
  | 28 => ("AddressClaimBusModel", "inHeld", "[Z", false)
  | 29 => ("AddressClaimBusModel", "inDue", "[I", false)
  | 30 => ("AddressClaimBusModel", "inBytes", "[I", false)
  | 31 => ("AddressClaimBusModel", "arrived", "[I", false)
  | 32 => ("AddressClaimBusModel", "last", "[I", false)
  | _ => ("AddressClaimBusModel", "lastBytes", "[I", false)
def nt_Md : Nat → FieldType := fun k => match k with
  | 0 => .int
  | 1 => .array .int
  | 2 => .array .int
  | 3 => .array .long
  | 4 => .array .boolean
  | 5 => .array .int
  | 6 => .array .int
  | 7 => .int
  | 8 => .array .int
  | 9 => .array .long
  | 10 => .array .int
  | 11 => .int
  | 12 => .array .int
  | 13 => .array .int
  | 14 => .array .int
  | 15 => .array .int
  | 16 => .array .int
  | 17 => .array .long
  | 18 => .array .int
  | 19 => .array .int
  | 20 => .array .int
  | 21 => .array .boolean
  | 22 => .array .int
  | 23 => .array .int
  | 24 => .array .int
  | 25 => .array .int
  | 26 => .array .int
  | 27 => .array .int
  | 28 => .array .boolean
  | 29 => .array .int
  | 30 => .array .int
  | 31 => .array .int
  | 32 => .array .int
  | _ => .array .int
abbrev vwCl : List vw_C := [("AddressClaimBus$Bus", nT_Bu, 6), ("AddressClaimBus$Function", nT_Fu, 10), ("AddressClaimBus$Incoming", nT_In, 9), ("AddressClaimBus$Message", nT_Ms, 5), ("AddressClaimBus$Outgoing", nT_Ou, 10), ("AddressClaimBus$Station", nT_St, 3), ("AddressClaimBus", nT_Ab, 2), ("AddressClaimBusModel", nT_Md, 34)]
/-- the tables' words that last -/
def zx_T : List Cond := lw_tbl.filter goodWord
theorem zx_good : ∀ w ∈ zx_T, (w.onTables && w.keeps) = true ∨ ∃ ty, w = .arrayClass ty := fun w h => good_of_word (List.mem_filter.mp h).2
theorem zx_mem {w : Cond} (l : List Cond) (hl : ∀ w ∈ l, w ∈ tables_1) (i : Nat) (h : l[i]? = some w) (hg : goodWord w = true) : w ∈ zx_T := List.mem_filter.mpr ⟨List.mem_append_right _ (hl _ (List.mem_of_getElem? h)), hg⟩
theorem zx_mems {w : Cond} (i : Nat) (h : (k2_sels lw_privs)[i]? = some w) (hg : goodWord w = true) : w ∈ zx_T := List.mem_filter.mpr ⟨List.mem_append_left _ (List.mem_of_getElem? h), hg⟩
theorem zx_l1 : ∀ w ∈ tables_1_1, w ∈ tables_1 := fun _ h => List.mem_append_left _ h
theorem zx_l2 : ∀ w ∈ tables_1_2, w ∈ tables_1 := fun _ h => List.mem_append_right _ (List.mem_append_left _ h)
theorem zx_l3 : ∀ w ∈ tables_1_3, w ∈ tables_1 := fun _ h => List.mem_append_right _ (List.mem_append_right _ (List.mem_append_left _ h))
theorem zx_l4 : ∀ w ∈ tables_1_4, w ∈ tables_1 := fun _ h => List.mem_append_right _ (List.mem_append_right _ (List.mem_append_right _ h))
/-- links to members that only nest mates reach -/
def zx_N : List (String × Nat × MethodName) := [("AddressClaimBus", 11, ⟨"AddressClaimBus$Bus", "<init>", "()V"⟩), ("AddressClaimBus$Function", 23, ⟨"AddressClaimBus$Message", "<init>", "()V"⟩), ("AddressClaimBus$Function", 153, ⟨"AddressClaimBus", "frameByte", "(JI)I"⟩), ("AddressClaimBus$Function", 188, ⟨"AddressClaimBus", "abortData", "(II)J"⟩), ("AddressClaimBus$Incoming", 11, ⟨"AddressClaimBus$Message", "<init>", "()V"⟩), ("AddressClaimBus$Incoming", 75, ⟨"AddressClaimBus", "frameByte", "(JI)I"⟩), ("AddressClaimBus$Incoming", 91, ⟨"AddressClaimBus", "extentData", "(III)J"⟩), ("AddressClaimBus$Incoming", 103, ⟨"AddressClaimBus", "packetsFor", "(I)I"⟩), ("AddressClaimBus$Incoming", 107, ⟨"AddressClaimBus", "abortData", "(II)J"⟩), ("AddressClaimBus$Incoming", 122, ⟨"AddressClaimBus", "controlData", "(IIIII)J"⟩), ("AddressClaimBus$Message", 29, ⟨"AddressClaimBus", "frameByte", "(JI)I"⟩), ("AddressClaimBus$Outgoing", 45, ⟨"AddressClaimBus", "extentData", "(III)J"⟩), ("AddressClaimBus$Outgoing", 63, ⟨"AddressClaimBus", "packetsFor", "(I)I"⟩), ("AddressClaimBus$Outgoing", 82, ⟨"AddressClaimBus", "abortData", "(II)J"⟩)]
def zx_AO : List String := ["AddressClaimBus$Function", "AddressClaimBus$Incoming"]
theorem wd_1 : (Cond.initialized "AddressClaimBus") ∈ zx_T := zx_mem tables_1_1 zx_l1 1 (by decide +kernel) (by decide +kernel)
theorem wd_2 : (Cond.initialized "AddressClaimBus$Bus") ∈ zx_T := zx_mem tables_1_1 zx_l1 2 (by decide +kernel) (by decide +kernel)
theorem wd_3 : (Cond.initialized "AddressClaimBus$Function") ∈ zx_T := zx_mem tables_1_1 zx_l1 3 (by decide +kernel) (by decide +kernel)
theorem wd_4 : (Cond.initialized "AddressClaimBus$Station") ∈ zx_T := zx_mem tables_1_1 zx_l1 4 (by decide +kernel) (by decide +kernel)
theorem wd_5 : (Cond.initialized "AddressClaimBus$Message") ∈ zx_T := zx_mem tables_1_1 zx_l1 5 (by decide +kernel) (by decide +kernel)
theorem wd_6 : (Cond.initialized "AddressClaimBus$Outgoing") ∈ zx_T := zx_mem tables_1_1 zx_l1 6 (by decide +kernel) (by decide +kernel)
theorem wd_7 : (Cond.initialized "AddressClaimBus$Incoming") ∈ zx_T := zx_mem tables_1_1 zx_l1 7 (by decide +kernel) (by decide +kernel)
theorem wd_8 : (Cond.initialized "AddressClaimBusModel") ∈ zx_T := zx_mem tables_1_1 zx_l1 8 (by decide +kernel) (by decide +kernel)
theorem wd_9 : (Cond.initialized "java/lang/Math") ∈ zx_T := zx_mem tables_1_1 zx_l1 9 (by decide +kernel) (by decide +kernel)
theorem wd_10 : (Cond.classLink "AddressClaimBusLaw" (7 : Nat) "AddressClaimBus") ∈ zx_T := zx_mem tables_1_1 zx_l1 10 (by decide +kernel) (by decide +kernel)
theorem wd_11 : (Cond.instantiable "AddressClaimBus" (2 : Nat)) ∈ zx_T := zx_mem tables_1_1 zx_l1 11 (by decide +kernel) (by decide +kernel)
theorem wd_12 : (Cond.methodLink "AddressClaimBusLaw" (9 : Nat) ({ cls := "AddressClaimBus", name := "<init>", desc := "()V" } : MethodName)) ∈ zx_T := zx_mem tables_1_1 zx_l1 12 (by decide +kernel) (by decide +kernel)
theorem wd_13 : (Cond.instanceMethod ({ cls := "AddressClaimBus", name := "<init>", desc := "()V" } : MethodName)) ∈ zx_T := zx_mem tables_1_1 zx_l1 13 (by decide +kernel) (by decide +kernel)
theorem wd_14 : (Cond.code ({ cls := "AddressClaimBus", name := "<init>", desc := "()V" } : MethodName) prog_1_method_1_code (2 : Nat) (Option.none : Option FieldType)) ∈ zx_T := zx_mem tables_1_1 zx_l1 14 (by decide +kernel) (by decide +kernel)
theorem wd_15 : (Cond.methodLink "AddressClaimBus" (3 : Nat) ({ cls := "java/lang/Object", name := "<init>", desc := "()V" } : MethodName)) ∈ zx_T := zx_mem tables_1_1 zx_l1 15 (by decide +kernel) (by decide +kernel)
theorem wd_16 : (Cond.instanceMethod ({ cls := "java/lang/Object", name := "<init>", desc := "()V" } : MethodName)) ∈ zx_T := zx_mem tables_1_1 zx_l1 16 (by decide +kernel) (by decide +kernel)
theorem wd_17 : (Cond.code ({ cls := "java/lang/Object", name := "<init>", desc := "()V" } : MethodName) object_method_1_code (1 : Nat) (Option.none : Option FieldType)) ∈ zx_T := zx_mem tables_1_1 zx_l1 17 (by decide +kernel) (by decide +kernel)
theorem wd_18 : (Cond.classLink "AddressClaimBus" (9 : Nat) "AddressClaimBus$Bus") ∈ zx_T := zx_mem tables_1_1 zx_l1 18 (by decide +kernel) (by decide +kernel)
theorem wd_19 : (Cond.instantiable "AddressClaimBus$Bus" (6 : Nat)) ∈ zx_T := zx_mem tables_1_1 zx_l1 19 (by decide +kernel) (by decide +kernel)
theorem wd_21 : (Cond.instanceMethod ({ cls := "AddressClaimBus$Bus", name := "<init>", desc := "()V" } : MethodName)) ∈ zx_T := zx_mem tables_1_1 zx_l1 21 (by decide +kernel) (by decide +kernel)
theorem wd_22 : (Cond.code ({ cls := "AddressClaimBus$Bus", name := "<init>", desc := "()V" } : MethodName) prog_2_method_1_code (1 : Nat) (Option.none : Option FieldType)) ∈ zx_T := zx_mem tables_1_1 zx_l1 22 (by decide +kernel) (by decide +kernel)
theorem wd_23 : (Cond.methodLink "AddressClaimBus$Bus" (3 : Nat) ({ cls := "java/lang/Object", name := "<init>", desc := "()V" } : MethodName)) ∈ zx_T := zx_mem tables_1_1 zx_l1 23 (by decide +kernel) (by decide +kernel)
theorem wd_24 : (Cond.fieldLink "AddressClaimBus$Bus" (9 : Nat) "AddressClaimBus$Bus" "identifiers" "[I") ∈ zx_T := zx_mem tables_1_1 zx_l1 24 (by decide +kernel) (by decide +kernel)
theorem wd_25 : (Cond.fieldLink "AddressClaimBus" (95 : Nat) "AddressClaimBus$Bus" "identifiers" "[I") ∈ zx_T := zx_mem tables_1_1 zx_l1 25 (by decide +kernel) (by decide +kernel)
theorem wd_26 : (Cond.fieldLink "AddressClaimBus$Bus" (15 : Nat) "AddressClaimBus$Bus" "contents" "[J") ∈ zx_T := zx_mem tables_1_1 zx_l1 26 (by decide +kernel) (by decide +kernel)
theorem wd_27 : (Cond.fieldLink "AddressClaimBus" (98 : Nat) "AddressClaimBus$Bus" "contents" "[J") ∈ zx_T := zx_mem tables_1_1 zx_l1 27 (by decide +kernel) (by decide +kernel)
theorem wd_28 : (Cond.fieldLink "AddressClaimBus$Bus" (19 : Nat) "AddressClaimBus$Bus" "senders" "[I") ∈ zx_T := zx_mem tables_1_1 zx_l1 28 (by decide +kernel) (by decide +kernel)
theorem wd_29 : (Cond.fieldLink "AddressClaimBus" (102 : Nat) "AddressClaimBus$Bus" "senders" "[I") ∈ zx_T := zx_mem tables_1_1 zx_l1 29 (by decide +kernel) (by decide +kernel)
theorem wd_30 : (Cond.fieldLink "AddressClaimBus$Bus" (22 : Nat) "AddressClaimBus$Bus" "count" "I") ∈ zx_T := zx_mem tables_1_1 zx_l1 30 (by decide +kernel) (by decide +kernel)
theorem wd_31 : (Cond.fieldLink "AddressClaimBus" (88 : Nat) "AddressClaimBus$Bus" "count" "I") ∈ zx_T := zx_mem tables_1_1 zx_l1 31 (by decide +kernel) (by decide +kernel)
theorem wd_32 : (Cond.fieldLink "AddressClaimBus$Bus" (26 : Nat) "AddressClaimBus$Bus" "overflows" "I") ∈ zx_T := zx_mem tables_1_1 zx_l1 32 (by decide +kernel) (by decide +kernel)
theorem wd_33 : (Cond.fieldLink "AddressClaimBus" (112 : Nat) "AddressClaimBus$Bus" "overflows" "I") ∈ zx_T := zx_mem tables_1_1 zx_l1 33 (by decide +kernel) (by decide +kernel)
theorem wd_34 : (Cond.fieldLink "AddressClaimBus$Incoming" (55 : Nat) "AddressClaimBus$Bus" "now" "J") ∈ zx_T := zx_mem tables_1_1 zx_l1 34 (by decide +kernel) (by decide +kernel)
theorem wd_35 : (Cond.fieldLink "AddressClaimBus$Outgoing" (55 : Nat) "AddressClaimBus$Bus" "now" "J") ∈ zx_T := zx_mem tables_1_1 zx_l1 35 (by decide +kernel) (by decide +kernel)
theorem wd_36 : (Cond.fieldLink "AddressClaimBus$Function" (117 : Nat) "AddressClaimBus$Bus" "now" "J") ∈ zx_T := zx_mem tables_1_1 zx_l1 36 (by decide +kernel) (by decide +kernel)
theorem wd_37 : (Cond.fieldLink "AddressClaimBus" (115 : Nat) "AddressClaimBus$Bus" "now" "J") ∈ zx_T := zx_mem tables_1_1 zx_l1 37 (by decide +kernel) (by decide +kernel)
theorem wd_38 : (Cond.laysFinal "AddressClaimBus$Bus" "AddressClaimBus$Bus" "identifiers" "[I") ∈ zx_T := zx_mem tables_1_1 zx_l1 38 (by decide +kernel) (by decide +kernel)
theorem wd_40 : (Cond.laysFinal "AddressClaimBus$Bus" "AddressClaimBus$Bus" "contents" "[J") ∈ zx_T := zx_mem tables_1_1 zx_l1 40 (by decide +kernel) (by decide +kernel)
theorem wd_42 : (Cond.laysFinal "AddressClaimBus$Bus" "AddressClaimBus$Bus" "senders" "[I") ∈ zx_T := zx_mem tables_1_1 zx_l1 42 (by decide +kernel) (by decide +kernel)
theorem wd_44 : (Cond.lays "AddressClaimBus$Bus" "AddressClaimBus$Bus" "count" "I") ∈ zx_T := zx_mem tables_1_1 zx_l1 44 (by decide +kernel) (by decide +kernel)
theorem wd_46 : (Cond.lays "AddressClaimBus$Bus" "AddressClaimBus$Bus" "overflows" "I") ∈ zx_T := zx_mem tables_1_1 zx_l1 46 (by decide +kernel) (by decide +kernel)
theorem wd_48 : (Cond.lays "AddressClaimBus$Bus" "AddressClaimBus$Bus" "now" "J") ∈ zx_T := zx_mem tables_1_1 zx_l1 48 (by decide +kernel) (by decide +kernel)
theorem wd_51 : (Cond.arrayClass FieldType.int) ∈ zx_T := zx_mem tables_1_1 zx_l1 51 (by decide +kernel) (by decide +kernel)
theorem wd_52 : (Cond.arrayClass FieldType.long) ∈ zx_T := zx_mem tables_1_1 zx_l1 52 (by decide +kernel) (by decide +kernel)
theorem wd_53 : (Cond.classLink "AddressClaimBus" (16 : Nat) "AddressClaimBus$Function") ∈ zx_T := zx_mem tables_1_1 zx_l1 53 (by decide +kernel) (by decide +kernel)
theorem wd_55 : (Cond.instantiable "AddressClaimBus$Function" (10 : Nat)) ∈ zx_T := zx_mem tables_1_1 zx_l1 55 (by decide +kernel) (by decide +kernel)
theorem wd_56 : (Cond.classLink "AddressClaimBus" (22 : Nat) "AddressClaimBus$Station") ∈ zx_T := zx_mem tables_1_1 zx_l1 56 (by decide +kernel) (by decide +kernel)
theorem wd_57 : (Cond.instantiable "AddressClaimBus$Station" (3 : Nat)) ∈ zx_T := zx_mem tables_1_1 zx_l1 57 (by decide +kernel) (by decide +kernel)
theorem wd_58 : (Cond.methodLink "AddressClaimBus" (24 : Nat) ({ cls := "AddressClaimBus$Station", name := "<init>", desc := "(I)V" } : MethodName)) ∈ zx_T := zx_mem tables_1_1 zx_l1 58 (by decide +kernel) (by decide +kernel)
theorem wd_59 : (Cond.instanceMethod ({ cls := "AddressClaimBus$Station", name := "<init>", desc := "(I)V" } : MethodName)) ∈ zx_T := zx_mem tables_1_1 zx_l1 59 (by decide +kernel) (by decide +kernel)
theorem wd_60 : (Cond.code ({ cls := "AddressClaimBus$Station", name := "<init>", desc := "(I)V" } : MethodName) prog_7_method_1_code (2 : Nat) (Option.none : Option FieldType)) ∈ zx_T := zx_mem tables_1_1 zx_l1 60 (by decide +kernel) (by decide +kernel)
theorem wd_61 : (Cond.methodLink "AddressClaimBus$Station" (1 : Nat) ({ cls := "java/lang/Object", name := "<init>", desc := "()V" } : MethodName)) ∈ zx_T := zx_mem tables_1_1 zx_l1 61 (by decide +kernel) (by decide +kernel)
theorem wd_62 : (Cond.fieldLink "AddressClaimBus$Station" (7 : Nat) "AddressClaimBus$Station" "number" "I") ∈ zx_T := zx_mem tables_1_1 zx_l1 62 (by decide +kernel) (by decide +kernel)
theorem wd_63 : (Cond.fieldLink "AddressClaimBus$Bus" (34 : Nat) "AddressClaimBus$Station" "number" "I") ∈ zx_T := zx_mem tables_1_1 zx_l1 63 (by decide +kernel) (by decide +kernel)
theorem wd_64 : (Cond.fieldLink "AddressClaimBus$Function" (72 : Nat) "AddressClaimBus$Station" "number" "I") ∈ zx_T := zx_mem tables_1_1 zx_l1 64 (by decide +kernel) (by decide +kernel)
theorem wd_65 : (Cond.fieldLink "AddressClaimBus$Bus" (29 : Nat) "AddressClaimBus$Station" "address" "I") ∈ zx_T := zx_mem tables_1_1 zx_l1 65 (by decide +kernel) (by decide +kernel)
theorem wd_66 : (Cond.fieldLink "AddressClaimBus$Function" (82 : Nat) "AddressClaimBus$Station" "address" "I") ∈ zx_T := zx_mem tables_1_1 zx_l1 66 (by decide +kernel) (by decide +kernel)
theorem wd_67 : (Cond.fieldLink "AddressClaimBus" (60 : Nat) "AddressClaimBus$Station" "address" "I") ∈ zx_T := zx_mem tables_1_1 zx_l1 67 (by decide +kernel) (by decide +kernel)
theorem wd_68 : (Cond.fieldLink "AddressClaimBus" (52 : Nat) "AddressClaimBus$Station" "busy" "Z") ∈ zx_T := zx_mem tables_1_1 zx_l1 68 (by decide +kernel) (by decide +kernel)
theorem wd_69 : (Cond.fieldLink "AddressClaimBus$Incoming" (111 : Nat) "AddressClaimBus$Station" "busy" "Z") ∈ zx_T := zx_mem tables_1_1 zx_l1 69 (by decide +kernel) (by decide +kernel)
theorem wd_70 : (Cond.laysFinal "AddressClaimBus$Station" "AddressClaimBus$Station" "number" "I") ∈ zx_T := zx_mem tables_1_1 zx_l1 70 (by decide +kernel) (by decide +kernel)
theorem wd_72 : (Cond.lays "AddressClaimBus$Station" "AddressClaimBus$Station" "address" "I") ∈ zx_T := zx_mem tables_1_1 zx_l1 72 (by decide +kernel) (by decide +kernel)
theorem wd_74 : (Cond.lays "AddressClaimBus$Station" "AddressClaimBus$Station" "busy" "Z") ∈ zx_T := zx_mem tables_1_1 zx_l1 74 (by decide +kernel) (by decide +kernel)
theorem wd_77 : (Cond.methodLink "AddressClaimBus" (27 : Nat) ({ cls := "AddressClaimBus$Function", name := "<init>", desc := "(LAddressClaimBus$Bus;LAddressClaimBus$Station;)V" } : MethodName)) ∈ zx_T := zx_mem tables_1_1 zx_l1 77 (by decide +kernel) (by decide +kernel)
theorem wd_78 : (Cond.instanceMethod ({ cls := "AddressClaimBus$Function", name := "<init>", desc := "(LAddressClaimBus$Bus;LAddressClaimBus$Station;)V" } : MethodName)) ∈ zx_T := zx_mem tables_1_1 zx_l1 78 (by decide +kernel) (by decide +kernel)
theorem wd_79 : (Cond.code ({ cls := "AddressClaimBus$Function", name := "<init>", desc := "(LAddressClaimBus$Bus;LAddressClaimBus$Station;)V" } : MethodName) prog_3_method_1_code (4 : Nat) (Option.none : Option FieldType)) ∈ zx_T := zx_mem tables_1_1 zx_l1 79 (by decide +kernel) (by decide +kernel)
theorem wd_80 : (Cond.methodLink "AddressClaimBus$Function" (3 : Nat) ({ cls := "java/lang/Object", name := "<init>", desc := "()V" } : MethodName)) ∈ zx_T := zx_mem tables_1_1 zx_l1 80 (by decide +kernel) (by decide +kernel)
theorem wd_81 : (Cond.classLink "AddressClaimBus$Function" (15 : Nat) "AddressClaimBus$Incoming") ∈ zx_T := zx_mem tables_1_1 zx_l1 81 (by decide +kernel) (by decide +kernel)
theorem wd_83 : (Cond.classLink "AddressClaimBus$Function" (21 : Nat) "AddressClaimBus$Message") ∈ zx_T := zx_mem tables_1_1 zx_l1 83 (by decide +kernel) (by decide +kernel)
theorem wd_84 : (Cond.instantiable "AddressClaimBus$Message" (5 : Nat)) ∈ zx_T := zx_mem tables_1_1 zx_l1 84 (by decide +kernel) (by decide +kernel)
theorem wd_86 : (Cond.instanceMethod ({ cls := "AddressClaimBus$Message", name := "<init>", desc := "()V" } : MethodName)) ∈ zx_T := zx_mem tables_1_1 zx_l1 86 (by decide +kernel) (by decide +kernel)
theorem wd_87 : (Cond.code ({ cls := "AddressClaimBus$Message", name := "<init>", desc := "()V" } : MethodName) prog_5_method_1_code (1 : Nat) (Option.none : Option FieldType)) ∈ zx_T := zx_mem tables_1_1 zx_l1 87 (by decide +kernel) (by decide +kernel)
theorem wd_88 : (Cond.methodLink "AddressClaimBus$Message" (3 : Nat) ({ cls := "java/lang/Object", name := "<init>", desc := "()V" } : MethodName)) ∈ zx_T := zx_mem tables_1_1 zx_l1 88 (by decide +kernel) (by decide +kernel)
theorem wd_89 : (Cond.fieldLink "AddressClaimBus$Message" (9 : Nat) "AddressClaimBus$Message" "packets" "[J") ∈ zx_T := zx_mem tables_1_1 zx_l1 89 (by decide +kernel) (by decide +kernel)
theorem wd_90 : (Cond.fieldLink "AddressClaimBus$Incoming" (32 : Nat) "AddressClaimBus$Message" "source" "I") ∈ zx_T := zx_mem tables_1_1 zx_l1 90 (by decide +kernel) (by decide +kernel)
theorem wd_91 : (Cond.fieldLink "AddressClaimBus$Message" (15 : Nat) "AddressClaimBus$Message" "source" "I") ∈ zx_T := zx_mem tables_1_1 zx_l1 91 (by decide +kernel) (by decide +kernel)
theorem wd_92 : (Cond.fieldLink "AddressClaimBus" (148 : Nat) "AddressClaimBus$Message" "source" "I") ∈ zx_T := zx_mem tables_1_1 zx_l1 92 (by decide +kernel) (by decide +kernel)
theorem wd_93 : (Cond.fieldLink "AddressClaimBus$Incoming" (36 : Nat) "AddressClaimBus$Message" "group" "I") ∈ zx_T := zx_mem tables_1_1 zx_l1 93 (by decide +kernel) (by decide +kernel)
theorem wd_94 : (Cond.fieldLink "AddressClaimBus$Message" (19 : Nat) "AddressClaimBus$Message" "group" "I") ∈ zx_T := zx_mem tables_1_1 zx_l1 94 (by decide +kernel) (by decide +kernel)
theorem wd_95 : (Cond.fieldLink "AddressClaimBus$Function" (195 : Nat) "AddressClaimBus$Message" "group" "I") ∈ zx_T := zx_mem tables_1_1 zx_l1 95 (by decide +kernel) (by decide +kernel)
theorem wd_96 : (Cond.fieldLink "AddressClaimBus" (153 : Nat) "AddressClaimBus$Message" "group" "I") ∈ zx_T := zx_mem tables_1_1 zx_l1 96 (by decide +kernel) (by decide +kernel)
theorem wd_97 : (Cond.fieldLink "AddressClaimBus$Incoming" (39 : Nat) "AddressClaimBus$Message" "size" "I") ∈ zx_T := zx_mem tables_1_1 zx_l1 97 (by decide +kernel) (by decide +kernel)
theorem wd_98 : (Cond.fieldLink "AddressClaimBus$Message" (22 : Nat) "AddressClaimBus$Message" "size" "I") ∈ zx_T := zx_mem tables_1_1 zx_l1 98 (by decide +kernel) (by decide +kernel)
theorem wd_99 : (Cond.fieldLink "AddressClaimBus" (156 : Nat) "AddressClaimBus$Message" "size" "I") ∈ zx_T := zx_mem tables_1_1 zx_l1 99 (by decide +kernel) (by decide +kernel)
theorem wd_100 : (Cond.fieldLink "AddressClaimBus$Incoming" (42 : Nat) "AddressClaimBus$Message" "toAll" "Z") ∈ zx_T := zx_mem tables_1_1 zx_l1 100 (by decide +kernel) (by decide +kernel)
theorem wd_101 : (Cond.fieldLink "AddressClaimBus$Message" (25 : Nat) "AddressClaimBus$Message" "toAll" "Z") ∈ zx_T := zx_mem tables_1_1 zx_l1 101 (by decide +kernel) (by decide +kernel)
theorem wd_102 : (Cond.fieldLink "AddressClaimBus" (159 : Nat) "AddressClaimBus$Message" "toAll" "Z") ∈ zx_T := zx_mem tables_1_1 zx_l1 102 (by decide +kernel) (by decide +kernel)
theorem wd_103 : (Cond.laysFinal "AddressClaimBus$Message" "AddressClaimBus$Message" "packets" "[J") ∈ zx_T := zx_mem tables_1_1 zx_l1 103 (by decide +kernel) (by decide +kernel)
theorem wd_105 : (Cond.lays "AddressClaimBus$Message" "AddressClaimBus$Message" "source" "I") ∈ zx_T := zx_mem tables_1_1 zx_l1 105 (by decide +kernel) (by decide +kernel)
theorem wd_107 : (Cond.lays "AddressClaimBus$Message" "AddressClaimBus$Message" "group" "I") ∈ zx_T := zx_mem tables_1_1 zx_l1 107 (by decide +kernel) (by decide +kernel)
theorem wd_109 : (Cond.lays "AddressClaimBus$Message" "AddressClaimBus$Message" "size" "I") ∈ zx_T := zx_mem tables_1_1 zx_l1 109 (by decide +kernel) (by decide +kernel)
theorem wd_111 : (Cond.lays "AddressClaimBus$Message" "AddressClaimBus$Message" "toAll" "Z") ∈ zx_T := zx_mem tables_1_1 zx_l1 111 (by decide +kernel) (by decide +kernel)
theorem wd_114 : (Cond.constantLong "AddressClaimBus$Function" (32 : Nat) (9223372036854775807 : Int64)) ∈ zx_T := zx_mem tables_1_1 zx_l1 114 (by decide +kernel) (by decide +kernel)
theorem wd_115 : (Cond.classLink "AddressClaimBus$Function" (46 : Nat) "AddressClaimBus$Outgoing") ∈ zx_T := zx_mem tables_1_1 zx_l1 115 (by decide +kernel) (by decide +kernel)
theorem wd_116 : (Cond.instantiable "AddressClaimBus$Outgoing" (10 : Nat)) ∈ zx_T := zx_mem tables_1_1 zx_l1 116 (by decide +kernel) (by decide +kernel)
theorem wd_117 : (Cond.methodLink "AddressClaimBus$Function" (48 : Nat) ({ cls := "AddressClaimBus$Outgoing", name := "<init>", desc := "(LAddressClaimBus$Bus;LAddressClaimBus$Station;)V" } : MethodName)) ∈ zx_T := zx_mem tables_1_1 zx_l1 117 (by decide +kernel) (by decide +kernel)
theorem wd_118 : (Cond.instanceMethod ({ cls := "AddressClaimBus$Outgoing", name := "<init>", desc := "(LAddressClaimBus$Bus;LAddressClaimBus$Station;)V" } : MethodName)) ∈ zx_T := zx_mem tables_1_1 zx_l1 118 (by decide +kernel) (by decide +kernel)
theorem wd_119 : (Cond.code ({ cls := "AddressClaimBus$Outgoing", name := "<init>", desc := "(LAddressClaimBus$Bus;LAddressClaimBus$Station;)V" } : MethodName) prog_6_method_1_code (3 : Nat) (Option.none : Option FieldType)) ∈ zx_T := zx_mem tables_1_1 zx_l1 119 (by decide +kernel) (by decide +kernel)
theorem wd_120 : (Cond.methodLink "AddressClaimBus$Outgoing" (3 : Nat) ({ cls := "java/lang/Object", name := "<init>", desc := "()V" } : MethodName)) ∈ zx_T := zx_mem tables_1_1 zx_l1 120 (by decide +kernel) (by decide +kernel)
theorem wd_121 : (Cond.constantLong "AddressClaimBus$Outgoing" (15 : Nat) (9223372036854775807 : Int64)) ∈ zx_T := zx_mem tables_1_1 zx_l1 121 (by decide +kernel) (by decide +kernel)
theorem wd_122 : (Cond.fieldLink "AddressClaimBus$Outgoing" (21 : Nat) "AddressClaimBus$Outgoing" "bus" "LAddressClaimBus$Bus;") ∈ zx_T := zx_mem tables_1_1 zx_l1 122 (by decide +kernel) (by decide +kernel)
theorem wd_123 : (Cond.fieldLink "AddressClaimBus$Outgoing" (25 : Nat) "AddressClaimBus$Outgoing" "station" "LAddressClaimBus$Station;") ∈ zx_T := zx_mem tables_1_1 zx_l1 123 (by decide +kernel) (by decide +kernel)
theorem wd_124 : (Cond.fieldLink "AddressClaimBus$Outgoing" (9 : Nat) "AddressClaimBus$Outgoing" "phase" "I") ∈ zx_T := zx_mem tables_1_1 zx_l1 124 (by decide +kernel) (by decide +kernel)
theorem wd_125 : (Cond.fieldLink "AddressClaimBus$Function" (85 : Nat) "AddressClaimBus$Outgoing" "phase" "I") ∈ zx_T := zx_mem tables_1_1 zx_l1 125 (by decide +kernel) (by decide +kernel)
theorem wd_126 : (Cond.fieldLink "AddressClaimBus" (129 : Nat) "AddressClaimBus$Outgoing" "phase" "I") ∈ zx_T := zx_mem tables_1_1 zx_l1 126 (by decide +kernel) (by decide +kernel)
theorem wd_127 : (Cond.fieldLink "AddressClaimBus$Function" (59 : Nat) "AddressClaimBus$Outgoing" "result" "I") ∈ zx_T := zx_mem tables_1_1 zx_l1 127 (by decide +kernel) (by decide +kernel)
theorem wd_128 : (Cond.fieldLink "AddressClaimBus$Outgoing" (58 : Nat) "AddressClaimBus$Outgoing" "result" "I") ∈ zx_T := zx_mem tables_1_1 zx_l1 128 (by decide +kernel) (by decide +kernel)
theorem wd_129 : (Cond.fieldLink "AddressClaimBus" (132 : Nat) "AddressClaimBus$Outgoing" "result" "I") ∈ zx_T := zx_mem tables_1_1 zx_l1 129 (by decide +kernel) (by decide +kernel)
theorem wd_130 : (Cond.fieldLink "AddressClaimBus$Outgoing" (29 : Nat) "AddressClaimBus$Outgoing" "target" "I") ∈ zx_T := zx_mem tables_1_1 zx_l1 130 (by decide +kernel) (by decide +kernel)
theorem wd_131 : (Cond.fieldLink "AddressClaimBus$Outgoing" (32 : Nat) "AddressClaimBus$Outgoing" "group" "I") ∈ zx_T := zx_mem tables_1_1 zx_l1 131 (by decide +kernel) (by decide +kernel)
theorem wd_132 : (Cond.fieldLink "AddressClaimBus$Outgoing" (35 : Nat) "AddressClaimBus$Outgoing" "size" "I") ∈ zx_T := zx_mem tables_1_1 zx_l1 132 (by decide +kernel) (by decide +kernel)
theorem wd_133 : (Cond.fieldLink "AddressClaimBus$Outgoing" (38 : Nat) "AddressClaimBus$Outgoing" "seed" "J") ∈ zx_T := zx_mem tables_1_1 zx_l1 133 (by decide +kernel) (by decide +kernel)
theorem wd_134 : (Cond.fieldLink "AddressClaimBus$Outgoing" (41 : Nat) "AddressClaimBus$Outgoing" "nextPacket" "I") ∈ zx_T := zx_mem tables_1_1 zx_l1 134 (by decide +kernel) (by decide +kernel)
theorem wd_135 : (Cond.fieldLink "AddressClaimBus$Outgoing" (17 : Nat) "AddressClaimBus$Outgoing" "due" "J") ∈ zx_T := zx_mem tables_1_1 zx_l1 135 (by decide +kernel) (by decide +kernel)
theorem wd_136 : (Cond.fieldLink "AddressClaimBus$Function" (107 : Nat) "AddressClaimBus$Outgoing" "due" "J") ∈ zx_T := zx_mem tables_1_1 zx_l1 136 (by decide +kernel) (by decide +kernel)
theorem wd_137 : (Cond.laysFinal "AddressClaimBus$Outgoing" "AddressClaimBus$Outgoing" "bus" "LAddressClaimBus$Bus;") ∈ zx_T := zx_mem tables_1_1 zx_l1 137 (by decide +kernel) (by decide +kernel)
theorem wd_139 : (Cond.laysFinal "AddressClaimBus$Outgoing" "AddressClaimBus$Outgoing" "station" "LAddressClaimBus$Station;") ∈ zx_T := zx_mem tables_1_1 zx_l1 139 (by decide +kernel) (by decide +kernel)
theorem wd_141 : (Cond.lays "AddressClaimBus$Outgoing" "AddressClaimBus$Outgoing" "phase" "I") ∈ zx_T := zx_mem tables_1_1 zx_l1 141 (by decide +kernel) (by decide +kernel)
theorem wd_143 : (Cond.lays "AddressClaimBus$Outgoing" "AddressClaimBus$Outgoing" "result" "I") ∈ zx_T := zx_mem tables_1_1 zx_l1 143 (by decide +kernel) (by decide +kernel)
theorem wd_145 : (Cond.lays "AddressClaimBus$Outgoing" "AddressClaimBus$Outgoing" "target" "I") ∈ zx_T := zx_mem tables_1_1 zx_l1 145 (by decide +kernel) (by decide +kernel)
theorem wd_147 : (Cond.lays "AddressClaimBus$Outgoing" "AddressClaimBus$Outgoing" "group" "I") ∈ zx_T := zx_mem tables_1_1 zx_l1 147 (by decide +kernel) (by decide +kernel)
theorem wd_149 : (Cond.lays "AddressClaimBus$Outgoing" "AddressClaimBus$Outgoing" "size" "I") ∈ zx_T := zx_mem tables_1_1 zx_l1 149 (by decide +kernel) (by decide +kernel)
theorem wd_151 : (Cond.lays "AddressClaimBus$Outgoing" "AddressClaimBus$Outgoing" "seed" "J") ∈ zx_T := zx_mem tables_1_1 zx_l1 151 (by decide +kernel) (by decide +kernel)
theorem wd_153 : (Cond.lays "AddressClaimBus$Outgoing" "AddressClaimBus$Outgoing" "nextPacket" "I") ∈ zx_T := zx_mem tables_1_1 zx_l1 153 (by decide +kernel) (by decide +kernel)
theorem wd_155 : (Cond.lays "AddressClaimBus$Outgoing" "AddressClaimBus$Outgoing" "due" "J") ∈ zx_T := zx_mem tables_1_1 zx_l1 155 (by decide +kernel) (by decide +kernel)
theorem wd_158 : (Cond.instantiable "AddressClaimBus$Incoming" (9 : Nat)) ∈ zx_T := zx_mem tables_1_1 zx_l1 158 (by decide +kernel) (by decide +kernel)
theorem wd_159 : (Cond.methodLink "AddressClaimBus$Function" (55 : Nat) ({ cls := "AddressClaimBus$Incoming", name := "<init>", desc := "(LAddressClaimBus$Bus;LAddressClaimBus$Station;)V" } : MethodName)) ∈ zx_T := zx_mem tables_1_1 zx_l1 159 (by decide +kernel) (by decide +kernel)
theorem wd_160 : (Cond.instanceMethod ({ cls := "AddressClaimBus$Incoming", name := "<init>", desc := "(LAddressClaimBus$Bus;LAddressClaimBus$Station;)V" } : MethodName)) ∈ zx_T := zx_mem tables_1_1 zx_l1 160 (by decide +kernel) (by decide +kernel)
theorem wd_161 : (Cond.code ({ cls := "AddressClaimBus$Incoming", name := "<init>", desc := "(LAddressClaimBus$Bus;LAddressClaimBus$Station;)V" } : MethodName) prog_4_method_1_code (3 : Nat) (Option.none : Option FieldType)) ∈ zx_T := zx_mem tables_1_1 zx_l1 161 (by decide +kernel) (by decide +kernel)
theorem wd_162 : (Cond.methodLink "AddressClaimBus$Incoming" (3 : Nat) ({ cls := "java/lang/Object", name := "<init>", desc := "()V" } : MethodName)) ∈ zx_T := zx_mem tables_1_1 zx_l1 162 (by decide +kernel) (by decide +kernel)
theorem wd_163 : (Cond.classLink "AddressClaimBus$Incoming" (9 : Nat) "AddressClaimBus$Message") ∈ zx_T := zx_mem tables_1_1 zx_l1 163 (by decide +kernel) (by decide +kernel)
theorem wd_165 : (Cond.constantLong "AddressClaimBus$Incoming" (18 : Nat) (9223372036854775807 : Int64)) ∈ zx_T := zx_mem tables_1_1 zx_l1 165 (by decide +kernel) (by decide +kernel)
theorem wd_166 : (Cond.fieldLink "AddressClaimBus$Incoming" (24 : Nat) "AddressClaimBus$Incoming" "bus" "LAddressClaimBus$Bus;") ∈ zx_T := zx_mem tables_1_1 zx_l1 166 (by decide +kernel) (by decide +kernel)
theorem wd_167 : (Cond.fieldLink "AddressClaimBus$Incoming" (28 : Nat) "AddressClaimBus$Incoming" "station" "LAddressClaimBus$Station;") ∈ zx_T := zx_mem tables_1_1 zx_l1 167 (by decide +kernel) (by decide +kernel)
theorem wd_168 : (Cond.fieldLink "AddressClaimBus$Incoming" (12 : Nat) "AddressClaimBus$Incoming" "message" "LAddressClaimBus$Message;") ∈ zx_T := zx_mem tables_1_1 zx_l1 168 (by decide +kernel) (by decide +kernel)
theorem wd_169 : (Cond.fieldLink "AddressClaimBus$Function" (192 : Nat) "AddressClaimBus$Incoming" "message" "LAddressClaimBus$Message;") ∈ zx_T := zx_mem tables_1_1 zx_l1 169 (by decide +kernel) (by decide +kernel)
theorem wd_170 : (Cond.fieldLink "AddressClaimBus$Incoming" (46 : Nat) "AddressClaimBus$Incoming" "open" "Z") ∈ zx_T := zx_mem tables_1_1 zx_l1 170 (by decide +kernel) (by decide +kernel)
theorem wd_171 : (Cond.fieldLink "AddressClaimBus$Function" (88 : Nat) "AddressClaimBus$Incoming" "open" "Z") ∈ zx_T := zx_mem tables_1_1 zx_l1 171 (by decide +kernel) (by decide +kernel)
theorem wd_172 : (Cond.fieldLink "AddressClaimBus$Incoming" (68 : Nat) "AddressClaimBus$Incoming" "held" "Z") ∈ zx_T := zx_mem tables_1_1 zx_l1 172 (by decide +kernel) (by decide +kernel)
theorem wd_173 : (Cond.fieldLink "AddressClaimBus$Incoming" (49 : Nat) "AddressClaimBus$Incoming" "expected" "I") ∈ zx_T := zx_mem tables_1_1 zx_l1 173 (by decide +kernel) (by decide +kernel)
theorem wd_174 : (Cond.fieldLink "AddressClaimBus$Incoming" (87 : Nat) "AddressClaimBus$Incoming" "last" "I") ∈ zx_T := zx_mem tables_1_1 zx_l1 174 (by decide +kernel) (by decide +kernel)
theorem wd_175 : (Cond.fieldLink "AddressClaimBus$Incoming" (52 : Nat) "AddressClaimBus$Incoming" "asked" "I") ∈ zx_T := zx_mem tables_1_1 zx_l1 175 (by decide +kernel) (by decide +kernel)
theorem wd_176 : (Cond.fieldLink "AddressClaimBus$Incoming" (20 : Nat) "AddressClaimBus$Incoming" "due" "J") ∈ zx_T := zx_mem tables_1_1 zx_l1 176 (by decide +kernel) (by decide +kernel)
theorem wd_177 : (Cond.fieldLink "AddressClaimBus$Function" (116 : Nat) "AddressClaimBus$Incoming" "due" "J") ∈ zx_T := zx_mem tables_1_1 zx_l1 177 (by decide +kernel) (by decide +kernel)
theorem wd_178 : (Cond.laysFinal "AddressClaimBus$Incoming" "AddressClaimBus$Incoming" "bus" "LAddressClaimBus$Bus;") ∈ zx_T := zx_mem tables_1_1 zx_l1 178 (by decide +kernel) (by decide +kernel)
theorem wd_180 : (Cond.laysFinal "AddressClaimBus$Incoming" "AddressClaimBus$Incoming" "station" "LAddressClaimBus$Station;") ∈ zx_T := zx_mem tables_1_1 zx_l1 180 (by decide +kernel) (by decide +kernel)
theorem wd_182 : (Cond.laysFinal "AddressClaimBus$Incoming" "AddressClaimBus$Incoming" "message" "LAddressClaimBus$Message;") ∈ zx_T := zx_mem tables_1_1 zx_l1 182 (by decide +kernel) (by decide +kernel)
theorem wd_184 : (Cond.lays "AddressClaimBus$Incoming" "AddressClaimBus$Incoming" "open" "Z") ∈ zx_T := zx_mem tables_1_1 zx_l1 184 (by decide +kernel) (by decide +kernel)
theorem wd_186 : (Cond.lays "AddressClaimBus$Incoming" "AddressClaimBus$Incoming" "held" "Z") ∈ zx_T := zx_mem tables_1_1 zx_l1 186 (by decide +kernel) (by decide +kernel)
theorem wd_188 : (Cond.lays "AddressClaimBus$Incoming" "AddressClaimBus$Incoming" "expected" "I") ∈ zx_T := zx_mem tables_1_1 zx_l1 188 (by decide +kernel) (by decide +kernel)
theorem wd_190 : (Cond.lays "AddressClaimBus$Incoming" "AddressClaimBus$Incoming" "last" "I") ∈ zx_T := zx_mem tables_1_1 zx_l1 190 (by decide +kernel) (by decide +kernel)
theorem wd_192 : (Cond.lays "AddressClaimBus$Incoming" "AddressClaimBus$Incoming" "asked" "I") ∈ zx_T := zx_mem tables_1_1 zx_l1 192 (by decide +kernel) (by decide +kernel)
theorem wd_194 : (Cond.lays "AddressClaimBus$Incoming" "AddressClaimBus$Incoming" "due" "J") ∈ zx_T := zx_mem tables_1_1 zx_l1 194 (by decide +kernel) (by decide +kernel)
theorem wd_197 : (Cond.fieldLink "AddressClaimBus$Function" (38 : Nat) "AddressClaimBus$Function" "bus" "LAddressClaimBus$Bus;") ∈ zx_T := zx_mem tables_1_1 zx_l1 197 (by decide +kernel) (by decide +kernel)
theorem wd_198 : (Cond.fieldLink "AddressClaimBus$Function" (42 : Nat) "AddressClaimBus$Function" "station" "LAddressClaimBus$Station;") ∈ zx_T := zx_mem tables_1_1 zx_l1 198 (by decide +kernel) (by decide +kernel)
theorem wd_199 : (Cond.fieldLink "AddressClaimBus" (48 : Nat) "AddressClaimBus$Function" "station" "LAddressClaimBus$Station;") ∈ zx_T := zx_mem tables_1_1 zx_l1 199 (by decide +kernel) (by decide +kernel)
theorem wd_200 : (Cond.fieldLink "AddressClaimBus$Function" (9 : Nat) "AddressClaimBus$Function" "noted" "[I") ∈ zx_T := zx_mem tables_1_1 zx_l1 200 (by decide +kernel) (by decide +kernel)
theorem wd_201 : (Cond.fieldLink "AddressClaimBus" (63 : Nat) "AddressClaimBus$Function" "noted" "[I") ∈ zx_T := zx_mem tables_1_1 zx_l1 201 (by decide +kernel) (by decide +kernel)
theorem wd_202 : (Cond.fieldLink "AddressClaimBus$Function" (51 : Nat) "AddressClaimBus$Function" "outgoing" "LAddressClaimBus$Outgoing;") ∈ zx_T := zx_mem tables_1_1 zx_l1 202 (by decide +kernel) (by decide +kernel)
theorem wd_203 : (Cond.fieldLink "AddressClaimBus" (78 : Nat) "AddressClaimBus$Function" "outgoing" "LAddressClaimBus$Outgoing;") ∈ zx_T := zx_mem tables_1_1 zx_l1 203 (by decide +kernel) (by decide +kernel)
theorem wd_204 : (Cond.fieldLink "AddressClaimBus$Function" (17 : Nat) "AddressClaimBus$Function" "incoming" "[LAddressClaimBus$Incoming;") ∈ zx_T := zx_mem tables_1_1 zx_l1 204 (by decide +kernel) (by decide +kernel)
theorem wd_205 : (Cond.fieldLink "AddressClaimBus$Function" (24 : Nat) "AddressClaimBus$Function" "latest" "LAddressClaimBus$Message;") ∈ zx_T := zx_mem tables_1_1 zx_l1 205 (by decide +kernel) (by decide +kernel)
theorem wd_206 : (Cond.fieldLink "AddressClaimBus" (144 : Nat) "AddressClaimBus$Function" "latest" "LAddressClaimBus$Message;") ∈ zx_T := zx_mem tables_1_1 zx_l1 206 (by decide +kernel) (by decide +kernel)
theorem wd_207 : (Cond.fieldLink "AddressClaimBus$Function" (62 : Nat) "AddressClaimBus$Function" "deliveries" "I") ∈ zx_T := zx_mem tables_1_1 zx_l1 207 (by decide +kernel) (by decide +kernel)
theorem wd_208 : (Cond.fieldLink "AddressClaimBus" (138 : Nat) "AddressClaimBus$Function" "deliveries" "I") ∈ zx_T := zx_mem tables_1_1 zx_l1 208 (by decide +kernel) (by decide +kernel)
theorem wd_209 : (Cond.fieldLink "AddressClaimBus$Function" (28 : Nat) "AddressClaimBus$Function" "state" "I") ∈ zx_T := zx_mem tables_1_1 zx_l1 209 (by decide +kernel) (by decide +kernel)
theorem wd_210 : (Cond.fieldLink "AddressClaimBus" (56 : Nat) "AddressClaimBus$Function" "state" "I") ∈ zx_T := zx_mem tables_1_1 zx_l1 210 (by decide +kernel) (by decide +kernel)
theorem wd_211 : (Cond.fieldLink "AddressClaimBus$Function" (56 : Nat) "AddressClaimBus$Function" "name" "J") ∈ zx_T := zx_mem tables_1_1 zx_l1 211 (by decide +kernel) (by decide +kernel)
theorem wd_212 : (Cond.fieldLink "AddressClaimBus" (166 : Nat) "AddressClaimBus$Function" "name" "J") ∈ zx_T := zx_mem tables_1_1 zx_l1 212 (by decide +kernel) (by decide +kernel)
theorem wd_213 : (Cond.fieldLink "AddressClaimBus$Function" (34 : Nat) "AddressClaimBus$Function" "holdDue" "J") ∈ zx_T := zx_mem tables_1_1 zx_l1 213 (by decide +kernel) (by decide +kernel)
theorem wd_214 : (Cond.laysFinal "AddressClaimBus$Function" "AddressClaimBus$Function" "bus" "LAddressClaimBus$Bus;") ∈ zx_T := zx_mem tables_1_1 zx_l1 214 (by decide +kernel) (by decide +kernel)
theorem wd_216 : (Cond.laysFinal "AddressClaimBus$Function" "AddressClaimBus$Function" "station" "LAddressClaimBus$Station;") ∈ zx_T := zx_mem tables_1_1 zx_l1 216 (by decide +kernel) (by decide +kernel)
theorem wd_218 : (Cond.laysFinal "AddressClaimBus$Function" "AddressClaimBus$Function" "noted" "[I") ∈ zx_T := zx_mem tables_1_1 zx_l1 218 (by decide +kernel) (by decide +kernel)
theorem wd_220 : (Cond.laysFinal "AddressClaimBus$Function" "AddressClaimBus$Function" "outgoing" "LAddressClaimBus$Outgoing;") ∈ zx_T := zx_mem tables_1_1 zx_l1 220 (by decide +kernel) (by decide +kernel)
theorem wd_222 : (Cond.laysFinal "AddressClaimBus$Function" "AddressClaimBus$Function" "incoming" "[LAddressClaimBus$Incoming;") ∈ zx_T := zx_mem tables_1_1 zx_l1 222 (by decide +kernel) (by decide +kernel)
theorem wd_224 : (Cond.laysFinal "AddressClaimBus$Function" "AddressClaimBus$Function" "latest" "LAddressClaimBus$Message;") ∈ zx_T := zx_mem tables_1_1 zx_l1 224 (by decide +kernel) (by decide +kernel)
theorem wd_226 : (Cond.lays "AddressClaimBus$Function" "AddressClaimBus$Function" "deliveries" "I") ∈ zx_T := zx_mem tables_1_1 zx_l1 226 (by decide +kernel) (by decide +kernel)
theorem wd_228 : (Cond.lays "AddressClaimBus$Function" "AddressClaimBus$Function" "state" "I") ∈ zx_T := zx_mem tables_1_1 zx_l1 228 (by decide +kernel) (by decide +kernel)
theorem wd_230 : (Cond.lays "AddressClaimBus$Function" "AddressClaimBus$Function" "name" "J") ∈ zx_T := zx_mem tables_1_1 zx_l1 230 (by decide +kernel) (by decide +kernel)
theorem wd_232 : (Cond.lays "AddressClaimBus$Function" "AddressClaimBus$Function" "holdDue" "J") ∈ zx_T := zx_mem tables_1_1 zx_l1 232 (by decide +kernel) (by decide +kernel)
theorem wd_235 : (Cond.fieldLink "AddressClaimBus" (12 : Nat) "AddressClaimBus" "bus" "LAddressClaimBus$Bus;") ∈ zx_T := zx_mem tables_1_1 zx_l1 235 (by decide +kernel) (by decide +kernel)
theorem wd_236 : (Cond.fieldLink "AddressClaimBus" (18 : Nat) "AddressClaimBus" "functions" "[LAddressClaimBus$Function;") ∈ zx_T := zx_mem tables_1_1 zx_l1 236 (by decide +kernel) (by decide +kernel)
theorem wd_237 : (Cond.laysFinal "AddressClaimBus" "AddressClaimBus" "bus" "LAddressClaimBus$Bus;") ∈ zx_T := zx_mem tables_1_1 zx_l1 237 (by decide +kernel) (by decide +kernel)
theorem wd_239 : (Cond.laysFinal "AddressClaimBus" "AddressClaimBus" "functions" "[LAddressClaimBus$Function;") ∈ zx_T := zx_mem tables_1_1 zx_l1 239 (by decide +kernel) (by decide +kernel)
theorem wd_242 : (Cond.methodLink "AddressClaimBusLaw" (15 : Nat) ({ cls := "AddressClaimBus", name := "start", desc := "(IJI)Z" } : MethodName)) ∈ zx_T := zx_mem tables_1_2 zx_l2 2 (by decide +kernel) (by decide +kernel)
theorem wd_243 : (Cond.instanceMethod ({ cls := "AddressClaimBus", name := "start", desc := "(IJI)Z" } : MethodName)) ∈ zx_T := zx_mem tables_1_2 zx_l2 3 (by decide +kernel) (by decide +kernel)
theorem wd_244 : (Cond.selects "AddressClaimBus" ({ cls := "AddressClaimBus", name := "start", desc := "(IJI)Z" } : MethodName) ({ cls := "AddressClaimBus", name := "start", desc := "(IJI)Z" } : MethodName)) ∈ zx_T := zx_mem tables_1_2 zx_l2 4 (by decide +kernel) (by decide +kernel)
theorem wd_245 : (Cond.code ({ cls := "AddressClaimBus", name := "start", desc := "(IJI)Z" } : MethodName) prog_1_method_2_code (5 : Nat) (Option.some FieldType.boolean)) ∈ zx_T := zx_mem tables_1_2 zx_l2 5 (by decide +kernel) (by decide +kernel)
theorem wd_246 : (Cond.methodLink "AddressClaimBus" (30 : Nat) ({ cls := "AddressClaimBus", name := "isFunction", desc := "(I)Z" } : MethodName)) ∈ zx_T := zx_mem tables_1_2 zx_l2 6 (by decide +kernel) (by decide +kernel)
theorem wd_248 : (Cond.instanceMethod ({ cls := "AddressClaimBus", name := "isFunction", desc := "(I)Z" } : MethodName)) ∈ zx_T := zx_mem tables_1_2 zx_l2 8 (by decide +kernel) (by decide +kernel)
theorem wd_249 : (Cond.code ({ cls := "AddressClaimBus", name := "isFunction", desc := "(I)Z" } : MethodName) prog_1_method_22_code (2 : Nat) (Option.some FieldType.boolean)) ∈ zx_T := zx_mem tables_1_2 zx_l2 9 (by decide +kernel) (by decide +kernel)
theorem wd_250 : (Cond.methodLink "AddressClaimBus" (34 : Nat) ({ cls := "AddressClaimBus", name := "isOn", desc := "(I)Z" } : MethodName)) ∈ zx_T := zx_mem tables_1_2 zx_l2 10 (by decide +kernel) (by decide +kernel)
theorem wd_252 : (Cond.instanceMethod ({ cls := "AddressClaimBus", name := "isOn", desc := "(I)Z" } : MethodName)) ∈ zx_T := zx_mem tables_1_2 zx_l2 12 (by decide +kernel) (by decide +kernel)
theorem wd_253 : (Cond.code ({ cls := "AddressClaimBus", name := "isOn", desc := "(I)Z" } : MethodName) prog_1_method_23_code (2 : Nat) (Option.some FieldType.boolean)) ∈ zx_T := zx_mem tables_1_2 zx_l2 13 (by decide +kernel) (by decide +kernel)
theorem wd_254 : (Cond.methodLink "AddressClaimBus" (37 : Nat) ({ cls := "AddressClaimBus", name := "isNameTaken", desc := "(J)Z" } : MethodName)) ∈ zx_T := zx_mem tables_1_2 zx_l2 14 (by decide +kernel) (by decide +kernel)
theorem wd_256 : (Cond.instanceMethod ({ cls := "AddressClaimBus", name := "isNameTaken", desc := "(J)Z" } : MethodName)) ∈ zx_T := zx_mem tables_1_2 zx_l2 16 (by decide +kernel) (by decide +kernel)
theorem wd_257 : (Cond.code ({ cls := "AddressClaimBus", name := "isNameTaken", desc := "(J)Z" } : MethodName) prog_1_method_25_code (4 : Nat) (Option.some FieldType.boolean)) ∈ zx_T := zx_mem tables_1_2 zx_l2 17 (by decide +kernel) (by decide +kernel)
theorem wd_258 : (Cond.methodLink "AddressClaimBus" (41 : Nat) ({ cls := "AddressClaimBus$Function", name := "switchOn", desc := "(JI)V" } : MethodName)) ∈ zx_T := zx_mem tables_1_2 zx_l2 18 (by decide +kernel) (by decide +kernel)
theorem wd_259 : (Cond.instanceMethod ({ cls := "AddressClaimBus$Function", name := "switchOn", desc := "(JI)V" } : MethodName)) ∈ zx_T := zx_mem tables_1_2 zx_l2 19 (by decide +kernel) (by decide +kernel)
theorem wd_260 : (Cond.selects "AddressClaimBus$Function" ({ cls := "AddressClaimBus$Function", name := "switchOn", desc := "(JI)V" } : MethodName) ({ cls := "AddressClaimBus$Function", name := "switchOn", desc := "(JI)V" } : MethodName)) ∈ zx_T := zx_mem tables_1_2 zx_l2 20 (by decide +kernel) (by decide +kernel)
theorem wd_261 : (Cond.code ({ cls := "AddressClaimBus$Function", name := "switchOn", desc := "(JI)V" } : MethodName) prog_3_method_2_code (5 : Nat) (Option.none : Option FieldType)) ∈ zx_T := zx_mem tables_1_2 zx_l2 21 (by decide +kernel) (by decide +kernel)
theorem wd_262 : (Cond.methodLink "AddressClaimBus$Function" (65 : Nat) ({ cls := "AddressClaimBus$Function", name := "claim", desc := "(I)V" } : MethodName)) ∈ zx_T := zx_mem tables_1_2 zx_l2 22 (by decide +kernel) (by decide +kernel)
theorem wd_264 : (Cond.instanceMethod ({ cls := "AddressClaimBus$Function", name := "claim", desc := "(I)V" } : MethodName)) ∈ zx_T := zx_mem tables_1_2 zx_l2 24 (by decide +kernel) (by decide +kernel)
theorem wd_265 : (Cond.code ({ cls := "AddressClaimBus$Function", name := "claim", desc := "(I)V" } : MethodName) prog_3_method_9_code (2 : Nat) (Option.none : Option FieldType)) ∈ zx_T := zx_mem tables_1_2 zx_l2 25 (by decide +kernel) (by decide +kernel)
theorem wd_266 : (Cond.constantLong "AddressClaimBus$Function" (124 : Nat) (250 : Int64)) ∈ zx_T := zx_mem tables_1_2 zx_l2 26 (by decide +kernel) (by decide +kernel)
theorem wd_267 : (Cond.methodLink "AddressClaimBus$Function" (96 : Nat) ({ cls := "AddressClaimBus$Function", name := "sendClaim", desc := "()V" } : MethodName)) ∈ zx_T := zx_mem tables_1_2 zx_l2 27 (by decide +kernel) (by decide +kernel)
theorem wd_269 : (Cond.instanceMethod ({ cls := "AddressClaimBus$Function", name := "sendClaim", desc := "()V" } : MethodName)) ∈ zx_T := zx_mem tables_1_2 zx_l2 29 (by decide +kernel) (by decide +kernel)
theorem wd_270 : (Cond.code ({ cls := "AddressClaimBus$Function", name := "sendClaim", desc := "()V" } : MethodName) prog_3_method_10_code (1 : Nat) (Option.none : Option FieldType)) ∈ zx_T := zx_mem tables_1_2 zx_l2 30 (by decide +kernel) (by decide +kernel)
theorem wd_271 : (Cond.constant "AddressClaimBus$Function" (126 : Nat) (418250752 : Int32)) ∈ zx_T := zx_mem tables_1_2 zx_l2 31 (by decide +kernel) (by decide +kernel)
theorem wd_272 : (Cond.methodLink "AddressClaimBus$Function" (127 : Nat) ({ cls := "AddressClaimBus$Bus", name := "put", desc := "(LAddressClaimBus$Station;IIJ)V" } : MethodName)) ∈ zx_T := zx_mem tables_1_2 zx_l2 32 (by decide +kernel) (by decide +kernel)
theorem wd_273 : (Cond.instanceMethod ({ cls := "AddressClaimBus$Bus", name := "put", desc := "(LAddressClaimBus$Station;IIJ)V" } : MethodName)) ∈ zx_T := zx_mem tables_1_2 zx_l2 33 (by decide +kernel) (by decide +kernel)
theorem wd_274 : (Cond.selects "AddressClaimBus$Bus" ({ cls := "AddressClaimBus$Bus", name := "put", desc := "(LAddressClaimBus$Station;IIJ)V" } : MethodName) ({ cls := "AddressClaimBus$Bus", name := "put", desc := "(LAddressClaimBus$Station;IIJ)V" } : MethodName)) ∈ zx_T := zx_mem tables_1_2 zx_l2 34 (by decide +kernel) (by decide +kernel)
theorem wd_275 : (Cond.code ({ cls := "AddressClaimBus$Bus", name := "put", desc := "(LAddressClaimBus$Station;IIJ)V" } : MethodName) prog_2_method_2_code (6 : Nat) (Option.none : Option FieldType)) ∈ zx_T := zx_mem tables_1_2 zx_l2 35 (by decide +kernel) (by decide +kernel)
theorem wd_276 : (Cond.methodLink "AddressClaimBusLaw" (20 : Nat) ({ cls := "AddressClaimBus", name := "stop", desc := "(I)Z" } : MethodName)) ∈ zx_T := zx_mem tables_1_2 zx_l2 36 (by decide +kernel) (by decide +kernel)
theorem wd_277 : (Cond.instanceMethod ({ cls := "AddressClaimBus", name := "stop", desc := "(I)Z" } : MethodName)) ∈ zx_T := zx_mem tables_1_2 zx_l2 37 (by decide +kernel) (by decide +kernel)
theorem wd_278 : (Cond.selects "AddressClaimBus" ({ cls := "AddressClaimBus", name := "stop", desc := "(I)Z" } : MethodName) ({ cls := "AddressClaimBus", name := "stop", desc := "(I)Z" } : MethodName)) ∈ zx_T := zx_mem tables_1_2 zx_l2 38 (by decide +kernel) (by decide +kernel)
theorem wd_279 : (Cond.code ({ cls := "AddressClaimBus", name := "stop", desc := "(I)Z" } : MethodName) prog_1_method_3_code (2 : Nat) (Option.some FieldType.boolean)) ∈ zx_T := zx_mem tables_1_2 zx_l2 39 (by decide +kernel) (by decide +kernel)
theorem wd_280 : (Cond.methodLink "AddressClaimBus" (45 : Nat) ({ cls := "AddressClaimBus$Function", name := "switchOff", desc := "()V" } : MethodName)) ∈ zx_T := zx_mem tables_1_2 zx_l2 40 (by decide +kernel) (by decide +kernel)
theorem wd_281 : (Cond.instanceMethod ({ cls := "AddressClaimBus$Function", name := "switchOff", desc := "()V" } : MethodName)) ∈ zx_T := zx_mem tables_1_2 zx_l2 41 (by decide +kernel) (by decide +kernel)
theorem wd_282 : (Cond.selects "AddressClaimBus$Function" ({ cls := "AddressClaimBus$Function", name := "switchOff", desc := "()V" } : MethodName) ({ cls := "AddressClaimBus$Function", name := "switchOff", desc := "()V" } : MethodName)) ∈ zx_T := zx_mem tables_1_2 zx_l2 42 (by decide +kernel) (by decide +kernel)
theorem wd_283 : (Cond.code ({ cls := "AddressClaimBus$Function", name := "switchOff", desc := "()V" } : MethodName) prog_3_method_3_code (1 : Nat) (Option.none : Option FieldType)) ∈ zx_T := zx_mem tables_1_2 zx_l2 43 (by decide +kernel) (by decide +kernel)
theorem wd_284 : (Cond.methodLink "AddressClaimBus$Function" (69 : Nat) ({ cls := "AddressClaimBus$Function", name := "endSessions", desc := "()V" } : MethodName)) ∈ zx_T := zx_mem tables_1_2 zx_l2 44 (by decide +kernel) (by decide +kernel)
theorem wd_286 : (Cond.instanceMethod ({ cls := "AddressClaimBus$Function", name := "endSessions", desc := "()V" } : MethodName)) ∈ zx_T := zx_mem tables_1_2 zx_l2 46 (by decide +kernel) (by decide +kernel)
theorem wd_287 : (Cond.code ({ cls := "AddressClaimBus$Function", name := "endSessions", desc := "()V" } : MethodName) prog_3_method_16_code (2 : Nat) (Option.none : Option FieldType)) ∈ zx_T := zx_mem tables_1_2 zx_l2 47 (by decide +kernel) (by decide +kernel)
theorem wd_288 : (Cond.methodLink "AddressClaimBus$Function" (148 : Nat) ({ cls := "AddressClaimBus$Outgoing", name := "end", desc := "(I)V" } : MethodName)) ∈ zx_T := zx_mem tables_1_2 zx_l2 48 (by decide +kernel) (by decide +kernel)
theorem wd_289 : (Cond.instanceMethod ({ cls := "AddressClaimBus$Outgoing", name := "end", desc := "(I)V" } : MethodName)) ∈ zx_T := zx_mem tables_1_2 zx_l2 49 (by decide +kernel) (by decide +kernel)
theorem wd_290 : (Cond.selects "AddressClaimBus$Outgoing" ({ cls := "AddressClaimBus$Outgoing", name := "end", desc := "(I)V" } : MethodName) ({ cls := "AddressClaimBus$Outgoing", name := "end", desc := "(I)V" } : MethodName)) ∈ zx_T := zx_mem tables_1_2 zx_l2 50 (by decide +kernel) (by decide +kernel)
theorem wd_291 : (Cond.code ({ cls := "AddressClaimBus$Outgoing", name := "end", desc := "(I)V" } : MethodName) prog_6_method_3_code (2 : Nat) (Option.none : Option FieldType)) ∈ zx_T := zx_mem tables_1_2 zx_l2 51 (by decide +kernel) (by decide +kernel)
theorem wd_292 : (Cond.methodLink "AddressClaimBus$Function" (151 : Nat) ({ cls := "AddressClaimBus$Incoming", name := "end", desc := "()V" } : MethodName)) ∈ zx_T := zx_mem tables_1_2 zx_l2 52 (by decide +kernel) (by decide +kernel)
theorem wd_293 : (Cond.instanceMethod ({ cls := "AddressClaimBus$Incoming", name := "end", desc := "()V" } : MethodName)) ∈ zx_T := zx_mem tables_1_2 zx_l2 53 (by decide +kernel) (by decide +kernel)
theorem wd_294 : (Cond.selects "AddressClaimBus$Incoming" ({ cls := "AddressClaimBus$Incoming", name := "end", desc := "()V" } : MethodName) ({ cls := "AddressClaimBus$Incoming", name := "end", desc := "()V" } : MethodName)) ∈ zx_T := zx_mem tables_1_2 zx_l2 54 (by decide +kernel) (by decide +kernel)
theorem wd_295 : (Cond.code ({ cls := "AddressClaimBus$Incoming", name := "end", desc := "()V" } : MethodName) prog_4_method_3_code (1 : Nat) (Option.none : Option FieldType)) ∈ zx_T := zx_mem tables_1_2 zx_l2 55 (by decide +kernel) (by decide +kernel)
theorem wd_296 : (Cond.methodLink "AddressClaimBus$Function" (77 : Nat) ({ cls := "AddressClaimBus$Bus", name := "takeAwayFramesOf", desc := "(I)V" } : MethodName)) ∈ zx_T := zx_mem tables_1_2 zx_l2 56 (by decide +kernel) (by decide +kernel)
theorem wd_297 : (Cond.instanceMethod ({ cls := "AddressClaimBus$Bus", name := "takeAwayFramesOf", desc := "(I)V" } : MethodName)) ∈ zx_T := zx_mem tables_1_2 zx_l2 57 (by decide +kernel) (by decide +kernel)
theorem wd_298 : (Cond.selects "AddressClaimBus$Bus" ({ cls := "AddressClaimBus$Bus", name := "takeAwayFramesOf", desc := "(I)V" } : MethodName) ({ cls := "AddressClaimBus$Bus", name := "takeAwayFramesOf", desc := "(I)V" } : MethodName)) ∈ zx_T := zx_mem tables_1_2 zx_l2 58 (by decide +kernel) (by decide +kernel)
theorem wd_299 : (Cond.code ({ cls := "AddressClaimBus$Bus", name := "takeAwayFramesOf", desc := "(I)V" } : MethodName) prog_2_method_5_code (4 : Nat) (Option.none : Option FieldType)) ∈ zx_T := zx_mem tables_1_2 zx_l2 59 (by decide +kernel) (by decide +kernel)
theorem wd_300 : (Cond.methodLink "AddressClaimBus$Bus" (37 : Nat) ({ cls := "AddressClaimBus$Bus", name := "move", desc := "(II)V" } : MethodName)) ∈ zx_T := zx_mem tables_1_2 zx_l2 60 (by decide +kernel) (by decide +kernel)
theorem wd_302 : (Cond.instanceMethod ({ cls := "AddressClaimBus$Bus", name := "move", desc := "(II)V" } : MethodName)) ∈ zx_T := zx_mem tables_1_2 zx_l2 62 (by decide +kernel) (by decide +kernel)
theorem wd_303 : (Cond.code ({ cls := "AddressClaimBus$Bus", name := "move", desc := "(II)V" } : MethodName) prog_2_method_6_code (3 : Nat) (Option.none : Option FieldType)) ∈ zx_T := zx_mem tables_1_2 zx_l2 63 (by decide +kernel) (by decide +kernel)
theorem wd_304 : (Cond.methodLink "AddressClaimBusLaw" (25 : Nat) ({ cls := "AddressClaimBus", name := "busy", desc := "(IZ)Z" } : MethodName)) ∈ zx_T := zx_mem tables_1_2 zx_l2 64 (by decide +kernel) (by decide +kernel)
theorem wd_305 : (Cond.instanceMethod ({ cls := "AddressClaimBus", name := "busy", desc := "(IZ)Z" } : MethodName)) ∈ zx_T := zx_mem tables_1_2 zx_l2 65 (by decide +kernel) (by decide +kernel)
theorem wd_306 : (Cond.selects "AddressClaimBus" ({ cls := "AddressClaimBus", name := "busy", desc := "(IZ)Z" } : MethodName) ({ cls := "AddressClaimBus", name := "busy", desc := "(IZ)Z" } : MethodName)) ∈ zx_T := zx_mem tables_1_2 zx_l2 66 (by decide +kernel) (by decide +kernel)
theorem wd_307 : (Cond.code ({ cls := "AddressClaimBus", name := "busy", desc := "(IZ)Z" } : MethodName) prog_1_method_4_code (3 : Nat) (Option.some FieldType.boolean)) ∈ zx_T := zx_mem tables_1_2 zx_l2 67 (by decide +kernel) (by decide +kernel)
theorem wd_308 : (Cond.methodLink "AddressClaimBusLaw" (30 : Nat) ({ cls := "AddressClaimBus", name := "state", desc := "(I)I" } : MethodName)) ∈ zx_T := zx_mem tables_1_2 zx_l2 68 (by decide +kernel) (by decide +kernel)
theorem wd_309 : (Cond.instanceMethod ({ cls := "AddressClaimBus", name := "state", desc := "(I)I" } : MethodName)) ∈ zx_T := zx_mem tables_1_2 zx_l2 69 (by decide +kernel) (by decide +kernel)
theorem wd_310 : (Cond.selects "AddressClaimBus" ({ cls := "AddressClaimBus", name := "state", desc := "(I)I" } : MethodName) ({ cls := "AddressClaimBus", name := "state", desc := "(I)I" } : MethodName)) ∈ zx_T := zx_mem tables_1_2 zx_l2 70 (by decide +kernel) (by decide +kernel)
theorem wd_311 : (Cond.code ({ cls := "AddressClaimBus", name := "state", desc := "(I)I" } : MethodName) prog_1_method_5_code (2 : Nat) (Option.some FieldType.int)) ∈ zx_T := zx_mem tables_1_2 zx_l2 71 (by decide +kernel) (by decide +kernel)
theorem wd_312 : (Cond.methodLink "AddressClaimBusLaw" (35 : Nat) ({ cls := "AddressClaimBus", name := "address", desc := "(I)I" } : MethodName)) ∈ zx_T := zx_mem tables_1_2 zx_l2 72 (by decide +kernel) (by decide +kernel)
theorem wd_313 : (Cond.instanceMethod ({ cls := "AddressClaimBus", name := "address", desc := "(I)I" } : MethodName)) ∈ zx_T := zx_mem tables_1_2 zx_l2 73 (by decide +kernel) (by decide +kernel)
theorem wd_314 : (Cond.selects "AddressClaimBus" ({ cls := "AddressClaimBus", name := "address", desc := "(I)I" } : MethodName) ({ cls := "AddressClaimBus", name := "address", desc := "(I)I" } : MethodName)) ∈ zx_T := zx_mem tables_1_2 zx_l2 74 (by decide +kernel) (by decide +kernel)
theorem wd_315 : (Cond.code ({ cls := "AddressClaimBus", name := "address", desc := "(I)I" } : MethodName) prog_1_method_6_code (2 : Nat) (Option.some FieldType.int)) ∈ zx_T := zx_mem tables_1_2 zx_l2 75 (by decide +kernel) (by decide +kernel)
theorem wd_316 : (Cond.methodLink "AddressClaimBusLaw" (39 : Nat) ({ cls := "AddressClaimBus", name := "noted", desc := "(II)I" } : MethodName)) ∈ zx_T := zx_mem tables_1_2 zx_l2 76 (by decide +kernel) (by decide +kernel)
theorem wd_317 : (Cond.instanceMethod ({ cls := "AddressClaimBus", name := "noted", desc := "(II)I" } : MethodName)) ∈ zx_T := zx_mem tables_1_2 zx_l2 77 (by decide +kernel) (by decide +kernel)
theorem wd_318 : (Cond.selects "AddressClaimBus" ({ cls := "AddressClaimBus", name := "noted", desc := "(II)I" } : MethodName) ({ cls := "AddressClaimBus", name := "noted", desc := "(II)I" } : MethodName)) ∈ zx_T := zx_mem tables_1_2 zx_l2 78 (by decide +kernel) (by decide +kernel)
theorem wd_319 : (Cond.code ({ cls := "AddressClaimBus", name := "noted", desc := "(II)I" } : MethodName) prog_1_method_7_code (3 : Nat) (Option.some FieldType.int)) ∈ zx_T := zx_mem tables_1_2 zx_l2 79 (by decide +kernel) (by decide +kernel)
theorem wd_320 : (Cond.methodLink "AddressClaimBusLaw" (44 : Nat) ({ cls := "AddressClaimBus", name := "request", desc := "(I)Z" } : MethodName)) ∈ zx_T := zx_mem tables_1_2 zx_l2 80 (by decide +kernel) (by decide +kernel)
theorem wd_321 : (Cond.instanceMethod ({ cls := "AddressClaimBus", name := "request", desc := "(I)Z" } : MethodName)) ∈ zx_T := zx_mem tables_1_2 zx_l2 81 (by decide +kernel) (by decide +kernel)
theorem wd_322 : (Cond.selects "AddressClaimBus" ({ cls := "AddressClaimBus", name := "request", desc := "(I)Z" } : MethodName) ({ cls := "AddressClaimBus", name := "request", desc := "(I)Z" } : MethodName)) ∈ zx_T := zx_mem tables_1_2 zx_l2 82 (by decide +kernel) (by decide +kernel)
theorem wd_323 : (Cond.code ({ cls := "AddressClaimBus", name := "request", desc := "(I)Z" } : MethodName) prog_1_method_8_code (2 : Nat) (Option.some FieldType.boolean)) ∈ zx_T := zx_mem tables_1_2 zx_l2 83 (by decide +kernel) (by decide +kernel)
theorem wd_324 : (Cond.constant "AddressClaimBus" (67 : Nat) (417988608 : Int32)) ∈ zx_T := zx_mem tables_1_2 zx_l2 84 (by decide +kernel) (by decide +kernel)
theorem wd_325 : (Cond.constantLong "AddressClaimBus" (68 : Nat) (60928 : Int64)) ∈ zx_T := zx_mem tables_1_2 zx_l2 85 (by decide +kernel) (by decide +kernel)
theorem wd_326 : (Cond.methodLink "AddressClaimBus" (70 : Nat) ({ cls := "AddressClaimBus$Bus", name := "put", desc := "(LAddressClaimBus$Station;IIJ)V" } : MethodName)) ∈ zx_T := zx_mem tables_1_2 zx_l2 86 (by decide +kernel) (by decide +kernel)
theorem wd_327 : (Cond.methodLink "AddressClaimBusLaw" (48 : Nat) ({ cls := "AddressClaimBus", name := "send", desc := "(IIIIJ)Z" } : MethodName)) ∈ zx_T := zx_mem tables_1_2 zx_l2 87 (by decide +kernel) (by decide +kernel)
theorem wd_328 : (Cond.instanceMethod ({ cls := "AddressClaimBus", name := "send", desc := "(IIIIJ)Z" } : MethodName)) ∈ zx_T := zx_mem tables_1_2 zx_l2 88 (by decide +kernel) (by decide +kernel)
theorem wd_329 : (Cond.selects "AddressClaimBus" ({ cls := "AddressClaimBus", name := "send", desc := "(IIIIJ)Z" } : MethodName) ({ cls := "AddressClaimBus", name := "send", desc := "(IIIIJ)Z" } : MethodName)) ∈ zx_T := zx_mem tables_1_2 zx_l2 89 (by decide +kernel) (by decide +kernel)
theorem wd_330 : (Cond.code ({ cls := "AddressClaimBus", name := "send", desc := "(IIIIJ)Z" } : MethodName) prog_1_method_9_code (7 : Nat) (Option.some FieldType.boolean)) ∈ zx_T := zx_mem tables_1_2 zx_l2 90 (by decide +kernel) (by decide +kernel)
theorem wd_331 : (Cond.methodLink "AddressClaimBus" (74 : Nat) ({ cls := "AddressClaimBus$Function", name := "canSendTo", desc := "(I)Z" } : MethodName)) ∈ zx_T := zx_mem tables_1_2 zx_l2 91 (by decide +kernel) (by decide +kernel)
theorem wd_332 : (Cond.instanceMethod ({ cls := "AddressClaimBus$Function", name := "canSendTo", desc := "(I)Z" } : MethodName)) ∈ zx_T := zx_mem tables_1_2 zx_l2 92 (by decide +kernel) (by decide +kernel)
theorem wd_333 : (Cond.selects "AddressClaimBus$Function" ({ cls := "AddressClaimBus$Function", name := "canSendTo", desc := "(I)Z" } : MethodName) ({ cls := "AddressClaimBus$Function", name := "canSendTo", desc := "(I)Z" } : MethodName)) ∈ zx_T := zx_mem tables_1_2 zx_l2 93 (by decide +kernel) (by decide +kernel)
theorem wd_334 : (Cond.code ({ cls := "AddressClaimBus$Function", name := "canSendTo", desc := "(I)Z" } : MethodName) prog_3_method_4_code (3 : Nat) (Option.some FieldType.boolean)) ∈ zx_T := zx_mem tables_1_2 zx_l2 94 (by decide +kernel) (by decide +kernel)
theorem wd_335 : (Cond.constant "AddressClaimBus" (77 : Nat) (262143 : Int32)) ∈ zx_T := zx_mem tables_1_2 zx_l2 95 (by decide +kernel) (by decide +kernel)
theorem wd_336 : (Cond.methodLink "AddressClaimBus" (82 : Nat) ({ cls := "AddressClaimBus$Outgoing", name := "begin", desc := "(IIIJ)V" } : MethodName)) ∈ zx_T := zx_mem tables_1_2 zx_l2 96 (by decide +kernel) (by decide +kernel)
theorem wd_337 : (Cond.instanceMethod ({ cls := "AddressClaimBus$Outgoing", name := "begin", desc := "(IIIJ)V" } : MethodName)) ∈ zx_T := zx_mem tables_1_2 zx_l2 97 (by decide +kernel) (by decide +kernel)
theorem wd_338 : (Cond.selects "AddressClaimBus$Outgoing" ({ cls := "AddressClaimBus$Outgoing", name := "begin", desc := "(IIIJ)V" } : MethodName) ({ cls := "AddressClaimBus$Outgoing", name := "begin", desc := "(IIIJ)V" } : MethodName)) ∈ zx_T := zx_mem tables_1_2 zx_l2 98 (by decide +kernel) (by decide +kernel)
theorem wd_339 : (Cond.code ({ cls := "AddressClaimBus$Outgoing", name := "begin", desc := "(IIIJ)V" } : MethodName) prog_6_method_2_code (7 : Nat) (Option.none : Option FieldType)) ∈ zx_T := zx_mem tables_1_2 zx_l2 99 (by decide +kernel) (by decide +kernel)
theorem wd_340 : (Cond.constant "AddressClaimBus$Outgoing" (44 : Nat) (485228544 : Int32)) ∈ zx_T := zx_mem tables_1_2 zx_l2 100 (by decide +kernel) (by decide +kernel)
theorem wd_342 : (Cond.static ({ cls := "AddressClaimBus", name := "extentData", desc := "(III)J" } : MethodName)) ∈ zx_T := zx_mem tables_1_2 zx_l2 102 (by decide +kernel) (by decide +kernel)
theorem wd_343 : (Cond.code ({ cls := "AddressClaimBus", name := "extentData", desc := "(III)J" } : MethodName) prog_1_method_30_code (3 : Nat) (Option.some FieldType.long)) ∈ zx_T := zx_mem tables_1_2 zx_l2 103 (by decide +kernel) (by decide +kernel)
theorem wd_344 : (Cond.methodLink "AddressClaimBus" (171 : Nat) ({ cls := "AddressClaimBus", name := "packetsFor", desc := "(I)I" } : MethodName)) ∈ zx_T := zx_mem tables_1_2 zx_l2 104 (by decide +kernel) (by decide +kernel)
theorem wd_345 : (Cond.static ({ cls := "AddressClaimBus", name := "packetsFor", desc := "(I)I" } : MethodName)) ∈ zx_T := zx_mem tables_1_2 zx_l2 105 (by decide +kernel) (by decide +kernel)
theorem wd_346 : (Cond.code ({ cls := "AddressClaimBus", name := "packetsFor", desc := "(I)I" } : MethodName) prog_1_method_27_code (1 : Nat) (Option.some FieldType.int)) ∈ zx_T := zx_mem tables_1_2 zx_l2 106 (by decide +kernel) (by decide +kernel)
theorem wd_347 : (Cond.methodLink "AddressClaimBus" (174 : Nat) ({ cls := "AddressClaimBus", name := "controlData", desc := "(IIIII)J" } : MethodName)) ∈ zx_T := zx_mem tables_1_2 zx_l2 107 (by decide +kernel) (by decide +kernel)
theorem wd_348 : (Cond.static ({ cls := "AddressClaimBus", name := "controlData", desc := "(IIIII)J" } : MethodName)) ∈ zx_T := zx_mem tables_1_2 zx_l2 108 (by decide +kernel) (by decide +kernel)
theorem wd_349 : (Cond.code ({ cls := "AddressClaimBus", name := "controlData", desc := "(IIIII)J" } : MethodName) prog_1_method_29_code (7 : Nat) (Option.some FieldType.long)) ∈ zx_T := zx_mem tables_1_2 zx_l2 109 (by decide +kernel) (by decide +kernel)
theorem wd_350 : (Cond.constantLong "AddressClaimBus" (169 : Nat) (1095216660480 : Int64)) ∈ zx_T := zx_mem tables_1_2 zx_l2 110 (by decide +kernel) (by decide +kernel)
theorem wd_351 : (Cond.methodLink "AddressClaimBus$Outgoing" (49 : Nat) ({ cls := "AddressClaimBus$Bus", name := "put", desc := "(LAddressClaimBus$Station;IIJ)V" } : MethodName)) ∈ zx_T := zx_mem tables_1_2 zx_l2 111 (by decide +kernel) (by decide +kernel)
theorem wd_352 : (Cond.methodLink "AddressClaimBusLaw" (53 : Nat) ({ cls := "AddressClaimBus", name := "waiting", desc := "()I" } : MethodName)) ∈ zx_T := zx_mem tables_1_2 zx_l2 112 (by decide +kernel) (by decide +kernel)
theorem wd_353 : (Cond.instanceMethod ({ cls := "AddressClaimBus", name := "waiting", desc := "()I" } : MethodName)) ∈ zx_T := zx_mem tables_1_2 zx_l2 113 (by decide +kernel) (by decide +kernel)
theorem wd_354 : (Cond.selects "AddressClaimBus" ({ cls := "AddressClaimBus", name := "waiting", desc := "()I" } : MethodName) ({ cls := "AddressClaimBus", name := "waiting", desc := "()I" } : MethodName)) ∈ zx_T := zx_mem tables_1_2 zx_l2 114 (by decide +kernel) (by decide +kernel)
theorem wd_355 : (Cond.code ({ cls := "AddressClaimBus", name := "waiting", desc := "()I" } : MethodName) prog_1_method_10_code (1 : Nat) (Option.some FieldType.int)) ∈ zx_T := zx_mem tables_1_2 zx_l2 115 (by decide +kernel) (by decide +kernel)
theorem wd_356 : (Cond.methodLink "AddressClaimBusLaw" (58 : Nat) ({ cls := "AddressClaimBus", name := "identifier", desc := "()I" } : MethodName)) ∈ zx_T := zx_mem tables_1_2 zx_l2 116 (by decide +kernel) (by decide +kernel)
theorem wd_357 : (Cond.instanceMethod ({ cls := "AddressClaimBus", name := "identifier", desc := "()I" } : MethodName)) ∈ zx_T := zx_mem tables_1_2 zx_l2 117 (by decide +kernel) (by decide +kernel)
theorem wd_358 : (Cond.selects "AddressClaimBus" ({ cls := "AddressClaimBus", name := "identifier", desc := "()I" } : MethodName) ({ cls := "AddressClaimBus", name := "identifier", desc := "()I" } : MethodName)) ∈ zx_T := zx_mem tables_1_2 zx_l2 118 (by decide +kernel) (by decide +kernel)
theorem wd_359 : (Cond.code ({ cls := "AddressClaimBus", name := "identifier", desc := "()I" } : MethodName) prog_1_method_11_code (2 : Nat) (Option.some FieldType.int)) ∈ zx_T := zx_mem tables_1_2 zx_l2 119 (by decide +kernel) (by decide +kernel)
theorem wd_360 : (Cond.methodLink "AddressClaimBus" (91 : Nat) ({ cls := "AddressClaimBus$Bus", name := "placeOfNext", desc := "()I" } : MethodName)) ∈ zx_T := zx_mem tables_1_2 zx_l2 120 (by decide +kernel) (by decide +kernel)
theorem wd_361 : (Cond.instanceMethod ({ cls := "AddressClaimBus$Bus", name := "placeOfNext", desc := "()I" } : MethodName)) ∈ zx_T := zx_mem tables_1_2 zx_l2 121 (by decide +kernel) (by decide +kernel)
theorem wd_362 : (Cond.selects "AddressClaimBus$Bus" ({ cls := "AddressClaimBus$Bus", name := "placeOfNext", desc := "()I" } : MethodName) ({ cls := "AddressClaimBus$Bus", name := "placeOfNext", desc := "()I" } : MethodName)) ∈ zx_T := zx_mem tables_1_2 zx_l2 122 (by decide +kernel) (by decide +kernel)
theorem wd_363 : (Cond.code ({ cls := "AddressClaimBus$Bus", name := "placeOfNext", desc := "()I" } : MethodName) prog_2_method_3_code (3 : Nat) (Option.some FieldType.int)) ∈ zx_T := zx_mem tables_1_2 zx_l2 123 (by decide +kernel) (by decide +kernel)
theorem wd_364 : (Cond.methodLink "AddressClaimBusLaw" (62 : Nat) ({ cls := "AddressClaimBus", name := "data", desc := "()J" } : MethodName)) ∈ zx_T := zx_mem tables_1_2 zx_l2 124 (by decide +kernel) (by decide +kernel)
theorem wd_365 : (Cond.instanceMethod ({ cls := "AddressClaimBus", name := "data", desc := "()J" } : MethodName)) ∈ zx_T := zx_mem tables_1_2 zx_l2 125 (by decide +kernel) (by decide +kernel)
theorem wd_366 : (Cond.selects "AddressClaimBus" ({ cls := "AddressClaimBus", name := "data", desc := "()J" } : MethodName) ({ cls := "AddressClaimBus", name := "data", desc := "()J" } : MethodName)) ∈ zx_T := zx_mem tables_1_2 zx_l2 126 (by decide +kernel) (by decide +kernel)
theorem wd_367 : (Cond.code ({ cls := "AddressClaimBus", name := "data", desc := "()J" } : MethodName) prog_1_method_12_code (2 : Nat) (Option.some FieldType.long)) ∈ zx_T := zx_mem tables_1_2 zx_l2 127 (by decide +kernel) (by decide +kernel)
theorem wd_368 : (Cond.methodLink "AddressClaimBusLaw" (67 : Nat) ({ cls := "AddressClaimBus", name := "deliver", desc := "(Z)Z" } : MethodName)) ∈ zx_T := zx_mem tables_1_2 zx_l2 128 (by decide +kernel) (by decide +kernel)
theorem wd_369 : (Cond.instanceMethod ({ cls := "AddressClaimBus", name := "deliver", desc := "(Z)Z" } : MethodName)) ∈ zx_T := zx_mem tables_1_2 zx_l2 129 (by decide +kernel) (by decide +kernel)
theorem wd_370 : (Cond.selects "AddressClaimBus" ({ cls := "AddressClaimBus", name := "deliver", desc := "(Z)Z" } : MethodName) ({ cls := "AddressClaimBus", name := "deliver", desc := "(Z)Z" } : MethodName)) ∈ zx_T := zx_mem tables_1_2 zx_l2 130 (by decide +kernel) (by decide +kernel)
theorem wd_371 : (Cond.code ({ cls := "AddressClaimBus", name := "deliver", desc := "(Z)Z" } : MethodName) prog_1_method_13_code (8 : Nat) (Option.some FieldType.boolean)) ∈ zx_T := zx_mem tables_1_2 zx_l2 131 (by decide +kernel) (by decide +kernel)
theorem wd_372 : (Cond.methodLink "AddressClaimBus" (105 : Nat) ({ cls := "AddressClaimBus$Bus", name := "takeAway", desc := "(I)V" } : MethodName)) ∈ zx_T := zx_mem tables_1_2 zx_l2 132 (by decide +kernel) (by decide +kernel)
theorem wd_373 : (Cond.instanceMethod ({ cls := "AddressClaimBus$Bus", name := "takeAway", desc := "(I)V" } : MethodName)) ∈ zx_T := zx_mem tables_1_2 zx_l2 133 (by decide +kernel) (by decide +kernel)
theorem wd_374 : (Cond.selects "AddressClaimBus$Bus" ({ cls := "AddressClaimBus$Bus", name := "takeAway", desc := "(I)V" } : MethodName) ({ cls := "AddressClaimBus$Bus", name := "takeAway", desc := "(I)V" } : MethodName)) ∈ zx_T := zx_mem tables_1_2 zx_l2 134 (by decide +kernel) (by decide +kernel)
theorem wd_375 : (Cond.code ({ cls := "AddressClaimBus$Bus", name := "takeAway", desc := "(I)V" } : MethodName) prog_2_method_4_code (3 : Nat) (Option.none : Option FieldType)) ∈ zx_T := zx_mem tables_1_2 zx_l2 135 (by decide +kernel) (by decide +kernel)
theorem wd_376 : (Cond.methodLink "AddressClaimBus" (108 : Nat) ({ cls := "AddressClaimBus$Function", name := "reach", desc := "(IIJ)V" } : MethodName)) ∈ zx_T := zx_mem tables_1_2 zx_l2 136 (by decide +kernel) (by decide +kernel)
theorem wd_377 : (Cond.instanceMethod ({ cls := "AddressClaimBus$Function", name := "reach", desc := "(IIJ)V" } : MethodName)) ∈ zx_T := zx_mem tables_1_2 zx_l2 137 (by decide +kernel) (by decide +kernel)
theorem wd_378 : (Cond.selects "AddressClaimBus$Function" ({ cls := "AddressClaimBus$Function", name := "reach", desc := "(IIJ)V" } : MethodName) ({ cls := "AddressClaimBus$Function", name := "reach", desc := "(IIJ)V" } : MethodName)) ∈ zx_T := zx_mem tables_1_2 zx_l2 138 (by decide +kernel) (by decide +kernel)
theorem wd_379 : (Cond.code ({ cls := "AddressClaimBus$Function", name := "reach", desc := "(IIJ)V" } : MethodName) prog_3_method_6_code (8 : Nat) (Option.none : Option FieldType)) ∈ zx_T := zx_mem tables_1_2 zx_l2 139 (by decide +kernel) (by decide +kernel)
theorem wd_380 : (Cond.methodLink "AddressClaimBus$Function" (92 : Nat) ({ cls := "AddressClaimBus$Function", name := "takeClaim", desc := "(IIJ)V" } : MethodName)) ∈ zx_T := zx_mem tables_1_2 zx_l2 140 (by decide +kernel) (by decide +kernel)
theorem wd_382 : (Cond.instanceMethod ({ cls := "AddressClaimBus$Function", name := "takeClaim", desc := "(IIJ)V" } : MethodName)) ∈ zx_T := zx_mem tables_1_2 zx_l2 142 (by decide +kernel) (by decide +kernel)
theorem wd_383 : (Cond.code ({ cls := "AddressClaimBus$Function", name := "takeClaim", desc := "(IIJ)V" } : MethodName) prog_3_method_11_code (5 : Nat) (Option.none : Option FieldType)) ∈ zx_T := zx_mem tables_1_2 zx_l2 143 (by decide +kernel) (by decide +kernel)
theorem wd_384 : (Cond.methodLink "AddressClaimBus$Function" (131 : Nat) ({ cls := "AddressClaimBus$Function", name := "isNameLessThan", desc := "(J)Z" } : MethodName)) ∈ zx_T := zx_mem tables_1_2 zx_l2 144 (by decide +kernel) (by decide +kernel)
theorem wd_386 : (Cond.instanceMethod ({ cls := "AddressClaimBus$Function", name := "isNameLessThan", desc := "(J)Z" } : MethodName)) ∈ zx_T := zx_mem tables_1_2 zx_l2 146 (by decide +kernel) (by decide +kernel)
theorem wd_387 : (Cond.code ({ cls := "AddressClaimBus$Function", name := "isNameLessThan", desc := "(J)Z" } : MethodName) prog_3_method_12_code (3 : Nat) (Option.some FieldType.boolean)) ∈ zx_T := zx_mem tables_1_2 zx_l2 147 (by decide +kernel) (by decide +kernel)
theorem wd_388 : (Cond.constantLong "AddressClaimBus$Function" (138 : Nat) (-9223372036854775808 : Int64)) ∈ zx_T := zx_mem tables_1_2 zx_l2 148 (by decide +kernel) (by decide +kernel)
theorem wd_389 : (Cond.methodLink "AddressClaimBus$Function" (135 : Nat) ({ cls := "AddressClaimBus$Function", name := "loseAddress", desc := "()V" } : MethodName)) ∈ zx_T := zx_mem tables_1_2 zx_l2 149 (by decide +kernel) (by decide +kernel)
theorem wd_391 : (Cond.instanceMethod ({ cls := "AddressClaimBus$Function", name := "loseAddress", desc := "()V" } : MethodName)) ∈ zx_T := zx_mem tables_1_2 zx_l2 151 (by decide +kernel) (by decide +kernel)
theorem wd_392 : (Cond.code ({ cls := "AddressClaimBus$Function", name := "loseAddress", desc := "()V" } : MethodName) prog_3_method_13_code (2 : Nat) (Option.none : Option FieldType)) ∈ zx_T := zx_mem tables_1_2 zx_l2 152 (by decide +kernel) (by decide +kernel)
theorem wd_393 : (Cond.methodLink "AddressClaimBus$Function" (140 : Nat) ({ cls := "AddressClaimBus$Function", name := "spareAddress", desc := "()I" } : MethodName)) ∈ zx_T := zx_mem tables_1_2 zx_l2 153 (by decide +kernel) (by decide +kernel)
theorem wd_395 : (Cond.instanceMethod ({ cls := "AddressClaimBus$Function", name := "spareAddress", desc := "()I" } : MethodName)) ∈ zx_T := zx_mem tables_1_2 zx_l2 155 (by decide +kernel) (by decide +kernel)
theorem wd_396 : (Cond.code ({ cls := "AddressClaimBus$Function", name := "spareAddress", desc := "()I" } : MethodName) prog_3_method_14_code (2 : Nat) (Option.some FieldType.int)) ∈ zx_T := zx_mem tables_1_2 zx_l2 156 (by decide +kernel) (by decide +kernel)
theorem wd_397 : (Cond.methodLink "AddressClaimBus$Function" (144 : Nat) ({ cls := "AddressClaimBus$Function", name := "isNoted", desc := "(I)Z" } : MethodName)) ∈ zx_T := zx_mem tables_1_2 zx_l2 157 (by decide +kernel) (by decide +kernel)
theorem wd_399 : (Cond.instanceMethod ({ cls := "AddressClaimBus$Function", name := "isNoted", desc := "(I)Z" } : MethodName)) ∈ zx_T := zx_mem tables_1_2 zx_l2 159 (by decide +kernel) (by decide +kernel)
theorem wd_400 : (Cond.code ({ cls := "AddressClaimBus$Function", name := "isNoted", desc := "(I)Z" } : MethodName) prog_3_method_15_code (3 : Nat) (Option.some FieldType.boolean)) ∈ zx_T := zx_mem tables_1_2 zx_l2 160 (by decide +kernel) (by decide +kernel)
theorem wd_401 : (Cond.methodLink "AddressClaimBus$Function" (99 : Nat) ({ cls := "AddressClaimBus$Function", name := "takeControl", desc := "(IJ)V" } : MethodName)) ∈ zx_T := zx_mem tables_1_2 zx_l2 161 (by decide +kernel) (by decide +kernel)
theorem wd_403 : (Cond.instanceMethod ({ cls := "AddressClaimBus$Function", name := "takeControl", desc := "(IJ)V" } : MethodName)) ∈ zx_T := zx_mem tables_1_2 zx_l2 163 (by decide +kernel) (by decide +kernel)
theorem wd_404 : (Cond.code ({ cls := "AddressClaimBus$Function", name := "takeControl", desc := "(IJ)V" } : MethodName) prog_3_method_17_code (7 : Nat) (Option.none : Option FieldType)) ∈ zx_T := zx_mem tables_1_2 zx_l2 164 (by decide +kernel) (by decide +kernel)
theorem wd_406 : (Cond.static ({ cls := "AddressClaimBus", name := "frameByte", desc := "(JI)I" } : MethodName)) ∈ zx_T := zx_mem tables_1_2 zx_l2 166 (by decide +kernel) (by decide +kernel)
theorem wd_407 : (Cond.code ({ cls := "AddressClaimBus", name := "frameByte", desc := "(JI)I" } : MethodName) prog_1_method_28_code (3 : Nat) (Option.some FieldType.int)) ∈ zx_T := zx_mem tables_1_2 zx_l2 167 (by decide +kernel) (by decide +kernel)
theorem wd_408 : (Cond.methodLink "AddressClaimBus$Function" (157 : Nat) ({ cls := "AddressClaimBus$Outgoing", name := "isWith", desc := "(II)Z" } : MethodName)) ∈ zx_T := zx_mem tables_1_2 zx_l2 168 (by decide +kernel) (by decide +kernel)
theorem wd_409 : (Cond.instanceMethod ({ cls := "AddressClaimBus$Outgoing", name := "isWith", desc := "(II)Z" } : MethodName)) ∈ zx_T := zx_mem tables_1_2 zx_l2 169 (by decide +kernel) (by decide +kernel)
theorem wd_410 : (Cond.selects "AddressClaimBus$Outgoing" ({ cls := "AddressClaimBus$Outgoing", name := "isWith", desc := "(II)Z" } : MethodName) ({ cls := "AddressClaimBus$Outgoing", name := "isWith", desc := "(II)Z" } : MethodName)) ∈ zx_T := zx_mem tables_1_2 zx_l2 170 (by decide +kernel) (by decide +kernel)
theorem wd_411 : (Cond.code ({ cls := "AddressClaimBus$Outgoing", name := "isWith", desc := "(II)Z" } : MethodName) prog_6_method_4_code (3 : Nat) (Option.some FieldType.boolean)) ∈ zx_T := zx_mem tables_1_2 zx_l2 171 (by decide +kernel) (by decide +kernel)
theorem wd_412 : (Cond.methodLink "AddressClaimBus$Function" (161 : Nat) ({ cls := "AddressClaimBus$Function", name := "takeOpening", desc := "(IIJZ)V" } : MethodName)) ∈ zx_T := zx_mem tables_1_2 zx_l2 172 (by decide +kernel) (by decide +kernel)
theorem wd_414 : (Cond.instanceMethod ({ cls := "AddressClaimBus$Function", name := "takeOpening", desc := "(IIJZ)V" } : MethodName)) ∈ zx_T := zx_mem tables_1_2 zx_l2 174 (by decide +kernel) (by decide +kernel)
theorem wd_415 : (Cond.code ({ cls := "AddressClaimBus$Function", name := "takeOpening", desc := "(IIJZ)V" } : MethodName) prog_3_method_18_code (7 : Nat) (Option.none : Option FieldType)) ∈ zx_T := zx_mem tables_1_2 zx_l2 175 (by decide +kernel) (by decide +kernel)
theorem wd_416 : (Cond.methodLink "AddressClaimBus$Function" (172 : Nat) ({ cls := "AddressClaimBus$Incoming", name := "isFrom", desc := "(IZ)Z" } : MethodName)) ∈ zx_T := zx_mem tables_1_2 zx_l2 176 (by decide +kernel) (by decide +kernel)
theorem wd_417 : (Cond.instanceMethod ({ cls := "AddressClaimBus$Incoming", name := "isFrom", desc := "(IZ)Z" } : MethodName)) ∈ zx_T := zx_mem tables_1_2 zx_l2 177 (by decide +kernel) (by decide +kernel)
theorem wd_418 : (Cond.selects "AddressClaimBus$Incoming" ({ cls := "AddressClaimBus$Incoming", name := "isFrom", desc := "(IZ)Z" } : MethodName) ({ cls := "AddressClaimBus$Incoming", name := "isFrom", desc := "(IZ)Z" } : MethodName)) ∈ zx_T := zx_mem tables_1_2 zx_l2 178 (by decide +kernel) (by decide +kernel)
theorem wd_419 : (Cond.code ({ cls := "AddressClaimBus$Incoming", name := "isFrom", desc := "(IZ)Z" } : MethodName) prog_4_method_4_code (3 : Nat) (Option.some FieldType.boolean)) ∈ zx_T := zx_mem tables_1_2 zx_l2 179 (by decide +kernel) (by decide +kernel)
theorem wd_420 : (Cond.methodLink "AddressClaimBus$Function" (176 : Nat) ({ cls := "AddressClaimBus$Function", name := "countIncoming", desc := "()I" } : MethodName)) ∈ zx_T := zx_mem tables_1_2 zx_l2 180 (by decide +kernel) (by decide +kernel)
theorem wd_421 : (Cond.instanceMethod ({ cls := "AddressClaimBus$Function", name := "countIncoming", desc := "()I" } : MethodName)) ∈ zx_T := zx_mem tables_1_2 zx_l2 181 (by decide +kernel) (by decide +kernel)
theorem wd_422 : (Cond.selects "AddressClaimBus$Function" ({ cls := "AddressClaimBus$Function", name := "countIncoming", desc := "()I" } : MethodName) ({ cls := "AddressClaimBus$Function", name := "countIncoming", desc := "()I" } : MethodName)) ∈ zx_T := zx_mem tables_1_2 zx_l2 182 (by decide +kernel) (by decide +kernel)
theorem wd_423 : (Cond.code ({ cls := "AddressClaimBus$Function", name := "countIncoming", desc := "()I" } : MethodName) prog_3_method_5_code (3 : Nat) (Option.some FieldType.int)) ∈ zx_T := zx_mem tables_1_2 zx_l2 183 (by decide +kernel) (by decide +kernel)
theorem wd_424 : (Cond.methodLink "AddressClaimBus$Function" (179 : Nat) ({ cls := "AddressClaimBus$Function", name := "roomForIncoming", desc := "()LAddressClaimBus$Incoming;" } : MethodName)) ∈ zx_T := zx_mem tables_1_2 zx_l2 184 (by decide +kernel) (by decide +kernel)
theorem wd_426 : (Cond.instanceMethod ({ cls := "AddressClaimBus$Function", name := "roomForIncoming", desc := "()LAddressClaimBus$Incoming;" } : MethodName)) ∈ zx_T := zx_mem tables_1_2 zx_l2 186 (by decide +kernel) (by decide +kernel)
theorem wd_427 : (Cond.code ({ cls := "AddressClaimBus$Function", name := "roomForIncoming", desc := "()LAddressClaimBus$Incoming;" } : MethodName) prog_3_method_19_code (2 : Nat) (Option.some (FieldType.object "AddressClaimBus$Incoming"))) ∈ zx_T := zx_mem tables_1_2 zx_l2 187 (by decide +kernel) (by decide +kernel)
theorem wd_428 : (Cond.methodLink "AddressClaimBus$Function" (183 : Nat) ({ cls := "AddressClaimBus$Incoming", name := "begin", desc := "(IIIZ)V" } : MethodName)) ∈ zx_T := zx_mem tables_1_2 zx_l2 188 (by decide +kernel) (by decide +kernel)
theorem wd_429 : (Cond.instanceMethod ({ cls := "AddressClaimBus$Incoming", name := "begin", desc := "(IIIZ)V" } : MethodName)) ∈ zx_T := zx_mem tables_1_2 zx_l2 189 (by decide +kernel) (by decide +kernel)
theorem wd_430 : (Cond.selects "AddressClaimBus$Incoming" ({ cls := "AddressClaimBus$Incoming", name := "begin", desc := "(IIIZ)V" } : MethodName) ({ cls := "AddressClaimBus$Incoming", name := "begin", desc := "(IIIZ)V" } : MethodName)) ∈ zx_T := zx_mem tables_1_2 zx_l2 190 (by decide +kernel) (by decide +kernel)
theorem wd_431 : (Cond.code ({ cls := "AddressClaimBus$Incoming", name := "begin", desc := "(IIIZ)V" } : MethodName) prog_4_method_2_code (5 : Nat) (Option.none : Option FieldType)) ∈ zx_T := zx_mem tables_1_2 zx_l2 191 (by decide +kernel) (by decide +kernel)
theorem wd_432 : (Cond.constantLong "AddressClaimBus$Incoming" (60 : Nat) (750 : Int64)) ∈ zx_T := zx_mem tables_1_2 zx_l2 192 (by decide +kernel) (by decide +kernel)
theorem wd_433 : (Cond.methodLink "AddressClaimBus$Incoming" (62 : Nat) ({ cls := "AddressClaimBus$Incoming", name := "grant", desc := "()V" } : MethodName)) ∈ zx_T := zx_mem tables_1_2 zx_l2 193 (by decide +kernel) (by decide +kernel)
theorem wd_435 : (Cond.instanceMethod ({ cls := "AddressClaimBus$Incoming", name := "grant", desc := "()V" } : MethodName)) ∈ zx_T := zx_mem tables_1_2 zx_l2 195 (by decide +kernel) (by decide +kernel)
theorem wd_436 : (Cond.code ({ cls := "AddressClaimBus$Incoming", name := "grant", desc := "()V" } : MethodName) prog_4_method_11_code (5 : Nat) (Option.none : Option FieldType)) ∈ zx_T := zx_mem tables_1_2 zx_l2 196 (by decide +kernel) (by decide +kernel)
theorem wd_438 : (Cond.methodLink "AddressClaimBus$Incoming" (116 : Nat) ({ cls := "java/lang/Math", name := "min", desc := "(II)I" } : MethodName)) ∈ zx_T := zx_mem tables_1_2 zx_l2 198 (by decide +kernel) (by decide +kernel)
theorem wd_439 : (Cond.static ({ cls := "java/lang/Math", name := "min", desc := "(II)I" } : MethodName)) ∈ zx_T := zx_mem tables_1_2 zx_l2 199 (by decide +kernel) (by decide +kernel)
theorem wd_440 : (Cond.code ({ cls := "java/lang/Math", name := "min", desc := "(II)I" } : MethodName) prog_10_method_69_code (2 : Nat) (Option.some FieldType.int)) ∈ zx_T := zx_mem tables_1_2 zx_l2 200 (by decide +kernel) (by decide +kernel)
theorem wd_442 : (Cond.constant "AddressClaimBus$Incoming" (90 : Nat) (485228544 : Int32)) ∈ zx_T := zx_mem tables_1_2 zx_l2 202 (by decide +kernel) (by decide +kernel)
theorem wd_443 : (Cond.methodLink "AddressClaimBus$Incoming" (95 : Nat) ({ cls := "AddressClaimBus$Bus", name := "put", desc := "(LAddressClaimBus$Station;IIJ)V" } : MethodName)) ∈ zx_T := zx_mem tables_1_2 zx_l2 203 (by decide +kernel) (by decide +kernel)
theorem wd_444 : (Cond.constant "AddressClaimBus$Function" (187 : Nat) (485228544 : Int32)) ∈ zx_T := zx_mem tables_1_2 zx_l2 204 (by decide +kernel) (by decide +kernel)
theorem wd_446 : (Cond.static ({ cls := "AddressClaimBus", name := "abortData", desc := "(II)J" } : MethodName)) ∈ zx_T := zx_mem tables_1_2 zx_l2 206 (by decide +kernel) (by decide +kernel)
theorem wd_447 : (Cond.code ({ cls := "AddressClaimBus", name := "abortData", desc := "(II)J" } : MethodName) prog_1_method_31_code (2 : Nat) (Option.some FieldType.long)) ∈ zx_T := zx_mem tables_1_2 zx_l2 207 (by decide +kernel) (by decide +kernel)
theorem wd_448 : (Cond.methodLink "AddressClaimBus$Function" (165 : Nat) ({ cls := "AddressClaimBus$Outgoing", name := "takeGrant", desc := "(II)V" } : MethodName)) ∈ zx_T := zx_mem tables_1_2 zx_l2 208 (by decide +kernel) (by decide +kernel)
theorem wd_449 : (Cond.instanceMethod ({ cls := "AddressClaimBus$Outgoing", name := "takeGrant", desc := "(II)V" } : MethodName)) ∈ zx_T := zx_mem tables_1_2 zx_l2 209 (by decide +kernel) (by decide +kernel)
theorem wd_450 : (Cond.selects "AddressClaimBus$Outgoing" ({ cls := "AddressClaimBus$Outgoing", name := "takeGrant", desc := "(II)V" } : MethodName) ({ cls := "AddressClaimBus$Outgoing", name := "takeGrant", desc := "(II)V" } : MethodName)) ∈ zx_T := zx_mem tables_1_2 zx_l2 210 (by decide +kernel) (by decide +kernel)
theorem wd_451 : (Cond.code ({ cls := "AddressClaimBus$Outgoing", name := "takeGrant", desc := "(II)V" } : MethodName) prog_6_method_5_code (5 : Nat) (Option.none : Option FieldType)) ∈ zx_T := zx_mem tables_1_2 zx_l2 211 (by decide +kernel) (by decide +kernel)
theorem wd_452 : (Cond.constantLong "AddressClaimBus$Outgoing" (61 : Nat) (1050 : Int64)) ∈ zx_T := zx_mem tables_1_2 zx_l2 212 (by decide +kernel) (by decide +kernel)
theorem wd_454 : (Cond.methodLink "AddressClaimBus$Outgoing" (67 : Nat) ({ cls := "java/lang/Math", name := "min", desc := "(II)I" } : MethodName)) ∈ zx_T := zx_mem tables_1_2 zx_l2 214 (by decide +kernel) (by decide +kernel)
theorem wd_455 : (Cond.methodLink "AddressClaimBus$Outgoing" (73 : Nat) ({ cls := "AddressClaimBus$Outgoing", name := "sendPacket", desc := "(I)V" } : MethodName)) ∈ zx_T := zx_mem tables_1_2 zx_l2 215 (by decide +kernel) (by decide +kernel)
theorem wd_457 : (Cond.instanceMethod ({ cls := "AddressClaimBus$Outgoing", name := "sendPacket", desc := "(I)V" } : MethodName)) ∈ zx_T := zx_mem tables_1_2 zx_l2 217 (by decide +kernel) (by decide +kernel)
theorem wd_458 : (Cond.code ({ cls := "AddressClaimBus$Outgoing", name := "sendPacket", desc := "(I)V" } : MethodName) prog_6_method_8_code (8 : Nat) (Option.none : Option FieldType)) ∈ zx_T := zx_mem tables_1_2 zx_l2 218 (by decide +kernel) (by decide +kernel)
theorem wd_459 : (Cond.constantLong "AddressClaimBus$Outgoing" (91 : Nat) (255 : Int64)) ∈ zx_T := zx_mem tables_1_2 zx_l2 219 (by decide +kernel) (by decide +kernel)
theorem wd_460 : (Cond.constant "AddressClaimBus$Outgoing" (93 : Nat) (485163008 : Int32)) ∈ zx_T := zx_mem tables_1_2 zx_l2 220 (by decide +kernel) (by decide +kernel)
theorem wd_461 : (Cond.constantLong "AddressClaimBus$Outgoing" (77 : Nat) (1250 : Int64)) ∈ zx_T := zx_mem tables_1_2 zx_l2 221 (by decide +kernel) (by decide +kernel)
theorem wd_462 : (Cond.methodLink "AddressClaimBus$Function" (169 : Nat) ({ cls := "AddressClaimBus$Function", name := "abortIncoming", desc := "(II)V" } : MethodName)) ∈ zx_T := zx_mem tables_1_2 zx_l2 222 (by decide +kernel) (by decide +kernel)
theorem wd_464 : (Cond.instanceMethod ({ cls := "AddressClaimBus$Function", name := "abortIncoming", desc := "(II)V" } : MethodName)) ∈ zx_T := zx_mem tables_1_2 zx_l2 224 (by decide +kernel) (by decide +kernel)
theorem wd_465 : (Cond.code ({ cls := "AddressClaimBus$Function", name := "abortIncoming", desc := "(II)V" } : MethodName) prog_3_method_20_code (4 : Nat) (Option.none : Option FieldType)) ∈ zx_T := zx_mem tables_1_2 zx_l2 225 (by decide +kernel) (by decide +kernel)
theorem wd_466 : (Cond.methodLink "AddressClaimBus$Function" (103 : Nat) ({ cls := "AddressClaimBus$Function", name := "takePacket", desc := "(IZJ)V" } : MethodName)) ∈ zx_T := zx_mem tables_1_2 zx_l2 226 (by decide +kernel) (by decide +kernel)
theorem wd_468 : (Cond.instanceMethod ({ cls := "AddressClaimBus$Function", name := "takePacket", desc := "(IZJ)V" } : MethodName)) ∈ zx_T := zx_mem tables_1_2 zx_l2 228 (by decide +kernel) (by decide +kernel)
theorem wd_469 : (Cond.code ({ cls := "AddressClaimBus$Function", name := "takePacket", desc := "(IZJ)V" } : MethodName) prog_3_method_21_code (8 : Nat) (Option.none : Option FieldType)) ∈ zx_T := zx_mem tables_1_2 zx_l2 229 (by decide +kernel) (by decide +kernel)
theorem wd_470 : (Cond.methodLink "AddressClaimBus$Function" (198 : Nat) ({ cls := "AddressClaimBus$Incoming", name := "takeToAll", desc := "(J)Z" } : MethodName)) ∈ zx_T := zx_mem tables_1_2 zx_l2 230 (by decide +kernel) (by decide +kernel)
theorem wd_471 : (Cond.instanceMethod ({ cls := "AddressClaimBus$Incoming", name := "takeToAll", desc := "(J)Z" } : MethodName)) ∈ zx_T := zx_mem tables_1_2 zx_l2 231 (by decide +kernel) (by decide +kernel)
theorem wd_472 : (Cond.selects "AddressClaimBus$Incoming" ({ cls := "AddressClaimBus$Incoming", name := "takeToAll", desc := "(J)Z" } : MethodName) ({ cls := "AddressClaimBus$Incoming", name := "takeToAll", desc := "(J)Z" } : MethodName)) ∈ zx_T := zx_mem tables_1_2 zx_l2 232 (by decide +kernel) (by decide +kernel)
theorem wd_473 : (Cond.code ({ cls := "AddressClaimBus$Incoming", name := "takeToAll", desc := "(J)Z" } : MethodName) prog_4_method_6_code (4 : Nat) (Option.some FieldType.boolean)) ∈ zx_T := zx_mem tables_1_2 zx_l2 233 (by decide +kernel) (by decide +kernel)
theorem wd_475 : (Cond.methodLink "AddressClaimBus$Incoming" (65 : Nat) ({ cls := "AddressClaimBus$Incoming", name := "end", desc := "()V" } : MethodName)) ∈ zx_T := zx_mem tables_1_2 zx_l2 235 (by decide +kernel) (by decide +kernel)
theorem wd_476 : (Cond.methodLink "AddressClaimBus$Incoming" (79 : Nat) ({ cls := "AddressClaimBus$Incoming", name := "keepExpected", desc := "(J)V" } : MethodName)) ∈ zx_T := zx_mem tables_1_2 zx_l2 236 (by decide +kernel) (by decide +kernel)
theorem wd_478 : (Cond.instanceMethod ({ cls := "AddressClaimBus$Incoming", name := "keepExpected", desc := "(J)V" } : MethodName)) ∈ zx_T := zx_mem tables_1_2 zx_l2 238 (by decide +kernel) (by decide +kernel)
theorem wd_479 : (Cond.code ({ cls := "AddressClaimBus$Incoming", name := "keepExpected", desc := "(J)V" } : MethodName) prog_4_method_8_code (3 : Nat) (Option.none : Option FieldType)) ∈ zx_T := zx_mem tables_1_2 zx_l2 239 (by decide +kernel) (by decide +kernel)
theorem wd_480 : (Cond.methodLink "AddressClaimBus$Incoming" (99 : Nat) ({ cls := "AddressClaimBus$Message", name := "keep", desc := "(IJ)V" } : MethodName)) ∈ zx_T := zx_mem tables_1_3 zx_l3 0 (by decide +kernel) (by decide +kernel)
theorem wd_481 : (Cond.instanceMethod ({ cls := "AddressClaimBus$Message", name := "keep", desc := "(IJ)V" } : MethodName)) ∈ zx_T := zx_mem tables_1_3 zx_l3 1 (by decide +kernel) (by decide +kernel)
theorem wd_482 : (Cond.selects "AddressClaimBus$Message" ({ cls := "AddressClaimBus$Message", name := "keep", desc := "(IJ)V" } : MethodName) ({ cls := "AddressClaimBus$Message", name := "keep", desc := "(IJ)V" } : MethodName)) ∈ zx_T := zx_mem tables_1_3 zx_l3 2 (by decide +kernel) (by decide +kernel)
theorem wd_483 : (Cond.code ({ cls := "AddressClaimBus$Message", name := "keep", desc := "(IJ)V" } : MethodName) prog_5_method_2_code (4 : Nat) (Option.none : Option FieldType)) ∈ zx_T := zx_mem tables_1_3 zx_l3 3 (by decide +kernel) (by decide +kernel)
theorem wd_484 : (Cond.methodLink "AddressClaimBus$Incoming" (83 : Nat) ({ cls := "AddressClaimBus$Incoming", name := "isWhole", desc := "()Z" } : MethodName)) ∈ zx_T := zx_mem tables_1_3 zx_l3 4 (by decide +kernel) (by decide +kernel)
theorem wd_486 : (Cond.instanceMethod ({ cls := "AddressClaimBus$Incoming", name := "isWhole", desc := "()Z" } : MethodName)) ∈ zx_T := zx_mem tables_1_3 zx_l3 6 (by decide +kernel) (by decide +kernel)
theorem wd_487 : (Cond.code ({ cls := "AddressClaimBus$Incoming", name := "isWhole", desc := "()Z" } : MethodName) prog_4_method_9_code (1 : Nat) (Option.some FieldType.boolean)) ∈ zx_T := zx_mem tables_1_3 zx_l3 7 (by decide +kernel) (by decide +kernel)
theorem wd_488 : (Cond.methodLink "AddressClaimBus$Function" (201 : Nat) ({ cls := "AddressClaimBus$Incoming", name := "takeDirected", desc := "(J)Z" } : MethodName)) ∈ zx_T := zx_mem tables_1_3 zx_l3 8 (by decide +kernel) (by decide +kernel)
theorem wd_489 : (Cond.instanceMethod ({ cls := "AddressClaimBus$Incoming", name := "takeDirected", desc := "(J)Z" } : MethodName)) ∈ zx_T := zx_mem tables_1_3 zx_l3 9 (by decide +kernel) (by decide +kernel)
theorem wd_490 : (Cond.selects "AddressClaimBus$Incoming" ({ cls := "AddressClaimBus$Incoming", name := "takeDirected", desc := "(J)Z" } : MethodName) ({ cls := "AddressClaimBus$Incoming", name := "takeDirected", desc := "(J)Z" } : MethodName)) ∈ zx_T := zx_mem tables_1_3 zx_l3 10 (by decide +kernel) (by decide +kernel)
theorem wd_491 : (Cond.code ({ cls := "AddressClaimBus$Incoming", name := "takeDirected", desc := "(J)Z" } : MethodName) prog_4_method_7_code (4 : Nat) (Option.some FieldType.boolean)) ∈ zx_T := zx_mem tables_1_3 zx_l3 11 (by decide +kernel) (by decide +kernel)
theorem wd_492 : (Cond.methodLink "AddressClaimBus$Incoming" (71 : Nat) ({ cls := "AddressClaimBus$Incoming", name := "askAgain", desc := "(I)V" } : MethodName)) ∈ zx_T := zx_mem tables_1_3 zx_l3 12 (by decide +kernel) (by decide +kernel)
theorem wd_494 : (Cond.instanceMethod ({ cls := "AddressClaimBus$Incoming", name := "askAgain", desc := "(I)V" } : MethodName)) ∈ zx_T := zx_mem tables_1_3 zx_l3 14 (by decide +kernel) (by decide +kernel)
theorem wd_495 : (Cond.code ({ cls := "AddressClaimBus$Incoming", name := "askAgain", desc := "(I)V" } : MethodName) prog_4_method_10_code (2 : Nat) (Option.none : Option FieldType)) ∈ zx_T := zx_mem tables_1_3 zx_l3 15 (by decide +kernel) (by decide +kernel)
theorem wd_498 : (Cond.methodLink "AddressClaimBus$Function" (204 : Nat) ({ cls := "AddressClaimBus$Message", name := "copy", desc := "(LAddressClaimBus$Message;)V" } : MethodName)) ∈ zx_T := zx_mem tables_1_3 zx_l3 18 (by decide +kernel) (by decide +kernel)
theorem wd_499 : (Cond.instanceMethod ({ cls := "AddressClaimBus$Message", name := "copy", desc := "(LAddressClaimBus$Message;)V" } : MethodName)) ∈ zx_T := zx_mem tables_1_3 zx_l3 19 (by decide +kernel) (by decide +kernel)
theorem wd_500 : (Cond.selects "AddressClaimBus$Message" ({ cls := "AddressClaimBus$Message", name := "copy", desc := "(LAddressClaimBus$Message;)V" } : MethodName) ({ cls := "AddressClaimBus$Message", name := "copy", desc := "(LAddressClaimBus$Message;)V" } : MethodName)) ∈ zx_T := zx_mem tables_1_3 zx_l3 20 (by decide +kernel) (by decide +kernel)
theorem wd_501 : (Cond.code ({ cls := "AddressClaimBus$Message", name := "copy", desc := "(LAddressClaimBus$Message;)V" } : MethodName) prog_5_method_3_code (3 : Nat) (Option.none : Option FieldType)) ∈ zx_T := zx_mem tables_1_3 zx_l3 21 (by decide +kernel) (by decide +kernel)
theorem wd_502 : (Cond.methodLink "AddressClaimBusLaw" (72 : Nat) ({ cls := "AddressClaimBus", name := "lose", desc := "()Z" } : MethodName)) ∈ zx_T := zx_mem tables_1_3 zx_l3 22 (by decide +kernel) (by decide +kernel)
theorem wd_503 : (Cond.instanceMethod ({ cls := "AddressClaimBus", name := "lose", desc := "()Z" } : MethodName)) ∈ zx_T := zx_mem tables_1_3 zx_l3 23 (by decide +kernel) (by decide +kernel)
theorem wd_504 : (Cond.selects "AddressClaimBus" ({ cls := "AddressClaimBus", name := "lose", desc := "()Z" } : MethodName) ({ cls := "AddressClaimBus", name := "lose", desc := "()Z" } : MethodName)) ∈ zx_T := zx_mem tables_1_3 zx_l3 24 (by decide +kernel) (by decide +kernel)
theorem wd_505 : (Cond.code ({ cls := "AddressClaimBus", name := "lose", desc := "()Z" } : MethodName) prog_1_method_14_code (2 : Nat) (Option.some FieldType.boolean)) ∈ zx_T := zx_mem tables_1_3 zx_l3 25 (by decide +kernel) (by decide +kernel)
theorem wd_506 : (Cond.methodLink "AddressClaimBusLaw" (77 : Nat) ({ cls := "AddressClaimBus", name := "overflowed", desc := "()I" } : MethodName)) ∈ zx_T := zx_mem tables_1_3 zx_l3 26 (by decide +kernel) (by decide +kernel)
theorem wd_507 : (Cond.instanceMethod ({ cls := "AddressClaimBus", name := "overflowed", desc := "()I" } : MethodName)) ∈ zx_T := zx_mem tables_1_3 zx_l3 27 (by decide +kernel) (by decide +kernel)
theorem wd_508 : (Cond.selects "AddressClaimBus" ({ cls := "AddressClaimBus", name := "overflowed", desc := "()I" } : MethodName) ({ cls := "AddressClaimBus", name := "overflowed", desc := "()I" } : MethodName)) ∈ zx_T := zx_mem tables_1_3 zx_l3 28 (by decide +kernel) (by decide +kernel)
theorem wd_509 : (Cond.code ({ cls := "AddressClaimBus", name := "overflowed", desc := "()I" } : MethodName) prog_1_method_15_code (1 : Nat) (Option.some FieldType.int)) ∈ zx_T := zx_mem tables_1_3 zx_l3 29 (by decide +kernel) (by decide +kernel)
theorem wd_510 : (Cond.methodLink "AddressClaimBusLaw" (81 : Nat) ({ cls := "AddressClaimBus", name := "tick", desc := "(I)I" } : MethodName)) ∈ zx_T := zx_mem tables_1_3 zx_l3 30 (by decide +kernel) (by decide +kernel)
theorem wd_511 : (Cond.instanceMethod ({ cls := "AddressClaimBus", name := "tick", desc := "(I)I" } : MethodName)) ∈ zx_T := zx_mem tables_1_3 zx_l3 31 (by decide +kernel) (by decide +kernel)
theorem wd_512 : (Cond.selects "AddressClaimBus" ({ cls := "AddressClaimBus", name := "tick", desc := "(I)I" } : MethodName) ({ cls := "AddressClaimBus", name := "tick", desc := "(I)I" } : MethodName)) ∈ zx_T := zx_mem tables_1_3 zx_l3 32 (by decide +kernel) (by decide +kernel)
theorem wd_513 : (Cond.code ({ cls := "AddressClaimBus", name := "tick", desc := "(I)I" } : MethodName) prog_1_method_16_code (8 : Nat) (Option.some FieldType.int)) ∈ zx_T := zx_mem tables_1_3 zx_l3 33 (by decide +kernel) (by decide +kernel)
theorem wd_514 : (Cond.methodLink "AddressClaimBus" (119 : Nat) ({ cls := "AddressClaimBus", name := "firstDue", desc := "()I" } : MethodName)) ∈ zx_T := zx_mem tables_1_3 zx_l3 34 (by decide +kernel) (by decide +kernel)
theorem wd_516 : (Cond.instanceMethod ({ cls := "AddressClaimBus", name := "firstDue", desc := "()I" } : MethodName)) ∈ zx_T := zx_mem tables_1_3 zx_l3 36 (by decide +kernel) (by decide +kernel)
theorem wd_517 : (Cond.code ({ cls := "AddressClaimBus", name := "firstDue", desc := "()I" } : MethodName) prog_1_method_26_code (3 : Nat) (Option.some FieldType.int)) ∈ zx_T := zx_mem tables_1_3 zx_l3 37 (by decide +kernel) (by decide +kernel)
theorem wd_518 : (Cond.methodLink "AddressClaimBus" (122 : Nat) ({ cls := "AddressClaimBus$Function", name := "nextDue", desc := "()J" } : MethodName)) ∈ zx_T := zx_mem tables_1_3 zx_l3 38 (by decide +kernel) (by decide +kernel)
theorem wd_519 : (Cond.instanceMethod ({ cls := "AddressClaimBus$Function", name := "nextDue", desc := "()J" } : MethodName)) ∈ zx_T := zx_mem tables_1_3 zx_l3 39 (by decide +kernel) (by decide +kernel)
theorem wd_520 : (Cond.selects "AddressClaimBus$Function" ({ cls := "AddressClaimBus$Function", name := "nextDue", desc := "()J" } : MethodName) ({ cls := "AddressClaimBus$Function", name := "nextDue", desc := "()J" } : MethodName)) ∈ zx_T := zx_mem tables_1_3 zx_l3 40 (by decide +kernel) (by decide +kernel)
theorem wd_521 : (Cond.code ({ cls := "AddressClaimBus$Function", name := "nextDue", desc := "()J" } : MethodName) prog_3_method_7_code (4 : Nat) (Option.some FieldType.long)) ∈ zx_T := zx_mem tables_1_3 zx_l3 41 (by decide +kernel) (by decide +kernel)
theorem wd_522 : (Cond.methodLink "AddressClaimBus$Function" (110 : Nat) ({ cls := "java/lang/Math", name := "min", desc := "(JJ)J" } : MethodName)) ∈ zx_T := zx_mem tables_1_3 zx_l3 42 (by decide +kernel) (by decide +kernel)
theorem wd_523 : (Cond.static ({ cls := "java/lang/Math", name := "min", desc := "(JJ)J" } : MethodName)) ∈ zx_T := zx_mem tables_1_3 zx_l3 43 (by decide +kernel) (by decide +kernel)
theorem wd_524 : (Cond.code ({ cls := "java/lang/Math", name := "min", desc := "(JJ)J" } : MethodName) prog_10_method_70_code (4 : Nat) (Option.some FieldType.long)) ∈ zx_T := zx_mem tables_1_3 zx_l3 44 (by decide +kernel) (by decide +kernel)
theorem wd_525 : (Cond.methodLink "AddressClaimBus" (126 : Nat) ({ cls := "AddressClaimBus$Function", name := "goOff", desc := "()V" } : MethodName)) ∈ zx_T := zx_mem tables_1_3 zx_l3 45 (by decide +kernel) (by decide +kernel)
theorem wd_526 : (Cond.instanceMethod ({ cls := "AddressClaimBus$Function", name := "goOff", desc := "()V" } : MethodName)) ∈ zx_T := zx_mem tables_1_3 zx_l3 46 (by decide +kernel) (by decide +kernel)
theorem wd_527 : (Cond.selects "AddressClaimBus$Function" ({ cls := "AddressClaimBus$Function", name := "goOff", desc := "()V" } : MethodName) ({ cls := "AddressClaimBus$Function", name := "goOff", desc := "()V" } : MethodName)) ∈ zx_T := zx_mem tables_1_3 zx_l3 47 (by decide +kernel) (by decide +kernel)
theorem wd_528 : (Cond.code ({ cls := "AddressClaimBus$Function", name := "goOff", desc := "()V" } : MethodName) prog_3_method_8_code (3 : Nat) (Option.none : Option FieldType)) ∈ zx_T := zx_mem tables_1_3 zx_l3 48 (by decide +kernel) (by decide +kernel)
theorem wd_529 : (Cond.methodLink "AddressClaimBus$Function" (120 : Nat) ({ cls := "AddressClaimBus$Outgoing", name := "goOff", desc := "()V" } : MethodName)) ∈ zx_T := zx_mem tables_1_3 zx_l3 49 (by decide +kernel) (by decide +kernel)
theorem wd_530 : (Cond.instanceMethod ({ cls := "AddressClaimBus$Outgoing", name := "goOff", desc := "()V" } : MethodName)) ∈ zx_T := zx_mem tables_1_3 zx_l3 50 (by decide +kernel) (by decide +kernel)
theorem wd_531 : (Cond.selects "AddressClaimBus$Outgoing" ({ cls := "AddressClaimBus$Outgoing", name := "goOff", desc := "()V" } : MethodName) ({ cls := "AddressClaimBus$Outgoing", name := "goOff", desc := "()V" } : MethodName)) ∈ zx_T := zx_mem tables_1_3 zx_l3 51 (by decide +kernel) (by decide +kernel)
theorem wd_532 : (Cond.code ({ cls := "AddressClaimBus$Outgoing", name := "goOff", desc := "()V" } : MethodName) prog_6_method_6_code (1 : Nat) (Option.none : Option FieldType)) ∈ zx_T := zx_mem tables_1_3 zx_l3 52 (by decide +kernel) (by decide +kernel)
theorem wd_533 : (Cond.methodLink "AddressClaimBus$Outgoing" (79 : Nat) ({ cls := "AddressClaimBus$Outgoing", name := "sendNextToAll", desc := "()V" } : MethodName)) ∈ zx_T := zx_mem tables_1_3 zx_l3 53 (by decide +kernel) (by decide +kernel)
theorem wd_535 : (Cond.instanceMethod ({ cls := "AddressClaimBus$Outgoing", name := "sendNextToAll", desc := "()V" } : MethodName)) ∈ zx_T := zx_mem tables_1_3 zx_l3 55 (by decide +kernel) (by decide +kernel)
theorem wd_536 : (Cond.code ({ cls := "AddressClaimBus$Outgoing", name := "sendNextToAll", desc := "()V" } : MethodName) prog_6_method_7_code (1 : Nat) (Option.none : Option FieldType)) ∈ zx_T := zx_mem tables_1_3 zx_l3 56 (by decide +kernel) (by decide +kernel)
theorem wd_537 : (Cond.methodLink "AddressClaimBus$Outgoing" (86 : Nat) ({ cls := "AddressClaimBus$Outgoing", name := "end", desc := "(I)V" } : MethodName)) ∈ zx_T := zx_mem tables_1_3 zx_l3 57 (by decide +kernel) (by decide +kernel)
theorem wd_538 : (Cond.constantLong "AddressClaimBus$Outgoing" (89 : Nat) (50 : Int64)) ∈ zx_T := zx_mem tables_1_3 zx_l3 58 (by decide +kernel) (by decide +kernel)
theorem wd_540 : (Cond.methodLink "AddressClaimBus$Function" (123 : Nat) ({ cls := "AddressClaimBus$Incoming", name := "goOff", desc := "()V" } : MethodName)) ∈ zx_T := zx_mem tables_1_3 zx_l3 60 (by decide +kernel) (by decide +kernel)
theorem wd_541 : (Cond.instanceMethod ({ cls := "AddressClaimBus$Incoming", name := "goOff", desc := "()V" } : MethodName)) ∈ zx_T := zx_mem tables_1_3 zx_l3 61 (by decide +kernel) (by decide +kernel)
theorem wd_542 : (Cond.selects "AddressClaimBus$Incoming" ({ cls := "AddressClaimBus$Incoming", name := "goOff", desc := "()V" } : MethodName) ({ cls := "AddressClaimBus$Incoming", name := "goOff", desc := "()V" } : MethodName)) ∈ zx_T := zx_mem tables_1_3 zx_l3 62 (by decide +kernel) (by decide +kernel)
theorem wd_543 : (Cond.code ({ cls := "AddressClaimBus$Incoming", name := "goOff", desc := "()V" } : MethodName) prog_4_method_5_code (1 : Nat) (Option.none : Option FieldType)) ∈ zx_T := zx_mem tables_1_3 zx_l3 63 (by decide +kernel) (by decide +kernel)
theorem wd_544 : (Cond.methodLink "AddressClaimBusLaw" (85 : Nat) ({ cls := "AddressClaimBus", name := "outgoing", desc := "(I)I" } : MethodName)) ∈ zx_T := zx_mem tables_1_3 zx_l3 64 (by decide +kernel) (by decide +kernel)
theorem wd_545 : (Cond.instanceMethod ({ cls := "AddressClaimBus", name := "outgoing", desc := "(I)I" } : MethodName)) ∈ zx_T := zx_mem tables_1_3 zx_l3 65 (by decide +kernel) (by decide +kernel)
theorem wd_546 : (Cond.selects "AddressClaimBus" ({ cls := "AddressClaimBus", name := "outgoing", desc := "(I)I" } : MethodName) ({ cls := "AddressClaimBus", name := "outgoing", desc := "(I)I" } : MethodName)) ∈ zx_T := zx_mem tables_1_3 zx_l3 66 (by decide +kernel) (by decide +kernel)
theorem wd_547 : (Cond.code ({ cls := "AddressClaimBus", name := "outgoing", desc := "(I)I" } : MethodName) prog_1_method_17_code (3 : Nat) (Option.some FieldType.int)) ∈ zx_T := zx_mem tables_1_3 zx_l3 67 (by decide +kernel) (by decide +kernel)
theorem wd_548 : (Cond.methodLink "AddressClaimBusLaw" (89 : Nat) ({ cls := "AddressClaimBus", name := "incoming", desc := "(I)I" } : MethodName)) ∈ zx_T := zx_mem tables_1_3 zx_l3 68 (by decide +kernel) (by decide +kernel)
theorem wd_549 : (Cond.instanceMethod ({ cls := "AddressClaimBus", name := "incoming", desc := "(I)I" } : MethodName)) ∈ zx_T := zx_mem tables_1_3 zx_l3 69 (by decide +kernel) (by decide +kernel)
theorem wd_550 : (Cond.selects "AddressClaimBus" ({ cls := "AddressClaimBus", name := "incoming", desc := "(I)I" } : MethodName) ({ cls := "AddressClaimBus", name := "incoming", desc := "(I)I" } : MethodName)) ∈ zx_T := zx_mem tables_1_3 zx_l3 70 (by decide +kernel) (by decide +kernel)
theorem wd_551 : (Cond.code ({ cls := "AddressClaimBus", name := "incoming", desc := "(I)I" } : MethodName) prog_1_method_18_code (2 : Nat) (Option.some FieldType.int)) ∈ zx_T := zx_mem tables_1_3 zx_l3 71 (by decide +kernel) (by decide +kernel)
theorem wd_552 : (Cond.methodLink "AddressClaimBus" (135 : Nat) ({ cls := "AddressClaimBus$Function", name := "countIncoming", desc := "()I" } : MethodName)) ∈ zx_T := zx_mem tables_1_3 zx_l3 72 (by decide +kernel) (by decide +kernel)
theorem wd_553 : (Cond.methodLink "AddressClaimBusLaw" (93 : Nat) ({ cls := "AddressClaimBus", name := "delivered", desc := "(I)I" } : MethodName)) ∈ zx_T := zx_mem tables_1_3 zx_l3 73 (by decide +kernel) (by decide +kernel)
theorem wd_554 : (Cond.instanceMethod ({ cls := "AddressClaimBus", name := "delivered", desc := "(I)I" } : MethodName)) ∈ zx_T := zx_mem tables_1_3 zx_l3 74 (by decide +kernel) (by decide +kernel)
theorem wd_555 : (Cond.selects "AddressClaimBus" ({ cls := "AddressClaimBus", name := "delivered", desc := "(I)I" } : MethodName) ({ cls := "AddressClaimBus", name := "delivered", desc := "(I)I" } : MethodName)) ∈ zx_T := zx_mem tables_1_3 zx_l3 75 (by decide +kernel) (by decide +kernel)
theorem wd_556 : (Cond.code ({ cls := "AddressClaimBus", name := "delivered", desc := "(I)I" } : MethodName) prog_1_method_19_code (2 : Nat) (Option.some FieldType.int)) ∈ zx_T := zx_mem tables_1_3 zx_l3 76 (by decide +kernel) (by decide +kernel)
theorem wd_557 : (Cond.methodLink "AddressClaimBusLaw" (97 : Nat) ({ cls := "AddressClaimBus", name := "message", desc := "(II)I" } : MethodName)) ∈ zx_T := zx_mem tables_1_3 zx_l3 77 (by decide +kernel) (by decide +kernel)
theorem wd_558 : (Cond.instanceMethod ({ cls := "AddressClaimBus", name := "message", desc := "(II)I" } : MethodName)) ∈ zx_T := zx_mem tables_1_3 zx_l3 78 (by decide +kernel) (by decide +kernel)
theorem wd_559 : (Cond.selects "AddressClaimBus" ({ cls := "AddressClaimBus", name := "message", desc := "(II)I" } : MethodName) ({ cls := "AddressClaimBus", name := "message", desc := "(II)I" } : MethodName)) ∈ zx_T := zx_mem tables_1_3 zx_l3 79 (by decide +kernel) (by decide +kernel)
theorem wd_560 : (Cond.code ({ cls := "AddressClaimBus", name := "message", desc := "(II)I" } : MethodName) prog_1_method_20_code (4 : Nat) (Option.some FieldType.int)) ∈ zx_T := zx_mem tables_1_3 zx_l3 80 (by decide +kernel) (by decide +kernel)
theorem wd_561 : (Cond.methodLink "AddressClaimBus" (141 : Nat) ({ cls := "AddressClaimBus", name := "hasMessage", desc := "(I)Z" } : MethodName)) ∈ zx_T := zx_mem tables_1_3 zx_l3 81 (by decide +kernel) (by decide +kernel)
theorem wd_563 : (Cond.instanceMethod ({ cls := "AddressClaimBus", name := "hasMessage", desc := "(I)Z" } : MethodName)) ∈ zx_T := zx_mem tables_1_3 zx_l3 83 (by decide +kernel) (by decide +kernel)
theorem wd_564 : (Cond.code ({ cls := "AddressClaimBus", name := "hasMessage", desc := "(I)Z" } : MethodName) prog_1_method_24_code (2 : Nat) (Option.some FieldType.boolean)) ∈ zx_T := zx_mem tables_1_3 zx_l3 84 (by decide +kernel) (by decide +kernel)
theorem wd_565 : (Cond.methodLink "AddressClaimBusLaw" (101 : Nat) ({ cls := "AddressClaimBus", name := "byteOf", desc := "(II)I" } : MethodName)) ∈ zx_T := zx_mem tables_1_3 zx_l3 85 (by decide +kernel) (by decide +kernel)
theorem wd_566 : (Cond.instanceMethod ({ cls := "AddressClaimBus", name := "byteOf", desc := "(II)I" } : MethodName)) ∈ zx_T := zx_mem tables_1_3 zx_l3 86 (by decide +kernel) (by decide +kernel)
theorem wd_567 : (Cond.selects "AddressClaimBus" ({ cls := "AddressClaimBus", name := "byteOf", desc := "(II)I" } : MethodName) ({ cls := "AddressClaimBus", name := "byteOf", desc := "(II)I" } : MethodName)) ∈ zx_T := zx_mem tables_1_3 zx_l3 87 (by decide +kernel) (by decide +kernel)
theorem wd_568 : (Cond.code ({ cls := "AddressClaimBus", name := "byteOf", desc := "(II)I" } : MethodName) prog_1_method_21_code (3 : Nat) (Option.some FieldType.int)) ∈ zx_T := zx_mem tables_1_3 zx_l3 88 (by decide +kernel) (by decide +kernel)
theorem wd_569 : (Cond.methodLink "AddressClaimBus" (162 : Nat) ({ cls := "AddressClaimBus$Message", name := "byteAt", desc := "(I)I" } : MethodName)) ∈ zx_T := zx_mem tables_1_3 zx_l3 89 (by decide +kernel) (by decide +kernel)
theorem wd_570 : (Cond.instanceMethod ({ cls := "AddressClaimBus$Message", name := "byteAt", desc := "(I)I" } : MethodName)) ∈ zx_T := zx_mem tables_1_3 zx_l3 90 (by decide +kernel) (by decide +kernel)
theorem wd_571 : (Cond.selects "AddressClaimBus$Message" ({ cls := "AddressClaimBus$Message", name := "byteAt", desc := "(I)I" } : MethodName) ({ cls := "AddressClaimBus$Message", name := "byteAt", desc := "(I)I" } : MethodName)) ∈ zx_T := zx_mem tables_1_3 zx_l3 91 (by decide +kernel) (by decide +kernel)
theorem wd_572 : (Cond.code ({ cls := "AddressClaimBus$Message", name := "byteAt", desc := "(I)I" } : MethodName) prog_5_method_4_code (2 : Nat) (Option.some FieldType.int)) ∈ zx_T := zx_mem tables_1_3 zx_l3 92 (by decide +kernel) (by decide +kernel)
theorem wd_574 : (Cond.classLink "AddressClaimBusLaw" (10 : Nat) "AddressClaimBusModel") ∈ zx_T := zx_mem tables_1_3 zx_l3 94 (by decide +kernel) (by decide +kernel)
theorem wd_575 : (Cond.instantiable "AddressClaimBusModel" (34 : Nat)) ∈ zx_T := zx_mem tables_1_3 zx_l3 95 (by decide +kernel) (by decide +kernel)
theorem wd_576 : (Cond.methodLink "AddressClaimBusLaw" (12 : Nat) ({ cls := "AddressClaimBusModel", name := "<init>", desc := "()V" } : MethodName)) ∈ zx_T := zx_mem tables_1_3 zx_l3 96 (by decide +kernel) (by decide +kernel)
theorem wd_577 : (Cond.instanceMethod ({ cls := "AddressClaimBusModel", name := "<init>", desc := "()V" } : MethodName)) ∈ zx_T := zx_mem tables_1_3 zx_l3 97 (by decide +kernel) (by decide +kernel)
theorem wd_578 : (Cond.code ({ cls := "AddressClaimBusModel", name := "<init>", desc := "()V" } : MethodName) prog_9_method_1_code (1 : Nat) (Option.none : Option FieldType)) ∈ zx_T := zx_mem tables_1_3 zx_l3 98 (by decide +kernel) (by decide +kernel)
theorem wd_579 : (Cond.methodLink "AddressClaimBusModel" (1 : Nat) ({ cls := "java/lang/Object", name := "<init>", desc := "()V" } : MethodName)) ∈ zx_T := zx_mem tables_1_3 zx_l3 99 (by decide +kernel) (by decide +kernel)
theorem wd_580 : (Cond.fieldLink "AddressClaimBusModel" (153 : Nat) "AddressClaimBusModel" "now" "I") ∈ zx_T := zx_mem tables_1_3 zx_l3 100 (by decide +kernel) (by decide +kernel)
theorem wd_581 : (Cond.fieldLink "AddressClaimBusModel" (7 : Nat) "AddressClaimBusModel" "state" "[I") ∈ zx_T := zx_mem tables_1_3 zx_l3 101 (by decide +kernel) (by decide +kernel)
theorem wd_582 : (Cond.fieldLink "AddressClaimBusModel" (13 : Nat) "AddressClaimBusModel" "held" "[I") ∈ zx_T := zx_mem tables_1_3 zx_l3 102 (by decide +kernel) (by decide +kernel)
theorem wd_583 : (Cond.fieldLink "AddressClaimBusModel" (16 : Nat) "AddressClaimBusModel" "name" "[J") ∈ zx_T := zx_mem tables_1_3 zx_l3 103 (by decide +kernel) (by decide +kernel)
theorem wd_584 : (Cond.fieldLink "AddressClaimBusModel" (20 : Nat) "AddressClaimBusModel" "occupied" "[Z") ∈ zx_T := zx_mem tables_1_3 zx_l3 104 (by decide +kernel) (by decide +kernel)
theorem wd_585 : (Cond.fieldLink "AddressClaimBusModel" (24 : Nat) "AddressClaimBusModel" "claimDue" "[I") ∈ zx_T := zx_mem tables_1_3 zx_l3 105 (by decide +kernel) (by decide +kernel)
theorem wd_586 : (Cond.fieldLink "AddressClaimBusModel" (27 : Nat) "AddressClaimBusModel" "notes" "[I") ∈ zx_T := zx_mem tables_1_3 zx_l3 106 (by decide +kernel) (by decide +kernel)
theorem wd_587 : (Cond.fieldLink "AddressClaimBusModel" (105 : Nat) "AddressClaimBusModel" "frames" "I") ∈ zx_T := zx_mem tables_1_3 zx_l3 107 (by decide +kernel) (by decide +kernel)
theorem wd_588 : (Cond.fieldLink "AddressClaimBusModel" (30 : Nat) "AddressClaimBusModel" "frameId" "[I") ∈ zx_T := zx_mem tables_1_3 zx_l3 108 (by decide +kernel) (by decide +kernel)
theorem wd_589 : (Cond.fieldLink "AddressClaimBusModel" (33 : Nat) "AddressClaimBusModel" "frameData" "[J") ∈ zx_T := zx_mem tables_1_3 zx_l3 109 (by decide +kernel) (by decide +kernel)
theorem wd_590 : (Cond.fieldLink "AddressClaimBusModel" (36 : Nat) "AddressClaimBusModel" "frameSender" "[I") ∈ zx_T := zx_mem tables_1_3 zx_l3 110 (by decide +kernel) (by decide +kernel)
theorem wd_591 : (Cond.fieldLink "AddressClaimBusModel" (109 : Nat) "AddressClaimBusModel" "lost" "I") ∈ zx_T := zx_mem tables_1_3 zx_l3 111 (by decide +kernel) (by decide +kernel)
theorem wd_592 : (Cond.fieldLink "AddressClaimBusModel" (39 : Nat) "AddressClaimBusModel" "out" "[I") ∈ zx_T := zx_mem tables_1_3 zx_l3 112 (by decide +kernel) (by decide +kernel)
theorem wd_593 : (Cond.fieldLink "AddressClaimBusModel" (42 : Nat) "AddressClaimBusModel" "result" "[I") ∈ zx_T := zx_mem tables_1_3 zx_l3 113 (by decide +kernel) (by decide +kernel)
theorem wd_594 : (Cond.fieldLink "AddressClaimBusModel" (45 : Nat) "AddressClaimBusModel" "outOther" "[I") ∈ zx_T := zx_mem tables_1_3 zx_l3 114 (by decide +kernel) (by decide +kernel)
theorem wd_595 : (Cond.fieldLink "AddressClaimBusModel" (48 : Nat) "AddressClaimBusModel" "outGroup" "[I") ∈ zx_T := zx_mem tables_1_3 zx_l3 115 (by decide +kernel) (by decide +kernel)
theorem wd_596 : (Cond.fieldLink "AddressClaimBusModel" (51 : Nat) "AddressClaimBusModel" "outSize" "[I") ∈ zx_T := zx_mem tables_1_3 zx_l3 116 (by decide +kernel) (by decide +kernel)
theorem wd_597 : (Cond.fieldLink "AddressClaimBusModel" (54 : Nat) "AddressClaimBusModel" "outSeed" "[J") ∈ zx_T := zx_mem tables_1_3 zx_l3 117 (by decide +kernel) (by decide +kernel)
theorem wd_598 : (Cond.fieldLink "AddressClaimBusModel" (57 : Nat) "AddressClaimBusModel" "outNext" "[I") ∈ zx_T := zx_mem tables_1_3 zx_l3 118 (by decide +kernel) (by decide +kernel)
theorem wd_599 : (Cond.fieldLink "AddressClaimBusModel" (60 : Nat) "AddressClaimBusModel" "outDue" "[I") ∈ zx_T := zx_mem tables_1_3 zx_l3 119 (by decide +kernel) (by decide +kernel)
theorem wd_600 : (Cond.fieldLink "AddressClaimBusModel" (63 : Nat) "AddressClaimBusModel" "ins" "[I") ∈ zx_T := zx_mem tables_1_3 zx_l3 120 (by decide +kernel) (by decide +kernel)
theorem wd_601 : (Cond.fieldLink "AddressClaimBusModel" (66 : Nat) "AddressClaimBusModel" "inAll" "[Z") ∈ zx_T := zx_mem tables_1_3 zx_l3 121 (by decide +kernel) (by decide +kernel)
theorem wd_602 : (Cond.fieldLink "AddressClaimBusModel" (69 : Nat) "AddressClaimBusModel" "inFrom" "[I") ∈ zx_T := zx_mem tables_1_3 zx_l3 122 (by decide +kernel) (by decide +kernel)
theorem wd_603 : (Cond.fieldLink "AddressClaimBusModel" (72 : Nat) "AddressClaimBusModel" "inGroup" "[I") ∈ zx_T := zx_mem tables_1_3 zx_l3 123 (by decide +kernel) (by decide +kernel)
theorem wd_604 : (Cond.fieldLink "AddressClaimBusModel" (75 : Nat) "AddressClaimBusModel" "inSize" "[I") ∈ zx_T := zx_mem tables_1_3 zx_l3 124 (by decide +kernel) (by decide +kernel)
theorem wd_605 : (Cond.fieldLink "AddressClaimBusModel" (78 : Nat) "AddressClaimBusModel" "inExpected" "[I") ∈ zx_T := zx_mem tables_1_3 zx_l3 125 (by decide +kernel) (by decide +kernel)
theorem wd_606 : (Cond.fieldLink "AddressClaimBusModel" (81 : Nat) "AddressClaimBusModel" "inLast" "[I") ∈ zx_T := zx_mem tables_1_3 zx_l3 126 (by decide +kernel) (by decide +kernel)
theorem wd_607 : (Cond.fieldLink "AddressClaimBusModel" (84 : Nat) "AddressClaimBusModel" "inAsked" "[I") ∈ zx_T := zx_mem tables_1_3 zx_l3 127 (by decide +kernel) (by decide +kernel)
theorem wd_608 : (Cond.fieldLink "AddressClaimBusModel" (87 : Nat) "AddressClaimBusModel" "inHeld" "[Z") ∈ zx_T := zx_mem tables_1_3 zx_l3 128 (by decide +kernel) (by decide +kernel)
theorem wd_609 : (Cond.fieldLink "AddressClaimBusModel" (90 : Nat) "AddressClaimBusModel" "inDue" "[I") ∈ zx_T := zx_mem tables_1_3 zx_l3 129 (by decide +kernel) (by decide +kernel)
theorem wd_610 : (Cond.fieldLink "AddressClaimBusModel" (93 : Nat) "AddressClaimBusModel" "inBytes" "[I") ∈ zx_T := zx_mem tables_1_3 zx_l3 130 (by decide +kernel) (by decide +kernel)
theorem wd_611 : (Cond.fieldLink "AddressClaimBusModel" (96 : Nat) "AddressClaimBusModel" "arrived" "[I") ∈ zx_T := zx_mem tables_1_3 zx_l3 131 (by decide +kernel) (by decide +kernel)
theorem wd_612 : (Cond.fieldLink "AddressClaimBusModel" (99 : Nat) "AddressClaimBusModel" "last" "[I") ∈ zx_T := zx_mem tables_1_3 zx_l3 132 (by decide +kernel) (by decide +kernel)
theorem wd_613 : (Cond.fieldLink "AddressClaimBusModel" (102 : Nat) "AddressClaimBusModel" "lastBytes" "[I") ∈ zx_T := zx_mem tables_1_3 zx_l3 133 (by decide +kernel) (by decide +kernel)
theorem wd_614 : (Cond.lays "AddressClaimBusModel" "AddressClaimBusModel" "now" "I") ∈ zx_T := zx_mem tables_1_3 zx_l3 134 (by decide +kernel) (by decide +kernel)
theorem wd_616 : (Cond.lays "AddressClaimBusModel" "AddressClaimBusModel" "state" "[I") ∈ zx_T := zx_mem tables_1_3 zx_l3 136 (by decide +kernel) (by decide +kernel)
theorem wd_618 : (Cond.lays "AddressClaimBusModel" "AddressClaimBusModel" "held" "[I") ∈ zx_T := zx_mem tables_1_3 zx_l3 138 (by decide +kernel) (by decide +kernel)
theorem wd_620 : (Cond.lays "AddressClaimBusModel" "AddressClaimBusModel" "name" "[J") ∈ zx_T := zx_mem tables_1_3 zx_l3 140 (by decide +kernel) (by decide +kernel)
theorem wd_622 : (Cond.lays "AddressClaimBusModel" "AddressClaimBusModel" "occupied" "[Z") ∈ zx_T := zx_mem tables_1_3 zx_l3 142 (by decide +kernel) (by decide +kernel)
theorem wd_624 : (Cond.lays "AddressClaimBusModel" "AddressClaimBusModel" "claimDue" "[I") ∈ zx_T := zx_mem tables_1_3 zx_l3 144 (by decide +kernel) (by decide +kernel)
theorem wd_626 : (Cond.lays "AddressClaimBusModel" "AddressClaimBusModel" "notes" "[I") ∈ zx_T := zx_mem tables_1_3 zx_l3 146 (by decide +kernel) (by decide +kernel)
theorem wd_628 : (Cond.lays "AddressClaimBusModel" "AddressClaimBusModel" "frames" "I") ∈ zx_T := zx_mem tables_1_3 zx_l3 148 (by decide +kernel) (by decide +kernel)
theorem wd_630 : (Cond.lays "AddressClaimBusModel" "AddressClaimBusModel" "frameId" "[I") ∈ zx_T := zx_mem tables_1_3 zx_l3 150 (by decide +kernel) (by decide +kernel)
theorem wd_632 : (Cond.lays "AddressClaimBusModel" "AddressClaimBusModel" "frameData" "[J") ∈ zx_T := zx_mem tables_1_3 zx_l3 152 (by decide +kernel) (by decide +kernel)
theorem wd_634 : (Cond.lays "AddressClaimBusModel" "AddressClaimBusModel" "frameSender" "[I") ∈ zx_T := zx_mem tables_1_3 zx_l3 154 (by decide +kernel) (by decide +kernel)
theorem wd_636 : (Cond.lays "AddressClaimBusModel" "AddressClaimBusModel" "lost" "I") ∈ zx_T := zx_mem tables_1_3 zx_l3 156 (by decide +kernel) (by decide +kernel)
theorem wd_638 : (Cond.lays "AddressClaimBusModel" "AddressClaimBusModel" "out" "[I") ∈ zx_T := zx_mem tables_1_3 zx_l3 158 (by decide +kernel) (by decide +kernel)
theorem wd_640 : (Cond.lays "AddressClaimBusModel" "AddressClaimBusModel" "result" "[I") ∈ zx_T := zx_mem tables_1_3 zx_l3 160 (by decide +kernel) (by decide +kernel)
theorem wd_642 : (Cond.lays "AddressClaimBusModel" "AddressClaimBusModel" "outOther" "[I") ∈ zx_T := zx_mem tables_1_3 zx_l3 162 (by decide +kernel) (by decide +kernel)
theorem wd_644 : (Cond.lays "AddressClaimBusModel" "AddressClaimBusModel" "outGroup" "[I") ∈ zx_T := zx_mem tables_1_3 zx_l3 164 (by decide +kernel) (by decide +kernel)
theorem wd_646 : (Cond.lays "AddressClaimBusModel" "AddressClaimBusModel" "outSize" "[I") ∈ zx_T := zx_mem tables_1_3 zx_l3 166 (by decide +kernel) (by decide +kernel)
theorem wd_648 : (Cond.lays "AddressClaimBusModel" "AddressClaimBusModel" "outSeed" "[J") ∈ zx_T := zx_mem tables_1_3 zx_l3 168 (by decide +kernel) (by decide +kernel)
theorem wd_650 : (Cond.lays "AddressClaimBusModel" "AddressClaimBusModel" "outNext" "[I") ∈ zx_T := zx_mem tables_1_3 zx_l3 170 (by decide +kernel) (by decide +kernel)
theorem wd_652 : (Cond.lays "AddressClaimBusModel" "AddressClaimBusModel" "outDue" "[I") ∈ zx_T := zx_mem tables_1_3 zx_l3 172 (by decide +kernel) (by decide +kernel)
theorem wd_654 : (Cond.lays "AddressClaimBusModel" "AddressClaimBusModel" "ins" "[I") ∈ zx_T := zx_mem tables_1_3 zx_l3 174 (by decide +kernel) (by decide +kernel)
theorem wd_656 : (Cond.lays "AddressClaimBusModel" "AddressClaimBusModel" "inAll" "[Z") ∈ zx_T := zx_mem tables_1_3 zx_l3 176 (by decide +kernel) (by decide +kernel)
theorem wd_658 : (Cond.lays "AddressClaimBusModel" "AddressClaimBusModel" "inFrom" "[I") ∈ zx_T := zx_mem tables_1_3 zx_l3 178 (by decide +kernel) (by decide +kernel)
theorem wd_660 : (Cond.lays "AddressClaimBusModel" "AddressClaimBusModel" "inGroup" "[I") ∈ zx_T := zx_mem tables_1_3 zx_l3 180 (by decide +kernel) (by decide +kernel)
theorem wd_662 : (Cond.lays "AddressClaimBusModel" "AddressClaimBusModel" "inSize" "[I") ∈ zx_T := zx_mem tables_1_3 zx_l3 182 (by decide +kernel) (by decide +kernel)
theorem wd_664 : (Cond.lays "AddressClaimBusModel" "AddressClaimBusModel" "inExpected" "[I") ∈ zx_T := zx_mem tables_1_3 zx_l3 184 (by decide +kernel) (by decide +kernel)
theorem wd_666 : (Cond.lays "AddressClaimBusModel" "AddressClaimBusModel" "inLast" "[I") ∈ zx_T := zx_mem tables_1_3 zx_l3 186 (by decide +kernel) (by decide +kernel)
theorem wd_668 : (Cond.lays "AddressClaimBusModel" "AddressClaimBusModel" "inAsked" "[I") ∈ zx_T := zx_mem tables_1_3 zx_l3 188 (by decide +kernel) (by decide +kernel)
theorem wd_670 : (Cond.lays "AddressClaimBusModel" "AddressClaimBusModel" "inHeld" "[Z") ∈ zx_T := zx_mem tables_1_3 zx_l3 190 (by decide +kernel) (by decide +kernel)
theorem wd_672 : (Cond.lays "AddressClaimBusModel" "AddressClaimBusModel" "inDue" "[I") ∈ zx_T := zx_mem tables_1_3 zx_l3 192 (by decide +kernel) (by decide +kernel)
theorem wd_674 : (Cond.lays "AddressClaimBusModel" "AddressClaimBusModel" "inBytes" "[I") ∈ zx_T := zx_mem tables_1_3 zx_l3 194 (by decide +kernel) (by decide +kernel)
theorem wd_676 : (Cond.lays "AddressClaimBusModel" "AddressClaimBusModel" "arrived" "[I") ∈ zx_T := zx_mem tables_1_3 zx_l3 196 (by decide +kernel) (by decide +kernel)
theorem wd_678 : (Cond.lays "AddressClaimBusModel" "AddressClaimBusModel" "last" "[I") ∈ zx_T := zx_mem tables_1_3 zx_l3 198 (by decide +kernel) (by decide +kernel)
theorem wd_680 : (Cond.lays "AddressClaimBusModel" "AddressClaimBusModel" "lastBytes" "[I") ∈ zx_T := zx_mem tables_1_3 zx_l3 200 (by decide +kernel) (by decide +kernel)
theorem wd_683 : (Cond.arrayClass FieldType.boolean) ∈ zx_T := zx_mem tables_1_3 zx_l3 203 (by decide +kernel) (by decide +kernel)
theorem wd_684 : (Cond.methodLink "AddressClaimBusLaw" (57 : Nat) ({ cls := "AddressClaimBusModel", name := "waiting", desc := "()I" } : MethodName)) ∈ zx_T := zx_mem tables_1_3 zx_l3 204 (by decide +kernel) (by decide +kernel)
theorem wd_685 : (Cond.instanceMethod ({ cls := "AddressClaimBusModel", name := "waiting", desc := "()I" } : MethodName)) ∈ zx_T := zx_mem tables_1_3 zx_l3 205 (by decide +kernel) (by decide +kernel)
theorem wd_686 : (Cond.selects "AddressClaimBusModel" ({ cls := "AddressClaimBusModel", name := "waiting", desc := "()I" } : MethodName) ({ cls := "AddressClaimBusModel", name := "waiting", desc := "()I" } : MethodName)) ∈ zx_T := zx_mem tables_1_3 zx_l3 206 (by decide +kernel) (by decide +kernel)
theorem wd_687 : (Cond.code ({ cls := "AddressClaimBusModel", name := "waiting", desc := "()I" } : MethodName) prog_9_method_12_code (1 : Nat) (Option.some FieldType.int)) ∈ zx_T := zx_mem tables_1_3 zx_l3 207 (by decide +kernel) (by decide +kernel)
theorem wd_688 : (Cond.methodLink "AddressClaimBusLaw" (61 : Nat) ({ cls := "AddressClaimBusModel", name := "identifier", desc := "()I" } : MethodName)) ∈ zx_T := zx_mem tables_1_3 zx_l3 208 (by decide +kernel) (by decide +kernel)
theorem wd_689 : (Cond.instanceMethod ({ cls := "AddressClaimBusModel", name := "identifier", desc := "()I" } : MethodName)) ∈ zx_T := zx_mem tables_1_3 zx_l3 209 (by decide +kernel) (by decide +kernel)
theorem wd_690 : (Cond.selects "AddressClaimBusModel" ({ cls := "AddressClaimBusModel", name := "identifier", desc := "()I" } : MethodName) ({ cls := "AddressClaimBusModel", name := "identifier", desc := "()I" } : MethodName)) ∈ zx_T := zx_mem tables_1_3 zx_l3 210 (by decide +kernel) (by decide +kernel)
theorem wd_691 : (Cond.code ({ cls := "AddressClaimBusModel", name := "identifier", desc := "()I" } : MethodName) prog_9_method_13_code (2 : Nat) (Option.some FieldType.int)) ∈ zx_T := zx_mem tables_1_3 zx_l3 211 (by decide +kernel) (by decide +kernel)
theorem wd_692 : (Cond.methodLink "AddressClaimBusModel" (128 : Nat) ({ cls := "AddressClaimBusModel", name := "next", desc := "()I" } : MethodName)) ∈ zx_T := zx_mem tables_1_3 zx_l3 212 (by decide +kernel) (by decide +kernel)
theorem wd_694 : (Cond.instanceMethod ({ cls := "AddressClaimBusModel", name := "next", desc := "()I" } : MethodName)) ∈ zx_T := zx_mem tables_1_3 zx_l3 214 (by decide +kernel) (by decide +kernel)
theorem wd_695 : (Cond.code ({ cls := "AddressClaimBusModel", name := "next", desc := "()I" } : MethodName) prog_9_method_11_code (3 : Nat) (Option.some FieldType.int)) ∈ zx_T := zx_mem tables_1_3 zx_l3 215 (by decide +kernel) (by decide +kernel)
theorem wd_696 : (Cond.methodLink "AddressClaimBusLaw" (66 : Nat) ({ cls := "AddressClaimBusModel", name := "data", desc := "()J" } : MethodName)) ∈ zx_T := zx_mem tables_1_3 zx_l3 216 (by decide +kernel) (by decide +kernel)
theorem wd_697 : (Cond.instanceMethod ({ cls := "AddressClaimBusModel", name := "data", desc := "()J" } : MethodName)) ∈ zx_T := zx_mem tables_1_3 zx_l3 217 (by decide +kernel) (by decide +kernel)
theorem wd_698 : (Cond.selects "AddressClaimBusModel" ({ cls := "AddressClaimBusModel", name := "data", desc := "()J" } : MethodName) ({ cls := "AddressClaimBusModel", name := "data", desc := "()J" } : MethodName)) ∈ zx_T := zx_mem tables_1_3 zx_l3 218 (by decide +kernel) (by decide +kernel)
theorem wd_699 : (Cond.code ({ cls := "AddressClaimBusModel", name := "data", desc := "()J" } : MethodName) prog_9_method_14_code (2 : Nat) (Option.some FieldType.long)) ∈ zx_T := zx_mem tables_1_3 zx_l3 219 (by decide +kernel) (by decide +kernel)
theorem wd_700 : (Cond.methodLink "AddressClaimBusLaw" (76 : Nat) ({ cls := "AddressClaimBusModel", name := "lose", desc := "()Z" } : MethodName)) ∈ zx_T := zx_mem tables_1_3 zx_l3 220 (by decide +kernel) (by decide +kernel)
theorem wd_701 : (Cond.instanceMethod ({ cls := "AddressClaimBusModel", name := "lose", desc := "()Z" } : MethodName)) ∈ zx_T := zx_mem tables_1_3 zx_l3 221 (by decide +kernel) (by decide +kernel)
theorem wd_702 : (Cond.selects "AddressClaimBusModel" ({ cls := "AddressClaimBusModel", name := "lose", desc := "()Z" } : MethodName) ({ cls := "AddressClaimBusModel", name := "lose", desc := "()Z" } : MethodName)) ∈ zx_T := zx_mem tables_1_3 zx_l3 222 (by decide +kernel) (by decide +kernel)
theorem wd_703 : (Cond.code ({ cls := "AddressClaimBusModel", name := "lose", desc := "()Z" } : MethodName) prog_9_method_15_code (2 : Nat) (Option.some FieldType.boolean)) ∈ zx_T := zx_mem tables_1_3 zx_l3 223 (by decide +kernel) (by decide +kernel)
theorem wd_704 : (Cond.methodLink "AddressClaimBusModel" (132 : Nat) ({ cls := "AddressClaimBusModel", name := "takeAway", desc := "(I)V" } : MethodName)) ∈ zx_T := zx_mem tables_1_3 zx_l3 224 (by decide +kernel) (by decide +kernel)
theorem wd_706 : (Cond.instanceMethod ({ cls := "AddressClaimBusModel", name := "takeAway", desc := "(I)V" } : MethodName)) ∈ zx_T := zx_mem tables_1_3 zx_l3 226 (by decide +kernel) (by decide +kernel)
theorem wd_707 : (Cond.code ({ cls := "AddressClaimBusModel", name := "takeAway", desc := "(I)V" } : MethodName) prog_9_method_10_code (3 : Nat) (Option.none : Option FieldType)) ∈ zx_T := zx_mem tables_1_3 zx_l3 227 (by decide +kernel) (by decide +kernel)
theorem wd_708 : (Cond.methodLink "AddressClaimBusLaw" (80 : Nat) ({ cls := "AddressClaimBusModel", name := "overflowed", desc := "()I" } : MethodName)) ∈ zx_T := zx_mem tables_1_3 zx_l3 228 (by decide +kernel) (by decide +kernel)
theorem wd_709 : (Cond.instanceMethod ({ cls := "AddressClaimBusModel", name := "overflowed", desc := "()I" } : MethodName)) ∈ zx_T := zx_mem tables_1_3 zx_l3 229 (by decide +kernel) (by decide +kernel)
theorem wd_710 : (Cond.selects "AddressClaimBusModel" ({ cls := "AddressClaimBusModel", name := "overflowed", desc := "()I" } : MethodName) ({ cls := "AddressClaimBusModel", name := "overflowed", desc := "()I" } : MethodName)) ∈ zx_T := zx_mem tables_1_3 zx_l3 230 (by decide +kernel) (by decide +kernel)
theorem wd_711 : (Cond.code ({ cls := "AddressClaimBusModel", name := "overflowed", desc := "()I" } : MethodName) prog_9_method_16_code (1 : Nat) (Option.some FieldType.int)) ∈ zx_T := zx_mem tables_1_3 zx_l3 231 (by decide +kernel) (by decide +kernel)
theorem wd_712 : (Cond.methodLink "AddressClaimBusLaw" (71 : Nat) ({ cls := "AddressClaimBusModel", name := "deliver", desc := "(Z)Z" } : MethodName)) ∈ zx_T := zx_mem tables_1_3 zx_l3 232 (by decide +kernel) (by decide +kernel)
theorem wd_713 : (Cond.instanceMethod ({ cls := "AddressClaimBusModel", name := "deliver", desc := "(Z)Z" } : MethodName)) ∈ zx_T := zx_mem tables_1_3 zx_l3 233 (by decide +kernel) (by decide +kernel)
theorem wd_714 : (Cond.selects "AddressClaimBusModel" ({ cls := "AddressClaimBusModel", name := "deliver", desc := "(Z)Z" } : MethodName) ({ cls := "AddressClaimBusModel", name := "deliver", desc := "(Z)Z" } : MethodName)) ∈ zx_T := zx_mem tables_1_3 zx_l3 234 (by decide +kernel) (by decide +kernel)
theorem wd_715 : (Cond.code ({ cls := "AddressClaimBusModel", name := "deliver", desc := "(Z)Z" } : MethodName) prog_9_method_17_code (12 : Nat) (Option.some FieldType.boolean)) ∈ zx_T := zx_mem tables_1_3 zx_l3 235 (by decide +kernel) (by decide +kernel)
theorem wd_716 : (Cond.methodLink "AddressClaimBusModel" (136 : Nat) ({ cls := "AddressClaimBusModel", name := "reach", desc := "(IIIIIJ)V" } : MethodName)) ∈ zx_T := zx_mem tables_1_3 zx_l3 236 (by decide +kernel) (by decide +kernel)
theorem wd_718 : (Cond.instanceMethod ({ cls := "AddressClaimBusModel", name := "reach", desc := "(IIIIIJ)V" } : MethodName)) ∈ zx_T := zx_mem tables_1_3 zx_l3 238 (by decide +kernel) (by decide +kernel)
theorem wd_719 : (Cond.code ({ cls := "AddressClaimBusModel", name := "reach", desc := "(IIIIIJ)V" } : MethodName) prog_9_method_18_code (8 : Nat) (Option.none : Option FieldType)) ∈ zx_T := zx_mem tables_1_3 zx_l3 239 (by decide +kernel) (by decide +kernel)
theorem wd_720 : (Cond.methodLink "AddressClaimBusModel" (140 : Nat) ({ cls := "AddressClaimBusModel", name := "claimed", desc := "(IIIJ)V" } : MethodName)) ∈ zx_T := zx_mem tables_1_4 zx_l4 0 (by decide +kernel) (by decide +kernel)
theorem wd_722 : (Cond.instanceMethod ({ cls := "AddressClaimBusModel", name := "claimed", desc := "(IIIJ)V" } : MethodName)) ∈ zx_T := zx_mem tables_1_4 zx_l4 2 (by decide +kernel) (by decide +kernel)
theorem wd_723 : (Cond.code ({ cls := "AddressClaimBusModel", name := "claimed", desc := "(IIIJ)V" } : MethodName) prog_9_method_27_code (7 : Nat) (Option.none : Option FieldType)) ∈ zx_T := zx_mem tables_1_4 zx_l4 3 (by decide +kernel) (by decide +kernel)
theorem wd_724 : (Cond.methodLink "AddressClaimBusModel" (162 : Nat) ({ cls := "AddressClaimBusModel", name := "below", desc := "(JJ)Z" } : MethodName)) ∈ zx_T := zx_mem tables_1_4 zx_l4 4 (by decide +kernel) (by decide +kernel)
theorem wd_725 : (Cond.static ({ cls := "AddressClaimBusModel", name := "below", desc := "(JJ)Z" } : MethodName)) ∈ zx_T := zx_mem tables_1_4 zx_l4 5 (by decide +kernel) (by decide +kernel)
theorem wd_726 : (Cond.code ({ cls := "AddressClaimBusModel", name := "below", desc := "(JJ)Z" } : MethodName) prog_9_method_26_code (4 : Nat) (Option.some FieldType.boolean)) ∈ zx_T := zx_mem tables_1_4 zx_l4 6 (by decide +kernel) (by decide +kernel)
theorem wd_727 : (Cond.methodLink "AddressClaimBusModel" (166 : Nat) ({ cls := "AddressClaimBusModel", name := "spare", desc := "(I)I" } : MethodName)) ∈ zx_T := zx_mem tables_1_4 zx_l4 7 (by decide +kernel) (by decide +kernel)
theorem wd_729 : (Cond.instanceMethod ({ cls := "AddressClaimBusModel", name := "spare", desc := "(I)I" } : MethodName)) ∈ zx_T := zx_mem tables_1_4 zx_l4 9 (by decide +kernel) (by decide +kernel)
theorem wd_730 : (Cond.code ({ cls := "AddressClaimBusModel", name := "spare", desc := "(I)I" } : MethodName) prog_9_method_28_code (5 : Nat) (Option.some FieldType.int)) ∈ zx_T := zx_mem tables_1_4 zx_l4 10 (by decide +kernel) (by decide +kernel)
theorem wd_731 : (Cond.methodLink "AddressClaimBusModel" (144 : Nat) ({ cls := "AddressClaimBusModel", name := "putClaim", desc := "(I)V" } : MethodName)) ∈ zx_T := zx_mem tables_1_4 zx_l4 11 (by decide +kernel) (by decide +kernel)
theorem wd_733 : (Cond.instanceMethod ({ cls := "AddressClaimBusModel", name := "putClaim", desc := "(I)V" } : MethodName)) ∈ zx_T := zx_mem tables_1_4 zx_l4 13 (by decide +kernel) (by decide +kernel)
theorem wd_734 : (Cond.code ({ cls := "AddressClaimBusModel", name := "putClaim", desc := "(I)V" } : MethodName) prog_9_method_6_code (2 : Nat) (Option.none : Option FieldType)) ∈ zx_T := zx_mem tables_1_4 zx_l4 14 (by decide +kernel) (by decide +kernel)
theorem wd_735 : (Cond.methodLink "AddressClaimBusModel" (116 : Nat) ({ cls := "AddressClaimBusModel", name := "put", desc := "(IIIIJ)V" } : MethodName)) ∈ zx_T := zx_mem tables_1_4 zx_l4 15 (by decide +kernel) (by decide +kernel)
theorem wd_737 : (Cond.instanceMethod ({ cls := "AddressClaimBusModel", name := "put", desc := "(IIIIJ)V" } : MethodName)) ∈ zx_T := zx_mem tables_1_4 zx_l4 17 (by decide +kernel) (by decide +kernel)
theorem wd_738 : (Cond.code ({ cls := "AddressClaimBusModel", name := "put", desc := "(IIIIJ)V" } : MethodName) prog_9_method_5_code (7 : Nat) (Option.none : Option FieldType)) ∈ zx_T := zx_mem tables_1_4 zx_l4 18 (by decide +kernel) (by decide +kernel)
theorem wd_739 : (Cond.methodLink "AddressClaimBusModel" (112 : Nat) ({ cls := "AddressClaimBusModel", name := "source", desc := "(I)I" } : MethodName)) ∈ zx_T := zx_mem tables_1_4 zx_l4 19 (by decide +kernel) (by decide +kernel)
theorem wd_741 : (Cond.instanceMethod ({ cls := "AddressClaimBusModel", name := "source", desc := "(I)I" } : MethodName)) ∈ zx_T := zx_mem tables_1_4 zx_l4 21 (by decide +kernel) (by decide +kernel)
theorem wd_742 : (Cond.code ({ cls := "AddressClaimBusModel", name := "source", desc := "(I)I" } : MethodName) prog_9_method_4_code (2 : Nat) (Option.some FieldType.int)) ∈ zx_T := zx_mem tables_1_4 zx_l4 22 (by decide +kernel) (by decide +kernel)
theorem wd_743 : (Cond.methodLink "AddressClaimBusModel" (147 : Nat) ({ cls := "AddressClaimBusModel", name := "control", desc := "(IIIJ)V" } : MethodName)) ∈ zx_T := zx_mem tables_1_4 zx_l4 23 (by decide +kernel) (by decide +kernel)
theorem wd_745 : (Cond.instanceMethod ({ cls := "AddressClaimBusModel", name := "control", desc := "(IIIJ)V" } : MethodName)) ∈ zx_T := zx_mem tables_1_4 zx_l4 25 (by decide +kernel) (by decide +kernel)
theorem wd_746 : (Cond.code ({ cls := "AddressClaimBusModel", name := "control", desc := "(IIIJ)V" } : MethodName) prog_9_method_31_code (12 : Nat) (Option.none : Option FieldType)) ∈ zx_T := zx_mem tables_1_4 zx_l4 26 (by decide +kernel) (by decide +kernel)
theorem wd_747 : (Cond.constantLong "AddressClaimBusModel" (126 : Nat) (255 : Int64)) ∈ zx_T := zx_mem tables_1_4 zx_l4 27 (by decide +kernel) (by decide +kernel)
theorem wd_748 : (Cond.constantLong "AddressClaimBusModel" (173 : Nat) (16777215 : Int64)) ∈ zx_T := zx_mem tables_1_4 zx_l4 28 (by decide +kernel) (by decide +kernel)
theorem wd_749 : (Cond.methodLink "AddressClaimBusModel" (175 : Nat) ({ cls := "AddressClaimBusModel", name := "find", desc := "(IIZ)I" } : MethodName)) ∈ zx_T := zx_mem tables_1_4 zx_l4 29 (by decide +kernel) (by decide +kernel)
theorem wd_751 : (Cond.instanceMethod ({ cls := "AddressClaimBusModel", name := "find", desc := "(IIZ)I" } : MethodName)) ∈ zx_T := zx_mem tables_1_4 zx_l4 31 (by decide +kernel) (by decide +kernel)
theorem wd_752 : (Cond.code ({ cls := "AddressClaimBusModel", name := "find", desc := "(IIZ)I" } : MethodName) prog_9_method_33_code (5 : Nat) (Option.some FieldType.int)) ∈ zx_T := zx_mem tables_1_4 zx_l4 32 (by decide +kernel) (by decide +kernel)
theorem wd_753 : (Cond.methodLink "AddressClaimBusModel" (179 : Nat) ({ cls := "AddressClaimBusModel", name := "opened", desc := "(IIIIZ)V" } : MethodName)) ∈ zx_T := zx_mem tables_1_4 zx_l4 33 (by decide +kernel) (by decide +kernel)
theorem wd_755 : (Cond.instanceMethod ({ cls := "AddressClaimBusModel", name := "opened", desc := "(IIIIZ)V" } : MethodName)) ∈ zx_T := zx_mem tables_1_4 zx_l4 35 (by decide +kernel) (by decide +kernel)
theorem wd_756 : (Cond.code ({ cls := "AddressClaimBusModel", name := "opened", desc := "(IIIIZ)V" } : MethodName) prog_9_method_35_code (8 : Nat) (Option.none : Option FieldType)) ∈ zx_T := zx_mem tables_1_4 zx_l4 36 (by decide +kernel) (by decide +kernel)
theorem wd_757 : (Cond.methodLink "AddressClaimBusModel" (191 : Nat) ({ cls := "AddressClaimBusModel", name := "close", desc := "(II)V" } : MethodName)) ∈ zx_T := zx_mem tables_1_4 zx_l4 37 (by decide +kernel) (by decide +kernel)
theorem wd_759 : (Cond.instanceMethod ({ cls := "AddressClaimBusModel", name := "close", desc := "(II)V" } : MethodName)) ∈ zx_T := zx_mem tables_1_4 zx_l4 39 (by decide +kernel) (by decide +kernel)
theorem wd_760 : (Cond.code ({ cls := "AddressClaimBusModel", name := "close", desc := "(II)V" } : MethodName) prog_9_method_34_code (5 : Nat) (Option.none : Option FieldType)) ∈ zx_T := zx_mem tables_1_4 zx_l4 40 (by decide +kernel) (by decide +kernel)
theorem wd_761 : (Cond.methodLink "AddressClaimBusModel" (197 : Nat) ({ cls := "AddressClaimBusModel", name := "putAbort", desc := "(IIII)V" } : MethodName)) ∈ zx_T := zx_mem tables_1_4 zx_l4 41 (by decide +kernel) (by decide +kernel)
theorem wd_763 : (Cond.instanceMethod ({ cls := "AddressClaimBusModel", name := "putAbort", desc := "(IIII)V" } : MethodName)) ∈ zx_T := zx_mem tables_1_4 zx_l4 43 (by decide +kernel) (by decide +kernel)
theorem wd_764 : (Cond.code ({ cls := "AddressClaimBusModel", name := "putAbort", desc := "(IIII)V" } : MethodName) prog_9_method_8_code (5 : Nat) (Option.none : Option FieldType)) ∈ zx_T := zx_mem tables_1_4 zx_l4 44 (by decide +kernel) (by decide +kernel)
theorem wd_765 : (Cond.methodLink "AddressClaimBusModel" (122 : Nat) ({ cls := "AddressClaimBusModel", name := "putControl", desc := "(IIIIIII)V" } : MethodName)) ∈ zx_T := zx_mem tables_1_4 zx_l4 45 (by decide +kernel) (by decide +kernel)
theorem wd_767 : (Cond.instanceMethod ({ cls := "AddressClaimBusModel", name := "putControl", desc := "(IIIIIII)V" } : MethodName)) ∈ zx_T := zx_mem tables_1_4 zx_l4 47 (by decide +kernel) (by decide +kernel)
theorem wd_768 : (Cond.code ({ cls := "AddressClaimBusModel", name := "putControl", desc := "(IIIIIII)V" } : MethodName) prog_9_method_7_code (8 : Nat) (Option.none : Option FieldType)) ∈ zx_T := zx_mem tables_1_4 zx_l4 48 (by decide +kernel) (by decide +kernel)
theorem wd_769 : (Cond.constantLong "AddressClaimBusModel" (120 : Nat) (1095216660480 : Int64)) ∈ zx_T := zx_mem tables_1_4 zx_l4 49 (by decide +kernel) (by decide +kernel)
theorem wd_770 : (Cond.methodLink "AddressClaimBusModel" (201 : Nat) ({ cls := "AddressClaimBusModel", name := "grant", desc := "(II)V" } : MethodName)) ∈ zx_T := zx_mem tables_1_4 zx_l4 50 (by decide +kernel) (by decide +kernel)
theorem wd_772 : (Cond.instanceMethod ({ cls := "AddressClaimBusModel", name := "grant", desc := "(II)V" } : MethodName)) ∈ zx_T := zx_mem tables_1_4 zx_l4 52 (by decide +kernel) (by decide +kernel)
theorem wd_773 : (Cond.code ({ cls := "AddressClaimBusModel", name := "grant", desc := "(II)V" } : MethodName) prog_9_method_36_code (5 : Nat) (Option.none : Option FieldType)) ∈ zx_T := zx_mem tables_1_4 zx_l4 53 (by decide +kernel) (by decide +kernel)
theorem wd_774 : (Cond.methodLink "AddressClaimBusModel" (170 : Nat) ({ cls := "AddressClaimBusModel", name := "packets", desc := "(I)I" } : MethodName)) ∈ zx_T := zx_mem tables_1_4 zx_l4 54 (by decide +kernel) (by decide +kernel)
theorem wd_775 : (Cond.static ({ cls := "AddressClaimBusModel", name := "packets", desc := "(I)I" } : MethodName)) ∈ zx_T := zx_mem tables_1_4 zx_l4 55 (by decide +kernel) (by decide +kernel)
theorem wd_776 : (Cond.code ({ cls := "AddressClaimBusModel", name := "packets", desc := "(I)I" } : MethodName) prog_9_method_3_code (1 : Nat) (Option.some FieldType.int)) ∈ zx_T := zx_mem tables_1_4 zx_l4 56 (by decide +kernel) (by decide +kernel)
theorem wd_777 : (Cond.methodLink "AddressClaimBusModel" (183 : Nat) ({ cls := "AddressClaimBusModel", name := "granted", desc := "(III)V" } : MethodName)) ∈ zx_T := zx_mem tables_1_4 zx_l4 57 (by decide +kernel) (by decide +kernel)
theorem wd_779 : (Cond.instanceMethod ({ cls := "AddressClaimBusModel", name := "granted", desc := "(III)V" } : MethodName)) ∈ zx_T := zx_mem tables_1_4 zx_l4 59 (by decide +kernel) (by decide +kernel)
theorem wd_780 : (Cond.code ({ cls := "AddressClaimBusModel", name := "granted", desc := "(III)V" } : MethodName) prog_9_method_32_code (5 : Nat) (Option.none : Option FieldType)) ∈ zx_T := zx_mem tables_1_4 zx_l4 60 (by decide +kernel) (by decide +kernel)
theorem wd_781 : (Cond.methodLink "AddressClaimBusModel" (194 : Nat) ({ cls := "AddressClaimBusModel", name := "putPacket", desc := "(II)V" } : MethodName)) ∈ zx_T := zx_mem tables_1_4 zx_l4 61 (by decide +kernel) (by decide +kernel)
theorem wd_783 : (Cond.instanceMethod ({ cls := "AddressClaimBusModel", name := "putPacket", desc := "(II)V" } : MethodName)) ∈ zx_T := zx_mem tables_1_4 zx_l4 63 (by decide +kernel) (by decide +kernel)
theorem wd_784 : (Cond.code ({ cls := "AddressClaimBusModel", name := "putPacket", desc := "(II)V" } : MethodName) prog_9_method_9_code (9 : Nat) (Option.none : Option FieldType)) ∈ zx_T := zx_mem tables_1_4 zx_l4 64 (by decide +kernel) (by decide +kernel)
theorem wd_785 : (Cond.methodLink "AddressClaimBusModel" (187 : Nat) ({ cls := "AddressClaimBusModel", name := "finish", desc := "(II)V" } : MethodName)) ∈ zx_T := zx_mem tables_1_4 zx_l4 65 (by decide +kernel) (by decide +kernel)
theorem wd_787 : (Cond.instanceMethod ({ cls := "AddressClaimBusModel", name := "finish", desc := "(II)V" } : MethodName)) ∈ zx_T := zx_mem tables_1_4 zx_l4 67 (by decide +kernel) (by decide +kernel)
theorem wd_788 : (Cond.code ({ cls := "AddressClaimBusModel", name := "finish", desc := "(II)V" } : MethodName) prog_9_method_30_code (3 : Nat) (Option.none : Option FieldType)) ∈ zx_T := zx_mem tables_1_4 zx_l4 68 (by decide +kernel) (by decide +kernel)
theorem wd_789 : (Cond.methodLink "AddressClaimBusModel" (150 : Nat) ({ cls := "AddressClaimBusModel", name := "packet", desc := "(IIIJ)V" } : MethodName)) ∈ zx_T := zx_mem tables_1_4 zx_l4 69 (by decide +kernel) (by decide +kernel)
theorem wd_791 : (Cond.instanceMethod ({ cls := "AddressClaimBusModel", name := "packet", desc := "(IIIJ)V" } : MethodName)) ∈ zx_T := zx_mem tables_1_4 zx_l4 71 (by decide +kernel) (by decide +kernel)
theorem wd_792 : (Cond.code ({ cls := "AddressClaimBusModel", name := "packet", desc := "(IIIJ)V" } : MethodName) prog_9_method_38_code (8 : Nat) (Option.none : Option FieldType)) ∈ zx_T := zx_mem tables_1_4 zx_l4 72 (by decide +kernel) (by decide +kernel)
theorem wd_793 : (Cond.methodLink "AddressClaimBusModel" (204 : Nat) ({ cls := "AddressClaimBusModel", name := "keep", desc := "(IIIJ)V" } : MethodName)) ∈ zx_T := zx_mem tables_1_4 zx_l4 73 (by decide +kernel) (by decide +kernel)
theorem wd_795 : (Cond.instanceMethod ({ cls := "AddressClaimBusModel", name := "keep", desc := "(IIIJ)V" } : MethodName)) ∈ zx_T := zx_mem tables_1_4 zx_l4 75 (by decide +kernel) (by decide +kernel)
theorem wd_796 : (Cond.code ({ cls := "AddressClaimBusModel", name := "keep", desc := "(IIIJ)V" } : MethodName) prog_9_method_39_code (8 : Nat) (Option.none : Option FieldType)) ∈ zx_T := zx_mem tables_1_4 zx_l4 76 (by decide +kernel) (by decide +kernel)
theorem wd_797 : (Cond.methodLink "AddressClaimBusModel" (207 : Nat) ({ cls := "AddressClaimBusModel", name := "askAgain", desc := "(III)V" } : MethodName)) ∈ zx_T := zx_mem tables_1_4 zx_l4 77 (by decide +kernel) (by decide +kernel)
theorem wd_799 : (Cond.instanceMethod ({ cls := "AddressClaimBusModel", name := "askAgain", desc := "(III)V" } : MethodName)) ∈ zx_T := zx_mem tables_1_4 zx_l4 79 (by decide +kernel) (by decide +kernel)
theorem wd_800 : (Cond.code ({ cls := "AddressClaimBusModel", name := "askAgain", desc := "(III)V" } : MethodName) prog_9_method_37_code (4 : Nat) (Option.none : Option FieldType)) ∈ zx_T := zx_mem tables_1_4 zx_l4 80 (by decide +kernel) (by decide +kernel)
theorem wd_801 : (Cond.methodLink "AddressClaimBusLaw" (19 : Nat) ({ cls := "AddressClaimBusModel", name := "start", desc := "(IJI)Z" } : MethodName)) ∈ zx_T := zx_mem tables_1_4 zx_l4 81 (by decide +kernel) (by decide +kernel)
theorem wd_802 : (Cond.instanceMethod ({ cls := "AddressClaimBusModel", name := "start", desc := "(IJI)Z" } : MethodName)) ∈ zx_T := zx_mem tables_1_4 zx_l4 82 (by decide +kernel) (by decide +kernel)
theorem wd_803 : (Cond.selects "AddressClaimBusModel" ({ cls := "AddressClaimBusModel", name := "start", desc := "(IJI)Z" } : MethodName) ({ cls := "AddressClaimBusModel", name := "start", desc := "(IJI)Z" } : MethodName)) ∈ zx_T := zx_mem tables_1_4 zx_l4 83 (by decide +kernel) (by decide +kernel)
theorem wd_804 : (Cond.code ({ cls := "AddressClaimBusModel", name := "start", desc := "(IJI)Z" } : MethodName) prog_9_method_19_code (6 : Nat) (Option.some FieldType.boolean)) ∈ zx_T := zx_mem tables_1_4 zx_l4 84 (by decide +kernel) (by decide +kernel)
theorem wd_805 : (Cond.methodLink "AddressClaimBusLaw" (24 : Nat) ({ cls := "AddressClaimBusModel", name := "stop", desc := "(I)Z" } : MethodName)) ∈ zx_T := zx_mem tables_1_4 zx_l4 85 (by decide +kernel) (by decide +kernel)
theorem wd_806 : (Cond.instanceMethod ({ cls := "AddressClaimBusModel", name := "stop", desc := "(I)Z" } : MethodName)) ∈ zx_T := zx_mem tables_1_4 zx_l4 86 (by decide +kernel) (by decide +kernel)
theorem wd_807 : (Cond.selects "AddressClaimBusModel" ({ cls := "AddressClaimBusModel", name := "stop", desc := "(I)Z" } : MethodName) ({ cls := "AddressClaimBusModel", name := "stop", desc := "(I)Z" } : MethodName)) ∈ zx_T := zx_mem tables_1_4 zx_l4 87 (by decide +kernel) (by decide +kernel)
theorem wd_808 : (Cond.code ({ cls := "AddressClaimBusModel", name := "stop", desc := "(I)Z" } : MethodName) prog_9_method_20_code (3 : Nat) (Option.some FieldType.boolean)) ∈ zx_T := zx_mem tables_1_4 zx_l4 88 (by decide +kernel) (by decide +kernel)
theorem wd_809 : (Cond.methodLink "AddressClaimBusModel" (156 : Nat) ({ cls := "AddressClaimBusModel", name := "on", desc := "(I)Z" } : MethodName)) ∈ zx_T := zx_mem tables_1_4 zx_l4 89 (by decide +kernel) (by decide +kernel)
theorem wd_811 : (Cond.instanceMethod ({ cls := "AddressClaimBusModel", name := "on", desc := "(I)Z" } : MethodName)) ∈ zx_T := zx_mem tables_1_4 zx_l4 91 (by decide +kernel) (by decide +kernel)
theorem wd_812 : (Cond.code ({ cls := "AddressClaimBusModel", name := "on", desc := "(I)Z" } : MethodName) prog_9_method_2_code (2 : Nat) (Option.some FieldType.boolean)) ∈ zx_T := zx_mem tables_1_4 zx_l4 92 (by decide +kernel) (by decide +kernel)
theorem wd_813 : (Cond.methodLink "AddressClaimBusLaw" (29 : Nat) ({ cls := "AddressClaimBusModel", name := "busy", desc := "(IZ)Z" } : MethodName)) ∈ zx_T := zx_mem tables_1_4 zx_l4 93 (by decide +kernel) (by decide +kernel)
theorem wd_814 : (Cond.instanceMethod ({ cls := "AddressClaimBusModel", name := "busy", desc := "(IZ)Z" } : MethodName)) ∈ zx_T := zx_mem tables_1_4 zx_l4 94 (by decide +kernel) (by decide +kernel)
theorem wd_815 : (Cond.selects "AddressClaimBusModel" ({ cls := "AddressClaimBusModel", name := "busy", desc := "(IZ)Z" } : MethodName) ({ cls := "AddressClaimBusModel", name := "busy", desc := "(IZ)Z" } : MethodName)) ∈ zx_T := zx_mem tables_1_4 zx_l4 95 (by decide +kernel) (by decide +kernel)
theorem wd_816 : (Cond.code ({ cls := "AddressClaimBusModel", name := "busy", desc := "(IZ)Z" } : MethodName) prog_9_method_21_code (3 : Nat) (Option.some FieldType.boolean)) ∈ zx_T := zx_mem tables_1_4 zx_l4 96 (by decide +kernel) (by decide +kernel)
theorem wd_817 : (Cond.methodLink "AddressClaimBusLaw" (34 : Nat) ({ cls := "AddressClaimBusModel", name := "state", desc := "(I)I" } : MethodName)) ∈ zx_T := zx_mem tables_1_4 zx_l4 97 (by decide +kernel) (by decide +kernel)
theorem wd_818 : (Cond.instanceMethod ({ cls := "AddressClaimBusModel", name := "state", desc := "(I)I" } : MethodName)) ∈ zx_T := zx_mem tables_1_4 zx_l4 98 (by decide +kernel) (by decide +kernel)
theorem wd_819 : (Cond.selects "AddressClaimBusModel" ({ cls := "AddressClaimBusModel", name := "state", desc := "(I)I" } : MethodName) ({ cls := "AddressClaimBusModel", name := "state", desc := "(I)I" } : MethodName)) ∈ zx_T := zx_mem tables_1_4 zx_l4 99 (by decide +kernel) (by decide +kernel)
theorem wd_820 : (Cond.code ({ cls := "AddressClaimBusModel", name := "state", desc := "(I)I" } : MethodName) prog_9_method_22_code (2 : Nat) (Option.some FieldType.int)) ∈ zx_T := zx_mem tables_1_4 zx_l4 100 (by decide +kernel) (by decide +kernel)
theorem wd_821 : (Cond.methodLink "AddressClaimBusLaw" (38 : Nat) ({ cls := "AddressClaimBusModel", name := "address", desc := "(I)I" } : MethodName)) ∈ zx_T := zx_mem tables_1_4 zx_l4 101 (by decide +kernel) (by decide +kernel)
theorem wd_822 : (Cond.instanceMethod ({ cls := "AddressClaimBusModel", name := "address", desc := "(I)I" } : MethodName)) ∈ zx_T := zx_mem tables_1_4 zx_l4 102 (by decide +kernel) (by decide +kernel)
theorem wd_823 : (Cond.selects "AddressClaimBusModel" ({ cls := "AddressClaimBusModel", name := "address", desc := "(I)I" } : MethodName) ({ cls := "AddressClaimBusModel", name := "address", desc := "(I)I" } : MethodName)) ∈ zx_T := zx_mem tables_1_4 zx_l4 103 (by decide +kernel) (by decide +kernel)
theorem wd_824 : (Cond.code ({ cls := "AddressClaimBusModel", name := "address", desc := "(I)I" } : MethodName) prog_9_method_23_code (2 : Nat) (Option.some FieldType.int)) ∈ zx_T := zx_mem tables_1_4 zx_l4 104 (by decide +kernel) (by decide +kernel)
theorem wd_825 : (Cond.methodLink "AddressClaimBusLaw" (43 : Nat) ({ cls := "AddressClaimBusModel", name := "noted", desc := "(II)I" } : MethodName)) ∈ zx_T := zx_mem tables_1_4 zx_l4 105 (by decide +kernel) (by decide +kernel)
theorem wd_826 : (Cond.instanceMethod ({ cls := "AddressClaimBusModel", name := "noted", desc := "(II)I" } : MethodName)) ∈ zx_T := zx_mem tables_1_4 zx_l4 106 (by decide +kernel) (by decide +kernel)
theorem wd_827 : (Cond.selects "AddressClaimBusModel" ({ cls := "AddressClaimBusModel", name := "noted", desc := "(II)I" } : MethodName) ({ cls := "AddressClaimBusModel", name := "noted", desc := "(II)I" } : MethodName)) ∈ zx_T := zx_mem tables_1_4 zx_l4 107 (by decide +kernel) (by decide +kernel)
theorem wd_828 : (Cond.code ({ cls := "AddressClaimBusModel", name := "noted", desc := "(II)I" } : MethodName) prog_9_method_24_code (3 : Nat) (Option.some FieldType.int)) ∈ zx_T := zx_mem tables_1_4 zx_l4 108 (by decide +kernel) (by decide +kernel)
theorem wd_829 : (Cond.methodLink "AddressClaimBusLaw" (47 : Nat) ({ cls := "AddressClaimBusModel", name := "request", desc := "(I)Z" } : MethodName)) ∈ zx_T := zx_mem tables_1_4 zx_l4 109 (by decide +kernel) (by decide +kernel)
theorem wd_830 : (Cond.instanceMethod ({ cls := "AddressClaimBusModel", name := "request", desc := "(I)Z" } : MethodName)) ∈ zx_T := zx_mem tables_1_4 zx_l4 110 (by decide +kernel) (by decide +kernel)
theorem wd_831 : (Cond.selects "AddressClaimBusModel" ({ cls := "AddressClaimBusModel", name := "request", desc := "(I)Z" } : MethodName) ({ cls := "AddressClaimBusModel", name := "request", desc := "(I)Z" } : MethodName)) ∈ zx_T := zx_mem tables_1_4 zx_l4 111 (by decide +kernel) (by decide +kernel)
theorem wd_832 : (Cond.code ({ cls := "AddressClaimBusModel", name := "request", desc := "(I)Z" } : MethodName) prog_9_method_25_code (2 : Nat) (Option.some FieldType.boolean)) ∈ zx_T := zx_mem tables_1_4 zx_l4 112 (by decide +kernel) (by decide +kernel)
theorem wd_833 : (Cond.constantLong "AddressClaimBusModel" (160 : Nat) (60928 : Int64)) ∈ zx_T := zx_mem tables_1_4 zx_l4 113 (by decide +kernel) (by decide +kernel)
theorem wd_834 : (Cond.methodLink "AddressClaimBusLaw" (52 : Nat) ({ cls := "AddressClaimBusModel", name := "send", desc := "(IIIIJ)Z" } : MethodName)) ∈ zx_T := zx_mem tables_1_4 zx_l4 114 (by decide +kernel) (by decide +kernel)
theorem wd_835 : (Cond.instanceMethod ({ cls := "AddressClaimBusModel", name := "send", desc := "(IIIIJ)Z" } : MethodName)) ∈ zx_T := zx_mem tables_1_4 zx_l4 115 (by decide +kernel) (by decide +kernel)
theorem wd_836 : (Cond.selects "AddressClaimBusModel" ({ cls := "AddressClaimBusModel", name := "send", desc := "(IIIIJ)Z" } : MethodName) ({ cls := "AddressClaimBusModel", name := "send", desc := "(IIIIJ)Z" } : MethodName)) ∈ zx_T := zx_mem tables_1_4 zx_l4 116 (by decide +kernel) (by decide +kernel)
theorem wd_837 : (Cond.code ({ cls := "AddressClaimBusModel", name := "send", desc := "(IIIIJ)Z" } : MethodName) prog_9_method_29_code (8 : Nat) (Option.some FieldType.boolean)) ∈ zx_T := zx_mem tables_1_4 zx_l4 117 (by decide +kernel) (by decide +kernel)
theorem wd_838 : (Cond.constant "AddressClaimBusModel" (169 : Nat) (262143 : Int32)) ∈ zx_T := zx_mem tables_1_4 zx_l4 118 (by decide +kernel) (by decide +kernel)
theorem wd_839 : (Cond.methodLink "AddressClaimBusLaw" (84 : Nat) ({ cls := "AddressClaimBusModel", name := "tick", desc := "(I)I" } : MethodName)) ∈ zx_T := zx_mem tables_1_4 zx_l4 119 (by decide +kernel) (by decide +kernel)
theorem wd_840 : (Cond.instanceMethod ({ cls := "AddressClaimBusModel", name := "tick", desc := "(I)I" } : MethodName)) ∈ zx_T := zx_mem tables_1_4 zx_l4 120 (by decide +kernel) (by decide +kernel)
theorem wd_841 : (Cond.selects "AddressClaimBusModel" ({ cls := "AddressClaimBusModel", name := "tick", desc := "(I)I" } : MethodName) ({ cls := "AddressClaimBusModel", name := "tick", desc := "(I)I" } : MethodName)) ∈ zx_T := zx_mem tables_1_4 zx_l4 121 (by decide +kernel) (by decide +kernel)
theorem wd_842 : (Cond.code ({ cls := "AddressClaimBusModel", name := "tick", desc := "(I)I" } : MethodName) prog_9_method_43_code (6 : Nat) (Option.some FieldType.int)) ∈ zx_T := zx_mem tables_1_4 zx_l4 122 (by decide +kernel) (by decide +kernel)
theorem wd_843 : (Cond.methodLink "AddressClaimBusModel" (213 : Nat) ({ cls := "AddressClaimBusModel", name := "due", desc := "(I)I" } : MethodName)) ∈ zx_T := zx_mem tables_1_4 zx_l4 123 (by decide +kernel) (by decide +kernel)
theorem wd_845 : (Cond.instanceMethod ({ cls := "AddressClaimBusModel", name := "due", desc := "(I)I" } : MethodName)) ∈ zx_T := zx_mem tables_1_4 zx_l4 125 (by decide +kernel) (by decide +kernel)
theorem wd_846 : (Cond.code ({ cls := "AddressClaimBusModel", name := "due", desc := "(I)I" } : MethodName) prog_9_method_40_code (4 : Nat) (Option.some FieldType.int)) ∈ zx_T := zx_mem tables_1_4 zx_l4 126 (by decide +kernel) (by decide +kernel)
theorem wd_847 : (Cond.methodLink "AddressClaimBusModel" (216 : Nat) ({ cls := "AddressClaimBusModel", name := "goOff", desc := "(I)V" } : MethodName)) ∈ zx_T := zx_mem tables_1_4 zx_l4 127 (by decide +kernel) (by decide +kernel)
theorem wd_849 : (Cond.instanceMethod ({ cls := "AddressClaimBusModel", name := "goOff", desc := "(I)V" } : MethodName)) ∈ zx_T := zx_mem tables_1_4 zx_l4 129 (by decide +kernel) (by decide +kernel)
theorem wd_850 : (Cond.code ({ cls := "AddressClaimBusModel", name := "goOff", desc := "(I)V" } : MethodName) prog_9_method_41_code (5 : Nat) (Option.none : Option FieldType)) ∈ zx_T := zx_mem tables_1_4 zx_l4 130 (by decide +kernel) (by decide +kernel)
theorem wd_851 : (Cond.methodLink "AddressClaimBusModel" (210 : Nat) ({ cls := "AddressClaimBusModel", name := "outgoingOff", desc := "(I)V" } : MethodName)) ∈ zx_T := zx_mem tables_1_4 zx_l4 131 (by decide +kernel) (by decide +kernel)
theorem wd_853 : (Cond.instanceMethod ({ cls := "AddressClaimBusModel", name := "outgoingOff", desc := "(I)V" } : MethodName)) ∈ zx_T := zx_mem tables_1_4 zx_l4 133 (by decide +kernel) (by decide +kernel)
theorem wd_854 : (Cond.code ({ cls := "AddressClaimBusModel", name := "outgoingOff", desc := "(I)V" } : MethodName) prog_9_method_42_code (2 : Nat) (Option.none : Option FieldType)) ∈ zx_T := zx_mem tables_1_4 zx_l4 134 (by decide +kernel) (by decide +kernel)
theorem wd_855 : (Cond.methodLink "AddressClaimBusLaw" (88 : Nat) ({ cls := "AddressClaimBusModel", name := "outgoing", desc := "(I)I" } : MethodName)) ∈ zx_T := zx_mem tables_1_4 zx_l4 135 (by decide +kernel) (by decide +kernel)
theorem wd_856 : (Cond.instanceMethod ({ cls := "AddressClaimBusModel", name := "outgoing", desc := "(I)I" } : MethodName)) ∈ zx_T := zx_mem tables_1_4 zx_l4 136 (by decide +kernel) (by decide +kernel)
theorem wd_857 : (Cond.selects "AddressClaimBusModel" ({ cls := "AddressClaimBusModel", name := "outgoing", desc := "(I)I" } : MethodName) ({ cls := "AddressClaimBusModel", name := "outgoing", desc := "(I)I" } : MethodName)) ∈ zx_T := zx_mem tables_1_4 zx_l4 137 (by decide +kernel) (by decide +kernel)
theorem wd_858 : (Cond.code ({ cls := "AddressClaimBusModel", name := "outgoing", desc := "(I)I" } : MethodName) prog_9_method_44_code (2 : Nat) (Option.some FieldType.int)) ∈ zx_T := zx_mem tables_1_4 zx_l4 138 (by decide +kernel) (by decide +kernel)
theorem wd_859 : (Cond.methodLink "AddressClaimBusLaw" (92 : Nat) ({ cls := "AddressClaimBusModel", name := "incoming", desc := "(I)I" } : MethodName)) ∈ zx_T := zx_mem tables_1_4 zx_l4 139 (by decide +kernel) (by decide +kernel)
theorem wd_860 : (Cond.instanceMethod ({ cls := "AddressClaimBusModel", name := "incoming", desc := "(I)I" } : MethodName)) ∈ zx_T := zx_mem tables_1_4 zx_l4 140 (by decide +kernel) (by decide +kernel)
theorem wd_861 : (Cond.selects "AddressClaimBusModel" ({ cls := "AddressClaimBusModel", name := "incoming", desc := "(I)I" } : MethodName) ({ cls := "AddressClaimBusModel", name := "incoming", desc := "(I)I" } : MethodName)) ∈ zx_T := zx_mem tables_1_4 zx_l4 141 (by decide +kernel) (by decide +kernel)
theorem wd_862 : (Cond.code ({ cls := "AddressClaimBusModel", name := "incoming", desc := "(I)I" } : MethodName) prog_9_method_45_code (2 : Nat) (Option.some FieldType.int)) ∈ zx_T := zx_mem tables_1_4 zx_l4 142 (by decide +kernel) (by decide +kernel)
theorem wd_863 : (Cond.methodLink "AddressClaimBusLaw" (96 : Nat) ({ cls := "AddressClaimBusModel", name := "delivered", desc := "(I)I" } : MethodName)) ∈ zx_T := zx_mem tables_1_4 zx_l4 143 (by decide +kernel) (by decide +kernel)
theorem wd_864 : (Cond.instanceMethod ({ cls := "AddressClaimBusModel", name := "delivered", desc := "(I)I" } : MethodName)) ∈ zx_T := zx_mem tables_1_4 zx_l4 144 (by decide +kernel) (by decide +kernel)
theorem wd_865 : (Cond.selects "AddressClaimBusModel" ({ cls := "AddressClaimBusModel", name := "delivered", desc := "(I)I" } : MethodName) ({ cls := "AddressClaimBusModel", name := "delivered", desc := "(I)I" } : MethodName)) ∈ zx_T := zx_mem tables_1_4 zx_l4 145 (by decide +kernel) (by decide +kernel)
theorem wd_866 : (Cond.code ({ cls := "AddressClaimBusModel", name := "delivered", desc := "(I)I" } : MethodName) prog_9_method_46_code (2 : Nat) (Option.some FieldType.int)) ∈ zx_T := zx_mem tables_1_4 zx_l4 146 (by decide +kernel) (by decide +kernel)
theorem wd_867 : (Cond.methodLink "AddressClaimBusLaw" (100 : Nat) ({ cls := "AddressClaimBusModel", name := "message", desc := "(II)I" } : MethodName)) ∈ zx_T := zx_mem tables_1_4 zx_l4 147 (by decide +kernel) (by decide +kernel)
theorem wd_868 : (Cond.instanceMethod ({ cls := "AddressClaimBusModel", name := "message", desc := "(II)I" } : MethodName)) ∈ zx_T := zx_mem tables_1_4 zx_l4 148 (by decide +kernel) (by decide +kernel)
theorem wd_869 : (Cond.selects "AddressClaimBusModel" ({ cls := "AddressClaimBusModel", name := "message", desc := "(II)I" } : MethodName) ({ cls := "AddressClaimBusModel", name := "message", desc := "(II)I" } : MethodName)) ∈ zx_T := zx_mem tables_1_4 zx_l4 149 (by decide +kernel) (by decide +kernel)
theorem wd_870 : (Cond.code ({ cls := "AddressClaimBusModel", name := "message", desc := "(II)I" } : MethodName) prog_9_method_47_code (3 : Nat) (Option.some FieldType.int)) ∈ zx_T := zx_mem tables_1_4 zx_l4 150 (by decide +kernel) (by decide +kernel)
theorem wd_871 : (Cond.methodLink "AddressClaimBusLaw" (104 : Nat) ({ cls := "AddressClaimBusModel", name := "byteOf", desc := "(II)I" } : MethodName)) ∈ zx_T := zx_mem tables_1_4 zx_l4 151 (by decide +kernel) (by decide +kernel)
theorem wd_872 : (Cond.instanceMethod ({ cls := "AddressClaimBusModel", name := "byteOf", desc := "(II)I" } : MethodName)) ∈ zx_T := zx_mem tables_1_4 zx_l4 152 (by decide +kernel) (by decide +kernel)
theorem wd_873 : (Cond.selects "AddressClaimBusModel" ({ cls := "AddressClaimBusModel", name := "byteOf", desc := "(II)I" } : MethodName) ({ cls := "AddressClaimBusModel", name := "byteOf", desc := "(II)I" } : MethodName)) ∈ zx_T := zx_mem tables_1_4 zx_l4 153 (by decide +kernel) (by decide +kernel)
theorem wd_874 : (Cond.code ({ cls := "AddressClaimBusModel", name := "byteOf", desc := "(II)I" } : MethodName) prog_9_method_48_code (3 : Nat) (Option.some FieldType.int)) ∈ zx_T := zx_mem tables_1_4 zx_l4 154 (by decide +kernel) (by decide +kernel)
theorem wd_875 : (Cond.constantLong "AddressClaimBusLaw" (13 : Nat) (4294967295 : Int64)) ∈ zx_T := zx_mem tables_1_4 zx_l4 155 (by decide +kernel) (by decide +kernel)
theorem wp_0 : (Cond.selects "AddressClaimBus" ({ cls := "AddressClaimBus", name := "isFunction", desc := "(I)Z" } : MethodName) ({ cls := "AddressClaimBus", name := "isFunction", desc := "(I)Z" } : MethodName)) ∈ zx_T := zx_mems 0 (by decide +kernel) (by decide +kernel)
theorem wp_1 : (Cond.selects "AddressClaimBus" ({ cls := "AddressClaimBus", name := "isOn", desc := "(I)Z" } : MethodName) ({ cls := "AddressClaimBus", name := "isOn", desc := "(I)Z" } : MethodName)) ∈ zx_T := zx_mems 1 (by decide +kernel) (by decide +kernel)
theorem wp_2 : (Cond.selects "AddressClaimBus" ({ cls := "AddressClaimBus", name := "isNameTaken", desc := "(J)Z" } : MethodName) ({ cls := "AddressClaimBus", name := "isNameTaken", desc := "(J)Z" } : MethodName)) ∈ zx_T := zx_mems 2 (by decide +kernel) (by decide +kernel)
theorem wp_3 : (Cond.selects "AddressClaimBus$Function" ({ cls := "AddressClaimBus$Function", name := "claim", desc := "(I)V" } : MethodName) ({ cls := "AddressClaimBus$Function", name := "claim", desc := "(I)V" } : MethodName)) ∈ zx_T := zx_mems 3 (by decide +kernel) (by decide +kernel)
theorem wp_4 : (Cond.selects "AddressClaimBus$Function" ({ cls := "AddressClaimBus$Function", name := "sendClaim", desc := "()V" } : MethodName) ({ cls := "AddressClaimBus$Function", name := "sendClaim", desc := "()V" } : MethodName)) ∈ zx_T := zx_mems 4 (by decide +kernel) (by decide +kernel)
theorem wp_5 : (Cond.selects "AddressClaimBus$Function" ({ cls := "AddressClaimBus$Function", name := "endSessions", desc := "()V" } : MethodName) ({ cls := "AddressClaimBus$Function", name := "endSessions", desc := "()V" } : MethodName)) ∈ zx_T := zx_mems 5 (by decide +kernel) (by decide +kernel)
theorem wp_6 : (Cond.selects "AddressClaimBus$Bus" ({ cls := "AddressClaimBus$Bus", name := "move", desc := "(II)V" } : MethodName) ({ cls := "AddressClaimBus$Bus", name := "move", desc := "(II)V" } : MethodName)) ∈ zx_T := zx_mems 6 (by decide +kernel) (by decide +kernel)
theorem wp_7 : (Cond.selects "AddressClaimBus$Function" ({ cls := "AddressClaimBus$Function", name := "takeClaim", desc := "(IIJ)V" } : MethodName) ({ cls := "AddressClaimBus$Function", name := "takeClaim", desc := "(IIJ)V" } : MethodName)) ∈ zx_T := zx_mems 7 (by decide +kernel) (by decide +kernel)
theorem wp_8 : (Cond.selects "AddressClaimBus$Function" ({ cls := "AddressClaimBus$Function", name := "isNameLessThan", desc := "(J)Z" } : MethodName) ({ cls := "AddressClaimBus$Function", name := "isNameLessThan", desc := "(J)Z" } : MethodName)) ∈ zx_T := zx_mems 8 (by decide +kernel) (by decide +kernel)
theorem wp_9 : (Cond.selects "AddressClaimBus$Function" ({ cls := "AddressClaimBus$Function", name := "loseAddress", desc := "()V" } : MethodName) ({ cls := "AddressClaimBus$Function", name := "loseAddress", desc := "()V" } : MethodName)) ∈ zx_T := zx_mems 9 (by decide +kernel) (by decide +kernel)
theorem wp_10 : (Cond.selects "AddressClaimBus$Function" ({ cls := "AddressClaimBus$Function", name := "spareAddress", desc := "()I" } : MethodName) ({ cls := "AddressClaimBus$Function", name := "spareAddress", desc := "()I" } : MethodName)) ∈ zx_T := zx_mems 10 (by decide +kernel) (by decide +kernel)
theorem wp_11 : (Cond.selects "AddressClaimBus$Function" ({ cls := "AddressClaimBus$Function", name := "isNoted", desc := "(I)Z" } : MethodName) ({ cls := "AddressClaimBus$Function", name := "isNoted", desc := "(I)Z" } : MethodName)) ∈ zx_T := zx_mems 11 (by decide +kernel) (by decide +kernel)
theorem wp_12 : (Cond.selects "AddressClaimBus$Function" ({ cls := "AddressClaimBus$Function", name := "takeControl", desc := "(IJ)V" } : MethodName) ({ cls := "AddressClaimBus$Function", name := "takeControl", desc := "(IJ)V" } : MethodName)) ∈ zx_T := zx_mems 12 (by decide +kernel) (by decide +kernel)
theorem wp_13 : (Cond.selects "AddressClaimBus$Function" ({ cls := "AddressClaimBus$Function", name := "takeOpening", desc := "(IIJZ)V" } : MethodName) ({ cls := "AddressClaimBus$Function", name := "takeOpening", desc := "(IIJZ)V" } : MethodName)) ∈ zx_T := zx_mems 13 (by decide +kernel) (by decide +kernel)
theorem wp_14 : (Cond.selects "AddressClaimBus$Function" ({ cls := "AddressClaimBus$Function", name := "roomForIncoming", desc := "()LAddressClaimBus$Incoming;" } : MethodName) ({ cls := "AddressClaimBus$Function", name := "roomForIncoming", desc := "()LAddressClaimBus$Incoming;" } : MethodName)) ∈ zx_T := zx_mems 14 (by decide +kernel) (by decide +kernel)
theorem wp_15 : (Cond.selects "AddressClaimBus$Incoming" ({ cls := "AddressClaimBus$Incoming", name := "grant", desc := "()V" } : MethodName) ({ cls := "AddressClaimBus$Incoming", name := "grant", desc := "()V" } : MethodName)) ∈ zx_T := zx_mems 15 (by decide +kernel) (by decide +kernel)
theorem wp_16 : (Cond.selects "AddressClaimBus$Outgoing" ({ cls := "AddressClaimBus$Outgoing", name := "sendPacket", desc := "(I)V" } : MethodName) ({ cls := "AddressClaimBus$Outgoing", name := "sendPacket", desc := "(I)V" } : MethodName)) ∈ zx_T := zx_mems 16 (by decide +kernel) (by decide +kernel)
theorem wp_17 : (Cond.selects "AddressClaimBus$Function" ({ cls := "AddressClaimBus$Function", name := "abortIncoming", desc := "(II)V" } : MethodName) ({ cls := "AddressClaimBus$Function", name := "abortIncoming", desc := "(II)V" } : MethodName)) ∈ zx_T := zx_mems 17 (by decide +kernel) (by decide +kernel)
theorem wp_18 : (Cond.selects "AddressClaimBus$Function" ({ cls := "AddressClaimBus$Function", name := "takePacket", desc := "(IZJ)V" } : MethodName) ({ cls := "AddressClaimBus$Function", name := "takePacket", desc := "(IZJ)V" } : MethodName)) ∈ zx_T := zx_mems 18 (by decide +kernel) (by decide +kernel)
theorem wp_19 : (Cond.selects "AddressClaimBus$Incoming" ({ cls := "AddressClaimBus$Incoming", name := "keepExpected", desc := "(J)V" } : MethodName) ({ cls := "AddressClaimBus$Incoming", name := "keepExpected", desc := "(J)V" } : MethodName)) ∈ zx_T := zx_mems 19 (by decide +kernel) (by decide +kernel)
theorem wp_20 : (Cond.selects "AddressClaimBus$Incoming" ({ cls := "AddressClaimBus$Incoming", name := "isWhole", desc := "()Z" } : MethodName) ({ cls := "AddressClaimBus$Incoming", name := "isWhole", desc := "()Z" } : MethodName)) ∈ zx_T := zx_mems 20 (by decide +kernel) (by decide +kernel)
theorem wp_21 : (Cond.selects "AddressClaimBus$Incoming" ({ cls := "AddressClaimBus$Incoming", name := "askAgain", desc := "(I)V" } : MethodName) ({ cls := "AddressClaimBus$Incoming", name := "askAgain", desc := "(I)V" } : MethodName)) ∈ zx_T := zx_mems 21 (by decide +kernel) (by decide +kernel)
theorem wp_22 : (Cond.selects "AddressClaimBus" ({ cls := "AddressClaimBus", name := "firstDue", desc := "()I" } : MethodName) ({ cls := "AddressClaimBus", name := "firstDue", desc := "()I" } : MethodName)) ∈ zx_T := zx_mems 22 (by decide +kernel) (by decide +kernel)
theorem wp_23 : (Cond.selects "AddressClaimBus$Outgoing" ({ cls := "AddressClaimBus$Outgoing", name := "sendNextToAll", desc := "()V" } : MethodName) ({ cls := "AddressClaimBus$Outgoing", name := "sendNextToAll", desc := "()V" } : MethodName)) ∈ zx_T := zx_mems 23 (by decide +kernel) (by decide +kernel)
theorem wp_24 : (Cond.selects "AddressClaimBus" ({ cls := "AddressClaimBus", name := "hasMessage", desc := "(I)Z" } : MethodName) ({ cls := "AddressClaimBus", name := "hasMessage", desc := "(I)Z" } : MethodName)) ∈ zx_T := zx_mems 24 (by decide +kernel) (by decide +kernel)
theorem wp_25 : (Cond.selects "AddressClaimBusModel" ({ cls := "AddressClaimBusModel", name := "next", desc := "()I" } : MethodName) ({ cls := "AddressClaimBusModel", name := "next", desc := "()I" } : MethodName)) ∈ zx_T := zx_mems 25 (by decide +kernel) (by decide +kernel)
theorem wp_26 : (Cond.selects "AddressClaimBusModel" ({ cls := "AddressClaimBusModel", name := "takeAway", desc := "(I)V" } : MethodName) ({ cls := "AddressClaimBusModel", name := "takeAway", desc := "(I)V" } : MethodName)) ∈ zx_T := zx_mems 26 (by decide +kernel) (by decide +kernel)
theorem wp_27 : (Cond.selects "AddressClaimBusModel" ({ cls := "AddressClaimBusModel", name := "reach", desc := "(IIIIIJ)V" } : MethodName) ({ cls := "AddressClaimBusModel", name := "reach", desc := "(IIIIIJ)V" } : MethodName)) ∈ zx_T := zx_mems 27 (by decide +kernel) (by decide +kernel)
theorem wp_28 : (Cond.selects "AddressClaimBusModel" ({ cls := "AddressClaimBusModel", name := "claimed", desc := "(IIIJ)V" } : MethodName) ({ cls := "AddressClaimBusModel", name := "claimed", desc := "(IIIJ)V" } : MethodName)) ∈ zx_T := zx_mems 28 (by decide +kernel) (by decide +kernel)
theorem wp_29 : (Cond.selects "AddressClaimBusModel" ({ cls := "AddressClaimBusModel", name := "spare", desc := "(I)I" } : MethodName) ({ cls := "AddressClaimBusModel", name := "spare", desc := "(I)I" } : MethodName)) ∈ zx_T := zx_mems 29 (by decide +kernel) (by decide +kernel)
theorem wp_30 : (Cond.selects "AddressClaimBusModel" ({ cls := "AddressClaimBusModel", name := "putClaim", desc := "(I)V" } : MethodName) ({ cls := "AddressClaimBusModel", name := "putClaim", desc := "(I)V" } : MethodName)) ∈ zx_T := zx_mems 30 (by decide +kernel) (by decide +kernel)
theorem wp_31 : (Cond.selects "AddressClaimBusModel" ({ cls := "AddressClaimBusModel", name := "put", desc := "(IIIIJ)V" } : MethodName) ({ cls := "AddressClaimBusModel", name := "put", desc := "(IIIIJ)V" } : MethodName)) ∈ zx_T := zx_mems 31 (by decide +kernel) (by decide +kernel)
theorem wp_32 : (Cond.selects "AddressClaimBusModel" ({ cls := "AddressClaimBusModel", name := "source", desc := "(I)I" } : MethodName) ({ cls := "AddressClaimBusModel", name := "source", desc := "(I)I" } : MethodName)) ∈ zx_T := zx_mems 32 (by decide +kernel) (by decide +kernel)
theorem wp_33 : (Cond.selects "AddressClaimBusModel" ({ cls := "AddressClaimBusModel", name := "control", desc := "(IIIJ)V" } : MethodName) ({ cls := "AddressClaimBusModel", name := "control", desc := "(IIIJ)V" } : MethodName)) ∈ zx_T := zx_mems 33 (by decide +kernel) (by decide +kernel)
theorem wp_34 : (Cond.selects "AddressClaimBusModel" ({ cls := "AddressClaimBusModel", name := "find", desc := "(IIZ)I" } : MethodName) ({ cls := "AddressClaimBusModel", name := "find", desc := "(IIZ)I" } : MethodName)) ∈ zx_T := zx_mems 34 (by decide +kernel) (by decide +kernel)
theorem wp_35 : (Cond.selects "AddressClaimBusModel" ({ cls := "AddressClaimBusModel", name := "opened", desc := "(IIIIZ)V" } : MethodName) ({ cls := "AddressClaimBusModel", name := "opened", desc := "(IIIIZ)V" } : MethodName)) ∈ zx_T := zx_mems 35 (by decide +kernel) (by decide +kernel)
theorem wp_36 : (Cond.selects "AddressClaimBusModel" ({ cls := "AddressClaimBusModel", name := "close", desc := "(II)V" } : MethodName) ({ cls := "AddressClaimBusModel", name := "close", desc := "(II)V" } : MethodName)) ∈ zx_T := zx_mems 36 (by decide +kernel) (by decide +kernel)
theorem wp_37 : (Cond.selects "AddressClaimBusModel" ({ cls := "AddressClaimBusModel", name := "putAbort", desc := "(IIII)V" } : MethodName) ({ cls := "AddressClaimBusModel", name := "putAbort", desc := "(IIII)V" } : MethodName)) ∈ zx_T := zx_mems 37 (by decide +kernel) (by decide +kernel)
theorem wp_38 : (Cond.selects "AddressClaimBusModel" ({ cls := "AddressClaimBusModel", name := "putControl", desc := "(IIIIIII)V" } : MethodName) ({ cls := "AddressClaimBusModel", name := "putControl", desc := "(IIIIIII)V" } : MethodName)) ∈ zx_T := zx_mems 38 (by decide +kernel) (by decide +kernel)
theorem wp_39 : (Cond.selects "AddressClaimBusModel" ({ cls := "AddressClaimBusModel", name := "grant", desc := "(II)V" } : MethodName) ({ cls := "AddressClaimBusModel", name := "grant", desc := "(II)V" } : MethodName)) ∈ zx_T := zx_mems 39 (by decide +kernel) (by decide +kernel)
theorem wp_40 : (Cond.selects "AddressClaimBusModel" ({ cls := "AddressClaimBusModel", name := "granted", desc := "(III)V" } : MethodName) ({ cls := "AddressClaimBusModel", name := "granted", desc := "(III)V" } : MethodName)) ∈ zx_T := zx_mems 40 (by decide +kernel) (by decide +kernel)
theorem wp_41 : (Cond.selects "AddressClaimBusModel" ({ cls := "AddressClaimBusModel", name := "putPacket", desc := "(II)V" } : MethodName) ({ cls := "AddressClaimBusModel", name := "putPacket", desc := "(II)V" } : MethodName)) ∈ zx_T := zx_mems 41 (by decide +kernel) (by decide +kernel)
theorem wp_42 : (Cond.selects "AddressClaimBusModel" ({ cls := "AddressClaimBusModel", name := "finish", desc := "(II)V" } : MethodName) ({ cls := "AddressClaimBusModel", name := "finish", desc := "(II)V" } : MethodName)) ∈ zx_T := zx_mems 42 (by decide +kernel) (by decide +kernel)
theorem wp_43 : (Cond.selects "AddressClaimBusModel" ({ cls := "AddressClaimBusModel", name := "packet", desc := "(IIIJ)V" } : MethodName) ({ cls := "AddressClaimBusModel", name := "packet", desc := "(IIIJ)V" } : MethodName)) ∈ zx_T := zx_mems 43 (by decide +kernel) (by decide +kernel)
theorem wp_44 : (Cond.selects "AddressClaimBusModel" ({ cls := "AddressClaimBusModel", name := "keep", desc := "(IIIJ)V" } : MethodName) ({ cls := "AddressClaimBusModel", name := "keep", desc := "(IIIJ)V" } : MethodName)) ∈ zx_T := zx_mems 44 (by decide +kernel) (by decide +kernel)
theorem wp_45 : (Cond.selects "AddressClaimBusModel" ({ cls := "AddressClaimBusModel", name := "askAgain", desc := "(III)V" } : MethodName) ({ cls := "AddressClaimBusModel", name := "askAgain", desc := "(III)V" } : MethodName)) ∈ zx_T := zx_mems 45 (by decide +kernel) (by decide +kernel)
theorem wp_46 : (Cond.selects "AddressClaimBusModel" ({ cls := "AddressClaimBusModel", name := "on", desc := "(I)Z" } : MethodName) ({ cls := "AddressClaimBusModel", name := "on", desc := "(I)Z" } : MethodName)) ∈ zx_T := zx_mems 46 (by decide +kernel) (by decide +kernel)
theorem wp_47 : (Cond.selects "AddressClaimBusModel" ({ cls := "AddressClaimBusModel", name := "due", desc := "(I)I" } : MethodName) ({ cls := "AddressClaimBusModel", name := "due", desc := "(I)I" } : MethodName)) ∈ zx_T := zx_mems 47 (by decide +kernel) (by decide +kernel)
theorem wp_48 : (Cond.selects "AddressClaimBusModel" ({ cls := "AddressClaimBusModel", name := "goOff", desc := "(I)V" } : MethodName) ({ cls := "AddressClaimBusModel", name := "goOff", desc := "(I)V" } : MethodName)) ∈ zx_T := zx_mems 48 (by decide +kernel) (by decide +kernel)
theorem wp_49 : (Cond.selects "AddressClaimBusModel" ({ cls := "AddressClaimBusModel", name := "outgoingOff", desc := "(I)V" } : MethodName) ({ cls := "AddressClaimBusModel", name := "outgoingOff", desc := "(I)V" } : MethodName)) ∈ zx_T := zx_mems 49 (by decide +kernel) (by decide +kernel)
end
section
/-! A judgement over a heap that is a function: zx_X (the machine at a place of a method, heap h of n cells, comes to the method's end with Q), zx_Ok (a method's contract). Rows of the kit, each turned once. -/
abbrev zxH : Type := Nat → Option va_E
/-- launch, the first address of ours, the kinds' numbers and slots, the arrays' numbers -/
abbrev zxE : Type := Launch × Nat × va_G × (Nat → ClassId)
/-- a method: whose it is, its name, code, locals, return type, room, cells and slots that it makes -/
abbrev zxM : Type := String × String × ByteArray × Nat × Option FieldType × Room × Nat × Nat
def zx_tys (dA : Nat → ClassId) : List (ClassId × FieldType) := [(dA 0, .int), (dA 1, .long), (dA 2, .boolean), (dA 3, .object "AddressClaimBus$Function"), (dA 4, .object "AddressClaimBus$Incoming")]
def zx_cz (dA : Nat → ClassId) : va_E → va_E
  | .inl x => .inl (dA x.1, x.2)
  | .inr o => .inr o
def zx_R (E : zxE) (h : zxH) (n : Nat) (H : Heap) : Prop := H.size = n ∧ E.2.1 ≤ n ∧ ∀ (a : Nat) (e : va_E), h a = some e → E.2.1 ≤ a ∧ va_at E.2.2.1 vwCl (a, zx_cz E.2.2.2 e) H
def zx_A (E : zxE) : Nat → Prop := fun q => E.2.1 ≤ q
def zx_Q (E : zxE) (Q : Option Value → zxH → Nat → Prop) : Array Value → State → Outcome → State → Prop := fun _ st oc t => (∃ (r : Option Value) (h : zxH) (n : Nat), oc = .returned r ∧ Q r h n ∧ zx_R E h n t.heap) ∧ va_F (zx_A E) st t
def zx_K (E : zxE) (U : State) : Prop := va_K E.2.2.1 vwCl (zx_tys E.2.2.2) U ∧ (∀ q ∈ zx_N, va_Nw (.methodLinkNest q.1 q.2.1 q.2.2 "AddressClaimBus") U) ∧ ∀ C ∈ zx_AO, va_AO C U
theorem zx_K.warm {E : zxE} {s U : State} (hW : s.WarmedH U.vm) (h : zx_K E s) : zx_K E U := ⟨va_K.moved hW.alike h.1, fun q hq => va_Nw.warmM hW (h.2.1 q hq), fun C hC => va_AO.moved hW.alike (h.2.2 C hC)⟩
/-- what is known of the start, and what is to be reached -/
abbrev zxY : Type := (State → Prop) × (List Frame → Array Value → State → State → Prop)
def zx_C (E : zxE) (M : zxM) (Y : zxY) (p : Program) (s : State) (m : MethodId) (args : Array Value) (meth : Method) (c : Code) : Prop :=
  p.tables.exec = Jvm.exec ∧ c.code = M.2.2.1 ∧ c.maxLocals = M.2.2.2.1 ∧ s.vm.findClass M.1 = some m.cls ∧ (∀ w ∈ zx_T, w.before args s = true) ∧ meth.sig.returnType = M.2.2.2.2.1 ∧ meth.locks = false ∧ meth.name = M.2.1 ∧ zx_K E s ∧ Y.1 s
def zx_as : Nat → List (Option Value) → List (Nat × Value)
  | _, [] => []
  | i, none :: r => zx_as (i + 1) r
  | i, some v :: r => (i, v) :: zx_as (i + 1) r
def zx_nth : List (Option Value) → Nat → Option Value
  | [], _ => none
  | a :: _, 0 => a
  | _ :: r, j + 1 => zx_nth r j
def zx_X (E : zxE) (M : zxM) (Y : zxY) (pc : Nat) (L : List (Option Value)) (st : List Value) (h : zxH) (n cells slots : Nat) : Prop :=
  ∀ (p : Program) (e : Env) (s : State) (m : MethodId) (args : Array Value) (below : List Frame) (meth : Method) (c : Code) (ls : Array Slot) (H : Heap) (locs : List Loc),
    zx_C E M Y p s m args meth c → lv_has ls M.2.2.2.1 (zx_as 0 L) → zx_R E h n H → va_S (zx_A E) s.heap H locs → E.2.1 ≤ s.heap.size →
    W p E.1 e M.2.2.2.2.2.1 s m args below meth c H locs cells slots (Y.2 below args s) (F0 m pc ls st)
def zx_Y (E : zxE) (M : zxM) (Q : Option Value → zxH → Nat → Prop) : zxY := (fun _ => True, fun below args s => MQ below (zx_Q E Q) args s M.2.2.2.2.2.2.1 M.2.2.2.2.2.2.2 (zx_A E))
def zx_Ok (E : zxE) (y : MethodName) (M : zxM) (av : List Value) (h : zxH) (n : Nat) (Q : Option Value → zxH → Nat → Prop) : Prop :=
  Met E.1 y (.code y M.2.2.1 M.2.2.2.1 M.2.2.2.2.1 :: zx_T) M.2.2.2.2.2.1 (va_Pc av (fun U => zx_R E h n U.heap ∧ zx_K E U)) (zx_Q E Q) M.2.2.2.2.2.2.1 M.2.2.2.2.2.2.2 (zx_A E)
theorem zx_as_mem : ∀ (L : List (Option Value)) (i j : Nat) (v : Value), zx_nth L j = some v → (i + j, v) ∈ zx_as i L
  | [], i, j, v, h => by cases h
  | none :: r, i, 0, v, h => by cases h
  | none :: r, i, j + 1, v, h => by
    have := zx_as_mem r (i + 1) j v h
    rw [show i + (j + 1) = i + 1 + j by omega]
    exact this
  | some w :: r, i, 0, v, h => by
    have h1 : w = v := Option.some.inj h
    subst h1
    exact List.mem_cons_self
  | some w :: r, i, j + 1, v, h => by
    have := zx_as_mem r (i + 1) j v h
    rw [show i + (j + 1) = i + 1 + j by omega]
    exact List.mem_cons_of_mem _ this
theorem zx_as_inv : ∀ (L : List (Option Value)) (i : Nat) (q : Nat × Value), q ∈ zx_as i L → i ≤ q.1 ∧ zx_nth L (q.1 - i) = some q.2
  | [], i, q, h => by cases h
  | none :: r, i, q, h => by
    obtain ⟨h1, h2⟩ := zx_as_inv r (i + 1) q h
    refine ⟨by omega, ?_⟩
    rw [show q.1 - i = (q.1 - (i + 1)) + 1 by omega]
    exact h2
  | some w :: r, i, q, h => by
    rcases List.mem_cons.mp h with rfl | h
    · exact ⟨Nat.le_refl _, by rw [Nat.sub_self]; rfl⟩
    · obtain ⟨h1, h2⟩ := zx_as_inv r (i + 1) q h
      refine ⟨by omega, ?_⟩
      rw [show q.1 - i = (q.1 - (i + 1)) + 1 by omega]
      exact h2
theorem zx_lat {ls : Array Slot} {nL : Nat} {L : List (Option Value)} (h : lv_has ls nL (zx_as 0 L)) {j : Nat} {v : Value} (hj : zx_nth L j = some v) : ls[j]? = some (.val v) := by
  have := h.2.2 _ (zx_as_mem L 0 j v hj)
  rw [Nat.zero_add] at this
  exact this
def zx_ok1 (i : Nat) (v : Value) (L L' : List (Option Value)) : Prop := ∀ (j : Nat) (w : Value), zx_nth L' j = some w → (j = i ∧ w = v) ∨ (j ≠ i ∧ zx_nth L j = some w ∧ ¬ (j + 1 = i ∧ w.category = 2))
def zx_ok2 (i : Nat) (v : Value) (L L' : List (Option Value)) : Prop := ∀ (j : Nat) (w : Value), zx_nth L' j = some w → (j = i ∧ w = v) ∨ (j ≠ i ∧ j ≠ i + 1 ∧ zx_nth L j = some w ∧ ¬ (j + 1 = i ∧ w.category = 2))
theorem zx_ok1_has {i nL : Nat} {v : Value} {L L' : List (Option Value)} {ls : Array Slot} (hL : zx_ok1 i v L L') (h : lv_has ls nL ((i, v) :: (zx_as 0 L).filter (fun q => !(q.1 == i) && !(q.1 + 1 == i && q.2.category == 2)))) : lv_has ls nL (zx_as 0 L') := by
  refine ⟨h.1, h.2.1, fun q hq => h.2.2 q ?_⟩
  have h1 := (zx_as_inv L' 0 q hq).2
  rw [Nat.sub_zero] at h1
  rcases hL q.1 q.2 h1 with ⟨a, b⟩ | ⟨a, b, d⟩
  · have : q = (i, v) := by rw [← a, ← b]
    rw [this]
    exact List.mem_cons_self
  · refine List.mem_cons_of_mem _ (List.mem_filter.mpr ⟨?_, ?_⟩)
    · have := zx_as_mem L 0 q.1 q.2 b
      rw [Nat.zero_add] at this
      exact this
    · by_cases e1 : q.1 + 1 = i
      · have e2 : ¬ q.2.category = 2 := fun z => d ⟨e1, z⟩
        simp [a, e2]
      · simp [a, e1]
theorem zx_ok2_has {i nL : Nat} {v : Value} {L L' : List (Option Value)} {ls : Array Slot} (hL : zx_ok2 i v L L') (h : lv_has ls nL ((i, v) :: (zx_as 0 L).filter (fun q => !(q.1 == i) && (!(q.1 == i + 1) && !(q.1 + 1 == i && q.2.category == 2))))) : lv_has ls nL (zx_as 0 L') := by
  refine ⟨h.1, h.2.1, fun q hq => h.2.2 q ?_⟩
  have h1 := (zx_as_inv L' 0 q hq).2
  rw [Nat.sub_zero] at h1
  rcases hL q.1 q.2 h1 with ⟨a, b⟩ | ⟨a, a2, b, d⟩
  · have : q = (i, v) := by rw [← a, ← b]
    rw [this]
    exact List.mem_cons_self
  · refine List.mem_cons_of_mem _ (List.mem_filter.mpr ⟨?_, ?_⟩)
    · have := zx_as_mem L 0 q.1 q.2 b
      rw [Nat.zero_add] at this
      exact this
    · by_cases e1 : q.1 + 1 = i
      · have e2 : ¬ q.2.category = 2 := fun z => d ⟨e1, z⟩
        simp [a, a2, e2]
      · simp [a, a2, e1]
def zx_n2 : Option Value → Bool
  | some (.long _) => false
  | some (.double _) => false
  | _ => true
theorem zx_n2_cat {w : Value} (h : zx_n2 (some w) = true) : ¬ w.category = 2 := by
  cases w <;> first | (cases h; done) | (intro z; cases z)
theorem zx_nth_app : ∀ (pre r : List (Option Value)) (j : Nat), zx_nth (pre ++ r) j = if j < pre.length then zx_nth pre j else zx_nth r (j - pre.length)
  | [], r, j => by simp
  | a :: pre, r, 0 => by simp [zx_nth]
  | a :: pre, r, j + 1 => by
    have := zx_nth_app pre r j
    simp only [List.cons_append, zx_nth, this, List.length_cons, Nat.add_lt_add_iff_right, Nat.add_sub_add_right]
theorem zx_ok1_gen (pre : List (Option Value)) (y : Option Value) (rr : List (Option Value)) (v : Value) (hc : ∀ w, zx_nth pre (pre.length - 1) = some w → ¬ w.category = 2) : zx_ok1 pre.length v (pre ++ y :: rr) (pre ++ some v :: rr) := by
  intro j w hw
  rw [zx_nth_app] at hw
  by_cases h1 : j < pre.length
  · rw [if_pos h1] at hw
    refine Or.inr ⟨by omega, by rw [zx_nth_app, if_pos h1]; exact hw, fun z => ?_⟩
    refine hc w ?_ z.2
    rw [show pre.length - 1 = j by omega]
    exact hw
  · rw [if_neg h1] at hw
    by_cases h2 : j = pre.length
    · subst h2
      rw [Nat.sub_self] at hw
      exact Or.inl ⟨rfl, (Option.some.inj hw).symm⟩
    · obtain ⟨d, hd⟩ : ∃ d, j - pre.length = d + 1 := ⟨j - pre.length - 1, by omega⟩
      rw [hd] at hw
      refine Or.inr ⟨h2, ?_, fun z => by omega⟩
      rw [zx_nth_app, if_neg h1, hd]
      exact hw
theorem zx_ok2_gen (pre : List (Option Value)) (y y' : Option Value) (rr : List (Option Value)) (v : Value) (hc : ∀ w, zx_nth pre (pre.length - 1) = some w → ¬ w.category = 2) : zx_ok2 pre.length v (pre ++ y :: y' :: rr) (pre ++ some v :: none :: rr) := by
  intro j w hw
  rw [zx_nth_app] at hw
  by_cases h1 : j < pre.length
  · rw [if_pos h1] at hw
    refine Or.inr ⟨by omega, by omega, by rw [zx_nth_app, if_pos h1]; exact hw, fun z => ?_⟩
    refine hc w ?_ z.2
    rw [show pre.length - 1 = j by omega]
    exact hw
  · rw [if_neg h1] at hw
    by_cases h2 : j = pre.length
    · subst h2
      rw [Nat.sub_self] at hw
      exact Or.inl ⟨rfl, (Option.some.inj hw).symm⟩
    · by_cases h3 : j = pre.length + 1
      · subst h3
        rw [show pre.length + 1 - pre.length = 1 by omega] at hw
        cases hw
      · obtain ⟨d, hd⟩ : ∃ d, j - pre.length = d + 1 + 1 := ⟨j - pre.length - 2, by omega⟩
        rw [hd] at hw
        refine Or.inr ⟨h2, h3, ?_, fun z => by omega⟩
        rw [zx_nth_app, if_neg h1, hd]
        exact hw
theorem zx_n2_last {pre : List (Option Value)} {o : Option Value} {k : Nat} (hk : zx_nth pre k = o) (h : zx_n2 o = true) : ∀ w, zx_nth pre k = some w → ¬ w.category = 2 := by
  intro w hw
  rw [hk] at hw
  rw [hw] at h
  exact zx_n2_cat h
theorem zx_R.one {E : zxE} {h : zxH} {n : Nat} {H : Heap} (hR : zx_R E h n H) {a : Nat} {e : va_E} (ha : h a = some e) : va_P E.2.2.1 vwCl [(a, zx_cz E.2.2.2 e)] H := by
  intro k q hk
  match k, hk with
  | 0, hk =>
    cases hk
    exact (hR.2.2 a e ha).2
def zx_up (h : zxH) (a : Nat) (e : va_E) : zxH := fun q => if q = a then some e else h q
theorem zx_R.set {E : zxE} {h : zxH} {n : Nat} {H H1 : Heap} (hR : zx_R E h n H) {a : Nat} {e e0 : va_E} (ha : h a = some e0) (he : va_at E.2.2.1 vwCl (a, zx_cz E.2.2.2 e) H1) (hz : H1.size = H.size) (oq : ∀ q : Nat, q ≠ a → H1[q]? = H[q]?) : zx_R E (zx_up h a e) n H1 := by
  refine ⟨hz.trans hR.1, hR.2.1, fun b x hb => ?_⟩
  unfold zx_up at hb
  by_cases hba : b = a
  · subst hba
    rw [if_pos rfl] at hb
    cases hb
    exact ⟨(hR.2.2 _ _ ha).1, he⟩
  · rw [if_neg hba] at hb
    exact ⟨(hR.2.2 b x hb).1, ((hR.2.2 b x hb).2).kept (oq b hba)⟩
theorem zx_R.new {E : zxE} {h : zxH} {n : Nat} {H H1 : Heap} (hR : zx_R E h n H) {e : va_E} (he : va_at E.2.2.1 vwCl (n, zx_cz E.2.2.2 e) H1) (hz : H1.size = n + 1) (oq : ∀ q : Nat, q < n → H1[q]? = H[q]?) : zx_R E (zx_up h n e) (n + 1) H1 := by
  refine ⟨hz, Nat.le_succ_of_le hR.2.1, fun b x hb => ?_⟩
  unfold zx_up at hb
  by_cases hba : b = n
  · subst hba
    rw [if_pos rfl] at hb
    cases hb
    exact ⟨hR.2.1, he⟩
  · rw [if_neg hba] at hb
    have h1 := (hR.2.2 b x hb).2
    have hl : b < H.size := h1.lt
    exact ⟨(hR.2.2 b x hb).1, h1.kept (oq b (by rw [← hR.1]; exact hl))⟩
def zx_Cl (ci : Nat) (C : String) (T : u_T) (N : Nat) (ty : Nat → FieldType) : Prop :=
  vwCl[ci]? = some (C, T, N) ∧ (∀ w ∈ u_ws C T N, w ∈ zx_T) ∧ (∀ k, k < N → parseFieldDescriptor (T k).2.2.1 = some (ty k)) ∧ (∀ a, a < N → ∀ b, b < N → a ≠ b → (T a).2.1 ≠ (T b).2.1)
/-- a field that instructions name by the number idx: of the kind ci the k-th, of type t, final or not -/
def zx_Fl (own : String) (idx ci k : Nat) (t : FieldType) (fin : Bool) : Prop :=
  ∃ (C : String) (T : u_T) (N : Nat) (ty : Nat → FieldType), zx_Cl ci C T N ty ∧ k < N ∧ Cond.fieldLink own idx (T k).1 (T k).2.1 (T k).2.2.1 ∈ zx_T ∧ ty k = t ∧ (T k).2.2.2 = fin ∧ (T k).1 = C
section ZX
variable {E : zxE} {M : zxM} {Y : zxY} {Q : Option Value → zxH → Nat → Prop} {pc q cells slots n : Nat} {L : List (Option Value)} {st : List Value} {h : zxH}
theorem zx_iadd {x y : Int32} (hd : decode M.2.2.1 pc = .ok (.iadd, 1)) (hq : pc + 1 = q) (k : zx_X E M Y q L (.int (x + y) :: st) h n cells slots) : zx_X E M Y pc L (.int y :: .int x :: st) h n cells slots := by
  subst hq
  exact fun p e s m args below meth c ls H locs C hl hR hS hb => lv_iadd C.1 C.2.1 hd (k p e s m args below meth c ls H locs C hl hR hS hb)
theorem zx_isub {x y : Int32} (hd : decode M.2.2.1 pc = .ok (.isub, 1)) (hq : pc + 1 = q) (k : zx_X E M Y q L (.int (x - y) :: st) h n cells slots) : zx_X E M Y pc L (.int y :: .int x :: st) h n cells slots := by
  subst hq
  exact fun p e s m args below meth c ls H locs C hl hR hS hb => lv_isub C.1 C.2.1 hd (k p e s m args below meth c ls H locs C hl hR hS hb)
theorem zx_imul {x y : Int32} (hd : decode M.2.2.1 pc = .ok (.imul, 1)) (hq : pc + 1 = q) (k : zx_X E M Y q L (.int (x * y) :: st) h n cells slots) : zx_X E M Y pc L (.int y :: .int x :: st) h n cells slots := by
  subst hq
  exact fun p e s m args below meth c ls H locs C hl hR hS hb => lv_imul C.1 C.2.1 hd (k p e s m args below meth c ls H locs C hl hR hS hb)
theorem zx_iand {x y : Int32} (hd : decode M.2.2.1 pc = .ok (.iand, 1)) (hq : pc + 1 = q) (k : zx_X E M Y q L (.int (x &&& y) :: st) h n cells slots) : zx_X E M Y pc L (.int y :: .int x :: st) h n cells slots := by
  subst hq
  exact fun p e s m args below meth c ls H locs C hl hR hS hb => lv_iand C.1 C.2.1 hd (k p e s m args below meth c ls H locs C hl hR hS hb)
theorem zx_ior {x y : Int32} (hd : decode M.2.2.1 pc = .ok (.ior, 1)) (hq : pc + 1 = q) (k : zx_X E M Y q L (.int (x ||| y) :: st) h n cells slots) : zx_X E M Y pc L (.int y :: .int x :: st) h n cells slots := by
  subst hq
  exact fun p e s m args below meth c ls H locs C hl hR hS hb => lv_ior C.1 C.2.1 hd (k p e s m args below meth c ls H locs C hl hR hS hb)
theorem zx_ixor {x y : Int32} (hd : decode M.2.2.1 pc = .ok (.ixor, 1)) (hq : pc + 1 = q) (k : zx_X E M Y q L (.int (x ^^^ y) :: st) h n cells slots) : zx_X E M Y pc L (.int y :: .int x :: st) h n cells slots := by
  subst hq
  exact fun p e s m args below meth c ls H locs C hl hR hS hb => lv_ixor C.1 C.2.1 hd (k p e s m args below meth c ls H locs C hl hR hS hb)
theorem zx_ladd {x y : Int64} (hd : decode M.2.2.1 pc = .ok (.ladd, 1)) (hq : pc + 1 = q) (k : zx_X E M Y q L (.long (x + y) :: st) h n cells slots) : zx_X E M Y pc L (.long y :: .long x :: st) h n cells slots := by
  subst hq
  exact fun p e s m args below meth c ls H locs C hl hR hS hb => lv_ladd C.1 C.2.1 hd (k p e s m args below meth c ls H locs C hl hR hS hb)
theorem zx_lsub {x y : Int64} (hd : decode M.2.2.1 pc = .ok (.lsub, 1)) (hq : pc + 1 = q) (k : zx_X E M Y q L (.long (x - y) :: st) h n cells slots) : zx_X E M Y pc L (.long y :: .long x :: st) h n cells slots := by
  subst hq
  exact fun p e s m args below meth c ls H locs C hl hR hS hb => lv_lsub C.1 C.2.1 hd (k p e s m args below meth c ls H locs C hl hR hS hb)
theorem zx_lmul {x y : Int64} (hd : decode M.2.2.1 pc = .ok (.lmul, 1)) (hq : pc + 1 = q) (k : zx_X E M Y q L (.long (x * y) :: st) h n cells slots) : zx_X E M Y pc L (.long y :: .long x :: st) h n cells slots := by
  subst hq
  exact fun p e s m args below meth c ls H locs C hl hR hS hb => lv_lmul C.1 C.2.1 hd (k p e s m args below meth c ls H locs C hl hR hS hb)
theorem zx_land {x y : Int64} (hd : decode M.2.2.1 pc = .ok (.land, 1)) (hq : pc + 1 = q) (k : zx_X E M Y q L (.long (x &&& y) :: st) h n cells slots) : zx_X E M Y pc L (.long y :: .long x :: st) h n cells slots := by
  subst hq
  exact fun p e s m args below meth c ls H locs C hl hR hS hb => lv_land C.1 C.2.1 hd (k p e s m args below meth c ls H locs C hl hR hS hb)
theorem zx_lor {x y : Int64} (hd : decode M.2.2.1 pc = .ok (.lor, 1)) (hq : pc + 1 = q) (k : zx_X E M Y q L (.long (x ||| y) :: st) h n cells slots) : zx_X E M Y pc L (.long y :: .long x :: st) h n cells slots := by
  subst hq
  exact fun p e s m args below meth c ls H locs C hl hR hS hb => lv_lor C.1 C.2.1 hd (k p e s m args below meth c ls H locs C hl hR hS hb)
theorem zx_lxor {x y : Int64} (hd : decode M.2.2.1 pc = .ok (.lxor, 1)) (hq : pc + 1 = q) (k : zx_X E M Y q L (.long (x ^^^ y) :: st) h n cells slots) : zx_X E M Y pc L (.long y :: .long x :: st) h n cells slots := by
  subst hq
  exact fun p e s m args below meth c ls H locs C hl hR hS hb => lv_lxor C.1 C.2.1 hd (k p e s m args below meth c ls H locs C hl hR hS hb)
theorem zx_idiv {x y : Int32} (hd : decode M.2.2.1 pc = .ok (.idiv, 1)) (hq : pc + 1 = q) (hne : ¬ y = 0) (k : zx_X E M Y q L (.int (x / y) :: st) h n cells slots) : zx_X E M Y pc L (.int y :: .int x :: st) h n cells slots := by
  subst hq
  exact fun p e s m args below meth c ls H locs C hl hR hS hb => lv_idiv C.1 C.2.1 hd hne (k p e s m args below meth c ls H locs C hl hR hS hb)
theorem zx_irem {x y : Int32} (hd : decode M.2.2.1 pc = .ok (.irem, 1)) (hq : pc + 1 = q) (hne : ¬ y = 0) (k : zx_X E M Y q L (.int (x - x / y * y) :: st) h n cells slots) : zx_X E M Y pc L (.int y :: .int x :: st) h n cells slots := by
  subst hq
  exact fun p e s m args below meth c ls H locs C hl hR hS hb => lv_irem C.1 C.2.1 hd hne (k p e s m args below meth c ls H locs C hl hR hS hb)
theorem zx_ineg {x : Int32} (hd : decode M.2.2.1 pc = .ok (.ineg, 1)) (hq : pc + 1 = q) (k : zx_X E M Y q L (.int (-x) :: st) h n cells slots) : zx_X E M Y pc L (.int x :: st) h n cells slots := by
  subst hq
  exact fun p e s m args below meth c ls H locs C hl hR hS hb => lv_ineg C.1 C.2.1 hd (k p e s m args below meth c ls H locs C hl hR hS hb)
theorem zx_ishl {x y : Int32} (hd : decode M.2.2.1 pc = .ok (.ishl, 1)) (hq : pc + 1 = q) (k : zx_X E M Y q L (.int (x <<< (y &&& 31)) :: st) h n cells slots) : zx_X E M Y pc L (.int y :: .int x :: st) h n cells slots := by
  subst hq
  exact fun p e s m args below meth c ls H locs C hl hR hS hb => lv_ishl C.1 C.2.1 hd (k p e s m args below meth c ls H locs C hl hR hS hb)
theorem zx_ishr {x y : Int32} (hd : decode M.2.2.1 pc = .ok (.ishr, 1)) (hq : pc + 1 = q) (k : zx_X E M Y q L (.int (x >>> (y &&& 31)) :: st) h n cells slots) : zx_X E M Y pc L (.int y :: .int x :: st) h n cells slots := by
  subst hq
  exact fun p e s m args below meth c ls H locs C hl hR hS hb => lv_ishr C.1 C.2.1 hd (k p e s m args below meth c ls H locs C hl hR hS hb)
theorem zx_i2l {x : Int32} (hd : decode M.2.2.1 pc = .ok (.i2l, 1)) (hq : pc + 1 = q) (k : zx_X E M Y q L (.long x.toInt64 :: st) h n cells slots) : zx_X E M Y pc L (.int x :: st) h n cells slots := by
  subst hq
  exact fun p e s m args below meth c ls H locs C hl hR hS hb => lv_i2l C.1 C.2.1 hd rfl (k p e s m args below meth c ls H locs C hl hR hS hb)
theorem zx_l2i {x : Int64} (hd : decode M.2.2.1 pc = .ok (.l2i, 1)) (hq : pc + 1 = q) (k : zx_X E M Y q L (.int x.toInt32 :: st) h n cells slots) : zx_X E M Y pc L (.long x :: st) h n cells slots := by
  subst hq
  exact fun p e s m args below meth c ls H locs C hl hR hS hb => lv_l2i C.1 C.2.1 hd rfl (k p e s m args below meth c ls H locs C hl hR hS hb)
theorem zx_lushr {x : Int64} {y : Int32} (hd : decode M.2.2.1 pc = .ok (.lushr, 1)) (hq : pc + 1 = q) (k : zx_X E M Y q L (.long (x.toUInt64 >>> (y.toInt64.toUInt64 &&& Int64.toUInt64 63)).toInt64 :: st) h n cells slots) : zx_X E M Y pc L (.int y :: .long x :: st) h n cells slots := by
  subst hq
  exact fun p e s m args below meth c ls H locs C hl hR hS hb => lv_lushr C.1 C.2.1 hd rfl (k p e s m args below meth c ls H locs C hl hR hS hb)
theorem zx_lshl {x : Int64} {y : Int32} (hd : decode M.2.2.1 pc = .ok (.lshl, 1)) (hq : pc + 1 = q) (k : zx_X E M Y q L (.long (x <<< (y.toInt64 &&& 63)) :: st) h n cells slots) : zx_X E M Y pc L (.int y :: .long x :: st) h n cells slots := by
  subst hq
  exact fun p e s m args below meth c ls H locs C hl hR hS hb => lv_lshl C.1 C.2.1 hd rfl (k p e s m args below meth c ls H locs C hl hR hS hb)
theorem zx_lshr {x : Int64} {y : Int32} (hd : decode M.2.2.1 pc = .ok (.lshr, 1)) (hq : pc + 1 = q) (k : zx_X E M Y q L (.long (x >>> (y.toInt64 &&& 63)) :: st) h n cells slots) : zx_X E M Y pc L (.int y :: .long x :: st) h n cells slots := by
  subst hq
  exact fun p e s m args below meth c ls H locs C hl hR hS hb => lv_lshr C.1 C.2.1 hd rfl (k p e s m args below meth c ls H locs C hl hR hS hb)
theorem zx_lcmp {x y : Int64} (hd : decode M.2.2.1 pc = .ok (.lcmp, 1)) (hq : pc + 1 = q) (k : zx_X E M Y q L (.int (lg_cmp x y) :: st) h n cells slots) : zx_X E M Y pc L (.long y :: .long x :: st) h n cells slots := by
  subst hq
  exact fun p e s m args below meth c ls H locs C hl hR hS hb => W.lcmp C.1 C.2.1 hd (k p e s m args below meth c ls H locs C hl hR hS hb)
theorem zx_dup {v : Value} (hd : decode M.2.2.1 pc = .ok (.dup, 1)) (hq : pc + 1 = q) (hv : v.category = 1) (k : zx_X E M Y q L (v :: v :: st) h n cells slots) : zx_X E M Y pc L (v :: st) h n cells slots := by
  subst hq
  exact fun p e s m args below meth c ls H locs C hl hR hS hb => lv_dup C.1 C.2.1 hd hv (k p e s m args below meth c ls H locs C hl hR hS hb)
theorem zx_dup_x1 {v w : Value} (hd : decode M.2.2.1 pc = .ok (.dup_x1, 1)) (hq : pc + 1 = q) (hv : v.category = 1) (hw : w.category = 1) (k : zx_X E M Y q L (v :: w :: v :: st) h n cells slots) : zx_X E M Y pc L (v :: w :: st) h n cells slots := by
  subst hq
  exact fun p e s m args below meth c ls H locs C hl hR hS hb => lv_dup_x1 C.1 C.2.1 hd hv hw (k p e s m args below meth c ls H locs C hl hR hS hb)
theorem zx_dup2 {v w : Value} (hd : decode M.2.2.1 pc = .ok (.dup2, 1)) (hq : pc + 1 = q) (hv : v.category = 1) (hw : w.category = 1) (k : zx_X E M Y q L (v :: w :: v :: w :: st) h n cells slots) : zx_X E M Y pc L (v :: w :: st) h n cells slots := by
  subst hq
  exact fun p e s m args below meth c ls H locs C hl hR hS hb => lv_dup2_11 C.1 C.2.1 hd hv hw (k p e s m args below meth c ls H locs C hl hR hS hb)
theorem zx_pop {v : Value} (hd : decode M.2.2.1 pc = .ok (.pop, 1)) (hq : pc + 1 = q) (hv : v.category = 1) (k : zx_X E M Y q L (st) h n cells slots) : zx_X E M Y pc L (v :: st) h n cells slots := by
  subst hq
  exact fun p e s m args below meth c ls H locs C hl hR hS hb => lv_pop C.1 C.2.1 hd hv (k p e s m args below meth c ls H locs C hl hR hS hb)
theorem zx_iconst {z : Int} (v : Int32) (hd : decode M.2.2.1 pc = .ok (.iconst z, 1)) (hq : pc + 1 = q) (hv : Int32.ofInt z = v) (k : zx_X E M Y q L (.int v :: st) h n cells slots) : zx_X E M Y pc L (st) h n cells slots := by
  subst hq
  exact fun p e s m args below meth c ls H locs C hl hR hS hb => lv_iconst C.1 C.2.1 hd hv (k p e s m args below meth c ls H locs C hl hR hS hb)
theorem zx_bipush {z : Int} (v : Int32) (hd : decode M.2.2.1 pc = .ok (.bipush z, 2)) (hq : pc + 2 = q) (hv : (Int8.ofInt z).toInt32 = v) (k : zx_X E M Y q L (.int v :: st) h n cells slots) : zx_X E M Y pc L (st) h n cells slots := by
  subst hq
  exact fun p e s m args below meth c ls H locs C hl hR hS hb => lv_bipush C.1 C.2.1 hd hv (k p e s m args below meth c ls H locs C hl hR hS hb)
theorem zx_sipush {z : Int} (v : Int32) (hd : decode M.2.2.1 pc = .ok (.sipush z, 3)) (hq : pc + 3 = q) (hv : (Int16.ofInt z).toInt32 = v) (k : zx_X E M Y q L (.int v :: st) h n cells slots) : zx_X E M Y pc L (st) h n cells slots := by
  subst hq
  exact fun p e s m args below meth c ls H locs C hl hR hS hb => lv_sipush C.1 C.2.1 hd hv (k p e s m args below meth c ls H locs C hl hR hS hb)
theorem zx_lconst {z : Fin 2} (v : Int64) (hd : decode M.2.2.1 pc = .ok (.lconst z, 1)) (hq : pc + 1 = q) (hv : Int64.ofNat (z : Nat) = v) (k : zx_X E M Y q L (.long v :: st) h n cells slots) : zx_X E M Y pc L (st) h n cells slots := by
  subst hq
  exact fun p e s m args below meth c ls H locs C hl hR hS hb => lv_lconst C.1 C.2.1 hd hv (k p e s m args below meth c ls H locs C hl hR hS hb)
theorem zx_ldc {i : Nat} (v : Int32) (hd : decode M.2.2.1 pc = .ok (.ldc i, 2)) (hq : pc + 2 = q) (hw : Cond.constant M.1 i v ∈ zx_T) (k : zx_X E M Y q L (.int v :: st) h n cells slots) : zx_X E M Y pc L st h n cells slots := by
  subst hq
  exact fun p e s m args below meth c ls H locs C hl hR hS hb => lv_ldc C.1 C.2.1 C.2.2.2.1 (C.2.2.2.2.1 _ hw) hd (k p e s m args below meth c ls H locs C hl hR hS hb)
theorem zx_ldc2 {i : Nat} (v : Int64) (hd : decode M.2.2.1 pc = .ok (.ldc2_w i, 3)) (hq : pc + 3 = q) (hw : Cond.constantLong M.1 i v ∈ zx_T) (k : zx_X E M Y q L (.long v :: st) h n cells slots) : zx_X E M Y pc L st h n cells slots := by
  subst hq
  exact fun p e s m args below meth c ls H locs C hl hR hS hb => lv_ldc2 C.1 C.2.1 C.2.2.2.1 (C.2.2.2.2.1 _ hw) hd (k p e s m args below meth c ls H locs C hl hR hS hb)
theorem zx_iload_n {z : Fin 4} {x : Int32} (hd : decode M.2.2.1 pc = .ok (.iload_n z, 1)) (hq : pc + 1 = q) (hg : zx_nth L z.val = some (.int x)) (k : zx_X E M Y q L (.int x :: st) h n cells slots) : zx_X E M Y pc L st h n cells slots := by
  subst hq
  exact fun p e s m args below meth c ls H locs C hl hR hS hb => lv_iload_n C.1 C.2.1 hd rfl (zx_lat hl hg) (k p e s m args below meth c ls H locs C hl hR hS hb)
theorem zx_iload {i : Nat} {x : Int32} (hd : decode M.2.2.1 pc = .ok (.iload i, 2)) (hq : pc + 2 = q) (hg : zx_nth L i = some (.int x)) (k : zx_X E M Y q L (.int x :: st) h n cells slots) : zx_X E M Y pc L st h n cells slots := by
  subst hq
  exact fun p e s m args below meth c ls H locs C hl hR hS hb => lv_iload C.1 C.2.1 hd (zx_lat hl hg) (k p e s m args below meth c ls H locs C hl hR hS hb)
theorem zx_lload_n {z : Fin 4} {x : Int64} (hd : decode M.2.2.1 pc = .ok (.lload_n z, 1)) (hq : pc + 1 = q) (hg : zx_nth L z.val = some (.long x)) (k : zx_X E M Y q L (.long x :: st) h n cells slots) : zx_X E M Y pc L st h n cells slots := by
  subst hq
  exact fun p e s m args below meth c ls H locs C hl hR hS hb => lv_lload_n C.1 C.2.1 hd rfl (zx_lat hl hg) (k p e s m args below meth c ls H locs C hl hR hS hb)
theorem zx_lload {i : Nat} {x : Int64} (hd : decode M.2.2.1 pc = .ok (.lload i, 2)) (hq : pc + 2 = q) (hg : zx_nth L i = some (.long x)) (k : zx_X E M Y q L (.long x :: st) h n cells slots) : zx_X E M Y pc L st h n cells slots := by
  subst hq
  exact fun p e s m args below meth c ls H locs C hl hR hS hb => lv_lload C.1 C.2.1 hd (zx_lat hl hg) (k p e s m args below meth c ls H locs C hl hR hS hb)
theorem zx_aload_n {z : Fin 4} {x : Nat} (hd : decode M.2.2.1 pc = .ok (.aload_n z, 1)) (hq : pc + 1 = q) (hg : zx_nth L z.val = some (.ref x)) (k : zx_X E M Y q L (.ref x :: st) h n cells slots) : zx_X E M Y pc L st h n cells slots := by
  subst hq
  exact fun p e s m args below meth c ls H locs C hl hR hS hb => lv_aload_n C.1 C.2.1 hd rfl (zx_lat hl hg) (k p e s m args below meth c ls H locs C hl hR hS hb)
theorem zx_aload {i : Nat} {x : Nat} (hd : decode M.2.2.1 pc = .ok (.aload i, 2)) (hq : pc + 2 = q) (hg : zx_nth L i = some (.ref x)) (k : zx_X E M Y q L (.ref x :: st) h n cells slots) : zx_X E M Y pc L st h n cells slots := by
  subst hq
  exact fun p e s m args below meth c ls H locs C hl hR hS hb => lv_aload C.1 C.2.1 hd (zx_lat hl hg) (k p e s m args below meth c ls H locs C hl hR hS hb)
theorem zx_istore_n' {z : Fin 4} {x : Int32} (L' : List (Option Value)) (hd : decode M.2.2.1 pc = .ok (.istore_n z, 1)) (hq : pc + 1 = q) (hn : z.val < M.2.2.2.1) (hL : zx_ok1 z.val (.int x) L L') (k : zx_X E M Y q L' st h n cells slots) : zx_X E M Y pc L (.int x :: st) h n cells slots := by
  subst hq
  exact fun p e s m args below meth c ls H locs C hl hR hS hb => lv_istore_n C.1 C.2.1 hd rfl hl hn rfl (fun ls' hl' => k p e s m args below meth c ls' H locs C (zx_ok1_has hL hl') hR hS hb)
theorem zx_istore' {i : Nat} {x : Int32} (L' : List (Option Value)) (hd : decode M.2.2.1 pc = .ok (.istore i, 2)) (hq : pc + 2 = q) (hn : i < M.2.2.2.1) (hL : zx_ok1 i (.int x) L L') (k : zx_X E M Y q L' st h n cells slots) : zx_X E M Y pc L (.int x :: st) h n cells slots := by
  subst hq
  exact fun p e s m args below meth c ls H locs C hl hR hS hb => lv_istore C.1 C.2.1 hd hl hn rfl (fun ls' hl' => k p e s m args below meth c ls' H locs C (zx_ok1_has hL hl') hR hS hb)
theorem zx_lstore_n' {z : Fin 4} {x : Int64} (L' : List (Option Value)) (hd : decode M.2.2.1 pc = .ok (.lstore_n z, 1)) (hq : pc + 1 = q) (hn : z.val + 1 < M.2.2.2.1) (hL : zx_ok2 z.val (.long x) L L') (k : zx_X E M Y q L' st h n cells slots) : zx_X E M Y pc L (.long x :: st) h n cells slots := by
  subst hq
  exact fun p e s m args below meth c ls H locs C hl hR hS hb => lv_lstore_n C.1 C.2.1 hd rfl hl hn rfl (fun ls' hl' => k p e s m args below meth c ls' H locs C (zx_ok2_has hL hl') hR hS hb)
theorem zx_lstore' {i : Nat} {x : Int64} (L' : List (Option Value)) (hd : decode M.2.2.1 pc = .ok (.lstore i, 2)) (hq : pc + 2 = q) (hn : i + 1 < M.2.2.2.1) (hL : zx_ok2 i (.long x) L L') (k : zx_X E M Y q L' st h n cells slots) : zx_X E M Y pc L (.long x :: st) h n cells slots := by
  subst hq
  exact fun p e s m args below meth c ls H locs C hl hR hS hb => lv_lstore C.1 C.2.1 hd hl hn rfl (fun ls' hl' => k p e s m args below meth c ls' H locs C (zx_ok2_has hL hl') hR hS hb)
theorem zx_astore_n' {z : Fin 4} {x : Nat} (L' : List (Option Value)) (hd : decode M.2.2.1 pc = .ok (.astore_n z, 1)) (hq : pc + 1 = q) (hn : z.val < M.2.2.2.1) (hL : zx_ok1 z.val (.ref x) L L') (k : zx_X E M Y q L' st h n cells slots) : zx_X E M Y pc L (.ref x :: st) h n cells slots := by
  subst hq
  exact fun p e s m args below meth c ls H locs C hl hR hS hb => lv_astore_n C.1 C.2.1 hd rfl hl hn rfl (fun ls' hl' => k p e s m args below meth c ls' H locs C (zx_ok1_has hL hl') hR hS hb)
theorem zx_astore' {i : Nat} {x : Nat} (L' : List (Option Value)) (hd : decode M.2.2.1 pc = .ok (.astore i, 2)) (hq : pc + 2 = q) (hn : i < M.2.2.2.1) (hL : zx_ok1 i (.ref x) L L') (k : zx_X E M Y q L' st h n cells slots) : zx_X E M Y pc L (.ref x :: st) h n cells slots := by
  subst hq
  exact fun p e s m args below meth c ls H locs C hl hR hS hb => lv_astore C.1 C.2.1 hd hl hn rfl (fun ls' hl' => k p e s m args below meth c ls' H locs C (zx_ok1_has hL hl') hR hS hb)
theorem zx_iinc' {i : Nat} {z : Int} {x : Int32} (d : Int32) (L' : List (Option Value)) (hd : decode M.2.2.1 pc = .ok (.iinc i z, 3)) (hq : pc + 3 = q) (hz : Int32.ofInt z = d) (hn : i < M.2.2.2.1) (hg : zx_nth L i = some (.int x)) (hL : zx_ok1 i (.int (x + d)) L L') (k : zx_X E M Y q L' st h n cells slots) : zx_X E M Y pc L st h n cells slots := by
  subst hq; subst hz
  intro p e s m args below meth c ls H locs C hl hR hS hb
  obtain ⟨j, hj⟩ := List.getElem?_of_mem (zx_as_mem L 0 i _ hg)
  rw [Nat.zero_add] at hj
  exact lv_iinc C.1 C.2.1 hd hl hj rfl hn rfl (fun ls' hl' => k p e s m args below meth c ls' H locs C (zx_ok1_has hL hl') hR hS hb)
theorem zx_istore_0 {y : Option Value} {rr : List (Option Value)} {x : Int32} (hd : decode M.2.2.1 pc = .ok (.istore_n 0, 1)) (hq : pc + 1 = q) (hn : 0 < M.2.2.2.1) (k : zx_X E M Y q (some (.int x) :: rr) st h n cells slots) : zx_X E M Y pc (y :: rr) (.int x :: st) h n cells slots :=
  zx_istore_n' (z := 0) _ hd hq hn (zx_ok1_gen [] _ _ _ (fun w z => by cases z)) k
theorem zx_astore_0 {y : Option Value} {rr : List (Option Value)} {x : Nat} (hd : decode M.2.2.1 pc = .ok (.astore_n 0, 1)) (hq : pc + 1 = q) (hn : 0 < M.2.2.2.1) (k : zx_X E M Y q (some (.ref x) :: rr) st h n cells slots) : zx_X E M Y pc (y :: rr) (.ref x :: st) h n cells slots :=
  zx_astore_n' (z := 0) _ hd hq hn (zx_ok1_gen [] _ _ _ (fun w z => by cases z)) k
theorem zx_lstore_0 {y y' : Option Value} {rr : List (Option Value)} {x : Int64} (hd : decode M.2.2.1 pc = .ok (.lstore_n 0, 1)) (hq : pc + 1 = q) (hn : 0 + 1 < M.2.2.2.1) (k : zx_X E M Y q (some (.long x) :: none :: rr) st h n cells slots) : zx_X E M Y pc (y :: y' :: rr) (.long x :: st) h n cells slots :=
  zx_lstore_n' (z := 0) _ hd hq hn (zx_ok2_gen [] _ _ _ _ (fun w z => by cases z)) k
theorem zx_iinc_0 {rr : List (Option Value)} {z : Int} {x : Int32} (d : Int32) (hd : decode M.2.2.1 pc = .ok (.iinc 0 z, 3)) (hq : pc + 3 = q) (hz : Int32.ofInt z = d) (hn : 0 < M.2.2.2.1) (k : zx_X E M Y q (some (.int (x + d)) :: rr) st h n cells slots) : zx_X E M Y pc (some (.int x) :: rr) st h n cells slots :=
  zx_iinc' d _ hd hq hz hn rfl (zx_ok1_gen [] _ _ _ (fun w z => by cases z)) k
theorem zx_istore_1 {a0 : Option Value} {y : Option Value} {rr : List (Option Value)} {x : Int32} (hd : decode M.2.2.1 pc = .ok (.istore_n 1, 1)) (hq : pc + 1 = q) (hn : 1 < M.2.2.2.1) (hc : zx_n2 a0 = true) (k : zx_X E M Y q (a0 :: some (.int x) :: rr) st h n cells slots) : zx_X E M Y pc (a0 :: y :: rr) (.int x :: st) h n cells slots :=
  zx_istore_n' (z := 1) _ hd hq hn (zx_ok1_gen [a0] _ _ _ (zx_n2_last rfl hc)) k
theorem zx_astore_1 {a0 : Option Value} {y : Option Value} {rr : List (Option Value)} {x : Nat} (hd : decode M.2.2.1 pc = .ok (.astore_n 1, 1)) (hq : pc + 1 = q) (hn : 1 < M.2.2.2.1) (hc : zx_n2 a0 = true) (k : zx_X E M Y q (a0 :: some (.ref x) :: rr) st h n cells slots) : zx_X E M Y pc (a0 :: y :: rr) (.ref x :: st) h n cells slots :=
  zx_astore_n' (z := 1) _ hd hq hn (zx_ok1_gen [a0] _ _ _ (zx_n2_last rfl hc)) k
theorem zx_lstore_1 {a0 : Option Value} {y y' : Option Value} {rr : List (Option Value)} {x : Int64} (hd : decode M.2.2.1 pc = .ok (.lstore_n 1, 1)) (hq : pc + 1 = q) (hn : 1 + 1 < M.2.2.2.1) (hc : zx_n2 a0 = true) (k : zx_X E M Y q (a0 :: some (.long x) :: none :: rr) st h n cells slots) : zx_X E M Y pc (a0 :: y :: y' :: rr) (.long x :: st) h n cells slots :=
  zx_lstore_n' (z := 1) _ hd hq hn (zx_ok2_gen [a0] _ _ _ _ (zx_n2_last rfl hc)) k
theorem zx_iinc_1 {a0 : Option Value} {rr : List (Option Value)} {z : Int} {x : Int32} (d : Int32) (hd : decode M.2.2.1 pc = .ok (.iinc 1 z, 3)) (hq : pc + 3 = q) (hz : Int32.ofInt z = d) (hn : 1 < M.2.2.2.1) (hc : zx_n2 a0 = true) (k : zx_X E M Y q (a0 :: some (.int (x + d)) :: rr) st h n cells slots) : zx_X E M Y pc (a0 :: some (.int x) :: rr) st h n cells slots :=
  zx_iinc' d _ hd hq hz hn rfl (zx_ok1_gen [a0] _ _ _ (zx_n2_last rfl hc)) k
theorem zx_istore_2 {a0 a1 : Option Value} {y : Option Value} {rr : List (Option Value)} {x : Int32} (hd : decode M.2.2.1 pc = .ok (.istore_n 2, 1)) (hq : pc + 1 = q) (hn : 2 < M.2.2.2.1) (hc : zx_n2 a1 = true) (k : zx_X E M Y q (a0 :: a1 :: some (.int x) :: rr) st h n cells slots) : zx_X E M Y pc (a0 :: a1 :: y :: rr) (.int x :: st) h n cells slots :=
  zx_istore_n' (z := 2) _ hd hq hn (zx_ok1_gen [a0, a1] _ _ _ (zx_n2_last rfl hc)) k
theorem zx_astore_2 {a0 a1 : Option Value} {y : Option Value} {rr : List (Option Value)} {x : Nat} (hd : decode M.2.2.1 pc = .ok (.astore_n 2, 1)) (hq : pc + 1 = q) (hn : 2 < M.2.2.2.1) (hc : zx_n2 a1 = true) (k : zx_X E M Y q (a0 :: a1 :: some (.ref x) :: rr) st h n cells slots) : zx_X E M Y pc (a0 :: a1 :: y :: rr) (.ref x :: st) h n cells slots :=
  zx_astore_n' (z := 2) _ hd hq hn (zx_ok1_gen [a0, a1] _ _ _ (zx_n2_last rfl hc)) k
theorem zx_lstore_2 {a0 a1 : Option Value} {y y' : Option Value} {rr : List (Option Value)} {x : Int64} (hd : decode M.2.2.1 pc = .ok (.lstore_n 2, 1)) (hq : pc + 1 = q) (hn : 2 + 1 < M.2.2.2.1) (hc : zx_n2 a1 = true) (k : zx_X E M Y q (a0 :: a1 :: some (.long x) :: none :: rr) st h n cells slots) : zx_X E M Y pc (a0 :: a1 :: y :: y' :: rr) (.long x :: st) h n cells slots :=
  zx_lstore_n' (z := 2) _ hd hq hn (zx_ok2_gen [a0, a1] _ _ _ _ (zx_n2_last rfl hc)) k
theorem zx_iinc_2 {a0 a1 : Option Value} {rr : List (Option Value)} {z : Int} {x : Int32} (d : Int32) (hd : decode M.2.2.1 pc = .ok (.iinc 2 z, 3)) (hq : pc + 3 = q) (hz : Int32.ofInt z = d) (hn : 2 < M.2.2.2.1) (hc : zx_n2 a1 = true) (k : zx_X E M Y q (a0 :: a1 :: some (.int (x + d)) :: rr) st h n cells slots) : zx_X E M Y pc (a0 :: a1 :: some (.int x) :: rr) st h n cells slots :=
  zx_iinc' d _ hd hq hz hn rfl (zx_ok1_gen [a0, a1] _ _ _ (zx_n2_last rfl hc)) k
theorem zx_istore_3 {a0 a1 a2 : Option Value} {y : Option Value} {rr : List (Option Value)} {x : Int32} (hd : decode M.2.2.1 pc = .ok (.istore_n 3, 1)) (hq : pc + 1 = q) (hn : 3 < M.2.2.2.1) (hc : zx_n2 a2 = true) (k : zx_X E M Y q (a0 :: a1 :: a2 :: some (.int x) :: rr) st h n cells slots) : zx_X E M Y pc (a0 :: a1 :: a2 :: y :: rr) (.int x :: st) h n cells slots :=
  zx_istore_n' (z := 3) _ hd hq hn (zx_ok1_gen [a0, a1, a2] _ _ _ (zx_n2_last rfl hc)) k
theorem zx_astore_3 {a0 a1 a2 : Option Value} {y : Option Value} {rr : List (Option Value)} {x : Nat} (hd : decode M.2.2.1 pc = .ok (.astore_n 3, 1)) (hq : pc + 1 = q) (hn : 3 < M.2.2.2.1) (hc : zx_n2 a2 = true) (k : zx_X E M Y q (a0 :: a1 :: a2 :: some (.ref x) :: rr) st h n cells slots) : zx_X E M Y pc (a0 :: a1 :: a2 :: y :: rr) (.ref x :: st) h n cells slots :=
  zx_astore_n' (z := 3) _ hd hq hn (zx_ok1_gen [a0, a1, a2] _ _ _ (zx_n2_last rfl hc)) k
theorem zx_lstore_3 {a0 a1 a2 : Option Value} {y y' : Option Value} {rr : List (Option Value)} {x : Int64} (hd : decode M.2.2.1 pc = .ok (.lstore_n 3, 1)) (hq : pc + 1 = q) (hn : 3 + 1 < M.2.2.2.1) (hc : zx_n2 a2 = true) (k : zx_X E M Y q (a0 :: a1 :: a2 :: some (.long x) :: none :: rr) st h n cells slots) : zx_X E M Y pc (a0 :: a1 :: a2 :: y :: y' :: rr) (.long x :: st) h n cells slots :=
  zx_lstore_n' (z := 3) _ hd hq hn (zx_ok2_gen [a0, a1, a2] _ _ _ _ (zx_n2_last rfl hc)) k
theorem zx_iinc_3 {a0 a1 a2 : Option Value} {rr : List (Option Value)} {z : Int} {x : Int32} (d : Int32) (hd : decode M.2.2.1 pc = .ok (.iinc 3 z, 3)) (hq : pc + 3 = q) (hz : Int32.ofInt z = d) (hn : 3 < M.2.2.2.1) (hc : zx_n2 a2 = true) (k : zx_X E M Y q (a0 :: a1 :: a2 :: some (.int (x + d)) :: rr) st h n cells slots) : zx_X E M Y pc (a0 :: a1 :: a2 :: some (.int x) :: rr) st h n cells slots :=
  zx_iinc' d _ hd hq hz hn rfl (zx_ok1_gen [a0, a1, a2] _ _ _ (zx_n2_last rfl hc)) k
theorem zx_istore_4 {a0 a1 a2 a3 : Option Value} {y : Option Value} {rr : List (Option Value)} {x : Int32} (hd : decode M.2.2.1 pc = .ok (.istore 4, 2)) (hq : pc + 2 = q) (hn : 4 < M.2.2.2.1) (hc : zx_n2 a3 = true) (k : zx_X E M Y q (a0 :: a1 :: a2 :: a3 :: some (.int x) :: rr) st h n cells slots) : zx_X E M Y pc (a0 :: a1 :: a2 :: a3 :: y :: rr) (.int x :: st) h n cells slots :=
  zx_istore' (i := 4) _ hd hq hn (zx_ok1_gen [a0, a1, a2, a3] _ _ _ (zx_n2_last rfl hc)) k
theorem zx_astore_4 {a0 a1 a2 a3 : Option Value} {y : Option Value} {rr : List (Option Value)} {x : Nat} (hd : decode M.2.2.1 pc = .ok (.astore 4, 2)) (hq : pc + 2 = q) (hn : 4 < M.2.2.2.1) (hc : zx_n2 a3 = true) (k : zx_X E M Y q (a0 :: a1 :: a2 :: a3 :: some (.ref x) :: rr) st h n cells slots) : zx_X E M Y pc (a0 :: a1 :: a2 :: a3 :: y :: rr) (.ref x :: st) h n cells slots :=
  zx_astore' (i := 4) _ hd hq hn (zx_ok1_gen [a0, a1, a2, a3] _ _ _ (zx_n2_last rfl hc)) k
theorem zx_lstore_4 {a0 a1 a2 a3 : Option Value} {y y' : Option Value} {rr : List (Option Value)} {x : Int64} (hd : decode M.2.2.1 pc = .ok (.lstore 4, 2)) (hq : pc + 2 = q) (hn : 4 + 1 < M.2.2.2.1) (hc : zx_n2 a3 = true) (k : zx_X E M Y q (a0 :: a1 :: a2 :: a3 :: some (.long x) :: none :: rr) st h n cells slots) : zx_X E M Y pc (a0 :: a1 :: a2 :: a3 :: y :: y' :: rr) (.long x :: st) h n cells slots :=
  zx_lstore' (i := 4) _ hd hq hn (zx_ok2_gen [a0, a1, a2, a3] _ _ _ _ (zx_n2_last rfl hc)) k
theorem zx_iinc_4 {a0 a1 a2 a3 : Option Value} {rr : List (Option Value)} {z : Int} {x : Int32} (d : Int32) (hd : decode M.2.2.1 pc = .ok (.iinc 4 z, 3)) (hq : pc + 3 = q) (hz : Int32.ofInt z = d) (hn : 4 < M.2.2.2.1) (hc : zx_n2 a3 = true) (k : zx_X E M Y q (a0 :: a1 :: a2 :: a3 :: some (.int (x + d)) :: rr) st h n cells slots) : zx_X E M Y pc (a0 :: a1 :: a2 :: a3 :: some (.int x) :: rr) st h n cells slots :=
  zx_iinc' d _ hd hq hz hn rfl (zx_ok1_gen [a0, a1, a2, a3] _ _ _ (zx_n2_last rfl hc)) k
theorem zx_istore_5 {a0 a1 a2 a3 a4 : Option Value} {y : Option Value} {rr : List (Option Value)} {x : Int32} (hd : decode M.2.2.1 pc = .ok (.istore 5, 2)) (hq : pc + 2 = q) (hn : 5 < M.2.2.2.1) (hc : zx_n2 a4 = true) (k : zx_X E M Y q (a0 :: a1 :: a2 :: a3 :: a4 :: some (.int x) :: rr) st h n cells slots) : zx_X E M Y pc (a0 :: a1 :: a2 :: a3 :: a4 :: y :: rr) (.int x :: st) h n cells slots :=
  zx_istore' (i := 5) _ hd hq hn (zx_ok1_gen [a0, a1, a2, a3, a4] _ _ _ (zx_n2_last rfl hc)) k
theorem zx_astore_5 {a0 a1 a2 a3 a4 : Option Value} {y : Option Value} {rr : List (Option Value)} {x : Nat} (hd : decode M.2.2.1 pc = .ok (.astore 5, 2)) (hq : pc + 2 = q) (hn : 5 < M.2.2.2.1) (hc : zx_n2 a4 = true) (k : zx_X E M Y q (a0 :: a1 :: a2 :: a3 :: a4 :: some (.ref x) :: rr) st h n cells slots) : zx_X E M Y pc (a0 :: a1 :: a2 :: a3 :: a4 :: y :: rr) (.ref x :: st) h n cells slots :=
  zx_astore' (i := 5) _ hd hq hn (zx_ok1_gen [a0, a1, a2, a3, a4] _ _ _ (zx_n2_last rfl hc)) k
theorem zx_lstore_5 {a0 a1 a2 a3 a4 : Option Value} {y y' : Option Value} {rr : List (Option Value)} {x : Int64} (hd : decode M.2.2.1 pc = .ok (.lstore 5, 2)) (hq : pc + 2 = q) (hn : 5 + 1 < M.2.2.2.1) (hc : zx_n2 a4 = true) (k : zx_X E M Y q (a0 :: a1 :: a2 :: a3 :: a4 :: some (.long x) :: none :: rr) st h n cells slots) : zx_X E M Y pc (a0 :: a1 :: a2 :: a3 :: a4 :: y :: y' :: rr) (.long x :: st) h n cells slots :=
  zx_lstore' (i := 5) _ hd hq hn (zx_ok2_gen [a0, a1, a2, a3, a4] _ _ _ _ (zx_n2_last rfl hc)) k
theorem zx_iinc_5 {a0 a1 a2 a3 a4 : Option Value} {rr : List (Option Value)} {z : Int} {x : Int32} (d : Int32) (hd : decode M.2.2.1 pc = .ok (.iinc 5 z, 3)) (hq : pc + 3 = q) (hz : Int32.ofInt z = d) (hn : 5 < M.2.2.2.1) (hc : zx_n2 a4 = true) (k : zx_X E M Y q (a0 :: a1 :: a2 :: a3 :: a4 :: some (.int (x + d)) :: rr) st h n cells slots) : zx_X E M Y pc (a0 :: a1 :: a2 :: a3 :: a4 :: some (.int x) :: rr) st h n cells slots :=
  zx_iinc' d _ hd hq hz hn rfl (zx_ok1_gen [a0, a1, a2, a3, a4] _ _ _ (zx_n2_last rfl hc)) k
theorem zx_istore_6 {a0 a1 a2 a3 a4 a5 : Option Value} {y : Option Value} {rr : List (Option Value)} {x : Int32} (hd : decode M.2.2.1 pc = .ok (.istore 6, 2)) (hq : pc + 2 = q) (hn : 6 < M.2.2.2.1) (hc : zx_n2 a5 = true) (k : zx_X E M Y q (a0 :: a1 :: a2 :: a3 :: a4 :: a5 :: some (.int x) :: rr) st h n cells slots) : zx_X E M Y pc (a0 :: a1 :: a2 :: a3 :: a4 :: a5 :: y :: rr) (.int x :: st) h n cells slots :=
  zx_istore' (i := 6) _ hd hq hn (zx_ok1_gen [a0, a1, a2, a3, a4, a5] _ _ _ (zx_n2_last rfl hc)) k
theorem zx_astore_6 {a0 a1 a2 a3 a4 a5 : Option Value} {y : Option Value} {rr : List (Option Value)} {x : Nat} (hd : decode M.2.2.1 pc = .ok (.astore 6, 2)) (hq : pc + 2 = q) (hn : 6 < M.2.2.2.1) (hc : zx_n2 a5 = true) (k : zx_X E M Y q (a0 :: a1 :: a2 :: a3 :: a4 :: a5 :: some (.ref x) :: rr) st h n cells slots) : zx_X E M Y pc (a0 :: a1 :: a2 :: a3 :: a4 :: a5 :: y :: rr) (.ref x :: st) h n cells slots :=
  zx_astore' (i := 6) _ hd hq hn (zx_ok1_gen [a0, a1, a2, a3, a4, a5] _ _ _ (zx_n2_last rfl hc)) k
theorem zx_lstore_6 {a0 a1 a2 a3 a4 a5 : Option Value} {y y' : Option Value} {rr : List (Option Value)} {x : Int64} (hd : decode M.2.2.1 pc = .ok (.lstore 6, 2)) (hq : pc + 2 = q) (hn : 6 + 1 < M.2.2.2.1) (hc : zx_n2 a5 = true) (k : zx_X E M Y q (a0 :: a1 :: a2 :: a3 :: a4 :: a5 :: some (.long x) :: none :: rr) st h n cells slots) : zx_X E M Y pc (a0 :: a1 :: a2 :: a3 :: a4 :: a5 :: y :: y' :: rr) (.long x :: st) h n cells slots :=
  zx_lstore' (i := 6) _ hd hq hn (zx_ok2_gen [a0, a1, a2, a3, a4, a5] _ _ _ _ (zx_n2_last rfl hc)) k
theorem zx_iinc_6 {a0 a1 a2 a3 a4 a5 : Option Value} {rr : List (Option Value)} {z : Int} {x : Int32} (d : Int32) (hd : decode M.2.2.1 pc = .ok (.iinc 6 z, 3)) (hq : pc + 3 = q) (hz : Int32.ofInt z = d) (hn : 6 < M.2.2.2.1) (hc : zx_n2 a5 = true) (k : zx_X E M Y q (a0 :: a1 :: a2 :: a3 :: a4 :: a5 :: some (.int (x + d)) :: rr) st h n cells slots) : zx_X E M Y pc (a0 :: a1 :: a2 :: a3 :: a4 :: a5 :: some (.int x) :: rr) st h n cells slots :=
  zx_iinc' d _ hd hq hz hn rfl (zx_ok1_gen [a0, a1, a2, a3, a4, a5] _ _ _ (zx_n2_last rfl hc)) k
theorem zx_istore_7 {a0 a1 a2 a3 a4 a5 a6 : Option Value} {y : Option Value} {rr : List (Option Value)} {x : Int32} (hd : decode M.2.2.1 pc = .ok (.istore 7, 2)) (hq : pc + 2 = q) (hn : 7 < M.2.2.2.1) (hc : zx_n2 a6 = true) (k : zx_X E M Y q (a0 :: a1 :: a2 :: a3 :: a4 :: a5 :: a6 :: some (.int x) :: rr) st h n cells slots) : zx_X E M Y pc (a0 :: a1 :: a2 :: a3 :: a4 :: a5 :: a6 :: y :: rr) (.int x :: st) h n cells slots :=
  zx_istore' (i := 7) _ hd hq hn (zx_ok1_gen [a0, a1, a2, a3, a4, a5, a6] _ _ _ (zx_n2_last rfl hc)) k
theorem zx_astore_7 {a0 a1 a2 a3 a4 a5 a6 : Option Value} {y : Option Value} {rr : List (Option Value)} {x : Nat} (hd : decode M.2.2.1 pc = .ok (.astore 7, 2)) (hq : pc + 2 = q) (hn : 7 < M.2.2.2.1) (hc : zx_n2 a6 = true) (k : zx_X E M Y q (a0 :: a1 :: a2 :: a3 :: a4 :: a5 :: a6 :: some (.ref x) :: rr) st h n cells slots) : zx_X E M Y pc (a0 :: a1 :: a2 :: a3 :: a4 :: a5 :: a6 :: y :: rr) (.ref x :: st) h n cells slots :=
  zx_astore' (i := 7) _ hd hq hn (zx_ok1_gen [a0, a1, a2, a3, a4, a5, a6] _ _ _ (zx_n2_last rfl hc)) k
theorem zx_lstore_7 {a0 a1 a2 a3 a4 a5 a6 : Option Value} {y y' : Option Value} {rr : List (Option Value)} {x : Int64} (hd : decode M.2.2.1 pc = .ok (.lstore 7, 2)) (hq : pc + 2 = q) (hn : 7 + 1 < M.2.2.2.1) (hc : zx_n2 a6 = true) (k : zx_X E M Y q (a0 :: a1 :: a2 :: a3 :: a4 :: a5 :: a6 :: some (.long x) :: none :: rr) st h n cells slots) : zx_X E M Y pc (a0 :: a1 :: a2 :: a3 :: a4 :: a5 :: a6 :: y :: y' :: rr) (.long x :: st) h n cells slots :=
  zx_lstore' (i := 7) _ hd hq hn (zx_ok2_gen [a0, a1, a2, a3, a4, a5, a6] _ _ _ _ (zx_n2_last rfl hc)) k
theorem zx_iinc_7 {a0 a1 a2 a3 a4 a5 a6 : Option Value} {rr : List (Option Value)} {z : Int} {x : Int32} (d : Int32) (hd : decode M.2.2.1 pc = .ok (.iinc 7 z, 3)) (hq : pc + 3 = q) (hz : Int32.ofInt z = d) (hn : 7 < M.2.2.2.1) (hc : zx_n2 a6 = true) (k : zx_X E M Y q (a0 :: a1 :: a2 :: a3 :: a4 :: a5 :: a6 :: some (.int (x + d)) :: rr) st h n cells slots) : zx_X E M Y pc (a0 :: a1 :: a2 :: a3 :: a4 :: a5 :: a6 :: some (.int x) :: rr) st h n cells slots :=
  zx_iinc' d _ hd hq hz hn rfl (zx_ok1_gen [a0, a1, a2, a3, a4, a5, a6] _ _ _ (zx_n2_last rfl hc)) k
theorem zx_istore_8 {a0 a1 a2 a3 a4 a5 a6 a7 : Option Value} {y : Option Value} {rr : List (Option Value)} {x : Int32} (hd : decode M.2.2.1 pc = .ok (.istore 8, 2)) (hq : pc + 2 = q) (hn : 8 < M.2.2.2.1) (hc : zx_n2 a7 = true) (k : zx_X E M Y q (a0 :: a1 :: a2 :: a3 :: a4 :: a5 :: a6 :: a7 :: some (.int x) :: rr) st h n cells slots) : zx_X E M Y pc (a0 :: a1 :: a2 :: a3 :: a4 :: a5 :: a6 :: a7 :: y :: rr) (.int x :: st) h n cells slots :=
  zx_istore' (i := 8) _ hd hq hn (zx_ok1_gen [a0, a1, a2, a3, a4, a5, a6, a7] _ _ _ (zx_n2_last rfl hc)) k
theorem zx_astore_8 {a0 a1 a2 a3 a4 a5 a6 a7 : Option Value} {y : Option Value} {rr : List (Option Value)} {x : Nat} (hd : decode M.2.2.1 pc = .ok (.astore 8, 2)) (hq : pc + 2 = q) (hn : 8 < M.2.2.2.1) (hc : zx_n2 a7 = true) (k : zx_X E M Y q (a0 :: a1 :: a2 :: a3 :: a4 :: a5 :: a6 :: a7 :: some (.ref x) :: rr) st h n cells slots) : zx_X E M Y pc (a0 :: a1 :: a2 :: a3 :: a4 :: a5 :: a6 :: a7 :: y :: rr) (.ref x :: st) h n cells slots :=
  zx_astore' (i := 8) _ hd hq hn (zx_ok1_gen [a0, a1, a2, a3, a4, a5, a6, a7] _ _ _ (zx_n2_last rfl hc)) k
theorem zx_lstore_8 {a0 a1 a2 a3 a4 a5 a6 a7 : Option Value} {y y' : Option Value} {rr : List (Option Value)} {x : Int64} (hd : decode M.2.2.1 pc = .ok (.lstore 8, 2)) (hq : pc + 2 = q) (hn : 8 + 1 < M.2.2.2.1) (hc : zx_n2 a7 = true) (k : zx_X E M Y q (a0 :: a1 :: a2 :: a3 :: a4 :: a5 :: a6 :: a7 :: some (.long x) :: none :: rr) st h n cells slots) : zx_X E M Y pc (a0 :: a1 :: a2 :: a3 :: a4 :: a5 :: a6 :: a7 :: y :: y' :: rr) (.long x :: st) h n cells slots :=
  zx_lstore' (i := 8) _ hd hq hn (zx_ok2_gen [a0, a1, a2, a3, a4, a5, a6, a7] _ _ _ _ (zx_n2_last rfl hc)) k
theorem zx_iinc_8 {a0 a1 a2 a3 a4 a5 a6 a7 : Option Value} {rr : List (Option Value)} {z : Int} {x : Int32} (d : Int32) (hd : decode M.2.2.1 pc = .ok (.iinc 8 z, 3)) (hq : pc + 3 = q) (hz : Int32.ofInt z = d) (hn : 8 < M.2.2.2.1) (hc : zx_n2 a7 = true) (k : zx_X E M Y q (a0 :: a1 :: a2 :: a3 :: a4 :: a5 :: a6 :: a7 :: some (.int (x + d)) :: rr) st h n cells slots) : zx_X E M Y pc (a0 :: a1 :: a2 :: a3 :: a4 :: a5 :: a6 :: a7 :: some (.int x) :: rr) st h n cells slots :=
  zx_iinc' d _ hd hq hz hn rfl (zx_ok1_gen [a0, a1, a2, a3, a4, a5, a6, a7] _ _ _ (zx_n2_last rfl hc)) k
theorem zx_istore_9 {a0 a1 a2 a3 a4 a5 a6 a7 a8 : Option Value} {y : Option Value} {rr : List (Option Value)} {x : Int32} (hd : decode M.2.2.1 pc = .ok (.istore 9, 2)) (hq : pc + 2 = q) (hn : 9 < M.2.2.2.1) (hc : zx_n2 a8 = true) (k : zx_X E M Y q (a0 :: a1 :: a2 :: a3 :: a4 :: a5 :: a6 :: a7 :: a8 :: some (.int x) :: rr) st h n cells slots) : zx_X E M Y pc (a0 :: a1 :: a2 :: a3 :: a4 :: a5 :: a6 :: a7 :: a8 :: y :: rr) (.int x :: st) h n cells slots :=
  zx_istore' (i := 9) _ hd hq hn (zx_ok1_gen [a0, a1, a2, a3, a4, a5, a6, a7, a8] _ _ _ (zx_n2_last rfl hc)) k
theorem zx_astore_9 {a0 a1 a2 a3 a4 a5 a6 a7 a8 : Option Value} {y : Option Value} {rr : List (Option Value)} {x : Nat} (hd : decode M.2.2.1 pc = .ok (.astore 9, 2)) (hq : pc + 2 = q) (hn : 9 < M.2.2.2.1) (hc : zx_n2 a8 = true) (k : zx_X E M Y q (a0 :: a1 :: a2 :: a3 :: a4 :: a5 :: a6 :: a7 :: a8 :: some (.ref x) :: rr) st h n cells slots) : zx_X E M Y pc (a0 :: a1 :: a2 :: a3 :: a4 :: a5 :: a6 :: a7 :: a8 :: y :: rr) (.ref x :: st) h n cells slots :=
  zx_astore' (i := 9) _ hd hq hn (zx_ok1_gen [a0, a1, a2, a3, a4, a5, a6, a7, a8] _ _ _ (zx_n2_last rfl hc)) k
theorem zx_lstore_9 {a0 a1 a2 a3 a4 a5 a6 a7 a8 : Option Value} {y y' : Option Value} {rr : List (Option Value)} {x : Int64} (hd : decode M.2.2.1 pc = .ok (.lstore 9, 2)) (hq : pc + 2 = q) (hn : 9 + 1 < M.2.2.2.1) (hc : zx_n2 a8 = true) (k : zx_X E M Y q (a0 :: a1 :: a2 :: a3 :: a4 :: a5 :: a6 :: a7 :: a8 :: some (.long x) :: none :: rr) st h n cells slots) : zx_X E M Y pc (a0 :: a1 :: a2 :: a3 :: a4 :: a5 :: a6 :: a7 :: a8 :: y :: y' :: rr) (.long x :: st) h n cells slots :=
  zx_lstore' (i := 9) _ hd hq hn (zx_ok2_gen [a0, a1, a2, a3, a4, a5, a6, a7, a8] _ _ _ _ (zx_n2_last rfl hc)) k
theorem zx_iinc_9 {a0 a1 a2 a3 a4 a5 a6 a7 a8 : Option Value} {rr : List (Option Value)} {z : Int} {x : Int32} (d : Int32) (hd : decode M.2.2.1 pc = .ok (.iinc 9 z, 3)) (hq : pc + 3 = q) (hz : Int32.ofInt z = d) (hn : 9 < M.2.2.2.1) (hc : zx_n2 a8 = true) (k : zx_X E M Y q (a0 :: a1 :: a2 :: a3 :: a4 :: a5 :: a6 :: a7 :: a8 :: some (.int (x + d)) :: rr) st h n cells slots) : zx_X E M Y pc (a0 :: a1 :: a2 :: a3 :: a4 :: a5 :: a6 :: a7 :: a8 :: some (.int x) :: rr) st h n cells slots :=
  zx_iinc' d _ hd hq hz hn rfl (zx_ok1_gen [a0, a1, a2, a3, a4, a5, a6, a7, a8] _ _ _ (zx_n2_last rfl hc)) k
theorem zx_istore_10 {a0 a1 a2 a3 a4 a5 a6 a7 a8 a9 : Option Value} {y : Option Value} {rr : List (Option Value)} {x : Int32} (hd : decode M.2.2.1 pc = .ok (.istore 10, 2)) (hq : pc + 2 = q) (hn : 10 < M.2.2.2.1) (hc : zx_n2 a9 = true) (k : zx_X E M Y q (a0 :: a1 :: a2 :: a3 :: a4 :: a5 :: a6 :: a7 :: a8 :: a9 :: some (.int x) :: rr) st h n cells slots) : zx_X E M Y pc (a0 :: a1 :: a2 :: a3 :: a4 :: a5 :: a6 :: a7 :: a8 :: a9 :: y :: rr) (.int x :: st) h n cells slots :=
  zx_istore' (i := 10) _ hd hq hn (zx_ok1_gen [a0, a1, a2, a3, a4, a5, a6, a7, a8, a9] _ _ _ (zx_n2_last rfl hc)) k
theorem zx_astore_10 {a0 a1 a2 a3 a4 a5 a6 a7 a8 a9 : Option Value} {y : Option Value} {rr : List (Option Value)} {x : Nat} (hd : decode M.2.2.1 pc = .ok (.astore 10, 2)) (hq : pc + 2 = q) (hn : 10 < M.2.2.2.1) (hc : zx_n2 a9 = true) (k : zx_X E M Y q (a0 :: a1 :: a2 :: a3 :: a4 :: a5 :: a6 :: a7 :: a8 :: a9 :: some (.ref x) :: rr) st h n cells slots) : zx_X E M Y pc (a0 :: a1 :: a2 :: a3 :: a4 :: a5 :: a6 :: a7 :: a8 :: a9 :: y :: rr) (.ref x :: st) h n cells slots :=
  zx_astore' (i := 10) _ hd hq hn (zx_ok1_gen [a0, a1, a2, a3, a4, a5, a6, a7, a8, a9] _ _ _ (zx_n2_last rfl hc)) k
theorem zx_lstore_10 {a0 a1 a2 a3 a4 a5 a6 a7 a8 a9 : Option Value} {y y' : Option Value} {rr : List (Option Value)} {x : Int64} (hd : decode M.2.2.1 pc = .ok (.lstore 10, 2)) (hq : pc + 2 = q) (hn : 10 + 1 < M.2.2.2.1) (hc : zx_n2 a9 = true) (k : zx_X E M Y q (a0 :: a1 :: a2 :: a3 :: a4 :: a5 :: a6 :: a7 :: a8 :: a9 :: some (.long x) :: none :: rr) st h n cells slots) : zx_X E M Y pc (a0 :: a1 :: a2 :: a3 :: a4 :: a5 :: a6 :: a7 :: a8 :: a9 :: y :: y' :: rr) (.long x :: st) h n cells slots :=
  zx_lstore' (i := 10) _ hd hq hn (zx_ok2_gen [a0, a1, a2, a3, a4, a5, a6, a7, a8, a9] _ _ _ _ (zx_n2_last rfl hc)) k
theorem zx_iinc_10 {a0 a1 a2 a3 a4 a5 a6 a7 a8 a9 : Option Value} {rr : List (Option Value)} {z : Int} {x : Int32} (d : Int32) (hd : decode M.2.2.1 pc = .ok (.iinc 10 z, 3)) (hq : pc + 3 = q) (hz : Int32.ofInt z = d) (hn : 10 < M.2.2.2.1) (hc : zx_n2 a9 = true) (k : zx_X E M Y q (a0 :: a1 :: a2 :: a3 :: a4 :: a5 :: a6 :: a7 :: a8 :: a9 :: some (.int (x + d)) :: rr) st h n cells slots) : zx_X E M Y pc (a0 :: a1 :: a2 :: a3 :: a4 :: a5 :: a6 :: a7 :: a8 :: a9 :: some (.int x) :: rr) st h n cells slots :=
  zx_iinc' d _ hd hq hz hn rfl (zx_ok1_gen [a0, a1, a2, a3, a4, a5, a6, a7, a8, a9] _ _ _ (zx_n2_last rfl hc)) k
theorem zx_istore_11 {a0 a1 a2 a3 a4 a5 a6 a7 a8 a9 a10 : Option Value} {y : Option Value} {rr : List (Option Value)} {x : Int32} (hd : decode M.2.2.1 pc = .ok (.istore 11, 2)) (hq : pc + 2 = q) (hn : 11 < M.2.2.2.1) (hc : zx_n2 a10 = true) (k : zx_X E M Y q (a0 :: a1 :: a2 :: a3 :: a4 :: a5 :: a6 :: a7 :: a8 :: a9 :: a10 :: some (.int x) :: rr) st h n cells slots) : zx_X E M Y pc (a0 :: a1 :: a2 :: a3 :: a4 :: a5 :: a6 :: a7 :: a8 :: a9 :: a10 :: y :: rr) (.int x :: st) h n cells slots :=
  zx_istore' (i := 11) _ hd hq hn (zx_ok1_gen [a0, a1, a2, a3, a4, a5, a6, a7, a8, a9, a10] _ _ _ (zx_n2_last rfl hc)) k
theorem zx_astore_11 {a0 a1 a2 a3 a4 a5 a6 a7 a8 a9 a10 : Option Value} {y : Option Value} {rr : List (Option Value)} {x : Nat} (hd : decode M.2.2.1 pc = .ok (.astore 11, 2)) (hq : pc + 2 = q) (hn : 11 < M.2.2.2.1) (hc : zx_n2 a10 = true) (k : zx_X E M Y q (a0 :: a1 :: a2 :: a3 :: a4 :: a5 :: a6 :: a7 :: a8 :: a9 :: a10 :: some (.ref x) :: rr) st h n cells slots) : zx_X E M Y pc (a0 :: a1 :: a2 :: a3 :: a4 :: a5 :: a6 :: a7 :: a8 :: a9 :: a10 :: y :: rr) (.ref x :: st) h n cells slots :=
  zx_astore' (i := 11) _ hd hq hn (zx_ok1_gen [a0, a1, a2, a3, a4, a5, a6, a7, a8, a9, a10] _ _ _ (zx_n2_last rfl hc)) k
theorem zx_lstore_11 {a0 a1 a2 a3 a4 a5 a6 a7 a8 a9 a10 : Option Value} {y y' : Option Value} {rr : List (Option Value)} {x : Int64} (hd : decode M.2.2.1 pc = .ok (.lstore 11, 2)) (hq : pc + 2 = q) (hn : 11 + 1 < M.2.2.2.1) (hc : zx_n2 a10 = true) (k : zx_X E M Y q (a0 :: a1 :: a2 :: a3 :: a4 :: a5 :: a6 :: a7 :: a8 :: a9 :: a10 :: some (.long x) :: none :: rr) st h n cells slots) : zx_X E M Y pc (a0 :: a1 :: a2 :: a3 :: a4 :: a5 :: a6 :: a7 :: a8 :: a9 :: a10 :: y :: y' :: rr) (.long x :: st) h n cells slots :=
  zx_lstore' (i := 11) _ hd hq hn (zx_ok2_gen [a0, a1, a2, a3, a4, a5, a6, a7, a8, a9, a10] _ _ _ _ (zx_n2_last rfl hc)) k
theorem zx_iinc_11 {a0 a1 a2 a3 a4 a5 a6 a7 a8 a9 a10 : Option Value} {rr : List (Option Value)} {z : Int} {x : Int32} (d : Int32) (hd : decode M.2.2.1 pc = .ok (.iinc 11 z, 3)) (hq : pc + 3 = q) (hz : Int32.ofInt z = d) (hn : 11 < M.2.2.2.1) (hc : zx_n2 a10 = true) (k : zx_X E M Y q (a0 :: a1 :: a2 :: a3 :: a4 :: a5 :: a6 :: a7 :: a8 :: a9 :: a10 :: some (.int (x + d)) :: rr) st h n cells slots) : zx_X E M Y pc (a0 :: a1 :: a2 :: a3 :: a4 :: a5 :: a6 :: a7 :: a8 :: a9 :: a10 :: some (.int x) :: rr) st h n cells slots :=
  zx_iinc' d _ hd hq hz hn rfl (zx_ok1_gen [a0, a1, a2, a3, a4, a5, a6, a7, a8, a9, a10] _ _ _ (zx_n2_last rfl hc)) k
theorem zx_istore_12 {a0 a1 a2 a3 a4 a5 a6 a7 a8 a9 a10 a11 : Option Value} {y : Option Value} {rr : List (Option Value)} {x : Int32} (hd : decode M.2.2.1 pc = .ok (.istore 12, 2)) (hq : pc + 2 = q) (hn : 12 < M.2.2.2.1) (hc : zx_n2 a11 = true) (k : zx_X E M Y q (a0 :: a1 :: a2 :: a3 :: a4 :: a5 :: a6 :: a7 :: a8 :: a9 :: a10 :: a11 :: some (.int x) :: rr) st h n cells slots) : zx_X E M Y pc (a0 :: a1 :: a2 :: a3 :: a4 :: a5 :: a6 :: a7 :: a8 :: a9 :: a10 :: a11 :: y :: rr) (.int x :: st) h n cells slots :=
  zx_istore' (i := 12) _ hd hq hn (zx_ok1_gen [a0, a1, a2, a3, a4, a5, a6, a7, a8, a9, a10, a11] _ _ _ (zx_n2_last rfl hc)) k
theorem zx_astore_12 {a0 a1 a2 a3 a4 a5 a6 a7 a8 a9 a10 a11 : Option Value} {y : Option Value} {rr : List (Option Value)} {x : Nat} (hd : decode M.2.2.1 pc = .ok (.astore 12, 2)) (hq : pc + 2 = q) (hn : 12 < M.2.2.2.1) (hc : zx_n2 a11 = true) (k : zx_X E M Y q (a0 :: a1 :: a2 :: a3 :: a4 :: a5 :: a6 :: a7 :: a8 :: a9 :: a10 :: a11 :: some (.ref x) :: rr) st h n cells slots) : zx_X E M Y pc (a0 :: a1 :: a2 :: a3 :: a4 :: a5 :: a6 :: a7 :: a8 :: a9 :: a10 :: a11 :: y :: rr) (.ref x :: st) h n cells slots :=
  zx_astore' (i := 12) _ hd hq hn (zx_ok1_gen [a0, a1, a2, a3, a4, a5, a6, a7, a8, a9, a10, a11] _ _ _ (zx_n2_last rfl hc)) k
theorem zx_lstore_12 {a0 a1 a2 a3 a4 a5 a6 a7 a8 a9 a10 a11 : Option Value} {y y' : Option Value} {rr : List (Option Value)} {x : Int64} (hd : decode M.2.2.1 pc = .ok (.lstore 12, 2)) (hq : pc + 2 = q) (hn : 12 + 1 < M.2.2.2.1) (hc : zx_n2 a11 = true) (k : zx_X E M Y q (a0 :: a1 :: a2 :: a3 :: a4 :: a5 :: a6 :: a7 :: a8 :: a9 :: a10 :: a11 :: some (.long x) :: none :: rr) st h n cells slots) : zx_X E M Y pc (a0 :: a1 :: a2 :: a3 :: a4 :: a5 :: a6 :: a7 :: a8 :: a9 :: a10 :: a11 :: y :: y' :: rr) (.long x :: st) h n cells slots :=
  zx_lstore' (i := 12) _ hd hq hn (zx_ok2_gen [a0, a1, a2, a3, a4, a5, a6, a7, a8, a9, a10, a11] _ _ _ _ (zx_n2_last rfl hc)) k
theorem zx_iinc_12 {a0 a1 a2 a3 a4 a5 a6 a7 a8 a9 a10 a11 : Option Value} {rr : List (Option Value)} {z : Int} {x : Int32} (d : Int32) (hd : decode M.2.2.1 pc = .ok (.iinc 12 z, 3)) (hq : pc + 3 = q) (hz : Int32.ofInt z = d) (hn : 12 < M.2.2.2.1) (hc : zx_n2 a11 = true) (k : zx_X E M Y q (a0 :: a1 :: a2 :: a3 :: a4 :: a5 :: a6 :: a7 :: a8 :: a9 :: a10 :: a11 :: some (.int (x + d)) :: rr) st h n cells slots) : zx_X E M Y pc (a0 :: a1 :: a2 :: a3 :: a4 :: a5 :: a6 :: a7 :: a8 :: a9 :: a10 :: a11 :: some (.int x) :: rr) st h n cells slots :=
  zx_iinc' d _ hd hq hz hn rfl (zx_ok1_gen [a0, a1, a2, a3, a4, a5, a6, a7, a8, a9, a10, a11] _ _ _ (zx_n2_last rfl hc)) k
theorem zx_istore_13 {a0 a1 a2 a3 a4 a5 a6 a7 a8 a9 a10 a11 a12 : Option Value} {y : Option Value} {rr : List (Option Value)} {x : Int32} (hd : decode M.2.2.1 pc = .ok (.istore 13, 2)) (hq : pc + 2 = q) (hn : 13 < M.2.2.2.1) (hc : zx_n2 a12 = true) (k : zx_X E M Y q (a0 :: a1 :: a2 :: a3 :: a4 :: a5 :: a6 :: a7 :: a8 :: a9 :: a10 :: a11 :: a12 :: some (.int x) :: rr) st h n cells slots) : zx_X E M Y pc (a0 :: a1 :: a2 :: a3 :: a4 :: a5 :: a6 :: a7 :: a8 :: a9 :: a10 :: a11 :: a12 :: y :: rr) (.int x :: st) h n cells slots :=
  zx_istore' (i := 13) _ hd hq hn (zx_ok1_gen [a0, a1, a2, a3, a4, a5, a6, a7, a8, a9, a10, a11, a12] _ _ _ (zx_n2_last rfl hc)) k
theorem zx_astore_13 {a0 a1 a2 a3 a4 a5 a6 a7 a8 a9 a10 a11 a12 : Option Value} {y : Option Value} {rr : List (Option Value)} {x : Nat} (hd : decode M.2.2.1 pc = .ok (.astore 13, 2)) (hq : pc + 2 = q) (hn : 13 < M.2.2.2.1) (hc : zx_n2 a12 = true) (k : zx_X E M Y q (a0 :: a1 :: a2 :: a3 :: a4 :: a5 :: a6 :: a7 :: a8 :: a9 :: a10 :: a11 :: a12 :: some (.ref x) :: rr) st h n cells slots) : zx_X E M Y pc (a0 :: a1 :: a2 :: a3 :: a4 :: a5 :: a6 :: a7 :: a8 :: a9 :: a10 :: a11 :: a12 :: y :: rr) (.ref x :: st) h n cells slots :=
  zx_astore' (i := 13) _ hd hq hn (zx_ok1_gen [a0, a1, a2, a3, a4, a5, a6, a7, a8, a9, a10, a11, a12] _ _ _ (zx_n2_last rfl hc)) k
theorem zx_lstore_13 {a0 a1 a2 a3 a4 a5 a6 a7 a8 a9 a10 a11 a12 : Option Value} {y y' : Option Value} {rr : List (Option Value)} {x : Int64} (hd : decode M.2.2.1 pc = .ok (.lstore 13, 2)) (hq : pc + 2 = q) (hn : 13 + 1 < M.2.2.2.1) (hc : zx_n2 a12 = true) (k : zx_X E M Y q (a0 :: a1 :: a2 :: a3 :: a4 :: a5 :: a6 :: a7 :: a8 :: a9 :: a10 :: a11 :: a12 :: some (.long x) :: none :: rr) st h n cells slots) : zx_X E M Y pc (a0 :: a1 :: a2 :: a3 :: a4 :: a5 :: a6 :: a7 :: a8 :: a9 :: a10 :: a11 :: a12 :: y :: y' :: rr) (.long x :: st) h n cells slots :=
  zx_lstore' (i := 13) _ hd hq hn (zx_ok2_gen [a0, a1, a2, a3, a4, a5, a6, a7, a8, a9, a10, a11, a12] _ _ _ _ (zx_n2_last rfl hc)) k
theorem zx_iinc_13 {a0 a1 a2 a3 a4 a5 a6 a7 a8 a9 a10 a11 a12 : Option Value} {rr : List (Option Value)} {z : Int} {x : Int32} (d : Int32) (hd : decode M.2.2.1 pc = .ok (.iinc 13 z, 3)) (hq : pc + 3 = q) (hz : Int32.ofInt z = d) (hn : 13 < M.2.2.2.1) (hc : zx_n2 a12 = true) (k : zx_X E M Y q (a0 :: a1 :: a2 :: a3 :: a4 :: a5 :: a6 :: a7 :: a8 :: a9 :: a10 :: a11 :: a12 :: some (.int (x + d)) :: rr) st h n cells slots) : zx_X E M Y pc (a0 :: a1 :: a2 :: a3 :: a4 :: a5 :: a6 :: a7 :: a8 :: a9 :: a10 :: a11 :: a12 :: some (.int x) :: rr) st h n cells slots :=
  zx_iinc' d _ hd hq hz hn rfl (zx_ok1_gen [a0, a1, a2, a3, a4, a5, a6, a7, a8, a9, a10, a11, a12] _ _ _ (zx_n2_last rfl hc)) k
theorem zx_if_eq {x : Int32} {off : Int} (t : Nat) (hd : decode M.2.2.1 pc = .ok (.ifCond .eq off, 3)) (hq : pc + 3 = q) (ht : (pc : Int) + off = (t : Int)) (kt : x = 0 → zx_X E M Y t L st h n cells slots) (kf : ¬ x = 0 → zx_X E M Y q L st h n cells slots) : zx_X E M Y pc L (.int x :: st) h n cells slots := by
  subst hq
  exact fun p e s m args below meth c ls H locs C hl hR hS hb => lv_if_eq C.1 C.2.1 hd ht (fun z => kt z p e s m args below meth c ls H locs C hl hR hS hb) (fun z => kf z p e s m args below meth c ls H locs C hl hR hS hb)
theorem zx_icmp_eq {x y : Int32} {off : Int} (t : Nat) (hd : decode M.2.2.1 pc = .ok (.if_icmp .eq off, 3)) (hq : pc + 3 = q) (ht : (pc : Int) + off = (t : Int)) (kt : x = y → zx_X E M Y t L st h n cells slots) (kf : ¬ x = y → zx_X E M Y q L st h n cells slots) : zx_X E M Y pc L (.int y :: .int x :: st) h n cells slots := by
  subst hq
  exact fun p e s m args below meth c ls H locs C hl hR hS hb => lv_icmp_eq C.1 C.2.1 hd ht (fun z => kt z p e s m args below meth c ls H locs C hl hR hS hb) (fun z => kf z p e s m args below meth c ls H locs C hl hR hS hb)
theorem zx_if_ne {x : Int32} {off : Int} (t : Nat) (hd : decode M.2.2.1 pc = .ok (.ifCond .ne off, 3)) (hq : pc + 3 = q) (ht : (pc : Int) + off = (t : Int)) (kt : ¬ x = 0 → zx_X E M Y t L st h n cells slots) (kf : x = 0 → zx_X E M Y q L st h n cells slots) : zx_X E M Y pc L (.int x :: st) h n cells slots := by
  subst hq
  exact fun p e s m args below meth c ls H locs C hl hR hS hb => lv_if_ne C.1 C.2.1 hd ht (fun z => kt z p e s m args below meth c ls H locs C hl hR hS hb) (fun z => kf z p e s m args below meth c ls H locs C hl hR hS hb)
theorem zx_icmp_ne {x y : Int32} {off : Int} (t : Nat) (hd : decode M.2.2.1 pc = .ok (.if_icmp .ne off, 3)) (hq : pc + 3 = q) (ht : (pc : Int) + off = (t : Int)) (kt : ¬ x = y → zx_X E M Y t L st h n cells slots) (kf : x = y → zx_X E M Y q L st h n cells slots) : zx_X E M Y pc L (.int y :: .int x :: st) h n cells slots := by
  subst hq
  exact fun p e s m args below meth c ls H locs C hl hR hS hb => lv_icmp_ne C.1 C.2.1 hd ht (fun z => kt z p e s m args below meth c ls H locs C hl hR hS hb) (fun z => kf z p e s m args below meth c ls H locs C hl hR hS hb)
theorem zx_if_lt {x : Int32} {off : Int} (t : Nat) (hd : decode M.2.2.1 pc = .ok (.ifCond .lt off, 3)) (hq : pc + 3 = q) (ht : (pc : Int) + off = (t : Int)) (kt : x < 0 → zx_X E M Y t L st h n cells slots) (kf : ¬ x < 0 → zx_X E M Y q L st h n cells slots) : zx_X E M Y pc L (.int x :: st) h n cells slots := by
  subst hq
  exact fun p e s m args below meth c ls H locs C hl hR hS hb => lv_if_lt C.1 C.2.1 hd ht (fun z => kt z p e s m args below meth c ls H locs C hl hR hS hb) (fun z => kf z p e s m args below meth c ls H locs C hl hR hS hb)
theorem zx_icmp_lt {x y : Int32} {off : Int} (t : Nat) (hd : decode M.2.2.1 pc = .ok (.if_icmp .lt off, 3)) (hq : pc + 3 = q) (ht : (pc : Int) + off = (t : Int)) (kt : x < y → zx_X E M Y t L st h n cells slots) (kf : ¬ x < y → zx_X E M Y q L st h n cells slots) : zx_X E M Y pc L (.int y :: .int x :: st) h n cells slots := by
  subst hq
  exact fun p e s m args below meth c ls H locs C hl hR hS hb => lv_icmp_lt C.1 C.2.1 hd ht (fun z => kt z p e s m args below meth c ls H locs C hl hR hS hb) (fun z => kf z p e s m args below meth c ls H locs C hl hR hS hb)
theorem zx_if_ge {x : Int32} {off : Int} (t : Nat) (hd : decode M.2.2.1 pc = .ok (.ifCond .ge off, 3)) (hq : pc + 3 = q) (ht : (pc : Int) + off = (t : Int)) (kt : 0 ≤ x → zx_X E M Y t L st h n cells slots) (kf : ¬ 0 ≤ x → zx_X E M Y q L st h n cells slots) : zx_X E M Y pc L (.int x :: st) h n cells slots := by
  subst hq
  exact fun p e s m args below meth c ls H locs C hl hR hS hb => lv_if_ge C.1 C.2.1 hd ht (fun z => kt z p e s m args below meth c ls H locs C hl hR hS hb) (fun z => kf z p e s m args below meth c ls H locs C hl hR hS hb)
theorem zx_icmp_ge {x y : Int32} {off : Int} (t : Nat) (hd : decode M.2.2.1 pc = .ok (.if_icmp .ge off, 3)) (hq : pc + 3 = q) (ht : (pc : Int) + off = (t : Int)) (kt : y ≤ x → zx_X E M Y t L st h n cells slots) (kf : ¬ y ≤ x → zx_X E M Y q L st h n cells slots) : zx_X E M Y pc L (.int y :: .int x :: st) h n cells slots := by
  subst hq
  exact fun p e s m args below meth c ls H locs C hl hR hS hb => lv_icmp_ge C.1 C.2.1 hd ht (fun z => kt z p e s m args below meth c ls H locs C hl hR hS hb) (fun z => kf z p e s m args below meth c ls H locs C hl hR hS hb)
theorem zx_if_gt {x : Int32} {off : Int} (t : Nat) (hd : decode M.2.2.1 pc = .ok (.ifCond .gt off, 3)) (hq : pc + 3 = q) (ht : (pc : Int) + off = (t : Int)) (kt : 0 < x → zx_X E M Y t L st h n cells slots) (kf : ¬ 0 < x → zx_X E M Y q L st h n cells slots) : zx_X E M Y pc L (.int x :: st) h n cells slots := by
  subst hq
  exact fun p e s m args below meth c ls H locs C hl hR hS hb => lv_if_gt C.1 C.2.1 hd ht (fun z => kt z p e s m args below meth c ls H locs C hl hR hS hb) (fun z => kf z p e s m args below meth c ls H locs C hl hR hS hb)
theorem zx_icmp_gt {x y : Int32} {off : Int} (t : Nat) (hd : decode M.2.2.1 pc = .ok (.if_icmp .gt off, 3)) (hq : pc + 3 = q) (ht : (pc : Int) + off = (t : Int)) (kt : y < x → zx_X E M Y t L st h n cells slots) (kf : ¬ y < x → zx_X E M Y q L st h n cells slots) : zx_X E M Y pc L (.int y :: .int x :: st) h n cells slots := by
  subst hq
  exact fun p e s m args below meth c ls H locs C hl hR hS hb => lv_icmp_gt C.1 C.2.1 hd ht (fun z => kt z p e s m args below meth c ls H locs C hl hR hS hb) (fun z => kf z p e s m args below meth c ls H locs C hl hR hS hb)
theorem zx_if_le {x : Int32} {off : Int} (t : Nat) (hd : decode M.2.2.1 pc = .ok (.ifCond .le off, 3)) (hq : pc + 3 = q) (ht : (pc : Int) + off = (t : Int)) (kt : x ≤ 0 → zx_X E M Y t L st h n cells slots) (kf : ¬ x ≤ 0 → zx_X E M Y q L st h n cells slots) : zx_X E M Y pc L (.int x :: st) h n cells slots := by
  subst hq
  exact fun p e s m args below meth c ls H locs C hl hR hS hb => lv_if_le C.1 C.2.1 hd ht (fun z => kt z p e s m args below meth c ls H locs C hl hR hS hb) (fun z => kf z p e s m args below meth c ls H locs C hl hR hS hb)
theorem zx_icmp_le {x y : Int32} {off : Int} (t : Nat) (hd : decode M.2.2.1 pc = .ok (.if_icmp .le off, 3)) (hq : pc + 3 = q) (ht : (pc : Int) + off = (t : Int)) (kt : x ≤ y → zx_X E M Y t L st h n cells slots) (kf : ¬ x ≤ y → zx_X E M Y q L st h n cells slots) : zx_X E M Y pc L (.int y :: .int x :: st) h n cells slots := by
  subst hq
  exact fun p e s m args below meth c ls H locs C hl hR hS hb => lv_icmp_le C.1 C.2.1 hd ht (fun z => kt z p e s m args below meth c ls H locs C hl hR hS hb) (fun z => kf z p e s m args below meth c ls H locs C hl hR hS hb)
theorem zx_goto {off : Int} (t : Nat) (hd : decode M.2.2.1 pc = .ok (.goto off, 3)) (ht : (pc : Int) + off = (t : Int)) (k : zx_X E M Y t L st h n cells slots) : zx_X E M Y pc L st h n cells slots :=
  fun p e s m args below meth c ls H locs C hl hR hS hb => lv_goto C.1 C.2.1 hd ht (k p e s m args below meth c ls H locs C hl hR hS hb)
theorem zx_topi {x x' : Int32} (e : x = x') (k : zx_X E M Y pc L (.int x' :: st) h n cells slots) : zx_X E M Y pc L (.int x :: st) h n cells slots := by rw [e]; exact k
theorem zx_topl {x x' : Int64} (e : x = x') (k : zx_X E M Y pc L (.long x' :: st) h n cells slots) : zx_X E M Y pc L (.long x :: st) h n cells slots := by rw [e]; exact k
theorem zx_heap {h' : zxH} (e : h = h') (k : zx_X E M Y pc L st h' n cells slots) : zx_X E M Y pc L st h n cells slots := by rw [e]; exact k
theorem zx_iret {v : Int32} (hd : decode M.2.2.1 pc = .ok (.ireturn, 1)) (hr : M.2.2.2.2.1 = some .int) (k : Q (some (.int v)) h n) : zx_X E M (zx_Y E M Q) pc L [.int v] h n M.2.2.2.2.2.2.1 M.2.2.2.2.2.2.2 :=
  fun p e s m args below meth c ls H locs C hl hR hS hb => W.iret C.1 C.2.1 (C.2.2.2.2.2.1.trans hr) (fun t ht hW => ⟨⟨_, h, n, rfl, k, by rw [ht]; exact hR⟩, hS.F ht⟩) hS.2.2 hd C.2.2.2.2.2.2.1
theorem zx_zret {v : Int32} (hd : decode M.2.2.1 pc = .ok (.ireturn, 1)) (hr : M.2.2.2.2.1 = some .boolean) (hv : narrow .boolean (.int v) = .int v) (k : Q (some (.int v)) h n) : zx_X E M (zx_Y E M Q) pc L [.int v] h n M.2.2.2.2.2.2.1 M.2.2.2.2.2.2.2 :=
  fun p e s m args below meth c ls H locs C hl hR hS hb => W.zret C.1 C.2.1 (C.2.2.2.2.2.1.trans hr) hv (fun t ht hW => ⟨⟨_, h, n, rfl, k, by rw [ht]; exact hR⟩, hS.F ht⟩) hS.2.2 hd C.2.2.2.2.2.2.1
theorem zx_lret {v : Int64} (hd : decode M.2.2.1 pc = .ok (.lreturn, 1)) (hr : M.2.2.2.2.1 = some .long) (k : Q (some (.long v)) h n) : zx_X E M (zx_Y E M Q) pc L [.long v] h n M.2.2.2.2.2.2.1 M.2.2.2.2.2.2.2 :=
  fun p e s m args below meth c ls H locs C hl hR hS hb => W.lret C.1 C.2.1 (C.2.2.2.2.2.1.trans hr) (fun t ht hW => ⟨⟨_, h, n, rfl, k, by rw [ht]; exact hR⟩, hS.F ht⟩) hS.2.2 hd C.2.2.2.2.2.2.1
theorem zx_aret {v : Nat} {cn : String} (hd : decode M.2.2.1 pc = .ok (.areturn, 1)) (hr : M.2.2.2.2.1 = some (.object cn)) (k : Q (some (.ref v)) h n) : zx_X E M (zx_Y E M Q) pc L [.ref v] h n M.2.2.2.2.2.2.1 M.2.2.2.2.2.2.2 :=
  fun p e s m args below meth c ls H locs C hl hR hS hb => W.aret C.1 C.2.1 (C.2.2.2.2.2.1.trans hr) (Or.inl ⟨_, rfl⟩) (Or.inr ⟨_, rfl⟩) (fun t ht hW => ⟨⟨_, h, n, rfl, k, by rw [ht]; exact hR⟩, hS.F ht⟩) hS.2.2 hd C.2.2.2.2.2.2.1
theorem zx_vret (hd : decode M.2.2.1 pc = .ok (.return_, 1)) (hr : M.2.2.2.2.1 = none) (k : Q none h n) : zx_X E M (zx_Y E M Q) pc L [] h n M.2.2.2.2.2.2.1 M.2.2.2.2.2.2.2 :=
  fun p e s m args below meth c ls H locs C hl hR hS hb => W.vret C.1 C.2.1 (C.2.2.2.2.2.1.trans hr) (fun t ht hW => ⟨⟨_, h, n, rfl, k, by rw [ht]; exact hR⟩, hS.F ht⟩) hS.2.2 hd C.2.2.2.2.2.2.1
theorem zx_widen {c1 s1 : Nat} (h1 : cells ≤ c1) (h2 : slots ≤ s1) (k : zx_X E M Y pc L st h n c1 s1) : zx_X E M Y pc L st h n cells slots := fun p e s m args below meth c ls H locs C hl hR hS hb => W.widen h1 h2 (k p e s m args below meth c ls H locs C hl hR hS hb)
theorem zx_get {idx ci k a : Nat} {fs : List Value} {v : Value} {t : FieldType} {fin : Bool} (hd : decode M.2.2.1 pc = .ok (.getfield idx, 3)) (hq : pc + 3 = q) (hf : zx_Fl M.1 idx ci k t fin) (hc : h a = some (.inr (ci, fs))) (hv : fs[k]? = some v) (kk : zx_X E M Y q L (v :: st) h n cells slots) : zx_X E M Y pc L (.ref a :: st) h n cells slots := by
  subst hq
  obtain ⟨C0, T, N, ty, ⟨h1, h2, h3, h4⟩, hk, hl', -, -, -⟩ := hf
  exact fun p e s m args below meth c ls H locs C hl hR hS hb => va_get C.1 C.2.1 C.2.2.2.2.1 h2 C.2.2.2.1 C.2.2.2.2.2.2.2.2.1.1 (hR.one hc) 0 rfl h1 k hk (C.2.2.2.2.1 _ hl') (fun _ z => z) hv hd (kk p e s m args below meth c ls H locs C hl hR hS hb)
theorem zx_put {idx ci k a : Nat} {fs : List Value} {v : Value} {t : FieldType} {h' : zxH} (hd : decode M.2.2.1 pc = .ok (.putfield idx, 3)) (hq : pc + 3 = q) (hf : zx_Fl M.1 idx ci k t false) (hc : h a = some (.inr (ci, fs))) (hn : narrow t v = v) (hfit : fits t v = true) (hlen : k < fs.length) (he : zx_up h a (.inr (ci, fs.set k v)) = h') (kk : zx_X E M Y q L st h' n cells slots) : zx_X E M Y pc L (v :: .ref a :: st) h n cells slots := by
  subst hq
  subst he
  obtain ⟨C0, T, N, ty, ⟨h1, h2, h3, h4⟩, hk, hl', hty, hfin, -⟩ := hf
  intro p e s m args below meth c ls H locs C hl hR hS hb
  have hK : va_K E.2.2.1 vwCl (zx_tys E.2.2.2) s := C.2.2.2.2.2.2.2.2.1.1
  have hts := C.2.2.2.2.1
  have hap := va_apart (own := M.1) hts h2 ty h3 h4 hK h1
  obtain ⟨r, g1, cell, q1, q2, q3, q4⟩ := (hR.2.2 _ _ hc).2
  have hr : r = (C0, T, N) := Option.some.inj (g1.symm.trans h1)
  subst hr
  obtain ⟨hS', hfc, kC, hkC, hkind⟩ := hK.1 ci _ h1
  obtain ⟨cf, kf, fi, f, hi, hsl⟩ := hS' k hk
  have hlay := hts _ (h2 _ (u_in_lay hk))
  unfold u_lay at hlay
  rw [if_neg (by rw [hfin]; decide)] at hlay
  have hst := (u_facts hfc hkC (u_lays hts h2 hk) hi).1
  have h6 := u_store hfc hkC hkind hlay hi (h3 k hk) (hty ▸ hn) (hty ▸ hfit)
  refine W.putK C.1 C.2.1 (f := f) ⟨C.2.2.2.1, hts _ hl', ⟨_, _, _, hi⟩, hst⟩ (by rw [q2]; exact h6) q1 q3 (by rw [hsl]; exact k2_hasslot (q4 k hk)) rfl rfl hd fun H' e1 e2 e3 => ?_
  rw [hsl] at e1 ⊢
  exact kk p e s m args below meth c ls H' _ C hl (hR.set hc ⟨_, h1, t_OB.to (V := updV (vp_V fs) k v) ⟨_, e1, q2, q3, t_set q4 hap hk v⟩ (fun j _ => vp_updV_set hlen v j)⟩ e2 e3) (hS.put e2 e3 (hR.2.2 _ _ hc).1) hb
theorem zx_putF {idx ci k a : Nat} {fs : List Value} {v : Value} {t : FieldType} {h' : zxH} (hd : decode M.2.2.1 pc = .ok (.putfield idx, 3)) (hq : pc + 3 = q) (hf : zx_Fl M.1 idx ci k t true) (hin : M.2.1 = "<init>") (hci : ∃ r, vwCl[ci]? = some r ∧ r.1 = M.1) (hc : h a = some (.inr (ci, fs))) (hn : narrow t v = v) (hfit : fits t v = true) (hlen : k < fs.length) (he : zx_up h a (.inr (ci, fs.set k v)) = h') (kk : zx_X E M Y q L st h' n cells slots) : zx_X E M Y pc L (v :: .ref a :: st) h n cells slots := by
  subst hq
  subst he
  obtain ⟨C0, T, N, ty, ⟨h1, h2, h3, h4⟩, hk, hl', hty, hfin, hdecl⟩ := hf
  obtain ⟨r0, hr0, hr1⟩ := hci
  have hr2 : r0 = (C0, T, N) := Option.some.inj (hr0.symm.trans h1)
  subst hr2
  have hr1 : C0 = M.1 := hr1
  intro p e s m args below meth c ls H locs C hl hR hS hb
  have hK : va_K E.2.2.1 vwCl (zx_tys E.2.2.2) s := C.2.2.2.2.2.2.2.2.1.1
  have hts := C.2.2.2.2.1
  have hap := va_apart (own := M.1) hts h2 ty h3 h4 hK h1
  obtain ⟨r, g1, cell, q1, q2, q3, q4⟩ := (hR.2.2 _ _ hc).2
  have hr : r = (C0, T, N) := Option.some.inj (g1.symm.trans h1)
  subst hr
  obtain ⟨hS', hfc, kC, hkC, hkind⟩ := hK.1 ci _ h1
  obtain ⟨cf, kf, fi, f, hi, hsl⟩ := hS' k hk
  have hlay := hts _ (h2 _ (u_in_lay hk))
  unfold u_lay at hlay
  rw [if_pos hfin] at hlay
  have hst := (u_facts hfc hkC (u_lays hts h2 hk) hi).1
  have hcf : m.cls = cf := by
    obtain ⟨_, _, c', _, _, _, -, -, hf', -, -, -, hown2, -⟩ := Cond.laysFinal_spec hlay
    have e1 : c' = cf := by have := hi.symm.trans hf'; simp at this; exact this.1.symm
    rw [hdecl, hr1] at hown2
    rw [← e1]; exact Option.some.inj (C.2.2.2.1.symm.trans hown2)
  have h6 := u_fits hfc hkC hkind (Or.inr hlay) hi (h3 k hk) (hty ▸ hn) (hty ▸ hfit)
  refine W.putFinK C.1 C.2.1 C.2.2.2.1 (hts _ hl') hi hst hcf (C.2.2.2.2.2.2.2.1.trans hin) (by rw [q2]; exact h6) q1 q3 (by rw [hsl]; exact k2_hasslot (q4 k hk)) rfl rfl hd fun H' e1 e2 e3 => ?_
  rw [hsl] at e1 ⊢
  exact kk p e s m args below meth c ls H' _ C hl (hR.set hc ⟨_, h1, t_OB.to (V := updV (vp_V fs) k v) ⟨_, e1, q2, q3, t_set q4 hap hk v⟩ (fun j _ => vp_updV_set hlen v j)⟩ e2 e3) (hS.put e2 e3 (hR.2.2 _ _ hc).1) hb
theorem zx_iald {a len j : Nat} {f : Nat → Int32} {i : Int32} (hd : decode M.2.2.1 pc = .ok (.iaload, 1)) (hq : pc + 1 = q) (hc : h a = some (.inl (0, len, .inl f))) (hi : i = nI j) (hj : j < len) (hlen : len < 2 ^ 31) (kk : zx_X E M Y q L (.int (f j) :: st) h n cells slots) : zx_X E M Y pc L (.int i :: .ref a :: st) h n cells slots := by
  subst hq
  subst hi
  have ej : (nI j).toNatClampNeg = j := nI_clamp (by omega)
  intro p e s m args below meth c ls H locs C hl hR hS hb
  have hK : va_K E.2.2.1 vwCl (zx_tys E.2.2.2) s := C.2.2.2.2.2.2.2.2.1.1
  exact va_iald C.1 C.2.1 hK (hR.one hc) 0 0 rfl rfl (vp_in_nI hj hlen) hd (by rw [ej]; exact kk p e s m args below meth c ls H locs C hl hR hS hb)
theorem zx_zald {a len j : Nat} {f : Nat → Int32} {i : Int32} (hd : decode M.2.2.1 pc = .ok (.baload, 1)) (hq : pc + 1 = q) (hc : h a = some (.inl (2, len, .inl f))) (hi : i = nI j) (hj : j < len) (hlen : len < 2 ^ 31) (kk : zx_X E M Y q L (.int (f j) :: st) h n cells slots) : zx_X E M Y pc L (.int i :: .ref a :: st) h n cells slots := by
  subst hq
  subst hi
  have ej : (nI j).toNatClampNeg = j := nI_clamp (by omega)
  intro p e s m args below meth c ls H locs C hl hR hS hb
  have hK : va_K E.2.2.1 vwCl (zx_tys E.2.2.2) s := C.2.2.2.2.2.2.2.2.1.1
  exact va_zald C.1 C.2.1 hK (hR.one hc) 0 2 rfl rfl (vp_in_nI hj hlen) hd (by rw [ej]; exact kk p e s m args below meth c ls H locs C hl hR hS hb)
theorem zx_lald {a len j : Nat} {f : Nat → Int64} {i : Int32} (hd : decode M.2.2.1 pc = .ok (.laload, 1)) (hq : pc + 1 = q) (hc : h a = some (.inl (1, len, .inr (.inl f)))) (hi : i = nI j) (hj : j < len) (hlen : len < 2 ^ 31) (kk : zx_X E M Y q L (.long (f j) :: st) h n cells slots) : zx_X E M Y pc L (.int i :: .ref a :: st) h n cells slots := by
  subst hq
  subst hi
  have ej : (nI j).toNatClampNeg = j := nI_clamp (by omega)
  intro p e s m args below meth c ls H locs C hl hR hS hb
  have hK : va_K E.2.2.1 vwCl (zx_tys E.2.2.2) s := C.2.2.2.2.2.2.2.2.1.1
  exact va_lald C.1 C.2.1 hK (hR.one hc) 0 1 rfl rfl (vp_in_nI hj hlen) hd (by rw [ej]; exact kk p e s m args below meth c ls H locs C hl hR hS hb)
theorem zx_aald {a len j x kd : Nat} {cn : String} {f : Nat → Option Nat} {i : Int32} (hd : decode M.2.2.1 pc = .ok (.aaload, 1)) (hq : pc + 1 = q) (hkd : ∀ dA : Nat → ClassId, (zx_tys dA)[kd]? = some (dA kd, .object cn)) (hc : h a = some (.inl (kd, len, .inr (.inr (.inr (.inr f)))))) (hi : i = nI j) (hj : j < len) (hlen : len < 2 ^ 31) (hv : f j = some x) (kk : zx_X E M Y q L (.ref x :: st) h n cells slots) : zx_X E M Y pc L (.int i :: .ref a :: st) h n cells slots := by
  subst hq
  subst hi
  have ej : (nI j).toNatClampNeg = j := nI_clamp (by omega)
  intro p e s m args below meth c ls H locs C hl hR hS hb
  have hK : va_K E.2.2.1 vwCl (zx_tys E.2.2.2) s := C.2.2.2.2.2.2.2.2.1.1
  exact va_aldq C.1 C.2.1 hK (hR.one hc) 0 kd rfl (hkd _) (vp_in_nI hj hlen) hd (by rw [ej, hv]; exact kk p e s m args below meth c ls H locs C hl hR hS hb)
theorem zx_iast {a len j : Nat} {f : Nat → Int32} {i x : Int32} {h' : zxH} (hd : decode M.2.2.1 pc = .ok (.iastore, 1)) (hq : pc + 1 = q) (hc : h a = some (.inl (0, len, .inl f))) (hi : i = nI j) (hj : j < len) (hlen : len < 2 ^ 31) (he : zx_up h a (.inl (0, len, .inl (upd f j x))) = h') (kk : zx_X E M Y q L st h' n cells slots) : zx_X E M Y pc L (.int x :: .int i :: .ref a :: st) h n cells slots := by
  subst hq
  subst hi
  subst he
  have ej : (nI j).toNatClampNeg = j := nI_clamp (by omega)
  intro p e s m args below meth c ls H locs C hl hR hS hb
  have hK : va_K E.2.2.1 vwCl (zx_tys E.2.2.2) s := C.2.2.2.2.2.2.2.2.1.1
  have hA := hR.2.2 _ _ hc
  refine W.iast C.1 C.2.1 (show H[a]? = some (vp_cell (E.2.2.2 0) (len, .inl f)) from hA.2) ((hK.2 0 _ rfl).1 len (fun j => .int (f j))) (fun q => by cases q) (by show ¬ (nI j < 0 ∨ (arrV _ _ _).slots.size ≤ _); rw [arrV_size]; exact vp_in_nI hj hlen) rfl rfl hd fun H1 e1 z oq => ?_
  refine kk p e s m args below meth c ls H1 _ C hl (hR.set hc ?_ z oq) (hS.put z oq hA.1) hb
  show H1[a]? = some (vp_cell _ _)
  rw [e1, vp_cell_i, vp_cell_i, arrV_store, ej]
  congr 2
  funext q
  by_cases hq : q = j
  · subst hq
    simp [updV, upd]
  · simp [updV, upd, hq]
theorem zx_zast {a len j : Nat} {f : Nat → Int32} {i x : Int32} {h' : zxH} (hd : decode M.2.2.1 pc = .ok (.bastore, 1)) (hq : pc + 1 = q) (hc : h a = some (.inl (2, len, .inl f))) (hi : i = nI j) (hj : j < len) (hlen : len < 2 ^ 31) (he : zx_up h a (.inl (2, len, .inl (upd f j (vp_nar .boolean x)))) = h') (kk : zx_X E M Y q L st h' n cells slots) : zx_X E M Y pc L (.int x :: .int i :: .ref a :: st) h n cells slots := by
  subst hq
  subst hi
  subst he
  have ej : (nI j).toNatClampNeg = j := nI_clamp (by omega)
  intro p e s m args below meth c ls H locs C hl hR hS hb
  have hK : va_K E.2.2.1 vwCl (zx_tys E.2.2.2) s := C.2.2.2.2.2.2.2.2.1.1
  have hA := hR.2.2 _ _ hc
  refine W.zast C.1 C.2.1 (show H[a]? = some (vp_cell (E.2.2.2 2) (len, .inl f)) from hA.2) ((hK.2 2 _ rfl).1 len (fun j => .int (f j))) (fun q => by cases q) (by show ¬ (nI j < 0 ∨ (arrV _ _ _).slots.size ≤ _); rw [arrV_size]; exact vp_in_nI hj hlen) rfl rfl hd fun H1 e1 z oq => ?_
  refine kk p e s m args below meth c ls H1 _ C hl (hR.set hc ?_ z oq) (hS.put z oq hA.1) hb
  show H1[a]? = some (vp_cell _ _)
  rw [e1, vp_cell_i, vp_cell_i, arrV_store, ej]
  congr 2
  funext q
  by_cases hq : q = j
  · subst hq
    simp [updV, upd, vp_nar]
    try rfl
  · simp [updV, upd, hq]
theorem zx_last {a len j : Nat} {f : Nat → Int64} {i : Int32} {x : Int64} {h' : zxH} (hd : decode M.2.2.1 pc = .ok (.lastore, 1)) (hq : pc + 1 = q) (hc : h a = some (.inl (1, len, .inr (.inl f)))) (hi : i = nI j) (hj : j < len) (hlen : len < 2 ^ 31) (he : zx_up h a (.inl (1, len, .inr (.inl (vp_updL f j x)))) = h') (kk : zx_X E M Y q L st h' n cells slots) : zx_X E M Y pc L (.long x :: .int i :: .ref a :: st) h n cells slots := by
  subst hq
  subst hi
  subst he
  have ej : (nI j).toNatClampNeg = j := nI_clamp (by omega)
  intro p e s m args below meth c ls H locs C hl hR hS hb
  have hK : va_K E.2.2.1 vwCl (zx_tys E.2.2.2) s := C.2.2.2.2.2.2.2.2.1.1
  have hA := hR.2.2 _ _ hc
  refine W.last C.1 C.2.1 (show H[a]? = some (vp_cell (E.2.2.2 1) (len, .inr (.inl f))) from hA.2) ((hK.2 1 _ rfl).1 len (fun j => .long (f j))) (fun q => by cases q) (by show ¬ (nI j < 0 ∨ (arrV _ _ _).slots.size ≤ _); rw [arrV_size]; exact vp_in_nI hj hlen) rfl rfl hd fun H1 e1 z oq => ?_
  refine kk p e s m args below meth c ls H1 _ C hl (hR.set hc ?_ z oq) (hS.put z oq hA.1) hb
  show H1[a]? = some (vp_cell _ _)
  rw [e1, vp_cell_l, vp_cell_l, arrV_store, ej]
  congr 2
  funext q
  by_cases hq : q = j
  · subst hq
    simp [updV, vp_updL]
  · simp [updV, vp_updL, hq]
theorem zx_aast {a v len j kd ci : Nat} {cn : String} {r : vw_C} {vs : List Value} {f : Nat → Option Nat} {i : Int32} {h' : zxH} (hd : decode M.2.2.1 pc = .ok (.aastore, 1)) (hq : pc + 1 = q) (hkd : ∀ dA : Nat → ClassId, (zx_tys dA)[kd]? = some (dA kd, .object cn)) (hc : h a = some (.inl (kd, len, .inr (.inr (.inr (.inr f)))))) (hv : h v = some (.inr (ci, vs))) (hci : vwCl[ci]? = some r) (hcn : r.1 = cn) (hi : i = nI j) (hj : j < len) (hlen : len < 2 ^ 31) (he : zx_up h a (.inl (kd, len, .inr (.inr (.inr (.inr (va_up f j (some v))))))) = h') (kk : zx_X E M Y q L st h' n cells slots) : zx_X E M Y pc L (.ref v :: .int i :: .ref a :: st) h n cells slots := by
  subst hq
  subst hi
  subst he
  subst hcn
  have ej : (nI j).toNatClampNeg = j := nI_clamp (by omega)
  intro p e s m args below meth c ls H locs C hl hR hS hb
  have hK : va_K E.2.2.1 vwCl (zx_tys E.2.2.2) s := C.2.2.2.2.2.2.2.2.1.1
  have hA := hR.2.2 _ _ hc
  have hin := vp_in_nI hj hlen
  have hlt : (nI j).toNatClampNeg < len := Nat.not_le.mp fun q => hin (Or.inr q)
  have h0 : ¬ nI j < 0 := fun q => hin (Or.inl q)
  obtain ⟨r', hr', cellV, g1, g2, g3, -⟩ := (hR.2.2 _ _ hv).2
  have hcls := (hK.1 ci r hci).2
  obtain ⟨kA, comp, k1, k2, k3, -⟩ := (hK.2 kd _ (hkd _)).2
  have hcomp : comp = E.2.2.1.1 ci := Option.some.inj (k3.symm.trans hcls.1)
  subst hcomp
  obtain ⟨kC, hkC, -⟩ := hcls.2
  refine W.aast C.1 C.2.1 (show H[a]? = some (vp_cell (E.2.2.2 kd) (len, .inr (.inr (.inr (.inr f))))) from hA.2) (fun q h => by cases h) (fun h => by cases h) k1 k2 rfl hkC ⟨h0, by show _ < (arrV _ _ _).slots.size; rw [arrV_size]; exact hlt⟩ g1 (fun q h => by rw [g3] at h; cases h) (by rw [g2]; exact hkC) (by rw [g2]; exact va_assign hcls) rfl rfl hd fun H1 e1 z oq => ?_
  refine kk p e s m args below meth c ls H1 _ C hl (hR.set hc ?_ z oq) (hS.put z oq hA.1) hb
  show H1[a]? = some (vp_cell _ _)
  rw [e1, vp_cell_q, vp_cell_q, arrV_store, ej]
  congr 2
  funext q
  by_cases hq : q = j
  · subst hq
    simp [updV, va_up, va_rf]
  · simp [updV, va_up, hq]
theorem zx_new {idx ci N : Nat} {C0 : String} {T : u_T} {ty : Nat → FieldType} {fs : List Value} (hd : decode M.2.2.1 pc = .ok (.new idx, 3)) (hq : pc + 3 = q) (hcl : zx_Cl ci C0 T N ty) (hw : Cond.classLink M.1 idx C0 ∈ zx_T ∧ Cond.instantiable C0 N ∈ zx_T ∧ Cond.initialized C0 ∈ zx_T) (hfs : ∀ j, j < N → defaultValue (ty j) = vp_V fs j) (hcells : cells + 1 ≤ M.2.2.2.2.2.1.cells) (hslots : slots + N ≤ M.2.2.2.2.2.1.slots) (kk : zx_X E M Y q L (.ref n :: st) (zx_up h n (.inr (ci, fs))) (n + 1) (cells + 1) (slots + N)) : zx_X E M Y pc L st h n cells slots := by
  subst hq
  obtain ⟨h1, h2, h3, h4⟩ := hcl
  intro p e s m args below meth c ls H locs C hl hR hS hb
  have hK : va_K E.2.2.1 vwCl (zx_tys E.2.2.2) s := C.2.2.2.2.2.2.2.2.1.1
  have hts := C.2.2.2.2.1
  have hKn := hK.1 ci _ h1
  refine W.newcK C.1 C.2.1 C.2.2.2.1 (hts _ hw.1) (hts _ hw.2.1) (hts _ hw.2.2) rfl hd hcells hslots hKn.2.1 hR.1 fun H1 kC hkC e1 z1 o1 => ?_
  exact kk p e s m args below meth c ls H1 locs C hl (hR.new ⟨_, h1, (u_born ty hts h2 hKn hkC e1 h3).to hfs⟩ z1 (fun q hq => o1 q hq)) ⟨Nat.le_trans hS.1 (by rw [z1, hR.1]; exact Nat.le_succ _), fun x g1 g2 => (o1 x (by rw [← hR.1]; exact Nat.lt_of_lt_of_le g1 hS.1)).trans (hS.2.1 x g1 g2), hS.2.2⟩ hb
theorem zx_newI {i : Int32} {N : Nat} (hd : decode M.2.2.1 pc = .ok (.newarray .int, 2)) (hq : pc + 2 = q) (hw : Cond.arrayClass .int ∈ zx_T) (hi : i = nI N) (hN : N < 1000000) (hcells : cells + 1 ≤ M.2.2.2.2.2.1.cells) (hslots : slots + N ≤ M.2.2.2.2.2.1.slots) (kk : zx_X E M Y q L (.ref n :: st) (zx_up h n (.inl (0, N, .inl (fun _ => 0)))) (n + 1) (cells + 1) (slots + N)) : zx_X E M Y pc L (.int i :: st) h n cells slots := by
  subst hq
  subst hi
  intro p e s m args below meth c ls H locs C hl hR hS hb
  have hK : va_K E.2.2.1 vwCl (zx_tys E.2.2.2) s := C.2.2.2.2.2.2.2.2.1.1
  have hts := C.2.2.2.2.1
  refine va_newaK C.1 C.2.1 (atype := .int) (hts _ hw) rfl hd rfl (nI_pos (by omega)) (nI_clamp (by omega)) (by show N * 4 ≤ _; omega) hcells hslots hR.1 fun H1 cA e1 z1 o1 hAr hNm => ?_
  have hcA : E.2.2.2 0 = cA := Option.some.inj ((show s.vm.findClass _ = some (E.2.2.2 0) from (hK.2 0 _ rfl).2).symm.trans hNm)
  refine kk p e s m args below meth c ls H1 locs C hl (hR.new ?_ z1 (fun q hq => o1 q hq)) ⟨Nat.le_trans hS.1 (by rw [z1, hR.1]; exact Nat.le_succ _), fun x g1 g2 => (o1 x (by rw [← hR.1]; exact Nat.lt_of_lt_of_le g1 hS.1)).trans (hS.2.1 x g1 g2), hS.2.2⟩ hb
  show H1[n]? = some (vp_cell (E.2.2.2 0) _)
  rw [hcA]
  exact e1
theorem zx_newL {i : Int32} {N : Nat} (hd : decode M.2.2.1 pc = .ok (.newarray .long, 2)) (hq : pc + 2 = q) (hw : Cond.arrayClass .long ∈ zx_T) (hi : i = nI N) (hN : N < 1000000) (hcells : cells + 1 ≤ M.2.2.2.2.2.1.cells) (hslots : slots + N ≤ M.2.2.2.2.2.1.slots) (kk : zx_X E M Y q L (.ref n :: st) (zx_up h n (.inl (1, N, .inr (.inl (fun _ => 0))))) (n + 1) (cells + 1) (slots + N)) : zx_X E M Y pc L (.int i :: st) h n cells slots := by
  subst hq
  subst hi
  intro p e s m args below meth c ls H locs C hl hR hS hb
  have hK : va_K E.2.2.1 vwCl (zx_tys E.2.2.2) s := C.2.2.2.2.2.2.2.2.1.1
  have hts := C.2.2.2.2.1
  refine va_newaK C.1 C.2.1 (atype := .long) (hts _ hw) rfl hd rfl (nI_pos (by omega)) (nI_clamp (by omega)) (by show N * 8 ≤ _; omega) hcells hslots hR.1 fun H1 cA e1 z1 o1 hAr hNm => ?_
  have hcA : E.2.2.2 1 = cA := Option.some.inj ((show s.vm.findClass _ = some (E.2.2.2 1) from (hK.2 1 _ rfl).2).symm.trans hNm)
  refine kk p e s m args below meth c ls H1 locs C hl (hR.new ?_ z1 (fun q hq => o1 q hq)) ⟨Nat.le_trans hS.1 (by rw [z1, hR.1]; exact Nat.le_succ _), fun x g1 g2 => (o1 x (by rw [← hR.1]; exact Nat.lt_of_lt_of_le g1 hS.1)).trans (hS.2.1 x g1 g2), hS.2.2⟩ hb
  show H1[n]? = some (vp_cell (E.2.2.2 1) _)
  rw [hcA]
  exact e1
theorem zx_newZ {i : Int32} {N : Nat} (hd : decode M.2.2.1 pc = .ok (.newarray .boolean, 2)) (hq : pc + 2 = q) (hw : Cond.arrayClass .boolean ∈ zx_T) (hi : i = nI N) (hN : N < 1000000) (hcells : cells + 1 ≤ M.2.2.2.2.2.1.cells) (hslots : slots + N ≤ M.2.2.2.2.2.1.slots) (kk : zx_X E M Y q L (.ref n :: st) (zx_up h n (.inl (2, N, .inl (fun _ => 0)))) (n + 1) (cells + 1) (slots + N)) : zx_X E M Y pc L (.int i :: st) h n cells slots := by
  subst hq
  subst hi
  intro p e s m args below meth c ls H locs C hl hR hS hb
  have hK : va_K E.2.2.1 vwCl (zx_tys E.2.2.2) s := C.2.2.2.2.2.2.2.2.1.1
  have hts := C.2.2.2.2.1
  refine va_newaK C.1 C.2.1 (atype := .boolean) (hts _ hw) rfl hd rfl (nI_pos (by omega)) (nI_clamp (by omega)) (by show N * 1 ≤ _; omega) hcells hslots hR.1 fun H1 cA e1 z1 o1 hAr hNm => ?_
  have hcA : E.2.2.2 2 = cA := Option.some.inj ((show s.vm.findClass _ = some (E.2.2.2 2) from (hK.2 2 _ rfl).2).symm.trans hNm)
  refine kk p e s m args below meth c ls H1 locs C hl (hR.new ?_ z1 (fun q hq => o1 q hq)) ⟨Nat.le_trans hS.1 (by rw [z1, hR.1]; exact Nat.le_succ _), fun x g1 g2 => (o1 x (by rw [← hR.1]; exact Nat.lt_of_lt_of_le g1 hS.1)).trans (hS.2.1 x g1 g2), hS.2.2⟩ hb
  show H1[n]? = some (vp_cell (E.2.2.2 2) _)
  rw [hcA]
  exact e1
theorem zx_newQ {idx kd : Nat} {cn : String} {i : Int32} {N : Nat} (hd : decode M.2.2.1 pc = .ok (.anewarray idx, 3)) (hq : pc + 3 = q) (hkd : ∀ dA : Nat → ClassId, (zx_tys dA)[kd]? = some (dA kd, .object cn)) (hw : Cond.classLink M.1 idx cn ∈ zx_T ∧ cn ∈ zx_AO) (hi : i = nI N) (hN : N < 1000000) (hcells : cells + 1 ≤ M.2.2.2.2.2.1.cells) (hslots : slots + N ≤ M.2.2.2.2.2.1.slots) (kk : zx_X E M Y q L (.ref n :: st) (zx_up h n (.inl (kd, N, .inr (.inr (.inr (.inr (fun _ => none))))))) (n + 1) (cells + 1) (slots + N)) : zx_X E M Y pc L (.int i :: st) h n cells slots := by
  subst hq
  subst hi
  intro p e s m args below meth c ls H locs C hl hR hS hb
  have hK : va_K E.2.2.1 vwCl (zx_tys E.2.2.2) s := C.2.2.2.2.2.2.2.2.1.1
  have hts := C.2.2.2.2.1
  have ej : (nI N).toNatClampNeg = N := nI_clamp (by omega)
  refine W.anew C.1 C.2.1 C.2.2.2.1 (hts _ hw.1) (va_AO.use (C.2.2.2.2.2.2.2.2.1.2.2 _ hw.2)) rfl hd rfl (nI_pos (by omega)) (by rw [ej]; omega) hcells (by rw [ej]; exact hslots) fun cA kA comp f1 f2 f3 f4 => ?_
  rw [ej]
  generalize hH1 : H.push ({ cls := cA, slots := Array.replicate N .null, vm := .none } : Cell) = H1
  have z1 : H1.size = n + 1 := by rw [← hH1, Array.size_push, hR.1]
  have e1 : H1[n]? = some (arrV cA N (fun _ => .null)) := by rw [← hH1, ← hR.1, Array.getElem?_push_size, ← arrV_new]
  have o1 : ∀ q : Nat, q < n → H1[q]? = H[q]? := fun q hq => by rw [← hH1, Array.getElem?_push, if_neg (by rw [hR.1]; exact Nat.ne_of_lt hq)]
  have hcA : E.2.2.2 kd = cA := by
    obtain ⟨kA2, comp2, k1, k2, k3, k4⟩ := (hK.2 kd _ (hkd _)).2
    exact Option.some.inj (k4.symm.trans f1)
  have hsz : H.size = n := hR.1
  rw [hsz]
  refine kk p e s m args below meth c ls H1 locs C hl (hR.new ?_ z1 o1) ⟨Nat.le_trans hS.1 (by rw [z1, hsz]; exact Nat.le_succ _), fun x g1 g2 => (o1 x (by rw [← hsz]; exact Nat.lt_of_lt_of_le g1 hS.1)).trans (hS.2.1 x g1 g2), hS.2.2⟩ hb
  show H1[n]? = some (vp_cell (E.2.2.2 kd) _)
  rw [hcA, vp_cell_q]
  exact e1
theorem zx_objInit {idx a : Nat} (hd : decode M.2.2.1 pc = .ok (.invokespecial idx, 3)) (hq : pc + 3 = q) (hw : Cond.methodLink M.1 idx objectInit ∈ zx_T ∧ Cond.instanceMethod objectInit ∈ zx_T ∧ Cond.code objectInit ⟨#[0xb1]⟩ 1 none ∈ zx_T) (hfr : 1 ≤ M.2.2.2.2.2.1.frames) (hlo : (st.map fun v => v.category).sum + 12 ≤ M.2.2.2.2.2.1.locals) (kk : zx_X E M Y q L st h n cells slots) : zx_X E M Y pc L (.ref a :: st) h n cells slots := by
  subst hq
  intro p e s m args below meth c ls H locs C hl hR hS hb
  have hts := C.2.2.2.2.1
  exact W.objInit C.1 C.2.1 C.2.2.2.1 (hts _ hw.1) (hts _ hw.2.1) (hts _ hw.2.2) rfl (by show ls.size = _; rw [hl.1]; exact C.2.2.1.symm) rfl hd hfr (by show 2 * 0 + _ + 12 ≤ _; omega) (kk p e s m args below meth c ls H locs C hl hR hS hb)
theorem zx_mmin {idx : Nat} {x y : Int32} (hd : decode M.2.2.1 pc = .ok (.invokestatic idx, 3)) (hq : pc + 3 = q) (hw : Cond.methodLink M.1 idx Lib.Math.min.name ∈ zx_T ∧ Cond.static Lib.Math.min.name ∈ zx_T ∧ Cond.initialized "java/lang/Math" ∈ zx_T ∧ Cond.code Lib.Math.min.name Lib.Math.min.code 2 (some .int) ∈ zx_T) (hfr : 1 ≤ M.2.2.2.2.2.1.frames) (hlo : (st.map fun v => v.category).sum + 13 ≤ M.2.2.2.2.2.1.locals) (hcs : cells ≤ M.2.2.2.2.2.1.cells ∧ slots ≤ M.2.2.2.2.2.1.slots) (kk : zx_X E M Y q L (.int (if y < x then y else x) :: st) h n cells slots) : zx_X E M Y pc L (.int y :: .int x :: st) h n cells slots := by
  subst hq
  intro p e s m args below meth c ls H locs C hl hR hS hb
  have hts := C.2.2.2.2.1
  exact va_mmin C.1 C.2.1 (by rw [hl.1]; exact C.2.2.1) C.2.2.2.1 (hts _ hw.1) (hts _ hw.2.1) (hts _ hw.2.2.1) (hts _ hw.2.2.2) hfr hlo hcs.1 hcs.2 hd (kk p e s m args below meth c ls H locs C hl hR hS hb)
theorem zx_mminl {idx : Nat} {x y : Int64} (hd : decode M.2.2.1 pc = .ok (.invokestatic idx, 3)) (hq : pc + 3 = q) (hw : Cond.methodLink M.1 idx Lib.MathLoose.min_long.x ∈ zx_T ∧ Cond.static Lib.MathLoose.min_long.x ∈ zx_T ∧ Cond.initialized "java/lang/Math" ∈ zx_T ∧ Cond.code Lib.MathLoose.min_long.x Lib.MathLoose.min_long.code 4 (some .long) ∈ zx_T) (hfr : 1 ≤ M.2.2.2.2.2.1.frames) (hlo : (st.map fun v => v.category).sum + 15 ≤ M.2.2.2.2.2.1.locals) (hcs : cells ≤ M.2.2.2.2.2.1.cells ∧ slots ≤ M.2.2.2.2.2.1.slots) (kk : zx_X E M Y q L (.long (if y < x then y else x) :: st) h n cells slots) : zx_X E M Y pc L (.long y :: .long x :: st) h n cells slots := by
  subst hq
  intro p e s m args below meth c ls H locs C hl hR hS hb
  have hts := C.2.2.2.2.1
  exact va_mmin_long C.1 C.2.1 (by rw [hl.1]; exact C.2.2.1) C.2.2.2.1 (hts _ hw.1) (hts _ hw.2.1) (hts _ hw.2.2.1) (hts _ hw.2.2.2) hfr hlo hcs.1 hcs.2 hd (kk p e s m args below meth c ls H locs C hl hR hS hb)
/-- a contract from a walk of the body -/
theorem zx_start {y : MethodName} {av : List Value} {Q : Option Value → zxH → Nat → Prop} (L : List (Option Value)) (hy : plainName y.cls = true) (hyc : y.cls = M.1) (hyn : y.name = M.2.1) (hs : (lg_sl av).length ≤ M.2.2.2.1) (hL : zx_as 0 L = lv_args 0 av) (hx : zx_X E M (zx_Y E M Q) 0 L [] h n 0 0) : zx_Ok E y M av h n Q := by
  refine Met.ofW (cc := M.2.2.1) (maxL := M.2.2.2.1) (ret := M.2.2.2.2.1) hy rfl ?_
  intro p e s m args below meth c s₁ B hml hv
  obtain ⟨rfl, hR, hK⟩ := hv
  have hts := atoms_spec (ws := Cond.code y M.2.2.1 M.2.2.2.1 M.2.2.2.2.1 :: zx_T) B.pre
  have hl := lv_entry av hs
  rw [lg_entry_eq]
  rw [← hL] at hl
  exact hx p e s m _ below meth c _ s.heap [] ⟨B.exec, B.bytes, hml, hyc ▸ findClass_of_methodNamed B.named, fun w hw => hts w (List.mem_cons_of_mem _ hw), B.returns, B.notSynchronized, (name_of_methodNamed B.named B.method).1.trans hyn, hK, trivial⟩ hl hR va_S.rf (by rw [hR.1]; exact hR.2.1)
/-- behind a call -/
theorem zx_cont {p : Program} {e : Env} {s : State} {m : MethodId} {args : Array Value} {below : List Frame} {meth : Method} {c : Code} {H : Heap} {locs : List Loc} {ls : Array Slot} {st0 rest : List Value} {a : Array Value} {mc ms : Nat} {Q' : Option Value → zxH → Nat → Prop} (C : zx_C E M Y p s m args meth c)
    (hr : va_Run p E.1 e M.2.2.2.2.2.1 s m args below meth c H locs cells slots mc ms (F0 m pc ls st0) rest (zx_Q E Q' a) (zx_A E)) (hl : lv_has ls M.2.2.2.1 (zx_as 0 L)) (hS : va_S (zx_A E) s.heap H locs) (hb : E.2.1 ≤ s.heap.size)
    (kk : ∀ (r : Option Value) (h1 : zxH) (n1 : Nat), Q' r h1 n1 → zx_X E M Y (pc + 3) L (r.toList ++ rest) h1 n1 (cells + mc) (slots + ms)) : W p E.1 e M.2.2.2.2.2.1 s m args below meth c H locs cells slots (Y.2 below args s) (F0 m pc ls st0) := by
  intro T hT X
  obtain ⟨v, st₀, t, T', L', h0, X', hL, e1, e2, ⟨⟨r, h1, n1, hv, hq, hR1⟩, hz, hk⟩, st⟩ := hr T hT X
  cases hv
  rw [h0] at hz hk
  obtain ⟨t2, a1, b1⟩ := kk v h1 n1 hq p e s m args below meth c ls T'.heap (locs ++ L') C hl (by rw [e1]; exact hR1)
    ⟨Nat.le_trans hS.1 (by rw [e1]; exact hz), fun q g1 g2 => by rw [e1, hk q (Nat.lt_of_lt_of_le g1 hS.1) g2]; exact hS.2.1 q g1 g2, fun q hq => by
      rcases List.mem_append.mp hq with g | g
      · exact hS.2.2 q g
      · exact hL q g⟩ hb T' rfl X'
  exact ⟨t2, st t2 a1, b1⟩
end ZX
theorem zx_blind (E : zxE) (av : List Value) (h : zxH) (n : Nat) : FrameBlind (va_Pc av (fun U => zx_R E h n U.heap ∧ zx_K E U)) := by
  intro a U g mk hq
  obtain ⟨q0, q1, q2⟩ := hq
  exact ⟨q0, q1, va_K.moved (u := U) (U := U.calling g mk a) (Vm.Alike.refl U.vm) q2.1, fun q hq => va_Nw.same (u := U) (U := U.calling g mk a) rfl rfl (q2.2.1 q hq), fun C hC => va_AO.moved (u := U) (U := U.calling g mk a) (Vm.Alike.refl U.vm) (q2.2.2 C hC)⟩
def zx_room (M M' : zxM) : Prop := M'.2.2.2.2.2.1.cells = M'.2.2.2.2.2.2.1 ∧ M'.2.2.2.2.2.1.slots = M'.2.2.2.2.2.2.2 ∧ M'.2.2.2.2.2.1.frames + 1 ≤ M.2.2.2.2.2.1.frames ∧ 8 + (M'.2.2.2.1 + 11) + M'.2.2.2.2.2.1.locals ≤ M.2.2.2.2.2.1.locals
def zx_nm (y : MethodName) (na : Nat) : Prop := y.cls ≠ "java/lang/invoke/MethodHandle" ∧ y.cls ≠ "java/lang/invoke/VarHandle" ∧ (parseMethodDescriptor y.desc).map (fun d => d.parameters.length) = some na
/-- a call of a method of an object -/
def zx_CV (M M' : zxM) (idx : Nat) (y : MethodName) (na : Nat) : Prop :=
  (Cond.methodLink M.1 idx y ∈ zx_T ∧ Cond.instanceMethod y ∈ zx_T ∧ Cond.selects M'.1 y y ∈ zx_T ∧ Cond.initialized M'.1 ∈ zx_T ∧ Cond.code y M'.2.2.1 M'.2.2.2.1 M'.2.2.2.2.1 ∈ zx_T) ∧ y.cls = M'.1 ∧ zx_nm y na ∧ zx_room M M'
/-- a constructor's call -/
def zx_CI (M M' : zxM) (idx : Nat) (y : MethodName) (na : Nat) : Prop :=
  (Cond.methodLink M.1 idx y ∈ zx_T ∧ Cond.instanceMethod y ∈ zx_T ∧ Cond.initialized y.cls ∈ zx_T ∧ Cond.code y M'.2.2.1 M'.2.2.2.1 none ∈ zx_T) ∧ y.name = "<init>" ∧ M'.2.2.2.2.1 = none ∧ zx_nm y na ∧ zx_room M M'
/-- a call of a static method of the own text -/
def zx_CS (M M' : zxM) (idx : Nat) (y : MethodName) (na : Nat) : Prop :=
  (Cond.methodLink M.1 idx y ∈ zx_T ∧ Cond.static y ∈ zx_T ∧ Cond.initialized M.1 ∈ zx_T ∧ Cond.code y M'.2.2.1 M'.2.2.2.1 M'.2.2.2.2.1 ∈ zx_T) ∧ y.cls = M.1 ∧ zx_nm y na ∧ zx_room M M'
/-- a static method's call, of a nest mate -/
def zx_CN (M M' : zxM) (idx : Nat) (y : MethodName) (na : Nat) : Prop :=
  ((M.1, idx, y) ∈ zx_N ∧ Cond.static y ∈ zx_T ∧ Cond.initialized y.cls ∈ zx_T ∧ Cond.code y M'.2.2.1 M'.2.2.2.1 M'.2.2.2.2.1 ∈ zx_T) ∧ zx_nm y na ∧ zx_room M M'
/-- a call of a constructor that only nest mates may call -/
def zx_CJ (M M' : zxM) (idx : Nat) (y : MethodName) (na : Nat) : Prop :=
  ((M.1, idx, y) ∈ zx_N ∧ Cond.instanceMethod y ∈ zx_T ∧ Cond.initialized y.cls ∈ zx_T ∧ Cond.code y M'.2.2.1 M'.2.2.2.1 none ∈ zx_T) ∧ y.name = "<init>" ∧ M'.2.2.2.2.1 = none ∧ zx_nm y na ∧ zx_room M M'
theorem zx_goods {y : MethodName} {cc : ByteArray} {nL : Nat} {ret : Option FieldType} (h : Cond.code y cc nL ret ∈ zx_T) : GoodIn zx_T (.code y cc nL ret :: zx_T) := by
  intro w hw
  rcases List.mem_cons.mp hw with rfl | hw
  · exact ⟨h, zx_good _ h⟩
  · exact ⟨hw, zx_good _ hw⟩
section ZC
variable {E : zxE} {M M' : zxM} {Y : zxY} {pc q cells slots n idx na : Nat} {L : List (Option Value)} {rest As : List Value} {h : zxH} {y : MethodName} {Q' : Option Value → zxH → Nat → Prop}
theorem zx_callV {a ci : Nat} {fs : List Value} {r : vw_C} (hd : decode M.2.2.1 pc = .ok (.invokevirtual idx, 3)) (hq : pc + 3 = q) (hw : zx_CV M M' idx y na) (hc : h a = some (.inr (ci, fs))) (hci : vwCl[ci]? = some r) (hr : r.1 = M'.1) (hna : As.length = na) (hst : (rest.map fun v => v.category).sum ≤ 8) (hf : cells + M'.2.2.2.2.2.2.1 ≤ M.2.2.2.2.2.1.cells ∧ slots + M'.2.2.2.2.2.2.2 ≤ M.2.2.2.2.2.1.slots)
    (ok : zx_Ok E y M' (.ref a :: As) h n Q') (kk : ∀ (r : Option Value) (h1 : zxH) (n1 : Nat), Q' r h1 n1 → zx_X E M Y q L (r.toList ++ rest) h1 n1 (cells + M'.2.2.2.2.2.2.1) (slots + M'.2.2.2.2.2.2.2)) : zx_X E M Y pc L (As.reverse ++ .ref a :: rest) h n cells slots := by
  subst hq
  obtain ⟨⟨w1, w2, w3, w4, w5⟩, hyc, hnm, r1, r2, r3, r4⟩ := hw
  intro p e s m args below meth c ls H locs C hl hR hS hb
  have hK : va_K E.2.2.1 vwCl (zx_tys E.2.2.2) s := C.2.2.2.2.2.2.2.2.1.1
  have hts := C.2.2.2.2.1
  have hg := zx_goods w5
  have hT : GoodIn zx_T (wsV M.1 idx M'.1 y (.code y M'.2.2.1 M'.2.2.2.1 M'.2.2.2.2.1 :: zx_T)) := by
    intro w hw
    unfold wsV at hw
    rcases List.mem_append.mp hw with g | g
    · have : w ∈ zx_T := by
        simp only [List.mem_cons, List.not_mem_nil, or_false] at g
        rcases g with rfl | rfl | rfl | rfl <;> assumption
      exact ⟨this, zx_good _ this⟩
    · exact hg w g
  have hcw := cwV (R := M.2.2.2.2.2.1) (rm := M'.2.2.2.2.2.1) na hts hT rfl r1 r2 ⟨hyc, hnm⟩ ⟨r3, r4⟩
  obtain ⟨cellB, c1, c2, c3⟩ := va_recv (q0 := 0) hK (hR.one hc) hci rfl
  exact zx_cont C (va_runV (As := As) (rest := rest) ⟨C.1, C.2.1, C.2.2.1, C.2.2.2.1, hts⟩ ok hcw ⟨zx_blind _ _ _ _, ⟨cellB, c1, c2, by rw [← hr]; exact c3⟩, fun U hU hW => ⟨rfl, by rw [hU]; exact hR, zx_K.warm hW C.2.2.2.2.2.2.2.2.1⟩⟩ rfl hna hl.1 rfl (lv_room hst) hd hf) hl hS hb kk
theorem zx_callI {a : Nat} (hd : decode M.2.2.1 pc = .ok (.invokespecial idx, 3)) (hq : pc + 3 = q) (hw : zx_CI M M' idx y na) (hna : As.length = na) (hst : (rest.map fun v => v.category).sum ≤ 8) (hf : cells + M'.2.2.2.2.2.2.1 ≤ M.2.2.2.2.2.1.cells ∧ slots + M'.2.2.2.2.2.2.2 ≤ M.2.2.2.2.2.1.slots)
    (ok : zx_Ok E y M' (.ref a :: As) h n Q') (kk : ∀ (r : Option Value) (h1 : zxH) (n1 : Nat), Q' r h1 n1 → zx_X E M Y q L (r.toList ++ rest) h1 n1 (cells + M'.2.2.2.2.2.2.1) (slots + M'.2.2.2.2.2.2.2)) : zx_X E M Y pc L (As.reverse ++ .ref a :: rest) h n cells slots := by
  subst hq
  obtain ⟨⟨w1, w2, w4, w5⟩, hyi, hret, hnm, r1, r2, r3, r4⟩ := hw
  intro p e s m args below meth c ls H locs C hl hR hS hb
  have hK : va_K E.2.2.1 vwCl (zx_tys E.2.2.2) s := C.2.2.2.2.2.2.2.2.1.1
  have hts := C.2.2.2.2.1
  have hg := zx_goods w5
  rw [← hret] at hg
  have hcw := cwI (R := M.2.2.2.2.2.1) (rm := M'.2.2.2.2.2.1) na hts hg (by rw [hret]) r1 r2 (hts _ w4) (hts _ w1) (hts _ w2) hyi hnm ⟨r3, r4⟩
  exact zx_cont C (va_runI (As := As) (rest := rest) ⟨C.1, C.2.1, C.2.2.1, C.2.2.2.1, hts⟩ ok hcw ⟨zx_blind _ _ _ _, fun U hU hW => ⟨rfl, by rw [hU]; exact hR, zx_K.warm hW C.2.2.2.2.2.2.2.2.1⟩⟩ rfl hna hl.1 rfl (lv_room hst) hd hf) hl hS hb kk
theorem zx_callS (hd : decode M.2.2.1 pc = .ok (.invokestatic idx, 3)) (hq : pc + 3 = q) (hw : zx_CS M M' idx y na) (hna : As.length = na) (hst : (rest.map fun v => v.category).sum ≤ 8) (hf : cells + M'.2.2.2.2.2.2.1 ≤ M.2.2.2.2.2.1.cells ∧ slots + M'.2.2.2.2.2.2.2 ≤ M.2.2.2.2.2.1.slots)
    (ok : zx_Ok E y M' As h n Q') (kk : ∀ (r : Option Value) (h1 : zxH) (n1 : Nat), Q' r h1 n1 → zx_X E M Y q L (r.toList ++ rest) h1 n1 (cells + M'.2.2.2.2.2.2.1) (slots + M'.2.2.2.2.2.2.2)) : zx_X E M Y pc L (As.reverse ++ rest) h n cells slots := by
  subst hq
  obtain ⟨⟨w1, w2, w4, w5⟩, hyc, hnm, r1, r2, r3, r4⟩ := hw
  intro p e s m args below meth c ls H locs C hl hR hS hb
  have hK : va_K E.2.2.1 vwCl (zx_tys E.2.2.2) s := C.2.2.2.2.2.2.2.2.1.1
  have hts := C.2.2.2.2.1
  have hg := zx_goods w5
  have hT : GoodIn zx_T (wsS M.1 idx y (.code y M'.2.2.1 M'.2.2.2.1 M'.2.2.2.2.1 :: zx_T)) := by
    intro w hw
    unfold wsS at hw
    rcases List.mem_append.mp hw with g | g
    · have : w ∈ zx_T := by
        simp only [List.mem_cons, List.not_mem_nil, or_false] at g
        rcases g with rfl | rfl | rfl <;> assumption
      exact ⟨this, zx_good _ this⟩
    · exact hg w g
  have hcw := cwS (R := M.2.2.2.2.2.1) (rm := M'.2.2.2.2.2.1) na hts hT rfl r1 r2 ⟨hyc, hnm⟩ ⟨r3, r4⟩
  exact zx_cont C (va_runS (As := As) (rest := rest) ⟨C.1, C.2.1, C.2.2.1, C.2.2.2.1, hts⟩ ok hcw ⟨zx_blind _ _ _ _, fun U hU hW => ⟨rfl, by rw [hU]; exact hR, zx_K.warm hW C.2.2.2.2.2.2.2.2.1⟩⟩ rfl hna hl.1 rfl (lv_room hst) hd hf) hl hS hb kk
theorem zx_callN (hd : decode M.2.2.1 pc = .ok (.invokestatic idx, 3)) (hq : pc + 3 = q) (hw : zx_CN M M' idx y na) (hna : As.length = na) (hst : (rest.map fun v => v.category).sum ≤ 8) (hf : cells + M'.2.2.2.2.2.2.1 ≤ M.2.2.2.2.2.1.cells ∧ slots + M'.2.2.2.2.2.2.2 ≤ M.2.2.2.2.2.1.slots)
    (ok : zx_Ok E y M' As h n Q') (kk : ∀ (r : Option Value) (h1 : zxH) (n1 : Nat), Q' r h1 n1 → zx_X E M Y q L (r.toList ++ rest) h1 n1 (cells + M'.2.2.2.2.2.2.1) (slots + M'.2.2.2.2.2.2.2)) : zx_X E M Y pc L (As.reverse ++ rest) h n cells slots := by
  subst hq
  obtain ⟨⟨w1, w2, w4, w5⟩, hnm, r1, r2, r3, r4⟩ := hw
  intro p e s m args below meth c ls H locs C hl hR hS hb
  have hK : va_K E.2.2.1 vwCl (zx_tys E.2.2.2) s := C.2.2.2.2.2.2.2.2.1.1
  have hts := C.2.2.2.2.1
  have hg := zx_goods w5
  have hcw := va_cnB (R := M.2.2.2.2.2.1) (rm := M'.2.2.2.2.2.1) (args := args) na hts hg rfl r1 r2 (C.2.2.2.2.2.2.2.2.1.2.1 _ w1) (hts _ w4) hnm ⟨r3, r4⟩
  exact zx_cont C (va_runSN (As := As) (rest := rest) ⟨C.1, C.2.1, C.2.2.1, C.2.2.2.1, hts⟩ ok ⟨hcw, hts _ w2, trivial⟩ ⟨zx_blind _ _ _ _, fun U hU hW => ⟨rfl, by rw [hU]; exact hR, zx_K.warm hW C.2.2.2.2.2.2.2.2.1⟩⟩ rfl hna hl.1 rfl (lv_room hst) hd hf) hl hS hb kk
theorem zx_callJ {a : Nat} (hd : decode M.2.2.1 pc = .ok (.invokespecial idx, 3)) (hq : pc + 3 = q) (hw : zx_CJ M M' idx y na) (hna : As.length = na) (hst : (rest.map fun v => v.category).sum ≤ 8) (hf : cells + M'.2.2.2.2.2.2.1 ≤ M.2.2.2.2.2.1.cells ∧ slots + M'.2.2.2.2.2.2.2 ≤ M.2.2.2.2.2.1.slots)
    (ok : zx_Ok E y M' (.ref a :: As) h n Q') (kk : ∀ (r : Option Value) (h1 : zxH) (n1 : Nat), Q' r h1 n1 → zx_X E M Y q L (r.toList ++ rest) h1 n1 (cells + M'.2.2.2.2.2.2.1) (slots + M'.2.2.2.2.2.2.2)) : zx_X E M Y pc L (As.reverse ++ .ref a :: rest) h n cells slots := by
  subst hq
  obtain ⟨⟨w1, w2, w4, w5⟩, hyi, hret, hnm, r1, r2, r3, r4⟩ := hw
  intro p e s m args below meth c ls H locs C hl hR hS hb
  have hK : va_K E.2.2.1 vwCl (zx_tys E.2.2.2) s := C.2.2.2.2.2.2.2.2.1.1
  have hts := C.2.2.2.2.1
  have hg := zx_goods w5
  rw [← hret] at hg
  have hcw := va_cnB (R := M.2.2.2.2.2.1) (rm := M'.2.2.2.2.2.1) (args := args) na hts hg (by rw [hret]) r1 r2 (C.2.2.2.2.2.2.2.2.1.2.1 _ w1) (hts _ w4) hnm ⟨r3, r4⟩
  exact zx_cont C (va_runIN (As := As) (rest := rest) ⟨C.1, C.2.1, C.2.2.1, C.2.2.2.1, hts⟩ ok ⟨hcw, hyi, hts _ w2⟩ ⟨zx_blind _ _ _ _, fun U hU hW => ⟨rfl, by rw [hU]; exact hR, zx_K.warm hW C.2.2.2.2.2.2.2.2.1⟩⟩ rfl hna hl.1 rfl (lv_room hst) hd hf) hl hS hb kk
end ZC
section ZD
variable {E : zxE} {M M' : zxM} {Y : zxY} {pc q cells slots n idx : Nat} {L : List (Option Value)} {rest : List Value} {h : zxH} {y : MethodName}
theorem zx_cV0v {a ci : Nat} {fs : List Value} {r : vw_C} (hd : decode M.2.2.1 pc = .ok (.invokevirtual idx, 3)) (hq : pc + 3 = q) (hw : zx_CV M M' idx y 0) (h0 : M'.2.2.2.2.2.2.1 = 0 ∧ M'.2.2.2.2.2.2.2 = 0) (hc : h a = some (.inr (ci, fs))) (hci : vwCl[ci]? = some r) (hr : r.1 = M'.1) (hst : (rest.map fun v => v.category).sum ≤ 8) (hf : cells ≤ M.2.2.2.2.2.1.cells ∧ slots ≤ M.2.2.2.2.2.1.slots)
    (ok : zx_Ok E y M' [.ref a] h n (fun r h1 n1 => r = none ∧ zx_X E M Y q L (rest) h1 n1 cells slots)) : zx_X E M Y pc L (.ref a :: rest) h n cells slots := by
  refine zx_callV (As := []) (rest := rest) hd hq hw hc hci hr rfl hst (by rw [h0.1, h0.2]; exact hf) ok (fun r h1 n1 z => ?_)
  obtain ⟨e, k⟩ := z
  subst e
  rw [h0.1, h0.2]
  exact k
theorem zx_cV0i {a ci : Nat} {fs : List Value} {r : vw_C} (hd : decode M.2.2.1 pc = .ok (.invokevirtual idx, 3)) (hq : pc + 3 = q) (hw : zx_CV M M' idx y 0) (h0 : M'.2.2.2.2.2.2.1 = 0 ∧ M'.2.2.2.2.2.2.2 = 0) (hc : h a = some (.inr (ci, fs))) (hci : vwCl[ci]? = some r) (hr : r.1 = M'.1) (hst : (rest.map fun v => v.category).sum ≤ 8) (hf : cells ≤ M.2.2.2.2.2.1.cells ∧ slots ≤ M.2.2.2.2.2.1.slots)
    (ok : zx_Ok E y M' [.ref a] h n (fun r h1 n1 => ∃ v : Int32, r = some (.int v) ∧ zx_X E M Y q L (.int v :: rest) h1 n1 cells slots)) : zx_X E M Y pc L (.ref a :: rest) h n cells slots := by
  refine zx_callV (As := []) (rest := rest) hd hq hw hc hci hr rfl hst (by rw [h0.1, h0.2]; exact hf) ok (fun r h1 n1 z => ?_)
  obtain ⟨v, e, k⟩ := z
  subst e
  rw [h0.1, h0.2]
  exact k
theorem zx_cV0l {a ci : Nat} {fs : List Value} {r : vw_C} (hd : decode M.2.2.1 pc = .ok (.invokevirtual idx, 3)) (hq : pc + 3 = q) (hw : zx_CV M M' idx y 0) (h0 : M'.2.2.2.2.2.2.1 = 0 ∧ M'.2.2.2.2.2.2.2 = 0) (hc : h a = some (.inr (ci, fs))) (hci : vwCl[ci]? = some r) (hr : r.1 = M'.1) (hst : (rest.map fun v => v.category).sum ≤ 8) (hf : cells ≤ M.2.2.2.2.2.1.cells ∧ slots ≤ M.2.2.2.2.2.1.slots)
    (ok : zx_Ok E y M' [.ref a] h n (fun r h1 n1 => ∃ v : Int64, r = some (.long v) ∧ zx_X E M Y q L (.long v :: rest) h1 n1 cells slots)) : zx_X E M Y pc L (.ref a :: rest) h n cells slots := by
  refine zx_callV (As := []) (rest := rest) hd hq hw hc hci hr rfl hst (by rw [h0.1, h0.2]; exact hf) ok (fun r h1 n1 z => ?_)
  obtain ⟨v, e, k⟩ := z
  subst e
  rw [h0.1, h0.2]
  exact k
theorem zx_cV0a {a ci : Nat} {fs : List Value} {r : vw_C} (hd : decode M.2.2.1 pc = .ok (.invokevirtual idx, 3)) (hq : pc + 3 = q) (hw : zx_CV M M' idx y 0) (h0 : M'.2.2.2.2.2.2.1 = 0 ∧ M'.2.2.2.2.2.2.2 = 0) (hc : h a = some (.inr (ci, fs))) (hci : vwCl[ci]? = some r) (hr : r.1 = M'.1) (hst : (rest.map fun v => v.category).sum ≤ 8) (hf : cells ≤ M.2.2.2.2.2.1.cells ∧ slots ≤ M.2.2.2.2.2.1.slots)
    (ok : zx_Ok E y M' [.ref a] h n (fun r h1 n1 => ∃ v : Nat, r = some (.ref v) ∧ zx_X E M Y q L (.ref v :: rest) h1 n1 cells slots)) : zx_X E M Y pc L (.ref a :: rest) h n cells slots := by
  refine zx_callV (As := []) (rest := rest) hd hq hw hc hci hr rfl hst (by rw [h0.1, h0.2]; exact hf) ok (fun r h1 n1 z => ?_)
  obtain ⟨v, e, k⟩ := z
  subst e
  rw [h0.1, h0.2]
  exact k
theorem zx_cV1v {a ci : Nat} {fs : List Value} {r : vw_C} {x1 : Value} (hd : decode M.2.2.1 pc = .ok (.invokevirtual idx, 3)) (hq : pc + 3 = q) (hw : zx_CV M M' idx y 1) (h0 : M'.2.2.2.2.2.2.1 = 0 ∧ M'.2.2.2.2.2.2.2 = 0) (hc : h a = some (.inr (ci, fs))) (hci : vwCl[ci]? = some r) (hr : r.1 = M'.1) (hst : (rest.map fun v => v.category).sum ≤ 8) (hf : cells ≤ M.2.2.2.2.2.1.cells ∧ slots ≤ M.2.2.2.2.2.1.slots)
    (ok : zx_Ok E y M' [.ref a, x1] h n (fun r h1 n1 => r = none ∧ zx_X E M Y q L (rest) h1 n1 cells slots)) : zx_X E M Y pc L (x1 :: .ref a :: rest) h n cells slots := by
  refine zx_callV (As := [x1]) (rest := rest) hd hq hw hc hci hr rfl hst (by rw [h0.1, h0.2]; exact hf) ok (fun r h1 n1 z => ?_)
  obtain ⟨e, k⟩ := z
  subst e
  rw [h0.1, h0.2]
  exact k
theorem zx_cV1i {a ci : Nat} {fs : List Value} {r : vw_C} {x1 : Value} (hd : decode M.2.2.1 pc = .ok (.invokevirtual idx, 3)) (hq : pc + 3 = q) (hw : zx_CV M M' idx y 1) (h0 : M'.2.2.2.2.2.2.1 = 0 ∧ M'.2.2.2.2.2.2.2 = 0) (hc : h a = some (.inr (ci, fs))) (hci : vwCl[ci]? = some r) (hr : r.1 = M'.1) (hst : (rest.map fun v => v.category).sum ≤ 8) (hf : cells ≤ M.2.2.2.2.2.1.cells ∧ slots ≤ M.2.2.2.2.2.1.slots)
    (ok : zx_Ok E y M' [.ref a, x1] h n (fun r h1 n1 => ∃ v : Int32, r = some (.int v) ∧ zx_X E M Y q L (.int v :: rest) h1 n1 cells slots)) : zx_X E M Y pc L (x1 :: .ref a :: rest) h n cells slots := by
  refine zx_callV (As := [x1]) (rest := rest) hd hq hw hc hci hr rfl hst (by rw [h0.1, h0.2]; exact hf) ok (fun r h1 n1 z => ?_)
  obtain ⟨v, e, k⟩ := z
  subst e
  rw [h0.1, h0.2]
  exact k
theorem zx_cV1l {a ci : Nat} {fs : List Value} {r : vw_C} {x1 : Value} (hd : decode M.2.2.1 pc = .ok (.invokevirtual idx, 3)) (hq : pc + 3 = q) (hw : zx_CV M M' idx y 1) (h0 : M'.2.2.2.2.2.2.1 = 0 ∧ M'.2.2.2.2.2.2.2 = 0) (hc : h a = some (.inr (ci, fs))) (hci : vwCl[ci]? = some r) (hr : r.1 = M'.1) (hst : (rest.map fun v => v.category).sum ≤ 8) (hf : cells ≤ M.2.2.2.2.2.1.cells ∧ slots ≤ M.2.2.2.2.2.1.slots)
    (ok : zx_Ok E y M' [.ref a, x1] h n (fun r h1 n1 => ∃ v : Int64, r = some (.long v) ∧ zx_X E M Y q L (.long v :: rest) h1 n1 cells slots)) : zx_X E M Y pc L (x1 :: .ref a :: rest) h n cells slots := by
  refine zx_callV (As := [x1]) (rest := rest) hd hq hw hc hci hr rfl hst (by rw [h0.1, h0.2]; exact hf) ok (fun r h1 n1 z => ?_)
  obtain ⟨v, e, k⟩ := z
  subst e
  rw [h0.1, h0.2]
  exact k
theorem zx_cV1a {a ci : Nat} {fs : List Value} {r : vw_C} {x1 : Value} (hd : decode M.2.2.1 pc = .ok (.invokevirtual idx, 3)) (hq : pc + 3 = q) (hw : zx_CV M M' idx y 1) (h0 : M'.2.2.2.2.2.2.1 = 0 ∧ M'.2.2.2.2.2.2.2 = 0) (hc : h a = some (.inr (ci, fs))) (hci : vwCl[ci]? = some r) (hr : r.1 = M'.1) (hst : (rest.map fun v => v.category).sum ≤ 8) (hf : cells ≤ M.2.2.2.2.2.1.cells ∧ slots ≤ M.2.2.2.2.2.1.slots)
    (ok : zx_Ok E y M' [.ref a, x1] h n (fun r h1 n1 => ∃ v : Nat, r = some (.ref v) ∧ zx_X E M Y q L (.ref v :: rest) h1 n1 cells slots)) : zx_X E M Y pc L (x1 :: .ref a :: rest) h n cells slots := by
  refine zx_callV (As := [x1]) (rest := rest) hd hq hw hc hci hr rfl hst (by rw [h0.1, h0.2]; exact hf) ok (fun r h1 n1 z => ?_)
  obtain ⟨v, e, k⟩ := z
  subst e
  rw [h0.1, h0.2]
  exact k
theorem zx_cV2v {a ci : Nat} {fs : List Value} {r : vw_C} {x1 x2 : Value} (hd : decode M.2.2.1 pc = .ok (.invokevirtual idx, 3)) (hq : pc + 3 = q) (hw : zx_CV M M' idx y 2) (h0 : M'.2.2.2.2.2.2.1 = 0 ∧ M'.2.2.2.2.2.2.2 = 0) (hc : h a = some (.inr (ci, fs))) (hci : vwCl[ci]? = some r) (hr : r.1 = M'.1) (hst : (rest.map fun v => v.category).sum ≤ 8) (hf : cells ≤ M.2.2.2.2.2.1.cells ∧ slots ≤ M.2.2.2.2.2.1.slots)
    (ok : zx_Ok E y M' [.ref a, x1, x2] h n (fun r h1 n1 => r = none ∧ zx_X E M Y q L (rest) h1 n1 cells slots)) : zx_X E M Y pc L (x2 :: x1 :: .ref a :: rest) h n cells slots := by
  refine zx_callV (As := [x1, x2]) (rest := rest) hd hq hw hc hci hr rfl hst (by rw [h0.1, h0.2]; exact hf) ok (fun r h1 n1 z => ?_)
  obtain ⟨e, k⟩ := z
  subst e
  rw [h0.1, h0.2]
  exact k
theorem zx_cV2i {a ci : Nat} {fs : List Value} {r : vw_C} {x1 x2 : Value} (hd : decode M.2.2.1 pc = .ok (.invokevirtual idx, 3)) (hq : pc + 3 = q) (hw : zx_CV M M' idx y 2) (h0 : M'.2.2.2.2.2.2.1 = 0 ∧ M'.2.2.2.2.2.2.2 = 0) (hc : h a = some (.inr (ci, fs))) (hci : vwCl[ci]? = some r) (hr : r.1 = M'.1) (hst : (rest.map fun v => v.category).sum ≤ 8) (hf : cells ≤ M.2.2.2.2.2.1.cells ∧ slots ≤ M.2.2.2.2.2.1.slots)
    (ok : zx_Ok E y M' [.ref a, x1, x2] h n (fun r h1 n1 => ∃ v : Int32, r = some (.int v) ∧ zx_X E M Y q L (.int v :: rest) h1 n1 cells slots)) : zx_X E M Y pc L (x2 :: x1 :: .ref a :: rest) h n cells slots := by
  refine zx_callV (As := [x1, x2]) (rest := rest) hd hq hw hc hci hr rfl hst (by rw [h0.1, h0.2]; exact hf) ok (fun r h1 n1 z => ?_)
  obtain ⟨v, e, k⟩ := z
  subst e
  rw [h0.1, h0.2]
  exact k
theorem zx_cV2l {a ci : Nat} {fs : List Value} {r : vw_C} {x1 x2 : Value} (hd : decode M.2.2.1 pc = .ok (.invokevirtual idx, 3)) (hq : pc + 3 = q) (hw : zx_CV M M' idx y 2) (h0 : M'.2.2.2.2.2.2.1 = 0 ∧ M'.2.2.2.2.2.2.2 = 0) (hc : h a = some (.inr (ci, fs))) (hci : vwCl[ci]? = some r) (hr : r.1 = M'.1) (hst : (rest.map fun v => v.category).sum ≤ 8) (hf : cells ≤ M.2.2.2.2.2.1.cells ∧ slots ≤ M.2.2.2.2.2.1.slots)
    (ok : zx_Ok E y M' [.ref a, x1, x2] h n (fun r h1 n1 => ∃ v : Int64, r = some (.long v) ∧ zx_X E M Y q L (.long v :: rest) h1 n1 cells slots)) : zx_X E M Y pc L (x2 :: x1 :: .ref a :: rest) h n cells slots := by
  refine zx_callV (As := [x1, x2]) (rest := rest) hd hq hw hc hci hr rfl hst (by rw [h0.1, h0.2]; exact hf) ok (fun r h1 n1 z => ?_)
  obtain ⟨v, e, k⟩ := z
  subst e
  rw [h0.1, h0.2]
  exact k
theorem zx_cV2a {a ci : Nat} {fs : List Value} {r : vw_C} {x1 x2 : Value} (hd : decode M.2.2.1 pc = .ok (.invokevirtual idx, 3)) (hq : pc + 3 = q) (hw : zx_CV M M' idx y 2) (h0 : M'.2.2.2.2.2.2.1 = 0 ∧ M'.2.2.2.2.2.2.2 = 0) (hc : h a = some (.inr (ci, fs))) (hci : vwCl[ci]? = some r) (hr : r.1 = M'.1) (hst : (rest.map fun v => v.category).sum ≤ 8) (hf : cells ≤ M.2.2.2.2.2.1.cells ∧ slots ≤ M.2.2.2.2.2.1.slots)
    (ok : zx_Ok E y M' [.ref a, x1, x2] h n (fun r h1 n1 => ∃ v : Nat, r = some (.ref v) ∧ zx_X E M Y q L (.ref v :: rest) h1 n1 cells slots)) : zx_X E M Y pc L (x2 :: x1 :: .ref a :: rest) h n cells slots := by
  refine zx_callV (As := [x1, x2]) (rest := rest) hd hq hw hc hci hr rfl hst (by rw [h0.1, h0.2]; exact hf) ok (fun r h1 n1 z => ?_)
  obtain ⟨v, e, k⟩ := z
  subst e
  rw [h0.1, h0.2]
  exact k
theorem zx_cV3v {a ci : Nat} {fs : List Value} {r : vw_C} {x1 x2 x3 : Value} (hd : decode M.2.2.1 pc = .ok (.invokevirtual idx, 3)) (hq : pc + 3 = q) (hw : zx_CV M M' idx y 3) (h0 : M'.2.2.2.2.2.2.1 = 0 ∧ M'.2.2.2.2.2.2.2 = 0) (hc : h a = some (.inr (ci, fs))) (hci : vwCl[ci]? = some r) (hr : r.1 = M'.1) (hst : (rest.map fun v => v.category).sum ≤ 8) (hf : cells ≤ M.2.2.2.2.2.1.cells ∧ slots ≤ M.2.2.2.2.2.1.slots)
    (ok : zx_Ok E y M' [.ref a, x1, x2, x3] h n (fun r h1 n1 => r = none ∧ zx_X E M Y q L (rest) h1 n1 cells slots)) : zx_X E M Y pc L (x3 :: x2 :: x1 :: .ref a :: rest) h n cells slots := by
  refine zx_callV (As := [x1, x2, x3]) (rest := rest) hd hq hw hc hci hr rfl hst (by rw [h0.1, h0.2]; exact hf) ok (fun r h1 n1 z => ?_)
  obtain ⟨e, k⟩ := z
  subst e
  rw [h0.1, h0.2]
  exact k
theorem zx_cV3i {a ci : Nat} {fs : List Value} {r : vw_C} {x1 x2 x3 : Value} (hd : decode M.2.2.1 pc = .ok (.invokevirtual idx, 3)) (hq : pc + 3 = q) (hw : zx_CV M M' idx y 3) (h0 : M'.2.2.2.2.2.2.1 = 0 ∧ M'.2.2.2.2.2.2.2 = 0) (hc : h a = some (.inr (ci, fs))) (hci : vwCl[ci]? = some r) (hr : r.1 = M'.1) (hst : (rest.map fun v => v.category).sum ≤ 8) (hf : cells ≤ M.2.2.2.2.2.1.cells ∧ slots ≤ M.2.2.2.2.2.1.slots)
    (ok : zx_Ok E y M' [.ref a, x1, x2, x3] h n (fun r h1 n1 => ∃ v : Int32, r = some (.int v) ∧ zx_X E M Y q L (.int v :: rest) h1 n1 cells slots)) : zx_X E M Y pc L (x3 :: x2 :: x1 :: .ref a :: rest) h n cells slots := by
  refine zx_callV (As := [x1, x2, x3]) (rest := rest) hd hq hw hc hci hr rfl hst (by rw [h0.1, h0.2]; exact hf) ok (fun r h1 n1 z => ?_)
  obtain ⟨v, e, k⟩ := z
  subst e
  rw [h0.1, h0.2]
  exact k
theorem zx_cV3l {a ci : Nat} {fs : List Value} {r : vw_C} {x1 x2 x3 : Value} (hd : decode M.2.2.1 pc = .ok (.invokevirtual idx, 3)) (hq : pc + 3 = q) (hw : zx_CV M M' idx y 3) (h0 : M'.2.2.2.2.2.2.1 = 0 ∧ M'.2.2.2.2.2.2.2 = 0) (hc : h a = some (.inr (ci, fs))) (hci : vwCl[ci]? = some r) (hr : r.1 = M'.1) (hst : (rest.map fun v => v.category).sum ≤ 8) (hf : cells ≤ M.2.2.2.2.2.1.cells ∧ slots ≤ M.2.2.2.2.2.1.slots)
    (ok : zx_Ok E y M' [.ref a, x1, x2, x3] h n (fun r h1 n1 => ∃ v : Int64, r = some (.long v) ∧ zx_X E M Y q L (.long v :: rest) h1 n1 cells slots)) : zx_X E M Y pc L (x3 :: x2 :: x1 :: .ref a :: rest) h n cells slots := by
  refine zx_callV (As := [x1, x2, x3]) (rest := rest) hd hq hw hc hci hr rfl hst (by rw [h0.1, h0.2]; exact hf) ok (fun r h1 n1 z => ?_)
  obtain ⟨v, e, k⟩ := z
  subst e
  rw [h0.1, h0.2]
  exact k
theorem zx_cV3a {a ci : Nat} {fs : List Value} {r : vw_C} {x1 x2 x3 : Value} (hd : decode M.2.2.1 pc = .ok (.invokevirtual idx, 3)) (hq : pc + 3 = q) (hw : zx_CV M M' idx y 3) (h0 : M'.2.2.2.2.2.2.1 = 0 ∧ M'.2.2.2.2.2.2.2 = 0) (hc : h a = some (.inr (ci, fs))) (hci : vwCl[ci]? = some r) (hr : r.1 = M'.1) (hst : (rest.map fun v => v.category).sum ≤ 8) (hf : cells ≤ M.2.2.2.2.2.1.cells ∧ slots ≤ M.2.2.2.2.2.1.slots)
    (ok : zx_Ok E y M' [.ref a, x1, x2, x3] h n (fun r h1 n1 => ∃ v : Nat, r = some (.ref v) ∧ zx_X E M Y q L (.ref v :: rest) h1 n1 cells slots)) : zx_X E M Y pc L (x3 :: x2 :: x1 :: .ref a :: rest) h n cells slots := by
  refine zx_callV (As := [x1, x2, x3]) (rest := rest) hd hq hw hc hci hr rfl hst (by rw [h0.1, h0.2]; exact hf) ok (fun r h1 n1 z => ?_)
  obtain ⟨v, e, k⟩ := z
  subst e
  rw [h0.1, h0.2]
  exact k
theorem zx_cV4v {a ci : Nat} {fs : List Value} {r : vw_C} {x1 x2 x3 x4 : Value} (hd : decode M.2.2.1 pc = .ok (.invokevirtual idx, 3)) (hq : pc + 3 = q) (hw : zx_CV M M' idx y 4) (h0 : M'.2.2.2.2.2.2.1 = 0 ∧ M'.2.2.2.2.2.2.2 = 0) (hc : h a = some (.inr (ci, fs))) (hci : vwCl[ci]? = some r) (hr : r.1 = M'.1) (hst : (rest.map fun v => v.category).sum ≤ 8) (hf : cells ≤ M.2.2.2.2.2.1.cells ∧ slots ≤ M.2.2.2.2.2.1.slots)
    (ok : zx_Ok E y M' [.ref a, x1, x2, x3, x4] h n (fun r h1 n1 => r = none ∧ zx_X E M Y q L (rest) h1 n1 cells slots)) : zx_X E M Y pc L (x4 :: x3 :: x2 :: x1 :: .ref a :: rest) h n cells slots := by
  refine zx_callV (As := [x1, x2, x3, x4]) (rest := rest) hd hq hw hc hci hr rfl hst (by rw [h0.1, h0.2]; exact hf) ok (fun r h1 n1 z => ?_)
  obtain ⟨e, k⟩ := z
  subst e
  rw [h0.1, h0.2]
  exact k
theorem zx_cV4i {a ci : Nat} {fs : List Value} {r : vw_C} {x1 x2 x3 x4 : Value} (hd : decode M.2.2.1 pc = .ok (.invokevirtual idx, 3)) (hq : pc + 3 = q) (hw : zx_CV M M' idx y 4) (h0 : M'.2.2.2.2.2.2.1 = 0 ∧ M'.2.2.2.2.2.2.2 = 0) (hc : h a = some (.inr (ci, fs))) (hci : vwCl[ci]? = some r) (hr : r.1 = M'.1) (hst : (rest.map fun v => v.category).sum ≤ 8) (hf : cells ≤ M.2.2.2.2.2.1.cells ∧ slots ≤ M.2.2.2.2.2.1.slots)
    (ok : zx_Ok E y M' [.ref a, x1, x2, x3, x4] h n (fun r h1 n1 => ∃ v : Int32, r = some (.int v) ∧ zx_X E M Y q L (.int v :: rest) h1 n1 cells slots)) : zx_X E M Y pc L (x4 :: x3 :: x2 :: x1 :: .ref a :: rest) h n cells slots := by
  refine zx_callV (As := [x1, x2, x3, x4]) (rest := rest) hd hq hw hc hci hr rfl hst (by rw [h0.1, h0.2]; exact hf) ok (fun r h1 n1 z => ?_)
  obtain ⟨v, e, k⟩ := z
  subst e
  rw [h0.1, h0.2]
  exact k
theorem zx_cV4l {a ci : Nat} {fs : List Value} {r : vw_C} {x1 x2 x3 x4 : Value} (hd : decode M.2.2.1 pc = .ok (.invokevirtual idx, 3)) (hq : pc + 3 = q) (hw : zx_CV M M' idx y 4) (h0 : M'.2.2.2.2.2.2.1 = 0 ∧ M'.2.2.2.2.2.2.2 = 0) (hc : h a = some (.inr (ci, fs))) (hci : vwCl[ci]? = some r) (hr : r.1 = M'.1) (hst : (rest.map fun v => v.category).sum ≤ 8) (hf : cells ≤ M.2.2.2.2.2.1.cells ∧ slots ≤ M.2.2.2.2.2.1.slots)
    (ok : zx_Ok E y M' [.ref a, x1, x2, x3, x4] h n (fun r h1 n1 => ∃ v : Int64, r = some (.long v) ∧ zx_X E M Y q L (.long v :: rest) h1 n1 cells slots)) : zx_X E M Y pc L (x4 :: x3 :: x2 :: x1 :: .ref a :: rest) h n cells slots := by
  refine zx_callV (As := [x1, x2, x3, x4]) (rest := rest) hd hq hw hc hci hr rfl hst (by rw [h0.1, h0.2]; exact hf) ok (fun r h1 n1 z => ?_)
  obtain ⟨v, e, k⟩ := z
  subst e
  rw [h0.1, h0.2]
  exact k
theorem zx_cV4a {a ci : Nat} {fs : List Value} {r : vw_C} {x1 x2 x3 x4 : Value} (hd : decode M.2.2.1 pc = .ok (.invokevirtual idx, 3)) (hq : pc + 3 = q) (hw : zx_CV M M' idx y 4) (h0 : M'.2.2.2.2.2.2.1 = 0 ∧ M'.2.2.2.2.2.2.2 = 0) (hc : h a = some (.inr (ci, fs))) (hci : vwCl[ci]? = some r) (hr : r.1 = M'.1) (hst : (rest.map fun v => v.category).sum ≤ 8) (hf : cells ≤ M.2.2.2.2.2.1.cells ∧ slots ≤ M.2.2.2.2.2.1.slots)
    (ok : zx_Ok E y M' [.ref a, x1, x2, x3, x4] h n (fun r h1 n1 => ∃ v : Nat, r = some (.ref v) ∧ zx_X E M Y q L (.ref v :: rest) h1 n1 cells slots)) : zx_X E M Y pc L (x4 :: x3 :: x2 :: x1 :: .ref a :: rest) h n cells slots := by
  refine zx_callV (As := [x1, x2, x3, x4]) (rest := rest) hd hq hw hc hci hr rfl hst (by rw [h0.1, h0.2]; exact hf) ok (fun r h1 n1 z => ?_)
  obtain ⟨v, e, k⟩ := z
  subst e
  rw [h0.1, h0.2]
  exact k
theorem zx_cV5v {a ci : Nat} {fs : List Value} {r : vw_C} {x1 x2 x3 x4 x5 : Value} (hd : decode M.2.2.1 pc = .ok (.invokevirtual idx, 3)) (hq : pc + 3 = q) (hw : zx_CV M M' idx y 5) (h0 : M'.2.2.2.2.2.2.1 = 0 ∧ M'.2.2.2.2.2.2.2 = 0) (hc : h a = some (.inr (ci, fs))) (hci : vwCl[ci]? = some r) (hr : r.1 = M'.1) (hst : (rest.map fun v => v.category).sum ≤ 8) (hf : cells ≤ M.2.2.2.2.2.1.cells ∧ slots ≤ M.2.2.2.2.2.1.slots)
    (ok : zx_Ok E y M' [.ref a, x1, x2, x3, x4, x5] h n (fun r h1 n1 => r = none ∧ zx_X E M Y q L (rest) h1 n1 cells slots)) : zx_X E M Y pc L (x5 :: x4 :: x3 :: x2 :: x1 :: .ref a :: rest) h n cells slots := by
  refine zx_callV (As := [x1, x2, x3, x4, x5]) (rest := rest) hd hq hw hc hci hr rfl hst (by rw [h0.1, h0.2]; exact hf) ok (fun r h1 n1 z => ?_)
  obtain ⟨e, k⟩ := z
  subst e
  rw [h0.1, h0.2]
  exact k
theorem zx_cV5i {a ci : Nat} {fs : List Value} {r : vw_C} {x1 x2 x3 x4 x5 : Value} (hd : decode M.2.2.1 pc = .ok (.invokevirtual idx, 3)) (hq : pc + 3 = q) (hw : zx_CV M M' idx y 5) (h0 : M'.2.2.2.2.2.2.1 = 0 ∧ M'.2.2.2.2.2.2.2 = 0) (hc : h a = some (.inr (ci, fs))) (hci : vwCl[ci]? = some r) (hr : r.1 = M'.1) (hst : (rest.map fun v => v.category).sum ≤ 8) (hf : cells ≤ M.2.2.2.2.2.1.cells ∧ slots ≤ M.2.2.2.2.2.1.slots)
    (ok : zx_Ok E y M' [.ref a, x1, x2, x3, x4, x5] h n (fun r h1 n1 => ∃ v : Int32, r = some (.int v) ∧ zx_X E M Y q L (.int v :: rest) h1 n1 cells slots)) : zx_X E M Y pc L (x5 :: x4 :: x3 :: x2 :: x1 :: .ref a :: rest) h n cells slots := by
  refine zx_callV (As := [x1, x2, x3, x4, x5]) (rest := rest) hd hq hw hc hci hr rfl hst (by rw [h0.1, h0.2]; exact hf) ok (fun r h1 n1 z => ?_)
  obtain ⟨v, e, k⟩ := z
  subst e
  rw [h0.1, h0.2]
  exact k
theorem zx_cV5l {a ci : Nat} {fs : List Value} {r : vw_C} {x1 x2 x3 x4 x5 : Value} (hd : decode M.2.2.1 pc = .ok (.invokevirtual idx, 3)) (hq : pc + 3 = q) (hw : zx_CV M M' idx y 5) (h0 : M'.2.2.2.2.2.2.1 = 0 ∧ M'.2.2.2.2.2.2.2 = 0) (hc : h a = some (.inr (ci, fs))) (hci : vwCl[ci]? = some r) (hr : r.1 = M'.1) (hst : (rest.map fun v => v.category).sum ≤ 8) (hf : cells ≤ M.2.2.2.2.2.1.cells ∧ slots ≤ M.2.2.2.2.2.1.slots)
    (ok : zx_Ok E y M' [.ref a, x1, x2, x3, x4, x5] h n (fun r h1 n1 => ∃ v : Int64, r = some (.long v) ∧ zx_X E M Y q L (.long v :: rest) h1 n1 cells slots)) : zx_X E M Y pc L (x5 :: x4 :: x3 :: x2 :: x1 :: .ref a :: rest) h n cells slots := by
  refine zx_callV (As := [x1, x2, x3, x4, x5]) (rest := rest) hd hq hw hc hci hr rfl hst (by rw [h0.1, h0.2]; exact hf) ok (fun r h1 n1 z => ?_)
  obtain ⟨v, e, k⟩ := z
  subst e
  rw [h0.1, h0.2]
  exact k
theorem zx_cV5a {a ci : Nat} {fs : List Value} {r : vw_C} {x1 x2 x3 x4 x5 : Value} (hd : decode M.2.2.1 pc = .ok (.invokevirtual idx, 3)) (hq : pc + 3 = q) (hw : zx_CV M M' idx y 5) (h0 : M'.2.2.2.2.2.2.1 = 0 ∧ M'.2.2.2.2.2.2.2 = 0) (hc : h a = some (.inr (ci, fs))) (hci : vwCl[ci]? = some r) (hr : r.1 = M'.1) (hst : (rest.map fun v => v.category).sum ≤ 8) (hf : cells ≤ M.2.2.2.2.2.1.cells ∧ slots ≤ M.2.2.2.2.2.1.slots)
    (ok : zx_Ok E y M' [.ref a, x1, x2, x3, x4, x5] h n (fun r h1 n1 => ∃ v : Nat, r = some (.ref v) ∧ zx_X E M Y q L (.ref v :: rest) h1 n1 cells slots)) : zx_X E M Y pc L (x5 :: x4 :: x3 :: x2 :: x1 :: .ref a :: rest) h n cells slots := by
  refine zx_callV (As := [x1, x2, x3, x4, x5]) (rest := rest) hd hq hw hc hci hr rfl hst (by rw [h0.1, h0.2]; exact hf) ok (fun r h1 n1 z => ?_)
  obtain ⟨v, e, k⟩ := z
  subst e
  rw [h0.1, h0.2]
  exact k
theorem zx_cV6v {a ci : Nat} {fs : List Value} {r : vw_C} {x1 x2 x3 x4 x5 x6 : Value} (hd : decode M.2.2.1 pc = .ok (.invokevirtual idx, 3)) (hq : pc + 3 = q) (hw : zx_CV M M' idx y 6) (h0 : M'.2.2.2.2.2.2.1 = 0 ∧ M'.2.2.2.2.2.2.2 = 0) (hc : h a = some (.inr (ci, fs))) (hci : vwCl[ci]? = some r) (hr : r.1 = M'.1) (hst : (rest.map fun v => v.category).sum ≤ 8) (hf : cells ≤ M.2.2.2.2.2.1.cells ∧ slots ≤ M.2.2.2.2.2.1.slots)
    (ok : zx_Ok E y M' [.ref a, x1, x2, x3, x4, x5, x6] h n (fun r h1 n1 => r = none ∧ zx_X E M Y q L (rest) h1 n1 cells slots)) : zx_X E M Y pc L (x6 :: x5 :: x4 :: x3 :: x2 :: x1 :: .ref a :: rest) h n cells slots := by
  refine zx_callV (As := [x1, x2, x3, x4, x5, x6]) (rest := rest) hd hq hw hc hci hr rfl hst (by rw [h0.1, h0.2]; exact hf) ok (fun r h1 n1 z => ?_)
  obtain ⟨e, k⟩ := z
  subst e
  rw [h0.1, h0.2]
  exact k
theorem zx_cV6i {a ci : Nat} {fs : List Value} {r : vw_C} {x1 x2 x3 x4 x5 x6 : Value} (hd : decode M.2.2.1 pc = .ok (.invokevirtual idx, 3)) (hq : pc + 3 = q) (hw : zx_CV M M' idx y 6) (h0 : M'.2.2.2.2.2.2.1 = 0 ∧ M'.2.2.2.2.2.2.2 = 0) (hc : h a = some (.inr (ci, fs))) (hci : vwCl[ci]? = some r) (hr : r.1 = M'.1) (hst : (rest.map fun v => v.category).sum ≤ 8) (hf : cells ≤ M.2.2.2.2.2.1.cells ∧ slots ≤ M.2.2.2.2.2.1.slots)
    (ok : zx_Ok E y M' [.ref a, x1, x2, x3, x4, x5, x6] h n (fun r h1 n1 => ∃ v : Int32, r = some (.int v) ∧ zx_X E M Y q L (.int v :: rest) h1 n1 cells slots)) : zx_X E M Y pc L (x6 :: x5 :: x4 :: x3 :: x2 :: x1 :: .ref a :: rest) h n cells slots := by
  refine zx_callV (As := [x1, x2, x3, x4, x5, x6]) (rest := rest) hd hq hw hc hci hr rfl hst (by rw [h0.1, h0.2]; exact hf) ok (fun r h1 n1 z => ?_)
  obtain ⟨v, e, k⟩ := z
  subst e
  rw [h0.1, h0.2]
  exact k
theorem zx_cV6l {a ci : Nat} {fs : List Value} {r : vw_C} {x1 x2 x3 x4 x5 x6 : Value} (hd : decode M.2.2.1 pc = .ok (.invokevirtual idx, 3)) (hq : pc + 3 = q) (hw : zx_CV M M' idx y 6) (h0 : M'.2.2.2.2.2.2.1 = 0 ∧ M'.2.2.2.2.2.2.2 = 0) (hc : h a = some (.inr (ci, fs))) (hci : vwCl[ci]? = some r) (hr : r.1 = M'.1) (hst : (rest.map fun v => v.category).sum ≤ 8) (hf : cells ≤ M.2.2.2.2.2.1.cells ∧ slots ≤ M.2.2.2.2.2.1.slots)
    (ok : zx_Ok E y M' [.ref a, x1, x2, x3, x4, x5, x6] h n (fun r h1 n1 => ∃ v : Int64, r = some (.long v) ∧ zx_X E M Y q L (.long v :: rest) h1 n1 cells slots)) : zx_X E M Y pc L (x6 :: x5 :: x4 :: x3 :: x2 :: x1 :: .ref a :: rest) h n cells slots := by
  refine zx_callV (As := [x1, x2, x3, x4, x5, x6]) (rest := rest) hd hq hw hc hci hr rfl hst (by rw [h0.1, h0.2]; exact hf) ok (fun r h1 n1 z => ?_)
  obtain ⟨v, e, k⟩ := z
  subst e
  rw [h0.1, h0.2]
  exact k
theorem zx_cV6a {a ci : Nat} {fs : List Value} {r : vw_C} {x1 x2 x3 x4 x5 x6 : Value} (hd : decode M.2.2.1 pc = .ok (.invokevirtual idx, 3)) (hq : pc + 3 = q) (hw : zx_CV M M' idx y 6) (h0 : M'.2.2.2.2.2.2.1 = 0 ∧ M'.2.2.2.2.2.2.2 = 0) (hc : h a = some (.inr (ci, fs))) (hci : vwCl[ci]? = some r) (hr : r.1 = M'.1) (hst : (rest.map fun v => v.category).sum ≤ 8) (hf : cells ≤ M.2.2.2.2.2.1.cells ∧ slots ≤ M.2.2.2.2.2.1.slots)
    (ok : zx_Ok E y M' [.ref a, x1, x2, x3, x4, x5, x6] h n (fun r h1 n1 => ∃ v : Nat, r = some (.ref v) ∧ zx_X E M Y q L (.ref v :: rest) h1 n1 cells slots)) : zx_X E M Y pc L (x6 :: x5 :: x4 :: x3 :: x2 :: x1 :: .ref a :: rest) h n cells slots := by
  refine zx_callV (As := [x1, x2, x3, x4, x5, x6]) (rest := rest) hd hq hw hc hci hr rfl hst (by rw [h0.1, h0.2]; exact hf) ok (fun r h1 n1 z => ?_)
  obtain ⟨v, e, k⟩ := z
  subst e
  rw [h0.1, h0.2]
  exact k
theorem zx_cV7v {a ci : Nat} {fs : List Value} {r : vw_C} {x1 x2 x3 x4 x5 x6 x7 : Value} (hd : decode M.2.2.1 pc = .ok (.invokevirtual idx, 3)) (hq : pc + 3 = q) (hw : zx_CV M M' idx y 7) (h0 : M'.2.2.2.2.2.2.1 = 0 ∧ M'.2.2.2.2.2.2.2 = 0) (hc : h a = some (.inr (ci, fs))) (hci : vwCl[ci]? = some r) (hr : r.1 = M'.1) (hst : (rest.map fun v => v.category).sum ≤ 8) (hf : cells ≤ M.2.2.2.2.2.1.cells ∧ slots ≤ M.2.2.2.2.2.1.slots)
    (ok : zx_Ok E y M' [.ref a, x1, x2, x3, x4, x5, x6, x7] h n (fun r h1 n1 => r = none ∧ zx_X E M Y q L (rest) h1 n1 cells slots)) : zx_X E M Y pc L (x7 :: x6 :: x5 :: x4 :: x3 :: x2 :: x1 :: .ref a :: rest) h n cells slots := by
  refine zx_callV (As := [x1, x2, x3, x4, x5, x6, x7]) (rest := rest) hd hq hw hc hci hr rfl hst (by rw [h0.1, h0.2]; exact hf) ok (fun r h1 n1 z => ?_)
  obtain ⟨e, k⟩ := z
  subst e
  rw [h0.1, h0.2]
  exact k
theorem zx_cV7i {a ci : Nat} {fs : List Value} {r : vw_C} {x1 x2 x3 x4 x5 x6 x7 : Value} (hd : decode M.2.2.1 pc = .ok (.invokevirtual idx, 3)) (hq : pc + 3 = q) (hw : zx_CV M M' idx y 7) (h0 : M'.2.2.2.2.2.2.1 = 0 ∧ M'.2.2.2.2.2.2.2 = 0) (hc : h a = some (.inr (ci, fs))) (hci : vwCl[ci]? = some r) (hr : r.1 = M'.1) (hst : (rest.map fun v => v.category).sum ≤ 8) (hf : cells ≤ M.2.2.2.2.2.1.cells ∧ slots ≤ M.2.2.2.2.2.1.slots)
    (ok : zx_Ok E y M' [.ref a, x1, x2, x3, x4, x5, x6, x7] h n (fun r h1 n1 => ∃ v : Int32, r = some (.int v) ∧ zx_X E M Y q L (.int v :: rest) h1 n1 cells slots)) : zx_X E M Y pc L (x7 :: x6 :: x5 :: x4 :: x3 :: x2 :: x1 :: .ref a :: rest) h n cells slots := by
  refine zx_callV (As := [x1, x2, x3, x4, x5, x6, x7]) (rest := rest) hd hq hw hc hci hr rfl hst (by rw [h0.1, h0.2]; exact hf) ok (fun r h1 n1 z => ?_)
  obtain ⟨v, e, k⟩ := z
  subst e
  rw [h0.1, h0.2]
  exact k
theorem zx_cV7l {a ci : Nat} {fs : List Value} {r : vw_C} {x1 x2 x3 x4 x5 x6 x7 : Value} (hd : decode M.2.2.1 pc = .ok (.invokevirtual idx, 3)) (hq : pc + 3 = q) (hw : zx_CV M M' idx y 7) (h0 : M'.2.2.2.2.2.2.1 = 0 ∧ M'.2.2.2.2.2.2.2 = 0) (hc : h a = some (.inr (ci, fs))) (hci : vwCl[ci]? = some r) (hr : r.1 = M'.1) (hst : (rest.map fun v => v.category).sum ≤ 8) (hf : cells ≤ M.2.2.2.2.2.1.cells ∧ slots ≤ M.2.2.2.2.2.1.slots)
    (ok : zx_Ok E y M' [.ref a, x1, x2, x3, x4, x5, x6, x7] h n (fun r h1 n1 => ∃ v : Int64, r = some (.long v) ∧ zx_X E M Y q L (.long v :: rest) h1 n1 cells slots)) : zx_X E M Y pc L (x7 :: x6 :: x5 :: x4 :: x3 :: x2 :: x1 :: .ref a :: rest) h n cells slots := by
  refine zx_callV (As := [x1, x2, x3, x4, x5, x6, x7]) (rest := rest) hd hq hw hc hci hr rfl hst (by rw [h0.1, h0.2]; exact hf) ok (fun r h1 n1 z => ?_)
  obtain ⟨v, e, k⟩ := z
  subst e
  rw [h0.1, h0.2]
  exact k
theorem zx_cV7a {a ci : Nat} {fs : List Value} {r : vw_C} {x1 x2 x3 x4 x5 x6 x7 : Value} (hd : decode M.2.2.1 pc = .ok (.invokevirtual idx, 3)) (hq : pc + 3 = q) (hw : zx_CV M M' idx y 7) (h0 : M'.2.2.2.2.2.2.1 = 0 ∧ M'.2.2.2.2.2.2.2 = 0) (hc : h a = some (.inr (ci, fs))) (hci : vwCl[ci]? = some r) (hr : r.1 = M'.1) (hst : (rest.map fun v => v.category).sum ≤ 8) (hf : cells ≤ M.2.2.2.2.2.1.cells ∧ slots ≤ M.2.2.2.2.2.1.slots)
    (ok : zx_Ok E y M' [.ref a, x1, x2, x3, x4, x5, x6, x7] h n (fun r h1 n1 => ∃ v : Nat, r = some (.ref v) ∧ zx_X E M Y q L (.ref v :: rest) h1 n1 cells slots)) : zx_X E M Y pc L (x7 :: x6 :: x5 :: x4 :: x3 :: x2 :: x1 :: .ref a :: rest) h n cells slots := by
  refine zx_callV (As := [x1, x2, x3, x4, x5, x6, x7]) (rest := rest) hd hq hw hc hci hr rfl hst (by rw [h0.1, h0.2]; exact hf) ok (fun r h1 n1 z => ?_)
  obtain ⟨v, e, k⟩ := z
  subst e
  rw [h0.1, h0.2]
  exact k
theorem zx_cI0v {a : Nat} (hd : decode M.2.2.1 pc = .ok (.invokespecial idx, 3)) (hq : pc + 3 = q) (hw : zx_CI M M' idx y 0) (h0 : M'.2.2.2.2.2.2.1 = 0 ∧ M'.2.2.2.2.2.2.2 = 0) (hst : (rest.map fun v => v.category).sum ≤ 8) (hf : cells ≤ M.2.2.2.2.2.1.cells ∧ slots ≤ M.2.2.2.2.2.1.slots)
    (ok : zx_Ok E y M' [.ref a] h n (fun r h1 n1 => r = none ∧ zx_X E M Y q L (rest) h1 n1 cells slots)) : zx_X E M Y pc L (.ref a :: rest) h n cells slots := by
  refine zx_callI (As := []) (rest := rest) hd hq hw rfl hst (by rw [h0.1, h0.2]; exact hf) ok (fun r h1 n1 z => ?_)
  obtain ⟨e, k⟩ := z
  subst e
  rw [h0.1, h0.2]
  exact k
theorem zx_cI1v {a : Nat} {x1 : Value} (hd : decode M.2.2.1 pc = .ok (.invokespecial idx, 3)) (hq : pc + 3 = q) (hw : zx_CI M M' idx y 1) (h0 : M'.2.2.2.2.2.2.1 = 0 ∧ M'.2.2.2.2.2.2.2 = 0) (hst : (rest.map fun v => v.category).sum ≤ 8) (hf : cells ≤ M.2.2.2.2.2.1.cells ∧ slots ≤ M.2.2.2.2.2.1.slots)
    (ok : zx_Ok E y M' [.ref a, x1] h n (fun r h1 n1 => r = none ∧ zx_X E M Y q L (rest) h1 n1 cells slots)) : zx_X E M Y pc L (x1 :: .ref a :: rest) h n cells slots := by
  refine zx_callI (As := [x1]) (rest := rest) hd hq hw rfl hst (by rw [h0.1, h0.2]; exact hf) ok (fun r h1 n1 z => ?_)
  obtain ⟨e, k⟩ := z
  subst e
  rw [h0.1, h0.2]
  exact k
theorem zx_cI2v {a : Nat} {x1 x2 : Value} (hd : decode M.2.2.1 pc = .ok (.invokespecial idx, 3)) (hq : pc + 3 = q) (hw : zx_CI M M' idx y 2) (h0 : M'.2.2.2.2.2.2.1 = 0 ∧ M'.2.2.2.2.2.2.2 = 0) (hst : (rest.map fun v => v.category).sum ≤ 8) (hf : cells ≤ M.2.2.2.2.2.1.cells ∧ slots ≤ M.2.2.2.2.2.1.slots)
    (ok : zx_Ok E y M' [.ref a, x1, x2] h n (fun r h1 n1 => r = none ∧ zx_X E M Y q L (rest) h1 n1 cells slots)) : zx_X E M Y pc L (x2 :: x1 :: .ref a :: rest) h n cells slots := by
  refine zx_callI (As := [x1, x2]) (rest := rest) hd hq hw rfl hst (by rw [h0.1, h0.2]; exact hf) ok (fun r h1 n1 z => ?_)
  obtain ⟨e, k⟩ := z
  subst e
  rw [h0.1, h0.2]
  exact k
theorem zx_cI3v {a : Nat} {x1 x2 x3 : Value} (hd : decode M.2.2.1 pc = .ok (.invokespecial idx, 3)) (hq : pc + 3 = q) (hw : zx_CI M M' idx y 3) (h0 : M'.2.2.2.2.2.2.1 = 0 ∧ M'.2.2.2.2.2.2.2 = 0) (hst : (rest.map fun v => v.category).sum ≤ 8) (hf : cells ≤ M.2.2.2.2.2.1.cells ∧ slots ≤ M.2.2.2.2.2.1.slots)
    (ok : zx_Ok E y M' [.ref a, x1, x2, x3] h n (fun r h1 n1 => r = none ∧ zx_X E M Y q L (rest) h1 n1 cells slots)) : zx_X E M Y pc L (x3 :: x2 :: x1 :: .ref a :: rest) h n cells slots := by
  refine zx_callI (As := [x1, x2, x3]) (rest := rest) hd hq hw rfl hst (by rw [h0.1, h0.2]; exact hf) ok (fun r h1 n1 z => ?_)
  obtain ⟨e, k⟩ := z
  subst e
  rw [h0.1, h0.2]
  exact k
theorem zx_cI4v {a : Nat} {x1 x2 x3 x4 : Value} (hd : decode M.2.2.1 pc = .ok (.invokespecial idx, 3)) (hq : pc + 3 = q) (hw : zx_CI M M' idx y 4) (h0 : M'.2.2.2.2.2.2.1 = 0 ∧ M'.2.2.2.2.2.2.2 = 0) (hst : (rest.map fun v => v.category).sum ≤ 8) (hf : cells ≤ M.2.2.2.2.2.1.cells ∧ slots ≤ M.2.2.2.2.2.1.slots)
    (ok : zx_Ok E y M' [.ref a, x1, x2, x3, x4] h n (fun r h1 n1 => r = none ∧ zx_X E M Y q L (rest) h1 n1 cells slots)) : zx_X E M Y pc L (x4 :: x3 :: x2 :: x1 :: .ref a :: rest) h n cells slots := by
  refine zx_callI (As := [x1, x2, x3, x4]) (rest := rest) hd hq hw rfl hst (by rw [h0.1, h0.2]; exact hf) ok (fun r h1 n1 z => ?_)
  obtain ⟨e, k⟩ := z
  subst e
  rw [h0.1, h0.2]
  exact k
theorem zx_cI5v {a : Nat} {x1 x2 x3 x4 x5 : Value} (hd : decode M.2.2.1 pc = .ok (.invokespecial idx, 3)) (hq : pc + 3 = q) (hw : zx_CI M M' idx y 5) (h0 : M'.2.2.2.2.2.2.1 = 0 ∧ M'.2.2.2.2.2.2.2 = 0) (hst : (rest.map fun v => v.category).sum ≤ 8) (hf : cells ≤ M.2.2.2.2.2.1.cells ∧ slots ≤ M.2.2.2.2.2.1.slots)
    (ok : zx_Ok E y M' [.ref a, x1, x2, x3, x4, x5] h n (fun r h1 n1 => r = none ∧ zx_X E M Y q L (rest) h1 n1 cells slots)) : zx_X E M Y pc L (x5 :: x4 :: x3 :: x2 :: x1 :: .ref a :: rest) h n cells slots := by
  refine zx_callI (As := [x1, x2, x3, x4, x5]) (rest := rest) hd hq hw rfl hst (by rw [h0.1, h0.2]; exact hf) ok (fun r h1 n1 z => ?_)
  obtain ⟨e, k⟩ := z
  subst e
  rw [h0.1, h0.2]
  exact k
theorem zx_cI6v {a : Nat} {x1 x2 x3 x4 x5 x6 : Value} (hd : decode M.2.2.1 pc = .ok (.invokespecial idx, 3)) (hq : pc + 3 = q) (hw : zx_CI M M' idx y 6) (h0 : M'.2.2.2.2.2.2.1 = 0 ∧ M'.2.2.2.2.2.2.2 = 0) (hst : (rest.map fun v => v.category).sum ≤ 8) (hf : cells ≤ M.2.2.2.2.2.1.cells ∧ slots ≤ M.2.2.2.2.2.1.slots)
    (ok : zx_Ok E y M' [.ref a, x1, x2, x3, x4, x5, x6] h n (fun r h1 n1 => r = none ∧ zx_X E M Y q L (rest) h1 n1 cells slots)) : zx_X E M Y pc L (x6 :: x5 :: x4 :: x3 :: x2 :: x1 :: .ref a :: rest) h n cells slots := by
  refine zx_callI (As := [x1, x2, x3, x4, x5, x6]) (rest := rest) hd hq hw rfl hst (by rw [h0.1, h0.2]; exact hf) ok (fun r h1 n1 z => ?_)
  obtain ⟨e, k⟩ := z
  subst e
  rw [h0.1, h0.2]
  exact k
theorem zx_cI7v {a : Nat} {x1 x2 x3 x4 x5 x6 x7 : Value} (hd : decode M.2.2.1 pc = .ok (.invokespecial idx, 3)) (hq : pc + 3 = q) (hw : zx_CI M M' idx y 7) (h0 : M'.2.2.2.2.2.2.1 = 0 ∧ M'.2.2.2.2.2.2.2 = 0) (hst : (rest.map fun v => v.category).sum ≤ 8) (hf : cells ≤ M.2.2.2.2.2.1.cells ∧ slots ≤ M.2.2.2.2.2.1.slots)
    (ok : zx_Ok E y M' [.ref a, x1, x2, x3, x4, x5, x6, x7] h n (fun r h1 n1 => r = none ∧ zx_X E M Y q L (rest) h1 n1 cells slots)) : zx_X E M Y pc L (x7 :: x6 :: x5 :: x4 :: x3 :: x2 :: x1 :: .ref a :: rest) h n cells slots := by
  refine zx_callI (As := [x1, x2, x3, x4, x5, x6, x7]) (rest := rest) hd hq hw rfl hst (by rw [h0.1, h0.2]; exact hf) ok (fun r h1 n1 z => ?_)
  obtain ⟨e, k⟩ := z
  subst e
  rw [h0.1, h0.2]
  exact k
theorem zx_cS0v (hd : decode M.2.2.1 pc = .ok (.invokestatic idx, 3)) (hq : pc + 3 = q) (hw : zx_CS M M' idx y 0) (h0 : M'.2.2.2.2.2.2.1 = 0 ∧ M'.2.2.2.2.2.2.2 = 0) (hst : (rest.map fun v => v.category).sum ≤ 8) (hf : cells ≤ M.2.2.2.2.2.1.cells ∧ slots ≤ M.2.2.2.2.2.1.slots)
    (ok : zx_Ok E y M' [] h n (fun r h1 n1 => r = none ∧ zx_X E M Y q L (rest) h1 n1 cells slots)) : zx_X E M Y pc L (rest) h n cells slots := by
  refine zx_callS (As := []) (rest := rest) hd hq hw rfl hst (by rw [h0.1, h0.2]; exact hf) ok (fun r h1 n1 z => ?_)
  obtain ⟨e, k⟩ := z
  subst e
  rw [h0.1, h0.2]
  exact k
theorem zx_cS0i (hd : decode M.2.2.1 pc = .ok (.invokestatic idx, 3)) (hq : pc + 3 = q) (hw : zx_CS M M' idx y 0) (h0 : M'.2.2.2.2.2.2.1 = 0 ∧ M'.2.2.2.2.2.2.2 = 0) (hst : (rest.map fun v => v.category).sum ≤ 8) (hf : cells ≤ M.2.2.2.2.2.1.cells ∧ slots ≤ M.2.2.2.2.2.1.slots)
    (ok : zx_Ok E y M' [] h n (fun r h1 n1 => ∃ v : Int32, r = some (.int v) ∧ zx_X E M Y q L (.int v :: rest) h1 n1 cells slots)) : zx_X E M Y pc L (rest) h n cells slots := by
  refine zx_callS (As := []) (rest := rest) hd hq hw rfl hst (by rw [h0.1, h0.2]; exact hf) ok (fun r h1 n1 z => ?_)
  obtain ⟨v, e, k⟩ := z
  subst e
  rw [h0.1, h0.2]
  exact k
theorem zx_cS0l (hd : decode M.2.2.1 pc = .ok (.invokestatic idx, 3)) (hq : pc + 3 = q) (hw : zx_CS M M' idx y 0) (h0 : M'.2.2.2.2.2.2.1 = 0 ∧ M'.2.2.2.2.2.2.2 = 0) (hst : (rest.map fun v => v.category).sum ≤ 8) (hf : cells ≤ M.2.2.2.2.2.1.cells ∧ slots ≤ M.2.2.2.2.2.1.slots)
    (ok : zx_Ok E y M' [] h n (fun r h1 n1 => ∃ v : Int64, r = some (.long v) ∧ zx_X E M Y q L (.long v :: rest) h1 n1 cells slots)) : zx_X E M Y pc L (rest) h n cells slots := by
  refine zx_callS (As := []) (rest := rest) hd hq hw rfl hst (by rw [h0.1, h0.2]; exact hf) ok (fun r h1 n1 z => ?_)
  obtain ⟨v, e, k⟩ := z
  subst e
  rw [h0.1, h0.2]
  exact k
theorem zx_cS0a (hd : decode M.2.2.1 pc = .ok (.invokestatic idx, 3)) (hq : pc + 3 = q) (hw : zx_CS M M' idx y 0) (h0 : M'.2.2.2.2.2.2.1 = 0 ∧ M'.2.2.2.2.2.2.2 = 0) (hst : (rest.map fun v => v.category).sum ≤ 8) (hf : cells ≤ M.2.2.2.2.2.1.cells ∧ slots ≤ M.2.2.2.2.2.1.slots)
    (ok : zx_Ok E y M' [] h n (fun r h1 n1 => ∃ v : Nat, r = some (.ref v) ∧ zx_X E M Y q L (.ref v :: rest) h1 n1 cells slots)) : zx_X E M Y pc L (rest) h n cells slots := by
  refine zx_callS (As := []) (rest := rest) hd hq hw rfl hst (by rw [h0.1, h0.2]; exact hf) ok (fun r h1 n1 z => ?_)
  obtain ⟨v, e, k⟩ := z
  subst e
  rw [h0.1, h0.2]
  exact k
theorem zx_cS1v {x1 : Value} (hd : decode M.2.2.1 pc = .ok (.invokestatic idx, 3)) (hq : pc + 3 = q) (hw : zx_CS M M' idx y 1) (h0 : M'.2.2.2.2.2.2.1 = 0 ∧ M'.2.2.2.2.2.2.2 = 0) (hst : (rest.map fun v => v.category).sum ≤ 8) (hf : cells ≤ M.2.2.2.2.2.1.cells ∧ slots ≤ M.2.2.2.2.2.1.slots)
    (ok : zx_Ok E y M' [x1] h n (fun r h1 n1 => r = none ∧ zx_X E M Y q L (rest) h1 n1 cells slots)) : zx_X E M Y pc L (x1 :: rest) h n cells slots := by
  refine zx_callS (As := [x1]) (rest := rest) hd hq hw rfl hst (by rw [h0.1, h0.2]; exact hf) ok (fun r h1 n1 z => ?_)
  obtain ⟨e, k⟩ := z
  subst e
  rw [h0.1, h0.2]
  exact k
theorem zx_cS1i {x1 : Value} (hd : decode M.2.2.1 pc = .ok (.invokestatic idx, 3)) (hq : pc + 3 = q) (hw : zx_CS M M' idx y 1) (h0 : M'.2.2.2.2.2.2.1 = 0 ∧ M'.2.2.2.2.2.2.2 = 0) (hst : (rest.map fun v => v.category).sum ≤ 8) (hf : cells ≤ M.2.2.2.2.2.1.cells ∧ slots ≤ M.2.2.2.2.2.1.slots)
    (ok : zx_Ok E y M' [x1] h n (fun r h1 n1 => ∃ v : Int32, r = some (.int v) ∧ zx_X E M Y q L (.int v :: rest) h1 n1 cells slots)) : zx_X E M Y pc L (x1 :: rest) h n cells slots := by
  refine zx_callS (As := [x1]) (rest := rest) hd hq hw rfl hst (by rw [h0.1, h0.2]; exact hf) ok (fun r h1 n1 z => ?_)
  obtain ⟨v, e, k⟩ := z
  subst e
  rw [h0.1, h0.2]
  exact k
theorem zx_cS1l {x1 : Value} (hd : decode M.2.2.1 pc = .ok (.invokestatic idx, 3)) (hq : pc + 3 = q) (hw : zx_CS M M' idx y 1) (h0 : M'.2.2.2.2.2.2.1 = 0 ∧ M'.2.2.2.2.2.2.2 = 0) (hst : (rest.map fun v => v.category).sum ≤ 8) (hf : cells ≤ M.2.2.2.2.2.1.cells ∧ slots ≤ M.2.2.2.2.2.1.slots)
    (ok : zx_Ok E y M' [x1] h n (fun r h1 n1 => ∃ v : Int64, r = some (.long v) ∧ zx_X E M Y q L (.long v :: rest) h1 n1 cells slots)) : zx_X E M Y pc L (x1 :: rest) h n cells slots := by
  refine zx_callS (As := [x1]) (rest := rest) hd hq hw rfl hst (by rw [h0.1, h0.2]; exact hf) ok (fun r h1 n1 z => ?_)
  obtain ⟨v, e, k⟩ := z
  subst e
  rw [h0.1, h0.2]
  exact k
theorem zx_cS1a {x1 : Value} (hd : decode M.2.2.1 pc = .ok (.invokestatic idx, 3)) (hq : pc + 3 = q) (hw : zx_CS M M' idx y 1) (h0 : M'.2.2.2.2.2.2.1 = 0 ∧ M'.2.2.2.2.2.2.2 = 0) (hst : (rest.map fun v => v.category).sum ≤ 8) (hf : cells ≤ M.2.2.2.2.2.1.cells ∧ slots ≤ M.2.2.2.2.2.1.slots)
    (ok : zx_Ok E y M' [x1] h n (fun r h1 n1 => ∃ v : Nat, r = some (.ref v) ∧ zx_X E M Y q L (.ref v :: rest) h1 n1 cells slots)) : zx_X E M Y pc L (x1 :: rest) h n cells slots := by
  refine zx_callS (As := [x1]) (rest := rest) hd hq hw rfl hst (by rw [h0.1, h0.2]; exact hf) ok (fun r h1 n1 z => ?_)
  obtain ⟨v, e, k⟩ := z
  subst e
  rw [h0.1, h0.2]
  exact k
theorem zx_cS2v {x1 x2 : Value} (hd : decode M.2.2.1 pc = .ok (.invokestatic idx, 3)) (hq : pc + 3 = q) (hw : zx_CS M M' idx y 2) (h0 : M'.2.2.2.2.2.2.1 = 0 ∧ M'.2.2.2.2.2.2.2 = 0) (hst : (rest.map fun v => v.category).sum ≤ 8) (hf : cells ≤ M.2.2.2.2.2.1.cells ∧ slots ≤ M.2.2.2.2.2.1.slots)
    (ok : zx_Ok E y M' [x1, x2] h n (fun r h1 n1 => r = none ∧ zx_X E M Y q L (rest) h1 n1 cells slots)) : zx_X E M Y pc L (x2 :: x1 :: rest) h n cells slots := by
  refine zx_callS (As := [x1, x2]) (rest := rest) hd hq hw rfl hst (by rw [h0.1, h0.2]; exact hf) ok (fun r h1 n1 z => ?_)
  obtain ⟨e, k⟩ := z
  subst e
  rw [h0.1, h0.2]
  exact k
theorem zx_cS2i {x1 x2 : Value} (hd : decode M.2.2.1 pc = .ok (.invokestatic idx, 3)) (hq : pc + 3 = q) (hw : zx_CS M M' idx y 2) (h0 : M'.2.2.2.2.2.2.1 = 0 ∧ M'.2.2.2.2.2.2.2 = 0) (hst : (rest.map fun v => v.category).sum ≤ 8) (hf : cells ≤ M.2.2.2.2.2.1.cells ∧ slots ≤ M.2.2.2.2.2.1.slots)
    (ok : zx_Ok E y M' [x1, x2] h n (fun r h1 n1 => ∃ v : Int32, r = some (.int v) ∧ zx_X E M Y q L (.int v :: rest) h1 n1 cells slots)) : zx_X E M Y pc L (x2 :: x1 :: rest) h n cells slots := by
  refine zx_callS (As := [x1, x2]) (rest := rest) hd hq hw rfl hst (by rw [h0.1, h0.2]; exact hf) ok (fun r h1 n1 z => ?_)
  obtain ⟨v, e, k⟩ := z
  subst e
  rw [h0.1, h0.2]
  exact k
theorem zx_cS2l {x1 x2 : Value} (hd : decode M.2.2.1 pc = .ok (.invokestatic idx, 3)) (hq : pc + 3 = q) (hw : zx_CS M M' idx y 2) (h0 : M'.2.2.2.2.2.2.1 = 0 ∧ M'.2.2.2.2.2.2.2 = 0) (hst : (rest.map fun v => v.category).sum ≤ 8) (hf : cells ≤ M.2.2.2.2.2.1.cells ∧ slots ≤ M.2.2.2.2.2.1.slots)
    (ok : zx_Ok E y M' [x1, x2] h n (fun r h1 n1 => ∃ v : Int64, r = some (.long v) ∧ zx_X E M Y q L (.long v :: rest) h1 n1 cells slots)) : zx_X E M Y pc L (x2 :: x1 :: rest) h n cells slots := by
  refine zx_callS (As := [x1, x2]) (rest := rest) hd hq hw rfl hst (by rw [h0.1, h0.2]; exact hf) ok (fun r h1 n1 z => ?_)
  obtain ⟨v, e, k⟩ := z
  subst e
  rw [h0.1, h0.2]
  exact k
theorem zx_cS2a {x1 x2 : Value} (hd : decode M.2.2.1 pc = .ok (.invokestatic idx, 3)) (hq : pc + 3 = q) (hw : zx_CS M M' idx y 2) (h0 : M'.2.2.2.2.2.2.1 = 0 ∧ M'.2.2.2.2.2.2.2 = 0) (hst : (rest.map fun v => v.category).sum ≤ 8) (hf : cells ≤ M.2.2.2.2.2.1.cells ∧ slots ≤ M.2.2.2.2.2.1.slots)
    (ok : zx_Ok E y M' [x1, x2] h n (fun r h1 n1 => ∃ v : Nat, r = some (.ref v) ∧ zx_X E M Y q L (.ref v :: rest) h1 n1 cells slots)) : zx_X E M Y pc L (x2 :: x1 :: rest) h n cells slots := by
  refine zx_callS (As := [x1, x2]) (rest := rest) hd hq hw rfl hst (by rw [h0.1, h0.2]; exact hf) ok (fun r h1 n1 z => ?_)
  obtain ⟨v, e, k⟩ := z
  subst e
  rw [h0.1, h0.2]
  exact k
theorem zx_cS3v {x1 x2 x3 : Value} (hd : decode M.2.2.1 pc = .ok (.invokestatic idx, 3)) (hq : pc + 3 = q) (hw : zx_CS M M' idx y 3) (h0 : M'.2.2.2.2.2.2.1 = 0 ∧ M'.2.2.2.2.2.2.2 = 0) (hst : (rest.map fun v => v.category).sum ≤ 8) (hf : cells ≤ M.2.2.2.2.2.1.cells ∧ slots ≤ M.2.2.2.2.2.1.slots)
    (ok : zx_Ok E y M' [x1, x2, x3] h n (fun r h1 n1 => r = none ∧ zx_X E M Y q L (rest) h1 n1 cells slots)) : zx_X E M Y pc L (x3 :: x2 :: x1 :: rest) h n cells slots := by
  refine zx_callS (As := [x1, x2, x3]) (rest := rest) hd hq hw rfl hst (by rw [h0.1, h0.2]; exact hf) ok (fun r h1 n1 z => ?_)
  obtain ⟨e, k⟩ := z
  subst e
  rw [h0.1, h0.2]
  exact k
theorem zx_cS3i {x1 x2 x3 : Value} (hd : decode M.2.2.1 pc = .ok (.invokestatic idx, 3)) (hq : pc + 3 = q) (hw : zx_CS M M' idx y 3) (h0 : M'.2.2.2.2.2.2.1 = 0 ∧ M'.2.2.2.2.2.2.2 = 0) (hst : (rest.map fun v => v.category).sum ≤ 8) (hf : cells ≤ M.2.2.2.2.2.1.cells ∧ slots ≤ M.2.2.2.2.2.1.slots)
    (ok : zx_Ok E y M' [x1, x2, x3] h n (fun r h1 n1 => ∃ v : Int32, r = some (.int v) ∧ zx_X E M Y q L (.int v :: rest) h1 n1 cells slots)) : zx_X E M Y pc L (x3 :: x2 :: x1 :: rest) h n cells slots := by
  refine zx_callS (As := [x1, x2, x3]) (rest := rest) hd hq hw rfl hst (by rw [h0.1, h0.2]; exact hf) ok (fun r h1 n1 z => ?_)
  obtain ⟨v, e, k⟩ := z
  subst e
  rw [h0.1, h0.2]
  exact k
theorem zx_cS3l {x1 x2 x3 : Value} (hd : decode M.2.2.1 pc = .ok (.invokestatic idx, 3)) (hq : pc + 3 = q) (hw : zx_CS M M' idx y 3) (h0 : M'.2.2.2.2.2.2.1 = 0 ∧ M'.2.2.2.2.2.2.2 = 0) (hst : (rest.map fun v => v.category).sum ≤ 8) (hf : cells ≤ M.2.2.2.2.2.1.cells ∧ slots ≤ M.2.2.2.2.2.1.slots)
    (ok : zx_Ok E y M' [x1, x2, x3] h n (fun r h1 n1 => ∃ v : Int64, r = some (.long v) ∧ zx_X E M Y q L (.long v :: rest) h1 n1 cells slots)) : zx_X E M Y pc L (x3 :: x2 :: x1 :: rest) h n cells slots := by
  refine zx_callS (As := [x1, x2, x3]) (rest := rest) hd hq hw rfl hst (by rw [h0.1, h0.2]; exact hf) ok (fun r h1 n1 z => ?_)
  obtain ⟨v, e, k⟩ := z
  subst e
  rw [h0.1, h0.2]
  exact k
theorem zx_cS3a {x1 x2 x3 : Value} (hd : decode M.2.2.1 pc = .ok (.invokestatic idx, 3)) (hq : pc + 3 = q) (hw : zx_CS M M' idx y 3) (h0 : M'.2.2.2.2.2.2.1 = 0 ∧ M'.2.2.2.2.2.2.2 = 0) (hst : (rest.map fun v => v.category).sum ≤ 8) (hf : cells ≤ M.2.2.2.2.2.1.cells ∧ slots ≤ M.2.2.2.2.2.1.slots)
    (ok : zx_Ok E y M' [x1, x2, x3] h n (fun r h1 n1 => ∃ v : Nat, r = some (.ref v) ∧ zx_X E M Y q L (.ref v :: rest) h1 n1 cells slots)) : zx_X E M Y pc L (x3 :: x2 :: x1 :: rest) h n cells slots := by
  refine zx_callS (As := [x1, x2, x3]) (rest := rest) hd hq hw rfl hst (by rw [h0.1, h0.2]; exact hf) ok (fun r h1 n1 z => ?_)
  obtain ⟨v, e, k⟩ := z
  subst e
  rw [h0.1, h0.2]
  exact k
theorem zx_cS4v {x1 x2 x3 x4 : Value} (hd : decode M.2.2.1 pc = .ok (.invokestatic idx, 3)) (hq : pc + 3 = q) (hw : zx_CS M M' idx y 4) (h0 : M'.2.2.2.2.2.2.1 = 0 ∧ M'.2.2.2.2.2.2.2 = 0) (hst : (rest.map fun v => v.category).sum ≤ 8) (hf : cells ≤ M.2.2.2.2.2.1.cells ∧ slots ≤ M.2.2.2.2.2.1.slots)
    (ok : zx_Ok E y M' [x1, x2, x3, x4] h n (fun r h1 n1 => r = none ∧ zx_X E M Y q L (rest) h1 n1 cells slots)) : zx_X E M Y pc L (x4 :: x3 :: x2 :: x1 :: rest) h n cells slots := by
  refine zx_callS (As := [x1, x2, x3, x4]) (rest := rest) hd hq hw rfl hst (by rw [h0.1, h0.2]; exact hf) ok (fun r h1 n1 z => ?_)
  obtain ⟨e, k⟩ := z
  subst e
  rw [h0.1, h0.2]
  exact k
theorem zx_cS4i {x1 x2 x3 x4 : Value} (hd : decode M.2.2.1 pc = .ok (.invokestatic idx, 3)) (hq : pc + 3 = q) (hw : zx_CS M M' idx y 4) (h0 : M'.2.2.2.2.2.2.1 = 0 ∧ M'.2.2.2.2.2.2.2 = 0) (hst : (rest.map fun v => v.category).sum ≤ 8) (hf : cells ≤ M.2.2.2.2.2.1.cells ∧ slots ≤ M.2.2.2.2.2.1.slots)
    (ok : zx_Ok E y M' [x1, x2, x3, x4] h n (fun r h1 n1 => ∃ v : Int32, r = some (.int v) ∧ zx_X E M Y q L (.int v :: rest) h1 n1 cells slots)) : zx_X E M Y pc L (x4 :: x3 :: x2 :: x1 :: rest) h n cells slots := by
  refine zx_callS (As := [x1, x2, x3, x4]) (rest := rest) hd hq hw rfl hst (by rw [h0.1, h0.2]; exact hf) ok (fun r h1 n1 z => ?_)
  obtain ⟨v, e, k⟩ := z
  subst e
  rw [h0.1, h0.2]
  exact k
theorem zx_cS4l {x1 x2 x3 x4 : Value} (hd : decode M.2.2.1 pc = .ok (.invokestatic idx, 3)) (hq : pc + 3 = q) (hw : zx_CS M M' idx y 4) (h0 : M'.2.2.2.2.2.2.1 = 0 ∧ M'.2.2.2.2.2.2.2 = 0) (hst : (rest.map fun v => v.category).sum ≤ 8) (hf : cells ≤ M.2.2.2.2.2.1.cells ∧ slots ≤ M.2.2.2.2.2.1.slots)
    (ok : zx_Ok E y M' [x1, x2, x3, x4] h n (fun r h1 n1 => ∃ v : Int64, r = some (.long v) ∧ zx_X E M Y q L (.long v :: rest) h1 n1 cells slots)) : zx_X E M Y pc L (x4 :: x3 :: x2 :: x1 :: rest) h n cells slots := by
  refine zx_callS (As := [x1, x2, x3, x4]) (rest := rest) hd hq hw rfl hst (by rw [h0.1, h0.2]; exact hf) ok (fun r h1 n1 z => ?_)
  obtain ⟨v, e, k⟩ := z
  subst e
  rw [h0.1, h0.2]
  exact k
theorem zx_cS4a {x1 x2 x3 x4 : Value} (hd : decode M.2.2.1 pc = .ok (.invokestatic idx, 3)) (hq : pc + 3 = q) (hw : zx_CS M M' idx y 4) (h0 : M'.2.2.2.2.2.2.1 = 0 ∧ M'.2.2.2.2.2.2.2 = 0) (hst : (rest.map fun v => v.category).sum ≤ 8) (hf : cells ≤ M.2.2.2.2.2.1.cells ∧ slots ≤ M.2.2.2.2.2.1.slots)
    (ok : zx_Ok E y M' [x1, x2, x3, x4] h n (fun r h1 n1 => ∃ v : Nat, r = some (.ref v) ∧ zx_X E M Y q L (.ref v :: rest) h1 n1 cells slots)) : zx_X E M Y pc L (x4 :: x3 :: x2 :: x1 :: rest) h n cells slots := by
  refine zx_callS (As := [x1, x2, x3, x4]) (rest := rest) hd hq hw rfl hst (by rw [h0.1, h0.2]; exact hf) ok (fun r h1 n1 z => ?_)
  obtain ⟨v, e, k⟩ := z
  subst e
  rw [h0.1, h0.2]
  exact k
theorem zx_cS5v {x1 x2 x3 x4 x5 : Value} (hd : decode M.2.2.1 pc = .ok (.invokestatic idx, 3)) (hq : pc + 3 = q) (hw : zx_CS M M' idx y 5) (h0 : M'.2.2.2.2.2.2.1 = 0 ∧ M'.2.2.2.2.2.2.2 = 0) (hst : (rest.map fun v => v.category).sum ≤ 8) (hf : cells ≤ M.2.2.2.2.2.1.cells ∧ slots ≤ M.2.2.2.2.2.1.slots)
    (ok : zx_Ok E y M' [x1, x2, x3, x4, x5] h n (fun r h1 n1 => r = none ∧ zx_X E M Y q L (rest) h1 n1 cells slots)) : zx_X E M Y pc L (x5 :: x4 :: x3 :: x2 :: x1 :: rest) h n cells slots := by
  refine zx_callS (As := [x1, x2, x3, x4, x5]) (rest := rest) hd hq hw rfl hst (by rw [h0.1, h0.2]; exact hf) ok (fun r h1 n1 z => ?_)
  obtain ⟨e, k⟩ := z
  subst e
  rw [h0.1, h0.2]
  exact k
theorem zx_cS5i {x1 x2 x3 x4 x5 : Value} (hd : decode M.2.2.1 pc = .ok (.invokestatic idx, 3)) (hq : pc + 3 = q) (hw : zx_CS M M' idx y 5) (h0 : M'.2.2.2.2.2.2.1 = 0 ∧ M'.2.2.2.2.2.2.2 = 0) (hst : (rest.map fun v => v.category).sum ≤ 8) (hf : cells ≤ M.2.2.2.2.2.1.cells ∧ slots ≤ M.2.2.2.2.2.1.slots)
    (ok : zx_Ok E y M' [x1, x2, x3, x4, x5] h n (fun r h1 n1 => ∃ v : Int32, r = some (.int v) ∧ zx_X E M Y q L (.int v :: rest) h1 n1 cells slots)) : zx_X E M Y pc L (x5 :: x4 :: x3 :: x2 :: x1 :: rest) h n cells slots := by
  refine zx_callS (As := [x1, x2, x3, x4, x5]) (rest := rest) hd hq hw rfl hst (by rw [h0.1, h0.2]; exact hf) ok (fun r h1 n1 z => ?_)
  obtain ⟨v, e, k⟩ := z
  subst e
  rw [h0.1, h0.2]
  exact k
theorem zx_cS5l {x1 x2 x3 x4 x5 : Value} (hd : decode M.2.2.1 pc = .ok (.invokestatic idx, 3)) (hq : pc + 3 = q) (hw : zx_CS M M' idx y 5) (h0 : M'.2.2.2.2.2.2.1 = 0 ∧ M'.2.2.2.2.2.2.2 = 0) (hst : (rest.map fun v => v.category).sum ≤ 8) (hf : cells ≤ M.2.2.2.2.2.1.cells ∧ slots ≤ M.2.2.2.2.2.1.slots)
    (ok : zx_Ok E y M' [x1, x2, x3, x4, x5] h n (fun r h1 n1 => ∃ v : Int64, r = some (.long v) ∧ zx_X E M Y q L (.long v :: rest) h1 n1 cells slots)) : zx_X E M Y pc L (x5 :: x4 :: x3 :: x2 :: x1 :: rest) h n cells slots := by
  refine zx_callS (As := [x1, x2, x3, x4, x5]) (rest := rest) hd hq hw rfl hst (by rw [h0.1, h0.2]; exact hf) ok (fun r h1 n1 z => ?_)
  obtain ⟨v, e, k⟩ := z
  subst e
  rw [h0.1, h0.2]
  exact k
theorem zx_cS5a {x1 x2 x3 x4 x5 : Value} (hd : decode M.2.2.1 pc = .ok (.invokestatic idx, 3)) (hq : pc + 3 = q) (hw : zx_CS M M' idx y 5) (h0 : M'.2.2.2.2.2.2.1 = 0 ∧ M'.2.2.2.2.2.2.2 = 0) (hst : (rest.map fun v => v.category).sum ≤ 8) (hf : cells ≤ M.2.2.2.2.2.1.cells ∧ slots ≤ M.2.2.2.2.2.1.slots)
    (ok : zx_Ok E y M' [x1, x2, x3, x4, x5] h n (fun r h1 n1 => ∃ v : Nat, r = some (.ref v) ∧ zx_X E M Y q L (.ref v :: rest) h1 n1 cells slots)) : zx_X E M Y pc L (x5 :: x4 :: x3 :: x2 :: x1 :: rest) h n cells slots := by
  refine zx_callS (As := [x1, x2, x3, x4, x5]) (rest := rest) hd hq hw rfl hst (by rw [h0.1, h0.2]; exact hf) ok (fun r h1 n1 z => ?_)
  obtain ⟨v, e, k⟩ := z
  subst e
  rw [h0.1, h0.2]
  exact k
theorem zx_cS6v {x1 x2 x3 x4 x5 x6 : Value} (hd : decode M.2.2.1 pc = .ok (.invokestatic idx, 3)) (hq : pc + 3 = q) (hw : zx_CS M M' idx y 6) (h0 : M'.2.2.2.2.2.2.1 = 0 ∧ M'.2.2.2.2.2.2.2 = 0) (hst : (rest.map fun v => v.category).sum ≤ 8) (hf : cells ≤ M.2.2.2.2.2.1.cells ∧ slots ≤ M.2.2.2.2.2.1.slots)
    (ok : zx_Ok E y M' [x1, x2, x3, x4, x5, x6] h n (fun r h1 n1 => r = none ∧ zx_X E M Y q L (rest) h1 n1 cells slots)) : zx_X E M Y pc L (x6 :: x5 :: x4 :: x3 :: x2 :: x1 :: rest) h n cells slots := by
  refine zx_callS (As := [x1, x2, x3, x4, x5, x6]) (rest := rest) hd hq hw rfl hst (by rw [h0.1, h0.2]; exact hf) ok (fun r h1 n1 z => ?_)
  obtain ⟨e, k⟩ := z
  subst e
  rw [h0.1, h0.2]
  exact k
theorem zx_cS6i {x1 x2 x3 x4 x5 x6 : Value} (hd : decode M.2.2.1 pc = .ok (.invokestatic idx, 3)) (hq : pc + 3 = q) (hw : zx_CS M M' idx y 6) (h0 : M'.2.2.2.2.2.2.1 = 0 ∧ M'.2.2.2.2.2.2.2 = 0) (hst : (rest.map fun v => v.category).sum ≤ 8) (hf : cells ≤ M.2.2.2.2.2.1.cells ∧ slots ≤ M.2.2.2.2.2.1.slots)
    (ok : zx_Ok E y M' [x1, x2, x3, x4, x5, x6] h n (fun r h1 n1 => ∃ v : Int32, r = some (.int v) ∧ zx_X E M Y q L (.int v :: rest) h1 n1 cells slots)) : zx_X E M Y pc L (x6 :: x5 :: x4 :: x3 :: x2 :: x1 :: rest) h n cells slots := by
  refine zx_callS (As := [x1, x2, x3, x4, x5, x6]) (rest := rest) hd hq hw rfl hst (by rw [h0.1, h0.2]; exact hf) ok (fun r h1 n1 z => ?_)
  obtain ⟨v, e, k⟩ := z
  subst e
  rw [h0.1, h0.2]
  exact k
theorem zx_cS6l {x1 x2 x3 x4 x5 x6 : Value} (hd : decode M.2.2.1 pc = .ok (.invokestatic idx, 3)) (hq : pc + 3 = q) (hw : zx_CS M M' idx y 6) (h0 : M'.2.2.2.2.2.2.1 = 0 ∧ M'.2.2.2.2.2.2.2 = 0) (hst : (rest.map fun v => v.category).sum ≤ 8) (hf : cells ≤ M.2.2.2.2.2.1.cells ∧ slots ≤ M.2.2.2.2.2.1.slots)
    (ok : zx_Ok E y M' [x1, x2, x3, x4, x5, x6] h n (fun r h1 n1 => ∃ v : Int64, r = some (.long v) ∧ zx_X E M Y q L (.long v :: rest) h1 n1 cells slots)) : zx_X E M Y pc L (x6 :: x5 :: x4 :: x3 :: x2 :: x1 :: rest) h n cells slots := by
  refine zx_callS (As := [x1, x2, x3, x4, x5, x6]) (rest := rest) hd hq hw rfl hst (by rw [h0.1, h0.2]; exact hf) ok (fun r h1 n1 z => ?_)
  obtain ⟨v, e, k⟩ := z
  subst e
  rw [h0.1, h0.2]
  exact k
theorem zx_cS6a {x1 x2 x3 x4 x5 x6 : Value} (hd : decode M.2.2.1 pc = .ok (.invokestatic idx, 3)) (hq : pc + 3 = q) (hw : zx_CS M M' idx y 6) (h0 : M'.2.2.2.2.2.2.1 = 0 ∧ M'.2.2.2.2.2.2.2 = 0) (hst : (rest.map fun v => v.category).sum ≤ 8) (hf : cells ≤ M.2.2.2.2.2.1.cells ∧ slots ≤ M.2.2.2.2.2.1.slots)
    (ok : zx_Ok E y M' [x1, x2, x3, x4, x5, x6] h n (fun r h1 n1 => ∃ v : Nat, r = some (.ref v) ∧ zx_X E M Y q L (.ref v :: rest) h1 n1 cells slots)) : zx_X E M Y pc L (x6 :: x5 :: x4 :: x3 :: x2 :: x1 :: rest) h n cells slots := by
  refine zx_callS (As := [x1, x2, x3, x4, x5, x6]) (rest := rest) hd hq hw rfl hst (by rw [h0.1, h0.2]; exact hf) ok (fun r h1 n1 z => ?_)
  obtain ⟨v, e, k⟩ := z
  subst e
  rw [h0.1, h0.2]
  exact k
theorem zx_cS7v {x1 x2 x3 x4 x5 x6 x7 : Value} (hd : decode M.2.2.1 pc = .ok (.invokestatic idx, 3)) (hq : pc + 3 = q) (hw : zx_CS M M' idx y 7) (h0 : M'.2.2.2.2.2.2.1 = 0 ∧ M'.2.2.2.2.2.2.2 = 0) (hst : (rest.map fun v => v.category).sum ≤ 8) (hf : cells ≤ M.2.2.2.2.2.1.cells ∧ slots ≤ M.2.2.2.2.2.1.slots)
    (ok : zx_Ok E y M' [x1, x2, x3, x4, x5, x6, x7] h n (fun r h1 n1 => r = none ∧ zx_X E M Y q L (rest) h1 n1 cells slots)) : zx_X E M Y pc L (x7 :: x6 :: x5 :: x4 :: x3 :: x2 :: x1 :: rest) h n cells slots := by
  refine zx_callS (As := [x1, x2, x3, x4, x5, x6, x7]) (rest := rest) hd hq hw rfl hst (by rw [h0.1, h0.2]; exact hf) ok (fun r h1 n1 z => ?_)
  obtain ⟨e, k⟩ := z
  subst e
  rw [h0.1, h0.2]
  exact k
theorem zx_cS7i {x1 x2 x3 x4 x5 x6 x7 : Value} (hd : decode M.2.2.1 pc = .ok (.invokestatic idx, 3)) (hq : pc + 3 = q) (hw : zx_CS M M' idx y 7) (h0 : M'.2.2.2.2.2.2.1 = 0 ∧ M'.2.2.2.2.2.2.2 = 0) (hst : (rest.map fun v => v.category).sum ≤ 8) (hf : cells ≤ M.2.2.2.2.2.1.cells ∧ slots ≤ M.2.2.2.2.2.1.slots)
    (ok : zx_Ok E y M' [x1, x2, x3, x4, x5, x6, x7] h n (fun r h1 n1 => ∃ v : Int32, r = some (.int v) ∧ zx_X E M Y q L (.int v :: rest) h1 n1 cells slots)) : zx_X E M Y pc L (x7 :: x6 :: x5 :: x4 :: x3 :: x2 :: x1 :: rest) h n cells slots := by
  refine zx_callS (As := [x1, x2, x3, x4, x5, x6, x7]) (rest := rest) hd hq hw rfl hst (by rw [h0.1, h0.2]; exact hf) ok (fun r h1 n1 z => ?_)
  obtain ⟨v, e, k⟩ := z
  subst e
  rw [h0.1, h0.2]
  exact k
theorem zx_cS7l {x1 x2 x3 x4 x5 x6 x7 : Value} (hd : decode M.2.2.1 pc = .ok (.invokestatic idx, 3)) (hq : pc + 3 = q) (hw : zx_CS M M' idx y 7) (h0 : M'.2.2.2.2.2.2.1 = 0 ∧ M'.2.2.2.2.2.2.2 = 0) (hst : (rest.map fun v => v.category).sum ≤ 8) (hf : cells ≤ M.2.2.2.2.2.1.cells ∧ slots ≤ M.2.2.2.2.2.1.slots)
    (ok : zx_Ok E y M' [x1, x2, x3, x4, x5, x6, x7] h n (fun r h1 n1 => ∃ v : Int64, r = some (.long v) ∧ zx_X E M Y q L (.long v :: rest) h1 n1 cells slots)) : zx_X E M Y pc L (x7 :: x6 :: x5 :: x4 :: x3 :: x2 :: x1 :: rest) h n cells slots := by
  refine zx_callS (As := [x1, x2, x3, x4, x5, x6, x7]) (rest := rest) hd hq hw rfl hst (by rw [h0.1, h0.2]; exact hf) ok (fun r h1 n1 z => ?_)
  obtain ⟨v, e, k⟩ := z
  subst e
  rw [h0.1, h0.2]
  exact k
theorem zx_cS7a {x1 x2 x3 x4 x5 x6 x7 : Value} (hd : decode M.2.2.1 pc = .ok (.invokestatic idx, 3)) (hq : pc + 3 = q) (hw : zx_CS M M' idx y 7) (h0 : M'.2.2.2.2.2.2.1 = 0 ∧ M'.2.2.2.2.2.2.2 = 0) (hst : (rest.map fun v => v.category).sum ≤ 8) (hf : cells ≤ M.2.2.2.2.2.1.cells ∧ slots ≤ M.2.2.2.2.2.1.slots)
    (ok : zx_Ok E y M' [x1, x2, x3, x4, x5, x6, x7] h n (fun r h1 n1 => ∃ v : Nat, r = some (.ref v) ∧ zx_X E M Y q L (.ref v :: rest) h1 n1 cells slots)) : zx_X E M Y pc L (x7 :: x6 :: x5 :: x4 :: x3 :: x2 :: x1 :: rest) h n cells slots := by
  refine zx_callS (As := [x1, x2, x3, x4, x5, x6, x7]) (rest := rest) hd hq hw rfl hst (by rw [h0.1, h0.2]; exact hf) ok (fun r h1 n1 z => ?_)
  obtain ⟨v, e, k⟩ := z
  subst e
  rw [h0.1, h0.2]
  exact k
theorem zx_cN0v (hd : decode M.2.2.1 pc = .ok (.invokestatic idx, 3)) (hq : pc + 3 = q) (hw : zx_CN M M' idx y 0) (h0 : M'.2.2.2.2.2.2.1 = 0 ∧ M'.2.2.2.2.2.2.2 = 0) (hst : (rest.map fun v => v.category).sum ≤ 8) (hf : cells ≤ M.2.2.2.2.2.1.cells ∧ slots ≤ M.2.2.2.2.2.1.slots)
    (ok : zx_Ok E y M' [] h n (fun r h1 n1 => r = none ∧ zx_X E M Y q L (rest) h1 n1 cells slots)) : zx_X E M Y pc L (rest) h n cells slots := by
  refine zx_callN (As := []) (rest := rest) hd hq hw rfl hst (by rw [h0.1, h0.2]; exact hf) ok (fun r h1 n1 z => ?_)
  obtain ⟨e, k⟩ := z
  subst e
  rw [h0.1, h0.2]
  exact k
theorem zx_cN0i (hd : decode M.2.2.1 pc = .ok (.invokestatic idx, 3)) (hq : pc + 3 = q) (hw : zx_CN M M' idx y 0) (h0 : M'.2.2.2.2.2.2.1 = 0 ∧ M'.2.2.2.2.2.2.2 = 0) (hst : (rest.map fun v => v.category).sum ≤ 8) (hf : cells ≤ M.2.2.2.2.2.1.cells ∧ slots ≤ M.2.2.2.2.2.1.slots)
    (ok : zx_Ok E y M' [] h n (fun r h1 n1 => ∃ v : Int32, r = some (.int v) ∧ zx_X E M Y q L (.int v :: rest) h1 n1 cells slots)) : zx_X E M Y pc L (rest) h n cells slots := by
  refine zx_callN (As := []) (rest := rest) hd hq hw rfl hst (by rw [h0.1, h0.2]; exact hf) ok (fun r h1 n1 z => ?_)
  obtain ⟨v, e, k⟩ := z
  subst e
  rw [h0.1, h0.2]
  exact k
theorem zx_cN0l (hd : decode M.2.2.1 pc = .ok (.invokestatic idx, 3)) (hq : pc + 3 = q) (hw : zx_CN M M' idx y 0) (h0 : M'.2.2.2.2.2.2.1 = 0 ∧ M'.2.2.2.2.2.2.2 = 0) (hst : (rest.map fun v => v.category).sum ≤ 8) (hf : cells ≤ M.2.2.2.2.2.1.cells ∧ slots ≤ M.2.2.2.2.2.1.slots)
    (ok : zx_Ok E y M' [] h n (fun r h1 n1 => ∃ v : Int64, r = some (.long v) ∧ zx_X E M Y q L (.long v :: rest) h1 n1 cells slots)) : zx_X E M Y pc L (rest) h n cells slots := by
  refine zx_callN (As := []) (rest := rest) hd hq hw rfl hst (by rw [h0.1, h0.2]; exact hf) ok (fun r h1 n1 z => ?_)
  obtain ⟨v, e, k⟩ := z
  subst e
  rw [h0.1, h0.2]
  exact k
theorem zx_cN0a (hd : decode M.2.2.1 pc = .ok (.invokestatic idx, 3)) (hq : pc + 3 = q) (hw : zx_CN M M' idx y 0) (h0 : M'.2.2.2.2.2.2.1 = 0 ∧ M'.2.2.2.2.2.2.2 = 0) (hst : (rest.map fun v => v.category).sum ≤ 8) (hf : cells ≤ M.2.2.2.2.2.1.cells ∧ slots ≤ M.2.2.2.2.2.1.slots)
    (ok : zx_Ok E y M' [] h n (fun r h1 n1 => ∃ v : Nat, r = some (.ref v) ∧ zx_X E M Y q L (.ref v :: rest) h1 n1 cells slots)) : zx_X E M Y pc L (rest) h n cells slots := by
  refine zx_callN (As := []) (rest := rest) hd hq hw rfl hst (by rw [h0.1, h0.2]; exact hf) ok (fun r h1 n1 z => ?_)
  obtain ⟨v, e, k⟩ := z
  subst e
  rw [h0.1, h0.2]
  exact k
theorem zx_cN1v {x1 : Value} (hd : decode M.2.2.1 pc = .ok (.invokestatic idx, 3)) (hq : pc + 3 = q) (hw : zx_CN M M' idx y 1) (h0 : M'.2.2.2.2.2.2.1 = 0 ∧ M'.2.2.2.2.2.2.2 = 0) (hst : (rest.map fun v => v.category).sum ≤ 8) (hf : cells ≤ M.2.2.2.2.2.1.cells ∧ slots ≤ M.2.2.2.2.2.1.slots)
    (ok : zx_Ok E y M' [x1] h n (fun r h1 n1 => r = none ∧ zx_X E M Y q L (rest) h1 n1 cells slots)) : zx_X E M Y pc L (x1 :: rest) h n cells slots := by
  refine zx_callN (As := [x1]) (rest := rest) hd hq hw rfl hst (by rw [h0.1, h0.2]; exact hf) ok (fun r h1 n1 z => ?_)
  obtain ⟨e, k⟩ := z
  subst e
  rw [h0.1, h0.2]
  exact k
theorem zx_cN1i {x1 : Value} (hd : decode M.2.2.1 pc = .ok (.invokestatic idx, 3)) (hq : pc + 3 = q) (hw : zx_CN M M' idx y 1) (h0 : M'.2.2.2.2.2.2.1 = 0 ∧ M'.2.2.2.2.2.2.2 = 0) (hst : (rest.map fun v => v.category).sum ≤ 8) (hf : cells ≤ M.2.2.2.2.2.1.cells ∧ slots ≤ M.2.2.2.2.2.1.slots)
    (ok : zx_Ok E y M' [x1] h n (fun r h1 n1 => ∃ v : Int32, r = some (.int v) ∧ zx_X E M Y q L (.int v :: rest) h1 n1 cells slots)) : zx_X E M Y pc L (x1 :: rest) h n cells slots := by
  refine zx_callN (As := [x1]) (rest := rest) hd hq hw rfl hst (by rw [h0.1, h0.2]; exact hf) ok (fun r h1 n1 z => ?_)
  obtain ⟨v, e, k⟩ := z
  subst e
  rw [h0.1, h0.2]
  exact k
theorem zx_cN1l {x1 : Value} (hd : decode M.2.2.1 pc = .ok (.invokestatic idx, 3)) (hq : pc + 3 = q) (hw : zx_CN M M' idx y 1) (h0 : M'.2.2.2.2.2.2.1 = 0 ∧ M'.2.2.2.2.2.2.2 = 0) (hst : (rest.map fun v => v.category).sum ≤ 8) (hf : cells ≤ M.2.2.2.2.2.1.cells ∧ slots ≤ M.2.2.2.2.2.1.slots)
    (ok : zx_Ok E y M' [x1] h n (fun r h1 n1 => ∃ v : Int64, r = some (.long v) ∧ zx_X E M Y q L (.long v :: rest) h1 n1 cells slots)) : zx_X E M Y pc L (x1 :: rest) h n cells slots := by
  refine zx_callN (As := [x1]) (rest := rest) hd hq hw rfl hst (by rw [h0.1, h0.2]; exact hf) ok (fun r h1 n1 z => ?_)
  obtain ⟨v, e, k⟩ := z
  subst e
  rw [h0.1, h0.2]
  exact k
theorem zx_cN1a {x1 : Value} (hd : decode M.2.2.1 pc = .ok (.invokestatic idx, 3)) (hq : pc + 3 = q) (hw : zx_CN M M' idx y 1) (h0 : M'.2.2.2.2.2.2.1 = 0 ∧ M'.2.2.2.2.2.2.2 = 0) (hst : (rest.map fun v => v.category).sum ≤ 8) (hf : cells ≤ M.2.2.2.2.2.1.cells ∧ slots ≤ M.2.2.2.2.2.1.slots)
    (ok : zx_Ok E y M' [x1] h n (fun r h1 n1 => ∃ v : Nat, r = some (.ref v) ∧ zx_X E M Y q L (.ref v :: rest) h1 n1 cells slots)) : zx_X E M Y pc L (x1 :: rest) h n cells slots := by
  refine zx_callN (As := [x1]) (rest := rest) hd hq hw rfl hst (by rw [h0.1, h0.2]; exact hf) ok (fun r h1 n1 z => ?_)
  obtain ⟨v, e, k⟩ := z
  subst e
  rw [h0.1, h0.2]
  exact k
theorem zx_cN2v {x1 x2 : Value} (hd : decode M.2.2.1 pc = .ok (.invokestatic idx, 3)) (hq : pc + 3 = q) (hw : zx_CN M M' idx y 2) (h0 : M'.2.2.2.2.2.2.1 = 0 ∧ M'.2.2.2.2.2.2.2 = 0) (hst : (rest.map fun v => v.category).sum ≤ 8) (hf : cells ≤ M.2.2.2.2.2.1.cells ∧ slots ≤ M.2.2.2.2.2.1.slots)
    (ok : zx_Ok E y M' [x1, x2] h n (fun r h1 n1 => r = none ∧ zx_X E M Y q L (rest) h1 n1 cells slots)) : zx_X E M Y pc L (x2 :: x1 :: rest) h n cells slots := by
  refine zx_callN (As := [x1, x2]) (rest := rest) hd hq hw rfl hst (by rw [h0.1, h0.2]; exact hf) ok (fun r h1 n1 z => ?_)
  obtain ⟨e, k⟩ := z
  subst e
  rw [h0.1, h0.2]
  exact k
theorem zx_cN2i {x1 x2 : Value} (hd : decode M.2.2.1 pc = .ok (.invokestatic idx, 3)) (hq : pc + 3 = q) (hw : zx_CN M M' idx y 2) (h0 : M'.2.2.2.2.2.2.1 = 0 ∧ M'.2.2.2.2.2.2.2 = 0) (hst : (rest.map fun v => v.category).sum ≤ 8) (hf : cells ≤ M.2.2.2.2.2.1.cells ∧ slots ≤ M.2.2.2.2.2.1.slots)
    (ok : zx_Ok E y M' [x1, x2] h n (fun r h1 n1 => ∃ v : Int32, r = some (.int v) ∧ zx_X E M Y q L (.int v :: rest) h1 n1 cells slots)) : zx_X E M Y pc L (x2 :: x1 :: rest) h n cells slots := by
  refine zx_callN (As := [x1, x2]) (rest := rest) hd hq hw rfl hst (by rw [h0.1, h0.2]; exact hf) ok (fun r h1 n1 z => ?_)
  obtain ⟨v, e, k⟩ := z
  subst e
  rw [h0.1, h0.2]
  exact k
theorem zx_cN2l {x1 x2 : Value} (hd : decode M.2.2.1 pc = .ok (.invokestatic idx, 3)) (hq : pc + 3 = q) (hw : zx_CN M M' idx y 2) (h0 : M'.2.2.2.2.2.2.1 = 0 ∧ M'.2.2.2.2.2.2.2 = 0) (hst : (rest.map fun v => v.category).sum ≤ 8) (hf : cells ≤ M.2.2.2.2.2.1.cells ∧ slots ≤ M.2.2.2.2.2.1.slots)
    (ok : zx_Ok E y M' [x1, x2] h n (fun r h1 n1 => ∃ v : Int64, r = some (.long v) ∧ zx_X E M Y q L (.long v :: rest) h1 n1 cells slots)) : zx_X E M Y pc L (x2 :: x1 :: rest) h n cells slots := by
  refine zx_callN (As := [x1, x2]) (rest := rest) hd hq hw rfl hst (by rw [h0.1, h0.2]; exact hf) ok (fun r h1 n1 z => ?_)
  obtain ⟨v, e, k⟩ := z
  subst e
  rw [h0.1, h0.2]
  exact k
theorem zx_cN2a {x1 x2 : Value} (hd : decode M.2.2.1 pc = .ok (.invokestatic idx, 3)) (hq : pc + 3 = q) (hw : zx_CN M M' idx y 2) (h0 : M'.2.2.2.2.2.2.1 = 0 ∧ M'.2.2.2.2.2.2.2 = 0) (hst : (rest.map fun v => v.category).sum ≤ 8) (hf : cells ≤ M.2.2.2.2.2.1.cells ∧ slots ≤ M.2.2.2.2.2.1.slots)
    (ok : zx_Ok E y M' [x1, x2] h n (fun r h1 n1 => ∃ v : Nat, r = some (.ref v) ∧ zx_X E M Y q L (.ref v :: rest) h1 n1 cells slots)) : zx_X E M Y pc L (x2 :: x1 :: rest) h n cells slots := by
  refine zx_callN (As := [x1, x2]) (rest := rest) hd hq hw rfl hst (by rw [h0.1, h0.2]; exact hf) ok (fun r h1 n1 z => ?_)
  obtain ⟨v, e, k⟩ := z
  subst e
  rw [h0.1, h0.2]
  exact k
theorem zx_cN3v {x1 x2 x3 : Value} (hd : decode M.2.2.1 pc = .ok (.invokestatic idx, 3)) (hq : pc + 3 = q) (hw : zx_CN M M' idx y 3) (h0 : M'.2.2.2.2.2.2.1 = 0 ∧ M'.2.2.2.2.2.2.2 = 0) (hst : (rest.map fun v => v.category).sum ≤ 8) (hf : cells ≤ M.2.2.2.2.2.1.cells ∧ slots ≤ M.2.2.2.2.2.1.slots)
    (ok : zx_Ok E y M' [x1, x2, x3] h n (fun r h1 n1 => r = none ∧ zx_X E M Y q L (rest) h1 n1 cells slots)) : zx_X E M Y pc L (x3 :: x2 :: x1 :: rest) h n cells slots := by
  refine zx_callN (As := [x1, x2, x3]) (rest := rest) hd hq hw rfl hst (by rw [h0.1, h0.2]; exact hf) ok (fun r h1 n1 z => ?_)
  obtain ⟨e, k⟩ := z
  subst e
  rw [h0.1, h0.2]
  exact k
theorem zx_cN3i {x1 x2 x3 : Value} (hd : decode M.2.2.1 pc = .ok (.invokestatic idx, 3)) (hq : pc + 3 = q) (hw : zx_CN M M' idx y 3) (h0 : M'.2.2.2.2.2.2.1 = 0 ∧ M'.2.2.2.2.2.2.2 = 0) (hst : (rest.map fun v => v.category).sum ≤ 8) (hf : cells ≤ M.2.2.2.2.2.1.cells ∧ slots ≤ M.2.2.2.2.2.1.slots)
    (ok : zx_Ok E y M' [x1, x2, x3] h n (fun r h1 n1 => ∃ v : Int32, r = some (.int v) ∧ zx_X E M Y q L (.int v :: rest) h1 n1 cells slots)) : zx_X E M Y pc L (x3 :: x2 :: x1 :: rest) h n cells slots := by
  refine zx_callN (As := [x1, x2, x3]) (rest := rest) hd hq hw rfl hst (by rw [h0.1, h0.2]; exact hf) ok (fun r h1 n1 z => ?_)
  obtain ⟨v, e, k⟩ := z
  subst e
  rw [h0.1, h0.2]
  exact k
theorem zx_cN3l {x1 x2 x3 : Value} (hd : decode M.2.2.1 pc = .ok (.invokestatic idx, 3)) (hq : pc + 3 = q) (hw : zx_CN M M' idx y 3) (h0 : M'.2.2.2.2.2.2.1 = 0 ∧ M'.2.2.2.2.2.2.2 = 0) (hst : (rest.map fun v => v.category).sum ≤ 8) (hf : cells ≤ M.2.2.2.2.2.1.cells ∧ slots ≤ M.2.2.2.2.2.1.slots)
    (ok : zx_Ok E y M' [x1, x2, x3] h n (fun r h1 n1 => ∃ v : Int64, r = some (.long v) ∧ zx_X E M Y q L (.long v :: rest) h1 n1 cells slots)) : zx_X E M Y pc L (x3 :: x2 :: x1 :: rest) h n cells slots := by
  refine zx_callN (As := [x1, x2, x3]) (rest := rest) hd hq hw rfl hst (by rw [h0.1, h0.2]; exact hf) ok (fun r h1 n1 z => ?_)
  obtain ⟨v, e, k⟩ := z
  subst e
  rw [h0.1, h0.2]
  exact k
theorem zx_cN3a {x1 x2 x3 : Value} (hd : decode M.2.2.1 pc = .ok (.invokestatic idx, 3)) (hq : pc + 3 = q) (hw : zx_CN M M' idx y 3) (h0 : M'.2.2.2.2.2.2.1 = 0 ∧ M'.2.2.2.2.2.2.2 = 0) (hst : (rest.map fun v => v.category).sum ≤ 8) (hf : cells ≤ M.2.2.2.2.2.1.cells ∧ slots ≤ M.2.2.2.2.2.1.slots)
    (ok : zx_Ok E y M' [x1, x2, x3] h n (fun r h1 n1 => ∃ v : Nat, r = some (.ref v) ∧ zx_X E M Y q L (.ref v :: rest) h1 n1 cells slots)) : zx_X E M Y pc L (x3 :: x2 :: x1 :: rest) h n cells slots := by
  refine zx_callN (As := [x1, x2, x3]) (rest := rest) hd hq hw rfl hst (by rw [h0.1, h0.2]; exact hf) ok (fun r h1 n1 z => ?_)
  obtain ⟨v, e, k⟩ := z
  subst e
  rw [h0.1, h0.2]
  exact k
theorem zx_cN4v {x1 x2 x3 x4 : Value} (hd : decode M.2.2.1 pc = .ok (.invokestatic idx, 3)) (hq : pc + 3 = q) (hw : zx_CN M M' idx y 4) (h0 : M'.2.2.2.2.2.2.1 = 0 ∧ M'.2.2.2.2.2.2.2 = 0) (hst : (rest.map fun v => v.category).sum ≤ 8) (hf : cells ≤ M.2.2.2.2.2.1.cells ∧ slots ≤ M.2.2.2.2.2.1.slots)
    (ok : zx_Ok E y M' [x1, x2, x3, x4] h n (fun r h1 n1 => r = none ∧ zx_X E M Y q L (rest) h1 n1 cells slots)) : zx_X E M Y pc L (x4 :: x3 :: x2 :: x1 :: rest) h n cells slots := by
  refine zx_callN (As := [x1, x2, x3, x4]) (rest := rest) hd hq hw rfl hst (by rw [h0.1, h0.2]; exact hf) ok (fun r h1 n1 z => ?_)
  obtain ⟨e, k⟩ := z
  subst e
  rw [h0.1, h0.2]
  exact k
theorem zx_cN4i {x1 x2 x3 x4 : Value} (hd : decode M.2.2.1 pc = .ok (.invokestatic idx, 3)) (hq : pc + 3 = q) (hw : zx_CN M M' idx y 4) (h0 : M'.2.2.2.2.2.2.1 = 0 ∧ M'.2.2.2.2.2.2.2 = 0) (hst : (rest.map fun v => v.category).sum ≤ 8) (hf : cells ≤ M.2.2.2.2.2.1.cells ∧ slots ≤ M.2.2.2.2.2.1.slots)
    (ok : zx_Ok E y M' [x1, x2, x3, x4] h n (fun r h1 n1 => ∃ v : Int32, r = some (.int v) ∧ zx_X E M Y q L (.int v :: rest) h1 n1 cells slots)) : zx_X E M Y pc L (x4 :: x3 :: x2 :: x1 :: rest) h n cells slots := by
  refine zx_callN (As := [x1, x2, x3, x4]) (rest := rest) hd hq hw rfl hst (by rw [h0.1, h0.2]; exact hf) ok (fun r h1 n1 z => ?_)
  obtain ⟨v, e, k⟩ := z
  subst e
  rw [h0.1, h0.2]
  exact k
theorem zx_cN4l {x1 x2 x3 x4 : Value} (hd : decode M.2.2.1 pc = .ok (.invokestatic idx, 3)) (hq : pc + 3 = q) (hw : zx_CN M M' idx y 4) (h0 : M'.2.2.2.2.2.2.1 = 0 ∧ M'.2.2.2.2.2.2.2 = 0) (hst : (rest.map fun v => v.category).sum ≤ 8) (hf : cells ≤ M.2.2.2.2.2.1.cells ∧ slots ≤ M.2.2.2.2.2.1.slots)
    (ok : zx_Ok E y M' [x1, x2, x3, x4] h n (fun r h1 n1 => ∃ v : Int64, r = some (.long v) ∧ zx_X E M Y q L (.long v :: rest) h1 n1 cells slots)) : zx_X E M Y pc L (x4 :: x3 :: x2 :: x1 :: rest) h n cells slots := by
  refine zx_callN (As := [x1, x2, x3, x4]) (rest := rest) hd hq hw rfl hst (by rw [h0.1, h0.2]; exact hf) ok (fun r h1 n1 z => ?_)
  obtain ⟨v, e, k⟩ := z
  subst e
  rw [h0.1, h0.2]
  exact k
theorem zx_cN4a {x1 x2 x3 x4 : Value} (hd : decode M.2.2.1 pc = .ok (.invokestatic idx, 3)) (hq : pc + 3 = q) (hw : zx_CN M M' idx y 4) (h0 : M'.2.2.2.2.2.2.1 = 0 ∧ M'.2.2.2.2.2.2.2 = 0) (hst : (rest.map fun v => v.category).sum ≤ 8) (hf : cells ≤ M.2.2.2.2.2.1.cells ∧ slots ≤ M.2.2.2.2.2.1.slots)
    (ok : zx_Ok E y M' [x1, x2, x3, x4] h n (fun r h1 n1 => ∃ v : Nat, r = some (.ref v) ∧ zx_X E M Y q L (.ref v :: rest) h1 n1 cells slots)) : zx_X E M Y pc L (x4 :: x3 :: x2 :: x1 :: rest) h n cells slots := by
  refine zx_callN (As := [x1, x2, x3, x4]) (rest := rest) hd hq hw rfl hst (by rw [h0.1, h0.2]; exact hf) ok (fun r h1 n1 z => ?_)
  obtain ⟨v, e, k⟩ := z
  subst e
  rw [h0.1, h0.2]
  exact k
theorem zx_cN5v {x1 x2 x3 x4 x5 : Value} (hd : decode M.2.2.1 pc = .ok (.invokestatic idx, 3)) (hq : pc + 3 = q) (hw : zx_CN M M' idx y 5) (h0 : M'.2.2.2.2.2.2.1 = 0 ∧ M'.2.2.2.2.2.2.2 = 0) (hst : (rest.map fun v => v.category).sum ≤ 8) (hf : cells ≤ M.2.2.2.2.2.1.cells ∧ slots ≤ M.2.2.2.2.2.1.slots)
    (ok : zx_Ok E y M' [x1, x2, x3, x4, x5] h n (fun r h1 n1 => r = none ∧ zx_X E M Y q L (rest) h1 n1 cells slots)) : zx_X E M Y pc L (x5 :: x4 :: x3 :: x2 :: x1 :: rest) h n cells slots := by
  refine zx_callN (As := [x1, x2, x3, x4, x5]) (rest := rest) hd hq hw rfl hst (by rw [h0.1, h0.2]; exact hf) ok (fun r h1 n1 z => ?_)
  obtain ⟨e, k⟩ := z
  subst e
  rw [h0.1, h0.2]
  exact k
theorem zx_cN5i {x1 x2 x3 x4 x5 : Value} (hd : decode M.2.2.1 pc = .ok (.invokestatic idx, 3)) (hq : pc + 3 = q) (hw : zx_CN M M' idx y 5) (h0 : M'.2.2.2.2.2.2.1 = 0 ∧ M'.2.2.2.2.2.2.2 = 0) (hst : (rest.map fun v => v.category).sum ≤ 8) (hf : cells ≤ M.2.2.2.2.2.1.cells ∧ slots ≤ M.2.2.2.2.2.1.slots)
    (ok : zx_Ok E y M' [x1, x2, x3, x4, x5] h n (fun r h1 n1 => ∃ v : Int32, r = some (.int v) ∧ zx_X E M Y q L (.int v :: rest) h1 n1 cells slots)) : zx_X E M Y pc L (x5 :: x4 :: x3 :: x2 :: x1 :: rest) h n cells slots := by
  refine zx_callN (As := [x1, x2, x3, x4, x5]) (rest := rest) hd hq hw rfl hst (by rw [h0.1, h0.2]; exact hf) ok (fun r h1 n1 z => ?_)
  obtain ⟨v, e, k⟩ := z
  subst e
  rw [h0.1, h0.2]
  exact k
theorem zx_cN5l {x1 x2 x3 x4 x5 : Value} (hd : decode M.2.2.1 pc = .ok (.invokestatic idx, 3)) (hq : pc + 3 = q) (hw : zx_CN M M' idx y 5) (h0 : M'.2.2.2.2.2.2.1 = 0 ∧ M'.2.2.2.2.2.2.2 = 0) (hst : (rest.map fun v => v.category).sum ≤ 8) (hf : cells ≤ M.2.2.2.2.2.1.cells ∧ slots ≤ M.2.2.2.2.2.1.slots)
    (ok : zx_Ok E y M' [x1, x2, x3, x4, x5] h n (fun r h1 n1 => ∃ v : Int64, r = some (.long v) ∧ zx_X E M Y q L (.long v :: rest) h1 n1 cells slots)) : zx_X E M Y pc L (x5 :: x4 :: x3 :: x2 :: x1 :: rest) h n cells slots := by
  refine zx_callN (As := [x1, x2, x3, x4, x5]) (rest := rest) hd hq hw rfl hst (by rw [h0.1, h0.2]; exact hf) ok (fun r h1 n1 z => ?_)
  obtain ⟨v, e, k⟩ := z
  subst e
  rw [h0.1, h0.2]
  exact k
theorem zx_cN5a {x1 x2 x3 x4 x5 : Value} (hd : decode M.2.2.1 pc = .ok (.invokestatic idx, 3)) (hq : pc + 3 = q) (hw : zx_CN M M' idx y 5) (h0 : M'.2.2.2.2.2.2.1 = 0 ∧ M'.2.2.2.2.2.2.2 = 0) (hst : (rest.map fun v => v.category).sum ≤ 8) (hf : cells ≤ M.2.2.2.2.2.1.cells ∧ slots ≤ M.2.2.2.2.2.1.slots)
    (ok : zx_Ok E y M' [x1, x2, x3, x4, x5] h n (fun r h1 n1 => ∃ v : Nat, r = some (.ref v) ∧ zx_X E M Y q L (.ref v :: rest) h1 n1 cells slots)) : zx_X E M Y pc L (x5 :: x4 :: x3 :: x2 :: x1 :: rest) h n cells slots := by
  refine zx_callN (As := [x1, x2, x3, x4, x5]) (rest := rest) hd hq hw rfl hst (by rw [h0.1, h0.2]; exact hf) ok (fun r h1 n1 z => ?_)
  obtain ⟨v, e, k⟩ := z
  subst e
  rw [h0.1, h0.2]
  exact k
theorem zx_cN6v {x1 x2 x3 x4 x5 x6 : Value} (hd : decode M.2.2.1 pc = .ok (.invokestatic idx, 3)) (hq : pc + 3 = q) (hw : zx_CN M M' idx y 6) (h0 : M'.2.2.2.2.2.2.1 = 0 ∧ M'.2.2.2.2.2.2.2 = 0) (hst : (rest.map fun v => v.category).sum ≤ 8) (hf : cells ≤ M.2.2.2.2.2.1.cells ∧ slots ≤ M.2.2.2.2.2.1.slots)
    (ok : zx_Ok E y M' [x1, x2, x3, x4, x5, x6] h n (fun r h1 n1 => r = none ∧ zx_X E M Y q L (rest) h1 n1 cells slots)) : zx_X E M Y pc L (x6 :: x5 :: x4 :: x3 :: x2 :: x1 :: rest) h n cells slots := by
  refine zx_callN (As := [x1, x2, x3, x4, x5, x6]) (rest := rest) hd hq hw rfl hst (by rw [h0.1, h0.2]; exact hf) ok (fun r h1 n1 z => ?_)
  obtain ⟨e, k⟩ := z
  subst e
  rw [h0.1, h0.2]
  exact k
theorem zx_cN6i {x1 x2 x3 x4 x5 x6 : Value} (hd : decode M.2.2.1 pc = .ok (.invokestatic idx, 3)) (hq : pc + 3 = q) (hw : zx_CN M M' idx y 6) (h0 : M'.2.2.2.2.2.2.1 = 0 ∧ M'.2.2.2.2.2.2.2 = 0) (hst : (rest.map fun v => v.category).sum ≤ 8) (hf : cells ≤ M.2.2.2.2.2.1.cells ∧ slots ≤ M.2.2.2.2.2.1.slots)
    (ok : zx_Ok E y M' [x1, x2, x3, x4, x5, x6] h n (fun r h1 n1 => ∃ v : Int32, r = some (.int v) ∧ zx_X E M Y q L (.int v :: rest) h1 n1 cells slots)) : zx_X E M Y pc L (x6 :: x5 :: x4 :: x3 :: x2 :: x1 :: rest) h n cells slots := by
  refine zx_callN (As := [x1, x2, x3, x4, x5, x6]) (rest := rest) hd hq hw rfl hst (by rw [h0.1, h0.2]; exact hf) ok (fun r h1 n1 z => ?_)
  obtain ⟨v, e, k⟩ := z
  subst e
  rw [h0.1, h0.2]
  exact k
theorem zx_cN6l {x1 x2 x3 x4 x5 x6 : Value} (hd : decode M.2.2.1 pc = .ok (.invokestatic idx, 3)) (hq : pc + 3 = q) (hw : zx_CN M M' idx y 6) (h0 : M'.2.2.2.2.2.2.1 = 0 ∧ M'.2.2.2.2.2.2.2 = 0) (hst : (rest.map fun v => v.category).sum ≤ 8) (hf : cells ≤ M.2.2.2.2.2.1.cells ∧ slots ≤ M.2.2.2.2.2.1.slots)
    (ok : zx_Ok E y M' [x1, x2, x3, x4, x5, x6] h n (fun r h1 n1 => ∃ v : Int64, r = some (.long v) ∧ zx_X E M Y q L (.long v :: rest) h1 n1 cells slots)) : zx_X E M Y pc L (x6 :: x5 :: x4 :: x3 :: x2 :: x1 :: rest) h n cells slots := by
  refine zx_callN (As := [x1, x2, x3, x4, x5, x6]) (rest := rest) hd hq hw rfl hst (by rw [h0.1, h0.2]; exact hf) ok (fun r h1 n1 z => ?_)
  obtain ⟨v, e, k⟩ := z
  subst e
  rw [h0.1, h0.2]
  exact k
theorem zx_cN6a {x1 x2 x3 x4 x5 x6 : Value} (hd : decode M.2.2.1 pc = .ok (.invokestatic idx, 3)) (hq : pc + 3 = q) (hw : zx_CN M M' idx y 6) (h0 : M'.2.2.2.2.2.2.1 = 0 ∧ M'.2.2.2.2.2.2.2 = 0) (hst : (rest.map fun v => v.category).sum ≤ 8) (hf : cells ≤ M.2.2.2.2.2.1.cells ∧ slots ≤ M.2.2.2.2.2.1.slots)
    (ok : zx_Ok E y M' [x1, x2, x3, x4, x5, x6] h n (fun r h1 n1 => ∃ v : Nat, r = some (.ref v) ∧ zx_X E M Y q L (.ref v :: rest) h1 n1 cells slots)) : zx_X E M Y pc L (x6 :: x5 :: x4 :: x3 :: x2 :: x1 :: rest) h n cells slots := by
  refine zx_callN (As := [x1, x2, x3, x4, x5, x6]) (rest := rest) hd hq hw rfl hst (by rw [h0.1, h0.2]; exact hf) ok (fun r h1 n1 z => ?_)
  obtain ⟨v, e, k⟩ := z
  subst e
  rw [h0.1, h0.2]
  exact k
theorem zx_cN7v {x1 x2 x3 x4 x5 x6 x7 : Value} (hd : decode M.2.2.1 pc = .ok (.invokestatic idx, 3)) (hq : pc + 3 = q) (hw : zx_CN M M' idx y 7) (h0 : M'.2.2.2.2.2.2.1 = 0 ∧ M'.2.2.2.2.2.2.2 = 0) (hst : (rest.map fun v => v.category).sum ≤ 8) (hf : cells ≤ M.2.2.2.2.2.1.cells ∧ slots ≤ M.2.2.2.2.2.1.slots)
    (ok : zx_Ok E y M' [x1, x2, x3, x4, x5, x6, x7] h n (fun r h1 n1 => r = none ∧ zx_X E M Y q L (rest) h1 n1 cells slots)) : zx_X E M Y pc L (x7 :: x6 :: x5 :: x4 :: x3 :: x2 :: x1 :: rest) h n cells slots := by
  refine zx_callN (As := [x1, x2, x3, x4, x5, x6, x7]) (rest := rest) hd hq hw rfl hst (by rw [h0.1, h0.2]; exact hf) ok (fun r h1 n1 z => ?_)
  obtain ⟨e, k⟩ := z
  subst e
  rw [h0.1, h0.2]
  exact k
theorem zx_cN7i {x1 x2 x3 x4 x5 x6 x7 : Value} (hd : decode M.2.2.1 pc = .ok (.invokestatic idx, 3)) (hq : pc + 3 = q) (hw : zx_CN M M' idx y 7) (h0 : M'.2.2.2.2.2.2.1 = 0 ∧ M'.2.2.2.2.2.2.2 = 0) (hst : (rest.map fun v => v.category).sum ≤ 8) (hf : cells ≤ M.2.2.2.2.2.1.cells ∧ slots ≤ M.2.2.2.2.2.1.slots)
    (ok : zx_Ok E y M' [x1, x2, x3, x4, x5, x6, x7] h n (fun r h1 n1 => ∃ v : Int32, r = some (.int v) ∧ zx_X E M Y q L (.int v :: rest) h1 n1 cells slots)) : zx_X E M Y pc L (x7 :: x6 :: x5 :: x4 :: x3 :: x2 :: x1 :: rest) h n cells slots := by
  refine zx_callN (As := [x1, x2, x3, x4, x5, x6, x7]) (rest := rest) hd hq hw rfl hst (by rw [h0.1, h0.2]; exact hf) ok (fun r h1 n1 z => ?_)
  obtain ⟨v, e, k⟩ := z
  subst e
  rw [h0.1, h0.2]
  exact k
theorem zx_cN7l {x1 x2 x3 x4 x5 x6 x7 : Value} (hd : decode M.2.2.1 pc = .ok (.invokestatic idx, 3)) (hq : pc + 3 = q) (hw : zx_CN M M' idx y 7) (h0 : M'.2.2.2.2.2.2.1 = 0 ∧ M'.2.2.2.2.2.2.2 = 0) (hst : (rest.map fun v => v.category).sum ≤ 8) (hf : cells ≤ M.2.2.2.2.2.1.cells ∧ slots ≤ M.2.2.2.2.2.1.slots)
    (ok : zx_Ok E y M' [x1, x2, x3, x4, x5, x6, x7] h n (fun r h1 n1 => ∃ v : Int64, r = some (.long v) ∧ zx_X E M Y q L (.long v :: rest) h1 n1 cells slots)) : zx_X E M Y pc L (x7 :: x6 :: x5 :: x4 :: x3 :: x2 :: x1 :: rest) h n cells slots := by
  refine zx_callN (As := [x1, x2, x3, x4, x5, x6, x7]) (rest := rest) hd hq hw rfl hst (by rw [h0.1, h0.2]; exact hf) ok (fun r h1 n1 z => ?_)
  obtain ⟨v, e, k⟩ := z
  subst e
  rw [h0.1, h0.2]
  exact k
theorem zx_cN7a {x1 x2 x3 x4 x5 x6 x7 : Value} (hd : decode M.2.2.1 pc = .ok (.invokestatic idx, 3)) (hq : pc + 3 = q) (hw : zx_CN M M' idx y 7) (h0 : M'.2.2.2.2.2.2.1 = 0 ∧ M'.2.2.2.2.2.2.2 = 0) (hst : (rest.map fun v => v.category).sum ≤ 8) (hf : cells ≤ M.2.2.2.2.2.1.cells ∧ slots ≤ M.2.2.2.2.2.1.slots)
    (ok : zx_Ok E y M' [x1, x2, x3, x4, x5, x6, x7] h n (fun r h1 n1 => ∃ v : Nat, r = some (.ref v) ∧ zx_X E M Y q L (.ref v :: rest) h1 n1 cells slots)) : zx_X E M Y pc L (x7 :: x6 :: x5 :: x4 :: x3 :: x2 :: x1 :: rest) h n cells slots := by
  refine zx_callN (As := [x1, x2, x3, x4, x5, x6, x7]) (rest := rest) hd hq hw rfl hst (by rw [h0.1, h0.2]; exact hf) ok (fun r h1 n1 z => ?_)
  obtain ⟨v, e, k⟩ := z
  subst e
  rw [h0.1, h0.2]
  exact k
end ZD
end
