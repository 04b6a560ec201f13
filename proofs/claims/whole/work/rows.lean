section
-- ===== PART A: goes FIRST, ahead of the names: the tables' words, and 'selects' of the private methods out of them =====
/-- a private method of a class that the tables say can be made, by its rows of tables_1 -/
def lw_okq (q : MethodName × Nat) : Prop := (q.1.cls ≠ "java/lang/invoke/MethodHandle" ∧ q.1.cls ≠ "java/lang/invoke/VarHandle") ∧ Cond.instantiable q.1.cls q.2 ∈ tables_1 ∧ Cond.privateMethod q.1 ∈ tables_1 ∧ Cond.instanceMethod q.1 ∈ tables_1
theorem lw_p0 : lw_okq (⟨"VolumeHouse$Titles", "add", "(I)I"⟩, 2) := ⟨⟨by decide +kernel, by decide +kernel⟩, List.mem_of_getElem? (i := 19) (by decide +kernel), List.mem_of_getElem? (i := 241) (by decide +kernel), List.mem_of_getElem? (i := 242) (by decide +kernel)⟩
theorem lw_p1 : lw_okq (⟨"VolumeHouse$Titles", "has", "(I)Z"⟩, 2) := ⟨⟨by decide +kernel, by decide +kernel⟩, List.mem_of_getElem? (i := 19) (by decide +kernel), List.mem_of_getElem? (i := 249) (by decide +kernel), List.mem_of_getElem? (i := 250) (by decide +kernel)⟩
theorem lw_p2 : lw_okq (⟨"VolumeHouse$Bargains", "add", "(IIIII)V"⟩, 6) := ⟨⟨by decide +kernel, by decide +kernel⟩, List.mem_of_getElem? (i := 34) (by decide +kernel), List.mem_of_getElem? (i := 253) (by decide +kernel), List.mem_of_getElem? (i := 254) (by decide +kernel)⟩
theorem lw_p3 : lw_okq (⟨"VolumeHouse$Titles", "volumesOf", "(I)I"⟩, 2) := ⟨⟨by decide +kernel, by decide +kernel⟩, List.mem_of_getElem? (i := 19) (by decide +kernel), List.mem_of_getElem? (i := 261) (by decide +kernel), List.mem_of_getElem? (i := 262) (by decide +kernel)⟩
theorem lw_p4 : lw_okq (⟨"VolumeHouse$Bargains", "inForce", "(II)I"⟩, 6) := ⟨⟨by decide +kernel, by decide +kernel⟩, List.mem_of_getElem? (i := 34) (by decide +kernel), List.mem_of_getElem? (i := 266) (by decide +kernel), List.mem_of_getElem? (i := 267) (by decide +kernel)⟩
theorem lw_p5 : lw_okq (⟨"VolumeHouse$Bargains", "priceAt", "(II)I"⟩, 6) := ⟨⟨by decide +kernel, by decide +kernel⟩, List.mem_of_getElem? (i := 34) (by decide +kernel), List.mem_of_getElem? (i := 270) (by decide +kernel), List.mem_of_getElem? (i := 271) (by decide +kernel)⟩
theorem lw_p6 : lw_okq (⟨"VolumeHouse$Copies", "add", "(III)V"⟩, 13) := ⟨⟨by decide +kernel, by decide +kernel⟩, List.mem_of_getElem? (i := 60) (by decide +kernel), List.mem_of_getElem? (i := 274) (by decide +kernel), List.mem_of_getElem? (i := 275) (by decide +kernel)⟩
theorem lw_p7 : lw_okq (⟨"VolumeHouse$Copies", "shelve", "(I)V"⟩, 13) := ⟨⟨by decide +kernel, by decide +kernel⟩, List.mem_of_getElem? (i := 60) (by decide +kernel), List.mem_of_getElem? (i := 278) (by decide +kernel), List.mem_of_getElem? (i := 279) (by decide +kernel)⟩
theorem lw_p8 : lw_okq (⟨"VolumeHouse$Copies", "moveTo", "(II)V"⟩, 13) := ⟨⟨by decide +kernel, by decide +kernel⟩, List.mem_of_getElem? (i := 60) (by decide +kernel), List.mem_of_getElem? (i := 282) (by decide +kernel), List.mem_of_getElem? (i := 283) (by decide +kernel)⟩
theorem lw_p9 : lw_okq (⟨"VolumeHouse$Copies", "tally", "(II)V"⟩, 13) := ⟨⟨by decide +kernel, by decide +kernel⟩, List.mem_of_getElem? (i := 60) (by decide +kernel), List.mem_of_getElem? (i := 286) (by decide +kernel), List.mem_of_getElem? (i := 287) (by decide +kernel)⟩
theorem lw_p10 : lw_okq (⟨"VolumeHouse$Copies", "slot", "(II)I"⟩, 13) := ⟨⟨by decide +kernel, by decide +kernel⟩, List.mem_of_getElem? (i := 60) (by decide +kernel), List.mem_of_getElem? (i := 290) (by decide +kernel), List.mem_of_getElem? (i := 291) (by decide +kernel)⟩
theorem lw_p11 : lw_okq (⟨"VolumeHouse$Copies", "inBox", "(I)Z"⟩, 13) := ⟨⟨by decide +kernel, by decide +kernel⟩, List.mem_of_getElem? (i := 60) (by decide +kernel), List.mem_of_getElem? (i := 294) (by decide +kernel), List.mem_of_getElem? (i := 295) (by decide +kernel)⟩
theorem lw_p12 : lw_okq (⟨"VolumeHouse$Copies", "belongToNobody", "(I)V"⟩, 13) := ⟨⟨by decide +kernel, by decide +kernel⟩, List.mem_of_getElem? (i := 60) (by decide +kernel), List.mem_of_getElem? (i := 298) (by decide +kernel), List.mem_of_getElem? (i := 299) (by decide +kernel)⟩
theorem lw_p13 : lw_okq (⟨"VolumeHouse$Copies", "isAt", "(II)Z"⟩, 13) := ⟨⟨by decide +kernel, by decide +kernel⟩, List.mem_of_getElem? (i := 60) (by decide +kernel), List.mem_of_getElem? (i := 306) (by decide +kernel), List.mem_of_getElem? (i := 307) (by decide +kernel)⟩
theorem lw_p14 : lw_okq (⟨"VolumeHouse$Copies", "has", "(I)Z"⟩, 13) := ⟨⟨by decide +kernel, by decide +kernel⟩, List.mem_of_getElem? (i := 60) (by decide +kernel), List.mem_of_getElem? (i := 310) (by decide +kernel), List.mem_of_getElem? (i := 311) (by decide +kernel)⟩
theorem lw_p15 : lw_okq (⟨"VolumeHouse$Copies", "leaveFor", "(II)V"⟩, 13) := ⟨⟨by decide +kernel, by decide +kernel⟩, List.mem_of_getElem? (i := 60) (by decide +kernel), List.mem_of_getElem? (i := 314) (by decide +kernel), List.mem_of_getElem? (i := 315) (by decide +kernel)⟩
def lw_privs_1 : List (MethodName × Nat) := [(⟨"VolumeHouse$Titles", "add", "(I)I"⟩, 2), (⟨"VolumeHouse$Titles", "has", "(I)Z"⟩, 2), (⟨"VolumeHouse$Bargains", "add", "(IIIII)V"⟩, 6), (⟨"VolumeHouse$Titles", "volumesOf", "(I)I"⟩, 2), (⟨"VolumeHouse$Bargains", "inForce", "(II)I"⟩, 6), (⟨"VolumeHouse$Bargains", "priceAt", "(II)I"⟩, 6), (⟨"VolumeHouse$Copies", "add", "(III)V"⟩, 13), (⟨"VolumeHouse$Copies", "shelve", "(I)V"⟩, 13), (⟨"VolumeHouse$Copies", "moveTo", "(II)V"⟩, 13), (⟨"VolumeHouse$Copies", "tally", "(II)V"⟩, 13), (⟨"VolumeHouse$Copies", "slot", "(II)I"⟩, 13), (⟨"VolumeHouse$Copies", "inBox", "(I)Z"⟩, 13), (⟨"VolumeHouse$Copies", "belongToNobody", "(I)V"⟩, 13), (⟨"VolumeHouse$Copies", "isAt", "(II)Z"⟩, 13), (⟨"VolumeHouse$Copies", "has", "(I)Z"⟩, 13), (⟨"VolumeHouse$Copies", "leaveFor", "(II)V"⟩, 13)]
theorem lw_r1 : ∀ q ∈ lw_privs_1, lw_okq q := List.forall_mem_cons.mpr ⟨lw_p0, List.forall_mem_cons.mpr ⟨lw_p1, List.forall_mem_cons.mpr ⟨lw_p2, List.forall_mem_cons.mpr ⟨lw_p3, List.forall_mem_cons.mpr ⟨lw_p4, List.forall_mem_cons.mpr ⟨lw_p5, List.forall_mem_cons.mpr ⟨lw_p6, List.forall_mem_cons.mpr ⟨lw_p7, List.forall_mem_cons.mpr ⟨lw_p8, List.forall_mem_cons.mpr ⟨lw_p9, List.forall_mem_cons.mpr ⟨lw_p10, List.forall_mem_cons.mpr ⟨lw_p11, List.forall_mem_cons.mpr ⟨lw_p12, List.forall_mem_cons.mpr ⟨lw_p13, List.forall_mem_cons.mpr ⟨lw_p14, List.forall_mem_cons.mpr ⟨lw_p15, fun _ h => absurd h List.not_mem_nil⟩⟩⟩⟩⟩⟩⟩⟩⟩⟩⟩⟩⟩⟩⟩⟩
theorem lw_p16 : lw_okq (⟨"VolumeHouse$Readers", "add", "(III)I"⟩, 7) := ⟨⟨by decide +kernel, by decide +kernel⟩, List.mem_of_getElem? (i := 118) (by decide +kernel), List.mem_of_getElem? (i := 322) (by decide +kernel), List.mem_of_getElem? (i := 323) (by decide +kernel)⟩
theorem lw_p17 : lw_okq (⟨"VolumeHouse$Readers", "has", "(I)Z"⟩, 7) := ⟨⟨by decide +kernel, by decide +kernel⟩, List.mem_of_getElem? (i := 118) (by decide +kernel), List.mem_of_getElem? (i := 330) (by decide +kernel), List.mem_of_getElem? (i := 331) (by decide +kernel)⟩
theorem lw_p18 : lw_okq (⟨"VolumeHouse$Wishes", "hasOpen", "(II)Z"⟩, 7) := ⟨⟨by decide +kernel, by decide +kernel⟩, List.mem_of_getElem? (i := 153) (by decide +kernel), List.mem_of_getElem? (i := 338) (by decide +kernel), List.mem_of_getElem? (i := 339) (by decide +kernel)⟩
theorem lw_p19 : lw_okq (⟨"VolumeHouse$Wishes", "add", "(III)I"⟩, 7) := ⟨⟨by decide +kernel, by decide +kernel⟩, List.mem_of_getElem? (i := 153) (by decide +kernel), List.mem_of_getElem? (i := 342) (by decide +kernel), List.mem_of_getElem? (i := 343) (by decide +kernel)⟩
theorem lw_p20 : lw_okq (⟨"VolumeHouse$Wishes", "isOpen", "(I)Z"⟩, 7) := ⟨⟨by decide +kernel, by decide +kernel⟩, List.mem_of_getElem? (i := 153) (by decide +kernel), List.mem_of_getElem? (i := 350) (by decide +kernel), List.mem_of_getElem? (i := 351) (by decide +kernel)⟩
theorem lw_p21 : lw_okq (⟨"VolumeHouse$Wishes", "has", "(I)Z"⟩, 7) := ⟨⟨by decide +kernel, by decide +kernel⟩, List.mem_of_getElem? (i := 153) (by decide +kernel), List.mem_of_getElem? (i := 354) (by decide +kernel), List.mem_of_getElem? (i := 355) (by decide +kernel)⟩
theorem lw_p22 : lw_okq (⟨"VolumeHouse", "moveBoxes", "()Z"⟩, 10) := ⟨⟨by decide +kernel, by decide +kernel⟩, List.mem_of_getElem? (i := 11) (by decide +kernel), List.mem_of_getElem? (i := 365) (by decide +kernel), List.mem_of_getElem? (i := 366) (by decide +kernel)⟩
theorem lw_p23 : lw_okq (⟨"VolumeHouse$Copies", "comesToday", "(I)Z"⟩, 13) := ⟨⟨by decide +kernel, by decide +kernel⟩, List.mem_of_getElem? (i := 60) (by decide +kernel), List.mem_of_getElem? (i := 369) (by decide +kernel), List.mem_of_getElem? (i := 370) (by decide +kernel)⟩
theorem lw_p24 : lw_okq (⟨"VolumeHouse", "unpack", "(I)V"⟩, 10) := ⟨⟨by decide +kernel, by decide +kernel⟩, List.mem_of_getElem? (i := 11) (by decide +kernel), List.mem_of_getElem? (i := 373) (by decide +kernel), List.mem_of_getElem? (i := 374) (by decide +kernel)⟩
theorem lw_p25 : lw_okq (⟨"VolumeHouse$Copies", "handOver", "(II)V"⟩, 13) := ⟨⟨by decide +kernel, by decide +kernel⟩, List.mem_of_getElem? (i := 60) (by decide +kernel), List.mem_of_getElem? (i := 378) (by decide +kernel), List.mem_of_getElem? (i := 379) (by decide +kernel)⟩
theorem lw_p26 : lw_okq (⟨"VolumeHouse", "takeTurns", "()V"⟩, 10) := ⟨⟨by decide +kernel, by decide +kernel⟩, List.mem_of_getElem? (i := 11) (by decide +kernel), List.mem_of_getElem? (i := 382) (by decide +kernel), List.mem_of_getElem? (i := 383) (by decide +kernel)⟩
theorem lw_p27 : lw_okq (⟨"VolumeHouse", "nextInTurn", "()I"⟩, 10) := ⟨⟨by decide +kernel, by decide +kernel⟩, List.mem_of_getElem? (i := 11) (by decide +kernel), List.mem_of_getElem? (i := 386) (by decide +kernel), List.mem_of_getElem? (i := 387) (by decide +kernel)⟩
theorem lw_p28 : lw_okq (⟨"VolumeHouse", "canGet", "(I)Z"⟩, 10) := ⟨⟨by decide +kernel, by decide +kernel⟩, List.mem_of_getElem? (i := 11) (by decide +kernel), List.mem_of_getElem? (i := 390) (by decide +kernel), List.mem_of_getElem? (i := 391) (by decide +kernel)⟩
theorem lw_p29 : lw_okq (⟨"VolumeHouse$Wishes", "waits", "(I)Z"⟩, 7) := ⟨⟨by decide +kernel, by decide +kernel⟩, List.mem_of_getElem? (i := 153) (by decide +kernel), List.mem_of_getElem? (i := 394) (by decide +kernel), List.mem_of_getElem? (i := 395) (by decide +kernel)⟩
theorem lw_p30 : lw_okq (⟨"VolumeHouse$Readers", "mayTake", "(II)Z"⟩, 7) := ⟨⟨by decide +kernel, by decide +kernel⟩, List.mem_of_getElem? (i := 118) (by decide +kernel), List.mem_of_getElem? (i := 399) (by decide +kernel), List.mem_of_getElem? (i := 400) (by decide +kernel)⟩
theorem lw_p31 : lw_okq (⟨"VolumeHouse$Copies", "onShelf", "(II)I"⟩, 13) := ⟨⟨by decide +kernel, by decide +kernel⟩, List.mem_of_getElem? (i := 60) (by decide +kernel), List.mem_of_getElem? (i := 406) (by decide +kernel), List.mem_of_getElem? (i := 407) (by decide +kernel)⟩
def lw_privs_2 : List (MethodName × Nat) := [(⟨"VolumeHouse$Readers", "add", "(III)I"⟩, 7), (⟨"VolumeHouse$Readers", "has", "(I)Z"⟩, 7), (⟨"VolumeHouse$Wishes", "hasOpen", "(II)Z"⟩, 7), (⟨"VolumeHouse$Wishes", "add", "(III)I"⟩, 7), (⟨"VolumeHouse$Wishes", "isOpen", "(I)Z"⟩, 7), (⟨"VolumeHouse$Wishes", "has", "(I)Z"⟩, 7), (⟨"VolumeHouse", "moveBoxes", "()Z"⟩, 10), (⟨"VolumeHouse$Copies", "comesToday", "(I)Z"⟩, 13), (⟨"VolumeHouse", "unpack", "(I)V"⟩, 10), (⟨"VolumeHouse$Copies", "handOver", "(II)V"⟩, 13), (⟨"VolumeHouse", "takeTurns", "()V"⟩, 10), (⟨"VolumeHouse", "nextInTurn", "()I"⟩, 10), (⟨"VolumeHouse", "canGet", "(I)Z"⟩, 10), (⟨"VolumeHouse$Wishes", "waits", "(I)Z"⟩, 7), (⟨"VolumeHouse$Readers", "mayTake", "(II)Z"⟩, 7), (⟨"VolumeHouse$Copies", "onShelf", "(II)I"⟩, 13)]
theorem lw_r2 : ∀ q ∈ lw_privs_2, lw_okq q := List.forall_mem_cons.mpr ⟨lw_p16, List.forall_mem_cons.mpr ⟨lw_p17, List.forall_mem_cons.mpr ⟨lw_p18, List.forall_mem_cons.mpr ⟨lw_p19, List.forall_mem_cons.mpr ⟨lw_p20, List.forall_mem_cons.mpr ⟨lw_p21, List.forall_mem_cons.mpr ⟨lw_p22, List.forall_mem_cons.mpr ⟨lw_p23, List.forall_mem_cons.mpr ⟨lw_p24, List.forall_mem_cons.mpr ⟨lw_p25, List.forall_mem_cons.mpr ⟨lw_p26, List.forall_mem_cons.mpr ⟨lw_p27, List.forall_mem_cons.mpr ⟨lw_p28, List.forall_mem_cons.mpr ⟨lw_p29, List.forall_mem_cons.mpr ⟨lw_p30, List.forall_mem_cons.mpr ⟨lw_p31, fun _ h => absurd h List.not_mem_nil⟩⟩⟩⟩⟩⟩⟩⟩⟩⟩⟩⟩⟩⟩⟩⟩
theorem lw_p32 : lw_okq (⟨"VolumeHouse", "goesAhead", "(II)Z"⟩, 10) := ⟨⟨by decide +kernel, by decide +kernel⟩, List.mem_of_getElem? (i := 11) (by decide +kernel), List.mem_of_getElem? (i := 410) (by decide +kernel), List.mem_of_getElem? (i := 411) (by decide +kernel)⟩
theorem lw_p33 : lw_okq (⟨"VolumeHouse$Readers", "rankOf", "(I)I"⟩, 7) := ⟨⟨by decide +kernel, by decide +kernel⟩, List.mem_of_getElem? (i := 118) (by decide +kernel), List.mem_of_getElem? (i := 414) (by decide +kernel), List.mem_of_getElem? (i := 415) (by decide +kernel)⟩
theorem lw_p34 : lw_okq (⟨"VolumeHouse", "lendFor", "(I)V"⟩, 10) := ⟨⟨by decide +kernel, by decide +kernel⟩, List.mem_of_getElem? (i := 11) (by decide +kernel), List.mem_of_getElem? (i := 418) (by decide +kernel), List.mem_of_getElem? (i := 419) (by decide +kernel)⟩
theorem lw_p35 : lw_okq (⟨"VolumeHouse$Copies", "leastOnShelf", "(II)I"⟩, 13) := ⟨⟨by decide +kernel, by decide +kernel⟩, List.mem_of_getElem? (i := 60) (by decide +kernel), List.mem_of_getElem? (i := 422) (by decide +kernel), List.mem_of_getElem? (i := 423) (by decide +kernel)⟩
theorem lw_p36 : lw_okq (⟨"VolumeHouse$Copies", "lend", "(III)V"⟩, 13) := ⟨⟨by decide +kernel, by decide +kernel⟩, List.mem_of_getElem? (i := 60) (by decide +kernel), List.mem_of_getElem? (i := 426) (by decide +kernel), List.mem_of_getElem? (i := 427) (by decide +kernel)⟩
theorem lw_p37 : lw_okq (⟨"VolumeHouse$Copies", "sendOut", "(II)V"⟩, 13) := ⟨⟨by decide +kernel, by decide +kernel⟩, List.mem_of_getElem? (i := 60) (by decide +kernel), List.mem_of_getElem? (i := 430) (by decide +kernel), List.mem_of_getElem? (i := 431) (by decide +kernel)⟩
theorem lw_p38 : lw_okq (⟨"VolumeHouse", "lateCost", "(II)I"⟩, 10) := ⟨⟨by decide +kernel, by decide +kernel⟩, List.mem_of_getElem? (i := 11) (by decide +kernel), List.mem_of_getElem? (i := 438) (by decide +kernel), List.mem_of_getElem? (i := 439) (by decide +kernel)⟩
theorem lw_p39 : lw_okq (⟨"VolumeHouse$Readers", "lateCost", "(II)I"⟩, 7) := ⟨⟨by decide +kernel, by decide +kernel⟩, List.mem_of_getElem? (i := 118) (by decide +kernel), List.mem_of_getElem? (i := 442) (by decide +kernel), List.mem_of_getElem? (i := 443) (by decide +kernel)⟩
theorem lw_p40 : lw_okq (⟨"VolumeHouse", "countAsHad", "(I)V"⟩, 10) := ⟨⟨by decide +kernel, by decide +kernel⟩, List.mem_of_getElem? (i := 11) (by decide +kernel), List.mem_of_getElem? (i := 454) (by decide +kernel), List.mem_of_getElem? (i := 455) (by decide +kernel)⟩
theorem lw_p41 : lw_okq (⟨"VolumeHouse$Wishes", "countAsHad", "(III)V"⟩, 7) := ⟨⟨by decide +kernel, by decide +kernel⟩, List.mem_of_getElem? (i := 153) (by decide +kernel), List.mem_of_getElem? (i := 459) (by decide +kernel), List.mem_of_getElem? (i := 460) (by decide +kernel)⟩
theorem lw_p42 : lw_okq (⟨"VolumeHouse$Copies", "sendBack", "(II)V"⟩, 13) := ⟨⟨by decide +kernel, by decide +kernel⟩, List.mem_of_getElem? (i := 60) (by decide +kernel), List.mem_of_getElem? (i := 463) (by decide +kernel), List.mem_of_getElem? (i := 464) (by decide +kernel)⟩
theorem lw_p43 : lw_okq (⟨"VolumeHouse", "takeFrom", "(II)V"⟩, 10) := ⟨⟨by decide +kernel, by decide +kernel⟩, List.mem_of_getElem? (i := 11) (by decide +kernel), List.mem_of_getElem? (i := 472) (by decide +kernel), List.mem_of_getElem? (i := 473) (by decide +kernel)⟩
theorem lw_p44 : lw_okq (⟨"VolumeHouse$Wishes", "openOf", "(I)I"⟩, 7) := ⟨⟨by decide +kernel, by decide +kernel⟩, List.mem_of_getElem? (i := 153) (by decide +kernel), List.mem_of_getElem? (i := 488) (by decide +kernel), List.mem_of_getElem? (i := 489) (by decide +kernel)⟩
theorem lw_p45 : lw_okq (⟨"VolumeHouse$Titles", "hasVolume", "(II)Z"⟩, 2) := ⟨⟨by decide +kernel, by decide +kernel⟩, List.mem_of_getElem? (i := 19) (by decide +kernel), List.mem_of_getElem? (i := 500) (by decide +kernel), List.mem_of_getElem? (i := 501) (by decide +kernel)⟩
theorem lw_p46 : lw_okq (⟨"VolumeHouse$Wishes", "waitingFor", "(II)I"⟩, 7) := ⟨⟨by decide +kernel, by decide +kernel⟩, List.mem_of_getElem? (i := 153) (by decide +kernel), List.mem_of_getElem? (i := 505) (by decide +kernel), List.mem_of_getElem? (i := 506) (by decide +kernel)⟩
theorem lw_p47 : lw_okq (⟨"VolumeHouse$Copies", "inHouse", "(II)I"⟩, 13) := ⟨⟨by decide +kernel, by decide +kernel⟩, List.mem_of_getElem? (i := 60) (by decide +kernel), List.mem_of_getElem? (i := 514) (by decide +kernel), List.mem_of_getElem? (i := 515) (by decide +kernel)⟩
def lw_privs_3 : List (MethodName × Nat) := [(⟨"VolumeHouse", "goesAhead", "(II)Z"⟩, 10), (⟨"VolumeHouse$Readers", "rankOf", "(I)I"⟩, 7), (⟨"VolumeHouse", "lendFor", "(I)V"⟩, 10), (⟨"VolumeHouse$Copies", "leastOnShelf", "(II)I"⟩, 13), (⟨"VolumeHouse$Copies", "lend", "(III)V"⟩, 13), (⟨"VolumeHouse$Copies", "sendOut", "(II)V"⟩, 13), (⟨"VolumeHouse", "lateCost", "(II)I"⟩, 10), (⟨"VolumeHouse$Readers", "lateCost", "(II)I"⟩, 7), (⟨"VolumeHouse", "countAsHad", "(I)V"⟩, 10), (⟨"VolumeHouse$Wishes", "countAsHad", "(III)V"⟩, 7), (⟨"VolumeHouse$Copies", "sendBack", "(II)V"⟩, 13), (⟨"VolumeHouse", "takeFrom", "(II)V"⟩, 10), (⟨"VolumeHouse$Wishes", "openOf", "(I)I"⟩, 7), (⟨"VolumeHouse$Titles", "hasVolume", "(II)Z"⟩, 2), (⟨"VolumeHouse$Wishes", "waitingFor", "(II)I"⟩, 7), (⟨"VolumeHouse$Copies", "inHouse", "(II)I"⟩, 13)]
theorem lw_r3 : ∀ q ∈ lw_privs_3, lw_okq q := List.forall_mem_cons.mpr ⟨lw_p32, List.forall_mem_cons.mpr ⟨lw_p33, List.forall_mem_cons.mpr ⟨lw_p34, List.forall_mem_cons.mpr ⟨lw_p35, List.forall_mem_cons.mpr ⟨lw_p36, List.forall_mem_cons.mpr ⟨lw_p37, List.forall_mem_cons.mpr ⟨lw_p38, List.forall_mem_cons.mpr ⟨lw_p39, List.forall_mem_cons.mpr ⟨lw_p40, List.forall_mem_cons.mpr ⟨lw_p41, List.forall_mem_cons.mpr ⟨lw_p42, List.forall_mem_cons.mpr ⟨lw_p43, List.forall_mem_cons.mpr ⟨lw_p44, List.forall_mem_cons.mpr ⟨lw_p45, List.forall_mem_cons.mpr ⟨lw_p46, List.forall_mem_cons.mpr ⟨lw_p47, fun _ h => absurd h List.not_mem_nil⟩⟩⟩⟩⟩⟩⟩⟩⟩⟩⟩⟩⟩⟩⟩⟩
theorem lw_p48 : lw_okq (⟨"VolumeHouse$Demands", "setsToBuy", "(II)I"⟩, 2) := ⟨⟨by decide +kernel, by decide +kernel⟩, List.mem_of_getElem? (i := 188) (by decide +kernel), List.mem_of_getElem? (i := 529) (by decide +kernel), List.mem_of_getElem? (i := 530) (by decide +kernel)⟩
theorem lw_p49 : lw_okq (⟨"VolumeHouse$Demands", "mostOf", "(II)I"⟩, 2) := ⟨⟨by decide +kernel, by decide +kernel⟩, List.mem_of_getElem? (i := 188) (by decide +kernel), List.mem_of_getElem? (i := 533) (by decide +kernel), List.mem_of_getElem? (i := 534) (by decide +kernel)⟩
theorem lw_p50 : lw_okq (⟨"VolumeHouse$Demands", "gainIn", "(III)I"⟩, 2) := ⟨⟨by decide +kernel, by decide +kernel⟩, List.mem_of_getElem? (i := 188) (by decide +kernel), List.mem_of_getElem? (i := 537) (by decide +kernel), List.mem_of_getElem? (i := 538) (by decide +kernel)⟩
theorem lw_p51 : lw_okq (⟨"VolumeHouse$Demands", "weeksOf", "(II)I"⟩, 2) := ⟨⟨by decide +kernel, by decide +kernel⟩, List.mem_of_getElem? (i := 188) (by decide +kernel), List.mem_of_getElem? (i := 551) (by decide +kernel), List.mem_of_getElem? (i := 552) (by decide +kernel)⟩
theorem lw_p52 : lw_okq (⟨"VolumeHouseModel", "isTitle", "(I)Z"⟩, 35) := ⟨⟨by decide +kernel, by decide +kernel⟩, List.mem_of_getElem? (i := 559) (by decide +kernel), List.mem_of_getElem? (i := 682) (by decide +kernel), List.mem_of_getElem? (i := 683) (by decide +kernel)⟩
theorem lw_p53 : lw_okq (⟨"VolumeHouseModel", "bargainOf", "(I)I"⟩, 35) := ⟨⟨by decide +kernel, by decide +kernel⟩, List.mem_of_getElem? (i := 559) (by decide +kernel), List.mem_of_getElem? (i := 690) (by decide +kernel), List.mem_of_getElem? (i := 691) (by decide +kernel)⟩
theorem lw_p54 : lw_okq (⟨"VolumeHouseModel", "isCopy", "(I)Z"⟩, 35) := ⟨⟨by decide +kernel, by decide +kernel⟩, List.mem_of_getElem? (i := 559) (by decide +kernel), List.mem_of_getElem? (i := 698) (by decide +kernel), List.mem_of_getElem? (i := 699) (by decide +kernel)⟩
theorem lw_p55 : lw_okq (⟨"VolumeHouseModel", "isReader", "(I)Z"⟩, 35) := ⟨⟨by decide +kernel, by decide +kernel⟩, List.mem_of_getElem? (i := 559) (by decide +kernel), List.mem_of_getElem? (i := 710) (by decide +kernel), List.mem_of_getElem? (i := 711) (by decide +kernel)⟩
theorem lw_p56 : lw_okq (⟨"VolumeHouseModel", "isWish", "(I)Z"⟩, 35) := ⟨⟨by decide +kernel, by decide +kernel⟩, List.mem_of_getElem? (i := 559) (by decide +kernel), List.mem_of_getElem? (i := 722) (by decide +kernel), List.mem_of_getElem? (i := 723) (by decide +kernel)⟩
theorem lw_p57 : lw_okq (⟨"VolumeHouseModel", "boxes", "()V"⟩, 35) := ⟨⟨by decide +kernel, by decide +kernel⟩, List.mem_of_getElem? (i := 559) (by decide +kernel), List.mem_of_getElem? (i := 730) (by decide +kernel), List.mem_of_getElem? (i := 731) (by decide +kernel)⟩
theorem lw_p58 : lw_okq (⟨"VolumeHouseModel", "turns", "()V"⟩, 35) := ⟨⟨by decide +kernel, by decide +kernel⟩, List.mem_of_getElem? (i := 559) (by decide +kernel), List.mem_of_getElem? (i := 734) (by decide +kernel), List.mem_of_getElem? (i := 735) (by decide +kernel)⟩
theorem lw_p59 : lw_okq (⟨"VolumeHouseModel", "canHave", "(I)Z"⟩, 35) := ⟨⟨by decide +kernel, by decide +kernel⟩, List.mem_of_getElem? (i := 559) (by decide +kernel), List.mem_of_getElem? (i := 738) (by decide +kernel), List.mem_of_getElem? (i := 739) (by decide +kernel)⟩
theorem lw_p60 : lw_okq (⟨"VolumeHouseModel", "waits", "(I)Z"⟩, 35) := ⟨⟨by decide +kernel, by decide +kernel⟩, List.mem_of_getElem? (i := 559) (by decide +kernel), List.mem_of_getElem? (i := 742) (by decide +kernel), List.mem_of_getElem? (i := 743) (by decide +kernel)⟩
theorem lw_p61 : lw_okq (⟨"VolumeHouseModel", "copyOf", "(I)I"⟩, 35) := ⟨⟨by decide +kernel, by decide +kernel⟩, List.mem_of_getElem? (i := 559) (by decide +kernel), List.mem_of_getElem? (i := 746) (by decide +kernel), List.mem_of_getElem? (i := 747) (by decide +kernel)⟩
theorem lw_p62 : lw_okq (⟨"VolumeHouseModel", "shelved", "(II)I"⟩, 35) := ⟨⟨by decide +kernel, by decide +kernel⟩, List.mem_of_getElem? (i := 559) (by decide +kernel), List.mem_of_getElem? (i := 750) (by decide +kernel), List.mem_of_getElem? (i := 751) (by decide +kernel)⟩
theorem lw_p63 : lw_okq (⟨"VolumeHouseModel", "holds", "(II)I"⟩, 35) := ⟨⟨by decide +kernel, by decide +kernel⟩, List.mem_of_getElem? (i := 559) (by decide +kernel), List.mem_of_getElem? (i := 754) (by decide +kernel), List.mem_of_getElem? (i := 755) (by decide +kernel)⟩
def lw_privs_4 : List (MethodName × Nat) := [(⟨"VolumeHouse$Demands", "setsToBuy", "(II)I"⟩, 2), (⟨"VolumeHouse$Demands", "mostOf", "(II)I"⟩, 2), (⟨"VolumeHouse$Demands", "gainIn", "(III)I"⟩, 2), (⟨"VolumeHouse$Demands", "weeksOf", "(II)I"⟩, 2), (⟨"VolumeHouseModel", "isTitle", "(I)Z"⟩, 35), (⟨"VolumeHouseModel", "bargainOf", "(I)I"⟩, 35), (⟨"VolumeHouseModel", "isCopy", "(I)Z"⟩, 35), (⟨"VolumeHouseModel", "isReader", "(I)Z"⟩, 35), (⟨"VolumeHouseModel", "isWish", "(I)Z"⟩, 35), (⟨"VolumeHouseModel", "boxes", "()V"⟩, 35), (⟨"VolumeHouseModel", "turns", "()V"⟩, 35), (⟨"VolumeHouseModel", "canHave", "(I)Z"⟩, 35), (⟨"VolumeHouseModel", "waits", "(I)Z"⟩, 35), (⟨"VolumeHouseModel", "copyOf", "(I)I"⟩, 35), (⟨"VolumeHouseModel", "shelved", "(II)I"⟩, 35), (⟨"VolumeHouseModel", "holds", "(II)I"⟩, 35)]
theorem lw_r4 : ∀ q ∈ lw_privs_4, lw_okq q := List.forall_mem_cons.mpr ⟨lw_p48, List.forall_mem_cons.mpr ⟨lw_p49, List.forall_mem_cons.mpr ⟨lw_p50, List.forall_mem_cons.mpr ⟨lw_p51, List.forall_mem_cons.mpr ⟨lw_p52, List.forall_mem_cons.mpr ⟨lw_p53, List.forall_mem_cons.mpr ⟨lw_p54, List.forall_mem_cons.mpr ⟨lw_p55, List.forall_mem_cons.mpr ⟨lw_p56, List.forall_mem_cons.mpr ⟨lw_p57, List.forall_mem_cons.mpr ⟨lw_p58, List.forall_mem_cons.mpr ⟨lw_p59, List.forall_mem_cons.mpr ⟨lw_p60, List.forall_mem_cons.mpr ⟨lw_p61, List.forall_mem_cons.mpr ⟨lw_p62, List.forall_mem_cons.mpr ⟨lw_p63, fun _ h => absurd h List.not_mem_nil⟩⟩⟩⟩⟩⟩⟩⟩⟩⟩⟩⟩⟩⟩⟩⟩
theorem lw_p64 : lw_okq (⟨"VolumeHouseModel", "most", "(I)I"⟩, 35) := ⟨⟨by decide +kernel, by decide +kernel⟩, List.mem_of_getElem? (i := 559) (by decide +kernel), List.mem_of_getElem? (i := 758) (by decide +kernel), List.mem_of_getElem? (i := 759) (by decide +kernel)⟩
theorem lw_p65 : lw_okq (⟨"VolumeHouseModel", "gets", "(I)V"⟩, 35) := ⟨⟨by decide +kernel, by decide +kernel⟩, List.mem_of_getElem? (i := 559) (by decide +kernel), List.mem_of_getElem? (i := 762) (by decide +kernel), List.mem_of_getElem? (i := 763) (by decide +kernel)⟩
theorem lw_p66 : lw_okq (⟨"VolumeHouseModel", "late", "(I)I"⟩, 35) := ⟨⟨by decide +kernel, by decide +kernel⟩, List.mem_of_getElem? (i := 559) (by decide +kernel), List.mem_of_getElem? (i := 770) (by decide +kernel), List.mem_of_getElem? (i := 771) (by decide +kernel)⟩
theorem lw_p67 : lw_okq (⟨"VolumeHouseModel", "had", "(I)V"⟩, 35) := ⟨⟨by decide +kernel, by decide +kernel⟩, List.mem_of_getElem? (i := 559) (by decide +kernel), List.mem_of_getElem? (i := 777) (by decide +kernel), List.mem_of_getElem? (i := 778) (by decide +kernel)⟩
theorem lw_p68 : lw_okq (⟨"VolumeHouseModel", "weeksOf", "(II)I"⟩, 35) := ⟨⟨by decide +kernel, by decide +kernel⟩, List.mem_of_getElem? (i := 559) (by decide +kernel), List.mem_of_getElem? (i := 820) (by decide +kernel), List.mem_of_getElem? (i := 821) (by decide +kernel)⟩
theorem lw_p69 : lw_okq (⟨"VolumeHouseModel", "brings", "(III)I"⟩, 35) := ⟨⟨by decide +kernel, by decide +kernel⟩, List.mem_of_getElem? (i := 559) (by decide +kernel), List.mem_of_getElem? (i := 824) (by decide +kernel), List.mem_of_getElem? (i := 825) (by decide +kernel)⟩
def lw_privs_5 : List (MethodName × Nat) := [(⟨"VolumeHouseModel", "most", "(I)I"⟩, 35), (⟨"VolumeHouseModel", "gets", "(I)V"⟩, 35), (⟨"VolumeHouseModel", "late", "(I)I"⟩, 35), (⟨"VolumeHouseModel", "had", "(I)V"⟩, 35), (⟨"VolumeHouseModel", "weeksOf", "(II)I"⟩, 35), (⟨"VolumeHouseModel", "brings", "(III)I"⟩, 35)]
theorem lw_r5 : ∀ q ∈ lw_privs_5, lw_okq q := List.forall_mem_cons.mpr ⟨lw_p64, List.forall_mem_cons.mpr ⟨lw_p65, List.forall_mem_cons.mpr ⟨lw_p66, List.forall_mem_cons.mpr ⟨lw_p67, List.forall_mem_cons.mpr ⟨lw_p68, List.forall_mem_cons.mpr ⟨lw_p69, fun _ h => absurd h List.not_mem_nil⟩⟩⟩⟩⟩⟩
def lw_privs : List (MethodName × Nat) := lw_privs_1 ++ (lw_privs_2 ++ (lw_privs_3 ++ (lw_privs_4 ++ (lw_privs_5))))
def lw_tbl : List Cond := k2_sels lw_privs ++ tables_1
theorem lw_privs_ok : ∀ q ∈ lw_privs, lw_okq q := by
  show ∀ q ∈ lw_privs_1 ++ (lw_privs_2 ++ (lw_privs_3 ++ (lw_privs_4 ++ (lw_privs_5)))), lw_okq q
  exact List.forall_mem_append.mpr ⟨lw_r1, List.forall_mem_append.mpr ⟨lw_r2, List.forall_mem_append.mpr ⟨lw_r3, List.forall_mem_append.mpr ⟨lw_r4, lw_r5⟩⟩⟩⟩
end
section
/-! ===== BEGIN words of one list among another's, by their places ===== -/
theorem goodIn_r {big : List Cond} (ws : List Cond) (ps : List Nat) (hp : ws = ps.filterMap (fun i => big[i]?)) (h : ws.all goodWord = true) : GoodIn big ws := by
  intro w hw
  have h1 := List.all_eq_true.mp h w hw
  rw [hp] at hw
  obtain ⟨i, -, hi⟩ := List.mem_filterMap.mp hw
  have hm : w ∈ big := by first | exact List.mem_of_getElem? hi | exact List.getElem?_mem hi
  exact ⟨hm, good_of_word h1⟩
theorem goodIn_app {big a b : List Cond} (ha : GoodIn big a) (hb : GoodIn big b) : GoodIn big (a ++ b) := fun w h => (List.mem_append.mp h).elim (ha w) (hb w)
theorem goodIn_ca {big a b : List Cond} {c : Cond} (ha : GoodIn big (c :: a)) (hb : GoodIn big b) : GoodIn big (c :: (a ++ b)) := fun w h => (List.mem_cons.mp h).elim (fun e => ha w (List.mem_cons.mpr (Or.inl e))) (fun h => (List.mem_append.mp h).elim (fun h => ha w (List.mem_cons.mpr (Or.inr h))) (hb w))
theorem goodIn_sub {big ws : List Cond} (hm : ∀ w ∈ ws, w ∈ big) (h : ws.all goodWord = true) : GoodIn big ws := fun w hw => ⟨hm w hw, good_of_word (List.all_eq_true.mp h w hw)⟩
/-! ===== END ===== -/

/-! ===== BEGIN printed: names, fields, word lists, decode rows ===== -/
def RX0 : String := "VolumeHouse$Bargains"
def TX0 : u_T := fun k => match k with
  | 0 => ("VolumeHouse$Bargains", "title", "[I", true)
  | 1 => ("VolumeHouse$Bargains", "day", "[I", true)
  | 2 => ("VolumeHouse$Bargains", "atFirstPrice", "[I", true)
  | 3 => ("VolumeHouse$Bargains", "price", "[I", true)
  | 4 => ("VolumeHouse$Bargains", "priceBeyond", "[I", true)
  | _ => ("VolumeHouse$Bargains", "came", "I", false)
def tyX0 : Nat → FieldType := fun k => match k with
  | 0 => .array .int
  | 1 => .array .int
  | 2 => .array .int
  | 3 => .array .int
  | 4 => .array .int
  | _ => .int
abbrev wsX00 : List Cond := u_ws RX0 TX0 6
theorem nmX0 : ∀ a, a < 6 → ∀ b, b < 6 → a ≠ b → (TX0 a).2.1 ≠ (TX0 b).2.1 := by decide +kernel
theorem tyX0_ok : ∀ k, k < 6 → parseFieldDescriptor (TX0 k).2.2.1 = some (tyX0 k) := by decide +kernel
abbrev cX0_init : ByteArray := prog_2_method_1_code
def yX0_init : MethodName := ⟨RX0, "<init>", "()V"⟩
abbrev cX0_add : ByteArray := prog_2_method_2_code
def yX0_add : MethodName := ⟨RX0, "add", "(IIIII)V"⟩
abbrev cX0_inForce : ByteArray := prog_2_method_3_code
def yX0_inForce : MethodName := ⟨RX0, "inForce", "(II)I"⟩
abbrev cX0_priceAt : ByteArray := prog_2_method_4_code
def yX0_priceAt : MethodName := ⟨RX0, "priceAt", "(II)I"⟩
def RX1 : String := "VolumeHouse$Copies"
def TX1 : u_T := fun k => match k with
  | 0 => ("VolumeHouse$Copies", "where", "[I", true)
  | 1 => ("VolumeHouse$Copies", "title", "[I", true)
  | 2 => ("VolumeHouse$Copies", "volume", "[I", true)
  | 3 => ("VolumeHouse$Copies", "cost", "[I", true)
  | 4 => ("VolumeHouse$Copies", "reader", "[I", true)
  | 5 => ("VolumeHouse$Copies", "wish", "[I", true)
  | 6 => ("VolumeHouse$Copies", "since", "[I", true)
  | 7 => ("VolumeHouse$Copies", "daysToGo", "[I", true)
  | 8 => ("VolumeHouse$Copies", "timesLent", "[I", true)
  | 9 => ("VolumeHouse$Copies", "shelved", "[I", true)
  | 10 => ("VolumeHouse$Copies", "came", "I", false)
  | 11 => ("VolumeHouse$Copies", "inBoxes", "I", false)
  | _ => ("VolumeHouse$Copies", "lost", "I", false)
def tyX1 : Nat → FieldType := fun k => match k with
  | 0 => .array .int
  | 1 => .array .int
  | 2 => .array .int
  | 3 => .array .int
  | 4 => .array .int
  | 5 => .array .int
  | 6 => .array .int
  | 7 => .array .int
  | 8 => .array .int
  | 9 => .array .int
  | 10 => .int
  | 11 => .int
  | _ => .int
abbrev wsX10 : List Cond := u_ws RX1 TX1 13
theorem nmX1 : ∀ a, a < 13 → ∀ b, b < 13 → a ≠ b → (TX1 a).2.1 ≠ (TX1 b).2.1 := by decide +kernel
theorem tyX1_ok : ∀ k, k < 13 → parseFieldDescriptor (TX1 k).2.2.1 = some (tyX1 k) := by decide +kernel
abbrev cX1_init : ByteArray := prog_3_method_1_code
def yX1_init : MethodName := ⟨RX1, "<init>", "()V"⟩
abbrev cX1_has : ByteArray := prog_3_method_2_code
def yX1_has : MethodName := ⟨RX1, "has", "(I)Z"⟩
abbrev cX1_isAt : ByteArray := prog_3_method_3_code
def yX1_isAt : MethodName := ⟨RX1, "isAt", "(II)Z"⟩
abbrev cX1_add : ByteArray := prog_3_method_4_code
def yX1_add : MethodName := ⟨RX1, "add", "(III)V"⟩
abbrev cX1_slot : ByteArray := prog_3_method_5_code
def yX1_slot : MethodName := ⟨RX1, "slot", "(II)I"⟩
abbrev cX1_onShelf : ByteArray := prog_3_method_6_code
def yX1_onShelf : MethodName := ⟨RX1, "onShelf", "(II)I"⟩
abbrev cX1_leastOnShelf : ByteArray := prog_3_method_7_code
def yX1_leastOnShelf : MethodName := ⟨RX1, "leastOnShelf", "(II)I"⟩
abbrev cX1_inHouse : ByteArray := prog_3_method_8_code
def yX1_inHouse : MethodName := ⟨RX1, "inHouse", "(II)I"⟩
abbrev cX1_shelve : ByteArray := prog_3_method_9_code
def yX1_shelve : MethodName := ⟨RX1, "shelve", "(I)V"⟩
abbrev cX1_leaveFor : ByteArray := prog_3_method_10_code
def yX1_leaveFor : MethodName := ⟨RX1, "leaveFor", "(II)V"⟩
abbrev cX1_lend : ByteArray := prog_3_method_11_code
def yX1_lend : MethodName := ⟨RX1, "lend", "(III)V"⟩
abbrev cX1_handOver : ByteArray := prog_3_method_12_code
def yX1_handOver : MethodName := ⟨RX1, "handOver", "(II)V"⟩
abbrev cX1_sendOut : ByteArray := prog_3_method_13_code
def yX1_sendOut : MethodName := ⟨RX1, "sendOut", "(II)V"⟩
abbrev cX1_sendBack : ByteArray := prog_3_method_14_code
def yX1_sendBack : MethodName := ⟨RX1, "sendBack", "(II)V"⟩
abbrev cX1_comesToday : ByteArray := prog_3_method_15_code
def yX1_comesToday : MethodName := ⟨RX1, "comesToday", "(I)Z"⟩
abbrev cX1_inBox : ByteArray := prog_3_method_16_code
def yX1_inBox : MethodName := ⟨RX1, "inBox", "(I)Z"⟩
abbrev cX1_belongToNobody : ByteArray := prog_3_method_17_code
def yX1_belongToNobody : MethodName := ⟨RX1, "belongToNobody", "(I)V"⟩
abbrev cX1_moveTo : ByteArray := prog_3_method_18_code
def yX1_moveTo : MethodName := ⟨RX1, "moveTo", "(II)V"⟩
abbrev cX1_tally : ByteArray := prog_3_method_19_code
def yX1_tally : MethodName := ⟨RX1, "tally", "(II)V"⟩
def RX2 : String := "VolumeHouse$Demands"
def TX2 : u_T := fun k => match k with
  | 0 => ("VolumeHouse$Demands", "wanted", "[I", true)
  | _ => ("VolumeHouse$Demands", "sale", "[I", true)
def tyX2 : Nat → FieldType := fun k => match k with
  | 0 => .array .int
  | _ => .array .int
abbrev wsX20 : List Cond := u_ws RX2 TX2 2
theorem nmX2 : ∀ a, a < 2 → ∀ b, b < 2 → a ≠ b → (TX2 a).2.1 ≠ (TX2 b).2.1 := by decide +kernel
theorem tyX2_ok : ∀ k, k < 2 → parseFieldDescriptor (TX2 k).2.2.1 = some (tyX2 k) := by decide +kernel
abbrev cX2_init : ByteArray := prog_4_method_1_code
def yX2_init : MethodName := ⟨RX2, "<init>", "()V"⟩
abbrev cX2_setsToBuy : ByteArray := prog_4_method_2_code
def yX2_setsToBuy : MethodName := ⟨RX2, "setsToBuy", "(II)I"⟩
abbrev cX2_mostOf : ByteArray := prog_4_method_3_code
def yX2_mostOf : MethodName := ⟨RX2, "mostOf", "(II)I"⟩
abbrev cX2_weeksOf : ByteArray := prog_4_method_4_code
def yX2_weeksOf : MethodName := ⟨RX2, "weeksOf", "(II)I"⟩
abbrev cX2_gainIn : ByteArray := prog_4_method_5_code
def yX2_gainIn : MethodName := ⟨RX2, "gainIn", "(III)I"⟩
def RX3 : String := "VolumeHouse$Readers"
def TX3 : u_T := fun k => match k with
  | 0 => ("VolumeHouse$Readers", "rank", "[I", true)
  | 1 => ("VolumeHouse$Readers", "boxDays", "[I", true)
  | 2 => ("VolumeHouse$Readers", "last", "[I", true)
  | 3 => ("VolumeHouse$Readers", "owed", "[I", true)
  | 4 => ("VolumeHouse$Readers", "inHand", "[I", true)
  | 5 => ("VolumeHouse$Readers", "inBoxes", "[I", true)
  | _ => ("VolumeHouse$Readers", "came", "I", false)
def tyX3 : Nat → FieldType := fun k => match k with
  | 0 => .array .int
  | 1 => .array .int
  | 2 => .array .int
  | 3 => .array .int
  | 4 => .array .int
  | 5 => .array .int
  | _ => .int
abbrev wsX30 : List Cond := u_ws RX3 TX3 7
theorem nmX3 : ∀ a, a < 7 → ∀ b, b < 7 → a ≠ b → (TX3 a).2.1 ≠ (TX3 b).2.1 := by decide +kernel
theorem tyX3_ok : ∀ k, k < 7 → parseFieldDescriptor (TX3 k).2.2.1 = some (tyX3 k) := by decide +kernel
abbrev cX3_init : ByteArray := prog_5_method_1_code
def yX3_init : MethodName := ⟨RX3, "<init>", "()V"⟩
abbrev cX3_has : ByteArray := prog_5_method_2_code
def yX3_has : MethodName := ⟨RX3, "has", "(I)Z"⟩
abbrev cX3_add : ByteArray := prog_5_method_3_code
def yX3_add : MethodName := ⟨RX3, "add", "(III)I"⟩
abbrev cX3_rankOf : ByteArray := prog_5_method_4_code
def yX3_rankOf : MethodName := ⟨RX3, "rankOf", "(I)I"⟩
abbrev cX3_mayTake : ByteArray := prog_5_method_5_code
def yX3_mayTake : MethodName := ⟨RX3, "mayTake", "(II)Z"⟩
abbrev cX3_lateCost : ByteArray := prog_5_method_6_code
def yX3_lateCost : MethodName := ⟨RX3, "lateCost", "(II)I"⟩
def RX4 : String := "VolumeHouse$Titles"
def TX4 : u_T := fun k => match k with
  | 0 => ("VolumeHouse$Titles", "volumes", "[I", true)
  | _ => ("VolumeHouse$Titles", "came", "I", false)
def tyX4 : Nat → FieldType := fun k => match k with
  | 0 => .array .int
  | _ => .int
abbrev wsX40 : List Cond := u_ws RX4 TX4 2
theorem nmX4 : ∀ a, a < 2 → ∀ b, b < 2 → a ≠ b → (TX4 a).2.1 ≠ (TX4 b).2.1 := by decide +kernel
theorem tyX4_ok : ∀ k, k < 2 → parseFieldDescriptor (TX4 k).2.2.1 = some (tyX4 k) := by decide +kernel
abbrev cX4_init : ByteArray := prog_6_method_1_code
def yX4_init : MethodName := ⟨RX4, "<init>", "()V"⟩
abbrev cX4_has : ByteArray := prog_6_method_2_code
def yX4_has : MethodName := ⟨RX4, "has", "(I)Z"⟩
abbrev cX4_hasVolume : ByteArray := prog_6_method_3_code
def yX4_hasVolume : MethodName := ⟨RX4, "hasVolume", "(II)Z"⟩
abbrev cX4_volumesOf : ByteArray := prog_6_method_4_code
def yX4_volumesOf : MethodName := ⟨RX4, "volumesOf", "(I)I"⟩
abbrev cX4_add : ByteArray := prog_6_method_5_code
def yX4_add : MethodName := ⟨RX4, "add", "(I)I"⟩
def RX5 : String := "VolumeHouse$Wishes"
def TX5 : u_T := fun k => match k with
  | 0 => ("VolumeHouse$Wishes", "reader", "[I", true)
  | 1 => ("VolumeHouse$Wishes", "title", "[I", true)
  | 2 => ("VolumeHouse$Wishes", "state", "[I", true)
  | 3 => ("VolumeHouse$Wishes", "had", "[I", true)
  | 4 => ("VolumeHouse$Wishes", "held", "[I", true)
  | 5 => ("VolumeHouse$Wishes", "since", "[I", true)
  | _ => ("VolumeHouse$Wishes", "came", "I", false)
def tyX5 : Nat → FieldType := fun k => match k with
  | 0 => .array .int
  | 1 => .array .int
  | 2 => .array .int
  | 3 => .array .int
  | 4 => .array .int
  | 5 => .array .int
  | _ => .int
abbrev wsX50 : List Cond := u_ws RX5 TX5 7
theorem nmX5 : ∀ a, a < 7 → ∀ b, b < 7 → a ≠ b → (TX5 a).2.1 ≠ (TX5 b).2.1 := by decide +kernel
theorem tyX5_ok : ∀ k, k < 7 → parseFieldDescriptor (TX5 k).2.2.1 = some (tyX5 k) := by decide +kernel
abbrev cX5_init : ByteArray := prog_7_method_1_code
def yX5_init : MethodName := ⟨RX5, "<init>", "()V"⟩
abbrev cX5_has : ByteArray := prog_7_method_2_code
def yX5_has : MethodName := ⟨RX5, "has", "(I)Z"⟩
abbrev cX5_isOpen : ByteArray := prog_7_method_3_code
def yX5_isOpen : MethodName := ⟨RX5, "isOpen", "(I)Z"⟩
abbrev cX5_waits : ByteArray := prog_7_method_4_code
def yX5_waits : MethodName := ⟨RX5, "waits", "(I)Z"⟩
abbrev cX5_add : ByteArray := prog_7_method_5_code
def yX5_add : MethodName := ⟨RX5, "add", "(III)I"⟩
abbrev cX5_hasOpen : ByteArray := prog_7_method_6_code
def yX5_hasOpen : MethodName := ⟨RX5, "hasOpen", "(II)Z"⟩
abbrev cX5_openOf : ByteArray := prog_7_method_7_code
def yX5_openOf : MethodName := ⟨RX5, "openOf", "(I)I"⟩
abbrev cX5_waitingFor : ByteArray := prog_7_method_8_code
def yX5_waitingFor : MethodName := ⟨RX5, "waitingFor", "(II)I"⟩
abbrev cX5_countAsHad : ByteArray := prog_7_method_9_code
def yX5_countAsHad : MethodName := ⟨RX5, "countAsHad", "(III)V"⟩
def RX6 : String := "VolumeHouse"
def TX6 : u_T := fun k => match k with
  | 0 => ("VolumeHouse", "titles", "LVolumeHouse$Titles;", true)
  | 1 => ("VolumeHouse", "bargains", "LVolumeHouse$Bargains;", true)
  | 2 => ("VolumeHouse", "copies", "LVolumeHouse$Copies;", true)
  | 3 => ("VolumeHouse", "readers", "LVolumeHouse$Readers;", true)
  | 4 => ("VolumeHouse", "wishes", "LVolumeHouse$Wishes;", true)
  | 5 => ("VolumeHouse", "demands", "LVolumeHouse$Demands;", true)
  | 6 => ("VolumeHouse", "now", "I", false)
  | 7 => ("VolumeHouse", "spent", "I", false)
  | 8 => ("VolumeHouse", "earned", "I", false)
  | _ => ("VolumeHouse", "paid", "I", false)
def tyX6 : Nat → FieldType := fun k => match k with
  | 0 => .object "VolumeHouse$Titles"
  | 1 => .object "VolumeHouse$Bargains"
  | 2 => .object "VolumeHouse$Copies"
  | 3 => .object "VolumeHouse$Readers"
  | 4 => .object "VolumeHouse$Wishes"
  | 5 => .object "VolumeHouse$Demands"
  | 6 => .int
  | 7 => .int
  | 8 => .int
  | _ => .int
abbrev wsX60 : List Cond := u_ws RX6 TX6 10
theorem nmX6 : ∀ a, a < 10 → ∀ b, b < 10 → a ≠ b → (TX6 a).2.1 ≠ (TX6 b).2.1 := by decide +kernel
theorem tyX6_ok : ∀ k, k < 10 → parseFieldDescriptor (TX6 k).2.2.1 = some (tyX6 k) := by decide +kernel
abbrev cX6_init : ByteArray := prog_1_method_1_code
def yX6_init : MethodName := ⟨RX6, "<init>", "()V"⟩
abbrev cX6_title : ByteArray := prog_1_method_2_code
def yX6_title : MethodName := ⟨RX6, "title", "(I)I"⟩
abbrev cX6_bargain : ByteArray := prog_1_method_3_code
def yX6_bargain : MethodName := ⟨RX6, "bargain", "(IIIII)Z"⟩
abbrev cX6_buy : ByteArray := prog_1_method_4_code
def yX6_buy : MethodName := ⟨RX6, "buy", "(II)I"⟩
abbrev cX6_sell : ByteArray := prog_1_method_5_code
def yX6_sell : MethodName := ⟨RX6, "sell", "(II)Z"⟩
abbrev cX6_reader : ByteArray := prog_1_method_6_code
def yX6_reader : MethodName := ⟨RX6, "reader", "(III)I"⟩
abbrev cX6_renew : ByteArray := prog_1_method_7_code
def yX6_renew : MethodName := ⟨RX6, "renew", "(II)Z"⟩
abbrev cX6_wish : ByteArray := prog_1_method_8_code
def yX6_wish : MethodName := ⟨RX6, "wish", "(II)I"⟩
abbrev cX6_unwish : ByteArray := prog_1_method_9_code
def yX6_unwish : MethodName := ⟨RX6, "unwish", "(I)Z"⟩
abbrev cX6_go : ByteArray := prog_1_method_10_code
def yX6_go : MethodName := ⟨RX6, "go", "(I)I"⟩
abbrev cX6_back : ByteArray := prog_1_method_11_code
def yX6_back : MethodName := ⟨RX6, "back", "(I)I"⟩
abbrev cX6_lose : ByteArray := prog_1_method_12_code
def yX6_lose : MethodName := ⟨RX6, "lose", "(I)I"⟩
abbrev cX6_pay : ByteArray := prog_1_method_13_code
def yX6_pay : MethodName := ⟨RX6, "pay", "(II)I"⟩
abbrev cX6_copy : ByteArray := prog_1_method_14_code
def yX6_copy : MethodName := ⟨RX6, "copy", "(II)I"⟩
abbrev cX6_told : ByteArray := prog_1_method_15_code
def yX6_told : MethodName := ⟨RX6, "told", "(II)I"⟩
abbrev cX6_wished : ByteArray := prog_1_method_16_code
def yX6_wished : MethodName := ⟨RX6, "wished", "(II)I"⟩
abbrev cX6_waiting : ByteArray := prog_1_method_17_code
def yX6_waiting : MethodName := ⟨RX6, "waiting", "(II)I"⟩
abbrev cX6_sets : ByteArray := prog_1_method_18_code
def yX6_sets : MethodName := ⟨RX6, "sets", "(I)I"⟩
abbrev cX6_demand : ByteArray := prog_1_method_19_code
def yX6_demand : MethodName := ⟨RX6, "demand", "(III)Z"⟩
abbrev cX6_best : ByteArray := prog_1_method_20_code
def yX6_best : MethodName := ⟨RX6, "best", "(II)I"⟩
abbrev cX6_gain : ByteArray := prog_1_method_21_code
def yX6_gain : MethodName := ⟨RX6, "gain", "(II)I"⟩
abbrev cX6_kept : ByteArray := prog_1_method_22_code
def yX6_kept : MethodName := ⟨RX6, "kept", "(III)I"⟩
abbrev cX6_count : ByteArray := prog_1_method_23_code
def yX6_count : MethodName := ⟨RX6, "count", "(I)I"⟩
abbrev cX6_within : ByteArray := prog_1_method_24_code
def yX6_within : MethodName := ⟨RX6, "within", "(III)Z"⟩
abbrev cX6_canPlan : ByteArray := prog_1_method_25_code
def yX6_canPlan : MethodName := ⟨RX6, "canPlan", "(II)Z"⟩
abbrev cX6_moveBoxes : ByteArray := prog_1_method_26_code
def yX6_moveBoxes : MethodName := ⟨RX6, "moveBoxes", "()Z"⟩
abbrev cX6_unpack : ByteArray := prog_1_method_27_code
def yX6_unpack : MethodName := ⟨RX6, "unpack", "(I)V"⟩
abbrev cX6_takeTurns : ByteArray := prog_1_method_28_code
def yX6_takeTurns : MethodName := ⟨RX6, "takeTurns", "()V"⟩
abbrev cX6_nextInTurn : ByteArray := prog_1_method_29_code
def yX6_nextInTurn : MethodName := ⟨RX6, "nextInTurn", "()I"⟩
abbrev cX6_canGet : ByteArray := prog_1_method_30_code
def yX6_canGet : MethodName := ⟨RX6, "canGet", "(I)Z"⟩
abbrev cX6_goesAhead : ByteArray := prog_1_method_31_code
def yX6_goesAhead : MethodName := ⟨RX6, "goesAhead", "(II)Z"⟩
abbrev cX6_lendFor : ByteArray := prog_1_method_32_code
def yX6_lendFor : MethodName := ⟨RX6, "lendFor", "(I)V"⟩
abbrev cX6_lateCost : ByteArray := prog_1_method_33_code
def yX6_lateCost : MethodName := ⟨RX6, "lateCost", "(II)I"⟩
abbrev cX6_takeFrom : ByteArray := prog_1_method_34_code
def yX6_takeFrom : MethodName := ⟨RX6, "takeFrom", "(II)V"⟩
abbrev cX6_countAsHad : ByteArray := prog_1_method_35_code
def yX6_countAsHad : MethodName := ⟨RX6, "countAsHad", "(I)V"⟩
def RX7 : String := "VolumeHouseModel"
def TX7 : u_T := fun k => match k with
  | 0 => ("VolumeHouseModel", "now", "I", false)
  | 1 => ("VolumeHouseModel", "titles", "I", false)
  | 2 => ("VolumeHouseModel", "volumes", "[I", true)
  | 3 => ("VolumeHouseModel", "copies", "I", false)
  | 4 => ("VolumeHouseModel", "titleOf", "[I", true)
  | 5 => ("VolumeHouseModel", "volumeOf", "[I", true)
  | 6 => ("VolumeHouseModel", "costOf", "[I", true)
  | 7 => ("VolumeHouseModel", "state", "[I", true)
  | 8 => ("VolumeHouseModel", "readerOf", "[I", true)
  | 9 => ("VolumeHouseModel", "wishOf", "[I", true)
  | 10 => ("VolumeHouseModel", "since", "[I", true)
  | 11 => ("VolumeHouseModel", "toGo", "[I", true)
  | 12 => ("VolumeHouseModel", "lent", "[I", true)
  | 13 => ("VolumeHouseModel", "readers", "I", false)
  | 14 => ("VolumeHouseModel", "rank", "[I", true)
  | 15 => ("VolumeHouseModel", "boxDays", "[I", true)
  | 16 => ("VolumeHouseModel", "last", "[I", true)
  | 17 => ("VolumeHouseModel", "owed", "[I", true)
  | 18 => ("VolumeHouseModel", "wishes", "I", false)
  | 19 => ("VolumeHouseModel", "wisher", "[I", true)
  | 20 => ("VolumeHouseModel", "wishTitle", "[I", true)
  | 21 => ("VolumeHouseModel", "wishState", "[I", true)
  | 22 => ("VolumeHouseModel", "had", "[I", true)
  | 23 => ("VolumeHouseModel", "waitsFrom", "[I", true)
  | 24 => ("VolumeHouseModel", "bargains", "I", false)
  | 25 => ("VolumeHouseModel", "bargainTitle", "[I", true)
  | 26 => ("VolumeHouseModel", "bargainDay", "[I", true)
  | 27 => ("VolumeHouseModel", "bargainMany", "[I", true)
  | 28 => ("VolumeHouseModel", "bargainPrice", "[I", true)
  | 29 => ("VolumeHouseModel", "bargainBeyond", "[I", true)
  | 30 => ("VolumeHouseModel", "spent", "I", false)
  | 31 => ("VolumeHouseModel", "earned", "I", false)
  | 32 => ("VolumeHouseModel", "paid", "I", false)
  | 33 => ("VolumeHouseModel", "wanted", "[I", true)
  | _ => ("VolumeHouseModel", "sale", "[I", true)
def tyX7 : Nat → FieldType := fun k => match k with
  | 0 => .int
  | 1 => .int
  | 2 => .array .int
  | 3 => .int
  | 4 => .array .int
  | 5 => .array .int
  | 6 => .array .int
  | 7 => .array .int
  | 8 => .array .int
  | 9 => .array .int
  | 10 => .array .int
  | 11 => .array .int
  | 12 => .array .int
  | 13 => .int
  | 14 => .array .int
  | 15 => .array .int
  | 16 => .array .int
  | 17 => .array .int
  | 18 => .int
  | 19 => .array .int
  | 20 => .array .int
  | 21 => .array .int
  | 22 => .array .int
  | 23 => .array .int
  | 24 => .int
  | 25 => .array .int
  | 26 => .array .int
  | 27 => .array .int
  | 28 => .array .int
  | 29 => .array .int
  | 30 => .int
  | 31 => .int
  | 32 => .int
  | 33 => .array .int
  | _ => .array .int
abbrev wsX70 : List Cond := u_ws RX7 TX7 35
theorem nmX7 : ∀ a, a < 35 → ∀ b, b < 35 → a ≠ b → (TX7 a).2.1 ≠ (TX7 b).2.1 := by decide +kernel
theorem tyX7_ok : ∀ k, k < 35 → parseFieldDescriptor (TX7 k).2.2.1 = some (tyX7 k) := by decide +kernel
abbrev cX7_init : ByteArray := prog_9_method_1_code
def yX7_init : MethodName := ⟨RX7, "<init>", "()V"⟩
abbrev cX7_in : ByteArray := prog_9_method_2_code
def yX7_in : MethodName := ⟨RX7, "in", "(III)Z"⟩
abbrev cX7_isTitle : ByteArray := prog_9_method_3_code
def yX7_isTitle : MethodName := ⟨RX7, "isTitle", "(I)Z"⟩
abbrev cX7_isReader : ByteArray := prog_9_method_4_code
def yX7_isReader : MethodName := ⟨RX7, "isReader", "(I)Z"⟩
abbrev cX7_isCopy : ByteArray := prog_9_method_5_code
def yX7_isCopy : MethodName := ⟨RX7, "isCopy", "(I)Z"⟩
abbrev cX7_isWish : ByteArray := prog_9_method_6_code
def yX7_isWish : MethodName := ⟨RX7, "isWish", "(I)Z"⟩
abbrev cX7_title : ByteArray := prog_9_method_7_code
def yX7_title : MethodName := ⟨RX7, "title", "(I)I"⟩
abbrev cX7_bargain : ByteArray := prog_9_method_8_code
def yX7_bargain : MethodName := ⟨RX7, "bargain", "(IIIII)Z"⟩
abbrev cX7_bargainOf : ByteArray := prog_9_method_9_code
def yX7_bargainOf : MethodName := ⟨RX7, "bargainOf", "(I)I"⟩
abbrev cX7_buy : ByteArray := prog_9_method_10_code
def yX7_buy : MethodName := ⟨RX7, "buy", "(II)I"⟩
abbrev cX7_sell : ByteArray := prog_9_method_11_code
def yX7_sell : MethodName := ⟨RX7, "sell", "(II)Z"⟩
abbrev cX7_reader : ByteArray := prog_9_method_12_code
def yX7_reader : MethodName := ⟨RX7, "reader", "(III)I"⟩
abbrev cX7_renew : ByteArray := prog_9_method_13_code
def yX7_renew : MethodName := ⟨RX7, "renew", "(II)Z"⟩
abbrev cX7_wish : ByteArray := prog_9_method_14_code
def yX7_wish : MethodName := ⟨RX7, "wish", "(II)I"⟩
abbrev cX7_unwish : ByteArray := prog_9_method_15_code
def yX7_unwish : MethodName := ⟨RX7, "unwish", "(I)Z"⟩
abbrev cX7_copyOf : ByteArray := prog_9_method_16_code
def yX7_copyOf : MethodName := ⟨RX7, "copyOf", "(I)I"⟩
abbrev cX7_waits : ByteArray := prog_9_method_17_code
def yX7_waits : MethodName := ⟨RX7, "waits", "(I)Z"⟩
abbrev cX7_holds : ByteArray := prog_9_method_18_code
def yX7_holds : MethodName := ⟨RX7, "holds", "(II)I"⟩
abbrev cX7_most : ByteArray := prog_9_method_19_code
def yX7_most : MethodName := ⟨RX7, "most", "(I)I"⟩
abbrev cX7_term : ByteArray := prog_9_method_20_code
def yX7_term : MethodName := ⟨RX7, "term", "(I)I"⟩
abbrev cX7_boxes : ByteArray := prog_9_method_21_code
def yX7_boxes : MethodName := ⟨RX7, "boxes", "()V"⟩
abbrev cX7_shelved : ByteArray := prog_9_method_22_code
def yX7_shelved : MethodName := ⟨RX7, "shelved", "(II)I"⟩
abbrev cX7_canHave : ByteArray := prog_9_method_23_code
def yX7_canHave : MethodName := ⟨RX7, "canHave", "(I)Z"⟩
abbrev cX7_turns : ByteArray := prog_9_method_24_code
def yX7_turns : MethodName := ⟨RX7, "turns", "()V"⟩
abbrev cX7_gets : ByteArray := prog_9_method_25_code
def yX7_gets : MethodName := ⟨RX7, "gets", "(I)V"⟩
abbrev cX7_go : ByteArray := prog_9_method_26_code
def yX7_go : MethodName := ⟨RX7, "go", "(I)I"⟩
abbrev cX7_had : ByteArray := prog_9_method_27_code
def yX7_had : MethodName := ⟨RX7, "had", "(I)V"⟩
abbrev cX7_late : ByteArray := prog_9_method_28_code
def yX7_late : MethodName := ⟨RX7, "late", "(I)I"⟩
abbrev cX7_back : ByteArray := prog_9_method_29_code
def yX7_back : MethodName := ⟨RX7, "back", "(I)I"⟩
abbrev cX7_lose : ByteArray := prog_9_method_30_code
def yX7_lose : MethodName := ⟨RX7, "lose", "(I)I"⟩
abbrev cX7_pay : ByteArray := prog_9_method_31_code
def yX7_pay : MethodName := ⟨RX7, "pay", "(II)I"⟩
abbrev cX7_copy : ByteArray := prog_9_method_32_code
def yX7_copy : MethodName := ⟨RX7, "copy", "(II)I"⟩
abbrev cX7_told : ByteArray := prog_9_method_33_code
def yX7_told : MethodName := ⟨RX7, "told", "(II)I"⟩
abbrev cX7_wished : ByteArray := prog_9_method_34_code
def yX7_wished : MethodName := ⟨RX7, "wished", "(II)I"⟩
abbrev cX7_waiting : ByteArray := prog_9_method_35_code
def yX7_waiting : MethodName := ⟨RX7, "waiting", "(II)I"⟩
abbrev cX7_sets : ByteArray := prog_9_method_36_code
def yX7_sets : MethodName := ⟨RX7, "sets", "(I)I"⟩
abbrev cX7_demand : ByteArray := prog_9_method_37_code
def yX7_demand : MethodName := ⟨RX7, "demand", "(III)Z"⟩
abbrev cX7_brings : ByteArray := prog_9_method_38_code
def yX7_brings : MethodName := ⟨RX7, "brings", "(III)I"⟩
abbrev cX7_weeksOf : ByteArray := prog_9_method_39_code
def yX7_weeksOf : MethodName := ⟨RX7, "weeksOf", "(II)I"⟩
abbrev cX7_isAny : ByteArray := prog_9_method_40_code
def yX7_isAny : MethodName := ⟨RX7, "isAny", "(II)Z"⟩
abbrev cX7_best : ByteArray := prog_9_method_41_code
def yX7_best : MethodName := ⟨RX7, "best", "(II)I"⟩
abbrev cX7_gain : ByteArray := prog_9_method_42_code
def yX7_gain : MethodName := ⟨RX7, "gain", "(II)I"⟩
abbrev cX7_kept : ByteArray := prog_9_method_43_code
def yX7_kept : MethodName := ⟨RX7, "kept", "(III)I"⟩
abbrev cX7_count : ByteArray := prog_9_method_44_code
def yX7_count : MethodName := ⟨RX7, "count", "(I)I"⟩
def RJ9 : String := "java/lang/Math"
def TJ9 : u_T := fun k => match k with
  | _ => ("", "", "", false)
def tyJ9 : Nat → FieldType := fun k => match k with
  | _ => .int
abbrev wsJ90 : List Cond := u_ws RJ9 TJ9 0
theorem nmJ9 : ∀ a, a < 0 → ∀ b, b < 0 → a ≠ b → (TJ9 a).2.1 ≠ (TJ9 b).2.1 := by decide +kernel
theorem tyJ9_ok : ∀ k, k < 0 → parseFieldDescriptor (TJ9 k).2.2.1 = some (tyJ9 k) := by decide +kernel
abbrev cJ9_max_7cf53 : ByteArray := prog_10_method_65_code
def yJ9_max_7cf53 : MethodName := ⟨RJ9, "max", "(II)I"⟩
abbrev cJ9_min_7cf53 : ByteArray := prog_10_method_69_code
def yJ9_min_7cf53 : MethodName := ⟨RJ9, "min", "(II)I"⟩
def RL : String := "VolumeHouseLaw"
abbrev cL_law : ByteArray := code
def yL_law : MethodName := ⟨RL, "law", "([I)Z"⟩
def wsX0_init : List Cond := .code yX0_init cX0_init 1 none :: ([.methodLink RX0 3 objectInit, .instanceMethod objectInit, .code objectInit ⟨#[0xb1]⟩ 1 none, .arrayClass .int, .fieldLink RX0 9 "VolumeHouse$Bargains" "title" "[I", .fieldLink RX0 15 "VolumeHouse$Bargains" "day" "[I", .fieldLink RX0 18 "VolumeHouse$Bargains" "atFirstPrice" "[I", .fieldLink RX0 21 "VolumeHouse$Bargains" "price" "[I", .fieldLink RX0 24 "VolumeHouse$Bargains" "priceBeyond" "[I", .fieldLink RX0 27 "VolumeHouse$Bargains" "came" "I"] ++ wsX00)
def wsX0_add : List Cond := .code yX0_add cX0_add 6 none :: ([.fieldLink RX0 9 "VolumeHouse$Bargains" "title" "[I", .fieldLink RX0 27 "VolumeHouse$Bargains" "came" "I", .fieldLink RX0 15 "VolumeHouse$Bargains" "day" "[I", .fieldLink RX0 18 "VolumeHouse$Bargains" "atFirstPrice" "[I", .fieldLink RX0 21 "VolumeHouse$Bargains" "price" "[I", .fieldLink RX0 24 "VolumeHouse$Bargains" "priceBeyond" "[I"] ++ wsX00)
def wsX0_inForce : List Cond := .code yX0_inForce cX0_inForce 5 (some .int) :: ([.fieldLink RX0 27 "VolumeHouse$Bargains" "came" "I", .fieldLink RX0 9 "VolumeHouse$Bargains" "title" "[I", .fieldLink RX0 15 "VolumeHouse$Bargains" "day" "[I"] ++ wsX00)
def wsX0_priceAt : List Cond := .code yX0_priceAt cX0_priceAt 3 (some .int) :: ([.fieldLink RX0 27 "VolumeHouse$Bargains" "came" "I", .fieldLink RX0 18 "VolumeHouse$Bargains" "atFirstPrice" "[I", .fieldLink RX0 21 "VolumeHouse$Bargains" "price" "[I", .fieldLink RX0 24 "VolumeHouse$Bargains" "priceBeyond" "[I"] ++ wsX00)
def wsX1_init : List Cond := .code yX1_init cX1_init 1 none :: ([.methodLink RX1 3 objectInit, .instanceMethod objectInit, .code objectInit ⟨#[0xb1]⟩ 1 none, .arrayClass .int, .fieldLink RX1 9 "VolumeHouse$Copies" "where" "[I", .fieldLink RX1 15 "VolumeHouse$Copies" "title" "[I", .fieldLink RX1 18 "VolumeHouse$Copies" "volume" "[I", .fieldLink RX1 21 "VolumeHouse$Copies" "cost" "[I", .fieldLink RX1 24 "VolumeHouse$Copies" "reader" "[I", .fieldLink RX1 27 "VolumeHouse$Copies" "wish" "[I", .fieldLink RX1 30 "VolumeHouse$Copies" "since" "[I", .fieldLink RX1 33 "VolumeHouse$Copies" "daysToGo" "[I", .fieldLink RX1 36 "VolumeHouse$Copies" "timesLent" "[I", .fieldLink RX1 39 "VolumeHouse$Copies" "shelved" "[I", .fieldLink RX1 42 "VolumeHouse$Copies" "came" "I", .fieldLink RX1 46 "VolumeHouse$Copies" "inBoxes" "I", .fieldLink RX1 49 "VolumeHouse$Copies" "lost" "I"] ++ wsX10)
def wsX1_has : List Cond := .code yX1_has cX1_has 2 (some .boolean) :: ([.fieldLink RX1 42 "VolumeHouse$Copies" "came" "I"] ++ wsX10)
def wsX1_isAt : List Cond := .code yX1_isAt cX1_isAt 3 (some .boolean) :: ([.fieldLink RX1 9 "VolumeHouse$Copies" "where" "[I", .methodLink RX1 52 yX1_has, .instanceMethod yX1_has, .selects RX1 yX1_has yX1_has, .initialized RX1, .code yX1_has cX1_has 2 (some .boolean), .fieldLink RX1 42 "VolumeHouse$Copies" "came" "I"] ++ wsX10)
def wsX1_slot : List Cond := .code yX1_slot cX1_slot 3 (some .int) :: ([])
def wsX1_inBox : List Cond := .code yX1_inBox cX1_inBox 2 (some .boolean) :: ([.fieldLink RX1 9 "VolumeHouse$Copies" "where" "[I"] ++ wsX10)
def wsX1_tally : List Cond := .code yX1_tally cX1_tally 4 none :: ([.fieldLink RX1 15 "VolumeHouse$Copies" "title" "[I", .fieldLink RX1 18 "VolumeHouse$Copies" "volume" "[I", .fieldLink RX1 9 "VolumeHouse$Copies" "where" "[I", .fieldLink RX1 39 "VolumeHouse$Copies" "shelved" "[I", .fieldLink RX1 46 "VolumeHouse$Copies" "inBoxes" "I", .fieldLink RX1 49 "VolumeHouse$Copies" "lost" "I", .methodLink RX1 60 yX1_slot, .instanceMethod yX1_slot, .selects RX1 yX1_slot yX1_slot, .initialized RX1, .code yX1_slot cX1_slot 3 (some .int), .methodLink RX1 71 yX1_inBox, .instanceMethod yX1_inBox, .selects RX1 yX1_inBox yX1_inBox, .code yX1_inBox cX1_inBox 2 (some .boolean)] ++ wsX10)
def wsX1_moveTo : List Cond := .code yX1_moveTo cX1_moveTo 3 none :: ([.fieldLink RX1 9 "VolumeHouse$Copies" "where" "[I", .methodLink RX1 74 yX1_tally, .instanceMethod yX1_tally, .selects RX1 yX1_tally yX1_tally, .initialized RX1, .code yX1_tally cX1_tally 4 none, .fieldLink RX1 15 "VolumeHouse$Copies" "title" "[I", .fieldLink RX1 18 "VolumeHouse$Copies" "volume" "[I", .fieldLink RX1 39 "VolumeHouse$Copies" "shelved" "[I", .fieldLink RX1 46 "VolumeHouse$Copies" "inBoxes" "I", .fieldLink RX1 49 "VolumeHouse$Copies" "lost" "I", .methodLink RX1 60 yX1_slot, .instanceMethod yX1_slot, .selects RX1 yX1_slot yX1_slot, .code yX1_slot cX1_slot 3 (some .int), .methodLink RX1 71 yX1_inBox, .instanceMethod yX1_inBox, .selects RX1 yX1_inBox yX1_inBox, .code yX1_inBox cX1_inBox 2 (some .boolean)] ++ wsX10)
def wsX1_belongToNobody : List Cond := .code yX1_belongToNobody cX1_belongToNobody 2 none :: ([.fieldLink RX1 24 "VolumeHouse$Copies" "reader" "[I", .fieldLink RX1 27 "VolumeHouse$Copies" "wish" "[I", .fieldLink RX1 30 "VolumeHouse$Copies" "since" "[I", .fieldLink RX1 33 "VolumeHouse$Copies" "daysToGo" "[I"] ++ wsX10)
def wsX1_shelve_r1 : List Cond := [Cond.methodLink RX1 64 yX1_moveTo, Cond.instanceMethod yX1_moveTo, Cond.selects RX1 yX1_moveTo yX1_moveTo, Cond.initialized RX1, Cond.code yX1_moveTo cX1_moveTo 3 none, Cond.fieldLink RX1 9 "VolumeHouse$Copies" "where" "[I", Cond.methodLink RX1 74 yX1_tally, Cond.instanceMethod yX1_tally, Cond.selects RX1 yX1_tally yX1_tally, Cond.code yX1_tally cX1_tally 4 none, Cond.fieldLink RX1 15 "VolumeHouse$Copies" "title" "[I", Cond.fieldLink RX1 18 "VolumeHouse$Copies" "volume" "[I", Cond.fieldLink RX1 39 "VolumeHouse$Copies" "shelved" "[I", Cond.fieldLink RX1 46 "VolumeHouse$Copies" "inBoxes" "I", Cond.fieldLink RX1 49 "VolumeHouse$Copies" "lost" "I", Cond.methodLink RX1 60 yX1_slot, Cond.instanceMethod yX1_slot, Cond.selects RX1 yX1_slot yX1_slot, Cond.code yX1_slot cX1_slot 3 (some .int), Cond.methodLink RX1 71 yX1_inBox, Cond.instanceMethod yX1_inBox, Cond.selects RX1 yX1_inBox yX1_inBox, Cond.code yX1_inBox cX1_inBox 2 (some .boolean), Cond.methodLink RX1 68 yX1_belongToNobody]
def wsX1_shelve_r2 : List Cond := [Cond.instanceMethod yX1_belongToNobody, Cond.selects RX1 yX1_belongToNobody yX1_belongToNobody, Cond.code yX1_belongToNobody cX1_belongToNobody 2 none, Cond.fieldLink RX1 24 "VolumeHouse$Copies" "reader" "[I", Cond.fieldLink RX1 27 "VolumeHouse$Copies" "wish" "[I", Cond.fieldLink RX1 30 "VolumeHouse$Copies" "since" "[I", Cond.fieldLink RX1 33 "VolumeHouse$Copies" "daysToGo" "[I"]
def wsX1_shelve : List Cond := .code yX1_shelve cX1_shelve 2 none :: ((wsX1_shelve_r1 ++ wsX1_shelve_r2) ++ wsX10)
def wsX1_add_r1 : List Cond := [Cond.fieldLink RX1 42 "VolumeHouse$Copies" "came" "I", Cond.fieldLink RX1 15 "VolumeHouse$Copies" "title" "[I", Cond.fieldLink RX1 18 "VolumeHouse$Copies" "volume" "[I", Cond.fieldLink RX1 21 "VolumeHouse$Copies" "cost" "[I", Cond.fieldLink RX1 9 "VolumeHouse$Copies" "where" "[I", Cond.fieldLink RX1 36 "VolumeHouse$Copies" "timesLent" "[I", Cond.methodLink RX1 56 yX1_shelve, Cond.instanceMethod yX1_shelve, Cond.selects RX1 yX1_shelve yX1_shelve, Cond.initialized RX1, Cond.code yX1_shelve cX1_shelve 2 none, Cond.methodLink RX1 64 yX1_moveTo, Cond.instanceMethod yX1_moveTo, Cond.selects RX1 yX1_moveTo yX1_moveTo, Cond.code yX1_moveTo cX1_moveTo 3 none, Cond.methodLink RX1 74 yX1_tally, Cond.instanceMethod yX1_tally, Cond.selects RX1 yX1_tally yX1_tally, Cond.code yX1_tally cX1_tally 4 none, Cond.fieldLink RX1 39 "VolumeHouse$Copies" "shelved" "[I", Cond.fieldLink RX1 46 "VolumeHouse$Copies" "inBoxes" "I", Cond.fieldLink RX1 49 "VolumeHouse$Copies" "lost" "I", Cond.methodLink RX1 60 yX1_slot, Cond.instanceMethod yX1_slot]
def wsX1_add_r2 : List Cond := [Cond.selects RX1 yX1_slot yX1_slot, Cond.code yX1_slot cX1_slot 3 (some .int), Cond.methodLink RX1 71 yX1_inBox, Cond.instanceMethod yX1_inBox, Cond.selects RX1 yX1_inBox yX1_inBox, Cond.code yX1_inBox cX1_inBox 2 (some .boolean), Cond.methodLink RX1 68 yX1_belongToNobody, Cond.instanceMethod yX1_belongToNobody, Cond.selects RX1 yX1_belongToNobody yX1_belongToNobody, Cond.code yX1_belongToNobody cX1_belongToNobody 2 none, Cond.fieldLink RX1 24 "VolumeHouse$Copies" "reader" "[I", Cond.fieldLink RX1 27 "VolumeHouse$Copies" "wish" "[I", Cond.fieldLink RX1 30 "VolumeHouse$Copies" "since" "[I", Cond.fieldLink RX1 33 "VolumeHouse$Copies" "daysToGo" "[I"]
def wsX1_add : List Cond := .code yX1_add cX1_add 5 none :: ((wsX1_add_r1 ++ wsX1_add_r2) ++ wsX10)
def wsX1_onShelf : List Cond := .code yX1_onShelf cX1_onShelf 4 (some .int) :: ([.fieldLink RX1 39 "VolumeHouse$Copies" "shelved" "[I", .methodLink RX1 60 yX1_slot, .instanceMethod yX1_slot, .selects RX1 yX1_slot yX1_slot, .initialized RX1, .code yX1_slot cX1_slot 3 (some .int)] ++ wsX10)
def wsX1_leastOnShelf : List Cond := .code yX1_leastOnShelf cX1_leastOnShelf 4 (some .int) :: ([.fieldLink RX1 42 "VolumeHouse$Copies" "came" "I", .fieldLink RX1 9 "VolumeHouse$Copies" "where" "[I", .fieldLink RX1 15 "VolumeHouse$Copies" "title" "[I", .fieldLink RX1 18 "VolumeHouse$Copies" "volume" "[I"] ++ wsX10)
def wsX1_inHouse : List Cond := .code yX1_inHouse cX1_inHouse 5 (some .int) :: ([.fieldLink RX1 42 "VolumeHouse$Copies" "came" "I", .fieldLink RX1 15 "VolumeHouse$Copies" "title" "[I", .fieldLink RX1 18 "VolumeHouse$Copies" "volume" "[I", .fieldLink RX1 9 "VolumeHouse$Copies" "where" "[I"] ++ wsX10)
def wsX1_leaveFor_r1 : List Cond := [Cond.methodLink RX1 64 yX1_moveTo, Cond.instanceMethod yX1_moveTo, Cond.selects RX1 yX1_moveTo yX1_moveTo, Cond.initialized RX1, Cond.code yX1_moveTo cX1_moveTo 3 none, Cond.fieldLink RX1 9 "VolumeHouse$Copies" "where" "[I", Cond.methodLink RX1 74 yX1_tally, Cond.instanceMethod yX1_tally, Cond.selects RX1 yX1_tally yX1_tally, Cond.code yX1_tally cX1_tally 4 none, Cond.fieldLink RX1 15 "VolumeHouse$Copies" "title" "[I", Cond.fieldLink RX1 18 "VolumeHouse$Copies" "volume" "[I", Cond.fieldLink RX1 39 "VolumeHouse$Copies" "shelved" "[I", Cond.fieldLink RX1 46 "VolumeHouse$Copies" "inBoxes" "I", Cond.fieldLink RX1 49 "VolumeHouse$Copies" "lost" "I", Cond.methodLink RX1 60 yX1_slot, Cond.instanceMethod yX1_slot, Cond.selects RX1 yX1_slot yX1_slot, Cond.code yX1_slot cX1_slot 3 (some .int), Cond.methodLink RX1 71 yX1_inBox, Cond.instanceMethod yX1_inBox, Cond.selects RX1 yX1_inBox yX1_inBox, Cond.code yX1_inBox cX1_inBox 2 (some .boolean), Cond.methodLink RX1 68 yX1_belongToNobody]
def wsX1_leaveFor_r2 : List Cond := [Cond.instanceMethod yX1_belongToNobody, Cond.selects RX1 yX1_belongToNobody yX1_belongToNobody, Cond.code yX1_belongToNobody cX1_belongToNobody 2 none, Cond.fieldLink RX1 24 "VolumeHouse$Copies" "reader" "[I", Cond.fieldLink RX1 27 "VolumeHouse$Copies" "wish" "[I", Cond.fieldLink RX1 30 "VolumeHouse$Copies" "since" "[I", Cond.fieldLink RX1 33 "VolumeHouse$Copies" "daysToGo" "[I"]
def wsX1_leaveFor : List Cond := .code yX1_leaveFor cX1_leaveFor 3 none :: ((wsX1_leaveFor_r1 ++ wsX1_leaveFor_r2) ++ wsX10)
def wsX1_lend : List Cond := .code yX1_lend cX1_lend 4 none :: ([.fieldLink RX1 24 "VolumeHouse$Copies" "reader" "[I", .fieldLink RX1 27 "VolumeHouse$Copies" "wish" "[I", .fieldLink RX1 36 "VolumeHouse$Copies" "timesLent" "[I"] ++ wsX10)
def wsX1_handOver_r1 : List Cond := [Cond.fieldLink RX1 30 "VolumeHouse$Copies" "since" "[I", Cond.fieldLink RX1 33 "VolumeHouse$Copies" "daysToGo" "[I", Cond.methodLink RX1 64 yX1_moveTo, Cond.instanceMethod yX1_moveTo, Cond.selects RX1 yX1_moveTo yX1_moveTo, Cond.initialized RX1, Cond.code yX1_moveTo cX1_moveTo 3 none, Cond.fieldLink RX1 9 "VolumeHouse$Copies" "where" "[I", Cond.methodLink RX1 74 yX1_tally, Cond.instanceMethod yX1_tally, Cond.selects RX1 yX1_tally yX1_tally, Cond.code yX1_tally cX1_tally 4 none, Cond.fieldLink RX1 15 "VolumeHouse$Copies" "title" "[I", Cond.fieldLink RX1 18 "VolumeHouse$Copies" "volume" "[I", Cond.fieldLink RX1 39 "VolumeHouse$Copies" "shelved" "[I", Cond.fieldLink RX1 46 "VolumeHouse$Copies" "inBoxes" "I", Cond.fieldLink RX1 49 "VolumeHouse$Copies" "lost" "I", Cond.methodLink RX1 60 yX1_slot, Cond.instanceMethod yX1_slot, Cond.selects RX1 yX1_slot yX1_slot, Cond.code yX1_slot cX1_slot 3 (some .int), Cond.methodLink RX1 71 yX1_inBox, Cond.instanceMethod yX1_inBox, Cond.selects RX1 yX1_inBox yX1_inBox]
def wsX1_handOver_r2 : List Cond := [Cond.code yX1_inBox cX1_inBox 2 (some .boolean)]
def wsX1_handOver : List Cond := .code yX1_handOver cX1_handOver 3 none :: ((wsX1_handOver_r1 ++ wsX1_handOver_r2) ++ wsX10)
def wsX1_sendOut : List Cond := .code yX1_sendOut cX1_sendOut 3 none :: ([.fieldLink RX1 33 "VolumeHouse$Copies" "daysToGo" "[I", .methodLink RX1 64 yX1_moveTo, .instanceMethod yX1_moveTo, .selects RX1 yX1_moveTo yX1_moveTo, .initialized RX1, .code yX1_moveTo cX1_moveTo 3 none, .fieldLink RX1 9 "VolumeHouse$Copies" "where" "[I", .methodLink RX1 74 yX1_tally, .instanceMethod yX1_tally, .selects RX1 yX1_tally yX1_tally, .code yX1_tally cX1_tally 4 none, .fieldLink RX1 15 "VolumeHouse$Copies" "title" "[I", .fieldLink RX1 18 "VolumeHouse$Copies" "volume" "[I", .fieldLink RX1 39 "VolumeHouse$Copies" "shelved" "[I", .fieldLink RX1 46 "VolumeHouse$Copies" "inBoxes" "I", .fieldLink RX1 49 "VolumeHouse$Copies" "lost" "I", .methodLink RX1 60 yX1_slot, .instanceMethod yX1_slot, .selects RX1 yX1_slot yX1_slot, .code yX1_slot cX1_slot 3 (some .int), .methodLink RX1 71 yX1_inBox, .instanceMethod yX1_inBox, .selects RX1 yX1_inBox yX1_inBox, .code yX1_inBox cX1_inBox 2 (some .boolean)] ++ wsX10)
def wsX1_sendBack_r1 : List Cond := [Cond.fieldLink RX1 27 "VolumeHouse$Copies" "wish" "[I", Cond.fieldLink RX1 30 "VolumeHouse$Copies" "since" "[I", Cond.fieldLink RX1 33 "VolumeHouse$Copies" "daysToGo" "[I", Cond.methodLink RX1 64 yX1_moveTo, Cond.instanceMethod yX1_moveTo, Cond.selects RX1 yX1_moveTo yX1_moveTo, Cond.initialized RX1, Cond.code yX1_moveTo cX1_moveTo 3 none, Cond.fieldLink RX1 9 "VolumeHouse$Copies" "where" "[I", Cond.methodLink RX1 74 yX1_tally, Cond.instanceMethod yX1_tally, Cond.selects RX1 yX1_tally yX1_tally, Cond.code yX1_tally cX1_tally 4 none, Cond.fieldLink RX1 15 "VolumeHouse$Copies" "title" "[I", Cond.fieldLink RX1 18 "VolumeHouse$Copies" "volume" "[I", Cond.fieldLink RX1 39 "VolumeHouse$Copies" "shelved" "[I", Cond.fieldLink RX1 46 "VolumeHouse$Copies" "inBoxes" "I", Cond.fieldLink RX1 49 "VolumeHouse$Copies" "lost" "I", Cond.methodLink RX1 60 yX1_slot, Cond.instanceMethod yX1_slot, Cond.selects RX1 yX1_slot yX1_slot, Cond.code yX1_slot cX1_slot 3 (some .int), Cond.methodLink RX1 71 yX1_inBox, Cond.instanceMethod yX1_inBox]
def wsX1_sendBack_r2 : List Cond := [Cond.selects RX1 yX1_inBox yX1_inBox, Cond.code yX1_inBox cX1_inBox 2 (some .boolean)]
def wsX1_sendBack : List Cond := .code yX1_sendBack cX1_sendBack 3 none :: ((wsX1_sendBack_r1 ++ wsX1_sendBack_r2) ++ wsX10)
def wsX1_comesToday : List Cond := .code yX1_comesToday cX1_comesToday 2 (some .boolean) :: ([.fieldLink RX1 33 "VolumeHouse$Copies" "daysToGo" "[I", .methodLink RX1 71 yX1_inBox, .instanceMethod yX1_inBox, .selects RX1 yX1_inBox yX1_inBox, .initialized RX1, .code yX1_inBox cX1_inBox 2 (some .boolean), .fieldLink RX1 9 "VolumeHouse$Copies" "where" "[I"] ++ wsX10)
def wsX2_init : List Cond := .code yX2_init cX2_init 1 none :: ([.methodLink RX2 3 objectInit, .instanceMethod objectInit, .code objectInit ⟨#[0xb1]⟩ 1 none, .arrayClass .int, .fieldLink RX2 9 "VolumeHouse$Demands" "wanted" "[I", .fieldLink RX2 15 "VolumeHouse$Demands" "sale" "[I"] ++ wsX20)
def wsX2_gainIn : List Cond := .code yX2_gainIn cX2_gainIn 4 (some .int) :: ([.fieldLink RX2 9 "VolumeHouse$Demands" "wanted" "[I"] ++ wsX20)
def wsX2_mostOf : List Cond := .code yX2_mostOf cX2_mostOf 6 (some .int) :: ([.fieldLink RX2 15 "VolumeHouse$Demands" "sale" "[I", .methodLink RX2 26 Lib.Math.max.name, .static Lib.Math.max.name, .initialized "java/lang/Math", .code Lib.Math.max.name Lib.Math.max.code 2 (some .int), .methodLink RX2 22 yX2_gainIn, .instanceMethod yX2_gainIn, .selects RX2 yX2_gainIn yX2_gainIn, .initialized RX2, .code yX2_gainIn cX2_gainIn 4 (some .int), .fieldLink RX2 9 "VolumeHouse$Demands" "wanted" "[I"] ++ wsX20)
def wsX2_setsToBuy : List Cond := .code yX2_setsToBuy cX2_setsToBuy 4 (some .int) :: ([.methodLink RX2 18 yX2_mostOf, .instanceMethod yX2_mostOf, .selects RX2 yX2_mostOf yX2_mostOf, .initialized RX2, .code yX2_mostOf cX2_mostOf 6 (some .int), .fieldLink RX2 15 "VolumeHouse$Demands" "sale" "[I", .methodLink RX2 26 Lib.Math.max.name, .static Lib.Math.max.name, .initialized "java/lang/Math", .code Lib.Math.max.name Lib.Math.max.code 2 (some .int), .methodLink RX2 22 yX2_gainIn, .instanceMethod yX2_gainIn, .selects RX2 yX2_gainIn yX2_gainIn, .code yX2_gainIn cX2_gainIn 4 (some .int), .fieldLink RX2 9 "VolumeHouse$Demands" "wanted" "[I"] ++ wsX20)
def wsX2_weeksOf : List Cond := .code yX2_weeksOf cX2_weeksOf 6 (some .int) :: ([.fieldLink RX2 15 "VolumeHouse$Demands" "sale" "[I", .methodLink RX2 18 yX2_mostOf, .instanceMethod yX2_mostOf, .selects RX2 yX2_mostOf yX2_mostOf, .initialized RX2, .code yX2_mostOf cX2_mostOf 6 (some .int), .methodLink RX2 26 Lib.Math.max.name, .static Lib.Math.max.name, .initialized "java/lang/Math", .code Lib.Math.max.name Lib.Math.max.code 2 (some .int), .methodLink RX2 22 yX2_gainIn, .instanceMethod yX2_gainIn, .selects RX2 yX2_gainIn yX2_gainIn, .code yX2_gainIn cX2_gainIn 4 (some .int), .fieldLink RX2 9 "VolumeHouse$Demands" "wanted" "[I"] ++ wsX20)
def wsX3_init : List Cond := .code yX3_init cX3_init 1 none :: ([.methodLink RX3 3 objectInit, .instanceMethod objectInit, .code objectInit ⟨#[0xb1]⟩ 1 none, .arrayClass .int, .fieldLink RX3 9 "VolumeHouse$Readers" "rank" "[I", .fieldLink RX3 15 "VolumeHouse$Readers" "boxDays" "[I", .fieldLink RX3 18 "VolumeHouse$Readers" "last" "[I", .fieldLink RX3 21 "VolumeHouse$Readers" "owed" "[I", .fieldLink RX3 24 "VolumeHouse$Readers" "inHand" "[I", .fieldLink RX3 27 "VolumeHouse$Readers" "inBoxes" "[I", .fieldLink RX3 30 "VolumeHouse$Readers" "came" "I"] ++ wsX30)
def wsX3_has : List Cond := .code yX3_has cX3_has 2 (some .boolean) :: ([.fieldLink RX3 30 "VolumeHouse$Readers" "came" "I"] ++ wsX30)
def wsX3_add : List Cond := .code yX3_add cX3_add 4 (some .int) :: ([.fieldLink RX3 9 "VolumeHouse$Readers" "rank" "[I", .fieldLink RX3 30 "VolumeHouse$Readers" "came" "I", .fieldLink RX3 15 "VolumeHouse$Readers" "boxDays" "[I", .fieldLink RX3 18 "VolumeHouse$Readers" "last" "[I"] ++ wsX30)
def wsX3_rankOf : List Cond := .code yX3_rankOf cX3_rankOf 2 (some .int) :: ([.fieldLink RX3 9 "VolumeHouse$Readers" "rank" "[I", .methodLink RX3 34 yX3_has, .instanceMethod yX3_has, .selects RX3 yX3_has yX3_has, .initialized RX3, .code yX3_has cX3_has 2 (some .boolean), .fieldLink RX3 30 "VolumeHouse$Readers" "came" "I"] ++ wsX30)
def wsX3_mayTake : List Cond := .code yX3_mayTake cX3_mayTake 3 (some .boolean) :: ([.fieldLink RX3 18 "VolumeHouse$Readers" "last" "[I", .fieldLink RX3 24 "VolumeHouse$Readers" "inHand" "[I", .fieldLink RX3 27 "VolumeHouse$Readers" "inBoxes" "[I", .fieldLink RX3 9 "VolumeHouse$Readers" "rank" "[I", .methodLink RX3 34 yX3_has, .instanceMethod yX3_has, .selects RX3 yX3_has yX3_has, .initialized RX3, .code yX3_has cX3_has 2 (some .boolean), .fieldLink RX3 30 "VolumeHouse$Readers" "came" "I"] ++ wsX30)
def wsX3_lateCost : List Cond := .code yX3_lateCost cX3_lateCost 4 (some .int) :: ([.methodLink RX3 48 Lib.Math.max.name, .static Lib.Math.max.name, .initialized "java/lang/Math", .code Lib.Math.max.name Lib.Math.max.code 2 (some .int), .methodLink RX3 41 yX3_rankOf, .instanceMethod yX3_rankOf, .selects RX3 yX3_rankOf yX3_rankOf, .initialized RX3, .code yX3_rankOf cX3_rankOf 2 (some .int), .fieldLink RX3 9 "VolumeHouse$Readers" "rank" "[I", .methodLink RX3 34 yX3_has, .instanceMethod yX3_has, .selects RX3 yX3_has yX3_has, .code yX3_has cX3_has 2 (some .boolean), .fieldLink RX3 30 "VolumeHouse$Readers" "came" "I"] ++ wsX30)
def wsX4_init : List Cond := .code yX4_init cX4_init 1 none :: ([.methodLink RX4 3 objectInit, .instanceMethod objectInit, .code objectInit ⟨#[0xb1]⟩ 1 none, .arrayClass .int, .fieldLink RX4 9 "VolumeHouse$Titles" "volumes" "[I", .fieldLink RX4 15 "VolumeHouse$Titles" "came" "I"] ++ wsX40)
def wsX4_has : List Cond := .code yX4_has cX4_has 2 (some .boolean) :: ([.fieldLink RX4 15 "VolumeHouse$Titles" "came" "I"] ++ wsX40)
def wsX4_volumesOf : List Cond := .code yX4_volumesOf cX4_volumesOf 2 (some .int) :: ([.fieldLink RX4 9 "VolumeHouse$Titles" "volumes" "[I", .methodLink RX4 23 yX4_has, .instanceMethod yX4_has, .selects RX4 yX4_has yX4_has, .initialized RX4, .code yX4_has cX4_has 2 (some .boolean), .fieldLink RX4 15 "VolumeHouse$Titles" "came" "I"] ++ wsX40)
def wsX4_hasVolume : List Cond := .code yX4_hasVolume cX4_hasVolume 3 (some .boolean) :: ([.methodLink RX4 19 yX4_volumesOf, .instanceMethod yX4_volumesOf, .selects RX4 yX4_volumesOf yX4_volumesOf, .initialized RX4, .code yX4_volumesOf cX4_volumesOf 2 (some .int), .fieldLink RX4 9 "VolumeHouse$Titles" "volumes" "[I", .methodLink RX4 23 yX4_has, .instanceMethod yX4_has, .selects RX4 yX4_has yX4_has, .code yX4_has cX4_has 2 (some .boolean), .fieldLink RX4 15 "VolumeHouse$Titles" "came" "I"] ++ wsX40)
def wsX4_add : List Cond := .code yX4_add cX4_add 2 (some .int) :: ([.fieldLink RX4 9 "VolumeHouse$Titles" "volumes" "[I", .fieldLink RX4 15 "VolumeHouse$Titles" "came" "I"] ++ wsX40)
def wsX5_init : List Cond := .code yX5_init cX5_init 1 none :: ([.methodLink RX5 3 objectInit, .instanceMethod objectInit, .code objectInit ⟨#[0xb1]⟩ 1 none, .arrayClass .int, .fieldLink RX5 9 "VolumeHouse$Wishes" "reader" "[I", .fieldLink RX5 15 "VolumeHouse$Wishes" "title" "[I", .fieldLink RX5 18 "VolumeHouse$Wishes" "state" "[I", .fieldLink RX5 21 "VolumeHouse$Wishes" "had" "[I", .fieldLink RX5 24 "VolumeHouse$Wishes" "held" "[I", .fieldLink RX5 27 "VolumeHouse$Wishes" "since" "[I", .fieldLink RX5 30 "VolumeHouse$Wishes" "came" "I"] ++ wsX50)
def wsX5_has : List Cond := .code yX5_has cX5_has 2 (some .boolean) :: ([.fieldLink RX5 30 "VolumeHouse$Wishes" "came" "I"] ++ wsX50)
def wsX5_isOpen : List Cond := .code yX5_isOpen cX5_isOpen 2 (some .boolean) :: ([.fieldLink RX5 18 "VolumeHouse$Wishes" "state" "[I", .methodLink RX5 34 yX5_has, .instanceMethod yX5_has, .selects RX5 yX5_has yX5_has, .initialized RX5, .code yX5_has cX5_has 2 (some .boolean), .fieldLink RX5 30 "VolumeHouse$Wishes" "came" "I"] ++ wsX50)
def wsX5_waits : List Cond := .code yX5_waits cX5_waits 2 (some .boolean) :: ([.fieldLink RX5 24 "VolumeHouse$Wishes" "held" "[I", .methodLink RX5 38 yX5_isOpen, .instanceMethod yX5_isOpen, .selects RX5 yX5_isOpen yX5_isOpen, .initialized RX5, .code yX5_isOpen cX5_isOpen 2 (some .boolean), .fieldLink RX5 18 "VolumeHouse$Wishes" "state" "[I", .methodLink RX5 34 yX5_has, .instanceMethod yX5_has, .selects RX5 yX5_has yX5_has, .code yX5_has cX5_has 2 (some .boolean), .fieldLink RX5 30 "VolumeHouse$Wishes" "came" "I"] ++ wsX50)
def wsX5_add : List Cond := .code yX5_add cX5_add 5 (some .int) :: ([.fieldLink RX5 30 "VolumeHouse$Wishes" "came" "I", .fieldLink RX5 9 "VolumeHouse$Wishes" "reader" "[I", .fieldLink RX5 15 "VolumeHouse$Wishes" "title" "[I", .fieldLink RX5 18 "VolumeHouse$Wishes" "state" "[I", .fieldLink RX5 21 "VolumeHouse$Wishes" "had" "[I", .fieldLink RX5 24 "VolumeHouse$Wishes" "held" "[I", .fieldLink RX5 27 "VolumeHouse$Wishes" "since" "[I"] ++ wsX50)
def wsX5_hasOpen : List Cond := .code yX5_hasOpen cX5_hasOpen 4 (some .boolean) :: ([.fieldLink RX5 30 "VolumeHouse$Wishes" "came" "I", .fieldLink RX5 18 "VolumeHouse$Wishes" "state" "[I", .fieldLink RX5 9 "VolumeHouse$Wishes" "reader" "[I", .fieldLink RX5 15 "VolumeHouse$Wishes" "title" "[I"] ++ wsX50)
def wsX5_openOf : List Cond := .code yX5_openOf cX5_openOf 4 (some .int) :: ([.fieldLink RX5 30 "VolumeHouse$Wishes" "came" "I", .fieldLink RX5 18 "VolumeHouse$Wishes" "state" "[I", .fieldLink RX5 9 "VolumeHouse$Wishes" "reader" "[I"] ++ wsX50)
def wsX5_waitingFor : List Cond := .code yX5_waitingFor cX5_waitingFor 5 (some .int) :: ([.fieldLink RX5 30 "VolumeHouse$Wishes" "came" "I", .fieldLink RX5 15 "VolumeHouse$Wishes" "title" "[I", .fieldLink RX5 21 "VolumeHouse$Wishes" "had" "[I", .methodLink RX5 41 yX5_waits, .instanceMethod yX5_waits, .selects RX5 yX5_waits yX5_waits, .initialized RX5, .code yX5_waits cX5_waits 2 (some .boolean), .fieldLink RX5 24 "VolumeHouse$Wishes" "held" "[I", .methodLink RX5 38 yX5_isOpen, .instanceMethod yX5_isOpen, .selects RX5 yX5_isOpen yX5_isOpen, .code yX5_isOpen cX5_isOpen 2 (some .boolean), .fieldLink RX5 18 "VolumeHouse$Wishes" "state" "[I", .methodLink RX5 34 yX5_has, .instanceMethod yX5_has, .selects RX5 yX5_has yX5_has, .code yX5_has cX5_has 2 (some .boolean)] ++ wsX50)
def wsX5_countAsHad : List Cond := .code yX5_countAsHad cX5_countAsHad 4 none :: ([.fieldLink RX5 24 "VolumeHouse$Wishes" "held" "[I", .fieldLink RX5 21 "VolumeHouse$Wishes" "had" "[I", .fieldLink RX5 27 "VolumeHouse$Wishes" "since" "[I", .fieldLink RX5 18 "VolumeHouse$Wishes" "state" "[I"] ++ wsX50)
def wsX6_init_r1 : List Cond := [Cond.methodLink RX6 1 objectInit, Cond.instanceMethod objectInit, Cond.code objectInit ⟨#[0xb1]⟩ 1 none, Cond.classLink RX6 7 RX4, Cond.instantiable RX4 2, Cond.initialized RX4, Cond.fieldLink RX6 10 "VolumeHouse" "titles" "LVolumeHouse$Titles;", Cond.classLink RX6 16 RX0, Cond.instantiable RX0 6, Cond.initialized RX0, Cond.fieldLink RX6 19 "VolumeHouse" "bargains" "LVolumeHouse$Bargains;", Cond.classLink RX6 23 RX1, Cond.instantiable RX1 13, Cond.initialized RX1, Cond.fieldLink RX6 26 "VolumeHouse" "copies" "LVolumeHouse$Copies;", Cond.classLink RX6 30 RX3, Cond.instantiable RX3 7, Cond.initialized RX3, Cond.fieldLink RX6 33 "VolumeHouse" "readers" "LVolumeHouse$Readers;", Cond.classLink RX6 37 RX5, Cond.instantiable RX5 7, Cond.initialized RX5, Cond.fieldLink RX6 40 "VolumeHouse" "wishes" "LVolumeHouse$Wishes;", Cond.classLink RX6 44 RX2]
def wsX6_init_r2 : List Cond := [Cond.instantiable RX2 2, Cond.initialized RX2, Cond.fieldLink RX6 47 "VolumeHouse" "demands" "LVolumeHouse$Demands;", Cond.fieldLink RX6 51 "VolumeHouse" "now" "I", Cond.fieldLink RX6 55 "VolumeHouse" "spent" "I", Cond.fieldLink RX6 58 "VolumeHouse" "earned" "I", Cond.fieldLink RX6 61 "VolumeHouse" "paid" "I", Cond.instanceMethod yX4_init, Cond.code yX4_init cX4_init 1 none, Cond.methodLink RX4 3 objectInit, Cond.arrayClass .int, Cond.fieldLink RX4 9 "VolumeHouse$Titles" "volumes" "[I", Cond.fieldLink RX4 15 "VolumeHouse$Titles" "came" "I", Cond.instanceMethod yX0_init, Cond.code yX0_init cX0_init 1 none, Cond.methodLink RX0 3 objectInit, Cond.fieldLink RX0 9 "VolumeHouse$Bargains" "title" "[I", Cond.fieldLink RX0 15 "VolumeHouse$Bargains" "day" "[I", Cond.fieldLink RX0 18 "VolumeHouse$Bargains" "atFirstPrice" "[I", Cond.fieldLink RX0 21 "VolumeHouse$Bargains" "price" "[I", Cond.fieldLink RX0 24 "VolumeHouse$Bargains" "priceBeyond" "[I", Cond.fieldLink RX0 27 "VolumeHouse$Bargains" "came" "I", Cond.instanceMethod yX1_init, Cond.code yX1_init cX1_init 1 none]
def wsX6_init_r3 : List Cond := [Cond.methodLink RX1 3 objectInit, Cond.fieldLink RX1 9 "VolumeHouse$Copies" "where" "[I", Cond.fieldLink RX1 15 "VolumeHouse$Copies" "title" "[I", Cond.fieldLink RX1 18 "VolumeHouse$Copies" "volume" "[I", Cond.fieldLink RX1 21 "VolumeHouse$Copies" "cost" "[I", Cond.fieldLink RX1 24 "VolumeHouse$Copies" "reader" "[I", Cond.fieldLink RX1 27 "VolumeHouse$Copies" "wish" "[I", Cond.fieldLink RX1 30 "VolumeHouse$Copies" "since" "[I", Cond.fieldLink RX1 33 "VolumeHouse$Copies" "daysToGo" "[I", Cond.fieldLink RX1 36 "VolumeHouse$Copies" "timesLent" "[I", Cond.fieldLink RX1 39 "VolumeHouse$Copies" "shelved" "[I", Cond.fieldLink RX1 42 "VolumeHouse$Copies" "came" "I", Cond.fieldLink RX1 46 "VolumeHouse$Copies" "inBoxes" "I", Cond.fieldLink RX1 49 "VolumeHouse$Copies" "lost" "I", Cond.instanceMethod yX3_init, Cond.code yX3_init cX3_init 1 none, Cond.methodLink RX3 3 objectInit, Cond.fieldLink RX3 9 "VolumeHouse$Readers" "rank" "[I", Cond.fieldLink RX3 15 "VolumeHouse$Readers" "boxDays" "[I", Cond.fieldLink RX3 18 "VolumeHouse$Readers" "last" "[I", Cond.fieldLink RX3 21 "VolumeHouse$Readers" "owed" "[I", Cond.fieldLink RX3 24 "VolumeHouse$Readers" "inHand" "[I", Cond.fieldLink RX3 27 "VolumeHouse$Readers" "inBoxes" "[I", Cond.fieldLink RX3 30 "VolumeHouse$Readers" "came" "I"]
def wsX6_init_r4 : List Cond := [Cond.instanceMethod yX5_init, Cond.code yX5_init cX5_init 1 none, Cond.methodLink RX5 3 objectInit, Cond.fieldLink RX5 9 "VolumeHouse$Wishes" "reader" "[I", Cond.fieldLink RX5 15 "VolumeHouse$Wishes" "title" "[I", Cond.fieldLink RX5 18 "VolumeHouse$Wishes" "state" "[I", Cond.fieldLink RX5 21 "VolumeHouse$Wishes" "had" "[I", Cond.fieldLink RX5 24 "VolumeHouse$Wishes" "held" "[I", Cond.fieldLink RX5 27 "VolumeHouse$Wishes" "since" "[I", Cond.fieldLink RX5 30 "VolumeHouse$Wishes" "came" "I", Cond.instanceMethod yX2_init, Cond.code yX2_init cX2_init 1 none, Cond.methodLink RX2 3 objectInit, Cond.fieldLink RX2 9 "VolumeHouse$Demands" "wanted" "[I", Cond.fieldLink RX2 15 "VolumeHouse$Demands" "sale" "[I"]
def wsX6_init : List Cond := .code yX6_init cX6_init 1 none :: ((wsX6_init_r1 ++ (wsX6_init_r2 ++ (wsX6_init_r3 ++ wsX6_init_r4))) ++ wsX40 ++ wsX60 ++ wsX00 ++ wsX10 ++ wsX30 ++ wsX50 ++ wsX20)
def wsX6_within : List Cond := .code yX6_within cX6_within 3 (some .boolean) :: ([])
def wsX6_title : List Cond := .code yX6_title cX6_title 2 (some .int) :: ([.fieldLink RX6 10 "VolumeHouse" "titles" "LVolumeHouse$Titles;", .methodLink RX6 64 yX6_within, .static yX6_within, .initialized RX6, .code yX6_within cX6_within 3 (some .boolean), .instanceMethod yX4_add, .initialized RX4, .selects RX4 yX4_add yX4_add, .code yX4_add cX4_add 2 (some .int), .fieldLink RX4 9 "VolumeHouse$Titles" "volumes" "[I", .fieldLink RX4 15 "VolumeHouse$Titles" "came" "I"] ++ wsX60 ++ wsX40)
def wsX6_bargain : List Cond := .code yX6_bargain cX6_bargain 6 (some .boolean) :: ([.fieldLink RX6 10 "VolumeHouse" "titles" "LVolumeHouse$Titles;", .fieldLink RX6 19 "VolumeHouse" "bargains" "LVolumeHouse$Bargains;", .instanceMethod yX4_has, .initialized RX4, .selects RX4 yX4_has yX4_has, .code yX4_has cX4_has 2 (some .boolean), .fieldLink RX4 15 "VolumeHouse$Titles" "came" "I", .methodLink RX6 64 yX6_within, .static yX6_within, .initialized RX6, .code yX6_within cX6_within 3 (some .boolean), .instanceMethod yX0_add, .initialized RX0, .selects RX0 yX0_add yX0_add, .code yX0_add cX0_add 6 none, .fieldLink RX0 9 "VolumeHouse$Bargains" "title" "[I", .fieldLink RX0 27 "VolumeHouse$Bargains" "came" "I", .fieldLink RX0 15 "VolumeHouse$Bargains" "day" "[I", .fieldLink RX0 18 "VolumeHouse$Bargains" "atFirstPrice" "[I", .fieldLink RX0 21 "VolumeHouse$Bargains" "price" "[I", .fieldLink RX0 24 "VolumeHouse$Bargains" "priceBeyond" "[I"] ++ wsX60 ++ wsX00 ++ wsX40)
def wsX6_buy_r1 : List Cond := [Cond.fieldLink RX6 10 "VolumeHouse" "titles" "LVolumeHouse$Titles;", Cond.fieldLink RX6 26 "VolumeHouse" "copies" "LVolumeHouse$Copies;", Cond.fieldLink RX6 19 "VolumeHouse" "bargains" "LVolumeHouse$Bargains;", Cond.fieldLink RX6 51 "VolumeHouse" "now" "I", Cond.fieldLink RX6 55 "VolumeHouse" "spent" "I", Cond.instanceMethod yX4_has, Cond.initialized RX4, Cond.selects RX4 yX4_has yX4_has, Cond.code yX4_has cX4_has 2 (some .boolean), Cond.fieldLink RX4 15 "VolumeHouse$Titles" "came" "I", Cond.methodLink RX6 64 yX6_within, Cond.static yX6_within, Cond.initialized RX6, Cond.code yX6_within cX6_within 3 (some .boolean), Cond.instanceMethod yX4_volumesOf, Cond.selects RX4 yX4_volumesOf yX4_volumesOf, Cond.code yX4_volumesOf cX4_volumesOf 2 (some .int), Cond.fieldLink RX4 9 "VolumeHouse$Titles" "volumes" "[I", Cond.methodLink RX4 23 yX4_has, Cond.instanceMethod yX0_inForce, Cond.initialized RX0, Cond.selects RX0 yX0_inForce yX0_inForce, Cond.code yX0_inForce cX0_inForce 5 (some .int), Cond.fieldLink RX0 27 "VolumeHouse$Bargains" "came" "I"]
def wsX6_buy_r2 : List Cond := [Cond.fieldLink RX0 9 "VolumeHouse$Bargains" "title" "[I", Cond.fieldLink RX0 15 "VolumeHouse$Bargains" "day" "[I", Cond.instanceMethod yX0_priceAt, Cond.selects RX0 yX0_priceAt yX0_priceAt, Cond.code yX0_priceAt cX0_priceAt 3 (some .int), Cond.fieldLink RX0 18 "VolumeHouse$Bargains" "atFirstPrice" "[I", Cond.fieldLink RX0 21 "VolumeHouse$Bargains" "price" "[I", Cond.fieldLink RX0 24 "VolumeHouse$Bargains" "priceBeyond" "[I", Cond.instanceMethod yX1_add, Cond.initialized RX1, Cond.selects RX1 yX1_add yX1_add, Cond.code yX1_add cX1_add 5 none, Cond.fieldLink RX1 42 "VolumeHouse$Copies" "came" "I", Cond.fieldLink RX1 15 "VolumeHouse$Copies" "title" "[I", Cond.fieldLink RX1 18 "VolumeHouse$Copies" "volume" "[I", Cond.fieldLink RX1 21 "VolumeHouse$Copies" "cost" "[I", Cond.fieldLink RX1 9 "VolumeHouse$Copies" "where" "[I", Cond.fieldLink RX1 36 "VolumeHouse$Copies" "timesLent" "[I", Cond.methodLink RX1 56 yX1_shelve, Cond.instanceMethod yX1_shelve, Cond.selects RX1 yX1_shelve yX1_shelve, Cond.code yX1_shelve cX1_shelve 2 none, Cond.methodLink RX1 64 yX1_moveTo, Cond.instanceMethod yX1_moveTo]
def wsX6_buy_r3 : List Cond := [Cond.selects RX1 yX1_moveTo yX1_moveTo, Cond.code yX1_moveTo cX1_moveTo 3 none, Cond.methodLink RX1 74 yX1_tally, Cond.instanceMethod yX1_tally, Cond.selects RX1 yX1_tally yX1_tally, Cond.code yX1_tally cX1_tally 4 none, Cond.fieldLink RX1 39 "VolumeHouse$Copies" "shelved" "[I", Cond.fieldLink RX1 46 "VolumeHouse$Copies" "inBoxes" "I", Cond.fieldLink RX1 49 "VolumeHouse$Copies" "lost" "I", Cond.methodLink RX1 60 yX1_slot, Cond.instanceMethod yX1_slot, Cond.selects RX1 yX1_slot yX1_slot, Cond.code yX1_slot cX1_slot 3 (some .int), Cond.methodLink RX1 71 yX1_inBox, Cond.instanceMethod yX1_inBox, Cond.selects RX1 yX1_inBox yX1_inBox, Cond.code yX1_inBox cX1_inBox 2 (some .boolean), Cond.methodLink RX1 68 yX1_belongToNobody, Cond.instanceMethod yX1_belongToNobody, Cond.selects RX1 yX1_belongToNobody yX1_belongToNobody, Cond.code yX1_belongToNobody cX1_belongToNobody 2 none, Cond.fieldLink RX1 24 "VolumeHouse$Copies" "reader" "[I", Cond.fieldLink RX1 27 "VolumeHouse$Copies" "wish" "[I", Cond.fieldLink RX1 30 "VolumeHouse$Copies" "since" "[I"]
def wsX6_buy_r4 : List Cond := [Cond.fieldLink RX1 33 "VolumeHouse$Copies" "daysToGo" "[I"]
def wsX6_buy : List Cond := .code yX6_buy cX6_buy 8 (some .int) :: ((wsX6_buy_r1 ++ (wsX6_buy_r2 ++ (wsX6_buy_r3 ++ wsX6_buy_r4))) ++ wsX60 ++ wsX10 ++ wsX40 ++ wsX00)
def wsX6_sell_r1 : List Cond := [Cond.fieldLink RX6 26 "VolumeHouse" "copies" "LVolumeHouse$Copies;", Cond.fieldLink RX6 58 "VolumeHouse" "earned" "I", Cond.instanceMethod yX1_isAt, Cond.initialized RX1, Cond.selects RX1 yX1_isAt yX1_isAt, Cond.code yX1_isAt cX1_isAt 3 (some .boolean), Cond.fieldLink RX1 9 "VolumeHouse$Copies" "where" "[I", Cond.methodLink RX1 52 yX1_has, Cond.instanceMethod yX1_has, Cond.selects RX1 yX1_has yX1_has, Cond.code yX1_has cX1_has 2 (some .boolean), Cond.fieldLink RX1 42 "VolumeHouse$Copies" "came" "I", Cond.methodLink RX6 64 yX6_within, Cond.static yX6_within, Cond.initialized RX6, Cond.code yX6_within cX6_within 3 (some .boolean), Cond.instanceMethod yX1_leaveFor, Cond.selects RX1 yX1_leaveFor yX1_leaveFor, Cond.code yX1_leaveFor cX1_leaveFor 3 none, Cond.methodLink RX1 64 yX1_moveTo, Cond.instanceMethod yX1_moveTo, Cond.selects RX1 yX1_moveTo yX1_moveTo, Cond.code yX1_moveTo cX1_moveTo 3 none, Cond.methodLink RX1 74 yX1_tally]
def wsX6_sell_r2 : List Cond := [Cond.instanceMethod yX1_tally, Cond.selects RX1 yX1_tally yX1_tally, Cond.code yX1_tally cX1_tally 4 none, Cond.fieldLink RX1 15 "VolumeHouse$Copies" "title" "[I", Cond.fieldLink RX1 18 "VolumeHouse$Copies" "volume" "[I", Cond.fieldLink RX1 39 "VolumeHouse$Copies" "shelved" "[I", Cond.fieldLink RX1 46 "VolumeHouse$Copies" "inBoxes" "I", Cond.fieldLink RX1 49 "VolumeHouse$Copies" "lost" "I", Cond.methodLink RX1 60 yX1_slot, Cond.instanceMethod yX1_slot, Cond.selects RX1 yX1_slot yX1_slot, Cond.code yX1_slot cX1_slot 3 (some .int), Cond.methodLink RX1 71 yX1_inBox, Cond.instanceMethod yX1_inBox, Cond.selects RX1 yX1_inBox yX1_inBox, Cond.code yX1_inBox cX1_inBox 2 (some .boolean), Cond.methodLink RX1 68 yX1_belongToNobody, Cond.instanceMethod yX1_belongToNobody, Cond.selects RX1 yX1_belongToNobody yX1_belongToNobody, Cond.code yX1_belongToNobody cX1_belongToNobody 2 none, Cond.fieldLink RX1 24 "VolumeHouse$Copies" "reader" "[I", Cond.fieldLink RX1 27 "VolumeHouse$Copies" "wish" "[I", Cond.fieldLink RX1 30 "VolumeHouse$Copies" "since" "[I", Cond.fieldLink RX1 33 "VolumeHouse$Copies" "daysToGo" "[I"]
def wsX6_sell : List Cond := .code yX6_sell cX6_sell 3 (some .boolean) :: ((wsX6_sell_r1 ++ wsX6_sell_r2) ++ wsX60 ++ wsX10)
def wsX6_reader : List Cond := .code yX6_reader cX6_reader 4 (some .int) :: ([.fieldLink RX6 33 "VolumeHouse" "readers" "LVolumeHouse$Readers;", .methodLink RX6 64 yX6_within, .static yX6_within, .initialized RX6, .code yX6_within cX6_within 3 (some .boolean), .instanceMethod yX3_add, .initialized RX3, .selects RX3 yX3_add yX3_add, .code yX3_add cX3_add 4 (some .int), .fieldLink RX3 9 "VolumeHouse$Readers" "rank" "[I", .fieldLink RX3 30 "VolumeHouse$Readers" "came" "I", .fieldLink RX3 15 "VolumeHouse$Readers" "boxDays" "[I", .fieldLink RX3 18 "VolumeHouse$Readers" "last" "[I"] ++ wsX60 ++ wsX30)
def wsX6_renew : List Cond := .code yX6_renew cX6_renew 3 (some .boolean) :: ([.fieldLink RX6 33 "VolumeHouse" "readers" "LVolumeHouse$Readers;", .instanceMethod yX3_has, .initialized RX3, .selects RX3 yX3_has yX3_has, .code yX3_has cX3_has 2 (some .boolean), .fieldLink RX3 30 "VolumeHouse$Readers" "came" "I", .methodLink RX6 64 yX6_within, .static yX6_within, .initialized RX6, .code yX6_within cX6_within 3 (some .boolean)] ++ wsX60 ++ wsX30)
def wsX6_wish_r1 : List Cond := [Cond.fieldLink RX6 33 "VolumeHouse" "readers" "LVolumeHouse$Readers;", Cond.fieldLink RX6 10 "VolumeHouse" "titles" "LVolumeHouse$Titles;", Cond.fieldLink RX6 40 "VolumeHouse" "wishes" "LVolumeHouse$Wishes;", Cond.fieldLink RX6 51 "VolumeHouse" "now" "I", Cond.instanceMethod yX3_has, Cond.initialized RX3, Cond.selects RX3 yX3_has yX3_has, Cond.code yX3_has cX3_has 2 (some .boolean), Cond.fieldLink RX3 30 "VolumeHouse$Readers" "came" "I", Cond.instanceMethod yX4_has, Cond.initialized RX4, Cond.selects RX4 yX4_has yX4_has, Cond.code yX4_has cX4_has 2 (some .boolean), Cond.fieldLink RX4 15 "VolumeHouse$Titles" "came" "I", Cond.instanceMethod yX5_hasOpen, Cond.initialized RX5, Cond.selects RX5 yX5_hasOpen yX5_hasOpen, Cond.code yX5_hasOpen cX5_hasOpen 4 (some .boolean), Cond.fieldLink RX5 30 "VolumeHouse$Wishes" "came" "I", Cond.fieldLink RX5 18 "VolumeHouse$Wishes" "state" "[I", Cond.fieldLink RX5 9 "VolumeHouse$Wishes" "reader" "[I", Cond.fieldLink RX5 15 "VolumeHouse$Wishes" "title" "[I", Cond.instanceMethod yX5_add, Cond.selects RX5 yX5_add yX5_add]
def wsX6_wish_r2 : List Cond := [Cond.code yX5_add cX5_add 5 (some .int), Cond.fieldLink RX5 21 "VolumeHouse$Wishes" "had" "[I", Cond.fieldLink RX5 24 "VolumeHouse$Wishes" "held" "[I", Cond.fieldLink RX5 27 "VolumeHouse$Wishes" "since" "[I"]
def wsX6_wish : List Cond := .code yX6_wish cX6_wish 3 (some .int) :: ((wsX6_wish_r1 ++ wsX6_wish_r2) ++ wsX60 ++ wsX50 ++ wsX30 ++ wsX40)
def wsX6_unwish : List Cond := .code yX6_unwish cX6_unwish 2 (some .boolean) :: ([.fieldLink RX6 40 "VolumeHouse" "wishes" "LVolumeHouse$Wishes;", .instanceMethod yX5_isOpen, .initialized RX5, .selects RX5 yX5_isOpen yX5_isOpen, .code yX5_isOpen cX5_isOpen 2 (some .boolean), .fieldLink RX5 18 "VolumeHouse$Wishes" "state" "[I", .methodLink RX5 34 yX5_has, .instanceMethod yX5_has, .selects RX5 yX5_has yX5_has, .code yX5_has cX5_has 2 (some .boolean), .fieldLink RX5 30 "VolumeHouse$Wishes" "came" "I"] ++ wsX60 ++ wsX50)
def wsX6_unpack_r1 : List Cond := [Cond.fieldLink RX6 26 "VolumeHouse" "copies" "LVolumeHouse$Copies;", Cond.fieldLink RX6 33 "VolumeHouse" "readers" "LVolumeHouse$Readers;", Cond.fieldLink RX6 51 "VolumeHouse" "now" "I", Cond.instanceMethod yX3_has, Cond.initialized RX3, Cond.selects RX3 yX3_has yX3_has, Cond.code yX3_has cX3_has 2 (some .boolean), Cond.fieldLink RX3 30 "VolumeHouse$Readers" "came" "I", Cond.instanceMethod yX1_shelve, Cond.initialized RX1, Cond.selects RX1 yX1_shelve yX1_shelve, Cond.code yX1_shelve cX1_shelve 2 none, Cond.methodLink RX1 64 yX1_moveTo, Cond.instanceMethod yX1_moveTo, Cond.selects RX1 yX1_moveTo yX1_moveTo, Cond.code yX1_moveTo cX1_moveTo 3 none, Cond.fieldLink RX1 9 "VolumeHouse$Copies" "where" "[I", Cond.methodLink RX1 74 yX1_tally, Cond.instanceMethod yX1_tally, Cond.selects RX1 yX1_tally yX1_tally, Cond.code yX1_tally cX1_tally 4 none, Cond.fieldLink RX1 15 "VolumeHouse$Copies" "title" "[I", Cond.fieldLink RX1 18 "VolumeHouse$Copies" "volume" "[I", Cond.fieldLink RX1 39 "VolumeHouse$Copies" "shelved" "[I"]
def wsX6_unpack_r2 : List Cond := [Cond.fieldLink RX1 46 "VolumeHouse$Copies" "inBoxes" "I", Cond.fieldLink RX1 49 "VolumeHouse$Copies" "lost" "I", Cond.methodLink RX1 60 yX1_slot, Cond.instanceMethod yX1_slot, Cond.selects RX1 yX1_slot yX1_slot, Cond.code yX1_slot cX1_slot 3 (some .int), Cond.methodLink RX1 71 yX1_inBox, Cond.instanceMethod yX1_inBox, Cond.selects RX1 yX1_inBox yX1_inBox, Cond.code yX1_inBox cX1_inBox 2 (some .boolean), Cond.methodLink RX1 68 yX1_belongToNobody, Cond.instanceMethod yX1_belongToNobody, Cond.selects RX1 yX1_belongToNobody yX1_belongToNobody, Cond.code yX1_belongToNobody cX1_belongToNobody 2 none, Cond.fieldLink RX1 24 "VolumeHouse$Copies" "reader" "[I", Cond.fieldLink RX1 27 "VolumeHouse$Copies" "wish" "[I", Cond.fieldLink RX1 30 "VolumeHouse$Copies" "since" "[I", Cond.fieldLink RX1 33 "VolumeHouse$Copies" "daysToGo" "[I", Cond.instanceMethod yX1_handOver, Cond.selects RX1 yX1_handOver yX1_handOver, Cond.code yX1_handOver cX1_handOver 3 none]
def wsX6_unpack : List Cond := .code yX6_unpack cX6_unpack 3 none :: ((wsX6_unpack_r1 ++ wsX6_unpack_r2) ++ wsX60 ++ wsX10 ++ wsX30)
def wsX6_moveBoxes_r1 : List Cond := [Cond.fieldLink RX6 26 "VolumeHouse" "copies" "LVolumeHouse$Copies;", Cond.instanceMethod yX1_comesToday, Cond.initialized RX1, Cond.selects RX1 yX1_comesToday yX1_comesToday, Cond.code yX1_comesToday cX1_comesToday 2 (some .boolean), Cond.fieldLink RX1 33 "VolumeHouse$Copies" "daysToGo" "[I", Cond.methodLink RX1 71 yX1_inBox, Cond.instanceMethod yX1_inBox, Cond.selects RX1 yX1_inBox yX1_inBox, Cond.code yX1_inBox cX1_inBox 2 (some .boolean), Cond.fieldLink RX1 9 "VolumeHouse$Copies" "where" "[I", Cond.methodLink RX6 245 yX6_unpack, Cond.instanceMethod yX6_unpack, Cond.selects RX6 yX6_unpack yX6_unpack, Cond.initialized RX6, Cond.code yX6_unpack cX6_unpack 3 none, Cond.fieldLink RX6 33 "VolumeHouse" "readers" "LVolumeHouse$Readers;", Cond.fieldLink RX6 51 "VolumeHouse" "now" "I", Cond.instanceMethod yX3_has, Cond.initialized RX3, Cond.selects RX3 yX3_has yX3_has, Cond.code yX3_has cX3_has 2 (some .boolean), Cond.fieldLink RX3 30 "VolumeHouse$Readers" "came" "I", Cond.instanceMethod yX1_shelve]
def wsX6_moveBoxes_r2 : List Cond := [Cond.selects RX1 yX1_shelve yX1_shelve, Cond.code yX1_shelve cX1_shelve 2 none, Cond.methodLink RX1 64 yX1_moveTo, Cond.instanceMethod yX1_moveTo, Cond.selects RX1 yX1_moveTo yX1_moveTo, Cond.code yX1_moveTo cX1_moveTo 3 none, Cond.methodLink RX1 74 yX1_tally, Cond.instanceMethod yX1_tally, Cond.selects RX1 yX1_tally yX1_tally, Cond.code yX1_tally cX1_tally 4 none, Cond.fieldLink RX1 15 "VolumeHouse$Copies" "title" "[I", Cond.fieldLink RX1 18 "VolumeHouse$Copies" "volume" "[I", Cond.fieldLink RX1 39 "VolumeHouse$Copies" "shelved" "[I", Cond.fieldLink RX1 46 "VolumeHouse$Copies" "inBoxes" "I", Cond.fieldLink RX1 49 "VolumeHouse$Copies" "lost" "I", Cond.methodLink RX1 60 yX1_slot, Cond.instanceMethod yX1_slot, Cond.selects RX1 yX1_slot yX1_slot, Cond.code yX1_slot cX1_slot 3 (some .int), Cond.methodLink RX1 68 yX1_belongToNobody, Cond.instanceMethod yX1_belongToNobody, Cond.selects RX1 yX1_belongToNobody yX1_belongToNobody, Cond.code yX1_belongToNobody cX1_belongToNobody 2 none, Cond.fieldLink RX1 24 "VolumeHouse$Copies" "reader" "[I"]
def wsX6_moveBoxes_r3 : List Cond := [Cond.fieldLink RX1 27 "VolumeHouse$Copies" "wish" "[I", Cond.fieldLink RX1 30 "VolumeHouse$Copies" "since" "[I", Cond.instanceMethod yX1_handOver, Cond.selects RX1 yX1_handOver yX1_handOver, Cond.code yX1_handOver cX1_handOver 3 none]
def wsX6_moveBoxes : List Cond := .code yX6_moveBoxes cX6_moveBoxes 3 (some .boolean) :: ((wsX6_moveBoxes_r1 ++ (wsX6_moveBoxes_r2 ++ wsX6_moveBoxes_r3)) ++ wsX60 ++ wsX10 ++ wsX30)
def wsX6_canGet_r1 : List Cond := [Cond.fieldLink RX6 40 "VolumeHouse" "wishes" "LVolumeHouse$Wishes;", Cond.fieldLink RX6 33 "VolumeHouse" "readers" "LVolumeHouse$Readers;", Cond.fieldLink RX6 51 "VolumeHouse" "now" "I", Cond.fieldLink RX6 26 "VolumeHouse" "copies" "LVolumeHouse$Copies;", Cond.instanceMethod yX5_waits, Cond.initialized RX5, Cond.selects RX5 yX5_waits yX5_waits, Cond.code yX5_waits cX5_waits 2 (some .boolean), Cond.fieldLink RX5 24 "VolumeHouse$Wishes" "held" "[I", Cond.methodLink RX5 38 yX5_isOpen, Cond.instanceMethod yX5_isOpen, Cond.selects RX5 yX5_isOpen yX5_isOpen, Cond.code yX5_isOpen cX5_isOpen 2 (some .boolean), Cond.fieldLink RX5 18 "VolumeHouse$Wishes" "state" "[I", Cond.methodLink RX5 34 yX5_has, Cond.instanceMethod yX5_has, Cond.selects RX5 yX5_has yX5_has, Cond.code yX5_has cX5_has 2 (some .boolean), Cond.fieldLink RX5 30 "VolumeHouse$Wishes" "came" "I", Cond.instanceMethod yX3_mayTake, Cond.initialized RX3, Cond.selects RX3 yX3_mayTake yX3_mayTake, Cond.code yX3_mayTake cX3_mayTake 3 (some .boolean), Cond.fieldLink RX3 18 "VolumeHouse$Readers" "last" "[I"]
def wsX6_canGet_r2 : List Cond := [Cond.fieldLink RX3 24 "VolumeHouse$Readers" "inHand" "[I", Cond.fieldLink RX3 27 "VolumeHouse$Readers" "inBoxes" "[I", Cond.fieldLink RX3 9 "VolumeHouse$Readers" "rank" "[I", Cond.methodLink RX3 34 yX3_has, Cond.instanceMethod yX3_has, Cond.selects RX3 yX3_has yX3_has, Cond.code yX3_has cX3_has 2 (some .boolean), Cond.fieldLink RX3 30 "VolumeHouse$Readers" "came" "I", Cond.instanceMethod yX1_onShelf, Cond.initialized RX1, Cond.selects RX1 yX1_onShelf yX1_onShelf, Cond.code yX1_onShelf cX1_onShelf 4 (some .int), Cond.fieldLink RX1 39 "VolumeHouse$Copies" "shelved" "[I", Cond.methodLink RX1 60 yX1_slot, Cond.instanceMethod yX1_slot, Cond.selects RX1 yX1_slot yX1_slot, Cond.code yX1_slot cX1_slot 3 (some .int)]
def wsX6_canGet : List Cond := .code yX6_canGet cX6_canGet 2 (some .boolean) :: ((wsX6_canGet_r1 ++ wsX6_canGet_r2) ++ wsX60 ++ wsX50 ++ wsX30 ++ wsX10)
def wsX6_goesAhead : List Cond := .code yX6_goesAhead cX6_goesAhead 5 (some .boolean) :: ([.fieldLink RX6 33 "VolumeHouse" "readers" "LVolumeHouse$Readers;", .fieldLink RX6 40 "VolumeHouse" "wishes" "LVolumeHouse$Wishes;", .instanceMethod yX3_rankOf, .initialized RX3, .selects RX3 yX3_rankOf yX3_rankOf, .code yX3_rankOf cX3_rankOf 2 (some .int), .fieldLink RX3 9 "VolumeHouse$Readers" "rank" "[I", .methodLink RX3 34 yX3_has, .instanceMethod yX3_has, .selects RX3 yX3_has yX3_has, .code yX3_has cX3_has 2 (some .boolean), .fieldLink RX3 30 "VolumeHouse$Readers" "came" "I"] ++ wsX60 ++ wsX50 ++ wsX30)
def wsX6_nextInTurn_r1 : List Cond := [Cond.fieldLink RX6 40 "VolumeHouse" "wishes" "LVolumeHouse$Wishes;", Cond.methodLink RX6 258 yX6_canGet, Cond.instanceMethod yX6_canGet, Cond.selects RX6 yX6_canGet yX6_canGet, Cond.initialized RX6, Cond.code yX6_canGet cX6_canGet 2 (some .boolean), Cond.fieldLink RX6 33 "VolumeHouse" "readers" "LVolumeHouse$Readers;", Cond.fieldLink RX6 51 "VolumeHouse" "now" "I", Cond.fieldLink RX6 26 "VolumeHouse" "copies" "LVolumeHouse$Copies;", Cond.instanceMethod yX5_waits, Cond.initialized RX5, Cond.selects RX5 yX5_waits yX5_waits, Cond.code yX5_waits cX5_waits 2 (some .boolean), Cond.fieldLink RX5 24 "VolumeHouse$Wishes" "held" "[I", Cond.methodLink RX5 38 yX5_isOpen, Cond.instanceMethod yX5_isOpen, Cond.selects RX5 yX5_isOpen yX5_isOpen, Cond.code yX5_isOpen cX5_isOpen 2 (some .boolean), Cond.fieldLink RX5 18 "VolumeHouse$Wishes" "state" "[I", Cond.methodLink RX5 34 yX5_has, Cond.instanceMethod yX5_has, Cond.selects RX5 yX5_has yX5_has, Cond.code yX5_has cX5_has 2 (some .boolean), Cond.fieldLink RX5 30 "VolumeHouse$Wishes" "came" "I"]
def wsX6_nextInTurn_r2 : List Cond := [Cond.instanceMethod yX3_mayTake, Cond.initialized RX3, Cond.selects RX3 yX3_mayTake yX3_mayTake, Cond.code yX3_mayTake cX3_mayTake 3 (some .boolean), Cond.fieldLink RX3 18 "VolumeHouse$Readers" "last" "[I", Cond.fieldLink RX3 24 "VolumeHouse$Readers" "inHand" "[I", Cond.fieldLink RX3 27 "VolumeHouse$Readers" "inBoxes" "[I", Cond.fieldLink RX3 9 "VolumeHouse$Readers" "rank" "[I", Cond.methodLink RX3 34 yX3_has, Cond.instanceMethod yX3_has, Cond.selects RX3 yX3_has yX3_has, Cond.code yX3_has cX3_has 2 (some .boolean), Cond.fieldLink RX3 30 "VolumeHouse$Readers" "came" "I", Cond.instanceMethod yX1_onShelf, Cond.initialized RX1, Cond.selects RX1 yX1_onShelf yX1_onShelf, Cond.code yX1_onShelf cX1_onShelf 4 (some .int), Cond.fieldLink RX1 39 "VolumeHouse$Copies" "shelved" "[I", Cond.methodLink RX1 60 yX1_slot, Cond.instanceMethod yX1_slot, Cond.selects RX1 yX1_slot yX1_slot, Cond.code yX1_slot cX1_slot 3 (some .int), Cond.methodLink RX6 261 yX6_goesAhead, Cond.instanceMethod yX6_goesAhead]
def wsX6_nextInTurn_r3 : List Cond := [Cond.selects RX6 yX6_goesAhead yX6_goesAhead, Cond.code yX6_goesAhead cX6_goesAhead 5 (some .boolean), Cond.instanceMethod yX3_rankOf, Cond.selects RX3 yX3_rankOf yX3_rankOf, Cond.code yX3_rankOf cX3_rankOf 2 (some .int)]
def wsX6_nextInTurn : List Cond := .code yX6_nextInTurn cX6_nextInTurn 3 (some .int) :: ((wsX6_nextInTurn_r1 ++ (wsX6_nextInTurn_r2 ++ wsX6_nextInTurn_r3)) ++ wsX60 ++ wsX50 ++ wsX30 ++ wsX10)
def wsX6_lendFor_r1 : List Cond := [Cond.fieldLink RX6 40 "VolumeHouse" "wishes" "LVolumeHouse$Wishes;", Cond.fieldLink RX6 26 "VolumeHouse" "copies" "LVolumeHouse$Copies;", Cond.fieldLink RX6 33 "VolumeHouse" "readers" "LVolumeHouse$Readers;", Cond.fieldLink RX6 51 "VolumeHouse" "now" "I", Cond.instanceMethod yX1_leastOnShelf, Cond.initialized RX1, Cond.selects RX1 yX1_leastOnShelf yX1_leastOnShelf, Cond.code yX1_leastOnShelf cX1_leastOnShelf 4 (some .int), Cond.fieldLink RX1 42 "VolumeHouse$Copies" "came" "I", Cond.fieldLink RX1 9 "VolumeHouse$Copies" "where" "[I", Cond.fieldLink RX1 15 "VolumeHouse$Copies" "title" "[I", Cond.fieldLink RX1 18 "VolumeHouse$Copies" "volume" "[I", Cond.instanceMethod yX3_has, Cond.initialized RX3, Cond.selects RX3 yX3_has yX3_has, Cond.code yX3_has cX3_has 2 (some .boolean), Cond.fieldLink RX3 30 "VolumeHouse$Readers" "came" "I", Cond.instanceMethod yX1_lend, Cond.selects RX1 yX1_lend yX1_lend, Cond.code yX1_lend cX1_lend 4 none, Cond.fieldLink RX1 24 "VolumeHouse$Copies" "reader" "[I", Cond.fieldLink RX1 27 "VolumeHouse$Copies" "wish" "[I", Cond.fieldLink RX1 36 "VolumeHouse$Copies" "timesLent" "[I", Cond.instanceMethod yX1_handOver]
def wsX6_lendFor_r2 : List Cond := [Cond.selects RX1 yX1_handOver yX1_handOver, Cond.code yX1_handOver cX1_handOver 3 none, Cond.fieldLink RX1 30 "VolumeHouse$Copies" "since" "[I", Cond.fieldLink RX1 33 "VolumeHouse$Copies" "daysToGo" "[I", Cond.methodLink RX1 64 yX1_moveTo, Cond.instanceMethod yX1_moveTo, Cond.selects RX1 yX1_moveTo yX1_moveTo, Cond.code yX1_moveTo cX1_moveTo 3 none, Cond.methodLink RX1 74 yX1_tally, Cond.instanceMethod yX1_tally, Cond.selects RX1 yX1_tally yX1_tally, Cond.code yX1_tally cX1_tally 4 none, Cond.fieldLink RX1 39 "VolumeHouse$Copies" "shelved" "[I", Cond.fieldLink RX1 46 "VolumeHouse$Copies" "inBoxes" "I", Cond.fieldLink RX1 49 "VolumeHouse$Copies" "lost" "I", Cond.methodLink RX1 60 yX1_slot, Cond.instanceMethod yX1_slot, Cond.selects RX1 yX1_slot yX1_slot, Cond.code yX1_slot cX1_slot 3 (some .int), Cond.methodLink RX1 71 yX1_inBox, Cond.instanceMethod yX1_inBox, Cond.selects RX1 yX1_inBox yX1_inBox, Cond.code yX1_inBox cX1_inBox 2 (some .boolean), Cond.instanceMethod yX1_sendOut]
def wsX6_lendFor_r3 : List Cond := [Cond.selects RX1 yX1_sendOut yX1_sendOut, Cond.code yX1_sendOut cX1_sendOut 3 none]
def wsX6_lendFor : List Cond := .code yX6_lendFor cX6_lendFor 4 none :: ((wsX6_lendFor_r1 ++ (wsX6_lendFor_r2 ++ wsX6_lendFor_r3)) ++ wsX60 ++ wsX50 ++ wsX30 ++ wsX10)
def wsX6_takeTurns_r1 : List Cond := [Cond.methodLink RX6 251 yX6_nextInTurn, Cond.instanceMethod yX6_nextInTurn, Cond.selects RX6 yX6_nextInTurn yX6_nextInTurn, Cond.initialized RX6, Cond.code yX6_nextInTurn cX6_nextInTurn 3 (some .int), Cond.fieldLink RX6 40 "VolumeHouse" "wishes" "LVolumeHouse$Wishes;", Cond.methodLink RX6 258 yX6_canGet, Cond.instanceMethod yX6_canGet, Cond.selects RX6 yX6_canGet yX6_canGet, Cond.code yX6_canGet cX6_canGet 2 (some .boolean), Cond.fieldLink RX6 33 "VolumeHouse" "readers" "LVolumeHouse$Readers;", Cond.fieldLink RX6 51 "VolumeHouse" "now" "I", Cond.fieldLink RX6 26 "VolumeHouse" "copies" "LVolumeHouse$Copies;", Cond.instanceMethod yX5_waits, Cond.initialized RX5, Cond.selects RX5 yX5_waits yX5_waits, Cond.code yX5_waits cX5_waits 2 (some .boolean), Cond.fieldLink RX5 24 "VolumeHouse$Wishes" "held" "[I", Cond.methodLink RX5 38 yX5_isOpen, Cond.instanceMethod yX5_isOpen, Cond.selects RX5 yX5_isOpen yX5_isOpen, Cond.code yX5_isOpen cX5_isOpen 2 (some .boolean), Cond.fieldLink RX5 18 "VolumeHouse$Wishes" "state" "[I", Cond.methodLink RX5 34 yX5_has]
def wsX6_takeTurns_r2 : List Cond := [Cond.instanceMethod yX5_has, Cond.selects RX5 yX5_has yX5_has, Cond.code yX5_has cX5_has 2 (some .boolean), Cond.fieldLink RX5 30 "VolumeHouse$Wishes" "came" "I", Cond.instanceMethod yX3_mayTake, Cond.initialized RX3, Cond.selects RX3 yX3_mayTake yX3_mayTake, Cond.code yX3_mayTake cX3_mayTake 3 (some .boolean), Cond.fieldLink RX3 18 "VolumeHouse$Readers" "last" "[I", Cond.fieldLink RX3 24 "VolumeHouse$Readers" "inHand" "[I", Cond.fieldLink RX3 27 "VolumeHouse$Readers" "inBoxes" "[I", Cond.fieldLink RX3 9 "VolumeHouse$Readers" "rank" "[I", Cond.methodLink RX3 34 yX3_has, Cond.instanceMethod yX3_has, Cond.selects RX3 yX3_has yX3_has, Cond.code yX3_has cX3_has 2 (some .boolean), Cond.fieldLink RX3 30 "VolumeHouse$Readers" "came" "I", Cond.instanceMethod yX1_onShelf, Cond.initialized RX1, Cond.selects RX1 yX1_onShelf yX1_onShelf, Cond.code yX1_onShelf cX1_onShelf 4 (some .int), Cond.fieldLink RX1 39 "VolumeHouse$Copies" "shelved" "[I", Cond.methodLink RX1 60 yX1_slot, Cond.instanceMethod yX1_slot]
def wsX6_takeTurns_r3 : List Cond := [Cond.selects RX1 yX1_slot yX1_slot, Cond.code yX1_slot cX1_slot 3 (some .int), Cond.methodLink RX6 261 yX6_goesAhead, Cond.instanceMethod yX6_goesAhead, Cond.selects RX6 yX6_goesAhead yX6_goesAhead, Cond.code yX6_goesAhead cX6_goesAhead 5 (some .boolean), Cond.instanceMethod yX3_rankOf, Cond.selects RX3 yX3_rankOf yX3_rankOf, Cond.code yX3_rankOf cX3_rankOf 2 (some .int), Cond.methodLink RX6 255 yX6_lendFor, Cond.instanceMethod yX6_lendFor, Cond.selects RX6 yX6_lendFor yX6_lendFor, Cond.code yX6_lendFor cX6_lendFor 4 none, Cond.instanceMethod yX1_leastOnShelf, Cond.selects RX1 yX1_leastOnShelf yX1_leastOnShelf, Cond.code yX1_leastOnShelf cX1_leastOnShelf 4 (some .int), Cond.fieldLink RX1 42 "VolumeHouse$Copies" "came" "I", Cond.fieldLink RX1 9 "VolumeHouse$Copies" "where" "[I", Cond.fieldLink RX1 15 "VolumeHouse$Copies" "title" "[I", Cond.fieldLink RX1 18 "VolumeHouse$Copies" "volume" "[I", Cond.instanceMethod yX1_lend, Cond.selects RX1 yX1_lend yX1_lend, Cond.code yX1_lend cX1_lend 4 none, Cond.fieldLink RX1 24 "VolumeHouse$Copies" "reader" "[I"]
def wsX6_takeTurns_r4 : List Cond := [Cond.fieldLink RX1 27 "VolumeHouse$Copies" "wish" "[I", Cond.fieldLink RX1 36 "VolumeHouse$Copies" "timesLent" "[I", Cond.instanceMethod yX1_handOver, Cond.selects RX1 yX1_handOver yX1_handOver, Cond.code yX1_handOver cX1_handOver 3 none, Cond.fieldLink RX1 30 "VolumeHouse$Copies" "since" "[I", Cond.fieldLink RX1 33 "VolumeHouse$Copies" "daysToGo" "[I", Cond.methodLink RX1 64 yX1_moveTo, Cond.instanceMethod yX1_moveTo, Cond.selects RX1 yX1_moveTo yX1_moveTo, Cond.code yX1_moveTo cX1_moveTo 3 none, Cond.methodLink RX1 74 yX1_tally, Cond.instanceMethod yX1_tally, Cond.selects RX1 yX1_tally yX1_tally, Cond.code yX1_tally cX1_tally 4 none, Cond.fieldLink RX1 46 "VolumeHouse$Copies" "inBoxes" "I", Cond.fieldLink RX1 49 "VolumeHouse$Copies" "lost" "I", Cond.methodLink RX1 71 yX1_inBox, Cond.instanceMethod yX1_inBox, Cond.selects RX1 yX1_inBox yX1_inBox, Cond.code yX1_inBox cX1_inBox 2 (some .boolean), Cond.instanceMethod yX1_sendOut, Cond.selects RX1 yX1_sendOut yX1_sendOut, Cond.code yX1_sendOut cX1_sendOut 3 none]
def wsX6_takeTurns : List Cond := .code yX6_takeTurns cX6_takeTurns 3 none :: ((wsX6_takeTurns_r1 ++ (wsX6_takeTurns_r2 ++ (wsX6_takeTurns_r3 ++ wsX6_takeTurns_r4))) ++ wsX60 ++ wsX50 ++ wsX30 ++ wsX10)
def wsX6_go_r1 : List Cond := [Cond.fieldLink RX6 51 "VolumeHouse" "now" "I", Cond.methodLink RX6 125 Lib.Math.min.name, Cond.static Lib.Math.min.name, Cond.initialized "java/lang/Math", Cond.code Lib.Math.min.name Lib.Math.min.code 2 (some .int), Cond.methodLink RX6 64 yX6_within, Cond.static yX6_within, Cond.initialized RX6, Cond.code yX6_within cX6_within 3 (some .boolean), Cond.methodLink RX6 130 yX6_moveBoxes, Cond.instanceMethod yX6_moveBoxes, Cond.selects RX6 yX6_moveBoxes yX6_moveBoxes, Cond.code yX6_moveBoxes cX6_moveBoxes 3 (some .boolean), Cond.fieldLink RX6 26 "VolumeHouse" "copies" "LVolumeHouse$Copies;", Cond.instanceMethod yX1_comesToday, Cond.initialized RX1, Cond.selects RX1 yX1_comesToday yX1_comesToday, Cond.code yX1_comesToday cX1_comesToday 2 (some .boolean), Cond.fieldLink RX1 33 "VolumeHouse$Copies" "daysToGo" "[I", Cond.methodLink RX1 71 yX1_inBox, Cond.instanceMethod yX1_inBox, Cond.selects RX1 yX1_inBox yX1_inBox, Cond.code yX1_inBox cX1_inBox 2 (some .boolean), Cond.fieldLink RX1 9 "VolumeHouse$Copies" "where" "[I"]
def wsX6_go_r2 : List Cond := [Cond.methodLink RX6 245 yX6_unpack, Cond.instanceMethod yX6_unpack, Cond.selects RX6 yX6_unpack yX6_unpack, Cond.code yX6_unpack cX6_unpack 3 none, Cond.fieldLink RX6 33 "VolumeHouse" "readers" "LVolumeHouse$Readers;", Cond.instanceMethod yX3_has, Cond.initialized RX3, Cond.selects RX3 yX3_has yX3_has, Cond.code yX3_has cX3_has 2 (some .boolean), Cond.fieldLink RX3 30 "VolumeHouse$Readers" "came" "I", Cond.instanceMethod yX1_shelve, Cond.selects RX1 yX1_shelve yX1_shelve, Cond.code yX1_shelve cX1_shelve 2 none, Cond.methodLink RX1 64 yX1_moveTo, Cond.instanceMethod yX1_moveTo, Cond.selects RX1 yX1_moveTo yX1_moveTo, Cond.code yX1_moveTo cX1_moveTo 3 none, Cond.methodLink RX1 74 yX1_tally, Cond.instanceMethod yX1_tally, Cond.selects RX1 yX1_tally yX1_tally, Cond.code yX1_tally cX1_tally 4 none, Cond.fieldLink RX1 15 "VolumeHouse$Copies" "title" "[I", Cond.fieldLink RX1 18 "VolumeHouse$Copies" "volume" "[I", Cond.fieldLink RX1 39 "VolumeHouse$Copies" "shelved" "[I"]
def wsX6_go_r3 : List Cond := [Cond.fieldLink RX1 46 "VolumeHouse$Copies" "inBoxes" "I", Cond.fieldLink RX1 49 "VolumeHouse$Copies" "lost" "I", Cond.methodLink RX1 60 yX1_slot, Cond.instanceMethod yX1_slot, Cond.selects RX1 yX1_slot yX1_slot, Cond.code yX1_slot cX1_slot 3 (some .int), Cond.methodLink RX1 68 yX1_belongToNobody, Cond.instanceMethod yX1_belongToNobody, Cond.selects RX1 yX1_belongToNobody yX1_belongToNobody, Cond.code yX1_belongToNobody cX1_belongToNobody 2 none, Cond.fieldLink RX1 24 "VolumeHouse$Copies" "reader" "[I", Cond.fieldLink RX1 27 "VolumeHouse$Copies" "wish" "[I", Cond.fieldLink RX1 30 "VolumeHouse$Copies" "since" "[I", Cond.instanceMethod yX1_handOver, Cond.selects RX1 yX1_handOver yX1_handOver, Cond.code yX1_handOver cX1_handOver 3 none, Cond.methodLink RX6 134 yX6_takeTurns, Cond.instanceMethod yX6_takeTurns, Cond.selects RX6 yX6_takeTurns yX6_takeTurns, Cond.code yX6_takeTurns cX6_takeTurns 3 none, Cond.methodLink RX6 251 yX6_nextInTurn, Cond.instanceMethod yX6_nextInTurn, Cond.selects RX6 yX6_nextInTurn yX6_nextInTurn, Cond.code yX6_nextInTurn cX6_nextInTurn 3 (some .int)]
def wsX6_go_r4 : List Cond := [Cond.fieldLink RX6 40 "VolumeHouse" "wishes" "LVolumeHouse$Wishes;", Cond.methodLink RX6 258 yX6_canGet, Cond.instanceMethod yX6_canGet, Cond.selects RX6 yX6_canGet yX6_canGet, Cond.code yX6_canGet cX6_canGet 2 (some .boolean), Cond.instanceMethod yX5_waits, Cond.initialized RX5, Cond.selects RX5 yX5_waits yX5_waits, Cond.code yX5_waits cX5_waits 2 (some .boolean), Cond.fieldLink RX5 24 "VolumeHouse$Wishes" "held" "[I", Cond.methodLink RX5 38 yX5_isOpen, Cond.instanceMethod yX5_isOpen, Cond.selects RX5 yX5_isOpen yX5_isOpen, Cond.code yX5_isOpen cX5_isOpen 2 (some .boolean), Cond.fieldLink RX5 18 "VolumeHouse$Wishes" "state" "[I", Cond.methodLink RX5 34 yX5_has, Cond.instanceMethod yX5_has, Cond.selects RX5 yX5_has yX5_has, Cond.code yX5_has cX5_has 2 (some .boolean), Cond.fieldLink RX5 30 "VolumeHouse$Wishes" "came" "I", Cond.instanceMethod yX3_mayTake, Cond.selects RX3 yX3_mayTake yX3_mayTake, Cond.code yX3_mayTake cX3_mayTake 3 (some .boolean), Cond.fieldLink RX3 18 "VolumeHouse$Readers" "last" "[I"]
def wsX6_go_r5 : List Cond := [Cond.fieldLink RX3 24 "VolumeHouse$Readers" "inHand" "[I", Cond.fieldLink RX3 27 "VolumeHouse$Readers" "inBoxes" "[I", Cond.fieldLink RX3 9 "VolumeHouse$Readers" "rank" "[I", Cond.methodLink RX3 34 yX3_has, Cond.instanceMethod yX1_onShelf, Cond.selects RX1 yX1_onShelf yX1_onShelf, Cond.code yX1_onShelf cX1_onShelf 4 (some .int), Cond.methodLink RX6 261 yX6_goesAhead, Cond.instanceMethod yX6_goesAhead, Cond.selects RX6 yX6_goesAhead yX6_goesAhead, Cond.code yX6_goesAhead cX6_goesAhead 5 (some .boolean), Cond.instanceMethod yX3_rankOf, Cond.selects RX3 yX3_rankOf yX3_rankOf, Cond.code yX3_rankOf cX3_rankOf 2 (some .int), Cond.methodLink RX6 255 yX6_lendFor, Cond.instanceMethod yX6_lendFor, Cond.selects RX6 yX6_lendFor yX6_lendFor, Cond.code yX6_lendFor cX6_lendFor 4 none, Cond.instanceMethod yX1_leastOnShelf, Cond.selects RX1 yX1_leastOnShelf yX1_leastOnShelf, Cond.code yX1_leastOnShelf cX1_leastOnShelf 4 (some .int), Cond.fieldLink RX1 42 "VolumeHouse$Copies" "came" "I", Cond.instanceMethod yX1_lend, Cond.selects RX1 yX1_lend yX1_lend]
def wsX6_go_r6 : List Cond := [Cond.code yX1_lend cX1_lend 4 none, Cond.fieldLink RX1 36 "VolumeHouse$Copies" "timesLent" "[I", Cond.instanceMethod yX1_sendOut, Cond.selects RX1 yX1_sendOut yX1_sendOut, Cond.code yX1_sendOut cX1_sendOut 3 none]
def wsX6_go : List Cond := .code yX6_go cX6_go 5 (some .int) :: ((wsX6_go_r1 ++ (wsX6_go_r2 ++ (wsX6_go_r3 ++ (wsX6_go_r4 ++ (wsX6_go_r5 ++ wsX6_go_r6))))) ++ wsX60 ++ wsX10 ++ wsX30 ++ wsX50)
def wsX6_lateCost_r1 : List Cond := [Cond.fieldLink RX6 26 "VolumeHouse" "copies" "LVolumeHouse$Copies;", Cond.fieldLink RX6 33 "VolumeHouse" "readers" "LVolumeHouse$Readers;", Cond.fieldLink RX6 51 "VolumeHouse" "now" "I", Cond.instanceMethod yX1_isAt, Cond.initialized RX1, Cond.selects RX1 yX1_isAt yX1_isAt, Cond.code yX1_isAt cX1_isAt 3 (some .boolean), Cond.fieldLink RX1 9 "VolumeHouse$Copies" "where" "[I", Cond.methodLink RX1 52 yX1_has, Cond.instanceMethod yX1_has, Cond.selects RX1 yX1_has yX1_has, Cond.code yX1_has cX1_has 2 (some .boolean), Cond.fieldLink RX1 42 "VolumeHouse$Copies" "came" "I", Cond.instanceMethod yX3_lateCost, Cond.initialized RX3, Cond.selects RX3 yX3_lateCost yX3_lateCost, Cond.code yX3_lateCost cX3_lateCost 4 (some .int), Cond.methodLink RX3 48 Lib.Math.max.name, Cond.static Lib.Math.max.name, Cond.initialized "java/lang/Math", Cond.code Lib.Math.max.name Lib.Math.max.code 2 (some .int), Cond.methodLink RX3 41 yX3_rankOf, Cond.instanceMethod yX3_rankOf, Cond.selects RX3 yX3_rankOf yX3_rankOf]
def wsX6_lateCost_r2 : List Cond := [Cond.code yX3_rankOf cX3_rankOf 2 (some .int), Cond.fieldLink RX3 9 "VolumeHouse$Readers" "rank" "[I", Cond.methodLink RX3 34 yX3_has, Cond.instanceMethod yX3_has, Cond.selects RX3 yX3_has yX3_has, Cond.code yX3_has cX3_has 2 (some .boolean), Cond.fieldLink RX3 30 "VolumeHouse$Readers" "came" "I"]
def wsX6_lateCost : List Cond := .code yX6_lateCost cX6_lateCost 3 (some .int) :: ((wsX6_lateCost_r1 ++ wsX6_lateCost_r2) ++ wsX60 ++ wsX10 ++ wsX30)
def wsX6_countAsHad_r1 : List Cond := [Cond.fieldLink RX6 40 "VolumeHouse" "wishes" "LVolumeHouse$Wishes;", Cond.fieldLink RX6 10 "VolumeHouse" "titles" "LVolumeHouse$Titles;", Cond.fieldLink RX6 51 "VolumeHouse" "now" "I", Cond.instanceMethod yX5_has, Cond.initialized RX5, Cond.selects RX5 yX5_has yX5_has, Cond.code yX5_has cX5_has 2 (some .boolean), Cond.fieldLink RX5 30 "VolumeHouse$Wishes" "came" "I", Cond.instanceMethod yX4_volumesOf, Cond.initialized RX4, Cond.selects RX4 yX4_volumesOf yX4_volumesOf, Cond.code yX4_volumesOf cX4_volumesOf 2 (some .int), Cond.fieldLink RX4 9 "VolumeHouse$Titles" "volumes" "[I", Cond.methodLink RX4 23 yX4_has, Cond.instanceMethod yX4_has, Cond.selects RX4 yX4_has yX4_has, Cond.code yX4_has cX4_has 2 (some .boolean), Cond.fieldLink RX4 15 "VolumeHouse$Titles" "came" "I", Cond.instanceMethod yX5_countAsHad, Cond.selects RX5 yX5_countAsHad yX5_countAsHad, Cond.code yX5_countAsHad cX5_countAsHad 4 none, Cond.fieldLink RX5 24 "VolumeHouse$Wishes" "held" "[I", Cond.fieldLink RX5 21 "VolumeHouse$Wishes" "had" "[I", Cond.fieldLink RX5 27 "VolumeHouse$Wishes" "since" "[I"]
def wsX6_countAsHad_r2 : List Cond := [Cond.fieldLink RX5 18 "VolumeHouse$Wishes" "state" "[I"]
def wsX6_countAsHad : List Cond := .code yX6_countAsHad cX6_countAsHad 2 none :: ((wsX6_countAsHad_r1 ++ wsX6_countAsHad_r2) ++ wsX60 ++ wsX50 ++ wsX40)
def wsX6_back_r1 : List Cond := [Cond.fieldLink RX6 26 "VolumeHouse" "copies" "LVolumeHouse$Copies;", Cond.fieldLink RX6 33 "VolumeHouse" "readers" "LVolumeHouse$Readers;", Cond.instanceMethod yX1_isAt, Cond.initialized RX1, Cond.selects RX1 yX1_isAt yX1_isAt, Cond.code yX1_isAt cX1_isAt 3 (some .boolean), Cond.fieldLink RX1 9 "VolumeHouse$Copies" "where" "[I", Cond.methodLink RX1 52 yX1_has, Cond.instanceMethod yX1_has, Cond.selects RX1 yX1_has yX1_has, Cond.code yX1_has cX1_has 2 (some .boolean), Cond.fieldLink RX1 42 "VolumeHouse$Copies" "came" "I", Cond.instanceMethod yX3_has, Cond.initialized RX3, Cond.selects RX3 yX3_has yX3_has, Cond.code yX3_has cX3_has 2 (some .boolean), Cond.fieldLink RX3 30 "VolumeHouse$Readers" "came" "I", Cond.methodLink RX6 140 yX6_lateCost, Cond.instanceMethod yX6_lateCost, Cond.selects RX6 yX6_lateCost yX6_lateCost, Cond.initialized RX6, Cond.code yX6_lateCost cX6_lateCost 3 (some .int), Cond.fieldLink RX6 51 "VolumeHouse" "now" "I", Cond.instanceMethod yX3_lateCost]
def wsX6_back_r2 : List Cond := [Cond.selects RX3 yX3_lateCost yX3_lateCost, Cond.code yX3_lateCost cX3_lateCost 4 (some .int), Cond.methodLink RX3 48 Lib.Math.max.name, Cond.static Lib.Math.max.name, Cond.initialized "java/lang/Math", Cond.code Lib.Math.max.name Lib.Math.max.code 2 (some .int), Cond.methodLink RX3 41 yX3_rankOf, Cond.instanceMethod yX3_rankOf, Cond.selects RX3 yX3_rankOf yX3_rankOf, Cond.code yX3_rankOf cX3_rankOf 2 (some .int), Cond.fieldLink RX3 9 "VolumeHouse$Readers" "rank" "[I", Cond.methodLink RX3 34 yX3_has, Cond.methodLink RX6 149 yX6_countAsHad, Cond.instanceMethod yX6_countAsHad, Cond.selects RX6 yX6_countAsHad yX6_countAsHad, Cond.code yX6_countAsHad cX6_countAsHad 2 none, Cond.fieldLink RX6 40 "VolumeHouse" "wishes" "LVolumeHouse$Wishes;", Cond.fieldLink RX6 10 "VolumeHouse" "titles" "LVolumeHouse$Titles;", Cond.instanceMethod yX5_has, Cond.initialized RX5, Cond.selects RX5 yX5_has yX5_has, Cond.code yX5_has cX5_has 2 (some .boolean), Cond.fieldLink RX5 30 "VolumeHouse$Wishes" "came" "I", Cond.instanceMethod yX4_volumesOf]
def wsX6_back_r3 : List Cond := [Cond.initialized RX4, Cond.selects RX4 yX4_volumesOf yX4_volumesOf, Cond.code yX4_volumesOf cX4_volumesOf 2 (some .int), Cond.fieldLink RX4 9 "VolumeHouse$Titles" "volumes" "[I", Cond.methodLink RX4 23 yX4_has, Cond.instanceMethod yX4_has, Cond.selects RX4 yX4_has yX4_has, Cond.code yX4_has cX4_has 2 (some .boolean), Cond.fieldLink RX4 15 "VolumeHouse$Titles" "came" "I", Cond.instanceMethod yX5_countAsHad, Cond.selects RX5 yX5_countAsHad yX5_countAsHad, Cond.code yX5_countAsHad cX5_countAsHad 4 none, Cond.fieldLink RX5 24 "VolumeHouse$Wishes" "held" "[I", Cond.fieldLink RX5 21 "VolumeHouse$Wishes" "had" "[I", Cond.fieldLink RX5 27 "VolumeHouse$Wishes" "since" "[I", Cond.fieldLink RX5 18 "VolumeHouse$Wishes" "state" "[I", Cond.instanceMethod yX1_shelve, Cond.selects RX1 yX1_shelve yX1_shelve, Cond.code yX1_shelve cX1_shelve 2 none, Cond.methodLink RX1 64 yX1_moveTo, Cond.instanceMethod yX1_moveTo, Cond.selects RX1 yX1_moveTo yX1_moveTo, Cond.code yX1_moveTo cX1_moveTo 3 none, Cond.methodLink RX1 74 yX1_tally]
def wsX6_back_r4 : List Cond := [Cond.instanceMethod yX1_tally, Cond.selects RX1 yX1_tally yX1_tally, Cond.code yX1_tally cX1_tally 4 none, Cond.fieldLink RX1 15 "VolumeHouse$Copies" "title" "[I", Cond.fieldLink RX1 18 "VolumeHouse$Copies" "volume" "[I", Cond.fieldLink RX1 39 "VolumeHouse$Copies" "shelved" "[I", Cond.fieldLink RX1 46 "VolumeHouse$Copies" "inBoxes" "I", Cond.fieldLink RX1 49 "VolumeHouse$Copies" "lost" "I", Cond.methodLink RX1 60 yX1_slot, Cond.instanceMethod yX1_slot, Cond.selects RX1 yX1_slot yX1_slot, Cond.code yX1_slot cX1_slot 3 (some .int), Cond.methodLink RX1 71 yX1_inBox, Cond.instanceMethod yX1_inBox, Cond.selects RX1 yX1_inBox yX1_inBox, Cond.code yX1_inBox cX1_inBox 2 (some .boolean), Cond.methodLink RX1 68 yX1_belongToNobody, Cond.instanceMethod yX1_belongToNobody, Cond.selects RX1 yX1_belongToNobody yX1_belongToNobody, Cond.code yX1_belongToNobody cX1_belongToNobody 2 none, Cond.fieldLink RX1 24 "VolumeHouse$Copies" "reader" "[I", Cond.fieldLink RX1 27 "VolumeHouse$Copies" "wish" "[I", Cond.fieldLink RX1 30 "VolumeHouse$Copies" "since" "[I", Cond.fieldLink RX1 33 "VolumeHouse$Copies" "daysToGo" "[I"]
def wsX6_back_r5 : List Cond := [Cond.instanceMethod yX1_sendBack, Cond.selects RX1 yX1_sendBack yX1_sendBack, Cond.code yX1_sendBack cX1_sendBack 3 none]
def wsX6_back : List Cond := .code yX6_back cX6_back 4 (some .int) :: ((wsX6_back_r1 ++ (wsX6_back_r2 ++ (wsX6_back_r3 ++ (wsX6_back_r4 ++ wsX6_back_r5)))) ++ wsX60 ++ wsX10 ++ wsX30 ++ wsX50 ++ wsX40)
def wsX6_takeFrom : List Cond := .code yX6_takeFrom cX6_takeFrom 3 none :: ([.fieldLink RX6 26 "VolumeHouse" "copies" "LVolumeHouse$Copies;", .fieldLink RX6 33 "VolumeHouse" "readers" "LVolumeHouse$Readers;", .instanceMethod yX1_isAt, .initialized RX1, .selects RX1 yX1_isAt yX1_isAt, .code yX1_isAt cX1_isAt 3 (some .boolean), .fieldLink RX1 9 "VolumeHouse$Copies" "where" "[I", .methodLink RX1 52 yX1_has, .instanceMethod yX1_has, .selects RX1 yX1_has yX1_has, .code yX1_has cX1_has 2 (some .boolean), .fieldLink RX1 42 "VolumeHouse$Copies" "came" "I"] ++ wsX60 ++ wsX30 ++ wsX10)
def wsX6_lose_r1 : List Cond := [Cond.fieldLink RX6 26 "VolumeHouse" "copies" "LVolumeHouse$Copies;", Cond.fieldLink RX6 33 "VolumeHouse" "readers" "LVolumeHouse$Readers;", Cond.instanceMethod yX1_has, Cond.initialized RX1, Cond.selects RX1 yX1_has yX1_has, Cond.code yX1_has cX1_has 2 (some .boolean), Cond.fieldLink RX1 42 "VolumeHouse$Copies" "came" "I", Cond.instanceMethod yX1_isAt, Cond.selects RX1 yX1_isAt yX1_isAt, Cond.code yX1_isAt cX1_isAt 3 (some .boolean), Cond.fieldLink RX1 9 "VolumeHouse$Copies" "where" "[I", Cond.methodLink RX1 52 yX1_has, Cond.instanceMethod yX3_has, Cond.initialized RX3, Cond.selects RX3 yX3_has yX3_has, Cond.code yX3_has cX3_has 2 (some .boolean), Cond.fieldLink RX3 30 "VolumeHouse$Readers" "came" "I", Cond.methodLink RX6 140 yX6_lateCost, Cond.instanceMethod yX6_lateCost, Cond.selects RX6 yX6_lateCost yX6_lateCost, Cond.initialized RX6, Cond.code yX6_lateCost cX6_lateCost 3 (some .int), Cond.fieldLink RX6 51 "VolumeHouse" "now" "I", Cond.instanceMethod yX3_lateCost]
def wsX6_lose_r2 : List Cond := [Cond.selects RX3 yX3_lateCost yX3_lateCost, Cond.code yX3_lateCost cX3_lateCost 4 (some .int), Cond.methodLink RX3 48 Lib.Math.max.name, Cond.static Lib.Math.max.name, Cond.initialized "java/lang/Math", Cond.code Lib.Math.max.name Lib.Math.max.code 2 (some .int), Cond.methodLink RX3 41 yX3_rankOf, Cond.instanceMethod yX3_rankOf, Cond.selects RX3 yX3_rankOf yX3_rankOf, Cond.code yX3_rankOf cX3_rankOf 2 (some .int), Cond.fieldLink RX3 9 "VolumeHouse$Readers" "rank" "[I", Cond.methodLink RX3 34 yX3_has, Cond.methodLink RX6 149 yX6_countAsHad, Cond.instanceMethod yX6_countAsHad, Cond.selects RX6 yX6_countAsHad yX6_countAsHad, Cond.code yX6_countAsHad cX6_countAsHad 2 none, Cond.fieldLink RX6 40 "VolumeHouse" "wishes" "LVolumeHouse$Wishes;", Cond.fieldLink RX6 10 "VolumeHouse" "titles" "LVolumeHouse$Titles;", Cond.instanceMethod yX5_has, Cond.initialized RX5, Cond.selects RX5 yX5_has yX5_has, Cond.code yX5_has cX5_has 2 (some .boolean), Cond.fieldLink RX5 30 "VolumeHouse$Wishes" "came" "I", Cond.instanceMethod yX4_volumesOf]
def wsX6_lose_r3 : List Cond := [Cond.initialized RX4, Cond.selects RX4 yX4_volumesOf yX4_volumesOf, Cond.code yX4_volumesOf cX4_volumesOf 2 (some .int), Cond.fieldLink RX4 9 "VolumeHouse$Titles" "volumes" "[I", Cond.methodLink RX4 23 yX4_has, Cond.instanceMethod yX4_has, Cond.selects RX4 yX4_has yX4_has, Cond.code yX4_has cX4_has 2 (some .boolean), Cond.fieldLink RX4 15 "VolumeHouse$Titles" "came" "I", Cond.instanceMethod yX5_countAsHad, Cond.selects RX5 yX5_countAsHad yX5_countAsHad, Cond.code yX5_countAsHad cX5_countAsHad 4 none, Cond.fieldLink RX5 24 "VolumeHouse$Wishes" "held" "[I", Cond.fieldLink RX5 21 "VolumeHouse$Wishes" "had" "[I", Cond.fieldLink RX5 27 "VolumeHouse$Wishes" "since" "[I", Cond.fieldLink RX5 18 "VolumeHouse$Wishes" "state" "[I", Cond.methodLink RX6 172 yX6_takeFrom, Cond.instanceMethod yX6_takeFrom, Cond.selects RX6 yX6_takeFrom yX6_takeFrom, Cond.code yX6_takeFrom cX6_takeFrom 3 none, Cond.instanceMethod yX1_leaveFor, Cond.selects RX1 yX1_leaveFor yX1_leaveFor, Cond.code yX1_leaveFor cX1_leaveFor 3 none, Cond.methodLink RX1 64 yX1_moveTo]
def wsX6_lose_r4 : List Cond := [Cond.instanceMethod yX1_moveTo, Cond.selects RX1 yX1_moveTo yX1_moveTo, Cond.code yX1_moveTo cX1_moveTo 3 none, Cond.methodLink RX1 74 yX1_tally, Cond.instanceMethod yX1_tally, Cond.selects RX1 yX1_tally yX1_tally, Cond.code yX1_tally cX1_tally 4 none, Cond.fieldLink RX1 15 "VolumeHouse$Copies" "title" "[I", Cond.fieldLink RX1 18 "VolumeHouse$Copies" "volume" "[I", Cond.fieldLink RX1 39 "VolumeHouse$Copies" "shelved" "[I", Cond.fieldLink RX1 46 "VolumeHouse$Copies" "inBoxes" "I", Cond.fieldLink RX1 49 "VolumeHouse$Copies" "lost" "I", Cond.methodLink RX1 60 yX1_slot, Cond.instanceMethod yX1_slot, Cond.selects RX1 yX1_slot yX1_slot, Cond.code yX1_slot cX1_slot 3 (some .int), Cond.methodLink RX1 71 yX1_inBox, Cond.instanceMethod yX1_inBox, Cond.selects RX1 yX1_inBox yX1_inBox, Cond.code yX1_inBox cX1_inBox 2 (some .boolean), Cond.methodLink RX1 68 yX1_belongToNobody, Cond.instanceMethod yX1_belongToNobody, Cond.selects RX1 yX1_belongToNobody yX1_belongToNobody, Cond.code yX1_belongToNobody cX1_belongToNobody 2 none]
def wsX6_lose_r5 : List Cond := [Cond.fieldLink RX1 24 "VolumeHouse$Copies" "reader" "[I", Cond.fieldLink RX1 27 "VolumeHouse$Copies" "wish" "[I", Cond.fieldLink RX1 30 "VolumeHouse$Copies" "since" "[I", Cond.fieldLink RX1 33 "VolumeHouse$Copies" "daysToGo" "[I"]
def wsX6_lose : List Cond := .code yX6_lose cX6_lose 4 (some .int) :: ((wsX6_lose_r1 ++ (wsX6_lose_r2 ++ (wsX6_lose_r3 ++ (wsX6_lose_r4 ++ wsX6_lose_r5)))) ++ wsX60 ++ wsX10 ++ wsX30 ++ wsX50 ++ wsX40)
def wsX6_pay : List Cond := .code yX6_pay cX6_pay 3 (some .int) :: ([.fieldLink RX6 33 "VolumeHouse" "readers" "LVolumeHouse$Readers;", .fieldLink RX6 61 "VolumeHouse" "paid" "I", .instanceMethod yX3_has, .initialized RX3, .selects RX3 yX3_has yX3_has, .code yX3_has cX3_has 2 (some .boolean), .fieldLink RX3 30 "VolumeHouse$Readers" "came" "I", .methodLink RX6 64 yX6_within, .static yX6_within, .initialized RX6, .code yX6_within cX6_within 3 (some .boolean)] ++ wsX60 ++ wsX30)
def wsX6_copy : List Cond := .code yX6_copy cX6_copy 3 (some .int) :: ([.fieldLink RX6 26 "VolumeHouse" "copies" "LVolumeHouse$Copies;", .instanceMethod yX1_has, .initialized RX1, .selects RX1 yX1_has yX1_has, .code yX1_has cX1_has 2 (some .boolean), .fieldLink RX1 42 "VolumeHouse$Copies" "came" "I"] ++ wsX60 ++ wsX10)
def wsX6_told : List Cond := .code yX6_told cX6_told 3 (some .int) :: ([.fieldLink RX6 33 "VolumeHouse" "readers" "LVolumeHouse$Readers;", .fieldLink RX6 40 "VolumeHouse" "wishes" "LVolumeHouse$Wishes;", .instanceMethod yX3_has, .initialized RX3, .selects RX3 yX3_has yX3_has, .code yX3_has cX3_has 2 (some .boolean), .fieldLink RX3 30 "VolumeHouse$Readers" "came" "I", .instanceMethod yX5_openOf, .initialized RX5, .selects RX5 yX5_openOf yX5_openOf, .code yX5_openOf cX5_openOf 4 (some .int), .fieldLink RX5 30 "VolumeHouse$Wishes" "came" "I", .fieldLink RX5 18 "VolumeHouse$Wishes" "state" "[I", .fieldLink RX5 9 "VolumeHouse$Wishes" "reader" "[I"] ++ wsX60 ++ wsX30 ++ wsX50)
def wsX6_wished : List Cond := .code yX6_wished cX6_wished 3 (some .int) :: ([.fieldLink RX6 40 "VolumeHouse" "wishes" "LVolumeHouse$Wishes;", .instanceMethod yX5_has, .initialized RX5, .selects RX5 yX5_has yX5_has, .code yX5_has cX5_has 2 (some .boolean), .fieldLink RX5 30 "VolumeHouse$Wishes" "came" "I", .instanceMethod yX5_waits, .selects RX5 yX5_waits yX5_waits, .code yX5_waits cX5_waits 2 (some .boolean), .fieldLink RX5 24 "VolumeHouse$Wishes" "held" "[I", .methodLink RX5 38 yX5_isOpen, .instanceMethod yX5_isOpen, .selects RX5 yX5_isOpen yX5_isOpen, .code yX5_isOpen cX5_isOpen 2 (some .boolean), .fieldLink RX5 18 "VolumeHouse$Wishes" "state" "[I", .methodLink RX5 34 yX5_has] ++ wsX60 ++ wsX50)
def wsX6_waiting_r1 : List Cond := [Cond.fieldLink RX6 10 "VolumeHouse" "titles" "LVolumeHouse$Titles;", Cond.fieldLink RX6 40 "VolumeHouse" "wishes" "LVolumeHouse$Wishes;", Cond.instanceMethod yX4_hasVolume, Cond.initialized RX4, Cond.selects RX4 yX4_hasVolume yX4_hasVolume, Cond.code yX4_hasVolume cX4_hasVolume 3 (some .boolean), Cond.methodLink RX4 19 yX4_volumesOf, Cond.instanceMethod yX4_volumesOf, Cond.selects RX4 yX4_volumesOf yX4_volumesOf, Cond.code yX4_volumesOf cX4_volumesOf 2 (some .int), Cond.fieldLink RX4 9 "VolumeHouse$Titles" "volumes" "[I", Cond.methodLink RX4 23 yX4_has, Cond.instanceMethod yX4_has, Cond.selects RX4 yX4_has yX4_has, Cond.code yX4_has cX4_has 2 (some .boolean), Cond.fieldLink RX4 15 "VolumeHouse$Titles" "came" "I", Cond.instanceMethod yX5_waitingFor, Cond.initialized RX5, Cond.selects RX5 yX5_waitingFor yX5_waitingFor, Cond.code yX5_waitingFor cX5_waitingFor 5 (some .int), Cond.fieldLink RX5 30 "VolumeHouse$Wishes" "came" "I", Cond.fieldLink RX5 15 "VolumeHouse$Wishes" "title" "[I", Cond.fieldLink RX5 21 "VolumeHouse$Wishes" "had" "[I", Cond.methodLink RX5 41 yX5_waits]
def wsX6_waiting_r2 : List Cond := [Cond.instanceMethod yX5_waits, Cond.selects RX5 yX5_waits yX5_waits, Cond.code yX5_waits cX5_waits 2 (some .boolean), Cond.fieldLink RX5 24 "VolumeHouse$Wishes" "held" "[I", Cond.methodLink RX5 38 yX5_isOpen, Cond.instanceMethod yX5_isOpen, Cond.selects RX5 yX5_isOpen yX5_isOpen, Cond.code yX5_isOpen cX5_isOpen 2 (some .boolean), Cond.fieldLink RX5 18 "VolumeHouse$Wishes" "state" "[I", Cond.methodLink RX5 34 yX5_has, Cond.instanceMethod yX5_has, Cond.selects RX5 yX5_has yX5_has, Cond.code yX5_has cX5_has 2 (some .boolean)]
def wsX6_waiting : List Cond := .code yX6_waiting cX6_waiting 3 (some .int) :: ((wsX6_waiting_r1 ++ wsX6_waiting_r2) ++ wsX60 ++ wsX40 ++ wsX50)
def wsX6_sets : List Cond := .code yX6_sets cX6_sets 5 (some .int) :: ([.fieldLink RX6 10 "VolumeHouse" "titles" "LVolumeHouse$Titles;", .fieldLink RX6 26 "VolumeHouse" "copies" "LVolumeHouse$Copies;", .methodLink RX6 125 Lib.Math.min.name, .static Lib.Math.min.name, .initialized "java/lang/Math", .code Lib.Math.min.name Lib.Math.min.code 2 (some .int), .instanceMethod yX4_has, .initialized RX4, .selects RX4 yX4_has yX4_has, .code yX4_has cX4_has 2 (some .boolean), .fieldLink RX4 15 "VolumeHouse$Titles" "came" "I", .instanceMethod yX4_volumesOf, .selects RX4 yX4_volumesOf yX4_volumesOf, .code yX4_volumesOf cX4_volumesOf 2 (some .int), .fieldLink RX4 9 "VolumeHouse$Titles" "volumes" "[I", .methodLink RX4 23 yX4_has, .instanceMethod yX1_inHouse, .initialized RX1, .selects RX1 yX1_inHouse yX1_inHouse, .code yX1_inHouse cX1_inHouse 5 (some .int), .fieldLink RX1 42 "VolumeHouse$Copies" "came" "I", .fieldLink RX1 15 "VolumeHouse$Copies" "title" "[I", .fieldLink RX1 18 "VolumeHouse$Copies" "volume" "[I", .fieldLink RX1 9 "VolumeHouse$Copies" "where" "[I"] ++ wsX60 ++ wsX40 ++ wsX10)
def wsX6_demand : List Cond := .code yX6_demand cX6_demand 5 (some .boolean) :: ([.fieldLink RX6 47 "VolumeHouse" "demands" "LVolumeHouse$Demands;", .methodLink RX6 64 yX6_within, .static yX6_within, .initialized RX6, .code yX6_within cX6_within 3 (some .boolean)] ++ wsX60 ++ wsX20)
def wsX6_canPlan : List Cond := .code yX6_canPlan cX6_canPlan 2 (some .boolean) :: ([.methodLink RX6 64 yX6_within, .static yX6_within, .initialized RX6, .code yX6_within cX6_within 3 (some .boolean)])
def wsX6_best_r1 : List Cond := [Cond.fieldLink RX6 47 "VolumeHouse" "demands" "LVolumeHouse$Demands;", Cond.methodLink RX6 225 yX6_canPlan, Cond.static yX6_canPlan, Cond.initialized RX6, Cond.code yX6_canPlan cX6_canPlan 2 (some .boolean), Cond.methodLink RX6 64 yX6_within, Cond.static yX6_within, Cond.code yX6_within cX6_within 3 (some .boolean), Cond.instanceMethod yX2_setsToBuy, Cond.initialized RX2, Cond.selects RX2 yX2_setsToBuy yX2_setsToBuy, Cond.code yX2_setsToBuy cX2_setsToBuy 4 (some .int), Cond.methodLink RX2 18 yX2_mostOf, Cond.instanceMethod yX2_mostOf, Cond.selects RX2 yX2_mostOf yX2_mostOf, Cond.code yX2_mostOf cX2_mostOf 6 (some .int), Cond.fieldLink RX2 15 "VolumeHouse$Demands" "sale" "[I", Cond.methodLink RX2 26 Lib.Math.max.name, Cond.static Lib.Math.max.name, Cond.initialized "java/lang/Math", Cond.code Lib.Math.max.name Lib.Math.max.code 2 (some .int), Cond.methodLink RX2 22 yX2_gainIn, Cond.instanceMethod yX2_gainIn, Cond.selects RX2 yX2_gainIn yX2_gainIn]
def wsX6_best_r2 : List Cond := [Cond.code yX2_gainIn cX2_gainIn 4 (some .int), Cond.fieldLink RX2 9 "VolumeHouse$Demands" "wanted" "[I"]
def wsX6_best : List Cond := .code yX6_best cX6_best 3 (some .int) :: ((wsX6_best_r1 ++ wsX6_best_r2) ++ wsX60 ++ wsX20)
def wsX6_gain_r1 : List Cond := [Cond.fieldLink RX6 47 "VolumeHouse" "demands" "LVolumeHouse$Demands;", Cond.methodLink RX6 225 yX6_canPlan, Cond.static yX6_canPlan, Cond.initialized RX6, Cond.code yX6_canPlan cX6_canPlan 2 (some .boolean), Cond.methodLink RX6 64 yX6_within, Cond.static yX6_within, Cond.code yX6_within cX6_within 3 (some .boolean), Cond.instanceMethod yX2_setsToBuy, Cond.initialized RX2, Cond.selects RX2 yX2_setsToBuy yX2_setsToBuy, Cond.code yX2_setsToBuy cX2_setsToBuy 4 (some .int), Cond.methodLink RX2 18 yX2_mostOf, Cond.instanceMethod yX2_mostOf, Cond.selects RX2 yX2_mostOf yX2_mostOf, Cond.code yX2_mostOf cX2_mostOf 6 (some .int), Cond.fieldLink RX2 15 "VolumeHouse$Demands" "sale" "[I", Cond.methodLink RX2 26 Lib.Math.max.name, Cond.static Lib.Math.max.name, Cond.initialized "java/lang/Math", Cond.code Lib.Math.max.name Lib.Math.max.code 2 (some .int), Cond.methodLink RX2 22 yX2_gainIn, Cond.instanceMethod yX2_gainIn, Cond.selects RX2 yX2_gainIn yX2_gainIn]
def wsX6_gain_r2 : List Cond := [Cond.code yX2_gainIn cX2_gainIn 4 (some .int), Cond.fieldLink RX2 9 "VolumeHouse$Demands" "wanted" "[I"]
def wsX6_gain : List Cond := .code yX6_gain cX6_gain 6 (some .int) :: ((wsX6_gain_r1 ++ wsX6_gain_r2) ++ wsX60 ++ wsX20)
def wsX6_kept_r1 : List Cond := [Cond.fieldLink RX6 47 "VolumeHouse" "demands" "LVolumeHouse$Demands;", Cond.methodLink RX6 225 yX6_canPlan, Cond.static yX6_canPlan, Cond.initialized RX6, Cond.code yX6_canPlan cX6_canPlan 2 (some .boolean), Cond.methodLink RX6 64 yX6_within, Cond.static yX6_within, Cond.code yX6_within cX6_within 3 (some .boolean), Cond.instanceMethod yX2_setsToBuy, Cond.initialized RX2, Cond.selects RX2 yX2_setsToBuy yX2_setsToBuy, Cond.code yX2_setsToBuy cX2_setsToBuy 4 (some .int), Cond.methodLink RX2 18 yX2_mostOf, Cond.instanceMethod yX2_mostOf, Cond.selects RX2 yX2_mostOf yX2_mostOf, Cond.code yX2_mostOf cX2_mostOf 6 (some .int), Cond.fieldLink RX2 15 "VolumeHouse$Demands" "sale" "[I", Cond.methodLink RX2 26 Lib.Math.max.name, Cond.static Lib.Math.max.name, Cond.initialized "java/lang/Math", Cond.code Lib.Math.max.name Lib.Math.max.code 2 (some .int), Cond.methodLink RX2 22 yX2_gainIn, Cond.instanceMethod yX2_gainIn, Cond.selects RX2 yX2_gainIn yX2_gainIn]
def wsX6_kept_r2 : List Cond := [Cond.code yX2_gainIn cX2_gainIn 4 (some .int), Cond.fieldLink RX2 9 "VolumeHouse$Demands" "wanted" "[I", Cond.instanceMethod yX2_weeksOf, Cond.selects RX2 yX2_weeksOf yX2_weeksOf, Cond.code yX2_weeksOf cX2_weeksOf 6 (some .int)]
def wsX6_kept : List Cond := .code yX6_kept cX6_kept 4 (some .int) :: ((wsX6_kept_r1 ++ wsX6_kept_r2) ++ wsX60 ++ wsX20)
def wsX6_count : List Cond := .code yX6_count cX6_count 2 (some .int) :: ([.fieldLink RX6 51 "VolumeHouse" "now" "I", .fieldLink RX6 10 "VolumeHouse" "titles" "LVolumeHouse$Titles;", .fieldLink RX6 26 "VolumeHouse" "copies" "LVolumeHouse$Copies;", .fieldLink RX6 33 "VolumeHouse" "readers" "LVolumeHouse$Readers;", .fieldLink RX6 40 "VolumeHouse" "wishes" "LVolumeHouse$Wishes;", .fieldLink RX6 55 "VolumeHouse" "spent" "I", .fieldLink RX6 58 "VolumeHouse" "earned" "I", .fieldLink RX6 61 "VolumeHouse" "paid" "I"] ++ wsX60 ++ wsX40 ++ wsX10 ++ wsX30 ++ wsX50)
def wsX7_init_r1 : List Cond := [Cond.methodLink RX7 1 objectInit, Cond.instanceMethod objectInit, Cond.code objectInit ⟨#[0xb1]⟩ 1 none, Cond.arrayClass .int, Cond.fieldLink RX7 9 "VolumeHouseModel" "volumes" "[I", Cond.fieldLink RX7 13 "VolumeHouseModel" "titleOf" "[I", Cond.fieldLink RX7 16 "VolumeHouseModel" "volumeOf" "[I", Cond.fieldLink RX7 19 "VolumeHouseModel" "costOf" "[I", Cond.fieldLink RX7 22 "VolumeHouseModel" "state" "[I", Cond.fieldLink RX7 25 "VolumeHouseModel" "readerOf" "[I", Cond.fieldLink RX7 28 "VolumeHouseModel" "wishOf" "[I", Cond.fieldLink RX7 31 "VolumeHouseModel" "since" "[I", Cond.fieldLink RX7 34 "VolumeHouseModel" "toGo" "[I", Cond.fieldLink RX7 37 "VolumeHouseModel" "lent" "[I", Cond.fieldLink RX7 40 "VolumeHouseModel" "rank" "[I", Cond.fieldLink RX7 43 "VolumeHouseModel" "boxDays" "[I", Cond.fieldLink RX7 46 "VolumeHouseModel" "last" "[I", Cond.fieldLink RX7 49 "VolumeHouseModel" "owed" "[I", Cond.fieldLink RX7 52 "VolumeHouseModel" "wisher" "[I", Cond.fieldLink RX7 55 "VolumeHouseModel" "wishTitle" "[I", Cond.fieldLink RX7 58 "VolumeHouseModel" "wishState" "[I", Cond.fieldLink RX7 61 "VolumeHouseModel" "had" "[I", Cond.fieldLink RX7 64 "VolumeHouseModel" "waitsFrom" "[I", Cond.fieldLink RX7 67 "VolumeHouseModel" "bargainTitle" "[I"]
def wsX7_init_r2 : List Cond := [Cond.fieldLink RX7 70 "VolumeHouseModel" "bargainDay" "[I", Cond.fieldLink RX7 73 "VolumeHouseModel" "bargainMany" "[I", Cond.fieldLink RX7 76 "VolumeHouseModel" "bargainPrice" "[I", Cond.fieldLink RX7 79 "VolumeHouseModel" "bargainBeyond" "[I", Cond.fieldLink RX7 82 "VolumeHouseModel" "wanted" "[I", Cond.fieldLink RX7 85 "VolumeHouseModel" "sale" "[I"]
def wsX7_init : List Cond := .code yX7_init cX7_init 1 none :: ((wsX7_init_r1 ++ wsX7_init_r2) ++ wsX70)
def wsX7_in : List Cond := .code yX7_in cX7_in 3 (some .boolean) :: ([])
def wsX7_isTitle : List Cond := .code yX7_isTitle cX7_isTitle 2 (some .boolean) :: ([.fieldLink RX7 88 "VolumeHouseModel" "titles" "I", .methodLink RX7 92 yX7_in, .static yX7_in, .initialized RX7, .code yX7_in cX7_in 3 (some .boolean)] ++ wsX70)
def wsX7_isReader : List Cond := .code yX7_isReader cX7_isReader 2 (some .boolean) :: ([.fieldLink RX7 96 "VolumeHouseModel" "readers" "I", .methodLink RX7 92 yX7_in, .static yX7_in, .initialized RX7, .code yX7_in cX7_in 3 (some .boolean)] ++ wsX70)
def wsX7_isCopy : List Cond := .code yX7_isCopy cX7_isCopy 2 (some .boolean) :: ([.fieldLink RX7 99 "VolumeHouseModel" "copies" "I", .methodLink RX7 92 yX7_in, .static yX7_in, .initialized RX7, .code yX7_in cX7_in 3 (some .boolean)] ++ wsX70)
def wsX7_isWish : List Cond := .code yX7_isWish cX7_isWish 2 (some .boolean) :: ([.fieldLink RX7 102 "VolumeHouseModel" "wishes" "I", .methodLink RX7 92 yX7_in, .static yX7_in, .initialized RX7, .code yX7_in cX7_in 3 (some .boolean)] ++ wsX70)
def wsX7_title : List Cond := .code yX7_title cX7_title 2 (some .int) :: ([.fieldLink RX7 88 "VolumeHouseModel" "titles" "I", .fieldLink RX7 9 "VolumeHouseModel" "volumes" "[I", .methodLink RX7 92 yX7_in, .static yX7_in, .initialized RX7, .code yX7_in cX7_in 3 (some .boolean)] ++ wsX70)
def wsX7_bargain : List Cond := .code yX7_bargain cX7_bargain 6 (some .boolean) :: ([.fieldLink RX7 109 "VolumeHouseModel" "bargains" "I", .fieldLink RX7 67 "VolumeHouseModel" "bargainTitle" "[I", .fieldLink RX7 70 "VolumeHouseModel" "bargainDay" "[I", .fieldLink RX7 73 "VolumeHouseModel" "bargainMany" "[I", .fieldLink RX7 76 "VolumeHouseModel" "bargainPrice" "[I", .fieldLink RX7 79 "VolumeHouseModel" "bargainBeyond" "[I", .methodLink RX7 105 yX7_isTitle, .instanceMethod yX7_isTitle, .selects RX7 yX7_isTitle yX7_isTitle, .initialized RX7, .code yX7_isTitle cX7_isTitle 2 (some .boolean), .fieldLink RX7 88 "VolumeHouseModel" "titles" "I", .methodLink RX7 92 yX7_in, .static yX7_in, .code yX7_in cX7_in 3 (some .boolean)] ++ wsX70)
def wsX7_bargainOf : List Cond := .code yX7_bargainOf cX7_bargainOf 4 (some .int) :: ([.fieldLink RX7 109 "VolumeHouseModel" "bargains" "I", .fieldLink RX7 67 "VolumeHouseModel" "bargainTitle" "[I", .fieldLink RX7 70 "VolumeHouseModel" "bargainDay" "[I", .fieldLink RX7 112 "VolumeHouseModel" "now" "I"] ++ wsX70)
def wsX7_buy_r1 : List Cond := [Cond.fieldLink RX7 99 "VolumeHouseModel" "copies" "I", Cond.fieldLink RX7 9 "VolumeHouseModel" "volumes" "[I", Cond.fieldLink RX7 73 "VolumeHouseModel" "bargainMany" "[I", Cond.fieldLink RX7 76 "VolumeHouseModel" "bargainPrice" "[I", Cond.fieldLink RX7 79 "VolumeHouseModel" "bargainBeyond" "[I", Cond.fieldLink RX7 13 "VolumeHouseModel" "titleOf" "[I", Cond.fieldLink RX7 16 "VolumeHouseModel" "volumeOf" "[I", Cond.fieldLink RX7 19 "VolumeHouseModel" "costOf" "[I", Cond.fieldLink RX7 22 "VolumeHouseModel" "state" "[I", Cond.fieldLink RX7 25 "VolumeHouseModel" "readerOf" "[I", Cond.fieldLink RX7 28 "VolumeHouseModel" "wishOf" "[I", Cond.fieldLink RX7 31 "VolumeHouseModel" "since" "[I", Cond.fieldLink RX7 119 "VolumeHouseModel" "spent" "I", Cond.methodLink RX7 105 yX7_isTitle, Cond.instanceMethod yX7_isTitle, Cond.selects RX7 yX7_isTitle yX7_isTitle, Cond.initialized RX7, Cond.code yX7_isTitle cX7_isTitle 2 (some .boolean), Cond.fieldLink RX7 88 "VolumeHouseModel" "titles" "I", Cond.methodLink RX7 92 yX7_in, Cond.static yX7_in, Cond.code yX7_in cX7_in 3 (some .boolean), Cond.methodLink RX7 115 yX7_bargainOf, Cond.instanceMethod yX7_bargainOf]
def wsX7_buy_r2 : List Cond := [Cond.selects RX7 yX7_bargainOf yX7_bargainOf, Cond.code yX7_bargainOf cX7_bargainOf 4 (some .int), Cond.fieldLink RX7 109 "VolumeHouseModel" "bargains" "I", Cond.fieldLink RX7 67 "VolumeHouseModel" "bargainTitle" "[I", Cond.fieldLink RX7 70 "VolumeHouseModel" "bargainDay" "[I", Cond.fieldLink RX7 112 "VolumeHouseModel" "now" "I"]
def wsX7_buy : List Cond := .code yX7_buy cX7_buy 7 (some .int) :: ((wsX7_buy_r1 ++ wsX7_buy_r2) ++ wsX70)
def wsX7_sell : List Cond := .code yX7_sell cX7_sell 3 (some .boolean) :: ([.fieldLink RX7 22 "VolumeHouseModel" "state" "[I", .fieldLink RX7 125 "VolumeHouseModel" "earned" "I", .methodLink RX7 122 yX7_isCopy, .instanceMethod yX7_isCopy, .selects RX7 yX7_isCopy yX7_isCopy, .initialized RX7, .code yX7_isCopy cX7_isCopy 2 (some .boolean), .fieldLink RX7 99 "VolumeHouseModel" "copies" "I", .methodLink RX7 92 yX7_in, .static yX7_in, .code yX7_in cX7_in 3 (some .boolean)] ++ wsX70)
def wsX7_reader : List Cond := .code yX7_reader cX7_reader 4 (some .int) :: ([.fieldLink RX7 96 "VolumeHouseModel" "readers" "I", .fieldLink RX7 40 "VolumeHouseModel" "rank" "[I", .fieldLink RX7 43 "VolumeHouseModel" "boxDays" "[I", .fieldLink RX7 46 "VolumeHouseModel" "last" "[I", .methodLink RX7 92 yX7_in, .static yX7_in, .initialized RX7, .code yX7_in cX7_in 3 (some .boolean)] ++ wsX70)
def wsX7_renew : List Cond := .code yX7_renew cX7_renew 3 (some .boolean) :: ([.fieldLink RX7 46 "VolumeHouseModel" "last" "[I", .methodLink RX7 128 yX7_isReader, .instanceMethod yX7_isReader, .selects RX7 yX7_isReader yX7_isReader, .initialized RX7, .code yX7_isReader cX7_isReader 2 (some .boolean), .fieldLink RX7 96 "VolumeHouseModel" "readers" "I", .methodLink RX7 92 yX7_in, .static yX7_in, .code yX7_in cX7_in 3 (some .boolean)] ++ wsX70)
def wsX7_wish : List Cond := .code yX7_wish cX7_wish 4 (some .int) :: ([.fieldLink RX7 102 "VolumeHouseModel" "wishes" "I", .fieldLink RX7 52 "VolumeHouseModel" "wisher" "[I", .fieldLink RX7 55 "VolumeHouseModel" "wishTitle" "[I", .fieldLink RX7 58 "VolumeHouseModel" "wishState" "[I", .fieldLink RX7 64 "VolumeHouseModel" "waitsFrom" "[I", .fieldLink RX7 112 "VolumeHouseModel" "now" "I", .methodLink RX7 128 yX7_isReader, .instanceMethod yX7_isReader, .selects RX7 yX7_isReader yX7_isReader, .initialized RX7, .code yX7_isReader cX7_isReader 2 (some .boolean), .fieldLink RX7 96 "VolumeHouseModel" "readers" "I", .methodLink RX7 92 yX7_in, .static yX7_in, .code yX7_in cX7_in 3 (some .boolean), .methodLink RX7 105 yX7_isTitle, .instanceMethod yX7_isTitle, .selects RX7 yX7_isTitle yX7_isTitle, .code yX7_isTitle cX7_isTitle 2 (some .boolean), .fieldLink RX7 88 "VolumeHouseModel" "titles" "I"] ++ wsX70)
def wsX7_unwish : List Cond := .code yX7_unwish cX7_unwish 2 (some .boolean) :: ([.fieldLink RX7 58 "VolumeHouseModel" "wishState" "[I", .methodLink RX7 131 yX7_isWish, .instanceMethod yX7_isWish, .selects RX7 yX7_isWish yX7_isWish, .initialized RX7, .code yX7_isWish cX7_isWish 2 (some .boolean), .fieldLink RX7 102 "VolumeHouseModel" "wishes" "I", .methodLink RX7 92 yX7_in, .static yX7_in, .code yX7_in cX7_in 3 (some .boolean)] ++ wsX70)
def wsX7_copyOf : List Cond := .code yX7_copyOf cX7_copyOf 3 (some .int) :: ([.fieldLink RX7 99 "VolumeHouseModel" "copies" "I", .fieldLink RX7 28 "VolumeHouseModel" "wishOf" "[I"] ++ wsX70)
def wsX7_waits : List Cond := .code yX7_waits cX7_waits 2 (some .boolean) :: ([.fieldLink RX7 58 "VolumeHouseModel" "wishState" "[I", .methodLink RX7 134 yX7_copyOf, .instanceMethod yX7_copyOf, .selects RX7 yX7_copyOf yX7_copyOf, .initialized RX7, .code yX7_copyOf cX7_copyOf 3 (some .int), .fieldLink RX7 99 "VolumeHouseModel" "copies" "I", .fieldLink RX7 28 "VolumeHouseModel" "wishOf" "[I"] ++ wsX70)
def wsX7_holds : List Cond := .code yX7_holds cX7_holds 5 (some .int) :: ([.fieldLink RX7 99 "VolumeHouseModel" "copies" "I", .fieldLink RX7 25 "VolumeHouseModel" "readerOf" "[I", .fieldLink RX7 22 "VolumeHouseModel" "state" "[I"] ++ wsX70)
def wsX7_most : List Cond := .code yX7_most cX7_most 2 (some .int) :: ([.fieldLink RX7 40 "VolumeHouseModel" "rank" "[I"] ++ wsX70)
def wsX7_term : List Cond := .code yX7_term cX7_term 1 (some .int) :: ([])
def wsX7_boxes : List Cond := .code yX7_boxes cX7_boxes 2 none :: ([.fieldLink RX7 99 "VolumeHouseModel" "copies" "I", .fieldLink RX7 22 "VolumeHouseModel" "state" "[I", .fieldLink RX7 34 "VolumeHouseModel" "toGo" "[I", .fieldLink RX7 31 "VolumeHouseModel" "since" "[I", .fieldLink RX7 112 "VolumeHouseModel" "now" "I", .fieldLink RX7 25 "VolumeHouseModel" "readerOf" "[I"] ++ wsX70)
def wsX7_shelved : List Cond := .code yX7_shelved cX7_shelved 4 (some .int) :: ([.fieldLink RX7 99 "VolumeHouseModel" "copies" "I", .fieldLink RX7 13 "VolumeHouseModel" "titleOf" "[I", .fieldLink RX7 16 "VolumeHouseModel" "volumeOf" "[I", .fieldLink RX7 22 "VolumeHouseModel" "state" "[I"] ++ wsX70)
def wsX7_canHave_r1 : List Cond := [Cond.fieldLink RX7 52 "VolumeHouseModel" "wisher" "[I", Cond.fieldLink RX7 46 "VolumeHouseModel" "last" "[I", Cond.fieldLink RX7 112 "VolumeHouseModel" "now" "I", Cond.fieldLink RX7 55 "VolumeHouseModel" "wishTitle" "[I", Cond.fieldLink RX7 61 "VolumeHouseModel" "had" "[I", Cond.methodLink RX7 137 yX7_waits, Cond.instanceMethod yX7_waits, Cond.selects RX7 yX7_waits yX7_waits, Cond.initialized RX7, Cond.code yX7_waits cX7_waits 2 (some .boolean), Cond.fieldLink RX7 58 "VolumeHouseModel" "wishState" "[I", Cond.methodLink RX7 134 yX7_copyOf, Cond.instanceMethod yX7_copyOf, Cond.selects RX7 yX7_copyOf yX7_copyOf, Cond.code yX7_copyOf cX7_copyOf 3 (some .int), Cond.fieldLink RX7 99 "VolumeHouseModel" "copies" "I", Cond.fieldLink RX7 28 "VolumeHouseModel" "wishOf" "[I", Cond.methodLink RX7 140 yX7_shelved, Cond.instanceMethod yX7_shelved, Cond.selects RX7 yX7_shelved yX7_shelved, Cond.code yX7_shelved cX7_shelved 4 (some .int), Cond.fieldLink RX7 13 "VolumeHouseModel" "titleOf" "[I", Cond.fieldLink RX7 16 "VolumeHouseModel" "volumeOf" "[I", Cond.fieldLink RX7 22 "VolumeHouseModel" "state" "[I"]
def wsX7_canHave_r2 : List Cond := [Cond.methodLink RX7 144 yX7_holds, Cond.instanceMethod yX7_holds, Cond.selects RX7 yX7_holds yX7_holds, Cond.code yX7_holds cX7_holds 5 (some .int), Cond.fieldLink RX7 25 "VolumeHouseModel" "readerOf" "[I", Cond.methodLink RX7 147 yX7_most, Cond.instanceMethod yX7_most, Cond.selects RX7 yX7_most yX7_most, Cond.code yX7_most cX7_most 2 (some .int), Cond.fieldLink RX7 40 "VolumeHouseModel" "rank" "[I"]
def wsX7_canHave : List Cond := .code yX7_canHave cX7_canHave 3 (some .boolean) :: ((wsX7_canHave_r1 ++ wsX7_canHave_r2) ++ wsX70)
def wsX7_gets : List Cond := .code yX7_gets cX7_gets 4 none :: ([.fieldLink RX7 52 "VolumeHouseModel" "wisher" "[I", .fieldLink RX7 55 "VolumeHouseModel" "wishTitle" "[I", .fieldLink RX7 61 "VolumeHouseModel" "had" "[I", .fieldLink RX7 25 "VolumeHouseModel" "readerOf" "[I", .fieldLink RX7 28 "VolumeHouseModel" "wishOf" "[I", .fieldLink RX7 37 "VolumeHouseModel" "lent" "[I", .fieldLink RX7 34 "VolumeHouseModel" "toGo" "[I", .fieldLink RX7 43 "VolumeHouseModel" "boxDays" "[I", .fieldLink RX7 22 "VolumeHouseModel" "state" "[I", .fieldLink RX7 31 "VolumeHouseModel" "since" "[I", .fieldLink RX7 112 "VolumeHouseModel" "now" "I", .methodLink RX7 140 yX7_shelved, .instanceMethod yX7_shelved, .selects RX7 yX7_shelved yX7_shelved, .initialized RX7, .code yX7_shelved cX7_shelved 4 (some .int), .fieldLink RX7 99 "VolumeHouseModel" "copies" "I", .fieldLink RX7 13 "VolumeHouseModel" "titleOf" "[I", .fieldLink RX7 16 "VolumeHouseModel" "volumeOf" "[I"] ++ wsX70)
def wsX7_turns_r1 : List Cond := [Cond.fieldLink RX7 102 "VolumeHouseModel" "wishes" "I", Cond.fieldLink RX7 40 "VolumeHouseModel" "rank" "[I", Cond.fieldLink RX7 52 "VolumeHouseModel" "wisher" "[I", Cond.fieldLink RX7 64 "VolumeHouseModel" "waitsFrom" "[I", Cond.methodLink RX7 150 yX7_canHave, Cond.instanceMethod yX7_canHave, Cond.selects RX7 yX7_canHave yX7_canHave, Cond.initialized RX7, Cond.code yX7_canHave cX7_canHave 3 (some .boolean), Cond.fieldLink RX7 46 "VolumeHouseModel" "last" "[I", Cond.fieldLink RX7 112 "VolumeHouseModel" "now" "I", Cond.fieldLink RX7 55 "VolumeHouseModel" "wishTitle" "[I", Cond.fieldLink RX7 61 "VolumeHouseModel" "had" "[I", Cond.methodLink RX7 137 yX7_waits, Cond.instanceMethod yX7_waits, Cond.selects RX7 yX7_waits yX7_waits, Cond.code yX7_waits cX7_waits 2 (some .boolean), Cond.fieldLink RX7 58 "VolumeHouseModel" "wishState" "[I", Cond.methodLink RX7 134 yX7_copyOf, Cond.instanceMethod yX7_copyOf, Cond.selects RX7 yX7_copyOf yX7_copyOf, Cond.code yX7_copyOf cX7_copyOf 3 (some .int), Cond.fieldLink RX7 99 "VolumeHouseModel" "copies" "I", Cond.fieldLink RX7 28 "VolumeHouseModel" "wishOf" "[I"]
def wsX7_turns_r2 : List Cond := [Cond.methodLink RX7 140 yX7_shelved, Cond.instanceMethod yX7_shelved, Cond.selects RX7 yX7_shelved yX7_shelved, Cond.code yX7_shelved cX7_shelved 4 (some .int), Cond.fieldLink RX7 13 "VolumeHouseModel" "titleOf" "[I", Cond.fieldLink RX7 16 "VolumeHouseModel" "volumeOf" "[I", Cond.fieldLink RX7 22 "VolumeHouseModel" "state" "[I", Cond.methodLink RX7 144 yX7_holds, Cond.instanceMethod yX7_holds, Cond.selects RX7 yX7_holds yX7_holds, Cond.code yX7_holds cX7_holds 5 (some .int), Cond.fieldLink RX7 25 "VolumeHouseModel" "readerOf" "[I", Cond.methodLink RX7 147 yX7_most, Cond.instanceMethod yX7_most, Cond.selects RX7 yX7_most yX7_most, Cond.code yX7_most cX7_most 2 (some .int), Cond.methodLink RX7 153 yX7_gets, Cond.instanceMethod yX7_gets, Cond.selects RX7 yX7_gets yX7_gets, Cond.code yX7_gets cX7_gets 4 none, Cond.fieldLink RX7 37 "VolumeHouseModel" "lent" "[I", Cond.fieldLink RX7 34 "VolumeHouseModel" "toGo" "[I", Cond.fieldLink RX7 43 "VolumeHouseModel" "boxDays" "[I", Cond.fieldLink RX7 31 "VolumeHouseModel" "since" "[I"]
def wsX7_turns : List Cond := .code yX7_turns cX7_turns 3 none :: ((wsX7_turns_r1 ++ wsX7_turns_r2) ++ wsX70)
def wsX7_go_r1 : List Cond := [Cond.fieldLink RX7 112 "VolumeHouseModel" "now" "I", Cond.methodLink RX7 92 yX7_in, Cond.static yX7_in, Cond.initialized RX7, Cond.code yX7_in cX7_in 3 (some .boolean), Cond.methodLink RX7 157 yX7_boxes, Cond.instanceMethod yX7_boxes, Cond.selects RX7 yX7_boxes yX7_boxes, Cond.code yX7_boxes cX7_boxes 2 none, Cond.fieldLink RX7 99 "VolumeHouseModel" "copies" "I", Cond.fieldLink RX7 22 "VolumeHouseModel" "state" "[I", Cond.fieldLink RX7 34 "VolumeHouseModel" "toGo" "[I", Cond.fieldLink RX7 31 "VolumeHouseModel" "since" "[I", Cond.fieldLink RX7 25 "VolumeHouseModel" "readerOf" "[I", Cond.methodLink RX7 160 yX7_turns, Cond.instanceMethod yX7_turns, Cond.selects RX7 yX7_turns yX7_turns, Cond.code yX7_turns cX7_turns 3 none, Cond.fieldLink RX7 102 "VolumeHouseModel" "wishes" "I", Cond.fieldLink RX7 40 "VolumeHouseModel" "rank" "[I", Cond.fieldLink RX7 52 "VolumeHouseModel" "wisher" "[I", Cond.fieldLink RX7 64 "VolumeHouseModel" "waitsFrom" "[I", Cond.methodLink RX7 150 yX7_canHave, Cond.instanceMethod yX7_canHave]
def wsX7_go_r2 : List Cond := [Cond.selects RX7 yX7_canHave yX7_canHave, Cond.code yX7_canHave cX7_canHave 3 (some .boolean), Cond.fieldLink RX7 46 "VolumeHouseModel" "last" "[I", Cond.fieldLink RX7 55 "VolumeHouseModel" "wishTitle" "[I", Cond.fieldLink RX7 61 "VolumeHouseModel" "had" "[I", Cond.methodLink RX7 137 yX7_waits, Cond.instanceMethod yX7_waits, Cond.selects RX7 yX7_waits yX7_waits, Cond.code yX7_waits cX7_waits 2 (some .boolean), Cond.fieldLink RX7 58 "VolumeHouseModel" "wishState" "[I", Cond.methodLink RX7 134 yX7_copyOf, Cond.instanceMethod yX7_copyOf, Cond.selects RX7 yX7_copyOf yX7_copyOf, Cond.code yX7_copyOf cX7_copyOf 3 (some .int), Cond.fieldLink RX7 28 "VolumeHouseModel" "wishOf" "[I", Cond.methodLink RX7 140 yX7_shelved, Cond.instanceMethod yX7_shelved, Cond.selects RX7 yX7_shelved yX7_shelved, Cond.code yX7_shelved cX7_shelved 4 (some .int), Cond.fieldLink RX7 13 "VolumeHouseModel" "titleOf" "[I", Cond.fieldLink RX7 16 "VolumeHouseModel" "volumeOf" "[I", Cond.methodLink RX7 144 yX7_holds, Cond.instanceMethod yX7_holds, Cond.selects RX7 yX7_holds yX7_holds]
def wsX7_go_r3 : List Cond := [Cond.code yX7_holds cX7_holds 5 (some .int), Cond.methodLink RX7 147 yX7_most, Cond.instanceMethod yX7_most, Cond.selects RX7 yX7_most yX7_most, Cond.code yX7_most cX7_most 2 (some .int), Cond.methodLink RX7 153 yX7_gets, Cond.instanceMethod yX7_gets, Cond.selects RX7 yX7_gets yX7_gets, Cond.code yX7_gets cX7_gets 4 none, Cond.fieldLink RX7 37 "VolumeHouseModel" "lent" "[I", Cond.fieldLink RX7 43 "VolumeHouseModel" "boxDays" "[I"]
def wsX7_go : List Cond := .code yX7_go cX7_go 3 (some .int) :: ((wsX7_go_r1 ++ (wsX7_go_r2 ++ wsX7_go_r3)) ++ wsX70)
def wsX7_had : List Cond := .code yX7_had cX7_had 3 none :: ([.fieldLink RX7 28 "VolumeHouseModel" "wishOf" "[I", .fieldLink RX7 61 "VolumeHouseModel" "had" "[I", .fieldLink RX7 64 "VolumeHouseModel" "waitsFrom" "[I", .fieldLink RX7 112 "VolumeHouseModel" "now" "I", .fieldLink RX7 58 "VolumeHouseModel" "wishState" "[I", .fieldLink RX7 9 "VolumeHouseModel" "volumes" "[I", .fieldLink RX7 55 "VolumeHouseModel" "wishTitle" "[I"] ++ wsX70)
def wsX7_late : List Cond := .code yX7_late cX7_late 4 (some .int) :: ([.fieldLink RX7 40 "VolumeHouseModel" "rank" "[I", .fieldLink RX7 25 "VolumeHouseModel" "readerOf" "[I", .fieldLink RX7 112 "VolumeHouseModel" "now" "I", .fieldLink RX7 31 "VolumeHouseModel" "since" "[I", .methodLink RX7 163 yX7_term, .static yX7_term, .initialized RX7, .code yX7_term cX7_term 1 (some .int)] ++ wsX70)
def wsX7_back_r1 : List Cond := [Cond.fieldLink RX7 22 "VolumeHouseModel" "state" "[I", Cond.fieldLink RX7 25 "VolumeHouseModel" "readerOf" "[I", Cond.fieldLink RX7 49 "VolumeHouseModel" "owed" "[I", Cond.fieldLink RX7 31 "VolumeHouseModel" "since" "[I", Cond.fieldLink RX7 34 "VolumeHouseModel" "toGo" "[I", Cond.fieldLink RX7 43 "VolumeHouseModel" "boxDays" "[I", Cond.methodLink RX7 122 yX7_isCopy, Cond.instanceMethod yX7_isCopy, Cond.selects RX7 yX7_isCopy yX7_isCopy, Cond.initialized RX7, Cond.code yX7_isCopy cX7_isCopy 2 (some .boolean), Cond.fieldLink RX7 99 "VolumeHouseModel" "copies" "I", Cond.methodLink RX7 92 yX7_in, Cond.static yX7_in, Cond.code yX7_in cX7_in 3 (some .boolean), Cond.methodLink RX7 166 yX7_late, Cond.instanceMethod yX7_late, Cond.selects RX7 yX7_late yX7_late, Cond.code yX7_late cX7_late 4 (some .int), Cond.fieldLink RX7 40 "VolumeHouseModel" "rank" "[I", Cond.fieldLink RX7 112 "VolumeHouseModel" "now" "I", Cond.methodLink RX7 163 yX7_term, Cond.static yX7_term, Cond.code yX7_term cX7_term 1 (some .int)]
def wsX7_back_r2 : List Cond := [Cond.methodLink RX7 169 yX7_had, Cond.instanceMethod yX7_had, Cond.selects RX7 yX7_had yX7_had, Cond.code yX7_had cX7_had 3 none, Cond.fieldLink RX7 28 "VolumeHouseModel" "wishOf" "[I", Cond.fieldLink RX7 61 "VolumeHouseModel" "had" "[I", Cond.fieldLink RX7 64 "VolumeHouseModel" "waitsFrom" "[I", Cond.fieldLink RX7 58 "VolumeHouseModel" "wishState" "[I", Cond.fieldLink RX7 9 "VolumeHouseModel" "volumes" "[I", Cond.fieldLink RX7 55 "VolumeHouseModel" "wishTitle" "[I"]
def wsX7_back : List Cond := .code yX7_back cX7_back 4 (some .int) :: ((wsX7_back_r1 ++ wsX7_back_r2) ++ wsX70)
def wsX7_lose_r1 : List Cond := [Cond.fieldLink RX7 22 "VolumeHouseModel" "state" "[I", Cond.fieldLink RX7 19 "VolumeHouseModel" "costOf" "[I", Cond.fieldLink RX7 49 "VolumeHouseModel" "owed" "[I", Cond.fieldLink RX7 25 "VolumeHouseModel" "readerOf" "[I", Cond.fieldLink RX7 31 "VolumeHouseModel" "since" "[I", Cond.fieldLink RX7 34 "VolumeHouseModel" "toGo" "[I", Cond.methodLink RX7 122 yX7_isCopy, Cond.instanceMethod yX7_isCopy, Cond.selects RX7 yX7_isCopy yX7_isCopy, Cond.initialized RX7, Cond.code yX7_isCopy cX7_isCopy 2 (some .boolean), Cond.fieldLink RX7 99 "VolumeHouseModel" "copies" "I", Cond.methodLink RX7 92 yX7_in, Cond.static yX7_in, Cond.code yX7_in cX7_in 3 (some .boolean), Cond.methodLink RX7 166 yX7_late, Cond.instanceMethod yX7_late, Cond.selects RX7 yX7_late yX7_late, Cond.code yX7_late cX7_late 4 (some .int), Cond.fieldLink RX7 40 "VolumeHouseModel" "rank" "[I", Cond.fieldLink RX7 112 "VolumeHouseModel" "now" "I", Cond.methodLink RX7 163 yX7_term, Cond.static yX7_term, Cond.code yX7_term cX7_term 1 (some .int)]
def wsX7_lose_r2 : List Cond := [Cond.methodLink RX7 169 yX7_had, Cond.instanceMethod yX7_had, Cond.selects RX7 yX7_had yX7_had, Cond.code yX7_had cX7_had 3 none, Cond.fieldLink RX7 28 "VolumeHouseModel" "wishOf" "[I", Cond.fieldLink RX7 61 "VolumeHouseModel" "had" "[I", Cond.fieldLink RX7 64 "VolumeHouseModel" "waitsFrom" "[I", Cond.fieldLink RX7 58 "VolumeHouseModel" "wishState" "[I", Cond.fieldLink RX7 9 "VolumeHouseModel" "volumes" "[I", Cond.fieldLink RX7 55 "VolumeHouseModel" "wishTitle" "[I"]
def wsX7_lose : List Cond := .code yX7_lose cX7_lose 3 (some .int) :: ((wsX7_lose_r1 ++ wsX7_lose_r2) ++ wsX70)
def wsX7_pay : List Cond := .code yX7_pay cX7_pay 3 (some .int) :: ([.fieldLink RX7 49 "VolumeHouseModel" "owed" "[I", .fieldLink RX7 171 "VolumeHouseModel" "paid" "I", .methodLink RX7 128 yX7_isReader, .instanceMethod yX7_isReader, .selects RX7 yX7_isReader yX7_isReader, .initialized RX7, .code yX7_isReader cX7_isReader 2 (some .boolean), .fieldLink RX7 96 "VolumeHouseModel" "readers" "I", .methodLink RX7 92 yX7_in, .static yX7_in, .code yX7_in cX7_in 3 (some .boolean)] ++ wsX70)
def wsX7_copy : List Cond := .code yX7_copy cX7_copy 3 (some .int) :: ([.fieldLink RX7 22 "VolumeHouseModel" "state" "[I", .fieldLink RX7 13 "VolumeHouseModel" "titleOf" "[I", .fieldLink RX7 16 "VolumeHouseModel" "volumeOf" "[I", .fieldLink RX7 19 "VolumeHouseModel" "costOf" "[I", .fieldLink RX7 25 "VolumeHouseModel" "readerOf" "[I", .fieldLink RX7 31 "VolumeHouseModel" "since" "[I", .fieldLink RX7 34 "VolumeHouseModel" "toGo" "[I", .fieldLink RX7 37 "VolumeHouseModel" "lent" "[I", .methodLink RX7 122 yX7_isCopy, .instanceMethod yX7_isCopy, .selects RX7 yX7_isCopy yX7_isCopy, .initialized RX7, .code yX7_isCopy cX7_isCopy 2 (some .boolean), .fieldLink RX7 99 "VolumeHouseModel" "copies" "I", .methodLink RX7 92 yX7_in, .static yX7_in, .code yX7_in cX7_in 3 (some .boolean)] ++ wsX70)
def wsX7_told : List Cond := .code yX7_told cX7_told 5 (some .int) :: ([.fieldLink RX7 40 "VolumeHouseModel" "rank" "[I", .fieldLink RX7 49 "VolumeHouseModel" "owed" "[I", .fieldLink RX7 102 "VolumeHouseModel" "wishes" "I", .fieldLink RX7 52 "VolumeHouseModel" "wisher" "[I", .fieldLink RX7 58 "VolumeHouseModel" "wishState" "[I", .fieldLink RX7 46 "VolumeHouseModel" "last" "[I", .methodLink RX7 128 yX7_isReader, .instanceMethod yX7_isReader, .selects RX7 yX7_isReader yX7_isReader, .initialized RX7, .code yX7_isReader cX7_isReader 2 (some .boolean), .fieldLink RX7 96 "VolumeHouseModel" "readers" "I", .methodLink RX7 92 yX7_in, .static yX7_in, .code yX7_in cX7_in 3 (some .boolean), .methodLink RX7 144 yX7_holds, .instanceMethod yX7_holds, .selects RX7 yX7_holds yX7_holds, .code yX7_holds cX7_holds 5 (some .int), .fieldLink RX7 99 "VolumeHouseModel" "copies" "I", .fieldLink RX7 25 "VolumeHouseModel" "readerOf" "[I", .fieldLink RX7 22 "VolumeHouseModel" "state" "[I"] ++ wsX70)
def wsX7_wished : List Cond := .code yX7_wished cX7_wished 3 (some .int) :: ([.fieldLink RX7 58 "VolumeHouseModel" "wishState" "[I", .fieldLink RX7 61 "VolumeHouseModel" "had" "[I", .fieldLink RX7 64 "VolumeHouseModel" "waitsFrom" "[I", .methodLink RX7 131 yX7_isWish, .instanceMethod yX7_isWish, .selects RX7 yX7_isWish yX7_isWish, .initialized RX7, .code yX7_isWish cX7_isWish 2 (some .boolean), .fieldLink RX7 102 "VolumeHouseModel" "wishes" "I", .methodLink RX7 92 yX7_in, .static yX7_in, .code yX7_in cX7_in 3 (some .boolean), .methodLink RX7 134 yX7_copyOf, .instanceMethod yX7_copyOf, .selects RX7 yX7_copyOf yX7_copyOf, .code yX7_copyOf cX7_copyOf 3 (some .int), .fieldLink RX7 99 "VolumeHouseModel" "copies" "I", .fieldLink RX7 28 "VolumeHouseModel" "wishOf" "[I", .methodLink RX7 137 yX7_waits, .instanceMethod yX7_waits, .selects RX7 yX7_waits yX7_waits, .code yX7_waits cX7_waits 2 (some .boolean)] ++ wsX70)
def wsX7_waiting : List Cond := .code yX7_waiting cX7_waiting 5 (some .int) :: ([.fieldLink RX7 9 "VolumeHouseModel" "volumes" "[I", .fieldLink RX7 102 "VolumeHouseModel" "wishes" "I", .fieldLink RX7 55 "VolumeHouseModel" "wishTitle" "[I", .fieldLink RX7 61 "VolumeHouseModel" "had" "[I", .methodLink RX7 105 yX7_isTitle, .instanceMethod yX7_isTitle, .selects RX7 yX7_isTitle yX7_isTitle, .initialized RX7, .code yX7_isTitle cX7_isTitle 2 (some .boolean), .fieldLink RX7 88 "VolumeHouseModel" "titles" "I", .methodLink RX7 92 yX7_in, .static yX7_in, .code yX7_in cX7_in 3 (some .boolean), .methodLink RX7 137 yX7_waits, .instanceMethod yX7_waits, .selects RX7 yX7_waits yX7_waits, .code yX7_waits cX7_waits 2 (some .boolean), .fieldLink RX7 58 "VolumeHouseModel" "wishState" "[I", .methodLink RX7 134 yX7_copyOf, .instanceMethod yX7_copyOf, .selects RX7 yX7_copyOf yX7_copyOf, .code yX7_copyOf cX7_copyOf 3 (some .int), .fieldLink RX7 99 "VolumeHouseModel" "copies" "I", .fieldLink RX7 28 "VolumeHouseModel" "wishOf" "[I"] ++ wsX70)
def wsX7_sets : List Cond := .code yX7_sets cX7_sets 6 (some .int) :: ([.fieldLink RX7 9 "VolumeHouseModel" "volumes" "[I", .fieldLink RX7 99 "VolumeHouseModel" "copies" "I", .fieldLink RX7 13 "VolumeHouseModel" "titleOf" "[I", .fieldLink RX7 16 "VolumeHouseModel" "volumeOf" "[I", .fieldLink RX7 22 "VolumeHouseModel" "state" "[I", .methodLink RX7 105 yX7_isTitle, .instanceMethod yX7_isTitle, .selects RX7 yX7_isTitle yX7_isTitle, .initialized RX7, .code yX7_isTitle cX7_isTitle 2 (some .boolean), .fieldLink RX7 88 "VolumeHouseModel" "titles" "I", .methodLink RX7 92 yX7_in, .static yX7_in, .code yX7_in cX7_in 3 (some .boolean)] ++ wsX70)
def wsX7_demand : List Cond := .code yX7_demand cX7_demand 4 (some .boolean) :: ([.fieldLink RX7 82 "VolumeHouseModel" "wanted" "[I", .fieldLink RX7 85 "VolumeHouseModel" "sale" "[I", .methodLink RX7 92 yX7_in, .static yX7_in, .initialized RX7, .code yX7_in cX7_in 3 (some .boolean)] ++ wsX70)
def wsX7_brings : List Cond := .code yX7_brings cX7_brings 6 (some .int) :: ([.fieldLink RX7 85 "VolumeHouseModel" "sale" "[I", .fieldLink RX7 82 "VolumeHouseModel" "wanted" "[I"] ++ wsX70)
def wsX7_weeksOf : List Cond := .code yX7_weeksOf cX7_weeksOf 5 (some .int) :: ([.methodLink RX7 174 yX7_brings, .instanceMethod yX7_brings, .selects RX7 yX7_brings yX7_brings, .initialized RX7, .code yX7_brings cX7_brings 6 (some .int), .fieldLink RX7 85 "VolumeHouseModel" "sale" "[I", .fieldLink RX7 82 "VolumeHouseModel" "wanted" "[I"] ++ wsX70)
def wsX7_isAny : List Cond := .code yX7_isAny cX7_isAny 2 (some .boolean) :: ([.methodLink RX7 92 yX7_in, .static yX7_in, .initialized RX7, .code yX7_in cX7_in 3 (some .boolean)])
def wsX7_best : List Cond := .code yX7_best cX7_best 7 (some .int) :: ([.methodLink RX7 178 yX7_isAny, .static yX7_isAny, .initialized RX7, .code yX7_isAny cX7_isAny 2 (some .boolean), .methodLink RX7 92 yX7_in, .static yX7_in, .code yX7_in cX7_in 3 (some .boolean), .methodLink RX7 182 yX7_weeksOf, .instanceMethod yX7_weeksOf, .selects RX7 yX7_weeksOf yX7_weeksOf, .code yX7_weeksOf cX7_weeksOf 5 (some .int), .methodLink RX7 174 yX7_brings, .instanceMethod yX7_brings, .selects RX7 yX7_brings yX7_brings, .code yX7_brings cX7_brings 6 (some .int), .fieldLink RX7 85 "VolumeHouseModel" "sale" "[I", .fieldLink RX7 82 "VolumeHouseModel" "wanted" "[I"] ++ wsX70)
def wsX7_gain : List Cond := .code yX7_gain cX7_gain 5 (some .int) :: ([.methodLink RX7 178 yX7_isAny, .static yX7_isAny, .initialized RX7, .code yX7_isAny cX7_isAny 2 (some .boolean), .methodLink RX7 92 yX7_in, .static yX7_in, .code yX7_in cX7_in 3 (some .boolean), .methodLink RX7 185 yX7_best, .instanceMethod yX7_best, .selects RX7 yX7_best yX7_best, .code yX7_best cX7_best 7 (some .int), .methodLink RX7 182 yX7_weeksOf, .instanceMethod yX7_weeksOf, .selects RX7 yX7_weeksOf yX7_weeksOf, .code yX7_weeksOf cX7_weeksOf 5 (some .int), .methodLink RX7 174 yX7_brings, .instanceMethod yX7_brings, .selects RX7 yX7_brings yX7_brings, .code yX7_brings cX7_brings 6 (some .int), .fieldLink RX7 85 "VolumeHouseModel" "sale" "[I", .fieldLink RX7 82 "VolumeHouseModel" "wanted" "[I"] ++ wsX70)
def wsX7_kept : List Cond := .code yX7_kept cX7_kept 4 (some .int) :: ([.methodLink RX7 178 yX7_isAny, .static yX7_isAny, .initialized RX7, .code yX7_isAny cX7_isAny 2 (some .boolean), .methodLink RX7 92 yX7_in, .static yX7_in, .code yX7_in cX7_in 3 (some .boolean), .methodLink RX7 185 yX7_best, .instanceMethod yX7_best, .selects RX7 yX7_best yX7_best, .code yX7_best cX7_best 7 (some .int), .methodLink RX7 182 yX7_weeksOf, .instanceMethod yX7_weeksOf, .selects RX7 yX7_weeksOf yX7_weeksOf, .code yX7_weeksOf cX7_weeksOf 5 (some .int), .methodLink RX7 174 yX7_brings, .instanceMethod yX7_brings, .selects RX7 yX7_brings yX7_brings, .code yX7_brings cX7_brings 6 (some .int), .fieldLink RX7 85 "VolumeHouseModel" "sale" "[I", .fieldLink RX7 82 "VolumeHouseModel" "wanted" "[I"] ++ wsX70)
def wsX7_count : List Cond := .code yX7_count cX7_count 4 (some .int) :: ([.fieldLink RX7 112 "VolumeHouseModel" "now" "I", .fieldLink RX7 88 "VolumeHouseModel" "titles" "I", .fieldLink RX7 99 "VolumeHouseModel" "copies" "I", .fieldLink RX7 96 "VolumeHouseModel" "readers" "I", .fieldLink RX7 102 "VolumeHouseModel" "wishes" "I", .fieldLink RX7 119 "VolumeHouseModel" "spent" "I", .fieldLink RX7 125 "VolumeHouseModel" "earned" "I", .fieldLink RX7 171 "VolumeHouseModel" "paid" "I", .fieldLink RX7 22 "VolumeHouseModel" "state" "[I"] ++ wsX70)
def wsJ9_max_7cf53 : List Cond := .code yJ9_max_7cf53 cJ9_max_7cf53 2 (some .int) :: ([])
def wsJ9_min_7cf53 : List Cond := .code yJ9_min_7cf53 cJ9_min_7cf53 2 (some .int) :: ([])
theorem dJ9_max_7cf53_0 : decode cJ9_max_7cf53 0 = .ok (.iload_n 0, 1) := by decide +kernel
theorem dJ9_max_7cf53_1 : decode cJ9_max_7cf53 1 = .ok (.iload_n 1, 1) := by decide +kernel
theorem dJ9_max_7cf53_2 : decode cJ9_max_7cf53 2 = .ok (.if_icmp .lt 7, 3) := by decide +kernel
theorem dJ9_max_7cf53_5 : decode cJ9_max_7cf53 5 = .ok (.iload_n 0, 1) := by decide +kernel
theorem dJ9_max_7cf53_6 : decode cJ9_max_7cf53 6 = .ok (.goto 4, 3) := by decide +kernel
theorem dJ9_max_7cf53_9 : decode cJ9_max_7cf53 9 = .ok (.iload_n 1, 1) := by decide +kernel
theorem dJ9_max_7cf53_10 : decode cJ9_max_7cf53 10 = .ok (.ireturn, 1) := by decide +kernel
theorem dJ9_min_7cf53_0 : decode cJ9_min_7cf53 0 = .ok (.iload_n 0, 1) := by decide +kernel
theorem dJ9_min_7cf53_1 : decode cJ9_min_7cf53 1 = .ok (.iload_n 1, 1) := by decide +kernel
theorem dJ9_min_7cf53_2 : decode cJ9_min_7cf53 2 = .ok (.if_icmp .gt 7, 3) := by decide +kernel
theorem dJ9_min_7cf53_5 : decode cJ9_min_7cf53 5 = .ok (.iload_n 0, 1) := by decide +kernel
theorem dJ9_min_7cf53_6 : decode cJ9_min_7cf53 6 = .ok (.goto 4, 3) := by decide +kernel
theorem dJ9_min_7cf53_9 : decode cJ9_min_7cf53 9 = .ok (.iload_n 1, 1) := by decide +kernel
theorem dJ9_min_7cf53_10 : decode cJ9_min_7cf53 10 = .ok (.ireturn, 1) := by decide +kernel
abbrev vwCl : List vw_C := [(RX0, TX0, 6), (RX1, TX1, 13), (RX2, TX2, 2), (RX3, TX3, 7), (RX4, TX4, 2), (RX5, TX5, 7), (RX6, TX6, 10), (RX7, TX7, 35)]
end
section
theorem dX0_init_0 : decode cX0_init 0 = .ok (.aload_n 0, 1) := by decide +kernel
theorem dX0_init_1 : decode cX0_init 1 = .ok (.invokespecial 3, 3) := by decide +kernel
theorem dX0_init_4 : decode cX0_init 4 = .ok (.aload_n 0, 1) := by decide +kernel
theorem dX0_init_5 : decode cX0_init 5 = .ok (.bipush 40, 2) := by decide +kernel
theorem dX0_init_7 : decode cX0_init 7 = .ok (.newarray .int, 2) := by decide +kernel
theorem dX0_init_9 : decode cX0_init 9 = .ok (.putfield 9, 3) := by decide +kernel
theorem dX0_init_12 : decode cX0_init 12 = .ok (.aload_n 0, 1) := by decide +kernel
theorem dX0_init_13 : decode cX0_init 13 = .ok (.bipush 40, 2) := by decide +kernel
theorem dX0_init_15 : decode cX0_init 15 = .ok (.newarray .int, 2) := by decide +kernel
theorem dX0_init_17 : decode cX0_init 17 = .ok (.putfield 15, 3) := by decide +kernel
theorem dX0_init_20 : decode cX0_init 20 = .ok (.aload_n 0, 1) := by decide +kernel
theorem dX0_init_21 : decode cX0_init 21 = .ok (.bipush 40, 2) := by decide +kernel
theorem dX0_init_23 : decode cX0_init 23 = .ok (.newarray .int, 2) := by decide +kernel
theorem dX0_init_25 : decode cX0_init 25 = .ok (.putfield 18, 3) := by decide +kernel
theorem dX0_init_28 : decode cX0_init 28 = .ok (.aload_n 0, 1) := by decide +kernel
theorem dX0_init_29 : decode cX0_init 29 = .ok (.bipush 40, 2) := by decide +kernel
theorem dX0_init_31 : decode cX0_init 31 = .ok (.newarray .int, 2) := by decide +kernel
theorem dX0_init_33 : decode cX0_init 33 = .ok (.putfield 21, 3) := by decide +kernel
theorem dX0_init_36 : decode cX0_init 36 = .ok (.aload_n 0, 1) := by decide +kernel
theorem dX0_init_37 : decode cX0_init 37 = .ok (.bipush 40, 2) := by decide +kernel
theorem dX0_init_39 : decode cX0_init 39 = .ok (.newarray .int, 2) := by decide +kernel
theorem dX0_init_41 : decode cX0_init 41 = .ok (.putfield 24, 3) := by decide +kernel
theorem dX0_init_44 : decode cX0_init 44 = .ok (.aload_n 0, 1) := by decide +kernel
theorem dX0_init_45 : decode cX0_init 45 = .ok (.iconst 0, 1) := by decide +kernel
theorem dX0_init_46 : decode cX0_init 46 = .ok (.putfield 27, 3) := by decide +kernel
theorem dX0_init_49 : decode cX0_init 49 = .ok (.return_, 1) := by decide +kernel
theorem dX0_add_0 : decode cX0_add 0 = .ok (.aload_n 0, 1) := by decide +kernel
theorem dX0_add_1 : decode cX0_add 1 = .ok (.getfield 9, 3) := by decide +kernel
theorem dX0_add_4 : decode cX0_add 4 = .ok (.aload_n 0, 1) := by decide +kernel
theorem dX0_add_5 : decode cX0_add 5 = .ok (.getfield 27, 3) := by decide +kernel
theorem dX0_add_8 : decode cX0_add 8 = .ok (.iload_n 1, 1) := by decide +kernel
theorem dX0_add_9 : decode cX0_add 9 = .ok (.iastore, 1) := by decide +kernel
theorem dX0_add_10 : decode cX0_add 10 = .ok (.aload_n 0, 1) := by decide +kernel
theorem dX0_add_11 : decode cX0_add 11 = .ok (.getfield 15, 3) := by decide +kernel
theorem dX0_add_14 : decode cX0_add 14 = .ok (.aload_n 0, 1) := by decide +kernel
theorem dX0_add_15 : decode cX0_add 15 = .ok (.getfield 27, 3) := by decide +kernel
theorem dX0_add_18 : decode cX0_add 18 = .ok (.iload_n 2, 1) := by decide +kernel
theorem dX0_add_19 : decode cX0_add 19 = .ok (.iastore, 1) := by decide +kernel
theorem dX0_add_20 : decode cX0_add 20 = .ok (.aload_n 0, 1) := by decide +kernel
theorem dX0_add_21 : decode cX0_add 21 = .ok (.getfield 18, 3) := by decide +kernel
theorem dX0_add_24 : decode cX0_add 24 = .ok (.aload_n 0, 1) := by decide +kernel
theorem dX0_add_25 : decode cX0_add 25 = .ok (.getfield 27, 3) := by decide +kernel
theorem dX0_add_28 : decode cX0_add 28 = .ok (.iload_n 3, 1) := by decide +kernel
theorem dX0_add_29 : decode cX0_add 29 = .ok (.iastore, 1) := by decide +kernel
theorem dX0_add_30 : decode cX0_add 30 = .ok (.aload_n 0, 1) := by decide +kernel
theorem dX0_add_31 : decode cX0_add 31 = .ok (.getfield 21, 3) := by decide +kernel
theorem dX0_add_34 : decode cX0_add 34 = .ok (.aload_n 0, 1) := by decide +kernel
theorem dX0_add_35 : decode cX0_add 35 = .ok (.getfield 27, 3) := by decide +kernel
theorem dX0_add_38 : decode cX0_add 38 = .ok (.iload 4, 2) := by decide +kernel
theorem dX0_add_40 : decode cX0_add 40 = .ok (.iastore, 1) := by decide +kernel
theorem dX0_add_41 : decode cX0_add 41 = .ok (.aload_n 0, 1) := by decide +kernel
theorem dX0_add_42 : decode cX0_add 42 = .ok (.getfield 24, 3) := by decide +kernel
theorem dX0_add_45 : decode cX0_add 45 = .ok (.aload_n 0, 1) := by decide +kernel
theorem dX0_add_46 : decode cX0_add 46 = .ok (.getfield 27, 3) := by decide +kernel
theorem dX0_add_49 : decode cX0_add 49 = .ok (.iload 5, 2) := by decide +kernel
theorem dX0_add_51 : decode cX0_add 51 = .ok (.iastore, 1) := by decide +kernel
theorem dX0_add_52 : decode cX0_add 52 = .ok (.aload_n 0, 1) := by decide +kernel
theorem dX0_add_53 : decode cX0_add 53 = .ok (.dup, 1) := by decide +kernel
theorem dX0_add_54 : decode cX0_add 54 = .ok (.getfield 27, 3) := by decide +kernel
theorem dX0_add_57 : decode cX0_add 57 = .ok (.iconst 1, 1) := by decide +kernel
theorem dX0_add_58 : decode cX0_add 58 = .ok (.iadd, 1) := by decide +kernel
theorem dX0_add_59 : decode cX0_add 59 = .ok (.putfield 27, 3) := by decide +kernel
theorem dX0_add_62 : decode cX0_add 62 = .ok (.return_, 1) := by decide +kernel
theorem dX0_inForce_0 : decode cX0_inForce 0 = .ok (.iconst (-1), 1) := by decide +kernel
theorem dX0_inForce_1 : decode cX0_inForce 1 = .ok (.istore_n 3, 1) := by decide +kernel
theorem dX0_inForce_2 : decode cX0_inForce 2 = .ok (.iconst 0, 1) := by decide +kernel
theorem dX0_inForce_3 : decode cX0_inForce 3 = .ok (.istore 4, 2) := by decide +kernel
theorem dX0_inForce_5 : decode cX0_inForce 5 = .ok (.iload 4, 2) := by decide +kernel
theorem dX0_inForce_7 : decode cX0_inForce 7 = .ok (.aload_n 0, 1) := by decide +kernel
theorem dX0_inForce_8 : decode cX0_inForce 8 = .ok (.getfield 27, 3) := by decide +kernel
theorem dX0_inForce_11 : decode cX0_inForce 11 = .ok (.if_icmp .ge 55, 3) := by decide +kernel
theorem dX0_inForce_14 : decode cX0_inForce 14 = .ok (.aload_n 0, 1) := by decide +kernel
theorem dX0_inForce_15 : decode cX0_inForce 15 = .ok (.getfield 9, 3) := by decide +kernel
theorem dX0_inForce_18 : decode cX0_inForce 18 = .ok (.iload 4, 2) := by decide +kernel
theorem dX0_inForce_20 : decode cX0_inForce 20 = .ok (.iaload, 1) := by decide +kernel
theorem dX0_inForce_21 : decode cX0_inForce 21 = .ok (.iload_n 1, 1) := by decide +kernel
theorem dX0_inForce_22 : decode cX0_inForce 22 = .ok (.if_icmp .ne 38, 3) := by decide +kernel
theorem dX0_inForce_25 : decode cX0_inForce 25 = .ok (.aload_n 0, 1) := by decide +kernel
theorem dX0_inForce_26 : decode cX0_inForce 26 = .ok (.getfield 15, 3) := by decide +kernel
theorem dX0_inForce_29 : decode cX0_inForce 29 = .ok (.iload 4, 2) := by decide +kernel
theorem dX0_inForce_31 : decode cX0_inForce 31 = .ok (.iaload, 1) := by decide +kernel
theorem dX0_inForce_32 : decode cX0_inForce 32 = .ok (.iload_n 2, 1) := by decide +kernel
theorem dX0_inForce_33 : decode cX0_inForce 33 = .ok (.if_icmp .gt 27, 3) := by decide +kernel
theorem dX0_inForce_36 : decode cX0_inForce 36 = .ok (.iload_n 3, 1) := by decide +kernel
theorem dX0_inForce_37 : decode cX0_inForce 37 = .ok (.iconst (-1), 1) := by decide +kernel
theorem dX0_inForce_38 : decode cX0_inForce 38 = .ok (.if_icmp .eq 19, 3) := by decide +kernel
theorem dX0_inForce_41 : decode cX0_inForce 41 = .ok (.aload_n 0, 1) := by decide +kernel
theorem dX0_inForce_42 : decode cX0_inForce 42 = .ok (.getfield 15, 3) := by decide +kernel
theorem dX0_inForce_45 : decode cX0_inForce 45 = .ok (.iload 4, 2) := by decide +kernel
theorem dX0_inForce_47 : decode cX0_inForce 47 = .ok (.iaload, 1) := by decide +kernel
theorem dX0_inForce_48 : decode cX0_inForce 48 = .ok (.aload_n 0, 1) := by decide +kernel
theorem dX0_inForce_49 : decode cX0_inForce 49 = .ok (.getfield 15, 3) := by decide +kernel
theorem dX0_inForce_52 : decode cX0_inForce 52 = .ok (.iload_n 3, 1) := by decide +kernel
theorem dX0_inForce_53 : decode cX0_inForce 53 = .ok (.iaload, 1) := by decide +kernel
theorem dX0_inForce_54 : decode cX0_inForce 54 = .ok (.if_icmp .lt 6, 3) := by decide +kernel
theorem dX0_inForce_57 : decode cX0_inForce 57 = .ok (.iload 4, 2) := by decide +kernel
theorem dX0_inForce_59 : decode cX0_inForce 59 = .ok (.istore_n 3, 1) := by decide +kernel
theorem dX0_inForce_60 : decode cX0_inForce 60 = .ok (.iinc 4 1, 3) := by decide +kernel
theorem dX0_inForce_63 : decode cX0_inForce 63 = .ok (.goto (-58), 3) := by decide +kernel
theorem dX0_inForce_66 : decode cX0_inForce 66 = .ok (.iload_n 3, 1) := by decide +kernel
theorem dX0_inForce_67 : decode cX0_inForce 67 = .ok (.ireturn, 1) := by decide +kernel
theorem dX0_priceAt_0 : decode cX0_priceAt 0 = .ok (.iload_n 1, 1) := by decide +kernel
theorem dX0_priceAt_1 : decode cX0_priceAt 1 = .ok (.ifCond .lt 11, 3) := by decide +kernel
theorem dX0_priceAt_4 : decode cX0_priceAt 4 = .ok (.iload_n 1, 1) := by decide +kernel
theorem dX0_priceAt_5 : decode cX0_priceAt 5 = .ok (.aload_n 0, 1) := by decide +kernel
theorem dX0_priceAt_6 : decode cX0_priceAt 6 = .ok (.getfield 27, 3) := by decide +kernel
theorem dX0_priceAt_9 : decode cX0_priceAt 9 = .ok (.if_icmp .lt 6, 3) := by decide +kernel
theorem dX0_priceAt_12 : decode cX0_priceAt 12 = .ok (.bipush 10, 2) := by decide +kernel
theorem dX0_priceAt_14 : decode cX0_priceAt 14 = .ok (.ireturn, 1) := by decide +kernel
theorem dX0_priceAt_15 : decode cX0_priceAt 15 = .ok (.iload_n 2, 1) := by decide +kernel
theorem dX0_priceAt_16 : decode cX0_priceAt 16 = .ok (.aload_n 0, 1) := by decide +kernel
theorem dX0_priceAt_17 : decode cX0_priceAt 17 = .ok (.getfield 18, 3) := by decide +kernel
theorem dX0_priceAt_20 : decode cX0_priceAt 20 = .ok (.iload_n 1, 1) := by decide +kernel
theorem dX0_priceAt_21 : decode cX0_priceAt 21 = .ok (.iaload, 1) := by decide +kernel
theorem dX0_priceAt_22 : decode cX0_priceAt 22 = .ok (.if_icmp .ge 12, 3) := by decide +kernel
theorem dX0_priceAt_25 : decode cX0_priceAt 25 = .ok (.aload_n 0, 1) := by decide +kernel
theorem dX0_priceAt_26 : decode cX0_priceAt 26 = .ok (.getfield 21, 3) := by decide +kernel
theorem dX0_priceAt_29 : decode cX0_priceAt 29 = .ok (.iload_n 1, 1) := by decide +kernel
theorem dX0_priceAt_30 : decode cX0_priceAt 30 = .ok (.iaload, 1) := by decide +kernel
theorem dX0_priceAt_31 : decode cX0_priceAt 31 = .ok (.goto 9, 3) := by decide +kernel
theorem dX0_priceAt_34 : decode cX0_priceAt 34 = .ok (.aload_n 0, 1) := by decide +kernel
theorem dX0_priceAt_35 : decode cX0_priceAt 35 = .ok (.getfield 24, 3) := by decide +kernel
theorem dX0_priceAt_38 : decode cX0_priceAt 38 = .ok (.iload_n 1, 1) := by decide +kernel
theorem dX0_priceAt_39 : decode cX0_priceAt 39 = .ok (.iaload, 1) := by decide +kernel
theorem dX0_priceAt_40 : decode cX0_priceAt 40 = .ok (.ireturn, 1) := by decide +kernel
theorem dX1_init_0 : decode cX1_init 0 = .ok (.aload_n 0, 1) := by decide +kernel
theorem dX1_init_1 : decode cX1_init 1 = .ok (.invokespecial 3, 3) := by decide +kernel
theorem dX1_init_4 : decode cX1_init 4 = .ok (.aload_n 0, 1) := by decide +kernel
theorem dX1_init_5 : decode cX1_init 5 = .ok (.sipush 200, 3) := by decide +kernel
theorem dX1_init_8 : decode cX1_init 8 = .ok (.newarray .int, 2) := by decide +kernel
theorem dX1_init_10 : decode cX1_init 10 = .ok (.putfield 9, 3) := by decide +kernel
theorem dX1_init_13 : decode cX1_init 13 = .ok (.aload_n 0, 1) := by decide +kernel
theorem dX1_init_14 : decode cX1_init 14 = .ok (.sipush 200, 3) := by decide +kernel
theorem dX1_init_17 : decode cX1_init 17 = .ok (.newarray .int, 2) := by decide +kernel
theorem dX1_init_19 : decode cX1_init 19 = .ok (.putfield 15, 3) := by decide +kernel
theorem dX1_init_22 : decode cX1_init 22 = .ok (.aload_n 0, 1) := by decide +kernel
theorem dX1_init_23 : decode cX1_init 23 = .ok (.sipush 200, 3) := by decide +kernel
theorem dX1_init_26 : decode cX1_init 26 = .ok (.newarray .int, 2) := by decide +kernel
theorem dX1_init_28 : decode cX1_init 28 = .ok (.putfield 18, 3) := by decide +kernel
theorem dX1_init_31 : decode cX1_init 31 = .ok (.aload_n 0, 1) := by decide +kernel
theorem dX1_init_32 : decode cX1_init 32 = .ok (.sipush 200, 3) := by decide +kernel
theorem dX1_init_35 : decode cX1_init 35 = .ok (.newarray .int, 2) := by decide +kernel
theorem dX1_init_37 : decode cX1_init 37 = .ok (.putfield 21, 3) := by decide +kernel
theorem dX1_init_40 : decode cX1_init 40 = .ok (.aload_n 0, 1) := by decide +kernel
theorem dX1_init_41 : decode cX1_init 41 = .ok (.sipush 200, 3) := by decide +kernel
theorem dX1_init_44 : decode cX1_init 44 = .ok (.newarray .int, 2) := by decide +kernel
theorem dX1_init_46 : decode cX1_init 46 = .ok (.putfield 24, 3) := by decide +kernel
theorem dX1_init_49 : decode cX1_init 49 = .ok (.aload_n 0, 1) := by decide +kernel
theorem dX1_init_50 : decode cX1_init 50 = .ok (.sipush 200, 3) := by decide +kernel
theorem dX1_init_53 : decode cX1_init 53 = .ok (.newarray .int, 2) := by decide +kernel
theorem dX1_init_55 : decode cX1_init 55 = .ok (.putfield 27, 3) := by decide +kernel
theorem dX1_init_58 : decode cX1_init 58 = .ok (.aload_n 0, 1) := by decide +kernel
theorem dX1_init_59 : decode cX1_init 59 = .ok (.sipush 200, 3) := by decide +kernel
theorem dX1_init_62 : decode cX1_init 62 = .ok (.newarray .int, 2) := by decide +kernel
theorem dX1_init_64 : decode cX1_init 64 = .ok (.putfield 30, 3) := by decide +kernel
theorem dX1_init_67 : decode cX1_init 67 = .ok (.aload_n 0, 1) := by decide +kernel
theorem dX1_init_68 : decode cX1_init 68 = .ok (.sipush 200, 3) := by decide +kernel
theorem dX1_init_71 : decode cX1_init 71 = .ok (.newarray .int, 2) := by decide +kernel
theorem dX1_init_73 : decode cX1_init 73 = .ok (.putfield 33, 3) := by decide +kernel
theorem dX1_init_76 : decode cX1_init 76 = .ok (.aload_n 0, 1) := by decide +kernel
theorem dX1_init_77 : decode cX1_init 77 = .ok (.sipush 200, 3) := by decide +kernel
theorem dX1_init_80 : decode cX1_init 80 = .ok (.newarray .int, 2) := by decide +kernel
theorem dX1_init_82 : decode cX1_init 82 = .ok (.putfield 36, 3) := by decide +kernel
theorem dX1_init_85 : decode cX1_init 85 = .ok (.aload_n 0, 1) := by decide +kernel
theorem dX1_init_86 : decode cX1_init 86 = .ok (.bipush 48, 2) := by decide +kernel
theorem dX1_init_88 : decode cX1_init 88 = .ok (.newarray .int, 2) := by decide +kernel
theorem dX1_init_90 : decode cX1_init 90 = .ok (.putfield 39, 3) := by decide +kernel
theorem dX1_init_93 : decode cX1_init 93 = .ok (.aload_n 0, 1) := by decide +kernel
theorem dX1_init_94 : decode cX1_init 94 = .ok (.iconst 0, 1) := by decide +kernel
theorem dX1_init_95 : decode cX1_init 95 = .ok (.putfield 42, 3) := by decide +kernel
theorem dX1_init_98 : decode cX1_init 98 = .ok (.aload_n 0, 1) := by decide +kernel
theorem dX1_init_99 : decode cX1_init 99 = .ok (.iconst 0, 1) := by decide +kernel
theorem dX1_init_100 : decode cX1_init 100 = .ok (.putfield 46, 3) := by decide +kernel
theorem dX1_init_103 : decode cX1_init 103 = .ok (.aload_n 0, 1) := by decide +kernel
theorem dX1_init_104 : decode cX1_init 104 = .ok (.iconst 0, 1) := by decide +kernel
theorem dX1_init_105 : decode cX1_init 105 = .ok (.putfield 49, 3) := by decide +kernel
theorem dX1_init_108 : decode cX1_init 108 = .ok (.return_, 1) := by decide +kernel
theorem dX1_has_0 : decode cX1_has 0 = .ok (.iload_n 1, 1) := by decide +kernel
theorem dX1_has_1 : decode cX1_has 1 = .ok (.ifCond .lt 15, 3) := by decide +kernel
theorem dX1_has_4 : decode cX1_has 4 = .ok (.iload_n 1, 1) := by decide +kernel
theorem dX1_has_5 : decode cX1_has 5 = .ok (.aload_n 0, 1) := by decide +kernel
theorem dX1_has_6 : decode cX1_has 6 = .ok (.getfield 42, 3) := by decide +kernel
theorem dX1_has_9 : decode cX1_has 9 = .ok (.if_icmp .ge 7, 3) := by decide +kernel
theorem dX1_has_12 : decode cX1_has 12 = .ok (.iconst 1, 1) := by decide +kernel
theorem dX1_has_13 : decode cX1_has 13 = .ok (.goto 4, 3) := by decide +kernel
theorem dX1_has_16 : decode cX1_has 16 = .ok (.iconst 0, 1) := by decide +kernel
theorem dX1_has_17 : decode cX1_has 17 = .ok (.ireturn, 1) := by decide +kernel
set_option maxRecDepth 20000 in
theorem ggX1_isAt_X1_has : GoodIn wsX1_isAt wsX1_has := goodIn_r _ [6, 7, 8, 9, 10, 11, 12, 13, 14, 15, 16, 17, 18, 19, 20] (by decide +kernel) (by decide +kernel)
set_option maxRecDepth 20000 in
theorem gX1_isAt_X1_has : GoodIn wsX1_isAt (wsV RX1 52 RX1 yX1_has wsX1_has) := goodIn_app (goodIn_of _ (by decide +kernel)) ggX1_isAt_X1_has
theorem dX1_isAt_0 : decode cX1_isAt 0 = .ok (.aload_n 0, 1) := by decide +kernel
theorem dX1_isAt_1 : decode cX1_isAt 1 = .ok (.iload_n 1, 1) := by decide +kernel
theorem dX1_isAt_2 : decode cX1_isAt 2 = .ok (.invokevirtual 52, 3) := by decide +kernel
theorem dX1_isAt_5 : decode cX1_isAt 5 = .ok (.ifCond .eq 17, 3) := by decide +kernel
theorem dX1_isAt_8 : decode cX1_isAt 8 = .ok (.aload_n 0, 1) := by decide +kernel
theorem dX1_isAt_9 : decode cX1_isAt 9 = .ok (.getfield 9, 3) := by decide +kernel
theorem dX1_isAt_12 : decode cX1_isAt 12 = .ok (.iload_n 1, 1) := by decide +kernel
theorem dX1_isAt_13 : decode cX1_isAt 13 = .ok (.iaload, 1) := by decide +kernel
theorem dX1_isAt_14 : decode cX1_isAt 14 = .ok (.iload_n 2, 1) := by decide +kernel
theorem dX1_isAt_15 : decode cX1_isAt 15 = .ok (.if_icmp .ne 7, 3) := by decide +kernel
theorem dX1_isAt_18 : decode cX1_isAt 18 = .ok (.iconst 1, 1) := by decide +kernel
theorem dX1_isAt_19 : decode cX1_isAt 19 = .ok (.goto 4, 3) := by decide +kernel
theorem dX1_isAt_22 : decode cX1_isAt 22 = .ok (.iconst 0, 1) := by decide +kernel
theorem dX1_isAt_23 : decode cX1_isAt 23 = .ok (.ireturn, 1) := by decide +kernel
set_option maxRecDepth 20000 in
theorem ggX1_add_X1_shelve : GoodIn wsX1_add wsX1_shelve := goodIn_r _ [11, 12, 13, 14, 10, 15, 5, 16, 17, 18, 19, 2, 3, 20, 21, 22, 23, 24, 25, 26, 27, 28, 29, 30, 31, 32, 33, 34, 35, 36, 37, 38, 39, 40, 41, 42, 43, 44, 45, 46, 47, 48, 49, 50, 51] (by decide +kernel) (by decide +kernel)
set_option maxRecDepth 20000 in
theorem gX1_add_X1_shelve : GoodIn wsX1_add (wsV RX1 56 RX1 yX1_shelve wsX1_shelve) := goodIn_app (goodIn_of _ (by decide +kernel)) ggX1_add_X1_shelve
theorem dX1_add_0 : decode cX1_add 0 = .ok (.aload_n 0, 1) := by decide +kernel
theorem dX1_add_1 : decode cX1_add 1 = .ok (.getfield 42, 3) := by decide +kernel
theorem dX1_add_4 : decode cX1_add 4 = .ok (.istore 4, 2) := by decide +kernel
theorem dX1_add_6 : decode cX1_add 6 = .ok (.aload_n 0, 1) := by decide +kernel
theorem dX1_add_7 : decode cX1_add 7 = .ok (.dup, 1) := by decide +kernel
theorem dX1_add_8 : decode cX1_add 8 = .ok (.getfield 42, 3) := by decide +kernel
theorem dX1_add_11 : decode cX1_add 11 = .ok (.iconst 1, 1) := by decide +kernel
theorem dX1_add_12 : decode cX1_add 12 = .ok (.iadd, 1) := by decide +kernel
theorem dX1_add_13 : decode cX1_add 13 = .ok (.putfield 42, 3) := by decide +kernel
theorem dX1_add_16 : decode cX1_add 16 = .ok (.aload_n 0, 1) := by decide +kernel
theorem dX1_add_17 : decode cX1_add 17 = .ok (.getfield 15, 3) := by decide +kernel
theorem dX1_add_20 : decode cX1_add 20 = .ok (.iload 4, 2) := by decide +kernel
theorem dX1_add_22 : decode cX1_add 22 = .ok (.iload_n 1, 1) := by decide +kernel
theorem dX1_add_23 : decode cX1_add 23 = .ok (.iastore, 1) := by decide +kernel
theorem dX1_add_24 : decode cX1_add 24 = .ok (.aload_n 0, 1) := by decide +kernel
theorem dX1_add_25 : decode cX1_add 25 = .ok (.getfield 18, 3) := by decide +kernel
theorem dX1_add_28 : decode cX1_add 28 = .ok (.iload 4, 2) := by decide +kernel
theorem dX1_add_30 : decode cX1_add 30 = .ok (.iload_n 2, 1) := by decide +kernel
theorem dX1_add_31 : decode cX1_add 31 = .ok (.iastore, 1) := by decide +kernel
theorem dX1_add_32 : decode cX1_add 32 = .ok (.aload_n 0, 1) := by decide +kernel
theorem dX1_add_33 : decode cX1_add 33 = .ok (.getfield 21, 3) := by decide +kernel
theorem dX1_add_36 : decode cX1_add 36 = .ok (.iload 4, 2) := by decide +kernel
theorem dX1_add_38 : decode cX1_add 38 = .ok (.iload_n 3, 1) := by decide +kernel
theorem dX1_add_39 : decode cX1_add 39 = .ok (.iastore, 1) := by decide +kernel
theorem dX1_add_40 : decode cX1_add 40 = .ok (.aload_n 0, 1) := by decide +kernel
theorem dX1_add_41 : decode cX1_add 41 = .ok (.getfield 9, 3) := by decide +kernel
theorem dX1_add_44 : decode cX1_add 44 = .ok (.iload 4, 2) := by decide +kernel
theorem dX1_add_46 : decode cX1_add 46 = .ok (.iconst (-1), 1) := by decide +kernel
theorem dX1_add_47 : decode cX1_add 47 = .ok (.iastore, 1) := by decide +kernel
theorem dX1_add_48 : decode cX1_add 48 = .ok (.aload_n 0, 1) := by decide +kernel
theorem dX1_add_49 : decode cX1_add 49 = .ok (.getfield 36, 3) := by decide +kernel
theorem dX1_add_52 : decode cX1_add 52 = .ok (.iload 4, 2) := by decide +kernel
theorem dX1_add_54 : decode cX1_add 54 = .ok (.iconst 0, 1) := by decide +kernel
theorem dX1_add_55 : decode cX1_add 55 = .ok (.iastore, 1) := by decide +kernel
theorem dX1_add_56 : decode cX1_add 56 = .ok (.aload_n 0, 1) := by decide +kernel
theorem dX1_add_57 : decode cX1_add 57 = .ok (.iload 4, 2) := by decide +kernel
theorem dX1_add_59 : decode cX1_add 59 = .ok (.invokevirtual 56, 3) := by decide +kernel
theorem dX1_add_62 : decode cX1_add 62 = .ok (.return_, 1) := by decide +kernel
theorem dX1_slot_0 : decode cX1_slot 0 = .ok (.iload_n 1, 1) := by decide +kernel
theorem dX1_slot_1 : decode cX1_slot 1 = .ok (.iconst 4, 1) := by decide +kernel
theorem dX1_slot_2 : decode cX1_slot 2 = .ok (.imul, 1) := by decide +kernel
theorem dX1_slot_3 : decode cX1_slot 3 = .ok (.iload_n 2, 1) := by decide +kernel
theorem dX1_slot_4 : decode cX1_slot 4 = .ok (.iadd, 1) := by decide +kernel
theorem dX1_slot_5 : decode cX1_slot 5 = .ok (.ireturn, 1) := by decide +kernel
set_option maxRecDepth 20000 in
theorem ggX1_onShelf_X1_slot : GoodIn wsX1_onShelf wsX1_slot := goodIn_r _ [6] (by decide +kernel) (by decide +kernel)
set_option maxRecDepth 20000 in
theorem gX1_onShelf_X1_slot : GoodIn wsX1_onShelf (wsV RX1 60 RX1 yX1_slot wsX1_slot) := goodIn_app (goodIn_of _ (by decide +kernel)) ggX1_onShelf_X1_slot
theorem dX1_onShelf_0 : decode cX1_onShelf 0 = .ok (.aload_n 0, 1) := by decide +kernel
theorem dX1_onShelf_1 : decode cX1_onShelf 1 = .ok (.iload_n 1, 1) := by decide +kernel
theorem dX1_onShelf_2 : decode cX1_onShelf 2 = .ok (.iload_n 2, 1) := by decide +kernel
theorem dX1_onShelf_3 : decode cX1_onShelf 3 = .ok (.invokevirtual 60, 3) := by decide +kernel
theorem dX1_onShelf_6 : decode cX1_onShelf 6 = .ok (.istore_n 3, 1) := by decide +kernel
theorem dX1_onShelf_7 : decode cX1_onShelf 7 = .ok (.iload_n 3, 1) := by decide +kernel
theorem dX1_onShelf_8 : decode cX1_onShelf 8 = .ok (.ifCond .lt 21, 3) := by decide +kernel
theorem dX1_onShelf_11 : decode cX1_onShelf 11 = .ok (.iload_n 3, 1) := by decide +kernel
theorem dX1_onShelf_12 : decode cX1_onShelf 12 = .ok (.aload_n 0, 1) := by decide +kernel
theorem dX1_onShelf_13 : decode cX1_onShelf 13 = .ok (.getfield 39, 3) := by decide +kernel
theorem dX1_onShelf_16 : decode cX1_onShelf 16 = .ok (.arraylength, 1) := by decide +kernel
theorem dX1_onShelf_17 : decode cX1_onShelf 17 = .ok (.if_icmp .ge 12, 3) := by decide +kernel
theorem dX1_onShelf_20 : decode cX1_onShelf 20 = .ok (.aload_n 0, 1) := by decide +kernel
theorem dX1_onShelf_21 : decode cX1_onShelf 21 = .ok (.getfield 39, 3) := by decide +kernel
theorem dX1_onShelf_24 : decode cX1_onShelf 24 = .ok (.iload_n 3, 1) := by decide +kernel
theorem dX1_onShelf_25 : decode cX1_onShelf 25 = .ok (.iaload, 1) := by decide +kernel
theorem dX1_onShelf_26 : decode cX1_onShelf 26 = .ok (.goto 4, 3) := by decide +kernel
theorem dX1_onShelf_29 : decode cX1_onShelf 29 = .ok (.iconst 0, 1) := by decide +kernel
theorem dX1_onShelf_30 : decode cX1_onShelf 30 = .ok (.ireturn, 1) := by decide +kernel
theorem dX1_leastOnShelf_0 : decode cX1_leastOnShelf 0 = .ok (.iconst 0, 1) := by decide +kernel
theorem dX1_leastOnShelf_1 : decode cX1_leastOnShelf 1 = .ok (.istore_n 3, 1) := by decide +kernel
theorem dX1_leastOnShelf_2 : decode cX1_leastOnShelf 2 = .ok (.iload_n 3, 1) := by decide +kernel
theorem dX1_leastOnShelf_3 : decode cX1_leastOnShelf 3 = .ok (.aload_n 0, 1) := by decide +kernel
theorem dX1_leastOnShelf_4 : decode cX1_leastOnShelf 4 = .ok (.getfield 42, 3) := by decide +kernel
theorem dX1_leastOnShelf_7 : decode cX1_leastOnShelf 7 = .ok (.if_icmp .ge 40, 3) := by decide +kernel
theorem dX1_leastOnShelf_10 : decode cX1_leastOnShelf 10 = .ok (.aload_n 0, 1) := by decide +kernel
theorem dX1_leastOnShelf_11 : decode cX1_leastOnShelf 11 = .ok (.getfield 9, 3) := by decide +kernel
theorem dX1_leastOnShelf_14 : decode cX1_leastOnShelf 14 = .ok (.iload_n 3, 1) := by decide +kernel
theorem dX1_leastOnShelf_15 : decode cX1_leastOnShelf 15 = .ok (.iaload, 1) := by decide +kernel
theorem dX1_leastOnShelf_16 : decode cX1_leastOnShelf 16 = .ok (.ifCond .ne 25, 3) := by decide +kernel
theorem dX1_leastOnShelf_19 : decode cX1_leastOnShelf 19 = .ok (.aload_n 0, 1) := by decide +kernel
theorem dX1_leastOnShelf_20 : decode cX1_leastOnShelf 20 = .ok (.getfield 15, 3) := by decide +kernel
theorem dX1_leastOnShelf_23 : decode cX1_leastOnShelf 23 = .ok (.iload_n 3, 1) := by decide +kernel
theorem dX1_leastOnShelf_24 : decode cX1_leastOnShelf 24 = .ok (.iaload, 1) := by decide +kernel
theorem dX1_leastOnShelf_25 : decode cX1_leastOnShelf 25 = .ok (.iload_n 1, 1) := by decide +kernel
theorem dX1_leastOnShelf_26 : decode cX1_leastOnShelf 26 = .ok (.if_icmp .ne 15, 3) := by decide +kernel
theorem dX1_leastOnShelf_29 : decode cX1_leastOnShelf 29 = .ok (.aload_n 0, 1) := by decide +kernel
theorem dX1_leastOnShelf_30 : decode cX1_leastOnShelf 30 = .ok (.getfield 18, 3) := by decide +kernel
theorem dX1_leastOnShelf_33 : decode cX1_leastOnShelf 33 = .ok (.iload_n 3, 1) := by decide +kernel
theorem dX1_leastOnShelf_34 : decode cX1_leastOnShelf 34 = .ok (.iaload, 1) := by decide +kernel
theorem dX1_leastOnShelf_35 : decode cX1_leastOnShelf 35 = .ok (.iload_n 2, 1) := by decide +kernel
theorem dX1_leastOnShelf_36 : decode cX1_leastOnShelf 36 = .ok (.if_icmp .ne 5, 3) := by decide +kernel
theorem dX1_leastOnShelf_39 : decode cX1_leastOnShelf 39 = .ok (.iload_n 3, 1) := by decide +kernel
theorem dX1_leastOnShelf_40 : decode cX1_leastOnShelf 40 = .ok (.ireturn, 1) := by decide +kernel
theorem dX1_leastOnShelf_41 : decode cX1_leastOnShelf 41 = .ok (.iinc 3 1, 3) := by decide +kernel
theorem dX1_leastOnShelf_44 : decode cX1_leastOnShelf 44 = .ok (.goto (-42), 3) := by decide +kernel
theorem dX1_leastOnShelf_47 : decode cX1_leastOnShelf 47 = .ok (.iconst (-1), 1) := by decide +kernel
theorem dX1_leastOnShelf_48 : decode cX1_leastOnShelf 48 = .ok (.ireturn, 1) := by decide +kernel
theorem dX1_inHouse_0 : decode cX1_inHouse 0 = .ok (.iconst 0, 1) := by decide +kernel
theorem dX1_inHouse_1 : decode cX1_inHouse 1 = .ok (.istore_n 3, 1) := by decide +kernel
theorem dX1_inHouse_2 : decode cX1_inHouse 2 = .ok (.iconst 0, 1) := by decide +kernel
theorem dX1_inHouse_3 : decode cX1_inHouse 3 = .ok (.istore 4, 2) := by decide +kernel
theorem dX1_inHouse_5 : decode cX1_inHouse 5 = .ok (.iload 4, 2) := by decide +kernel
theorem dX1_inHouse_7 : decode cX1_inHouse 7 = .ok (.aload_n 0, 1) := by decide +kernel
theorem dX1_inHouse_8 : decode cX1_inHouse 8 = .ok (.getfield 42, 3) := by decide +kernel
theorem dX1_inHouse_11 : decode cX1_inHouse 11 = .ok (.if_icmp .ge 56, 3) := by decide +kernel
theorem dX1_inHouse_14 : decode cX1_inHouse 14 = .ok (.aload_n 0, 1) := by decide +kernel
theorem dX1_inHouse_15 : decode cX1_inHouse 15 = .ok (.getfield 15, 3) := by decide +kernel
theorem dX1_inHouse_18 : decode cX1_inHouse 18 = .ok (.iload 4, 2) := by decide +kernel
theorem dX1_inHouse_20 : decode cX1_inHouse 20 = .ok (.iaload, 1) := by decide +kernel
theorem dX1_inHouse_21 : decode cX1_inHouse 21 = .ok (.iload_n 1, 1) := by decide +kernel
theorem dX1_inHouse_22 : decode cX1_inHouse 22 = .ok (.if_icmp .ne 39, 3) := by decide +kernel
theorem dX1_inHouse_25 : decode cX1_inHouse 25 = .ok (.aload_n 0, 1) := by decide +kernel
theorem dX1_inHouse_26 : decode cX1_inHouse 26 = .ok (.getfield 18, 3) := by decide +kernel
theorem dX1_inHouse_29 : decode cX1_inHouse 29 = .ok (.iload 4, 2) := by decide +kernel
theorem dX1_inHouse_31 : decode cX1_inHouse 31 = .ok (.iaload, 1) := by decide +kernel
theorem dX1_inHouse_32 : decode cX1_inHouse 32 = .ok (.iload_n 2, 1) := by decide +kernel
theorem dX1_inHouse_33 : decode cX1_inHouse 33 = .ok (.if_icmp .ne 28, 3) := by decide +kernel
theorem dX1_inHouse_36 : decode cX1_inHouse 36 = .ok (.aload_n 0, 1) := by decide +kernel
theorem dX1_inHouse_37 : decode cX1_inHouse 37 = .ok (.getfield 9, 3) := by decide +kernel
theorem dX1_inHouse_40 : decode cX1_inHouse 40 = .ok (.iload 4, 2) := by decide +kernel
theorem dX1_inHouse_42 : decode cX1_inHouse 42 = .ok (.iaload, 1) := by decide +kernel
theorem dX1_inHouse_43 : decode cX1_inHouse 43 = .ok (.iconst 4, 1) := by decide +kernel
theorem dX1_inHouse_44 : decode cX1_inHouse 44 = .ok (.if_icmp .eq 17, 3) := by decide +kernel
theorem dX1_inHouse_47 : decode cX1_inHouse 47 = .ok (.aload_n 0, 1) := by decide +kernel
theorem dX1_inHouse_48 : decode cX1_inHouse 48 = .ok (.getfield 9, 3) := by decide +kernel
theorem dX1_inHouse_51 : decode cX1_inHouse 51 = .ok (.iload 4, 2) := by decide +kernel
theorem dX1_inHouse_53 : decode cX1_inHouse 53 = .ok (.iaload, 1) := by decide +kernel
theorem dX1_inHouse_54 : decode cX1_inHouse 54 = .ok (.iconst 5, 1) := by decide +kernel
theorem dX1_inHouse_55 : decode cX1_inHouse 55 = .ok (.if_icmp .eq 6, 3) := by decide +kernel
theorem dX1_inHouse_58 : decode cX1_inHouse 58 = .ok (.iinc 3 1, 3) := by decide +kernel
theorem dX1_inHouse_61 : decode cX1_inHouse 61 = .ok (.iinc 4 1, 3) := by decide +kernel
theorem dX1_inHouse_64 : decode cX1_inHouse 64 = .ok (.goto (-59), 3) := by decide +kernel
theorem dX1_inHouse_67 : decode cX1_inHouse 67 = .ok (.iload_n 3, 1) := by decide +kernel
theorem dX1_inHouse_68 : decode cX1_inHouse 68 = .ok (.ireturn, 1) := by decide +kernel
set_option maxRecDepth 20000 in
theorem ggX1_shelve_X1_moveTo : GoodIn wsX1_shelve wsX1_moveTo := goodIn_r _ [5, 6, 7, 8, 9, 4, 10, 11, 12, 13, 14, 15, 16, 17, 18, 19, 20, 21, 22, 23, 32, 33, 34, 35, 36, 37, 38, 39, 40, 41, 42, 43, 44] (by decide +kernel) (by decide +kernel)
set_option maxRecDepth 20000 in
theorem gX1_shelve_X1_moveTo : GoodIn wsX1_shelve (wsV RX1 64 RX1 yX1_moveTo wsX1_moveTo) := goodIn_app (goodIn_of _ (by decide +kernel)) ggX1_shelve_X1_moveTo
set_option maxRecDepth 20000 in
theorem ggX1_shelve_X1_belongToNobody : GoodIn wsX1_shelve wsX1_belongToNobody := goodIn_r _ [27, 28, 29, 30, 31, 32, 33, 34, 35, 36, 37, 38, 39, 40, 41, 42, 43, 44] (by decide +kernel) (by decide +kernel)
set_option maxRecDepth 20000 in
theorem gX1_shelve_X1_belongToNobody : GoodIn wsX1_shelve (wsV RX1 68 RX1 yX1_belongToNobody wsX1_belongToNobody) := goodIn_app (goodIn_of _ (by decide +kernel)) ggX1_shelve_X1_belongToNobody
theorem dX1_shelve_0 : decode cX1_shelve 0 = .ok (.aload_n 0, 1) := by decide +kernel
theorem dX1_shelve_1 : decode cX1_shelve 1 = .ok (.iload_n 1, 1) := by decide +kernel
theorem dX1_shelve_2 : decode cX1_shelve 2 = .ok (.iconst 0, 1) := by decide +kernel
theorem dX1_shelve_3 : decode cX1_shelve 3 = .ok (.invokevirtual 64, 3) := by decide +kernel
theorem dX1_shelve_6 : decode cX1_shelve 6 = .ok (.aload_n 0, 1) := by decide +kernel
theorem dX1_shelve_7 : decode cX1_shelve 7 = .ok (.iload_n 1, 1) := by decide +kernel
theorem dX1_shelve_8 : decode cX1_shelve 8 = .ok (.invokevirtual 68, 3) := by decide +kernel
theorem dX1_shelve_11 : decode cX1_shelve 11 = .ok (.return_, 1) := by decide +kernel
set_option maxRecDepth 20000 in
theorem ggX1_leaveFor_X1_moveTo : GoodIn wsX1_leaveFor wsX1_moveTo := goodIn_r _ [5, 6, 7, 8, 9, 4, 10, 11, 12, 13, 14, 15, 16, 17, 18, 19, 20, 21, 22, 23, 32, 33, 34, 35, 36, 37, 38, 39, 40, 41, 42, 43, 44] (by decide +kernel) (by decide +kernel)
set_option maxRecDepth 20000 in
theorem gX1_leaveFor_X1_moveTo : GoodIn wsX1_leaveFor (wsV RX1 64 RX1 yX1_moveTo wsX1_moveTo) := goodIn_app (goodIn_of _ (by decide +kernel)) ggX1_leaveFor_X1_moveTo
set_option maxRecDepth 20000 in
theorem ggX1_leaveFor_X1_belongToNobody : GoodIn wsX1_leaveFor wsX1_belongToNobody := goodIn_r _ [27, 28, 29, 30, 31, 32, 33, 34, 35, 36, 37, 38, 39, 40, 41, 42, 43, 44] (by decide +kernel) (by decide +kernel)
set_option maxRecDepth 20000 in
theorem gX1_leaveFor_X1_belongToNobody : GoodIn wsX1_leaveFor (wsV RX1 68 RX1 yX1_belongToNobody wsX1_belongToNobody) := goodIn_app (goodIn_of _ (by decide +kernel)) ggX1_leaveFor_X1_belongToNobody
theorem dX1_leaveFor_0 : decode cX1_leaveFor 0 = .ok (.aload_n 0, 1) := by decide +kernel
theorem dX1_leaveFor_1 : decode cX1_leaveFor 1 = .ok (.iload_n 1, 1) := by decide +kernel
theorem dX1_leaveFor_2 : decode cX1_leaveFor 2 = .ok (.iload_n 2, 1) := by decide +kernel
theorem dX1_leaveFor_3 : decode cX1_leaveFor 3 = .ok (.invokevirtual 64, 3) := by decide +kernel
theorem dX1_leaveFor_6 : decode cX1_leaveFor 6 = .ok (.aload_n 0, 1) := by decide +kernel
theorem dX1_leaveFor_7 : decode cX1_leaveFor 7 = .ok (.iload_n 1, 1) := by decide +kernel
theorem dX1_leaveFor_8 : decode cX1_leaveFor 8 = .ok (.invokevirtual 68, 3) := by decide +kernel
theorem dX1_leaveFor_11 : decode cX1_leaveFor 11 = .ok (.return_, 1) := by decide +kernel
theorem dX1_lend_0 : decode cX1_lend 0 = .ok (.aload_n 0, 1) := by decide +kernel
theorem dX1_lend_1 : decode cX1_lend 1 = .ok (.getfield 24, 3) := by decide +kernel
theorem dX1_lend_4 : decode cX1_lend 4 = .ok (.iload_n 1, 1) := by decide +kernel
theorem dX1_lend_5 : decode cX1_lend 5 = .ok (.iload_n 2, 1) := by decide +kernel
theorem dX1_lend_6 : decode cX1_lend 6 = .ok (.iastore, 1) := by decide +kernel
theorem dX1_lend_7 : decode cX1_lend 7 = .ok (.aload_n 0, 1) := by decide +kernel
theorem dX1_lend_8 : decode cX1_lend 8 = .ok (.getfield 27, 3) := by decide +kernel
theorem dX1_lend_11 : decode cX1_lend 11 = .ok (.iload_n 1, 1) := by decide +kernel
theorem dX1_lend_12 : decode cX1_lend 12 = .ok (.iload_n 3, 1) := by decide +kernel
theorem dX1_lend_13 : decode cX1_lend 13 = .ok (.iastore, 1) := by decide +kernel
theorem dX1_lend_14 : decode cX1_lend 14 = .ok (.aload_n 0, 1) := by decide +kernel
theorem dX1_lend_15 : decode cX1_lend 15 = .ok (.getfield 36, 3) := by decide +kernel
theorem dX1_lend_18 : decode cX1_lend 18 = .ok (.iload_n 1, 1) := by decide +kernel
theorem dX1_lend_19 : decode cX1_lend 19 = .ok (.dup2, 1) := by decide +kernel
theorem dX1_lend_20 : decode cX1_lend 20 = .ok (.iaload, 1) := by decide +kernel
theorem dX1_lend_21 : decode cX1_lend 21 = .ok (.iconst 1, 1) := by decide +kernel
theorem dX1_lend_22 : decode cX1_lend 22 = .ok (.iadd, 1) := by decide +kernel
theorem dX1_lend_23 : decode cX1_lend 23 = .ok (.iastore, 1) := by decide +kernel
theorem dX1_lend_24 : decode cX1_lend 24 = .ok (.return_, 1) := by decide +kernel
set_option maxRecDepth 20000 in
theorem ggX1_handOver_X1_moveTo : GoodIn wsX1_handOver wsX1_moveTo := goodIn_r _ [7, 8, 9, 10, 11, 6, 12, 13, 14, 15, 16, 17, 18, 19, 20, 21, 22, 23, 24, 25, 26, 27, 28, 29, 30, 31, 32, 33, 34, 35, 36, 37, 38] (by decide +kernel) (by decide +kernel)
set_option maxRecDepth 20000 in
theorem gX1_handOver_X1_moveTo : GoodIn wsX1_handOver (wsV RX1 64 RX1 yX1_moveTo wsX1_moveTo) := goodIn_app (goodIn_of _ (by decide +kernel)) ggX1_handOver_X1_moveTo
theorem dX1_handOver_0 : decode cX1_handOver 0 = .ok (.aload_n 0, 1) := by decide +kernel
theorem dX1_handOver_1 : decode cX1_handOver 1 = .ok (.iload_n 1, 1) := by decide +kernel
theorem dX1_handOver_2 : decode cX1_handOver 2 = .ok (.iconst 1, 1) := by decide +kernel
theorem dX1_handOver_3 : decode cX1_handOver 3 = .ok (.invokevirtual 64, 3) := by decide +kernel
theorem dX1_handOver_6 : decode cX1_handOver 6 = .ok (.aload_n 0, 1) := by decide +kernel
theorem dX1_handOver_7 : decode cX1_handOver 7 = .ok (.getfield 30, 3) := by decide +kernel
theorem dX1_handOver_10 : decode cX1_handOver 10 = .ok (.iload_n 1, 1) := by decide +kernel
theorem dX1_handOver_11 : decode cX1_handOver 11 = .ok (.iload_n 2, 1) := by decide +kernel
theorem dX1_handOver_12 : decode cX1_handOver 12 = .ok (.iastore, 1) := by decide +kernel
theorem dX1_handOver_13 : decode cX1_handOver 13 = .ok (.aload_n 0, 1) := by decide +kernel
theorem dX1_handOver_14 : decode cX1_handOver 14 = .ok (.getfield 33, 3) := by decide +kernel
theorem dX1_handOver_17 : decode cX1_handOver 17 = .ok (.iload_n 1, 1) := by decide +kernel
theorem dX1_handOver_18 : decode cX1_handOver 18 = .ok (.iconst 0, 1) := by decide +kernel
theorem dX1_handOver_19 : decode cX1_handOver 19 = .ok (.iastore, 1) := by decide +kernel
theorem dX1_handOver_20 : decode cX1_handOver 20 = .ok (.return_, 1) := by decide +kernel
set_option maxRecDepth 20000 in
theorem ggX1_sendOut_X1_moveTo : GoodIn wsX1_sendOut wsX1_moveTo := goodIn_r _ [6, 7, 8, 9, 10, 5, 11, 12, 13, 14, 15, 16, 17, 18, 19, 20, 21, 22, 23, 24, 25, 26, 27, 28, 29, 30, 31, 32, 33, 34, 35, 36, 37] (by decide +kernel) (by decide +kernel)
set_option maxRecDepth 20000 in
theorem gX1_sendOut_X1_moveTo : GoodIn wsX1_sendOut (wsV RX1 64 RX1 yX1_moveTo wsX1_moveTo) := goodIn_app (goodIn_of _ (by decide +kernel)) ggX1_sendOut_X1_moveTo
theorem dX1_sendOut_0 : decode cX1_sendOut 0 = .ok (.aload_n 0, 1) := by decide +kernel
theorem dX1_sendOut_1 : decode cX1_sendOut 1 = .ok (.iload_n 1, 1) := by decide +kernel
theorem dX1_sendOut_2 : decode cX1_sendOut 2 = .ok (.iconst 2, 1) := by decide +kernel
theorem dX1_sendOut_3 : decode cX1_sendOut 3 = .ok (.invokevirtual 64, 3) := by decide +kernel
theorem dX1_sendOut_6 : decode cX1_sendOut 6 = .ok (.aload_n 0, 1) := by decide +kernel
theorem dX1_sendOut_7 : decode cX1_sendOut 7 = .ok (.getfield 33, 3) := by decide +kernel
theorem dX1_sendOut_10 : decode cX1_sendOut 10 = .ok (.iload_n 1, 1) := by decide +kernel
theorem dX1_sendOut_11 : decode cX1_sendOut 11 = .ok (.iload_n 2, 1) := by decide +kernel
theorem dX1_sendOut_12 : decode cX1_sendOut 12 = .ok (.iastore, 1) := by decide +kernel
theorem dX1_sendOut_13 : decode cX1_sendOut 13 = .ok (.return_, 1) := by decide +kernel
set_option maxRecDepth 20000 in
theorem ggX1_sendBack_X1_moveTo : GoodIn wsX1_sendBack wsX1_moveTo := goodIn_r _ [8, 9, 10, 11, 12, 7, 13, 14, 15, 16, 17, 18, 19, 20, 21, 22, 23, 24, 25, 26, 27, 28, 29, 30, 31, 32, 33, 34, 35, 36, 37, 38, 39] (by decide +kernel) (by decide +kernel)
set_option maxRecDepth 20000 in
theorem gX1_sendBack_X1_moveTo : GoodIn wsX1_sendBack (wsV RX1 64 RX1 yX1_moveTo wsX1_moveTo) := goodIn_app (goodIn_of _ (by decide +kernel)) ggX1_sendBack_X1_moveTo
theorem dX1_sendBack_0 : decode cX1_sendBack 0 = .ok (.aload_n 0, 1) := by decide +kernel
theorem dX1_sendBack_1 : decode cX1_sendBack 1 = .ok (.iload_n 1, 1) := by decide +kernel
theorem dX1_sendBack_2 : decode cX1_sendBack 2 = .ok (.iconst 3, 1) := by decide +kernel
theorem dX1_sendBack_3 : decode cX1_sendBack 3 = .ok (.invokevirtual 64, 3) := by decide +kernel
theorem dX1_sendBack_6 : decode cX1_sendBack 6 = .ok (.aload_n 0, 1) := by decide +kernel
theorem dX1_sendBack_7 : decode cX1_sendBack 7 = .ok (.getfield 27, 3) := by decide +kernel
theorem dX1_sendBack_10 : decode cX1_sendBack 10 = .ok (.iload_n 1, 1) := by decide +kernel
theorem dX1_sendBack_11 : decode cX1_sendBack 11 = .ok (.iconst (-1), 1) := by decide +kernel
theorem dX1_sendBack_12 : decode cX1_sendBack 12 = .ok (.iastore, 1) := by decide +kernel
theorem dX1_sendBack_13 : decode cX1_sendBack 13 = .ok (.aload_n 0, 1) := by decide +kernel
theorem dX1_sendBack_14 : decode cX1_sendBack 14 = .ok (.getfield 30, 3) := by decide +kernel
theorem dX1_sendBack_17 : decode cX1_sendBack 17 = .ok (.iload_n 1, 1) := by decide +kernel
theorem dX1_sendBack_18 : decode cX1_sendBack 18 = .ok (.iconst (-1), 1) := by decide +kernel
theorem dX1_sendBack_19 : decode cX1_sendBack 19 = .ok (.iastore, 1) := by decide +kernel
theorem dX1_sendBack_20 : decode cX1_sendBack 20 = .ok (.aload_n 0, 1) := by decide +kernel
theorem dX1_sendBack_21 : decode cX1_sendBack 21 = .ok (.getfield 33, 3) := by decide +kernel
theorem dX1_sendBack_24 : decode cX1_sendBack 24 = .ok (.iload_n 1, 1) := by decide +kernel
theorem dX1_sendBack_25 : decode cX1_sendBack 25 = .ok (.iload_n 2, 1) := by decide +kernel
theorem dX1_sendBack_26 : decode cX1_sendBack 26 = .ok (.iastore, 1) := by decide +kernel
theorem dX1_sendBack_27 : decode cX1_sendBack 27 = .ok (.return_, 1) := by decide +kernel
set_option maxRecDepth 20000 in
theorem ggX1_comesToday_X1_inBox : GoodIn wsX1_comesToday wsX1_inBox := goodIn_r _ [6, 7, 8, 9, 10, 11, 12, 13, 14, 15, 16, 17, 18, 19, 20] (by decide +kernel) (by decide +kernel)
set_option maxRecDepth 20000 in
theorem gX1_comesToday_X1_inBox : GoodIn wsX1_comesToday (wsV RX1 71 RX1 yX1_inBox wsX1_inBox) := goodIn_app (goodIn_of _ (by decide +kernel)) ggX1_comesToday_X1_inBox
theorem dX1_comesToday_0 : decode cX1_comesToday 0 = .ok (.aload_n 0, 1) := by decide +kernel
theorem dX1_comesToday_1 : decode cX1_comesToday 1 = .ok (.iload_n 1, 1) := by decide +kernel
theorem dX1_comesToday_2 : decode cX1_comesToday 2 = .ok (.invokevirtual 71, 3) := by decide +kernel
theorem dX1_comesToday_5 : decode cX1_comesToday 5 = .ok (.ifCond .ne 5, 3) := by decide +kernel
theorem dX1_comesToday_8 : decode cX1_comesToday 8 = .ok (.iconst 0, 1) := by decide +kernel
theorem dX1_comesToday_9 : decode cX1_comesToday 9 = .ok (.ireturn, 1) := by decide +kernel
theorem dX1_comesToday_10 : decode cX1_comesToday 10 = .ok (.aload_n 0, 1) := by decide +kernel
theorem dX1_comesToday_11 : decode cX1_comesToday 11 = .ok (.getfield 33, 3) := by decide +kernel
theorem dX1_comesToday_14 : decode cX1_comesToday 14 = .ok (.iload_n 1, 1) := by decide +kernel
theorem dX1_comesToday_15 : decode cX1_comesToday 15 = .ok (.dup2, 1) := by decide +kernel
theorem dX1_comesToday_16 : decode cX1_comesToday 16 = .ok (.iaload, 1) := by decide +kernel
theorem dX1_comesToday_17 : decode cX1_comesToday 17 = .ok (.iconst 1, 1) := by decide +kernel
theorem dX1_comesToday_18 : decode cX1_comesToday 18 = .ok (.isub, 1) := by decide +kernel
theorem dX1_comesToday_19 : decode cX1_comesToday 19 = .ok (.iastore, 1) := by decide +kernel
theorem dX1_comesToday_20 : decode cX1_comesToday 20 = .ok (.aload_n 0, 1) := by decide +kernel
theorem dX1_comesToday_21 : decode cX1_comesToday 21 = .ok (.getfield 33, 3) := by decide +kernel
theorem dX1_comesToday_24 : decode cX1_comesToday 24 = .ok (.iload_n 1, 1) := by decide +kernel
theorem dX1_comesToday_25 : decode cX1_comesToday 25 = .ok (.iaload, 1) := by decide +kernel
theorem dX1_comesToday_26 : decode cX1_comesToday 26 = .ok (.ifCond .gt 7, 3) := by decide +kernel
theorem dX1_comesToday_29 : decode cX1_comesToday 29 = .ok (.iconst 1, 1) := by decide +kernel
theorem dX1_comesToday_30 : decode cX1_comesToday 30 = .ok (.goto 4, 3) := by decide +kernel
theorem dX1_comesToday_33 : decode cX1_comesToday 33 = .ok (.iconst 0, 1) := by decide +kernel
theorem dX1_comesToday_34 : decode cX1_comesToday 34 = .ok (.ireturn, 1) := by decide +kernel
theorem dX1_inBox_0 : decode cX1_inBox 0 = .ok (.aload_n 0, 1) := by decide +kernel
theorem dX1_inBox_1 : decode cX1_inBox 1 = .ok (.getfield 9, 3) := by decide +kernel
theorem dX1_inBox_4 : decode cX1_inBox 4 = .ok (.iload_n 1, 1) := by decide +kernel
theorem dX1_inBox_5 : decode cX1_inBox 5 = .ok (.iaload, 1) := by decide +kernel
theorem dX1_inBox_6 : decode cX1_inBox 6 = .ok (.iconst 2, 1) := by decide +kernel
theorem dX1_inBox_7 : decode cX1_inBox 7 = .ok (.if_icmp .eq 13, 3) := by decide +kernel
theorem dX1_inBox_10 : decode cX1_inBox 10 = .ok (.aload_n 0, 1) := by decide +kernel
theorem dX1_inBox_11 : decode cX1_inBox 11 = .ok (.getfield 9, 3) := by decide +kernel
theorem dX1_inBox_14 : decode cX1_inBox 14 = .ok (.iload_n 1, 1) := by decide +kernel
theorem dX1_inBox_15 : decode cX1_inBox 15 = .ok (.iaload, 1) := by decide +kernel
theorem dX1_inBox_16 : decode cX1_inBox 16 = .ok (.iconst 3, 1) := by decide +kernel
theorem dX1_inBox_17 : decode cX1_inBox 17 = .ok (.if_icmp .ne 7, 3) := by decide +kernel
theorem dX1_inBox_20 : decode cX1_inBox 20 = .ok (.iconst 1, 1) := by decide +kernel
theorem dX1_inBox_21 : decode cX1_inBox 21 = .ok (.goto 4, 3) := by decide +kernel
theorem dX1_inBox_24 : decode cX1_inBox 24 = .ok (.iconst 0, 1) := by decide +kernel
theorem dX1_inBox_25 : decode cX1_inBox 25 = .ok (.ireturn, 1) := by decide +kernel
theorem dX1_belongToNobody_0 : decode cX1_belongToNobody 0 = .ok (.aload_n 0, 1) := by decide +kernel
theorem dX1_belongToNobody_1 : decode cX1_belongToNobody 1 = .ok (.getfield 24, 3) := by decide +kernel
theorem dX1_belongToNobody_4 : decode cX1_belongToNobody 4 = .ok (.iload_n 1, 1) := by decide +kernel
theorem dX1_belongToNobody_5 : decode cX1_belongToNobody 5 = .ok (.iconst (-1), 1) := by decide +kernel
theorem dX1_belongToNobody_6 : decode cX1_belongToNobody 6 = .ok (.iastore, 1) := by decide +kernel
theorem dX1_belongToNobody_7 : decode cX1_belongToNobody 7 = .ok (.aload_n 0, 1) := by decide +kernel
theorem dX1_belongToNobody_8 : decode cX1_belongToNobody 8 = .ok (.getfield 27, 3) := by decide +kernel
theorem dX1_belongToNobody_11 : decode cX1_belongToNobody 11 = .ok (.iload_n 1, 1) := by decide +kernel
theorem dX1_belongToNobody_12 : decode cX1_belongToNobody 12 = .ok (.iconst (-1), 1) := by decide +kernel
theorem dX1_belongToNobody_13 : decode cX1_belongToNobody 13 = .ok (.iastore, 1) := by decide +kernel
theorem dX1_belongToNobody_14 : decode cX1_belongToNobody 14 = .ok (.aload_n 0, 1) := by decide +kernel
theorem dX1_belongToNobody_15 : decode cX1_belongToNobody 15 = .ok (.getfield 30, 3) := by decide +kernel
theorem dX1_belongToNobody_18 : decode cX1_belongToNobody 18 = .ok (.iload_n 1, 1) := by decide +kernel
theorem dX1_belongToNobody_19 : decode cX1_belongToNobody 19 = .ok (.iconst (-1), 1) := by decide +kernel
theorem dX1_belongToNobody_20 : decode cX1_belongToNobody 20 = .ok (.iastore, 1) := by decide +kernel
theorem dX1_belongToNobody_21 : decode cX1_belongToNobody 21 = .ok (.aload_n 0, 1) := by decide +kernel
theorem dX1_belongToNobody_22 : decode cX1_belongToNobody 22 = .ok (.getfield 33, 3) := by decide +kernel
theorem dX1_belongToNobody_25 : decode cX1_belongToNobody 25 = .ok (.iload_n 1, 1) := by decide +kernel
theorem dX1_belongToNobody_26 : decode cX1_belongToNobody 26 = .ok (.iconst 0, 1) := by decide +kernel
theorem dX1_belongToNobody_27 : decode cX1_belongToNobody 27 = .ok (.iastore, 1) := by decide +kernel
theorem dX1_belongToNobody_28 : decode cX1_belongToNobody 28 = .ok (.return_, 1) := by decide +kernel
set_option maxRecDepth 20000 in
theorem ggX1_moveTo_X1_tally : GoodIn wsX1_moveTo wsX1_tally := goodIn_r _ [6, 7, 8, 1, 9, 10, 11, 12, 13, 14, 5, 15, 16, 17, 18, 19, 20, 21, 22, 23, 24, 25, 26, 27, 28, 29, 30, 31, 32] (by decide +kernel) (by decide +kernel)
set_option maxRecDepth 20000 in
theorem gX1_moveTo_X1_tally : GoodIn wsX1_moveTo (wsV RX1 74 RX1 yX1_tally wsX1_tally) := goodIn_app (goodIn_of _ (by decide +kernel)) ggX1_moveTo_X1_tally
theorem dX1_moveTo_0 : decode cX1_moveTo 0 = .ok (.aload_n 0, 1) := by decide +kernel
theorem dX1_moveTo_1 : decode cX1_moveTo 1 = .ok (.iload_n 1, 1) := by decide +kernel
theorem dX1_moveTo_2 : decode cX1_moveTo 2 = .ok (.iconst (-1), 1) := by decide +kernel
theorem dX1_moveTo_3 : decode cX1_moveTo 3 = .ok (.invokevirtual 74, 3) := by decide +kernel
theorem dX1_moveTo_6 : decode cX1_moveTo 6 = .ok (.aload_n 0, 1) := by decide +kernel
theorem dX1_moveTo_7 : decode cX1_moveTo 7 = .ok (.getfield 9, 3) := by decide +kernel
theorem dX1_moveTo_10 : decode cX1_moveTo 10 = .ok (.iload_n 1, 1) := by decide +kernel
theorem dX1_moveTo_11 : decode cX1_moveTo 11 = .ok (.iload_n 2, 1) := by decide +kernel
theorem dX1_moveTo_12 : decode cX1_moveTo 12 = .ok (.iastore, 1) := by decide +kernel
theorem dX1_moveTo_13 : decode cX1_moveTo 13 = .ok (.aload_n 0, 1) := by decide +kernel
theorem dX1_moveTo_14 : decode cX1_moveTo 14 = .ok (.iload_n 1, 1) := by decide +kernel
theorem dX1_moveTo_15 : decode cX1_moveTo 15 = .ok (.iconst 1, 1) := by decide +kernel
theorem dX1_moveTo_16 : decode cX1_moveTo 16 = .ok (.invokevirtual 74, 3) := by decide +kernel
theorem dX1_moveTo_19 : decode cX1_moveTo 19 = .ok (.return_, 1) := by decide +kernel
set_option maxRecDepth 20000 in
theorem ggX1_tally_X1_slot : GoodIn wsX1_tally wsX1_slot := goodIn_r _ [11] (by decide +kernel) (by decide +kernel)
set_option maxRecDepth 20000 in
theorem gX1_tally_X1_slot : GoodIn wsX1_tally (wsV RX1 60 RX1 yX1_slot wsX1_slot) := goodIn_app (goodIn_of _ (by decide +kernel)) ggX1_tally_X1_slot
set_option maxRecDepth 20000 in
theorem ggX1_tally_X1_inBox : GoodIn wsX1_tally wsX1_inBox := goodIn_r _ [15, 3, 16, 17, 18, 19, 20, 21, 22, 23, 24, 25, 26, 27, 28] (by decide +kernel) (by decide +kernel)
set_option maxRecDepth 20000 in
theorem gX1_tally_X1_inBox : GoodIn wsX1_tally (wsV RX1 71 RX1 yX1_inBox wsX1_inBox) := goodIn_app (goodIn_of _ (by decide +kernel)) ggX1_tally_X1_inBox
theorem dX1_tally_0 : decode cX1_tally 0 = .ok (.aload_n 0, 1) := by decide +kernel
theorem dX1_tally_1 : decode cX1_tally 1 = .ok (.aload_n 0, 1) := by decide +kernel
theorem dX1_tally_2 : decode cX1_tally 2 = .ok (.getfield 15, 3) := by decide +kernel
theorem dX1_tally_5 : decode cX1_tally 5 = .ok (.iload_n 1, 1) := by decide +kernel
theorem dX1_tally_6 : decode cX1_tally 6 = .ok (.iaload, 1) := by decide +kernel
theorem dX1_tally_7 : decode cX1_tally 7 = .ok (.aload_n 0, 1) := by decide +kernel
theorem dX1_tally_8 : decode cX1_tally 8 = .ok (.getfield 18, 3) := by decide +kernel
theorem dX1_tally_11 : decode cX1_tally 11 = .ok (.iload_n 1, 1) := by decide +kernel
theorem dX1_tally_12 : decode cX1_tally 12 = .ok (.iaload, 1) := by decide +kernel
theorem dX1_tally_13 : decode cX1_tally 13 = .ok (.invokevirtual 60, 3) := by decide +kernel
theorem dX1_tally_16 : decode cX1_tally 16 = .ok (.istore_n 3, 1) := by decide +kernel
theorem dX1_tally_17 : decode cX1_tally 17 = .ok (.aload_n 0, 1) := by decide +kernel
theorem dX1_tally_18 : decode cX1_tally 18 = .ok (.getfield 9, 3) := by decide +kernel
theorem dX1_tally_21 : decode cX1_tally 21 = .ok (.iload_n 1, 1) := by decide +kernel
theorem dX1_tally_22 : decode cX1_tally 22 = .ok (.iaload, 1) := by decide +kernel
theorem dX1_tally_23 : decode cX1_tally 23 = .ok (.ifCond .ne 26, 3) := by decide +kernel
theorem dX1_tally_26 : decode cX1_tally 26 = .ok (.iload_n 3, 1) := by decide +kernel
theorem dX1_tally_27 : decode cX1_tally 27 = .ok (.ifCond .lt 22, 3) := by decide +kernel
theorem dX1_tally_30 : decode cX1_tally 30 = .ok (.iload_n 3, 1) := by decide +kernel
theorem dX1_tally_31 : decode cX1_tally 31 = .ok (.aload_n 0, 1) := by decide +kernel
theorem dX1_tally_32 : decode cX1_tally 32 = .ok (.getfield 39, 3) := by decide +kernel
theorem dX1_tally_35 : decode cX1_tally 35 = .ok (.arraylength, 1) := by decide +kernel
theorem dX1_tally_36 : decode cX1_tally 36 = .ok (.if_icmp .ge 13, 3) := by decide +kernel
theorem dX1_tally_39 : decode cX1_tally 39 = .ok (.aload_n 0, 1) := by decide +kernel
theorem dX1_tally_40 : decode cX1_tally 40 = .ok (.getfield 39, 3) := by decide +kernel
theorem dX1_tally_43 : decode cX1_tally 43 = .ok (.iload_n 3, 1) := by decide +kernel
theorem dX1_tally_44 : decode cX1_tally 44 = .ok (.dup2, 1) := by decide +kernel
theorem dX1_tally_45 : decode cX1_tally 45 = .ok (.iaload, 1) := by decide +kernel
theorem dX1_tally_46 : decode cX1_tally 46 = .ok (.iload_n 2, 1) := by decide +kernel
theorem dX1_tally_47 : decode cX1_tally 47 = .ok (.iadd, 1) := by decide +kernel
theorem dX1_tally_48 : decode cX1_tally 48 = .ok (.iastore, 1) := by decide +kernel
theorem dX1_tally_49 : decode cX1_tally 49 = .ok (.aload_n 0, 1) := by decide +kernel
theorem dX1_tally_50 : decode cX1_tally 50 = .ok (.iload_n 1, 1) := by decide +kernel
theorem dX1_tally_51 : decode cX1_tally 51 = .ok (.invokevirtual 71, 3) := by decide +kernel
theorem dX1_tally_54 : decode cX1_tally 54 = .ok (.ifCond .eq 13, 3) := by decide +kernel
theorem dX1_tally_57 : decode cX1_tally 57 = .ok (.aload_n 0, 1) := by decide +kernel
theorem dX1_tally_58 : decode cX1_tally 58 = .ok (.dup, 1) := by decide +kernel
theorem dX1_tally_59 : decode cX1_tally 59 = .ok (.getfield 46, 3) := by decide +kernel
theorem dX1_tally_62 : decode cX1_tally 62 = .ok (.iload_n 2, 1) := by decide +kernel
theorem dX1_tally_63 : decode cX1_tally 63 = .ok (.iadd, 1) := by decide +kernel
theorem dX1_tally_64 : decode cX1_tally 64 = .ok (.putfield 46, 3) := by decide +kernel
theorem dX1_tally_67 : decode cX1_tally 67 = .ok (.aload_n 0, 1) := by decide +kernel
theorem dX1_tally_68 : decode cX1_tally 68 = .ok (.getfield 9, 3) := by decide +kernel
theorem dX1_tally_71 : decode cX1_tally 71 = .ok (.iload_n 1, 1) := by decide +kernel
theorem dX1_tally_72 : decode cX1_tally 72 = .ok (.iaload, 1) := by decide +kernel
theorem dX1_tally_73 : decode cX1_tally 73 = .ok (.iconst 5, 1) := by decide +kernel
theorem dX1_tally_74 : decode cX1_tally 74 = .ok (.if_icmp .ne 13, 3) := by decide +kernel
theorem dX1_tally_77 : decode cX1_tally 77 = .ok (.aload_n 0, 1) := by decide +kernel
theorem dX1_tally_78 : decode cX1_tally 78 = .ok (.dup, 1) := by decide +kernel
theorem dX1_tally_79 : decode cX1_tally 79 = .ok (.getfield 49, 3) := by decide +kernel
theorem dX1_tally_82 : decode cX1_tally 82 = .ok (.iload_n 2, 1) := by decide +kernel
theorem dX1_tally_83 : decode cX1_tally 83 = .ok (.iadd, 1) := by decide +kernel
theorem dX1_tally_84 : decode cX1_tally 84 = .ok (.putfield 49, 3) := by decide +kernel
theorem dX1_tally_87 : decode cX1_tally 87 = .ok (.return_, 1) := by decide +kernel
end
section
theorem dX2_init_0 : decode cX2_init 0 = .ok (.aload_n 0, 1) := by decide +kernel
theorem dX2_init_1 : decode cX2_init 1 = .ok (.invokespecial 3, 3) := by decide +kernel
theorem dX2_init_4 : decode cX2_init 4 = .ok (.aload_n 0, 1) := by decide +kernel
theorem dX2_init_5 : decode cX2_init 5 = .ok (.bipush 21, 2) := by decide +kernel
theorem dX2_init_7 : decode cX2_init 7 = .ok (.newarray .int, 2) := by decide +kernel
theorem dX2_init_9 : decode cX2_init 9 = .ok (.putfield 9, 3) := by decide +kernel
theorem dX2_init_12 : decode cX2_init 12 = .ok (.aload_n 0, 1) := by decide +kernel
theorem dX2_init_13 : decode cX2_init 13 = .ok (.bipush 21, 2) := by decide +kernel
theorem dX2_init_15 : decode cX2_init 15 = .ok (.newarray .int, 2) := by decide +kernel
theorem dX2_init_17 : decode cX2_init 17 = .ok (.putfield 15, 3) := by decide +kernel
theorem dX2_init_20 : decode cX2_init 20 = .ok (.return_, 1) := by decide +kernel
set_option maxRecDepth 20000 in
theorem ggX2_setsToBuy_X2_mostOf : GoodIn wsX2_setsToBuy wsX2_mostOf := goodIn_r _ [5, 6, 7, 8, 9, 10, 11, 12, 13, 4, 14, 15, 16, 17] (by decide +kernel) (by decide +kernel)
set_option maxRecDepth 20000 in
theorem gX2_setsToBuy_X2_mostOf : GoodIn wsX2_setsToBuy (wsV RX2 18 RX2 yX2_mostOf wsX2_mostOf) := goodIn_app (goodIn_of _ (by decide +kernel)) ggX2_setsToBuy_X2_mostOf
theorem dX2_setsToBuy_0 : decode cX2_setsToBuy 0 = .ok (.iconst 0, 1) := by decide +kernel
theorem dX2_setsToBuy_1 : decode cX2_setsToBuy 1 = .ok (.istore_n 3, 1) := by decide +kernel
theorem dX2_setsToBuy_2 : decode cX2_setsToBuy 2 = .ok (.iload_n 3, 1) := by decide +kernel
theorem dX2_setsToBuy_3 : decode cX2_setsToBuy 3 = .ok (.bipush 50, 2) := by decide +kernel
theorem dX2_setsToBuy_5 : decode cX2_setsToBuy 5 = .ok (.if_icmp .ge 19, 3) := by decide +kernel
theorem dX2_setsToBuy_8 : decode cX2_setsToBuy 8 = .ok (.aload_n 0, 1) := by decide +kernel
theorem dX2_setsToBuy_9 : decode cX2_setsToBuy 9 = .ok (.iload_n 1, 1) := by decide +kernel
theorem dX2_setsToBuy_10 : decode cX2_setsToBuy 10 = .ok (.iload_n 3, 1) := by decide +kernel
theorem dX2_setsToBuy_11 : decode cX2_setsToBuy 11 = .ok (.invokevirtual 18, 3) := by decide +kernel
theorem dX2_setsToBuy_14 : decode cX2_setsToBuy 14 = .ok (.iload_n 2, 1) := by decide +kernel
theorem dX2_setsToBuy_15 : decode cX2_setsToBuy 15 = .ok (.if_icmp .le 9, 3) := by decide +kernel
theorem dX2_setsToBuy_18 : decode cX2_setsToBuy 18 = .ok (.iinc 3 1, 3) := by decide +kernel
theorem dX2_setsToBuy_21 : decode cX2_setsToBuy 21 = .ok (.goto (-19), 3) := by decide +kernel
theorem dX2_setsToBuy_24 : decode cX2_setsToBuy 24 = .ok (.iload_n 3, 1) := by decide +kernel
theorem dX2_setsToBuy_25 : decode cX2_setsToBuy 25 = .ok (.ireturn, 1) := by decide +kernel
set_option maxRecDepth 20000 in
theorem ggX2_mostOf_X2_gainIn : GoodIn wsX2_mostOf wsX2_gainIn := goodIn_r _ [10, 11, 12, 13] (by decide +kernel) (by decide +kernel)
set_option maxRecDepth 20000 in
theorem gX2_mostOf_X2_gainIn : GoodIn wsX2_mostOf (wsV RX2 22 RX2 yX2_gainIn wsX2_gainIn) := goodIn_app (goodIn_of _ (by decide +kernel)) ggX2_mostOf_X2_gainIn
theorem dX2_mostOf_0 : decode cX2_mostOf 0 = .ok (.aload_n 0, 1) := by decide +kernel
theorem dX2_mostOf_1 : decode cX2_mostOf 1 = .ok (.getfield 15, 3) := by decide +kernel
theorem dX2_mostOf_4 : decode cX2_mostOf 4 = .ok (.iconst 0, 1) := by decide +kernel
theorem dX2_mostOf_5 : decode cX2_mostOf 5 = .ok (.iaload, 1) := by decide +kernel
theorem dX2_mostOf_6 : decode cX2_mostOf 6 = .ok (.istore_n 3, 1) := by decide +kernel
theorem dX2_mostOf_7 : decode cX2_mostOf 7 = .ok (.iconst 0, 1) := by decide +kernel
theorem dX2_mostOf_8 : decode cX2_mostOf 8 = .ok (.istore 4, 2) := by decide +kernel
theorem dX2_mostOf_10 : decode cX2_mostOf 10 = .ok (.iconst 1, 1) := by decide +kernel
theorem dX2_mostOf_11 : decode cX2_mostOf 11 = .ok (.istore 5, 2) := by decide +kernel
theorem dX2_mostOf_13 : decode cX2_mostOf 13 = .ok (.iload 5, 2) := by decide +kernel
theorem dX2_mostOf_15 : decode cX2_mostOf 15 = .ok (.bipush 20, 2) := by decide +kernel
theorem dX2_mostOf_17 : decode cX2_mostOf 17 = .ok (.if_icmp .gt 39, 3) := by decide +kernel
theorem dX2_mostOf_20 : decode cX2_mostOf 20 = .ok (.iload 4, 2) := by decide +kernel
theorem dX2_mostOf_22 : decode cX2_mostOf 22 = .ok (.aload_n 0, 1) := by decide +kernel
theorem dX2_mostOf_23 : decode cX2_mostOf 23 = .ok (.iload 5, 2) := by decide +kernel
theorem dX2_mostOf_25 : decode cX2_mostOf 25 = .ok (.iconst 1, 1) := by decide +kernel
theorem dX2_mostOf_26 : decode cX2_mostOf 26 = .ok (.isub, 1) := by decide +kernel
theorem dX2_mostOf_27 : decode cX2_mostOf 27 = .ok (.iload_n 1, 1) := by decide +kernel
theorem dX2_mostOf_28 : decode cX2_mostOf 28 = .ok (.iload_n 2, 1) := by decide +kernel
theorem dX2_mostOf_29 : decode cX2_mostOf 29 = .ok (.invokevirtual 22, 3) := by decide +kernel
theorem dX2_mostOf_32 : decode cX2_mostOf 32 = .ok (.iadd, 1) := by decide +kernel
theorem dX2_mostOf_33 : decode cX2_mostOf 33 = .ok (.istore 4, 2) := by decide +kernel
theorem dX2_mostOf_35 : decode cX2_mostOf 35 = .ok (.iload_n 3, 1) := by decide +kernel
theorem dX2_mostOf_36 : decode cX2_mostOf 36 = .ok (.iload 4, 2) := by decide +kernel
theorem dX2_mostOf_38 : decode cX2_mostOf 38 = .ok (.aload_n 0, 1) := by decide +kernel
theorem dX2_mostOf_39 : decode cX2_mostOf 39 = .ok (.getfield 15, 3) := by decide +kernel
theorem dX2_mostOf_42 : decode cX2_mostOf 42 = .ok (.iload 5, 2) := by decide +kernel
theorem dX2_mostOf_44 : decode cX2_mostOf 44 = .ok (.iaload, 1) := by decide +kernel
theorem dX2_mostOf_45 : decode cX2_mostOf 45 = .ok (.iadd, 1) := by decide +kernel
theorem dX2_mostOf_46 : decode cX2_mostOf 46 = .ok (.invokestatic 26, 3) := by decide +kernel
theorem dX2_mostOf_49 : decode cX2_mostOf 49 = .ok (.istore_n 3, 1) := by decide +kernel
theorem dX2_mostOf_50 : decode cX2_mostOf 50 = .ok (.iinc 5 1, 3) := by decide +kernel
theorem dX2_mostOf_53 : decode cX2_mostOf 53 = .ok (.goto (-40), 3) := by decide +kernel
theorem dX2_mostOf_56 : decode cX2_mostOf 56 = .ok (.iload_n 3, 1) := by decide +kernel
theorem dX2_mostOf_57 : decode cX2_mostOf 57 = .ok (.ireturn, 1) := by decide +kernel
set_option maxRecDepth 20000 in
theorem ggX2_weeksOf_X2_mostOf : GoodIn wsX2_weeksOf wsX2_mostOf := goodIn_r _ [6, 1, 7, 8, 9, 10, 11, 12, 13, 5, 14, 15, 16, 17] (by decide +kernel) (by decide +kernel)
set_option maxRecDepth 20000 in
theorem gX2_weeksOf_X2_mostOf : GoodIn wsX2_weeksOf (wsV RX2 18 RX2 yX2_mostOf wsX2_mostOf) := goodIn_app (goodIn_of _ (by decide +kernel)) ggX2_weeksOf_X2_mostOf
set_option maxRecDepth 20000 in
theorem ggX2_weeksOf_X2_gainIn : GoodIn wsX2_weeksOf wsX2_gainIn := goodIn_r _ [14, 15, 16, 17] (by decide +kernel) (by decide +kernel)
set_option maxRecDepth 20000 in
theorem gX2_weeksOf_X2_gainIn : GoodIn wsX2_weeksOf (wsV RX2 22 RX2 yX2_gainIn wsX2_gainIn) := goodIn_app (goodIn_of _ (by decide +kernel)) ggX2_weeksOf_X2_gainIn
theorem dX2_weeksOf_0 : decode cX2_weeksOf 0 = .ok (.aload_n 0, 1) := by decide +kernel
theorem dX2_weeksOf_1 : decode cX2_weeksOf 1 = .ok (.iload_n 1, 1) := by decide +kernel
theorem dX2_weeksOf_2 : decode cX2_weeksOf 2 = .ok (.iload_n 2, 1) := by decide +kernel
theorem dX2_weeksOf_3 : decode cX2_weeksOf 3 = .ok (.invokevirtual 18, 3) := by decide +kernel
theorem dX2_weeksOf_6 : decode cX2_weeksOf 6 = .ok (.istore_n 3, 1) := by decide +kernel
theorem dX2_weeksOf_7 : decode cX2_weeksOf 7 = .ok (.iconst 0, 1) := by decide +kernel
theorem dX2_weeksOf_8 : decode cX2_weeksOf 8 = .ok (.istore 4, 2) := by decide +kernel
theorem dX2_weeksOf_10 : decode cX2_weeksOf 10 = .ok (.iconst 0, 1) := by decide +kernel
theorem dX2_weeksOf_11 : decode cX2_weeksOf 11 = .ok (.istore 5, 2) := by decide +kernel
theorem dX2_weeksOf_13 : decode cX2_weeksOf 13 = .ok (.iload 5, 2) := by decide +kernel
theorem dX2_weeksOf_15 : decode cX2_weeksOf 15 = .ok (.bipush 20, 2) := by decide +kernel
theorem dX2_weeksOf_17 : decode cX2_weeksOf 17 = .ok (.if_icmp .ge 39, 3) := by decide +kernel
theorem dX2_weeksOf_20 : decode cX2_weeksOf 20 = .ok (.iload 4, 2) := by decide +kernel
theorem dX2_weeksOf_22 : decode cX2_weeksOf 22 = .ok (.aload_n 0, 1) := by decide +kernel
theorem dX2_weeksOf_23 : decode cX2_weeksOf 23 = .ok (.getfield 15, 3) := by decide +kernel
theorem dX2_weeksOf_26 : decode cX2_weeksOf 26 = .ok (.iload 5, 2) := by decide +kernel
theorem dX2_weeksOf_28 : decode cX2_weeksOf 28 = .ok (.iaload, 1) := by decide +kernel
theorem dX2_weeksOf_29 : decode cX2_weeksOf 29 = .ok (.iadd, 1) := by decide +kernel
theorem dX2_weeksOf_30 : decode cX2_weeksOf 30 = .ok (.iload_n 3, 1) := by decide +kernel
theorem dX2_weeksOf_31 : decode cX2_weeksOf 31 = .ok (.if_icmp .ne 6, 3) := by decide +kernel
theorem dX2_weeksOf_34 : decode cX2_weeksOf 34 = .ok (.iload 5, 2) := by decide +kernel
theorem dX2_weeksOf_36 : decode cX2_weeksOf 36 = .ok (.ireturn, 1) := by decide +kernel
theorem dX2_weeksOf_37 : decode cX2_weeksOf 37 = .ok (.iload 4, 2) := by decide +kernel
theorem dX2_weeksOf_39 : decode cX2_weeksOf 39 = .ok (.aload_n 0, 1) := by decide +kernel
theorem dX2_weeksOf_40 : decode cX2_weeksOf 40 = .ok (.iload 5, 2) := by decide +kernel
theorem dX2_weeksOf_42 : decode cX2_weeksOf 42 = .ok (.iload_n 1, 1) := by decide +kernel
theorem dX2_weeksOf_43 : decode cX2_weeksOf 43 = .ok (.iload_n 2, 1) := by decide +kernel
theorem dX2_weeksOf_44 : decode cX2_weeksOf 44 = .ok (.invokevirtual 22, 3) := by decide +kernel
theorem dX2_weeksOf_47 : decode cX2_weeksOf 47 = .ok (.iadd, 1) := by decide +kernel
theorem dX2_weeksOf_48 : decode cX2_weeksOf 48 = .ok (.istore 4, 2) := by decide +kernel
theorem dX2_weeksOf_50 : decode cX2_weeksOf 50 = .ok (.iinc 5 1, 3) := by decide +kernel
theorem dX2_weeksOf_53 : decode cX2_weeksOf 53 = .ok (.goto (-40), 3) := by decide +kernel
theorem dX2_weeksOf_56 : decode cX2_weeksOf 56 = .ok (.bipush 20, 2) := by decide +kernel
theorem dX2_weeksOf_58 : decode cX2_weeksOf 58 = .ok (.ireturn, 1) := by decide +kernel
theorem dX2_gainIn_0 : decode cX2_gainIn 0 = .ok (.aload_n 0, 1) := by decide +kernel
theorem dX2_gainIn_1 : decode cX2_gainIn 1 = .ok (.getfield 9, 3) := by decide +kernel
theorem dX2_gainIn_4 : decode cX2_gainIn 4 = .ok (.iload_n 1, 1) := by decide +kernel
theorem dX2_gainIn_5 : decode cX2_gainIn 5 = .ok (.iaload, 1) := by decide +kernel
theorem dX2_gainIn_6 : decode cX2_gainIn 6 = .ok (.iload_n 3, 1) := by decide +kernel
theorem dX2_gainIn_7 : decode cX2_gainIn 7 = .ok (.if_icmp .le 7, 3) := by decide +kernel
theorem dX2_gainIn_10 : decode cX2_gainIn 10 = .ok (.iload_n 2, 1) := by decide +kernel
theorem dX2_gainIn_11 : decode cX2_gainIn 11 = .ok (.goto 4, 3) := by decide +kernel
theorem dX2_gainIn_14 : decode cX2_gainIn 14 = .ok (.iconst 0, 1) := by decide +kernel
theorem dX2_gainIn_15 : decode cX2_gainIn 15 = .ok (.ireturn, 1) := by decide +kernel
theorem dX3_init_0 : decode cX3_init 0 = .ok (.aload_n 0, 1) := by decide +kernel
theorem dX3_init_1 : decode cX3_init 1 = .ok (.invokespecial 3, 3) := by decide +kernel
theorem dX3_init_4 : decode cX3_init 4 = .ok (.aload_n 0, 1) := by decide +kernel
theorem dX3_init_5 : decode cX3_init 5 = .ok (.bipush 20, 2) := by decide +kernel
theorem dX3_init_7 : decode cX3_init 7 = .ok (.newarray .int, 2) := by decide +kernel
theorem dX3_init_9 : decode cX3_init 9 = .ok (.putfield 9, 3) := by decide +kernel
theorem dX3_init_12 : decode cX3_init 12 = .ok (.aload_n 0, 1) := by decide +kernel
theorem dX3_init_13 : decode cX3_init 13 = .ok (.bipush 20, 2) := by decide +kernel
theorem dX3_init_15 : decode cX3_init 15 = .ok (.newarray .int, 2) := by decide +kernel
theorem dX3_init_17 : decode cX3_init 17 = .ok (.putfield 15, 3) := by decide +kernel
theorem dX3_init_20 : decode cX3_init 20 = .ok (.aload_n 0, 1) := by decide +kernel
theorem dX3_init_21 : decode cX3_init 21 = .ok (.bipush 20, 2) := by decide +kernel
theorem dX3_init_23 : decode cX3_init 23 = .ok (.newarray .int, 2) := by decide +kernel
theorem dX3_init_25 : decode cX3_init 25 = .ok (.putfield 18, 3) := by decide +kernel
theorem dX3_init_28 : decode cX3_init 28 = .ok (.aload_n 0, 1) := by decide +kernel
theorem dX3_init_29 : decode cX3_init 29 = .ok (.bipush 20, 2) := by decide +kernel
theorem dX3_init_31 : decode cX3_init 31 = .ok (.newarray .int, 2) := by decide +kernel
theorem dX3_init_33 : decode cX3_init 33 = .ok (.putfield 21, 3) := by decide +kernel
theorem dX3_init_36 : decode cX3_init 36 = .ok (.aload_n 0, 1) := by decide +kernel
theorem dX3_init_37 : decode cX3_init 37 = .ok (.bipush 20, 2) := by decide +kernel
theorem dX3_init_39 : decode cX3_init 39 = .ok (.newarray .int, 2) := by decide +kernel
theorem dX3_init_41 : decode cX3_init 41 = .ok (.putfield 24, 3) := by decide +kernel
theorem dX3_init_44 : decode cX3_init 44 = .ok (.aload_n 0, 1) := by decide +kernel
theorem dX3_init_45 : decode cX3_init 45 = .ok (.bipush 20, 2) := by decide +kernel
theorem dX3_init_47 : decode cX3_init 47 = .ok (.newarray .int, 2) := by decide +kernel
theorem dX3_init_49 : decode cX3_init 49 = .ok (.putfield 27, 3) := by decide +kernel
theorem dX3_init_52 : decode cX3_init 52 = .ok (.aload_n 0, 1) := by decide +kernel
theorem dX3_init_53 : decode cX3_init 53 = .ok (.iconst 0, 1) := by decide +kernel
theorem dX3_init_54 : decode cX3_init 54 = .ok (.putfield 30, 3) := by decide +kernel
theorem dX3_init_57 : decode cX3_init 57 = .ok (.return_, 1) := by decide +kernel
theorem dX3_has_0 : decode cX3_has 0 = .ok (.iload_n 1, 1) := by decide +kernel
theorem dX3_has_1 : decode cX3_has 1 = .ok (.ifCond .lt 15, 3) := by decide +kernel
theorem dX3_has_4 : decode cX3_has 4 = .ok (.iload_n 1, 1) := by decide +kernel
theorem dX3_has_5 : decode cX3_has 5 = .ok (.aload_n 0, 1) := by decide +kernel
theorem dX3_has_6 : decode cX3_has 6 = .ok (.getfield 30, 3) := by decide +kernel
theorem dX3_has_9 : decode cX3_has 9 = .ok (.if_icmp .ge 7, 3) := by decide +kernel
theorem dX3_has_12 : decode cX3_has 12 = .ok (.iconst 1, 1) := by decide +kernel
theorem dX3_has_13 : decode cX3_has 13 = .ok (.goto 4, 3) := by decide +kernel
theorem dX3_has_16 : decode cX3_has 16 = .ok (.iconst 0, 1) := by decide +kernel
theorem dX3_has_17 : decode cX3_has 17 = .ok (.ireturn, 1) := by decide +kernel
theorem dX3_add_0 : decode cX3_add 0 = .ok (.aload_n 0, 1) := by decide +kernel
theorem dX3_add_1 : decode cX3_add 1 = .ok (.getfield 9, 3) := by decide +kernel
theorem dX3_add_4 : decode cX3_add 4 = .ok (.aload_n 0, 1) := by decide +kernel
theorem dX3_add_5 : decode cX3_add 5 = .ok (.getfield 30, 3) := by decide +kernel
theorem dX3_add_8 : decode cX3_add 8 = .ok (.iload_n 1, 1) := by decide +kernel
theorem dX3_add_9 : decode cX3_add 9 = .ok (.iastore, 1) := by decide +kernel
theorem dX3_add_10 : decode cX3_add 10 = .ok (.aload_n 0, 1) := by decide +kernel
theorem dX3_add_11 : decode cX3_add 11 = .ok (.getfield 15, 3) := by decide +kernel
theorem dX3_add_14 : decode cX3_add 14 = .ok (.aload_n 0, 1) := by decide +kernel
theorem dX3_add_15 : decode cX3_add 15 = .ok (.getfield 30, 3) := by decide +kernel
theorem dX3_add_18 : decode cX3_add 18 = .ok (.iload_n 2, 1) := by decide +kernel
theorem dX3_add_19 : decode cX3_add 19 = .ok (.iastore, 1) := by decide +kernel
theorem dX3_add_20 : decode cX3_add 20 = .ok (.aload_n 0, 1) := by decide +kernel
theorem dX3_add_21 : decode cX3_add 21 = .ok (.getfield 18, 3) := by decide +kernel
theorem dX3_add_24 : decode cX3_add 24 = .ok (.aload_n 0, 1) := by decide +kernel
theorem dX3_add_25 : decode cX3_add 25 = .ok (.getfield 30, 3) := by decide +kernel
theorem dX3_add_28 : decode cX3_add 28 = .ok (.iload_n 3, 1) := by decide +kernel
theorem dX3_add_29 : decode cX3_add 29 = .ok (.iastore, 1) := by decide +kernel
theorem dX3_add_30 : decode cX3_add 30 = .ok (.aload_n 0, 1) := by decide +kernel
theorem dX3_add_31 : decode cX3_add 31 = .ok (.dup, 1) := by decide +kernel
theorem dX3_add_32 : decode cX3_add 32 = .ok (.getfield 30, 3) := by decide +kernel
theorem dX3_add_35 : decode cX3_add 35 = .ok (.iconst 1, 1) := by decide +kernel
theorem dX3_add_36 : decode cX3_add 36 = .ok (.iadd, 1) := by decide +kernel
theorem dX3_add_37 : decode cX3_add 37 = .ok (.putfield 30, 3) := by decide +kernel
theorem dX3_add_40 : decode cX3_add 40 = .ok (.aload_n 0, 1) := by decide +kernel
theorem dX3_add_41 : decode cX3_add 41 = .ok (.getfield 30, 3) := by decide +kernel
theorem dX3_add_44 : decode cX3_add 44 = .ok (.iconst 1, 1) := by decide +kernel
theorem dX3_add_45 : decode cX3_add 45 = .ok (.isub, 1) := by decide +kernel
theorem dX3_add_46 : decode cX3_add 46 = .ok (.ireturn, 1) := by decide +kernel
set_option maxRecDepth 20000 in
theorem ggX3_rankOf_X3_has : GoodIn wsX3_rankOf wsX3_has := goodIn_r _ [6, 7, 8, 9, 10, 11, 12, 13, 14] (by decide +kernel) (by decide +kernel)
set_option maxRecDepth 20000 in
theorem gX3_rankOf_X3_has : GoodIn wsX3_rankOf (wsV RX3 34 RX3 yX3_has wsX3_has) := goodIn_app (goodIn_of _ (by decide +kernel)) ggX3_rankOf_X3_has
theorem dX3_rankOf_0 : decode cX3_rankOf 0 = .ok (.aload_n 0, 1) := by decide +kernel
theorem dX3_rankOf_1 : decode cX3_rankOf 1 = .ok (.iload_n 1, 1) := by decide +kernel
theorem dX3_rankOf_2 : decode cX3_rankOf 2 = .ok (.invokevirtual 34, 3) := by decide +kernel
theorem dX3_rankOf_5 : decode cX3_rankOf 5 = .ok (.ifCond .eq 12, 3) := by decide +kernel
theorem dX3_rankOf_8 : decode cX3_rankOf 8 = .ok (.aload_n 0, 1) := by decide +kernel
theorem dX3_rankOf_9 : decode cX3_rankOf 9 = .ok (.getfield 9, 3) := by decide +kernel
theorem dX3_rankOf_12 : decode cX3_rankOf 12 = .ok (.iload_n 1, 1) := by decide +kernel
theorem dX3_rankOf_13 : decode cX3_rankOf 13 = .ok (.iaload, 1) := by decide +kernel
theorem dX3_rankOf_14 : decode cX3_rankOf 14 = .ok (.goto 4, 3) := by decide +kernel
theorem dX3_rankOf_17 : decode cX3_rankOf 17 = .ok (.iconst 0, 1) := by decide +kernel
theorem dX3_rankOf_18 : decode cX3_rankOf 18 = .ok (.ireturn, 1) := by decide +kernel
set_option maxRecDepth 20000 in
theorem ggX3_mayTake_X3_has : GoodIn wsX3_mayTake wsX3_has := goodIn_r _ [9, 10, 11, 12, 13, 14, 15, 16, 17] (by decide +kernel) (by decide +kernel)
set_option maxRecDepth 20000 in
theorem gX3_mayTake_X3_has : GoodIn wsX3_mayTake (wsV RX3 34 RX3 yX3_has wsX3_has) := goodIn_app (goodIn_of _ (by decide +kernel)) ggX3_mayTake_X3_has
theorem dX3_mayTake_0 : decode cX3_mayTake 0 = .ok (.aload_n 0, 1) := by decide +kernel
theorem dX3_mayTake_1 : decode cX3_mayTake 1 = .ok (.iload_n 1, 1) := by decide +kernel
theorem dX3_mayTake_2 : decode cX3_mayTake 2 = .ok (.invokevirtual 34, 3) := by decide +kernel
theorem dX3_mayTake_5 : decode cX3_mayTake 5 = .ok (.ifCond .eq 43, 3) := by decide +kernel
theorem dX3_mayTake_8 : decode cX3_mayTake 8 = .ok (.aload_n 0, 1) := by decide +kernel
theorem dX3_mayTake_9 : decode cX3_mayTake 9 = .ok (.getfield 18, 3) := by decide +kernel
theorem dX3_mayTake_12 : decode cX3_mayTake 12 = .ok (.iload_n 1, 1) := by decide +kernel
theorem dX3_mayTake_13 : decode cX3_mayTake 13 = .ok (.iaload, 1) := by decide +kernel
theorem dX3_mayTake_14 : decode cX3_mayTake 14 = .ok (.iload_n 2, 1) := by decide +kernel
theorem dX3_mayTake_15 : decode cX3_mayTake 15 = .ok (.if_icmp .lt 33, 3) := by decide +kernel
theorem dX3_mayTake_18 : decode cX3_mayTake 18 = .ok (.aload_n 0, 1) := by decide +kernel
theorem dX3_mayTake_19 : decode cX3_mayTake 19 = .ok (.getfield 24, 3) := by decide +kernel
theorem dX3_mayTake_22 : decode cX3_mayTake 22 = .ok (.iload_n 1, 1) := by decide +kernel
theorem dX3_mayTake_23 : decode cX3_mayTake 23 = .ok (.iaload, 1) := by decide +kernel
theorem dX3_mayTake_24 : decode cX3_mayTake 24 = .ok (.aload_n 0, 1) := by decide +kernel
theorem dX3_mayTake_25 : decode cX3_mayTake 25 = .ok (.getfield 27, 3) := by decide +kernel
theorem dX3_mayTake_28 : decode cX3_mayTake 28 = .ok (.iload_n 1, 1) := by decide +kernel
theorem dX3_mayTake_29 : decode cX3_mayTake 29 = .ok (.iaload, 1) := by decide +kernel
theorem dX3_mayTake_30 : decode cX3_mayTake 30 = .ok (.iadd, 1) := by decide +kernel
theorem dX3_mayTake_31 : decode cX3_mayTake 31 = .ok (.getstatic 38, 3) := by decide +kernel
theorem dX3_mayTake_34 : decode cX3_mayTake 34 = .ok (.aload_n 0, 1) := by decide +kernel
theorem dX3_mayTake_35 : decode cX3_mayTake 35 = .ok (.getfield 9, 3) := by decide +kernel
theorem dX3_mayTake_38 : decode cX3_mayTake 38 = .ok (.iload_n 1, 1) := by decide +kernel
theorem dX3_mayTake_39 : decode cX3_mayTake 39 = .ok (.iaload, 1) := by decide +kernel
theorem dX3_mayTake_40 : decode cX3_mayTake 40 = .ok (.iaload, 1) := by decide +kernel
theorem dX3_mayTake_41 : decode cX3_mayTake 41 = .ok (.if_icmp .ge 7, 3) := by decide +kernel
theorem dX3_mayTake_44 : decode cX3_mayTake 44 = .ok (.iconst 1, 1) := by decide +kernel
theorem dX3_mayTake_45 : decode cX3_mayTake 45 = .ok (.goto 4, 3) := by decide +kernel
theorem dX3_mayTake_48 : decode cX3_mayTake 48 = .ok (.iconst 0, 1) := by decide +kernel
theorem dX3_mayTake_49 : decode cX3_mayTake 49 = .ok (.ireturn, 1) := by decide +kernel
set_option maxRecDepth 20000 in
theorem ggX3_lateCost_X3_rankOf : GoodIn wsX3_lateCost wsX3_rankOf := goodIn_r _ [9, 10, 11, 12, 13, 8, 14, 15, 16, 17, 18, 19, 20, 21, 22] (by decide +kernel) (by decide +kernel)
set_option maxRecDepth 20000 in
theorem gX3_lateCost_X3_rankOf : GoodIn wsX3_lateCost (wsV RX3 41 RX3 yX3_rankOf wsX3_rankOf) := goodIn_app (goodIn_of _ (by decide +kernel)) ggX3_lateCost_X3_rankOf
theorem dX3_lateCost_0 : decode cX3_lateCost 0 = .ok (.aload_n 0, 1) := by decide +kernel
theorem dX3_lateCost_1 : decode cX3_lateCost 1 = .ok (.iload_n 1, 1) := by decide +kernel
theorem dX3_lateCost_2 : decode cX3_lateCost 2 = .ok (.invokevirtual 41, 3) := by decide +kernel
theorem dX3_lateCost_5 : decode cX3_lateCost 5 = .ok (.istore_n 3, 1) := by decide +kernel
theorem dX3_lateCost_6 : decode cX3_lateCost 6 = .ok (.iconst 0, 1) := by decide +kernel
theorem dX3_lateCost_7 : decode cX3_lateCost 7 = .ok (.iload_n 2, 1) := by decide +kernel
theorem dX3_lateCost_8 : decode cX3_lateCost 8 = .ok (.getstatic 45, 3) := by decide +kernel
theorem dX3_lateCost_11 : decode cX3_lateCost 11 = .ok (.iload_n 3, 1) := by decide +kernel
theorem dX3_lateCost_12 : decode cX3_lateCost 12 = .ok (.iaload, 1) := by decide +kernel
theorem dX3_lateCost_13 : decode cX3_lateCost 13 = .ok (.isub, 1) := by decide +kernel
theorem dX3_lateCost_14 : decode cX3_lateCost 14 = .ok (.invokestatic 48, 3) := by decide +kernel
theorem dX3_lateCost_17 : decode cX3_lateCost 17 = .ok (.getstatic 54, 3) := by decide +kernel
theorem dX3_lateCost_20 : decode cX3_lateCost 20 = .ok (.iload_n 3, 1) := by decide +kernel
theorem dX3_lateCost_21 : decode cX3_lateCost 21 = .ok (.iaload, 1) := by decide +kernel
theorem dX3_lateCost_22 : decode cX3_lateCost 22 = .ok (.imul, 1) := by decide +kernel
theorem dX3_lateCost_23 : decode cX3_lateCost 23 = .ok (.ireturn, 1) := by decide +kernel
theorem dX4_init_0 : decode cX4_init 0 = .ok (.aload_n 0, 1) := by decide +kernel
theorem dX4_init_1 : decode cX4_init 1 = .ok (.invokespecial 3, 3) := by decide +kernel
theorem dX4_init_4 : decode cX4_init 4 = .ok (.aload_n 0, 1) := by decide +kernel
theorem dX4_init_5 : decode cX4_init 5 = .ok (.bipush 12, 2) := by decide +kernel
theorem dX4_init_7 : decode cX4_init 7 = .ok (.newarray .int, 2) := by decide +kernel
theorem dX4_init_9 : decode cX4_init 9 = .ok (.putfield 9, 3) := by decide +kernel
theorem dX4_init_12 : decode cX4_init 12 = .ok (.aload_n 0, 1) := by decide +kernel
theorem dX4_init_13 : decode cX4_init 13 = .ok (.iconst 0, 1) := by decide +kernel
theorem dX4_init_14 : decode cX4_init 14 = .ok (.putfield 15, 3) := by decide +kernel
theorem dX4_init_17 : decode cX4_init 17 = .ok (.return_, 1) := by decide +kernel
theorem dX4_has_0 : decode cX4_has 0 = .ok (.iload_n 1, 1) := by decide +kernel
theorem dX4_has_1 : decode cX4_has 1 = .ok (.ifCond .lt 15, 3) := by decide +kernel
theorem dX4_has_4 : decode cX4_has 4 = .ok (.iload_n 1, 1) := by decide +kernel
theorem dX4_has_5 : decode cX4_has 5 = .ok (.aload_n 0, 1) := by decide +kernel
theorem dX4_has_6 : decode cX4_has 6 = .ok (.getfield 15, 3) := by decide +kernel
theorem dX4_has_9 : decode cX4_has 9 = .ok (.if_icmp .ge 7, 3) := by decide +kernel
theorem dX4_has_12 : decode cX4_has 12 = .ok (.iconst 1, 1) := by decide +kernel
theorem dX4_has_13 : decode cX4_has 13 = .ok (.goto 4, 3) := by decide +kernel
theorem dX4_has_16 : decode cX4_has 16 = .ok (.iconst 0, 1) := by decide +kernel
theorem dX4_has_17 : decode cX4_has 17 = .ok (.ireturn, 1) := by decide +kernel
set_option maxRecDepth 20000 in
theorem ggX4_hasVolume_X4_volumesOf : GoodIn wsX4_hasVolume wsX4_volumesOf := goodIn_r _ [5, 6, 7, 8, 9, 4, 10, 11, 12, 13] (by decide +kernel) (by decide +kernel)
set_option maxRecDepth 20000 in
theorem gX4_hasVolume_X4_volumesOf : GoodIn wsX4_hasVolume (wsV RX4 19 RX4 yX4_volumesOf wsX4_volumesOf) := goodIn_app (goodIn_of _ (by decide +kernel)) ggX4_hasVolume_X4_volumesOf
theorem dX4_hasVolume_0 : decode cX4_hasVolume 0 = .ok (.iload_n 2, 1) := by decide +kernel
theorem dX4_hasVolume_1 : decode cX4_hasVolume 1 = .ok (.ifCond .lt 16, 3) := by decide +kernel
theorem dX4_hasVolume_4 : decode cX4_hasVolume 4 = .ok (.iload_n 2, 1) := by decide +kernel
theorem dX4_hasVolume_5 : decode cX4_hasVolume 5 = .ok (.aload_n 0, 1) := by decide +kernel
theorem dX4_hasVolume_6 : decode cX4_hasVolume 6 = .ok (.iload_n 1, 1) := by decide +kernel
theorem dX4_hasVolume_7 : decode cX4_hasVolume 7 = .ok (.invokevirtual 19, 3) := by decide +kernel
theorem dX4_hasVolume_10 : decode cX4_hasVolume 10 = .ok (.if_icmp .ge 7, 3) := by decide +kernel
theorem dX4_hasVolume_13 : decode cX4_hasVolume 13 = .ok (.iconst 1, 1) := by decide +kernel
theorem dX4_hasVolume_14 : decode cX4_hasVolume 14 = .ok (.goto 4, 3) := by decide +kernel
theorem dX4_hasVolume_17 : decode cX4_hasVolume 17 = .ok (.iconst 0, 1) := by decide +kernel
theorem dX4_hasVolume_18 : decode cX4_hasVolume 18 = .ok (.ireturn, 1) := by decide +kernel
set_option maxRecDepth 20000 in
theorem ggX4_volumesOf_X4_has : GoodIn wsX4_volumesOf wsX4_has := goodIn_r _ [6, 7, 8, 9] (by decide +kernel) (by decide +kernel)
set_option maxRecDepth 20000 in
theorem gX4_volumesOf_X4_has : GoodIn wsX4_volumesOf (wsV RX4 23 RX4 yX4_has wsX4_has) := goodIn_app (goodIn_of _ (by decide +kernel)) ggX4_volumesOf_X4_has
theorem dX4_volumesOf_0 : decode cX4_volumesOf 0 = .ok (.aload_n 0, 1) := by decide +kernel
theorem dX4_volumesOf_1 : decode cX4_volumesOf 1 = .ok (.iload_n 1, 1) := by decide +kernel
theorem dX4_volumesOf_2 : decode cX4_volumesOf 2 = .ok (.invokevirtual 23, 3) := by decide +kernel
theorem dX4_volumesOf_5 : decode cX4_volumesOf 5 = .ok (.ifCond .eq 12, 3) := by decide +kernel
theorem dX4_volumesOf_8 : decode cX4_volumesOf 8 = .ok (.aload_n 0, 1) := by decide +kernel
theorem dX4_volumesOf_9 : decode cX4_volumesOf 9 = .ok (.getfield 9, 3) := by decide +kernel
theorem dX4_volumesOf_12 : decode cX4_volumesOf 12 = .ok (.iload_n 1, 1) := by decide +kernel
theorem dX4_volumesOf_13 : decode cX4_volumesOf 13 = .ok (.iaload, 1) := by decide +kernel
theorem dX4_volumesOf_14 : decode cX4_volumesOf 14 = .ok (.goto 4, 3) := by decide +kernel
theorem dX4_volumesOf_17 : decode cX4_volumesOf 17 = .ok (.iconst 0, 1) := by decide +kernel
theorem dX4_volumesOf_18 : decode cX4_volumesOf 18 = .ok (.ireturn, 1) := by decide +kernel
theorem dX4_add_0 : decode cX4_add 0 = .ok (.aload_n 0, 1) := by decide +kernel
theorem dX4_add_1 : decode cX4_add 1 = .ok (.getfield 9, 3) := by decide +kernel
theorem dX4_add_4 : decode cX4_add 4 = .ok (.aload_n 0, 1) := by decide +kernel
theorem dX4_add_5 : decode cX4_add 5 = .ok (.getfield 15, 3) := by decide +kernel
theorem dX4_add_8 : decode cX4_add 8 = .ok (.iload_n 1, 1) := by decide +kernel
theorem dX4_add_9 : decode cX4_add 9 = .ok (.iastore, 1) := by decide +kernel
theorem dX4_add_10 : decode cX4_add 10 = .ok (.aload_n 0, 1) := by decide +kernel
theorem dX4_add_11 : decode cX4_add 11 = .ok (.dup, 1) := by decide +kernel
theorem dX4_add_12 : decode cX4_add 12 = .ok (.getfield 15, 3) := by decide +kernel
theorem dX4_add_15 : decode cX4_add 15 = .ok (.iconst 1, 1) := by decide +kernel
theorem dX4_add_16 : decode cX4_add 16 = .ok (.iadd, 1) := by decide +kernel
theorem dX4_add_17 : decode cX4_add 17 = .ok (.putfield 15, 3) := by decide +kernel
theorem dX4_add_20 : decode cX4_add 20 = .ok (.aload_n 0, 1) := by decide +kernel
theorem dX4_add_21 : decode cX4_add 21 = .ok (.getfield 15, 3) := by decide +kernel
theorem dX4_add_24 : decode cX4_add 24 = .ok (.iconst 1, 1) := by decide +kernel
theorem dX4_add_25 : decode cX4_add 25 = .ok (.isub, 1) := by decide +kernel
theorem dX4_add_26 : decode cX4_add 26 = .ok (.ireturn, 1) := by decide +kernel
theorem dX5_init_0 : decode cX5_init 0 = .ok (.aload_n 0, 1) := by decide +kernel
theorem dX5_init_1 : decode cX5_init 1 = .ok (.invokespecial 3, 3) := by decide +kernel
theorem dX5_init_4 : decode cX5_init 4 = .ok (.aload_n 0, 1) := by decide +kernel
theorem dX5_init_5 : decode cX5_init 5 = .ok (.bipush 100, 2) := by decide +kernel
theorem dX5_init_7 : decode cX5_init 7 = .ok (.newarray .int, 2) := by decide +kernel
theorem dX5_init_9 : decode cX5_init 9 = .ok (.putfield 9, 3) := by decide +kernel
theorem dX5_init_12 : decode cX5_init 12 = .ok (.aload_n 0, 1) := by decide +kernel
theorem dX5_init_13 : decode cX5_init 13 = .ok (.bipush 100, 2) := by decide +kernel
theorem dX5_init_15 : decode cX5_init 15 = .ok (.newarray .int, 2) := by decide +kernel
theorem dX5_init_17 : decode cX5_init 17 = .ok (.putfield 15, 3) := by decide +kernel
theorem dX5_init_20 : decode cX5_init 20 = .ok (.aload_n 0, 1) := by decide +kernel
theorem dX5_init_21 : decode cX5_init 21 = .ok (.bipush 100, 2) := by decide +kernel
theorem dX5_init_23 : decode cX5_init 23 = .ok (.newarray .int, 2) := by decide +kernel
theorem dX5_init_25 : decode cX5_init 25 = .ok (.putfield 18, 3) := by decide +kernel
theorem dX5_init_28 : decode cX5_init 28 = .ok (.aload_n 0, 1) := by decide +kernel
theorem dX5_init_29 : decode cX5_init 29 = .ok (.bipush 100, 2) := by decide +kernel
theorem dX5_init_31 : decode cX5_init 31 = .ok (.newarray .int, 2) := by decide +kernel
theorem dX5_init_33 : decode cX5_init 33 = .ok (.putfield 21, 3) := by decide +kernel
theorem dX5_init_36 : decode cX5_init 36 = .ok (.aload_n 0, 1) := by decide +kernel
theorem dX5_init_37 : decode cX5_init 37 = .ok (.bipush 100, 2) := by decide +kernel
theorem dX5_init_39 : decode cX5_init 39 = .ok (.newarray .int, 2) := by decide +kernel
theorem dX5_init_41 : decode cX5_init 41 = .ok (.putfield 24, 3) := by decide +kernel
theorem dX5_init_44 : decode cX5_init 44 = .ok (.aload_n 0, 1) := by decide +kernel
theorem dX5_init_45 : decode cX5_init 45 = .ok (.bipush 100, 2) := by decide +kernel
theorem dX5_init_47 : decode cX5_init 47 = .ok (.newarray .int, 2) := by decide +kernel
theorem dX5_init_49 : decode cX5_init 49 = .ok (.putfield 27, 3) := by decide +kernel
theorem dX5_init_52 : decode cX5_init 52 = .ok (.aload_n 0, 1) := by decide +kernel
theorem dX5_init_53 : decode cX5_init 53 = .ok (.iconst 0, 1) := by decide +kernel
theorem dX5_init_54 : decode cX5_init 54 = .ok (.putfield 30, 3) := by decide +kernel
theorem dX5_init_57 : decode cX5_init 57 = .ok (.return_, 1) := by decide +kernel
theorem dX5_has_0 : decode cX5_has 0 = .ok (.iload_n 1, 1) := by decide +kernel
theorem dX5_has_1 : decode cX5_has 1 = .ok (.ifCond .lt 15, 3) := by decide +kernel
theorem dX5_has_4 : decode cX5_has 4 = .ok (.iload_n 1, 1) := by decide +kernel
theorem dX5_has_5 : decode cX5_has 5 = .ok (.aload_n 0, 1) := by decide +kernel
theorem dX5_has_6 : decode cX5_has 6 = .ok (.getfield 30, 3) := by decide +kernel
theorem dX5_has_9 : decode cX5_has 9 = .ok (.if_icmp .ge 7, 3) := by decide +kernel
theorem dX5_has_12 : decode cX5_has 12 = .ok (.iconst 1, 1) := by decide +kernel
theorem dX5_has_13 : decode cX5_has 13 = .ok (.goto 4, 3) := by decide +kernel
theorem dX5_has_16 : decode cX5_has 16 = .ok (.iconst 0, 1) := by decide +kernel
theorem dX5_has_17 : decode cX5_has 17 = .ok (.ireturn, 1) := by decide +kernel
set_option maxRecDepth 20000 in
theorem ggX5_isOpen_X5_has : GoodIn wsX5_isOpen wsX5_has := goodIn_r _ [6, 7, 8, 9, 10, 11, 12, 13, 14] (by decide +kernel) (by decide +kernel)
set_option maxRecDepth 20000 in
theorem gX5_isOpen_X5_has : GoodIn wsX5_isOpen (wsV RX5 34 RX5 yX5_has wsX5_has) := goodIn_app (goodIn_of _ (by decide +kernel)) ggX5_isOpen_X5_has
theorem dX5_isOpen_0 : decode cX5_isOpen 0 = .ok (.aload_n 0, 1) := by decide +kernel
theorem dX5_isOpen_1 : decode cX5_isOpen 1 = .ok (.iload_n 1, 1) := by decide +kernel
theorem dX5_isOpen_2 : decode cX5_isOpen 2 = .ok (.invokevirtual 34, 3) := by decide +kernel
theorem dX5_isOpen_5 : decode cX5_isOpen 5 = .ok (.ifCond .eq 16, 3) := by decide +kernel
theorem dX5_isOpen_8 : decode cX5_isOpen 8 = .ok (.aload_n 0, 1) := by decide +kernel
theorem dX5_isOpen_9 : decode cX5_isOpen 9 = .ok (.getfield 18, 3) := by decide +kernel
theorem dX5_isOpen_12 : decode cX5_isOpen 12 = .ok (.iload_n 1, 1) := by decide +kernel
theorem dX5_isOpen_13 : decode cX5_isOpen 13 = .ok (.iaload, 1) := by decide +kernel
theorem dX5_isOpen_14 : decode cX5_isOpen 14 = .ok (.ifCond .ne 7, 3) := by decide +kernel
theorem dX5_isOpen_17 : decode cX5_isOpen 17 = .ok (.iconst 1, 1) := by decide +kernel
theorem dX5_isOpen_18 : decode cX5_isOpen 18 = .ok (.goto 4, 3) := by decide +kernel
theorem dX5_isOpen_21 : decode cX5_isOpen 21 = .ok (.iconst 0, 1) := by decide +kernel
theorem dX5_isOpen_22 : decode cX5_isOpen 22 = .ok (.ireturn, 1) := by decide +kernel
set_option maxRecDepth 20000 in
theorem ggX5_waits_X5_isOpen : GoodIn wsX5_waits wsX5_isOpen := goodIn_r _ [6, 7, 8, 9, 10, 5, 11, 12, 13, 14, 15, 16, 17, 18, 19] (by decide +kernel) (by decide +kernel)
set_option maxRecDepth 20000 in
theorem gX5_waits_X5_isOpen : GoodIn wsX5_waits (wsV RX5 38 RX5 yX5_isOpen wsX5_isOpen) := goodIn_app (goodIn_of _ (by decide +kernel)) ggX5_waits_X5_isOpen
theorem dX5_waits_0 : decode cX5_waits 0 = .ok (.aload_n 0, 1) := by decide +kernel
theorem dX5_waits_1 : decode cX5_waits 1 = .ok (.iload_n 1, 1) := by decide +kernel
theorem dX5_waits_2 : decode cX5_waits 2 = .ok (.invokevirtual 38, 3) := by decide +kernel
theorem dX5_waits_5 : decode cX5_waits 5 = .ok (.ifCond .eq 17, 3) := by decide +kernel
theorem dX5_waits_8 : decode cX5_waits 8 = .ok (.aload_n 0, 1) := by decide +kernel
theorem dX5_waits_9 : decode cX5_waits 9 = .ok (.getfield 24, 3) := by decide +kernel
theorem dX5_waits_12 : decode cX5_waits 12 = .ok (.iload_n 1, 1) := by decide +kernel
theorem dX5_waits_13 : decode cX5_waits 13 = .ok (.iaload, 1) := by decide +kernel
theorem dX5_waits_14 : decode cX5_waits 14 = .ok (.iconst (-1), 1) := by decide +kernel
theorem dX5_waits_15 : decode cX5_waits 15 = .ok (.if_icmp .ne 7, 3) := by decide +kernel
theorem dX5_waits_18 : decode cX5_waits 18 = .ok (.iconst 1, 1) := by decide +kernel
theorem dX5_waits_19 : decode cX5_waits 19 = .ok (.goto 4, 3) := by decide +kernel
theorem dX5_waits_22 : decode cX5_waits 22 = .ok (.iconst 0, 1) := by decide +kernel
theorem dX5_waits_23 : decode cX5_waits 23 = .ok (.ireturn, 1) := by decide +kernel
theorem dX5_add_0 : decode cX5_add 0 = .ok (.aload_n 0, 1) := by decide +kernel
theorem dX5_add_1 : decode cX5_add 1 = .ok (.getfield 30, 3) := by decide +kernel
theorem dX5_add_4 : decode cX5_add 4 = .ok (.istore 4, 2) := by decide +kernel
theorem dX5_add_6 : decode cX5_add 6 = .ok (.aload_n 0, 1) := by decide +kernel
theorem dX5_add_7 : decode cX5_add 7 = .ok (.dup, 1) := by decide +kernel
theorem dX5_add_8 : decode cX5_add 8 = .ok (.getfield 30, 3) := by decide +kernel
theorem dX5_add_11 : decode cX5_add 11 = .ok (.iconst 1, 1) := by decide +kernel
theorem dX5_add_12 : decode cX5_add 12 = .ok (.iadd, 1) := by decide +kernel
theorem dX5_add_13 : decode cX5_add 13 = .ok (.putfield 30, 3) := by decide +kernel
theorem dX5_add_16 : decode cX5_add 16 = .ok (.aload_n 0, 1) := by decide +kernel
theorem dX5_add_17 : decode cX5_add 17 = .ok (.getfield 9, 3) := by decide +kernel
theorem dX5_add_20 : decode cX5_add 20 = .ok (.iload 4, 2) := by decide +kernel
theorem dX5_add_22 : decode cX5_add 22 = .ok (.iload_n 1, 1) := by decide +kernel
theorem dX5_add_23 : decode cX5_add 23 = .ok (.iastore, 1) := by decide +kernel
theorem dX5_add_24 : decode cX5_add 24 = .ok (.aload_n 0, 1) := by decide +kernel
theorem dX5_add_25 : decode cX5_add 25 = .ok (.getfield 15, 3) := by decide +kernel
theorem dX5_add_28 : decode cX5_add 28 = .ok (.iload 4, 2) := by decide +kernel
theorem dX5_add_30 : decode cX5_add 30 = .ok (.iload_n 2, 1) := by decide +kernel
theorem dX5_add_31 : decode cX5_add 31 = .ok (.iastore, 1) := by decide +kernel
theorem dX5_add_32 : decode cX5_add 32 = .ok (.aload_n 0, 1) := by decide +kernel
theorem dX5_add_33 : decode cX5_add 33 = .ok (.getfield 18, 3) := by decide +kernel
theorem dX5_add_36 : decode cX5_add 36 = .ok (.iload 4, 2) := by decide +kernel
theorem dX5_add_38 : decode cX5_add 38 = .ok (.iconst 0, 1) := by decide +kernel
theorem dX5_add_39 : decode cX5_add 39 = .ok (.iastore, 1) := by decide +kernel
theorem dX5_add_40 : decode cX5_add 40 = .ok (.aload_n 0, 1) := by decide +kernel
theorem dX5_add_41 : decode cX5_add 41 = .ok (.getfield 21, 3) := by decide +kernel
theorem dX5_add_44 : decode cX5_add 44 = .ok (.iload 4, 2) := by decide +kernel
theorem dX5_add_46 : decode cX5_add 46 = .ok (.iconst 0, 1) := by decide +kernel
theorem dX5_add_47 : decode cX5_add 47 = .ok (.iastore, 1) := by decide +kernel
theorem dX5_add_48 : decode cX5_add 48 = .ok (.aload_n 0, 1) := by decide +kernel
theorem dX5_add_49 : decode cX5_add 49 = .ok (.getfield 24, 3) := by decide +kernel
theorem dX5_add_52 : decode cX5_add 52 = .ok (.iload 4, 2) := by decide +kernel
theorem dX5_add_54 : decode cX5_add 54 = .ok (.iconst (-1), 1) := by decide +kernel
theorem dX5_add_55 : decode cX5_add 55 = .ok (.iastore, 1) := by decide +kernel
theorem dX5_add_56 : decode cX5_add 56 = .ok (.aload_n 0, 1) := by decide +kernel
theorem dX5_add_57 : decode cX5_add 57 = .ok (.getfield 27, 3) := by decide +kernel
theorem dX5_add_60 : decode cX5_add 60 = .ok (.iload 4, 2) := by decide +kernel
theorem dX5_add_62 : decode cX5_add 62 = .ok (.iload_n 3, 1) := by decide +kernel
theorem dX5_add_63 : decode cX5_add 63 = .ok (.iastore, 1) := by decide +kernel
theorem dX5_add_64 : decode cX5_add 64 = .ok (.iload 4, 2) := by decide +kernel
theorem dX5_add_66 : decode cX5_add 66 = .ok (.ireturn, 1) := by decide +kernel
theorem dX5_hasOpen_0 : decode cX5_hasOpen 0 = .ok (.iconst 0, 1) := by decide +kernel
theorem dX5_hasOpen_1 : decode cX5_hasOpen 1 = .ok (.istore_n 3, 1) := by decide +kernel
theorem dX5_hasOpen_2 : decode cX5_hasOpen 2 = .ok (.iload_n 3, 1) := by decide +kernel
theorem dX5_hasOpen_3 : decode cX5_hasOpen 3 = .ok (.aload_n 0, 1) := by decide +kernel
theorem dX5_hasOpen_4 : decode cX5_hasOpen 4 = .ok (.getfield 30, 3) := by decide +kernel
theorem dX5_hasOpen_7 : decode cX5_hasOpen 7 = .ok (.if_icmp .ge 40, 3) := by decide +kernel
theorem dX5_hasOpen_10 : decode cX5_hasOpen 10 = .ok (.aload_n 0, 1) := by decide +kernel
theorem dX5_hasOpen_11 : decode cX5_hasOpen 11 = .ok (.getfield 18, 3) := by decide +kernel
theorem dX5_hasOpen_14 : decode cX5_hasOpen 14 = .ok (.iload_n 3, 1) := by decide +kernel
theorem dX5_hasOpen_15 : decode cX5_hasOpen 15 = .ok (.iaload, 1) := by decide +kernel
theorem dX5_hasOpen_16 : decode cX5_hasOpen 16 = .ok (.ifCond .ne 25, 3) := by decide +kernel
theorem dX5_hasOpen_19 : decode cX5_hasOpen 19 = .ok (.aload_n 0, 1) := by decide +kernel
theorem dX5_hasOpen_20 : decode cX5_hasOpen 20 = .ok (.getfield 9, 3) := by decide +kernel
theorem dX5_hasOpen_23 : decode cX5_hasOpen 23 = .ok (.iload_n 3, 1) := by decide +kernel
theorem dX5_hasOpen_24 : decode cX5_hasOpen 24 = .ok (.iaload, 1) := by decide +kernel
theorem dX5_hasOpen_25 : decode cX5_hasOpen 25 = .ok (.iload_n 1, 1) := by decide +kernel
theorem dX5_hasOpen_26 : decode cX5_hasOpen 26 = .ok (.if_icmp .ne 15, 3) := by decide +kernel
theorem dX5_hasOpen_29 : decode cX5_hasOpen 29 = .ok (.aload_n 0, 1) := by decide +kernel
theorem dX5_hasOpen_30 : decode cX5_hasOpen 30 = .ok (.getfield 15, 3) := by decide +kernel
theorem dX5_hasOpen_33 : decode cX5_hasOpen 33 = .ok (.iload_n 3, 1) := by decide +kernel
theorem dX5_hasOpen_34 : decode cX5_hasOpen 34 = .ok (.iaload, 1) := by decide +kernel
theorem dX5_hasOpen_35 : decode cX5_hasOpen 35 = .ok (.iload_n 2, 1) := by decide +kernel
theorem dX5_hasOpen_36 : decode cX5_hasOpen 36 = .ok (.if_icmp .ne 5, 3) := by decide +kernel
theorem dX5_hasOpen_39 : decode cX5_hasOpen 39 = .ok (.iconst 1, 1) := by decide +kernel
theorem dX5_hasOpen_40 : decode cX5_hasOpen 40 = .ok (.ireturn, 1) := by decide +kernel
theorem dX5_hasOpen_41 : decode cX5_hasOpen 41 = .ok (.iinc 3 1, 3) := by decide +kernel
theorem dX5_hasOpen_44 : decode cX5_hasOpen 44 = .ok (.goto (-42), 3) := by decide +kernel
theorem dX5_hasOpen_47 : decode cX5_hasOpen 47 = .ok (.iconst 0, 1) := by decide +kernel
theorem dX5_hasOpen_48 : decode cX5_hasOpen 48 = .ok (.ireturn, 1) := by decide +kernel
theorem dX5_openOf_0 : decode cX5_openOf 0 = .ok (.iconst 0, 1) := by decide +kernel
theorem dX5_openOf_1 : decode cX5_openOf 1 = .ok (.istore_n 2, 1) := by decide +kernel
theorem dX5_openOf_2 : decode cX5_openOf 2 = .ok (.iconst 0, 1) := by decide +kernel
theorem dX5_openOf_3 : decode cX5_openOf 3 = .ok (.istore_n 3, 1) := by decide +kernel
theorem dX5_openOf_4 : decode cX5_openOf 4 = .ok (.iload_n 3, 1) := by decide +kernel
theorem dX5_openOf_5 : decode cX5_openOf 5 = .ok (.aload_n 0, 1) := by decide +kernel
theorem dX5_openOf_6 : decode cX5_openOf 6 = .ok (.getfield 30, 3) := by decide +kernel
theorem dX5_openOf_9 : decode cX5_openOf 9 = .ok (.if_icmp .ge 31, 3) := by decide +kernel
theorem dX5_openOf_12 : decode cX5_openOf 12 = .ok (.aload_n 0, 1) := by decide +kernel
theorem dX5_openOf_13 : decode cX5_openOf 13 = .ok (.getfield 18, 3) := by decide +kernel
theorem dX5_openOf_16 : decode cX5_openOf 16 = .ok (.iload_n 3, 1) := by decide +kernel
theorem dX5_openOf_17 : decode cX5_openOf 17 = .ok (.iaload, 1) := by decide +kernel
theorem dX5_openOf_18 : decode cX5_openOf 18 = .ok (.ifCond .ne 16, 3) := by decide +kernel
theorem dX5_openOf_21 : decode cX5_openOf 21 = .ok (.aload_n 0, 1) := by decide +kernel
theorem dX5_openOf_22 : decode cX5_openOf 22 = .ok (.getfield 9, 3) := by decide +kernel
theorem dX5_openOf_25 : decode cX5_openOf 25 = .ok (.iload_n 3, 1) := by decide +kernel
theorem dX5_openOf_26 : decode cX5_openOf 26 = .ok (.iaload, 1) := by decide +kernel
theorem dX5_openOf_27 : decode cX5_openOf 27 = .ok (.iload_n 1, 1) := by decide +kernel
theorem dX5_openOf_28 : decode cX5_openOf 28 = .ok (.if_icmp .ne 6, 3) := by decide +kernel
theorem dX5_openOf_31 : decode cX5_openOf 31 = .ok (.iinc 2 1, 3) := by decide +kernel
theorem dX5_openOf_34 : decode cX5_openOf 34 = .ok (.iinc 3 1, 3) := by decide +kernel
theorem dX5_openOf_37 : decode cX5_openOf 37 = .ok (.goto (-33), 3) := by decide +kernel
theorem dX5_openOf_40 : decode cX5_openOf 40 = .ok (.iload_n 2, 1) := by decide +kernel
theorem dX5_openOf_41 : decode cX5_openOf 41 = .ok (.ireturn, 1) := by decide +kernel
set_option maxRecDepth 20000 in
theorem ggX5_waitingFor_X5_waits : GoodIn wsX5_waitingFor wsX5_waits := goodIn_r _ [8, 9, 10, 11, 12, 7, 13, 14, 15, 16, 17, 18, 1, 19, 20, 21, 22, 23, 24, 25] (by decide +kernel) (by decide +kernel)
set_option maxRecDepth 20000 in
theorem gX5_waitingFor_X5_waits : GoodIn wsX5_waitingFor (wsV RX5 41 RX5 yX5_waits wsX5_waits) := goodIn_app (goodIn_of _ (by decide +kernel)) ggX5_waitingFor_X5_waits
theorem dX5_waitingFor_0 : decode cX5_waitingFor 0 = .ok (.iconst 0, 1) := by decide +kernel
theorem dX5_waitingFor_1 : decode cX5_waitingFor 1 = .ok (.istore_n 3, 1) := by decide +kernel
theorem dX5_waitingFor_2 : decode cX5_waitingFor 2 = .ok (.iconst 0, 1) := by decide +kernel
theorem dX5_waitingFor_3 : decode cX5_waitingFor 3 = .ok (.istore 4, 2) := by decide +kernel
theorem dX5_waitingFor_5 : decode cX5_waitingFor 5 = .ok (.iload 4, 2) := by decide +kernel
theorem dX5_waitingFor_7 : decode cX5_waitingFor 7 = .ok (.aload_n 0, 1) := by decide +kernel
theorem dX5_waitingFor_8 : decode cX5_waitingFor 8 = .ok (.getfield 30, 3) := by decide +kernel
theorem dX5_waitingFor_11 : decode cX5_waitingFor 11 = .ok (.if_icmp .ge 43, 3) := by decide +kernel
theorem dX5_waitingFor_14 : decode cX5_waitingFor 14 = .ok (.aload_n 0, 1) := by decide +kernel
theorem dX5_waitingFor_15 : decode cX5_waitingFor 15 = .ok (.iload 4, 2) := by decide +kernel
theorem dX5_waitingFor_17 : decode cX5_waitingFor 17 = .ok (.invokevirtual 41, 3) := by decide +kernel
theorem dX5_waitingFor_20 : decode cX5_waitingFor 20 = .ok (.ifCond .eq 28, 3) := by decide +kernel
theorem dX5_waitingFor_23 : decode cX5_waitingFor 23 = .ok (.aload_n 0, 1) := by decide +kernel
theorem dX5_waitingFor_24 : decode cX5_waitingFor 24 = .ok (.getfield 15, 3) := by decide +kernel
theorem dX5_waitingFor_27 : decode cX5_waitingFor 27 = .ok (.iload 4, 2) := by decide +kernel
theorem dX5_waitingFor_29 : decode cX5_waitingFor 29 = .ok (.iaload, 1) := by decide +kernel
theorem dX5_waitingFor_30 : decode cX5_waitingFor 30 = .ok (.iload_n 1, 1) := by decide +kernel
theorem dX5_waitingFor_31 : decode cX5_waitingFor 31 = .ok (.if_icmp .ne 17, 3) := by decide +kernel
theorem dX5_waitingFor_34 : decode cX5_waitingFor 34 = .ok (.aload_n 0, 1) := by decide +kernel
theorem dX5_waitingFor_35 : decode cX5_waitingFor 35 = .ok (.getfield 21, 3) := by decide +kernel
theorem dX5_waitingFor_38 : decode cX5_waitingFor 38 = .ok (.iload 4, 2) := by decide +kernel
theorem dX5_waitingFor_40 : decode cX5_waitingFor 40 = .ok (.iaload, 1) := by decide +kernel
theorem dX5_waitingFor_41 : decode cX5_waitingFor 41 = .ok (.iload_n 2, 1) := by decide +kernel
theorem dX5_waitingFor_42 : decode cX5_waitingFor 42 = .ok (.if_icmp .ne 6, 3) := by decide +kernel
theorem dX5_waitingFor_45 : decode cX5_waitingFor 45 = .ok (.iinc 3 1, 3) := by decide +kernel
theorem dX5_waitingFor_48 : decode cX5_waitingFor 48 = .ok (.iinc 4 1, 3) := by decide +kernel
theorem dX5_waitingFor_51 : decode cX5_waitingFor 51 = .ok (.goto (-46), 3) := by decide +kernel
theorem dX5_waitingFor_54 : decode cX5_waitingFor 54 = .ok (.iload_n 3, 1) := by decide +kernel
theorem dX5_waitingFor_55 : decode cX5_waitingFor 55 = .ok (.ireturn, 1) := by decide +kernel
theorem dX5_countAsHad_0 : decode cX5_countAsHad 0 = .ok (.aload_n 0, 1) := by decide +kernel
theorem dX5_countAsHad_1 : decode cX5_countAsHad 1 = .ok (.getfield 24, 3) := by decide +kernel
theorem dX5_countAsHad_4 : decode cX5_countAsHad 4 = .ok (.iload_n 1, 1) := by decide +kernel
theorem dX5_countAsHad_5 : decode cX5_countAsHad 5 = .ok (.iconst (-1), 1) := by decide +kernel
theorem dX5_countAsHad_6 : decode cX5_countAsHad 6 = .ok (.iastore, 1) := by decide +kernel
theorem dX5_countAsHad_7 : decode cX5_countAsHad 7 = .ok (.aload_n 0, 1) := by decide +kernel
theorem dX5_countAsHad_8 : decode cX5_countAsHad 8 = .ok (.getfield 21, 3) := by decide +kernel
theorem dX5_countAsHad_11 : decode cX5_countAsHad 11 = .ok (.iload_n 1, 1) := by decide +kernel
theorem dX5_countAsHad_12 : decode cX5_countAsHad 12 = .ok (.dup2, 1) := by decide +kernel
theorem dX5_countAsHad_13 : decode cX5_countAsHad 13 = .ok (.iaload, 1) := by decide +kernel
theorem dX5_countAsHad_14 : decode cX5_countAsHad 14 = .ok (.iconst 1, 1) := by decide +kernel
theorem dX5_countAsHad_15 : decode cX5_countAsHad 15 = .ok (.iadd, 1) := by decide +kernel
theorem dX5_countAsHad_16 : decode cX5_countAsHad 16 = .ok (.iastore, 1) := by decide +kernel
theorem dX5_countAsHad_17 : decode cX5_countAsHad 17 = .ok (.aload_n 0, 1) := by decide +kernel
theorem dX5_countAsHad_18 : decode cX5_countAsHad 18 = .ok (.getfield 27, 3) := by decide +kernel
theorem dX5_countAsHad_21 : decode cX5_countAsHad 21 = .ok (.iload_n 1, 1) := by decide +kernel
theorem dX5_countAsHad_22 : decode cX5_countAsHad 22 = .ok (.iload_n 3, 1) := by decide +kernel
theorem dX5_countAsHad_23 : decode cX5_countAsHad 23 = .ok (.iastore, 1) := by decide +kernel
theorem dX5_countAsHad_24 : decode cX5_countAsHad 24 = .ok (.aload_n 0, 1) := by decide +kernel
theorem dX5_countAsHad_25 : decode cX5_countAsHad 25 = .ok (.getfield 18, 3) := by decide +kernel
theorem dX5_countAsHad_28 : decode cX5_countAsHad 28 = .ok (.iload_n 1, 1) := by decide +kernel
theorem dX5_countAsHad_29 : decode cX5_countAsHad 29 = .ok (.iaload, 1) := by decide +kernel
theorem dX5_countAsHad_30 : decode cX5_countAsHad 30 = .ok (.ifCond .ne 20, 3) := by decide +kernel
theorem dX5_countAsHad_33 : decode cX5_countAsHad 33 = .ok (.aload_n 0, 1) := by decide +kernel
theorem dX5_countAsHad_34 : decode cX5_countAsHad 34 = .ok (.getfield 21, 3) := by decide +kernel
theorem dX5_countAsHad_37 : decode cX5_countAsHad 37 = .ok (.iload_n 1, 1) := by decide +kernel
theorem dX5_countAsHad_38 : decode cX5_countAsHad 38 = .ok (.iaload, 1) := by decide +kernel
theorem dX5_countAsHad_39 : decode cX5_countAsHad 39 = .ok (.iload_n 2, 1) := by decide +kernel
theorem dX5_countAsHad_40 : decode cX5_countAsHad 40 = .ok (.if_icmp .lt 10, 3) := by decide +kernel
theorem dX5_countAsHad_43 : decode cX5_countAsHad 43 = .ok (.aload_n 0, 1) := by decide +kernel
theorem dX5_countAsHad_44 : decode cX5_countAsHad 44 = .ok (.getfield 18, 3) := by decide +kernel
theorem dX5_countAsHad_47 : decode cX5_countAsHad 47 = .ok (.iload_n 1, 1) := by decide +kernel
theorem dX5_countAsHad_48 : decode cX5_countAsHad 48 = .ok (.iconst 1, 1) := by decide +kernel
theorem dX5_countAsHad_49 : decode cX5_countAsHad 49 = .ok (.iastore, 1) := by decide +kernel
theorem dX5_countAsHad_50 : decode cX5_countAsHad 50 = .ok (.return_, 1) := by decide +kernel
end
section
/-! Part 02: the words for a state. A picture is a family of rows of ints: 'p k i' is place i of row k; rows 30 .. 40 are single numbers (place 0). The same numbers of rows for the class and for the reference. -/
abbrev wSt : Type := Nat → Nat → Int32
def rset (p : wSt) (k : Nat) (f : Nat → Int32) : wSt := fun j => if j = k then f else p j
theorem i_lt {x y : Int32} (h : x < y) : x.toInt < y.toInt := Int32.lt_iff_toInt_lt.mp h
theorem i_le {x y : Int32} (h : x ≤ y) : x.toInt ≤ y.toInt := Int32.le_iff_toInt_le.mp h
theorem i_nlt {x y : Int32} (h : ¬ x < y) : y.toInt ≤ x.toInt := Int.not_lt.mp (fun q => h (Int32.lt_iff_toInt_lt.mpr q))
theorem i_nle {x y : Int32} (h : ¬ x ≤ y) : y.toInt < x.toInt := Int.not_le.mp (fun q => h (Int32.le_iff_toInt_le.mpr q))
theorem i_eq {x y : Int32} (h : x = y) : x.toInt = y.toInt := by rw [h]
theorem i_ne {x y : Int32} (h : ¬ x = y) : ¬ x.toInt = y.toInt := fun q => h (Int32.toInt_inj.mp q)
theorem i_rng (x : Int32) : -2147483648 ≤ x.toInt ∧ x.toInt ≤ 2147483647 := ⟨Int32.le_toInt x, by have := Int32.toInt_lt x; omega⟩
theorem i_bmod {z : Int} (h : -2147483648 ≤ z ∧ z ≤ 2147483647) : z.bmod 4294967296 = z := by rw [Int.bmod_def]; split <;> omega
theorem i_add {x y : Int32} (h : -2147483648 ≤ x.toInt + y.toInt ∧ x.toInt + y.toInt ≤ 2147483647) : (x + y).toInt = x.toInt + y.toInt := by rw [Int32.toInt_add]; exact i_bmod h
theorem i_sub {x y : Int32} (h : -2147483648 ≤ x.toInt - y.toInt ∧ x.toInt - y.toInt ≤ 2147483647) : (x - y).toInt = x.toInt - y.toInt := by rw [Int32.toInt_sub]; exact i_bmod h
theorem i_mul {x y : Int32} (h : -2147483648 ≤ x.toInt * y.toInt ∧ x.toInt * y.toInt ≤ 2147483647) : (x * y).toInt = x.toInt * y.toInt := by rw [Int32.toInt_mul]; exact i_bmod h
theorem i_inc {x : Int32} (h : x.toInt < 2147483647) : (x + 1).toInt = x.toInt + 1 := i_add (by have := i_rng x; have : (1 : Int32).toInt = 1 := rfl; omega)
theorem i_clamp {x : Int32} {n : Nat} (h : vp_in x n) : x.toNatClampNeg < n := Nat.not_le.mp fun q => h (Or.inr q)
def wA (cf : wSt → va_W) (sz : Nat) : Nat → Prop := va_A (cf (fun _ _ => 0)) sz
def wI (G : va_G) (cy : ClassId) (cf : wSt → va_W) (N : (Nat → Prop) → State → Prop) (sz : Nat) (q : wSt) (U : State) : Prop :=
  U.heap.size = sz ∧ va_P G vwCl (cf q) U.heap ∧ va_K G vwCl [(cy, .int)] U ∧ va_D (fun _ => True) (cf q) ∧ N (wA cf sz) U
abbrev wQi (G : va_G) (cf : wSt → va_W) (sz : Nat) (r1 : Int32) (q1 : wSt) : Array Value → State → Outcome → State → Prop := va_Qi (fun (r : Int32) (u : wSt) => r = r1 ∧ u = q1) (fun u t => va_P G vwCl (cf u) t.heap) (wA cf sz)
abbrev wQv (G : va_G) (cf : wSt → va_W) (sz : Nat) (q1 : wSt) : Array Value → State → Outcome → State → Prop := va_Qv (fun (u : wSt) => u = q1) (fun u t => va_P G vwCl (cf u) t.heap) (wA cf sz)
abbrev CtI (l : Launch) (y : MethodName) (ws : List Cond) (rm : Room) (G : va_G) (cy : ClassId) (cf : wSt → va_W) (N : (Nat → Prop) → State → Prop) (sz : Nat) (q : wSt) (av : List Value) (r1 : Int32) (q1 : wSt) : Prop := Met l y ws rm (va_Pc av (wI G cy cf N sz q)) (wQi G cf sz r1 q1) 0 0 (wA cf sz)
abbrev CtV (l : Launch) (y : MethodName) (ws : List Cond) (rm : Room) (G : va_G) (cy : ClassId) (cf : wSt → va_W) (N : (Nat → Prop) → State → Prop) (sz : Nat) (q : wSt) (av : List Value) (q1 : wSt) : Prop := Met l y ws rm (va_Pc av (wI G cy cf N sz q)) (wQv G cf sz q1) 0 0 (wA cf sz)
/-- a world whose addresses no picture changes; what else a call takes along -/
def wOk (cf : wSt → va_W) (N : (Nat → Prop) → State → Prop) : Prop := (∀ q q' : wSt, (cf q).map Prod.fst = (cf q').map Prod.fst) ∧ (∀ (A : Nat → Prop) (U U' : State), U'.vm = U.vm → U'.heap = U.heap → N A U → N A U') ∧ (∀ (A A' : Nat → Prop) (s U : State) (locs : List Loc), va_S A s.heap U.heap locs → (∀ z, A' z → A z) → s.WarmedH U.vm → N A s → N A' U)
theorem w_at {cf : wSt → va_W} (h : ∀ q q' : wSt, (cf q).map Prod.fst = (cf q').map Prod.fst) {q : wSt} (q' : wSt) {k : Nat} {x : Nat × va_E} (hk : (cf q)[k]? = some x) : ∃ e, (cf q')[k]? = some (x.1, e) := by
  have h1 : ((cf q).map Prod.fst)[k]? = some x.1 := by rw [List.getElem?_map, hk]; rfl
  rw [h q q', List.getElem?_map] at h1
  cases h2 : (cf q')[k]? with
  | none => rw [h2] at h1; cases h1
  | some y => rw [h2] at h1; have h3 : y.1 = x.1 := Option.some.inj h1; exact ⟨y.2, by rw [← h3]⟩
theorem w_D {cf : wSt → va_W} (h : ∀ q q' : wSt, (cf q).map Prod.fst = (cf q').map Prod.fst) {A : Nat → Prop} {q : wSt} (hD : va_D A (cf q)) (q' : wSt) : va_D A (cf q') := by
  refine ⟨fun i j x y hx hy he => ?_, fun k x hk => ?_⟩
  · obtain ⟨e1, h1⟩ := w_at h q hx
    obtain ⟨e2, h2⟩ := w_at h q hy
    exact hD.1 i j _ _ h1 h2 he
  · obtain ⟨e1, h1⟩ := w_at h q hk
    exact hD.2 k (x.1, e1) h1
theorem w_self {cf : wSt → va_W} (h : ∀ q q' : wSt, (cf q).map Prod.fst = (cf q').map Prod.fst) {A : Nat → Prop} {q : wSt} {sz : Nat} (hD : va_D A (cf q)) (q' : wSt) : va_D (wA cf sz) (cf q') := w_D h (va_D.self (w_D h hD (fun _ _ => 0))) q'
theorem w_sub {cf : wSt → va_W} {A : Nat → Prop} {H0 H : Heap} {locs : List Loc} (hD : ∀ q : wSt, va_D A (cf q)) (hS : va_S A H0 H locs) (hA : ∀ z, H0.size ≤ z → A z) : ∀ z, wA cf H.size z → A z := by
  intro z hz
  rcases hz with ⟨k, e, h⟩ | h
  · exact (hD _).2 k _ h
  · exact hA z (Nat.le_trans hS.1 h)
theorem w_blind {G : va_G} {cy : ClassId} {cf : wSt → va_W} {N : (Nat → Prop) → State → Prop} {sz : Nat} {q : wSt} {av : List Value} (ok : wOk cf N) : FrameBlind (va_Pc av (wI G cy cf N sz q)) := by
  intro a U g mk h
  obtain ⟨h0, h1, h2, h3, h4, h5⟩ := h
  exact ⟨h0, h1, h2, va_K.moved (u := U) (U := U.calling g mk a) (Vm.Alike.refl U.vm) h3, h4, ok.2.1 _ U _ rfl rfl h5⟩
section WCALL
variable {p : Program} {l : Launch} {e : Env} {R : Room} {s : State} {m : MethodId} {args : Array Value} {below : List Frame} {meth : Method} {c : Code} {H : Heap} {locs : List Loc} {cells slots : Nat} {Q : State → Prop}
variable {pc : Nat} {ls : Array Slot} {rest st0 As : List Value} {av : Array Value} {A : Nat → Prop} {G : va_G} {cy : ClassId} {cf : wSt → va_W} {N : (Nat → Prop) → State → Prop} {q q1 : wSt} {r1 : Int32} {C : String} {b : Addr}
theorem w_in (ok : wOk cf N) (hK : va_K G vwCl [(cy, .int)] s) (hP : va_P G vwCl (cf q) H) (hD : ∀ q : wSt, va_D A (cf q)) (hS : va_S A s.heap H locs) (hA : ∀ z, s.heap.size ≤ z → A z) (hN : N A s) (U : State) (hU : U.heap = H) (hW : s.WarmedH U.vm) : wI G cy cf N H.size q U := by
  subst hU
  exact ⟨rfl, hP, va_K.moved hW.alike hK, (hD q).weaken (fun _ _ _ _ => trivial), ok.2.2 A _ s U locs hS (w_sub hD hS hA) hW hN⟩
theorem w_pre (ok : wOk cf N) (hr : ∃ cell : Cell, H[b]? = some cell ∧ cell.vm.isStatics = false ∧ s.vm.findClass C = some cell.cls) (hK : va_K G vwCl [(cy, .int)] s) (hP : va_P G vwCl (cf q) H) (hD : ∀ q : wSt, va_D A (cf q)) (hS : va_S A s.heap H locs) (hA : ∀ z, s.heap.size ≤ z → A z) (hN : N A s) : PreV s H C b (va_Pc (.ref b :: As) (wI G cy cf N H.size q)) As :=
  ⟨w_blind ok, hr, fun U hU hW => ⟨rfl, w_in ok hK hP hD hS hA hN U hU hW⟩⟩
theorem w_preS (ok : wOk cf N) (hK : va_K G vwCl [(cy, .int)] s) (hP : va_P G vwCl (cf q) H) (hD : ∀ q : wSt, va_D A (cf q)) (hS : va_S A s.heap H locs) (hA : ∀ z, s.heap.size ≤ z → A z) (hN : N A s) : PreS s H (va_Pc As (wI G cy cf N H.size q)) As :=
  ⟨w_blind ok, fun U hU hW => ⟨rfl, w_in ok hK hP hD hS hA hN U hU hW⟩⟩
theorem w_goI (hr : va_Run p l e R s m args below meth c H locs cells slots 0 0 (F0 m pc ls st0) rest (wQi G cf H.size r1 q1 av) (wA cf H.size)) (hD : ∀ q : wSt, va_D A (cf q)) (hS : va_S A s.heap H locs) (hA : ∀ z, s.heap.size ≤ z → A z)
    (kk : ∀ (H1 : Heap) (locs1 : List Loc), va_P G vwCl (cf q1) H1 → va_S A s.heap H1 locs1 → W p l e R s m args below meth c H1 locs1 cells slots Q (F0 m (pc + 3) ls (.int r1 :: rest))) : W p l e R s m args below meth c H locs cells slots Q (F0 m pc ls st0) := by
  refine va_calli hr hS (fun z _ h => w_sub hD hS hA z h) (w_sub hD hS hA) (fun r u t H1 locs1 ht hvm hw hB hz hk hS1 => ?_)
  obtain ⟨rfl, rfl⟩ := hw
  rw [ht] at hB
  exact kk H1 locs1 hB hS1
theorem w_goV (hr : va_Run p l e R s m args below meth c H locs cells slots 0 0 (F0 m pc ls st0) rest (wQv G cf H.size q1 av) (wA cf H.size)) (hD : ∀ q : wSt, va_D A (cf q)) (hS : va_S A s.heap H locs) (hA : ∀ z, s.heap.size ≤ z → A z)
    (kk : ∀ (H1 : Heap) (locs1 : List Loc), va_P G vwCl (cf q1) H1 → va_S A s.heap H1 locs1 → W p l e R s m args below meth c H1 locs1 cells slots Q (F0 m (pc + 3) ls rest)) : W p l e R s m args below meth c H locs cells slots Q (F0 m pc ls st0) := by
  refine va_callv hr hS (fun z _ h => w_sub hD hS hA z h) (w_sub hD hS hA) (fun u t H1 locs1 ht hvm hw hB hz hk hS1 => ?_)
  cases hw
  rw [ht] at hB
  exact kk H1 locs1 hB hS1
end WCALL
def cX (cy : ClassId) (a : Nat → Nat) (p : wSt) : va_W := [(a 0, .inr (6, [.ref (a 1), .ref (a 2), .ref (a 3), .ref (a 4), .ref (a 5), .ref (a 6), .int (p 30 0), .int (p 31 0), .int (p 32 0), .int (p 33 0)])),
  (a 1, .inr (4, [.ref (a 7), .int (p 34 0)])),
  (a 2, .inr (0, [.ref (a 8), .ref (a 9), .ref (a 10), .ref (a 11), .ref (a 12), .int (p 35 0)])),
  (a 3, .inr (1, [.ref (a 13), .ref (a 14), .ref (a 15), .ref (a 16), .ref (a 17), .ref (a 18), .ref (a 19), .ref (a 20), .ref (a 21), .ref (a 22), .int (p 36 0), .int (p 37 0), .int (p 38 0)])),
  (a 4, .inr (3, [.ref (a 23), .ref (a 24), .ref (a 25), .ref (a 26), .ref (a 27), .ref (a 28), .int (p 39 0)])),
  (a 5, .inr (5, [.ref (a 29), .ref (a 30), .ref (a 31), .ref (a 32), .ref (a 33), .ref (a 34), .int (p 40 0)])),
  (a 6, .inr (2, [.ref (a 35), .ref (a 36)])),
  (a 7, .inl (cy, 12, .inl (p 0))),
  (a 8, .inl (cy, 40, .inl (p 1))),
  (a 9, .inl (cy, 40, .inl (p 2))),
  (a 10, .inl (cy, 40, .inl (p 3))),
  (a 11, .inl (cy, 40, .inl (p 4))),
  (a 12, .inl (cy, 40, .inl (p 5))),
  (a 13, .inl (cy, 200, .inl (p 6))),
  (a 14, .inl (cy, 200, .inl (p 7))),
  (a 15, .inl (cy, 200, .inl (p 8))),
  (a 16, .inl (cy, 200, .inl (p 9))),
  (a 17, .inl (cy, 200, .inl (p 10))),
  (a 18, .inl (cy, 200, .inl (p 11))),
  (a 19, .inl (cy, 200, .inl (p 12))),
  (a 20, .inl (cy, 200, .inl (p 13))),
  (a 21, .inl (cy, 200, .inl (p 14))),
  (a 22, .inl (cy, 48, .inl (p 15))),
  (a 23, .inl (cy, 20, .inl (p 16))),
  (a 24, .inl (cy, 20, .inl (p 17))),
  (a 25, .inl (cy, 20, .inl (p 18))),
  (a 26, .inl (cy, 20, .inl (p 19))),
  (a 27, .inl (cy, 20, .inl (p 20))),
  (a 28, .inl (cy, 20, .inl (p 21))),
  (a 29, .inl (cy, 100, .inl (p 22))),
  (a 30, .inl (cy, 100, .inl (p 23))),
  (a 31, .inl (cy, 100, .inl (p 24))),
  (a 32, .inl (cy, 100, .inl (p 25))),
  (a 33, .inl (cy, 100, .inl (p 26))),
  (a 34, .inl (cy, 100, .inl (p 27))),
  (a 35, .inl (cy, 21, .inl (p 28))),
  (a 36, .inl (cy, 21, .inl (p 29)))]
def cM (cy : ClassId) (a : Nat → Nat) (p : wSt) : va_W := [(a 0, .inr (7, [.int (p 30 0), .int (p 34 0), .ref (a 1), .int (p 36 0), .ref (a 2), .ref (a 3), .ref (a 4), .ref (a 5), .ref (a 6), .ref (a 7), .ref (a 8), .ref (a 9), .ref (a 10), .int (p 39 0), .ref (a 11), .ref (a 12), .ref (a 13), .ref (a 14), .int (p 40 0), .ref (a 15), .ref (a 16), .ref (a 17), .ref (a 18), .ref (a 19), .int (p 35 0), .ref (a 20), .ref (a 21), .ref (a 22), .ref (a 23), .ref (a 24), .int (p 31 0), .int (p 32 0), .int (p 33 0), .ref (a 25), .ref (a 26)])),
  (a 1, .inl (cy, 12, .inl (p 0))),
  (a 2, .inl (cy, 200, .inl (p 7))),
  (a 3, .inl (cy, 200, .inl (p 8))),
  (a 4, .inl (cy, 200, .inl (p 9))),
  (a 5, .inl (cy, 200, .inl (p 6))),
  (a 6, .inl (cy, 200, .inl (p 10))),
  (a 7, .inl (cy, 200, .inl (p 11))),
  (a 8, .inl (cy, 200, .inl (p 12))),
  (a 9, .inl (cy, 200, .inl (p 13))),
  (a 10, .inl (cy, 200, .inl (p 14))),
  (a 11, .inl (cy, 20, .inl (p 16))),
  (a 12, .inl (cy, 20, .inl (p 17))),
  (a 13, .inl (cy, 20, .inl (p 18))),
  (a 14, .inl (cy, 20, .inl (p 19))),
  (a 15, .inl (cy, 100, .inl (p 22))),
  (a 16, .inl (cy, 100, .inl (p 23))),
  (a 17, .inl (cy, 100, .inl (p 24))),
  (a 18, .inl (cy, 100, .inl (p 25))),
  (a 19, .inl (cy, 100, .inl (p 27))),
  (a 20, .inl (cy, 40, .inl (p 1))),
  (a 21, .inl (cy, 40, .inl (p 2))),
  (a 22, .inl (cy, 40, .inl (p 3))),
  (a 23, .inl (cy, 40, .inl (p 4))),
  (a 24, .inl (cy, 40, .inl (p 5))),
  (a 25, .inl (cy, 21, .inl (p 28))),
  (a 26, .inl (cy, 21, .inl (p 29)))]
/-- the nest mates' links of the class -/
def xNest : List Cond := [.fieldLinkNest RX3 38 RX6 "MOST_HELD" "[I" RX6,
  .fieldLinkNest RX3 45 RX6 "TERM" "[I" RX6,
  .fieldLinkNest RX3 54 RX6 "LATE_COINS" "[I" RX6,
  .fieldLinkNest RX6 68 RX4 "came" "I" RX6,
  .fieldLinkNest RX6 79 RX0 "came" "I" RX6,
  .fieldLinkNest RX6 86 RX1 "came" "I" RX6,
  .fieldLinkNest RX6 105 RX3 "came" "I" RX6,
  .fieldLinkNest RX6 110 RX3 "last" "[I" RX6,
  .fieldLinkNest RX6 114 RX5 "came" "I" RX6,
  .fieldLinkNest RX6 122 RX5 "state" "[I" RX6,
  .fieldLinkNest RX6 137 RX1 "reader" "[I" RX6,
  .fieldLinkNest RX6 143 RX3 "owed" "[I" RX6,
  .fieldLinkNest RX6 146 RX1 "wish" "[I" RX6,
  .fieldLinkNest RX6 153 RX3 "inHand" "[I" RX6,
  .fieldLinkNest RX6 156 RX3 "boxDays" "[I" RX6,
  .fieldLinkNest RX6 165 RX3 "inBoxes" "[I" RX6,
  .fieldLinkNest RX6 169 RX1 "cost" "[I" RX6,
  .fieldLinkNest RX6 175 RX1 "where" "[I" RX6,
  .fieldLinkNest RX6 178 RX1 "title" "[I" RX6,
  .fieldLinkNest RX6 181 RX1 "volume" "[I" RX6,
  .fieldLinkNest RX6 184 RX1 "since" "[I" RX6,
  .fieldLinkNest RX6 187 RX1 "daysToGo" "[I" RX6,
  .fieldLinkNest RX6 190 RX1 "timesLent" "[I" RX6,
  .fieldLinkNest RX6 193 RX3 "rank" "[I" RX6,
  .fieldLinkNest RX6 200 RX5 "had" "[I" RX6,
  .fieldLinkNest RX6 203 RX5 "held" "[I" RX6,
  .fieldLinkNest RX6 209 RX5 "since" "[I" RX6,
  .fieldLinkNest RX6 219 RX2 "wanted" "[I" RX6,
  .fieldLinkNest RX6 222 RX2 "sale" "[I" RX6,
  .fieldLinkNest RX6 237 RX1 "lost" "I" RX6,
  .fieldLinkNest RX6 240 RX1 "inBoxes" "I" RX6,
  .fieldLinkNest RX6 264 RX5 "reader" "[I" RX6,
  .fieldLinkNest RX6 268 RX5 "title" "[I" RX6,
  .methodLinkNest RX6 9 yX4_init RX6,
  .methodLinkNest RX6 18 yX0_init RX6,
  .methodLinkNest RX6 25 yX1_init RX6,
  .methodLinkNest RX6 32 yX3_init RX6,
  .methodLinkNest RX6 39 yX5_init RX6,
  .methodLinkNest RX6 46 yX2_init RX6,
  .methodLinkNest RX6 71 yX4_add RX6,
  .methodLinkNest RX6 75 yX4_has RX6,
  .methodLinkNest RX6 80 yX0_add RX6,
  .methodLinkNest RX6 83 yX4_volumesOf RX6,
  .methodLinkNest RX6 87 yX0_inForce RX6,
  .methodLinkNest RX6 91 yX0_priceAt RX6,
  .methodLinkNest RX6 94 yX1_add RX6,
  .methodLinkNest RX6 97 yX1_isAt RX6,
  .methodLinkNest RX6 101 yX1_leaveFor RX6,
  .methodLinkNest RX6 106 yX3_add RX6,
  .methodLinkNest RX6 109 yX3_has RX6,
  .methodLinkNest RX6 115 yX5_hasOpen RX6,
  .methodLinkNest RX6 118 yX5_add RX6,
  .methodLinkNest RX6 119 yX5_isOpen RX6,
  .methodLinkNest RX6 159 yX1_shelve RX6,
  .methodLinkNest RX6 162 yX1_sendBack RX6,
  .methodLinkNest RX6 168 yX1_has RX6,
  .methodLinkNest RX6 196 yX5_openOf RX6,
  .methodLinkNest RX6 199 yX5_has RX6,
  .methodLinkNest RX6 206 yX5_waits RX6,
  .methodLinkNest RX6 210 yX4_hasVolume RX6,
  .methodLinkNest RX6 213 yX5_waitingFor RX6,
  .methodLinkNest RX6 216 yX1_inHouse RX6,
  .methodLinkNest RX6 228 yX2_setsToBuy RX6,
  .methodLinkNest RX6 231 yX2_mostOf RX6,
  .methodLinkNest RX6 234 yX2_weeksOf RX6,
  .methodLinkNest RX6 242 yX1_comesToday RX6,
  .methodLinkNest RX6 248 yX1_handOver RX6,
  .methodLinkNest RX6 265 yX3_mayTake RX6,
  .methodLinkNest RX6 269 yX1_onShelf RX6,
  .methodLinkNest RX6 272 yX3_rankOf RX6,
  .methodLinkNest RX6 275 yX1_leastOnShelf RX6,
  .methodLinkNest RX6 278 yX1_lend RX6,
  .methodLinkNest RX6 281 yX1_sendOut RX6,
  .methodLinkNest RX6 284 yX3_lateCost RX6,
  .methodLinkNest RX6 285 yX5_countAsHad RX6]
def xIsNest (w : Cond) : Bool := match w with
  | .fieldLinkNest .. => true
  | .methodLinkNest .. => true
  | _ => false
theorem xNest_ok : ∀ w ∈ xNest, xIsNest w = true := by decide +kernel
theorem xNest_on : ∀ w ∈ xNest, w.onTables = true := by decide +kernel
theorem xNest_warm {w : Cond} (hw : xIsNest w = true) {s U : State} (hW : s.WarmedH U.vm) (h : va_Nw w s) : va_Nw w U := by
  cases w <;> first | exact va_Nw.warmF hW h | exact va_Nw.warmM hW h | (cases hw; done)
def tMost : Nat → Int32 := fun j => if j = 0 then 1 else if j = 1 then 3 else 6
def tTerm : Nat → Int32 := fun j => if j = 0 then 7 else if j = 1 then 14 else 28
def tLate : Nat → Int32 := fun j => if j = 0 then 3 else if j = 1 then 2 else 1
def xZ1 (n : String) (f : Nat → Int32) (b : Nat) (A : Nat → Prop) (U : State) : Prop := va_Z "VolumeHouse" n "[I" (.ref b) A U U.heap ∧ va_X b 3 f U U.heap ∧ b < U.heap.size ∧ ¬ A b
def xN (A : Nat → Prop) (U : State) : Prop := (∀ w ∈ xNest, va_Nw w U) ∧ (∃ b, xZ1 "MOST_HELD" tMost b A U) ∧ (∃ b, xZ1 "TERM" tTerm b A U) ∧ (∃ b, xZ1 "LATE_COINS" tLate b A U)
theorem xZ1_same {n : String} {f : Nat → Int32} {b : Nat} {A : Nat → Prop} {U U' : State} (hv : U'.vm = U.vm) (hh : U'.heap = U.heap) (h : xZ1 n f b A U) : xZ1 n f b A U' := by
  obtain ⟨h1, h2, h3, h4⟩ := h
  have ha : U.vm.Alike U'.vm := by rw [hv]; exact Vm.Alike.refl U.vm
  exact ⟨by rw [hh]; exact va_Z.moved ha h1, by rw [hh]; exact va_X.moved ha h2, by rw [hh]; exact h3, h4⟩
theorem xZ1_warm {n : String} {f : Nat → Int32} {b : Nat} {A A' : Nat → Prop} {s U : State} {locs : List Loc} (hS : va_S A s.heap U.heap locs) (hs : ∀ z, A' z → A z) (hW : s.WarmedH U.vm) (h : xZ1 n f b A s) : xZ1 n f b A' U := by
  obtain ⟨h1, h2, h3, h4⟩ := h
  exact ⟨(va_Z.moved hW.alike (va_Z.kept h1 hS.2.1)).narrow hs, va_X.moved hW.alike (va_X.kept h2 (hS.2.1 b h3 h4)), Nat.lt_of_lt_of_le h3 hS.1, fun q => h4 (hs b q)⟩
theorem xOk (cy : ClassId) (a : Nat → Nat) : wOk (cX cy a) xN := by
  refine ⟨fun _ _ => rfl, fun A U U' hv hh h => ?_, fun A A' s U locs hS hs hW h => ?_⟩
  · obtain ⟨h1, ⟨b1, g1⟩, ⟨b2, g2⟩, ⟨b3, g3⟩⟩ := h
    exact ⟨fun w hw => va_Nw.same (xNest_on w hw) hv.symm (h1 w hw), ⟨b1, xZ1_same hv hh g1⟩, ⟨b2, xZ1_same hv hh g2⟩, ⟨b3, xZ1_same hv hh g3⟩⟩
  · obtain ⟨h1, ⟨b1, g1⟩, ⟨b2, g2⟩, ⟨b3, g3⟩⟩ := h
    exact ⟨fun w hw => xNest_warm (xNest_ok w hw) hW (h1 w hw), ⟨b1, xZ1_warm hS hs hW g1⟩, ⟨b2, xZ1_warm hS hs hW g2⟩, ⟨b3, xZ1_warm hS hs hW g3⟩⟩
def mN (_ : Nat → Prop) (_ : State) : Prop := True
theorem mOk (cy : ClassId) (a : Nat → Nat) : wOk (cM cy a) mN := ⟨fun _ _ => rfl, fun _ _ _ _ _ _ => trivial, fun _ _ _ _ _ _ _ _ _ => trivial⟩
end
section
section XSTEPS
variable {p : Program} {l : Launch} {e : Env} {R : Room} {s : State} {m : MethodId} {args : Array Value} {below : List Frame} {meth : Method} {c : Code} {H : Heap} {locs : List Loc} {cells slots : Nat} {Q : State → Prop}
variable {pc : Nat} {ls : Array Slot} {rest : List Value} {A : Nat → Prop} {G : va_G} {cy : ClassId} {a : Nat → Nat} {q : wSt} {cc : ByteArray} {Ts : List Cond}
theorem w_ht {cf : wSt → va_W} {t : State} (ht : t.heap = H) (hP : va_P G vwCl (cf q) H) : va_P G vwCl (cf q) t.heap := by rw [ht]; exact hP
theorem gfX0_9 (hx : p.tables.exec = Jvm.exec) (hb : c.code = cc) (hts : ∀ w ∈ Ts, w.before args s = true) (hin : ∀ w ∈ u_ws RX0 TX0 6, w ∈ Ts) (hown : s.vm.findClass RX0 = some m.cls) (hK : va_K G vwCl [(cy, .int)] s) (hP : va_P G vwCl (cX cy a q) H) (hlink : (Cond.fieldLink RX0 9 RX0 "title" "[I").before args s = true) (hdg : decode cc pc = .ok (.getfield 9, 3))
    (kk : W p l e R s m args below meth c H locs cells slots Q (F0 m (pc + 3) ls (.ref (a 8) :: rest))) : W p l e R s m args below meth c H locs cells slots Q (F0 m pc ls (.ref (a 2) :: rest)) := by
  exact va_get (D := G) (ci := 0) (v := .ref (a 8)) (C := RX0) (T := TX0) (N := 6) hx hb hts hin hown hK hP 2 rfl rfl 0 (by decide) hlink (fun _ h9 => h9) rfl hdg kk
theorem gfX0_27 (hx : p.tables.exec = Jvm.exec) (hb : c.code = cc) (hts : ∀ w ∈ Ts, w.before args s = true) (hin : ∀ w ∈ u_ws RX0 TX0 6, w ∈ Ts) (hown : s.vm.findClass RX0 = some m.cls) (hK : va_K G vwCl [(cy, .int)] s) (hP : va_P G vwCl (cX cy a q) H) (hlink : (Cond.fieldLink RX0 27 RX0 "came" "I").before args s = true) {v : Int32} (hv : q 35 0 = v) (hdg : decode cc pc = .ok (.getfield 27, 3))
    (kk : W p l e R s m args below meth c H locs cells slots Q (F0 m (pc + 3) ls (.int v :: rest))) : W p l e R s m args below meth c H locs cells slots Q (F0 m pc ls (.ref (a 2) :: rest)) := by
  subst hv
  exact va_get (D := G) (ci := 0) (v := .int (q 35 0)) (C := RX0) (T := TX0) (N := 6) hx hb hts hin hown hK hP 2 rfl rfl 5 (by decide) hlink (fun _ h9 => h9) rfl hdg kk
theorem gfX0_15 (hx : p.tables.exec = Jvm.exec) (hb : c.code = cc) (hts : ∀ w ∈ Ts, w.before args s = true) (hin : ∀ w ∈ u_ws RX0 TX0 6, w ∈ Ts) (hown : s.vm.findClass RX0 = some m.cls) (hK : va_K G vwCl [(cy, .int)] s) (hP : va_P G vwCl (cX cy a q) H) (hlink : (Cond.fieldLink RX0 15 RX0 "day" "[I").before args s = true) (hdg : decode cc pc = .ok (.getfield 15, 3))
    (kk : W p l e R s m args below meth c H locs cells slots Q (F0 m (pc + 3) ls (.ref (a 9) :: rest))) : W p l e R s m args below meth c H locs cells slots Q (F0 m pc ls (.ref (a 2) :: rest)) := by
  exact va_get (D := G) (ci := 0) (v := .ref (a 9)) (C := RX0) (T := TX0) (N := 6) hx hb hts hin hown hK hP 2 rfl rfl 1 (by decide) hlink (fun _ h9 => h9) rfl hdg kk
theorem gfX0_18 (hx : p.tables.exec = Jvm.exec) (hb : c.code = cc) (hts : ∀ w ∈ Ts, w.before args s = true) (hin : ∀ w ∈ u_ws RX0 TX0 6, w ∈ Ts) (hown : s.vm.findClass RX0 = some m.cls) (hK : va_K G vwCl [(cy, .int)] s) (hP : va_P G vwCl (cX cy a q) H) (hlink : (Cond.fieldLink RX0 18 RX0 "atFirstPrice" "[I").before args s = true) (hdg : decode cc pc = .ok (.getfield 18, 3))
    (kk : W p l e R s m args below meth c H locs cells slots Q (F0 m (pc + 3) ls (.ref (a 10) :: rest))) : W p l e R s m args below meth c H locs cells slots Q (F0 m pc ls (.ref (a 2) :: rest)) := by
  exact va_get (D := G) (ci := 0) (v := .ref (a 10)) (C := RX0) (T := TX0) (N := 6) hx hb hts hin hown hK hP 2 rfl rfl 2 (by decide) hlink (fun _ h9 => h9) rfl hdg kk
theorem gfX0_21 (hx : p.tables.exec = Jvm.exec) (hb : c.code = cc) (hts : ∀ w ∈ Ts, w.before args s = true) (hin : ∀ w ∈ u_ws RX0 TX0 6, w ∈ Ts) (hown : s.vm.findClass RX0 = some m.cls) (hK : va_K G vwCl [(cy, .int)] s) (hP : va_P G vwCl (cX cy a q) H) (hlink : (Cond.fieldLink RX0 21 RX0 "price" "[I").before args s = true) (hdg : decode cc pc = .ok (.getfield 21, 3))
    (kk : W p l e R s m args below meth c H locs cells slots Q (F0 m (pc + 3) ls (.ref (a 11) :: rest))) : W p l e R s m args below meth c H locs cells slots Q (F0 m pc ls (.ref (a 2) :: rest)) := by
  exact va_get (D := G) (ci := 0) (v := .ref (a 11)) (C := RX0) (T := TX0) (N := 6) hx hb hts hin hown hK hP 2 rfl rfl 3 (by decide) hlink (fun _ h9 => h9) rfl hdg kk
theorem gfX0_24 (hx : p.tables.exec = Jvm.exec) (hb : c.code = cc) (hts : ∀ w ∈ Ts, w.before args s = true) (hin : ∀ w ∈ u_ws RX0 TX0 6, w ∈ Ts) (hown : s.vm.findClass RX0 = some m.cls) (hK : va_K G vwCl [(cy, .int)] s) (hP : va_P G vwCl (cX cy a q) H) (hlink : (Cond.fieldLink RX0 24 RX0 "priceBeyond" "[I").before args s = true) (hdg : decode cc pc = .ok (.getfield 24, 3))
    (kk : W p l e R s m args below meth c H locs cells slots Q (F0 m (pc + 3) ls (.ref (a 12) :: rest))) : W p l e R s m args below meth c H locs cells slots Q (F0 m pc ls (.ref (a 2) :: rest)) := by
  exact va_get (D := G) (ci := 0) (v := .ref (a 12)) (C := RX0) (T := TX0) (N := 6) hx hb hts hin hown hK hP 2 rfl rfl 4 (by decide) hlink (fun _ h9 => h9) rfl hdg kk
theorem pfX0_27 (hx : p.tables.exec = Jvm.exec) (hb : c.code = cc) (hts : ∀ w ∈ Ts, w.before args s = true) (hin : ∀ w ∈ u_ws RX0 TX0 6, w ∈ Ts) (hown : s.vm.findClass RX0 = some m.cls) (hK : va_K G vwCl [(cy, .int)] s) (hP : va_P G vwCl (cX cy a q) H) (hD : ∀ q : wSt, va_D A (cX cy a q)) (hS : va_S A s.heap H locs) (hlink : (Cond.fieldLink RX0 27 RX0 "came" "I").before args s = true) {v : Int32} (hdg : decode cc pc = .ok (.putfield 27, 3))
    (kk : ∀ (H1 : Heap) (locs1 : List Loc), va_P G vwCl (cX cy a (rset q 35 (fun _ => v))) H1 → va_S A s.heap H1 locs1 → W p l e R s m args below meth c H1 locs1 cells slots Q (F0 m (pc + 3) ls rest)) : W p l e R s m args below meth c H locs cells slots Q (F0 m pc ls (.int v :: .ref (a 2) :: rest)) :=
  va_put (D := G) (ci := 0) (v := .int v) (ty := .int) (C := RX0) (T := TX0) (N := 6) hx hb hts hin tyX0 tyX0_ok nmX0 hown hK hP (hD _) hS 2 rfl rfl 5 (by decide) hlink (fun _ h9 => h9) rfl (by decide +kernel) rfl rfl (Nat.le_of_ble_eq_true rfl) hdg (fun H1 locs1 h1 _ h3 => kk H1 locs1 h1 h3)
theorem gfX1_42 (hx : p.tables.exec = Jvm.exec) (hb : c.code = cc) (hts : ∀ w ∈ Ts, w.before args s = true) (hin : ∀ w ∈ u_ws RX1 TX1 13, w ∈ Ts) (hown : s.vm.findClass RX1 = some m.cls) (hK : va_K G vwCl [(cy, .int)] s) (hP : va_P G vwCl (cX cy a q) H) (hlink : (Cond.fieldLink RX1 42 RX1 "came" "I").before args s = true) {v : Int32} (hv : q 36 0 = v) (hdg : decode cc pc = .ok (.getfield 42, 3))
    (kk : W p l e R s m args below meth c H locs cells slots Q (F0 m (pc + 3) ls (.int v :: rest))) : W p l e R s m args below meth c H locs cells slots Q (F0 m pc ls (.ref (a 3) :: rest)) := by
  subst hv
  exact va_get (D := G) (ci := 1) (v := .int (q 36 0)) (C := RX1) (T := TX1) (N := 13) hx hb hts hin hown hK hP 3 rfl rfl 10 (by decide) hlink (fun _ h9 => h9) rfl hdg kk
theorem gfX1_9 (hx : p.tables.exec = Jvm.exec) (hb : c.code = cc) (hts : ∀ w ∈ Ts, w.before args s = true) (hin : ∀ w ∈ u_ws RX1 TX1 13, w ∈ Ts) (hown : s.vm.findClass RX1 = some m.cls) (hK : va_K G vwCl [(cy, .int)] s) (hP : va_P G vwCl (cX cy a q) H) (hlink : (Cond.fieldLink RX1 9 RX1 "where" "[I").before args s = true) (hdg : decode cc pc = .ok (.getfield 9, 3))
    (kk : W p l e R s m args below meth c H locs cells slots Q (F0 m (pc + 3) ls (.ref (a 13) :: rest))) : W p l e R s m args below meth c H locs cells slots Q (F0 m pc ls (.ref (a 3) :: rest)) := by
  exact va_get (D := G) (ci := 1) (v := .ref (a 13)) (C := RX1) (T := TX1) (N := 13) hx hb hts hin hown hK hP 3 rfl rfl 0 (by decide) hlink (fun _ h9 => h9) rfl hdg kk
theorem pfX1_42 (hx : p.tables.exec = Jvm.exec) (hb : c.code = cc) (hts : ∀ w ∈ Ts, w.before args s = true) (hin : ∀ w ∈ u_ws RX1 TX1 13, w ∈ Ts) (hown : s.vm.findClass RX1 = some m.cls) (hK : va_K G vwCl [(cy, .int)] s) (hP : va_P G vwCl (cX cy a q) H) (hD : ∀ q : wSt, va_D A (cX cy a q)) (hS : va_S A s.heap H locs) (hlink : (Cond.fieldLink RX1 42 RX1 "came" "I").before args s = true) {v : Int32} (hdg : decode cc pc = .ok (.putfield 42, 3))
    (kk : ∀ (H1 : Heap) (locs1 : List Loc), va_P G vwCl (cX cy a (rset q 36 (fun _ => v))) H1 → va_S A s.heap H1 locs1 → W p l e R s m args below meth c H1 locs1 cells slots Q (F0 m (pc + 3) ls rest)) : W p l e R s m args below meth c H locs cells slots Q (F0 m pc ls (.int v :: .ref (a 3) :: rest)) :=
  va_put (D := G) (ci := 1) (v := .int v) (ty := .int) (C := RX1) (T := TX1) (N := 13) hx hb hts hin tyX1 tyX1_ok nmX1 hown hK hP (hD _) hS 3 rfl rfl 10 (by decide) hlink (fun _ h9 => h9) rfl (by decide +kernel) rfl rfl (Nat.le_of_ble_eq_true rfl) hdg (fun H1 locs1 h1 _ h3 => kk H1 locs1 h1 h3)
theorem gfX1_15 (hx : p.tables.exec = Jvm.exec) (hb : c.code = cc) (hts : ∀ w ∈ Ts, w.before args s = true) (hin : ∀ w ∈ u_ws RX1 TX1 13, w ∈ Ts) (hown : s.vm.findClass RX1 = some m.cls) (hK : va_K G vwCl [(cy, .int)] s) (hP : va_P G vwCl (cX cy a q) H) (hlink : (Cond.fieldLink RX1 15 RX1 "title" "[I").before args s = true) (hdg : decode cc pc = .ok (.getfield 15, 3))
    (kk : W p l e R s m args below meth c H locs cells slots Q (F0 m (pc + 3) ls (.ref (a 14) :: rest))) : W p l e R s m args below meth c H locs cells slots Q (F0 m pc ls (.ref (a 3) :: rest)) := by
  exact va_get (D := G) (ci := 1) (v := .ref (a 14)) (C := RX1) (T := TX1) (N := 13) hx hb hts hin hown hK hP 3 rfl rfl 1 (by decide) hlink (fun _ h9 => h9) rfl hdg kk
theorem gfX1_18 (hx : p.tables.exec = Jvm.exec) (hb : c.code = cc) (hts : ∀ w ∈ Ts, w.before args s = true) (hin : ∀ w ∈ u_ws RX1 TX1 13, w ∈ Ts) (hown : s.vm.findClass RX1 = some m.cls) (hK : va_K G vwCl [(cy, .int)] s) (hP : va_P G vwCl (cX cy a q) H) (hlink : (Cond.fieldLink RX1 18 RX1 "volume" "[I").before args s = true) (hdg : decode cc pc = .ok (.getfield 18, 3))
    (kk : W p l e R s m args below meth c H locs cells slots Q (F0 m (pc + 3) ls (.ref (a 15) :: rest))) : W p l e R s m args below meth c H locs cells slots Q (F0 m pc ls (.ref (a 3) :: rest)) := by
  exact va_get (D := G) (ci := 1) (v := .ref (a 15)) (C := RX1) (T := TX1) (N := 13) hx hb hts hin hown hK hP 3 rfl rfl 2 (by decide) hlink (fun _ h9 => h9) rfl hdg kk
theorem gfX1_21 (hx : p.tables.exec = Jvm.exec) (hb : c.code = cc) (hts : ∀ w ∈ Ts, w.before args s = true) (hin : ∀ w ∈ u_ws RX1 TX1 13, w ∈ Ts) (hown : s.vm.findClass RX1 = some m.cls) (hK : va_K G vwCl [(cy, .int)] s) (hP : va_P G vwCl (cX cy a q) H) (hlink : (Cond.fieldLink RX1 21 RX1 "cost" "[I").before args s = true) (hdg : decode cc pc = .ok (.getfield 21, 3))
    (kk : W p l e R s m args below meth c H locs cells slots Q (F0 m (pc + 3) ls (.ref (a 16) :: rest))) : W p l e R s m args below meth c H locs cells slots Q (F0 m pc ls (.ref (a 3) :: rest)) := by
  exact va_get (D := G) (ci := 1) (v := .ref (a 16)) (C := RX1) (T := TX1) (N := 13) hx hb hts hin hown hK hP 3 rfl rfl 3 (by decide) hlink (fun _ h9 => h9) rfl hdg kk
theorem gfX1_36 (hx : p.tables.exec = Jvm.exec) (hb : c.code = cc) (hts : ∀ w ∈ Ts, w.before args s = true) (hin : ∀ w ∈ u_ws RX1 TX1 13, w ∈ Ts) (hown : s.vm.findClass RX1 = some m.cls) (hK : va_K G vwCl [(cy, .int)] s) (hP : va_P G vwCl (cX cy a q) H) (hlink : (Cond.fieldLink RX1 36 RX1 "timesLent" "[I").before args s = true) (hdg : decode cc pc = .ok (.getfield 36, 3))
    (kk : W p l e R s m args below meth c H locs cells slots Q (F0 m (pc + 3) ls (.ref (a 21) :: rest))) : W p l e R s m args below meth c H locs cells slots Q (F0 m pc ls (.ref (a 3) :: rest)) := by
  exact va_get (D := G) (ci := 1) (v := .ref (a 21)) (C := RX1) (T := TX1) (N := 13) hx hb hts hin hown hK hP 3 rfl rfl 8 (by decide) hlink (fun _ h9 => h9) rfl hdg kk
theorem gfX1_39 (hx : p.tables.exec = Jvm.exec) (hb : c.code = cc) (hts : ∀ w ∈ Ts, w.before args s = true) (hin : ∀ w ∈ u_ws RX1 TX1 13, w ∈ Ts) (hown : s.vm.findClass RX1 = some m.cls) (hK : va_K G vwCl [(cy, .int)] s) (hP : va_P G vwCl (cX cy a q) H) (hlink : (Cond.fieldLink RX1 39 RX1 "shelved" "[I").before args s = true) (hdg : decode cc pc = .ok (.getfield 39, 3))
    (kk : W p l e R s m args below meth c H locs cells slots Q (F0 m (pc + 3) ls (.ref (a 22) :: rest))) : W p l e R s m args below meth c H locs cells slots Q (F0 m pc ls (.ref (a 3) :: rest)) := by
  exact va_get (D := G) (ci := 1) (v := .ref (a 22)) (C := RX1) (T := TX1) (N := 13) hx hb hts hin hown hK hP 3 rfl rfl 9 (by decide) hlink (fun _ h9 => h9) rfl hdg kk
theorem gfX1_24 (hx : p.tables.exec = Jvm.exec) (hb : c.code = cc) (hts : ∀ w ∈ Ts, w.before args s = true) (hin : ∀ w ∈ u_ws RX1 TX1 13, w ∈ Ts) (hown : s.vm.findClass RX1 = some m.cls) (hK : va_K G vwCl [(cy, .int)] s) (hP : va_P G vwCl (cX cy a q) H) (hlink : (Cond.fieldLink RX1 24 RX1 "reader" "[I").before args s = true) (hdg : decode cc pc = .ok (.getfield 24, 3))
    (kk : W p l e R s m args below meth c H locs cells slots Q (F0 m (pc + 3) ls (.ref (a 17) :: rest))) : W p l e R s m args below meth c H locs cells slots Q (F0 m pc ls (.ref (a 3) :: rest)) := by
  exact va_get (D := G) (ci := 1) (v := .ref (a 17)) (C := RX1) (T := TX1) (N := 13) hx hb hts hin hown hK hP 3 rfl rfl 4 (by decide) hlink (fun _ h9 => h9) rfl hdg kk
theorem gfX1_27 (hx : p.tables.exec = Jvm.exec) (hb : c.code = cc) (hts : ∀ w ∈ Ts, w.before args s = true) (hin : ∀ w ∈ u_ws RX1 TX1 13, w ∈ Ts) (hown : s.vm.findClass RX1 = some m.cls) (hK : va_K G vwCl [(cy, .int)] s) (hP : va_P G vwCl (cX cy a q) H) (hlink : (Cond.fieldLink RX1 27 RX1 "wish" "[I").before args s = true) (hdg : decode cc pc = .ok (.getfield 27, 3))
    (kk : W p l e R s m args below meth c H locs cells slots Q (F0 m (pc + 3) ls (.ref (a 18) :: rest))) : W p l e R s m args below meth c H locs cells slots Q (F0 m pc ls (.ref (a 3) :: rest)) := by
  exact va_get (D := G) (ci := 1) (v := .ref (a 18)) (C := RX1) (T := TX1) (N := 13) hx hb hts hin hown hK hP 3 rfl rfl 5 (by decide) hlink (fun _ h9 => h9) rfl hdg kk
theorem gfX1_30 (hx : p.tables.exec = Jvm.exec) (hb : c.code = cc) (hts : ∀ w ∈ Ts, w.before args s = true) (hin : ∀ w ∈ u_ws RX1 TX1 13, w ∈ Ts) (hown : s.vm.findClass RX1 = some m.cls) (hK : va_K G vwCl [(cy, .int)] s) (hP : va_P G vwCl (cX cy a q) H) (hlink : (Cond.fieldLink RX1 30 RX1 "since" "[I").before args s = true) (hdg : decode cc pc = .ok (.getfield 30, 3))
    (kk : W p l e R s m args below meth c H locs cells slots Q (F0 m (pc + 3) ls (.ref (a 19) :: rest))) : W p l e R s m args below meth c H locs cells slots Q (F0 m pc ls (.ref (a 3) :: rest)) := by
  exact va_get (D := G) (ci := 1) (v := .ref (a 19)) (C := RX1) (T := TX1) (N := 13) hx hb hts hin hown hK hP 3 rfl rfl 6 (by decide) hlink (fun _ h9 => h9) rfl hdg kk
theorem gfX1_33 (hx : p.tables.exec = Jvm.exec) (hb : c.code = cc) (hts : ∀ w ∈ Ts, w.before args s = true) (hin : ∀ w ∈ u_ws RX1 TX1 13, w ∈ Ts) (hown : s.vm.findClass RX1 = some m.cls) (hK : va_K G vwCl [(cy, .int)] s) (hP : va_P G vwCl (cX cy a q) H) (hlink : (Cond.fieldLink RX1 33 RX1 "daysToGo" "[I").before args s = true) (hdg : decode cc pc = .ok (.getfield 33, 3))
    (kk : W p l e R s m args below meth c H locs cells slots Q (F0 m (pc + 3) ls (.ref (a 20) :: rest))) : W p l e R s m args below meth c H locs cells slots Q (F0 m pc ls (.ref (a 3) :: rest)) := by
  exact va_get (D := G) (ci := 1) (v := .ref (a 20)) (C := RX1) (T := TX1) (N := 13) hx hb hts hin hown hK hP 3 rfl rfl 7 (by decide) hlink (fun _ h9 => h9) rfl hdg kk
theorem gfX1_46 (hx : p.tables.exec = Jvm.exec) (hb : c.code = cc) (hts : ∀ w ∈ Ts, w.before args s = true) (hin : ∀ w ∈ u_ws RX1 TX1 13, w ∈ Ts) (hown : s.vm.findClass RX1 = some m.cls) (hK : va_K G vwCl [(cy, .int)] s) (hP : va_P G vwCl (cX cy a q) H) (hlink : (Cond.fieldLink RX1 46 RX1 "inBoxes" "I").before args s = true) {v : Int32} (hv : q 37 0 = v) (hdg : decode cc pc = .ok (.getfield 46, 3))
    (kk : W p l e R s m args below meth c H locs cells slots Q (F0 m (pc + 3) ls (.int v :: rest))) : W p l e R s m args below meth c H locs cells slots Q (F0 m pc ls (.ref (a 3) :: rest)) := by
  subst hv
  exact va_get (D := G) (ci := 1) (v := .int (q 37 0)) (C := RX1) (T := TX1) (N := 13) hx hb hts hin hown hK hP 3 rfl rfl 11 (by decide) hlink (fun _ h9 => h9) rfl hdg kk
theorem pfX1_46 (hx : p.tables.exec = Jvm.exec) (hb : c.code = cc) (hts : ∀ w ∈ Ts, w.before args s = true) (hin : ∀ w ∈ u_ws RX1 TX1 13, w ∈ Ts) (hown : s.vm.findClass RX1 = some m.cls) (hK : va_K G vwCl [(cy, .int)] s) (hP : va_P G vwCl (cX cy a q) H) (hD : ∀ q : wSt, va_D A (cX cy a q)) (hS : va_S A s.heap H locs) (hlink : (Cond.fieldLink RX1 46 RX1 "inBoxes" "I").before args s = true) {v : Int32} (hdg : decode cc pc = .ok (.putfield 46, 3))
    (kk : ∀ (H1 : Heap) (locs1 : List Loc), va_P G vwCl (cX cy a (rset q 37 (fun _ => v))) H1 → va_S A s.heap H1 locs1 → W p l e R s m args below meth c H1 locs1 cells slots Q (F0 m (pc + 3) ls rest)) : W p l e R s m args below meth c H locs cells slots Q (F0 m pc ls (.int v :: .ref (a 3) :: rest)) :=
  va_put (D := G) (ci := 1) (v := .int v) (ty := .int) (C := RX1) (T := TX1) (N := 13) hx hb hts hin tyX1 tyX1_ok nmX1 hown hK hP (hD _) hS 3 rfl rfl 11 (by decide) hlink (fun _ h9 => h9) rfl (by decide +kernel) rfl rfl (Nat.le_of_ble_eq_true rfl) hdg (fun H1 locs1 h1 _ h3 => kk H1 locs1 h1 h3)
theorem gfX1_49 (hx : p.tables.exec = Jvm.exec) (hb : c.code = cc) (hts : ∀ w ∈ Ts, w.before args s = true) (hin : ∀ w ∈ u_ws RX1 TX1 13, w ∈ Ts) (hown : s.vm.findClass RX1 = some m.cls) (hK : va_K G vwCl [(cy, .int)] s) (hP : va_P G vwCl (cX cy a q) H) (hlink : (Cond.fieldLink RX1 49 RX1 "lost" "I").before args s = true) {v : Int32} (hv : q 38 0 = v) (hdg : decode cc pc = .ok (.getfield 49, 3))
    (kk : W p l e R s m args below meth c H locs cells slots Q (F0 m (pc + 3) ls (.int v :: rest))) : W p l e R s m args below meth c H locs cells slots Q (F0 m pc ls (.ref (a 3) :: rest)) := by
  subst hv
  exact va_get (D := G) (ci := 1) (v := .int (q 38 0)) (C := RX1) (T := TX1) (N := 13) hx hb hts hin hown hK hP 3 rfl rfl 12 (by decide) hlink (fun _ h9 => h9) rfl hdg kk
theorem pfX1_49 (hx : p.tables.exec = Jvm.exec) (hb : c.code = cc) (hts : ∀ w ∈ Ts, w.before args s = true) (hin : ∀ w ∈ u_ws RX1 TX1 13, w ∈ Ts) (hown : s.vm.findClass RX1 = some m.cls) (hK : va_K G vwCl [(cy, .int)] s) (hP : va_P G vwCl (cX cy a q) H) (hD : ∀ q : wSt, va_D A (cX cy a q)) (hS : va_S A s.heap H locs) (hlink : (Cond.fieldLink RX1 49 RX1 "lost" "I").before args s = true) {v : Int32} (hdg : decode cc pc = .ok (.putfield 49, 3))
    (kk : ∀ (H1 : Heap) (locs1 : List Loc), va_P G vwCl (cX cy a (rset q 38 (fun _ => v))) H1 → va_S A s.heap H1 locs1 → W p l e R s m args below meth c H1 locs1 cells slots Q (F0 m (pc + 3) ls rest)) : W p l e R s m args below meth c H locs cells slots Q (F0 m pc ls (.int v :: .ref (a 3) :: rest)) :=
  va_put (D := G) (ci := 1) (v := .int v) (ty := .int) (C := RX1) (T := TX1) (N := 13) hx hb hts hin tyX1 tyX1_ok nmX1 hown hK hP (hD _) hS 3 rfl rfl 12 (by decide) hlink (fun _ h9 => h9) rfl (by decide +kernel) rfl rfl (Nat.le_of_ble_eq_true rfl) hdg (fun H1 locs1 h1 _ h3 => kk H1 locs1 h1 h3)
theorem gfX2_15 (hx : p.tables.exec = Jvm.exec) (hb : c.code = cc) (hts : ∀ w ∈ Ts, w.before args s = true) (hin : ∀ w ∈ u_ws RX2 TX2 2, w ∈ Ts) (hown : s.vm.findClass RX2 = some m.cls) (hK : va_K G vwCl [(cy, .int)] s) (hP : va_P G vwCl (cX cy a q) H) (hlink : (Cond.fieldLink RX2 15 RX2 "sale" "[I").before args s = true) (hdg : decode cc pc = .ok (.getfield 15, 3))
    (kk : W p l e R s m args below meth c H locs cells slots Q (F0 m (pc + 3) ls (.ref (a 36) :: rest))) : W p l e R s m args below meth c H locs cells slots Q (F0 m pc ls (.ref (a 6) :: rest)) := by
  exact va_get (D := G) (ci := 2) (v := .ref (a 36)) (C := RX2) (T := TX2) (N := 2) hx hb hts hin hown hK hP 6 rfl rfl 1 (by decide) hlink (fun _ h9 => h9) rfl hdg kk
theorem gfX2_9 (hx : p.tables.exec = Jvm.exec) (hb : c.code = cc) (hts : ∀ w ∈ Ts, w.before args s = true) (hin : ∀ w ∈ u_ws RX2 TX2 2, w ∈ Ts) (hown : s.vm.findClass RX2 = some m.cls) (hK : va_K G vwCl [(cy, .int)] s) (hP : va_P G vwCl (cX cy a q) H) (hlink : (Cond.fieldLink RX2 9 RX2 "wanted" "[I").before args s = true) (hdg : decode cc pc = .ok (.getfield 9, 3))
    (kk : W p l e R s m args below meth c H locs cells slots Q (F0 m (pc + 3) ls (.ref (a 35) :: rest))) : W p l e R s m args below meth c H locs cells slots Q (F0 m pc ls (.ref (a 6) :: rest)) := by
  exact va_get (D := G) (ci := 2) (v := .ref (a 35)) (C := RX2) (T := TX2) (N := 2) hx hb hts hin hown hK hP 6 rfl rfl 0 (by decide) hlink (fun _ h9 => h9) rfl hdg kk
theorem gfX3_30 (hx : p.tables.exec = Jvm.exec) (hb : c.code = cc) (hts : ∀ w ∈ Ts, w.before args s = true) (hin : ∀ w ∈ u_ws RX3 TX3 7, w ∈ Ts) (hown : s.vm.findClass RX3 = some m.cls) (hK : va_K G vwCl [(cy, .int)] s) (hP : va_P G vwCl (cX cy a q) H) (hlink : (Cond.fieldLink RX3 30 RX3 "came" "I").before args s = true) {v : Int32} (hv : q 39 0 = v) (hdg : decode cc pc = .ok (.getfield 30, 3))
    (kk : W p l e R s m args below meth c H locs cells slots Q (F0 m (pc + 3) ls (.int v :: rest))) : W p l e R s m args below meth c H locs cells slots Q (F0 m pc ls (.ref (a 4) :: rest)) := by
  subst hv
  exact va_get (D := G) (ci := 3) (v := .int (q 39 0)) (C := RX3) (T := TX3) (N := 7) hx hb hts hin hown hK hP 4 rfl rfl 6 (by decide) hlink (fun _ h9 => h9) rfl hdg kk
theorem gfX3_9 (hx : p.tables.exec = Jvm.exec) (hb : c.code = cc) (hts : ∀ w ∈ Ts, w.before args s = true) (hin : ∀ w ∈ u_ws RX3 TX3 7, w ∈ Ts) (hown : s.vm.findClass RX3 = some m.cls) (hK : va_K G vwCl [(cy, .int)] s) (hP : va_P G vwCl (cX cy a q) H) (hlink : (Cond.fieldLink RX3 9 RX3 "rank" "[I").before args s = true) (hdg : decode cc pc = .ok (.getfield 9, 3))
    (kk : W p l e R s m args below meth c H locs cells slots Q (F0 m (pc + 3) ls (.ref (a 23) :: rest))) : W p l e R s m args below meth c H locs cells slots Q (F0 m pc ls (.ref (a 4) :: rest)) := by
  exact va_get (D := G) (ci := 3) (v := .ref (a 23)) (C := RX3) (T := TX3) (N := 7) hx hb hts hin hown hK hP 4 rfl rfl 0 (by decide) hlink (fun _ h9 => h9) rfl hdg kk
theorem gfX3_15 (hx : p.tables.exec = Jvm.exec) (hb : c.code = cc) (hts : ∀ w ∈ Ts, w.before args s = true) (hin : ∀ w ∈ u_ws RX3 TX3 7, w ∈ Ts) (hown : s.vm.findClass RX3 = some m.cls) (hK : va_K G vwCl [(cy, .int)] s) (hP : va_P G vwCl (cX cy a q) H) (hlink : (Cond.fieldLink RX3 15 RX3 "boxDays" "[I").before args s = true) (hdg : decode cc pc = .ok (.getfield 15, 3))
    (kk : W p l e R s m args below meth c H locs cells slots Q (F0 m (pc + 3) ls (.ref (a 24) :: rest))) : W p l e R s m args below meth c H locs cells slots Q (F0 m pc ls (.ref (a 4) :: rest)) := by
  exact va_get (D := G) (ci := 3) (v := .ref (a 24)) (C := RX3) (T := TX3) (N := 7) hx hb hts hin hown hK hP 4 rfl rfl 1 (by decide) hlink (fun _ h9 => h9) rfl hdg kk
theorem gfX3_18 (hx : p.tables.exec = Jvm.exec) (hb : c.code = cc) (hts : ∀ w ∈ Ts, w.before args s = true) (hin : ∀ w ∈ u_ws RX3 TX3 7, w ∈ Ts) (hown : s.vm.findClass RX3 = some m.cls) (hK : va_K G vwCl [(cy, .int)] s) (hP : va_P G vwCl (cX cy a q) H) (hlink : (Cond.fieldLink RX3 18 RX3 "last" "[I").before args s = true) (hdg : decode cc pc = .ok (.getfield 18, 3))
    (kk : W p l e R s m args below meth c H locs cells slots Q (F0 m (pc + 3) ls (.ref (a 25) :: rest))) : W p l e R s m args below meth c H locs cells slots Q (F0 m pc ls (.ref (a 4) :: rest)) := by
  exact va_get (D := G) (ci := 3) (v := .ref (a 25)) (C := RX3) (T := TX3) (N := 7) hx hb hts hin hown hK hP 4 rfl rfl 2 (by decide) hlink (fun _ h9 => h9) rfl hdg kk
theorem pfX3_30 (hx : p.tables.exec = Jvm.exec) (hb : c.code = cc) (hts : ∀ w ∈ Ts, w.before args s = true) (hin : ∀ w ∈ u_ws RX3 TX3 7, w ∈ Ts) (hown : s.vm.findClass RX3 = some m.cls) (hK : va_K G vwCl [(cy, .int)] s) (hP : va_P G vwCl (cX cy a q) H) (hD : ∀ q : wSt, va_D A (cX cy a q)) (hS : va_S A s.heap H locs) (hlink : (Cond.fieldLink RX3 30 RX3 "came" "I").before args s = true) {v : Int32} (hdg : decode cc pc = .ok (.putfield 30, 3))
    (kk : ∀ (H1 : Heap) (locs1 : List Loc), va_P G vwCl (cX cy a (rset q 39 (fun _ => v))) H1 → va_S A s.heap H1 locs1 → W p l e R s m args below meth c H1 locs1 cells slots Q (F0 m (pc + 3) ls rest)) : W p l e R s m args below meth c H locs cells slots Q (F0 m pc ls (.int v :: .ref (a 4) :: rest)) :=
  va_put (D := G) (ci := 3) (v := .int v) (ty := .int) (C := RX3) (T := TX3) (N := 7) hx hb hts hin tyX3 tyX3_ok nmX3 hown hK hP (hD _) hS 4 rfl rfl 6 (by decide) hlink (fun _ h9 => h9) rfl (by decide +kernel) rfl rfl (Nat.le_of_ble_eq_true rfl) hdg (fun H1 locs1 h1 _ h3 => kk H1 locs1 h1 h3)
theorem gfX3_24 (hx : p.tables.exec = Jvm.exec) (hb : c.code = cc) (hts : ∀ w ∈ Ts, w.before args s = true) (hin : ∀ w ∈ u_ws RX3 TX3 7, w ∈ Ts) (hown : s.vm.findClass RX3 = some m.cls) (hK : va_K G vwCl [(cy, .int)] s) (hP : va_P G vwCl (cX cy a q) H) (hlink : (Cond.fieldLink RX3 24 RX3 "inHand" "[I").before args s = true) (hdg : decode cc pc = .ok (.getfield 24, 3))
    (kk : W p l e R s m args below meth c H locs cells slots Q (F0 m (pc + 3) ls (.ref (a 27) :: rest))) : W p l e R s m args below meth c H locs cells slots Q (F0 m pc ls (.ref (a 4) :: rest)) := by
  exact va_get (D := G) (ci := 3) (v := .ref (a 27)) (C := RX3) (T := TX3) (N := 7) hx hb hts hin hown hK hP 4 rfl rfl 4 (by decide) hlink (fun _ h9 => h9) rfl hdg kk
theorem gfX3_27 (hx : p.tables.exec = Jvm.exec) (hb : c.code = cc) (hts : ∀ w ∈ Ts, w.before args s = true) (hin : ∀ w ∈ u_ws RX3 TX3 7, w ∈ Ts) (hown : s.vm.findClass RX3 = some m.cls) (hK : va_K G vwCl [(cy, .int)] s) (hP : va_P G vwCl (cX cy a q) H) (hlink : (Cond.fieldLink RX3 27 RX3 "inBoxes" "[I").before args s = true) (hdg : decode cc pc = .ok (.getfield 27, 3))
    (kk : W p l e R s m args below meth c H locs cells slots Q (F0 m (pc + 3) ls (.ref (a 28) :: rest))) : W p l e R s m args below meth c H locs cells slots Q (F0 m pc ls (.ref (a 4) :: rest)) := by
  exact va_get (D := G) (ci := 3) (v := .ref (a 28)) (C := RX3) (T := TX3) (N := 7) hx hb hts hin hown hK hP 4 rfl rfl 5 (by decide) hlink (fun _ h9 => h9) rfl hdg kk
theorem gfX4_15 (hx : p.tables.exec = Jvm.exec) (hb : c.code = cc) (hts : ∀ w ∈ Ts, w.before args s = true) (hin : ∀ w ∈ u_ws RX4 TX4 2, w ∈ Ts) (hown : s.vm.findClass RX4 = some m.cls) (hK : va_K G vwCl [(cy, .int)] s) (hP : va_P G vwCl (cX cy a q) H) (hlink : (Cond.fieldLink RX4 15 RX4 "came" "I").before args s = true) {v : Int32} (hv : q 34 0 = v) (hdg : decode cc pc = .ok (.getfield 15, 3))
    (kk : W p l e R s m args below meth c H locs cells slots Q (F0 m (pc + 3) ls (.int v :: rest))) : W p l e R s m args below meth c H locs cells slots Q (F0 m pc ls (.ref (a 1) :: rest)) := by
  subst hv
  exact va_get (D := G) (ci := 4) (v := .int (q 34 0)) (C := RX4) (T := TX4) (N := 2) hx hb hts hin hown hK hP 1 rfl rfl 1 (by decide) hlink (fun _ h9 => h9) rfl hdg kk
theorem gfX4_9 (hx : p.tables.exec = Jvm.exec) (hb : c.code = cc) (hts : ∀ w ∈ Ts, w.before args s = true) (hin : ∀ w ∈ u_ws RX4 TX4 2, w ∈ Ts) (hown : s.vm.findClass RX4 = some m.cls) (hK : va_K G vwCl [(cy, .int)] s) (hP : va_P G vwCl (cX cy a q) H) (hlink : (Cond.fieldLink RX4 9 RX4 "volumes" "[I").before args s = true) (hdg : decode cc pc = .ok (.getfield 9, 3))
    (kk : W p l e R s m args below meth c H locs cells slots Q (F0 m (pc + 3) ls (.ref (a 7) :: rest))) : W p l e R s m args below meth c H locs cells slots Q (F0 m pc ls (.ref (a 1) :: rest)) := by
  exact va_get (D := G) (ci := 4) (v := .ref (a 7)) (C := RX4) (T := TX4) (N := 2) hx hb hts hin hown hK hP 1 rfl rfl 0 (by decide) hlink (fun _ h9 => h9) rfl hdg kk
theorem pfX4_15 (hx : p.tables.exec = Jvm.exec) (hb : c.code = cc) (hts : ∀ w ∈ Ts, w.before args s = true) (hin : ∀ w ∈ u_ws RX4 TX4 2, w ∈ Ts) (hown : s.vm.findClass RX4 = some m.cls) (hK : va_K G vwCl [(cy, .int)] s) (hP : va_P G vwCl (cX cy a q) H) (hD : ∀ q : wSt, va_D A (cX cy a q)) (hS : va_S A s.heap H locs) (hlink : (Cond.fieldLink RX4 15 RX4 "came" "I").before args s = true) {v : Int32} (hdg : decode cc pc = .ok (.putfield 15, 3))
    (kk : ∀ (H1 : Heap) (locs1 : List Loc), va_P G vwCl (cX cy a (rset q 34 (fun _ => v))) H1 → va_S A s.heap H1 locs1 → W p l e R s m args below meth c H1 locs1 cells slots Q (F0 m (pc + 3) ls rest)) : W p l e R s m args below meth c H locs cells slots Q (F0 m pc ls (.int v :: .ref (a 1) :: rest)) :=
  va_put (D := G) (ci := 4) (v := .int v) (ty := .int) (C := RX4) (T := TX4) (N := 2) hx hb hts hin tyX4 tyX4_ok nmX4 hown hK hP (hD _) hS 1 rfl rfl 1 (by decide) hlink (fun _ h9 => h9) rfl (by decide +kernel) rfl rfl (Nat.le_of_ble_eq_true rfl) hdg (fun H1 locs1 h1 _ h3 => kk H1 locs1 h1 h3)
theorem gfX5_30 (hx : p.tables.exec = Jvm.exec) (hb : c.code = cc) (hts : ∀ w ∈ Ts, w.before args s = true) (hin : ∀ w ∈ u_ws RX5 TX5 7, w ∈ Ts) (hown : s.vm.findClass RX5 = some m.cls) (hK : va_K G vwCl [(cy, .int)] s) (hP : va_P G vwCl (cX cy a q) H) (hlink : (Cond.fieldLink RX5 30 RX5 "came" "I").before args s = true) {v : Int32} (hv : q 40 0 = v) (hdg : decode cc pc = .ok (.getfield 30, 3))
    (kk : W p l e R s m args below meth c H locs cells slots Q (F0 m (pc + 3) ls (.int v :: rest))) : W p l e R s m args below meth c H locs cells slots Q (F0 m pc ls (.ref (a 5) :: rest)) := by
  subst hv
  exact va_get (D := G) (ci := 5) (v := .int (q 40 0)) (C := RX5) (T := TX5) (N := 7) hx hb hts hin hown hK hP 5 rfl rfl 6 (by decide) hlink (fun _ h9 => h9) rfl hdg kk
theorem gfX5_18 (hx : p.tables.exec = Jvm.exec) (hb : c.code = cc) (hts : ∀ w ∈ Ts, w.before args s = true) (hin : ∀ w ∈ u_ws RX5 TX5 7, w ∈ Ts) (hown : s.vm.findClass RX5 = some m.cls) (hK : va_K G vwCl [(cy, .int)] s) (hP : va_P G vwCl (cX cy a q) H) (hlink : (Cond.fieldLink RX5 18 RX5 "state" "[I").before args s = true) (hdg : decode cc pc = .ok (.getfield 18, 3))
    (kk : W p l e R s m args below meth c H locs cells slots Q (F0 m (pc + 3) ls (.ref (a 31) :: rest))) : W p l e R s m args below meth c H locs cells slots Q (F0 m pc ls (.ref (a 5) :: rest)) := by
  exact va_get (D := G) (ci := 5) (v := .ref (a 31)) (C := RX5) (T := TX5) (N := 7) hx hb hts hin hown hK hP 5 rfl rfl 2 (by decide) hlink (fun _ h9 => h9) rfl hdg kk
theorem gfX5_24 (hx : p.tables.exec = Jvm.exec) (hb : c.code = cc) (hts : ∀ w ∈ Ts, w.before args s = true) (hin : ∀ w ∈ u_ws RX5 TX5 7, w ∈ Ts) (hown : s.vm.findClass RX5 = some m.cls) (hK : va_K G vwCl [(cy, .int)] s) (hP : va_P G vwCl (cX cy a q) H) (hlink : (Cond.fieldLink RX5 24 RX5 "held" "[I").before args s = true) (hdg : decode cc pc = .ok (.getfield 24, 3))
    (kk : W p l e R s m args below meth c H locs cells slots Q (F0 m (pc + 3) ls (.ref (a 33) :: rest))) : W p l e R s m args below meth c H locs cells slots Q (F0 m pc ls (.ref (a 5) :: rest)) := by
  exact va_get (D := G) (ci := 5) (v := .ref (a 33)) (C := RX5) (T := TX5) (N := 7) hx hb hts hin hown hK hP 5 rfl rfl 4 (by decide) hlink (fun _ h9 => h9) rfl hdg kk
theorem pfX5_30 (hx : p.tables.exec = Jvm.exec) (hb : c.code = cc) (hts : ∀ w ∈ Ts, w.before args s = true) (hin : ∀ w ∈ u_ws RX5 TX5 7, w ∈ Ts) (hown : s.vm.findClass RX5 = some m.cls) (hK : va_K G vwCl [(cy, .int)] s) (hP : va_P G vwCl (cX cy a q) H) (hD : ∀ q : wSt, va_D A (cX cy a q)) (hS : va_S A s.heap H locs) (hlink : (Cond.fieldLink RX5 30 RX5 "came" "I").before args s = true) {v : Int32} (hdg : decode cc pc = .ok (.putfield 30, 3))
    (kk : ∀ (H1 : Heap) (locs1 : List Loc), va_P G vwCl (cX cy a (rset q 40 (fun _ => v))) H1 → va_S A s.heap H1 locs1 → W p l e R s m args below meth c H1 locs1 cells slots Q (F0 m (pc + 3) ls rest)) : W p l e R s m args below meth c H locs cells slots Q (F0 m pc ls (.int v :: .ref (a 5) :: rest)) :=
  va_put (D := G) (ci := 5) (v := .int v) (ty := .int) (C := RX5) (T := TX5) (N := 7) hx hb hts hin tyX5 tyX5_ok nmX5 hown hK hP (hD _) hS 5 rfl rfl 6 (by decide) hlink (fun _ h9 => h9) rfl (by decide +kernel) rfl rfl (Nat.le_of_ble_eq_true rfl) hdg (fun H1 locs1 h1 _ h3 => kk H1 locs1 h1 h3)
theorem gfX5_9 (hx : p.tables.exec = Jvm.exec) (hb : c.code = cc) (hts : ∀ w ∈ Ts, w.before args s = true) (hin : ∀ w ∈ u_ws RX5 TX5 7, w ∈ Ts) (hown : s.vm.findClass RX5 = some m.cls) (hK : va_K G vwCl [(cy, .int)] s) (hP : va_P G vwCl (cX cy a q) H) (hlink : (Cond.fieldLink RX5 9 RX5 "reader" "[I").before args s = true) (hdg : decode cc pc = .ok (.getfield 9, 3))
    (kk : W p l e R s m args below meth c H locs cells slots Q (F0 m (pc + 3) ls (.ref (a 29) :: rest))) : W p l e R s m args below meth c H locs cells slots Q (F0 m pc ls (.ref (a 5) :: rest)) := by
  exact va_get (D := G) (ci := 5) (v := .ref (a 29)) (C := RX5) (T := TX5) (N := 7) hx hb hts hin hown hK hP 5 rfl rfl 0 (by decide) hlink (fun _ h9 => h9) rfl hdg kk
theorem gfX5_15 (hx : p.tables.exec = Jvm.exec) (hb : c.code = cc) (hts : ∀ w ∈ Ts, w.before args s = true) (hin : ∀ w ∈ u_ws RX5 TX5 7, w ∈ Ts) (hown : s.vm.findClass RX5 = some m.cls) (hK : va_K G vwCl [(cy, .int)] s) (hP : va_P G vwCl (cX cy a q) H) (hlink : (Cond.fieldLink RX5 15 RX5 "title" "[I").before args s = true) (hdg : decode cc pc = .ok (.getfield 15, 3))
    (kk : W p l e R s m args below meth c H locs cells slots Q (F0 m (pc + 3) ls (.ref (a 30) :: rest))) : W p l e R s m args below meth c H locs cells slots Q (F0 m pc ls (.ref (a 5) :: rest)) := by
  exact va_get (D := G) (ci := 5) (v := .ref (a 30)) (C := RX5) (T := TX5) (N := 7) hx hb hts hin hown hK hP 5 rfl rfl 1 (by decide) hlink (fun _ h9 => h9) rfl hdg kk
theorem gfX5_21 (hx : p.tables.exec = Jvm.exec) (hb : c.code = cc) (hts : ∀ w ∈ Ts, w.before args s = true) (hin : ∀ w ∈ u_ws RX5 TX5 7, w ∈ Ts) (hown : s.vm.findClass RX5 = some m.cls) (hK : va_K G vwCl [(cy, .int)] s) (hP : va_P G vwCl (cX cy a q) H) (hlink : (Cond.fieldLink RX5 21 RX5 "had" "[I").before args s = true) (hdg : decode cc pc = .ok (.getfield 21, 3))
    (kk : W p l e R s m args below meth c H locs cells slots Q (F0 m (pc + 3) ls (.ref (a 32) :: rest))) : W p l e R s m args below meth c H locs cells slots Q (F0 m pc ls (.ref (a 5) :: rest)) := by
  exact va_get (D := G) (ci := 5) (v := .ref (a 32)) (C := RX5) (T := TX5) (N := 7) hx hb hts hin hown hK hP 5 rfl rfl 3 (by decide) hlink (fun _ h9 => h9) rfl hdg kk
theorem gfX5_27 (hx : p.tables.exec = Jvm.exec) (hb : c.code = cc) (hts : ∀ w ∈ Ts, w.before args s = true) (hin : ∀ w ∈ u_ws RX5 TX5 7, w ∈ Ts) (hown : s.vm.findClass RX5 = some m.cls) (hK : va_K G vwCl [(cy, .int)] s) (hP : va_P G vwCl (cX cy a q) H) (hlink : (Cond.fieldLink RX5 27 RX5 "since" "[I").before args s = true) (hdg : decode cc pc = .ok (.getfield 27, 3))
    (kk : W p l e R s m args below meth c H locs cells slots Q (F0 m (pc + 3) ls (.ref (a 34) :: rest))) : W p l e R s m args below meth c H locs cells slots Q (F0 m pc ls (.ref (a 5) :: rest)) := by
  exact va_get (D := G) (ci := 5) (v := .ref (a 34)) (C := RX5) (T := TX5) (N := 7) hx hb hts hin hown hK hP 5 rfl rfl 5 (by decide) hlink (fun _ h9 => h9) rfl hdg kk
theorem gfX6_10 (hx : p.tables.exec = Jvm.exec) (hb : c.code = cc) (hts : ∀ w ∈ Ts, w.before args s = true) (hin : ∀ w ∈ u_ws RX6 TX6 10, w ∈ Ts) (hown : s.vm.findClass RX6 = some m.cls) (hK : va_K G vwCl [(cy, .int)] s) (hP : va_P G vwCl (cX cy a q) H) (hlink : (Cond.fieldLink RX6 10 RX6 "titles" "LVolumeHouse$Titles;").before args s = true) (hdg : decode cc pc = .ok (.getfield 10, 3))
    (kk : W p l e R s m args below meth c H locs cells slots Q (F0 m (pc + 3) ls (.ref (a 1) :: rest))) : W p l e R s m args below meth c H locs cells slots Q (F0 m pc ls (.ref (a 0) :: rest)) := by
  exact va_get (D := G) (ci := 6) (v := .ref (a 1)) (C := RX6) (T := TX6) (N := 10) hx hb hts hin hown hK hP 0 rfl rfl 0 (by decide) hlink (fun _ h9 => h9) rfl hdg kk
theorem gfX6_68 (hx : p.tables.exec = Jvm.exec) (hb : c.code = cc) (hts : ∀ w ∈ Ts, w.before args s = true) (hin : ∀ w ∈ u_ws RX4 TX4 2, w ∈ Ts) (hown : s.vm.findClass RX6 = some m.cls) (hK : va_K G vwCl [(cy, .int)] s) (hP : va_P G vwCl (cX cy a q) H) (hlink : va_Nw (.fieldLinkNest RX6 68 RX4 "came" "I" RX6) s) {v : Int32} (hv : q 34 0 = v) (hdg : decode cc pc = .ok (.getfield 68, 3))
    (kk : W p l e R s m args below meth c H locs cells slots Q (F0 m (pc + 3) ls (.int v :: rest))) : W p l e R s m args below meth c H locs cells slots Q (F0 m pc ls (.ref (a 1) :: rest)) := by
  subst hv
  exact va_getN (D := G) (ci := 4) (v := .int (q 34 0)) (C := RX4) (T := TX4) (N := 2) hx hb hts hin hown hK hP 1 rfl rfl 1 (by decide) (va_Nw.use rfl hlink) (fun _ h9 => h9) rfl hdg kk
theorem gfX6_19 (hx : p.tables.exec = Jvm.exec) (hb : c.code = cc) (hts : ∀ w ∈ Ts, w.before args s = true) (hin : ∀ w ∈ u_ws RX6 TX6 10, w ∈ Ts) (hown : s.vm.findClass RX6 = some m.cls) (hK : va_K G vwCl [(cy, .int)] s) (hP : va_P G vwCl (cX cy a q) H) (hlink : (Cond.fieldLink RX6 19 RX6 "bargains" "LVolumeHouse$Bargains;").before args s = true) (hdg : decode cc pc = .ok (.getfield 19, 3))
    (kk : W p l e R s m args below meth c H locs cells slots Q (F0 m (pc + 3) ls (.ref (a 2) :: rest))) : W p l e R s m args below meth c H locs cells slots Q (F0 m pc ls (.ref (a 0) :: rest)) := by
  exact va_get (D := G) (ci := 6) (v := .ref (a 2)) (C := RX6) (T := TX6) (N := 10) hx hb hts hin hown hK hP 0 rfl rfl 1 (by decide) hlink (fun _ h9 => h9) rfl hdg kk
theorem gfX6_79 (hx : p.tables.exec = Jvm.exec) (hb : c.code = cc) (hts : ∀ w ∈ Ts, w.before args s = true) (hin : ∀ w ∈ u_ws RX0 TX0 6, w ∈ Ts) (hown : s.vm.findClass RX6 = some m.cls) (hK : va_K G vwCl [(cy, .int)] s) (hP : va_P G vwCl (cX cy a q) H) (hlink : va_Nw (.fieldLinkNest RX6 79 RX0 "came" "I" RX6) s) {v : Int32} (hv : q 35 0 = v) (hdg : decode cc pc = .ok (.getfield 79, 3))
    (kk : W p l e R s m args below meth c H locs cells slots Q (F0 m (pc + 3) ls (.int v :: rest))) : W p l e R s m args below meth c H locs cells slots Q (F0 m pc ls (.ref (a 2) :: rest)) := by
  subst hv
  exact va_getN (D := G) (ci := 0) (v := .int (q 35 0)) (C := RX0) (T := TX0) (N := 6) hx hb hts hin hown hK hP 2 rfl rfl 5 (by decide) (va_Nw.use rfl hlink) (fun _ h9 => h9) rfl hdg kk
theorem gfX6_26 (hx : p.tables.exec = Jvm.exec) (hb : c.code = cc) (hts : ∀ w ∈ Ts, w.before args s = true) (hin : ∀ w ∈ u_ws RX6 TX6 10, w ∈ Ts) (hown : s.vm.findClass RX6 = some m.cls) (hK : va_K G vwCl [(cy, .int)] s) (hP : va_P G vwCl (cX cy a q) H) (hlink : (Cond.fieldLink RX6 26 RX6 "copies" "LVolumeHouse$Copies;").before args s = true) (hdg : decode cc pc = .ok (.getfield 26, 3))
    (kk : W p l e R s m args below meth c H locs cells slots Q (F0 m (pc + 3) ls (.ref (a 3) :: rest))) : W p l e R s m args below meth c H locs cells slots Q (F0 m pc ls (.ref (a 0) :: rest)) := by
  exact va_get (D := G) (ci := 6) (v := .ref (a 3)) (C := RX6) (T := TX6) (N := 10) hx hb hts hin hown hK hP 0 rfl rfl 2 (by decide) hlink (fun _ h9 => h9) rfl hdg kk
theorem gfX6_86 (hx : p.tables.exec = Jvm.exec) (hb : c.code = cc) (hts : ∀ w ∈ Ts, w.before args s = true) (hin : ∀ w ∈ u_ws RX1 TX1 13, w ∈ Ts) (hown : s.vm.findClass RX6 = some m.cls) (hK : va_K G vwCl [(cy, .int)] s) (hP : va_P G vwCl (cX cy a q) H) (hlink : va_Nw (.fieldLinkNest RX6 86 RX1 "came" "I" RX6) s) {v : Int32} (hv : q 36 0 = v) (hdg : decode cc pc = .ok (.getfield 86, 3))
    (kk : W p l e R s m args below meth c H locs cells slots Q (F0 m (pc + 3) ls (.int v :: rest))) : W p l e R s m args below meth c H locs cells slots Q (F0 m pc ls (.ref (a 3) :: rest)) := by
  subst hv
  exact va_getN (D := G) (ci := 1) (v := .int (q 36 0)) (C := RX1) (T := TX1) (N := 13) hx hb hts hin hown hK hP 3 rfl rfl 10 (by decide) (va_Nw.use rfl hlink) (fun _ h9 => h9) rfl hdg kk
theorem gfX6_51 (hx : p.tables.exec = Jvm.exec) (hb : c.code = cc) (hts : ∀ w ∈ Ts, w.before args s = true) (hin : ∀ w ∈ u_ws RX6 TX6 10, w ∈ Ts) (hown : s.vm.findClass RX6 = some m.cls) (hK : va_K G vwCl [(cy, .int)] s) (hP : va_P G vwCl (cX cy a q) H) (hlink : (Cond.fieldLink RX6 51 RX6 "now" "I").before args s = true) {v : Int32} (hv : q 30 0 = v) (hdg : decode cc pc = .ok (.getfield 51, 3))
    (kk : W p l e R s m args below meth c H locs cells slots Q (F0 m (pc + 3) ls (.int v :: rest))) : W p l e R s m args below meth c H locs cells slots Q (F0 m pc ls (.ref (a 0) :: rest)) := by
  subst hv
  exact va_get (D := G) (ci := 6) (v := .int (q 30 0)) (C := RX6) (T := TX6) (N := 10) hx hb hts hin hown hK hP 0 rfl rfl 6 (by decide) hlink (fun _ h9 => h9) rfl hdg kk
theorem gfX6_55 (hx : p.tables.exec = Jvm.exec) (hb : c.code = cc) (hts : ∀ w ∈ Ts, w.before args s = true) (hin : ∀ w ∈ u_ws RX6 TX6 10, w ∈ Ts) (hown : s.vm.findClass RX6 = some m.cls) (hK : va_K G vwCl [(cy, .int)] s) (hP : va_P G vwCl (cX cy a q) H) (hlink : (Cond.fieldLink RX6 55 RX6 "spent" "I").before args s = true) {v : Int32} (hv : q 31 0 = v) (hdg : decode cc pc = .ok (.getfield 55, 3))
    (kk : W p l e R s m args below meth c H locs cells slots Q (F0 m (pc + 3) ls (.int v :: rest))) : W p l e R s m args below meth c H locs cells slots Q (F0 m pc ls (.ref (a 0) :: rest)) := by
  subst hv
  exact va_get (D := G) (ci := 6) (v := .int (q 31 0)) (C := RX6) (T := TX6) (N := 10) hx hb hts hin hown hK hP 0 rfl rfl 7 (by decide) hlink (fun _ h9 => h9) rfl hdg kk
theorem pfX6_55 (hx : p.tables.exec = Jvm.exec) (hb : c.code = cc) (hts : ∀ w ∈ Ts, w.before args s = true) (hin : ∀ w ∈ u_ws RX6 TX6 10, w ∈ Ts) (hown : s.vm.findClass RX6 = some m.cls) (hK : va_K G vwCl [(cy, .int)] s) (hP : va_P G vwCl (cX cy a q) H) (hD : ∀ q : wSt, va_D A (cX cy a q)) (hS : va_S A s.heap H locs) (hlink : (Cond.fieldLink RX6 55 RX6 "spent" "I").before args s = true) {v : Int32} (hdg : decode cc pc = .ok (.putfield 55, 3))
    (kk : ∀ (H1 : Heap) (locs1 : List Loc), va_P G vwCl (cX cy a (rset q 31 (fun _ => v))) H1 → va_S A s.heap H1 locs1 → W p l e R s m args below meth c H1 locs1 cells slots Q (F0 m (pc + 3) ls rest)) : W p l e R s m args below meth c H locs cells slots Q (F0 m pc ls (.int v :: .ref (a 0) :: rest)) :=
  va_put (D := G) (ci := 6) (v := .int v) (ty := .int) (C := RX6) (T := TX6) (N := 10) hx hb hts hin tyX6 tyX6_ok nmX6 hown hK hP (hD _) hS 0 rfl rfl 7 (by decide) hlink (fun _ h9 => h9) rfl (by decide +kernel) rfl rfl (Nat.le_of_ble_eq_true rfl) hdg (fun H1 locs1 h1 _ h3 => kk H1 locs1 h1 h3)
theorem gfX6_58 (hx : p.tables.exec = Jvm.exec) (hb : c.code = cc) (hts : ∀ w ∈ Ts, w.before args s = true) (hin : ∀ w ∈ u_ws RX6 TX6 10, w ∈ Ts) (hown : s.vm.findClass RX6 = some m.cls) (hK : va_K G vwCl [(cy, .int)] s) (hP : va_P G vwCl (cX cy a q) H) (hlink : (Cond.fieldLink RX6 58 RX6 "earned" "I").before args s = true) {v : Int32} (hv : q 32 0 = v) (hdg : decode cc pc = .ok (.getfield 58, 3))
    (kk : W p l e R s m args below meth c H locs cells slots Q (F0 m (pc + 3) ls (.int v :: rest))) : W p l e R s m args below meth c H locs cells slots Q (F0 m pc ls (.ref (a 0) :: rest)) := by
  subst hv
  exact va_get (D := G) (ci := 6) (v := .int (q 32 0)) (C := RX6) (T := TX6) (N := 10) hx hb hts hin hown hK hP 0 rfl rfl 8 (by decide) hlink (fun _ h9 => h9) rfl hdg kk
theorem pfX6_58 (hx : p.tables.exec = Jvm.exec) (hb : c.code = cc) (hts : ∀ w ∈ Ts, w.before args s = true) (hin : ∀ w ∈ u_ws RX6 TX6 10, w ∈ Ts) (hown : s.vm.findClass RX6 = some m.cls) (hK : va_K G vwCl [(cy, .int)] s) (hP : va_P G vwCl (cX cy a q) H) (hD : ∀ q : wSt, va_D A (cX cy a q)) (hS : va_S A s.heap H locs) (hlink : (Cond.fieldLink RX6 58 RX6 "earned" "I").before args s = true) {v : Int32} (hdg : decode cc pc = .ok (.putfield 58, 3))
    (kk : ∀ (H1 : Heap) (locs1 : List Loc), va_P G vwCl (cX cy a (rset q 32 (fun _ => v))) H1 → va_S A s.heap H1 locs1 → W p l e R s m args below meth c H1 locs1 cells slots Q (F0 m (pc + 3) ls rest)) : W p l e R s m args below meth c H locs cells slots Q (F0 m pc ls (.int v :: .ref (a 0) :: rest)) :=
  va_put (D := G) (ci := 6) (v := .int v) (ty := .int) (C := RX6) (T := TX6) (N := 10) hx hb hts hin tyX6 tyX6_ok nmX6 hown hK hP (hD _) hS 0 rfl rfl 8 (by decide) hlink (fun _ h9 => h9) rfl (by decide +kernel) rfl rfl (Nat.le_of_ble_eq_true rfl) hdg (fun H1 locs1 h1 _ h3 => kk H1 locs1 h1 h3)
theorem gfX6_33 (hx : p.tables.exec = Jvm.exec) (hb : c.code = cc) (hts : ∀ w ∈ Ts, w.before args s = true) (hin : ∀ w ∈ u_ws RX6 TX6 10, w ∈ Ts) (hown : s.vm.findClass RX6 = some m.cls) (hK : va_K G vwCl [(cy, .int)] s) (hP : va_P G vwCl (cX cy a q) H) (hlink : (Cond.fieldLink RX6 33 RX6 "readers" "LVolumeHouse$Readers;").before args s = true) (hdg : decode cc pc = .ok (.getfield 33, 3))
    (kk : W p l e R s m args below meth c H locs cells slots Q (F0 m (pc + 3) ls (.ref (a 4) :: rest))) : W p l e R s m args below meth c H locs cells slots Q (F0 m pc ls (.ref (a 0) :: rest)) := by
  exact va_get (D := G) (ci := 6) (v := .ref (a 4)) (C := RX6) (T := TX6) (N := 10) hx hb hts hin hown hK hP 0 rfl rfl 3 (by decide) hlink (fun _ h9 => h9) rfl hdg kk
theorem gfX6_105 (hx : p.tables.exec = Jvm.exec) (hb : c.code = cc) (hts : ∀ w ∈ Ts, w.before args s = true) (hin : ∀ w ∈ u_ws RX3 TX3 7, w ∈ Ts) (hown : s.vm.findClass RX6 = some m.cls) (hK : va_K G vwCl [(cy, .int)] s) (hP : va_P G vwCl (cX cy a q) H) (hlink : va_Nw (.fieldLinkNest RX6 105 RX3 "came" "I" RX6) s) {v : Int32} (hv : q 39 0 = v) (hdg : decode cc pc = .ok (.getfield 105, 3))
    (kk : W p l e R s m args below meth c H locs cells slots Q (F0 m (pc + 3) ls (.int v :: rest))) : W p l e R s m args below meth c H locs cells slots Q (F0 m pc ls (.ref (a 4) :: rest)) := by
  subst hv
  exact va_getN (D := G) (ci := 3) (v := .int (q 39 0)) (C := RX3) (T := TX3) (N := 7) hx hb hts hin hown hK hP 4 rfl rfl 6 (by decide) (va_Nw.use rfl hlink) (fun _ h9 => h9) rfl hdg kk
theorem gfX6_110 (hx : p.tables.exec = Jvm.exec) (hb : c.code = cc) (hts : ∀ w ∈ Ts, w.before args s = true) (hin : ∀ w ∈ u_ws RX3 TX3 7, w ∈ Ts) (hown : s.vm.findClass RX6 = some m.cls) (hK : va_K G vwCl [(cy, .int)] s) (hP : va_P G vwCl (cX cy a q) H) (hlink : va_Nw (.fieldLinkNest RX6 110 RX3 "last" "[I" RX6) s) (hdg : decode cc pc = .ok (.getfield 110, 3))
    (kk : W p l e R s m args below meth c H locs cells slots Q (F0 m (pc + 3) ls (.ref (a 25) :: rest))) : W p l e R s m args below meth c H locs cells slots Q (F0 m pc ls (.ref (a 4) :: rest)) := by
  exact va_getN (D := G) (ci := 3) (v := .ref (a 25)) (C := RX3) (T := TX3) (N := 7) hx hb hts hin hown hK hP 4 rfl rfl 2 (by decide) (va_Nw.use rfl hlink) (fun _ h9 => h9) rfl hdg kk
theorem gfX6_40 (hx : p.tables.exec = Jvm.exec) (hb : c.code = cc) (hts : ∀ w ∈ Ts, w.before args s = true) (hin : ∀ w ∈ u_ws RX6 TX6 10, w ∈ Ts) (hown : s.vm.findClass RX6 = some m.cls) (hK : va_K G vwCl [(cy, .int)] s) (hP : va_P G vwCl (cX cy a q) H) (hlink : (Cond.fieldLink RX6 40 RX6 "wishes" "LVolumeHouse$Wishes;").before args s = true) (hdg : decode cc pc = .ok (.getfield 40, 3))
    (kk : W p l e R s m args below meth c H locs cells slots Q (F0 m (pc + 3) ls (.ref (a 5) :: rest))) : W p l e R s m args below meth c H locs cells slots Q (F0 m pc ls (.ref (a 0) :: rest)) := by
  exact va_get (D := G) (ci := 6) (v := .ref (a 5)) (C := RX6) (T := TX6) (N := 10) hx hb hts hin hown hK hP 0 rfl rfl 4 (by decide) hlink (fun _ h9 => h9) rfl hdg kk
theorem gfX6_114 (hx : p.tables.exec = Jvm.exec) (hb : c.code = cc) (hts : ∀ w ∈ Ts, w.before args s = true) (hin : ∀ w ∈ u_ws RX5 TX5 7, w ∈ Ts) (hown : s.vm.findClass RX6 = some m.cls) (hK : va_K G vwCl [(cy, .int)] s) (hP : va_P G vwCl (cX cy a q) H) (hlink : va_Nw (.fieldLinkNest RX6 114 RX5 "came" "I" RX6) s) {v : Int32} (hv : q 40 0 = v) (hdg : decode cc pc = .ok (.getfield 114, 3))
    (kk : W p l e R s m args below meth c H locs cells slots Q (F0 m (pc + 3) ls (.int v :: rest))) : W p l e R s m args below meth c H locs cells slots Q (F0 m pc ls (.ref (a 5) :: rest)) := by
  subst hv
  exact va_getN (D := G) (ci := 5) (v := .int (q 40 0)) (C := RX5) (T := TX5) (N := 7) hx hb hts hin hown hK hP 5 rfl rfl 6 (by decide) (va_Nw.use rfl hlink) (fun _ h9 => h9) rfl hdg kk
theorem gfX6_122 (hx : p.tables.exec = Jvm.exec) (hb : c.code = cc) (hts : ∀ w ∈ Ts, w.before args s = true) (hin : ∀ w ∈ u_ws RX5 TX5 7, w ∈ Ts) (hown : s.vm.findClass RX6 = some m.cls) (hK : va_K G vwCl [(cy, .int)] s) (hP : va_P G vwCl (cX cy a q) H) (hlink : va_Nw (.fieldLinkNest RX6 122 RX5 "state" "[I" RX6) s) (hdg : decode cc pc = .ok (.getfield 122, 3))
    (kk : W p l e R s m args below meth c H locs cells slots Q (F0 m (pc + 3) ls (.ref (a 31) :: rest))) : W p l e R s m args below meth c H locs cells slots Q (F0 m pc ls (.ref (a 5) :: rest)) := by
  exact va_getN (D := G) (ci := 5) (v := .ref (a 31)) (C := RX5) (T := TX5) (N := 7) hx hb hts hin hown hK hP 5 rfl rfl 2 (by decide) (va_Nw.use rfl hlink) (fun _ h9 => h9) rfl hdg kk
theorem pfX6_51 (hx : p.tables.exec = Jvm.exec) (hb : c.code = cc) (hts : ∀ w ∈ Ts, w.before args s = true) (hin : ∀ w ∈ u_ws RX6 TX6 10, w ∈ Ts) (hown : s.vm.findClass RX6 = some m.cls) (hK : va_K G vwCl [(cy, .int)] s) (hP : va_P G vwCl (cX cy a q) H) (hD : ∀ q : wSt, va_D A (cX cy a q)) (hS : va_S A s.heap H locs) (hlink : (Cond.fieldLink RX6 51 RX6 "now" "I").before args s = true) {v : Int32} (hdg : decode cc pc = .ok (.putfield 51, 3))
    (kk : ∀ (H1 : Heap) (locs1 : List Loc), va_P G vwCl (cX cy a (rset q 30 (fun _ => v))) H1 → va_S A s.heap H1 locs1 → W p l e R s m args below meth c H1 locs1 cells slots Q (F0 m (pc + 3) ls rest)) : W p l e R s m args below meth c H locs cells slots Q (F0 m pc ls (.int v :: .ref (a 0) :: rest)) :=
  va_put (D := G) (ci := 6) (v := .int v) (ty := .int) (C := RX6) (T := TX6) (N := 10) hx hb hts hin tyX6 tyX6_ok nmX6 hown hK hP (hD _) hS 0 rfl rfl 6 (by decide) hlink (fun _ h9 => h9) rfl (by decide +kernel) rfl rfl (Nat.le_of_ble_eq_true rfl) hdg (fun H1 locs1 h1 _ h3 => kk H1 locs1 h1 h3)
theorem gfX6_137 (hx : p.tables.exec = Jvm.exec) (hb : c.code = cc) (hts : ∀ w ∈ Ts, w.before args s = true) (hin : ∀ w ∈ u_ws RX1 TX1 13, w ∈ Ts) (hown : s.vm.findClass RX6 = some m.cls) (hK : va_K G vwCl [(cy, .int)] s) (hP : va_P G vwCl (cX cy a q) H) (hlink : va_Nw (.fieldLinkNest RX6 137 RX1 "reader" "[I" RX6) s) (hdg : decode cc pc = .ok (.getfield 137, 3))
    (kk : W p l e R s m args below meth c H locs cells slots Q (F0 m (pc + 3) ls (.ref (a 17) :: rest))) : W p l e R s m args below meth c H locs cells slots Q (F0 m pc ls (.ref (a 3) :: rest)) := by
  exact va_getN (D := G) (ci := 1) (v := .ref (a 17)) (C := RX1) (T := TX1) (N := 13) hx hb hts hin hown hK hP 3 rfl rfl 4 (by decide) (va_Nw.use rfl hlink) (fun _ h9 => h9) rfl hdg kk
theorem gfX6_143 (hx : p.tables.exec = Jvm.exec) (hb : c.code = cc) (hts : ∀ w ∈ Ts, w.before args s = true) (hin : ∀ w ∈ u_ws RX3 TX3 7, w ∈ Ts) (hown : s.vm.findClass RX6 = some m.cls) (hK : va_K G vwCl [(cy, .int)] s) (hP : va_P G vwCl (cX cy a q) H) (hlink : va_Nw (.fieldLinkNest RX6 143 RX3 "owed" "[I" RX6) s) (hdg : decode cc pc = .ok (.getfield 143, 3))
    (kk : W p l e R s m args below meth c H locs cells slots Q (F0 m (pc + 3) ls (.ref (a 26) :: rest))) : W p l e R s m args below meth c H locs cells slots Q (F0 m pc ls (.ref (a 4) :: rest)) := by
  exact va_getN (D := G) (ci := 3) (v := .ref (a 26)) (C := RX3) (T := TX3) (N := 7) hx hb hts hin hown hK hP 4 rfl rfl 3 (by decide) (va_Nw.use rfl hlink) (fun _ h9 => h9) rfl hdg kk
theorem gfX6_146 (hx : p.tables.exec = Jvm.exec) (hb : c.code = cc) (hts : ∀ w ∈ Ts, w.before args s = true) (hin : ∀ w ∈ u_ws RX1 TX1 13, w ∈ Ts) (hown : s.vm.findClass RX6 = some m.cls) (hK : va_K G vwCl [(cy, .int)] s) (hP : va_P G vwCl (cX cy a q) H) (hlink : va_Nw (.fieldLinkNest RX6 146 RX1 "wish" "[I" RX6) s) (hdg : decode cc pc = .ok (.getfield 146, 3))
    (kk : W p l e R s m args below meth c H locs cells slots Q (F0 m (pc + 3) ls (.ref (a 18) :: rest))) : W p l e R s m args below meth c H locs cells slots Q (F0 m pc ls (.ref (a 3) :: rest)) := by
  exact va_getN (D := G) (ci := 1) (v := .ref (a 18)) (C := RX1) (T := TX1) (N := 13) hx hb hts hin hown hK hP 3 rfl rfl 5 (by decide) (va_Nw.use rfl hlink) (fun _ h9 => h9) rfl hdg kk
theorem gfX6_153 (hx : p.tables.exec = Jvm.exec) (hb : c.code = cc) (hts : ∀ w ∈ Ts, w.before args s = true) (hin : ∀ w ∈ u_ws RX3 TX3 7, w ∈ Ts) (hown : s.vm.findClass RX6 = some m.cls) (hK : va_K G vwCl [(cy, .int)] s) (hP : va_P G vwCl (cX cy a q) H) (hlink : va_Nw (.fieldLinkNest RX6 153 RX3 "inHand" "[I" RX6) s) (hdg : decode cc pc = .ok (.getfield 153, 3))
    (kk : W p l e R s m args below meth c H locs cells slots Q (F0 m (pc + 3) ls (.ref (a 27) :: rest))) : W p l e R s m args below meth c H locs cells slots Q (F0 m pc ls (.ref (a 4) :: rest)) := by
  exact va_getN (D := G) (ci := 3) (v := .ref (a 27)) (C := RX3) (T := TX3) (N := 7) hx hb hts hin hown hK hP 4 rfl rfl 4 (by decide) (va_Nw.use rfl hlink) (fun _ h9 => h9) rfl hdg kk
theorem gfX6_156 (hx : p.tables.exec = Jvm.exec) (hb : c.code = cc) (hts : ∀ w ∈ Ts, w.before args s = true) (hin : ∀ w ∈ u_ws RX3 TX3 7, w ∈ Ts) (hown : s.vm.findClass RX6 = some m.cls) (hK : va_K G vwCl [(cy, .int)] s) (hP : va_P G vwCl (cX cy a q) H) (hlink : va_Nw (.fieldLinkNest RX6 156 RX3 "boxDays" "[I" RX6) s) (hdg : decode cc pc = .ok (.getfield 156, 3))
    (kk : W p l e R s m args below meth c H locs cells slots Q (F0 m (pc + 3) ls (.ref (a 24) :: rest))) : W p l e R s m args below meth c H locs cells slots Q (F0 m pc ls (.ref (a 4) :: rest)) := by
  exact va_getN (D := G) (ci := 3) (v := .ref (a 24)) (C := RX3) (T := TX3) (N := 7) hx hb hts hin hown hK hP 4 rfl rfl 1 (by decide) (va_Nw.use rfl hlink) (fun _ h9 => h9) rfl hdg kk
theorem gfX6_165 (hx : p.tables.exec = Jvm.exec) (hb : c.code = cc) (hts : ∀ w ∈ Ts, w.before args s = true) (hin : ∀ w ∈ u_ws RX3 TX3 7, w ∈ Ts) (hown : s.vm.findClass RX6 = some m.cls) (hK : va_K G vwCl [(cy, .int)] s) (hP : va_P G vwCl (cX cy a q) H) (hlink : va_Nw (.fieldLinkNest RX6 165 RX3 "inBoxes" "[I" RX6) s) (hdg : decode cc pc = .ok (.getfield 165, 3))
    (kk : W p l e R s m args below meth c H locs cells slots Q (F0 m (pc + 3) ls (.ref (a 28) :: rest))) : W p l e R s m args below meth c H locs cells slots Q (F0 m pc ls (.ref (a 4) :: rest)) := by
  exact va_getN (D := G) (ci := 3) (v := .ref (a 28)) (C := RX3) (T := TX3) (N := 7) hx hb hts hin hown hK hP 4 rfl rfl 5 (by decide) (va_Nw.use rfl hlink) (fun _ h9 => h9) rfl hdg kk
theorem gfX6_169 (hx : p.tables.exec = Jvm.exec) (hb : c.code = cc) (hts : ∀ w ∈ Ts, w.before args s = true) (hin : ∀ w ∈ u_ws RX1 TX1 13, w ∈ Ts) (hown : s.vm.findClass RX6 = some m.cls) (hK : va_K G vwCl [(cy, .int)] s) (hP : va_P G vwCl (cX cy a q) H) (hlink : va_Nw (.fieldLinkNest RX6 169 RX1 "cost" "[I" RX6) s) (hdg : decode cc pc = .ok (.getfield 169, 3))
    (kk : W p l e R s m args below meth c H locs cells slots Q (F0 m (pc + 3) ls (.ref (a 16) :: rest))) : W p l e R s m args below meth c H locs cells slots Q (F0 m pc ls (.ref (a 3) :: rest)) := by
  exact va_getN (D := G) (ci := 1) (v := .ref (a 16)) (C := RX1) (T := TX1) (N := 13) hx hb hts hin hown hK hP 3 rfl rfl 3 (by decide) (va_Nw.use rfl hlink) (fun _ h9 => h9) rfl hdg kk
theorem gfX6_61 (hx : p.tables.exec = Jvm.exec) (hb : c.code = cc) (hts : ∀ w ∈ Ts, w.before args s = true) (hin : ∀ w ∈ u_ws RX6 TX6 10, w ∈ Ts) (hown : s.vm.findClass RX6 = some m.cls) (hK : va_K G vwCl [(cy, .int)] s) (hP : va_P G vwCl (cX cy a q) H) (hlink : (Cond.fieldLink RX6 61 RX6 "paid" "I").before args s = true) {v : Int32} (hv : q 33 0 = v) (hdg : decode cc pc = .ok (.getfield 61, 3))
    (kk : W p l e R s m args below meth c H locs cells slots Q (F0 m (pc + 3) ls (.int v :: rest))) : W p l e R s m args below meth c H locs cells slots Q (F0 m pc ls (.ref (a 0) :: rest)) := by
  subst hv
  exact va_get (D := G) (ci := 6) (v := .int (q 33 0)) (C := RX6) (T := TX6) (N := 10) hx hb hts hin hown hK hP 0 rfl rfl 9 (by decide) hlink (fun _ h9 => h9) rfl hdg kk
theorem pfX6_61 (hx : p.tables.exec = Jvm.exec) (hb : c.code = cc) (hts : ∀ w ∈ Ts, w.before args s = true) (hin : ∀ w ∈ u_ws RX6 TX6 10, w ∈ Ts) (hown : s.vm.findClass RX6 = some m.cls) (hK : va_K G vwCl [(cy, .int)] s) (hP : va_P G vwCl (cX cy a q) H) (hD : ∀ q : wSt, va_D A (cX cy a q)) (hS : va_S A s.heap H locs) (hlink : (Cond.fieldLink RX6 61 RX6 "paid" "I").before args s = true) {v : Int32} (hdg : decode cc pc = .ok (.putfield 61, 3))
    (kk : ∀ (H1 : Heap) (locs1 : List Loc), va_P G vwCl (cX cy a (rset q 33 (fun _ => v))) H1 → va_S A s.heap H1 locs1 → W p l e R s m args below meth c H1 locs1 cells slots Q (F0 m (pc + 3) ls rest)) : W p l e R s m args below meth c H locs cells slots Q (F0 m pc ls (.int v :: .ref (a 0) :: rest)) :=
  va_put (D := G) (ci := 6) (v := .int v) (ty := .int) (C := RX6) (T := TX6) (N := 10) hx hb hts hin tyX6 tyX6_ok nmX6 hown hK hP (hD _) hS 0 rfl rfl 9 (by decide) hlink (fun _ h9 => h9) rfl (by decide +kernel) rfl rfl (Nat.le_of_ble_eq_true rfl) hdg (fun H1 locs1 h1 _ h3 => kk H1 locs1 h1 h3)
theorem gfX6_175 (hx : p.tables.exec = Jvm.exec) (hb : c.code = cc) (hts : ∀ w ∈ Ts, w.before args s = true) (hin : ∀ w ∈ u_ws RX1 TX1 13, w ∈ Ts) (hown : s.vm.findClass RX6 = some m.cls) (hK : va_K G vwCl [(cy, .int)] s) (hP : va_P G vwCl (cX cy a q) H) (hlink : va_Nw (.fieldLinkNest RX6 175 RX1 "where" "[I" RX6) s) (hdg : decode cc pc = .ok (.getfield 175, 3))
    (kk : W p l e R s m args below meth c H locs cells slots Q (F0 m (pc + 3) ls (.ref (a 13) :: rest))) : W p l e R s m args below meth c H locs cells slots Q (F0 m pc ls (.ref (a 3) :: rest)) := by
  exact va_getN (D := G) (ci := 1) (v := .ref (a 13)) (C := RX1) (T := TX1) (N := 13) hx hb hts hin hown hK hP 3 rfl rfl 0 (by decide) (va_Nw.use rfl hlink) (fun _ h9 => h9) rfl hdg kk
theorem gfX6_178 (hx : p.tables.exec = Jvm.exec) (hb : c.code = cc) (hts : ∀ w ∈ Ts, w.before args s = true) (hin : ∀ w ∈ u_ws RX1 TX1 13, w ∈ Ts) (hown : s.vm.findClass RX6 = some m.cls) (hK : va_K G vwCl [(cy, .int)] s) (hP : va_P G vwCl (cX cy a q) H) (hlink : va_Nw (.fieldLinkNest RX6 178 RX1 "title" "[I" RX6) s) (hdg : decode cc pc = .ok (.getfield 178, 3))
    (kk : W p l e R s m args below meth c H locs cells slots Q (F0 m (pc + 3) ls (.ref (a 14) :: rest))) : W p l e R s m args below meth c H locs cells slots Q (F0 m pc ls (.ref (a 3) :: rest)) := by
  exact va_getN (D := G) (ci := 1) (v := .ref (a 14)) (C := RX1) (T := TX1) (N := 13) hx hb hts hin hown hK hP 3 rfl rfl 1 (by decide) (va_Nw.use rfl hlink) (fun _ h9 => h9) rfl hdg kk
theorem gfX6_181 (hx : p.tables.exec = Jvm.exec) (hb : c.code = cc) (hts : ∀ w ∈ Ts, w.before args s = true) (hin : ∀ w ∈ u_ws RX1 TX1 13, w ∈ Ts) (hown : s.vm.findClass RX6 = some m.cls) (hK : va_K G vwCl [(cy, .int)] s) (hP : va_P G vwCl (cX cy a q) H) (hlink : va_Nw (.fieldLinkNest RX6 181 RX1 "volume" "[I" RX6) s) (hdg : decode cc pc = .ok (.getfield 181, 3))
    (kk : W p l e R s m args below meth c H locs cells slots Q (F0 m (pc + 3) ls (.ref (a 15) :: rest))) : W p l e R s m args below meth c H locs cells slots Q (F0 m pc ls (.ref (a 3) :: rest)) := by
  exact va_getN (D := G) (ci := 1) (v := .ref (a 15)) (C := RX1) (T := TX1) (N := 13) hx hb hts hin hown hK hP 3 rfl rfl 2 (by decide) (va_Nw.use rfl hlink) (fun _ h9 => h9) rfl hdg kk
theorem gfX6_184 (hx : p.tables.exec = Jvm.exec) (hb : c.code = cc) (hts : ∀ w ∈ Ts, w.before args s = true) (hin : ∀ w ∈ u_ws RX1 TX1 13, w ∈ Ts) (hown : s.vm.findClass RX6 = some m.cls) (hK : va_K G vwCl [(cy, .int)] s) (hP : va_P G vwCl (cX cy a q) H) (hlink : va_Nw (.fieldLinkNest RX6 184 RX1 "since" "[I" RX6) s) (hdg : decode cc pc = .ok (.getfield 184, 3))
    (kk : W p l e R s m args below meth c H locs cells slots Q (F0 m (pc + 3) ls (.ref (a 19) :: rest))) : W p l e R s m args below meth c H locs cells slots Q (F0 m pc ls (.ref (a 3) :: rest)) := by
  exact va_getN (D := G) (ci := 1) (v := .ref (a 19)) (C := RX1) (T := TX1) (N := 13) hx hb hts hin hown hK hP 3 rfl rfl 6 (by decide) (va_Nw.use rfl hlink) (fun _ h9 => h9) rfl hdg kk
theorem gfX6_187 (hx : p.tables.exec = Jvm.exec) (hb : c.code = cc) (hts : ∀ w ∈ Ts, w.before args s = true) (hin : ∀ w ∈ u_ws RX1 TX1 13, w ∈ Ts) (hown : s.vm.findClass RX6 = some m.cls) (hK : va_K G vwCl [(cy, .int)] s) (hP : va_P G vwCl (cX cy a q) H) (hlink : va_Nw (.fieldLinkNest RX6 187 RX1 "daysToGo" "[I" RX6) s) (hdg : decode cc pc = .ok (.getfield 187, 3))
    (kk : W p l e R s m args below meth c H locs cells slots Q (F0 m (pc + 3) ls (.ref (a 20) :: rest))) : W p l e R s m args below meth c H locs cells slots Q (F0 m pc ls (.ref (a 3) :: rest)) := by
  exact va_getN (D := G) (ci := 1) (v := .ref (a 20)) (C := RX1) (T := TX1) (N := 13) hx hb hts hin hown hK hP 3 rfl rfl 7 (by decide) (va_Nw.use rfl hlink) (fun _ h9 => h9) rfl hdg kk
theorem gfX6_190 (hx : p.tables.exec = Jvm.exec) (hb : c.code = cc) (hts : ∀ w ∈ Ts, w.before args s = true) (hin : ∀ w ∈ u_ws RX1 TX1 13, w ∈ Ts) (hown : s.vm.findClass RX6 = some m.cls) (hK : va_K G vwCl [(cy, .int)] s) (hP : va_P G vwCl (cX cy a q) H) (hlink : va_Nw (.fieldLinkNest RX6 190 RX1 "timesLent" "[I" RX6) s) (hdg : decode cc pc = .ok (.getfield 190, 3))
    (kk : W p l e R s m args below meth c H locs cells slots Q (F0 m (pc + 3) ls (.ref (a 21) :: rest))) : W p l e R s m args below meth c H locs cells slots Q (F0 m pc ls (.ref (a 3) :: rest)) := by
  exact va_getN (D := G) (ci := 1) (v := .ref (a 21)) (C := RX1) (T := TX1) (N := 13) hx hb hts hin hown hK hP 3 rfl rfl 8 (by decide) (va_Nw.use rfl hlink) (fun _ h9 => h9) rfl hdg kk
theorem gfX6_193 (hx : p.tables.exec = Jvm.exec) (hb : c.code = cc) (hts : ∀ w ∈ Ts, w.before args s = true) (hin : ∀ w ∈ u_ws RX3 TX3 7, w ∈ Ts) (hown : s.vm.findClass RX6 = some m.cls) (hK : va_K G vwCl [(cy, .int)] s) (hP : va_P G vwCl (cX cy a q) H) (hlink : va_Nw (.fieldLinkNest RX6 193 RX3 "rank" "[I" RX6) s) (hdg : decode cc pc = .ok (.getfield 193, 3))
    (kk : W p l e R s m args below meth c H locs cells slots Q (F0 m (pc + 3) ls (.ref (a 23) :: rest))) : W p l e R s m args below meth c H locs cells slots Q (F0 m pc ls (.ref (a 4) :: rest)) := by
  exact va_getN (D := G) (ci := 3) (v := .ref (a 23)) (C := RX3) (T := TX3) (N := 7) hx hb hts hin hown hK hP 4 rfl rfl 0 (by decide) (va_Nw.use rfl hlink) (fun _ h9 => h9) rfl hdg kk
theorem gfX6_200 (hx : p.tables.exec = Jvm.exec) (hb : c.code = cc) (hts : ∀ w ∈ Ts, w.before args s = true) (hin : ∀ w ∈ u_ws RX5 TX5 7, w ∈ Ts) (hown : s.vm.findClass RX6 = some m.cls) (hK : va_K G vwCl [(cy, .int)] s) (hP : va_P G vwCl (cX cy a q) H) (hlink : va_Nw (.fieldLinkNest RX6 200 RX5 "had" "[I" RX6) s) (hdg : decode cc pc = .ok (.getfield 200, 3))
    (kk : W p l e R s m args below meth c H locs cells slots Q (F0 m (pc + 3) ls (.ref (a 32) :: rest))) : W p l e R s m args below meth c H locs cells slots Q (F0 m pc ls (.ref (a 5) :: rest)) := by
  exact va_getN (D := G) (ci := 5) (v := .ref (a 32)) (C := RX5) (T := TX5) (N := 7) hx hb hts hin hown hK hP 5 rfl rfl 3 (by decide) (va_Nw.use rfl hlink) (fun _ h9 => h9) rfl hdg kk
theorem gfX6_203 (hx : p.tables.exec = Jvm.exec) (hb : c.code = cc) (hts : ∀ w ∈ Ts, w.before args s = true) (hin : ∀ w ∈ u_ws RX5 TX5 7, w ∈ Ts) (hown : s.vm.findClass RX6 = some m.cls) (hK : va_K G vwCl [(cy, .int)] s) (hP : va_P G vwCl (cX cy a q) H) (hlink : va_Nw (.fieldLinkNest RX6 203 RX5 "held" "[I" RX6) s) (hdg : decode cc pc = .ok (.getfield 203, 3))
    (kk : W p l e R s m args below meth c H locs cells slots Q (F0 m (pc + 3) ls (.ref (a 33) :: rest))) : W p l e R s m args below meth c H locs cells slots Q (F0 m pc ls (.ref (a 5) :: rest)) := by
  exact va_getN (D := G) (ci := 5) (v := .ref (a 33)) (C := RX5) (T := TX5) (N := 7) hx hb hts hin hown hK hP 5 rfl rfl 4 (by decide) (va_Nw.use rfl hlink) (fun _ h9 => h9) rfl hdg kk
theorem gfX6_209 (hx : p.tables.exec = Jvm.exec) (hb : c.code = cc) (hts : ∀ w ∈ Ts, w.before args s = true) (hin : ∀ w ∈ u_ws RX5 TX5 7, w ∈ Ts) (hown : s.vm.findClass RX6 = some m.cls) (hK : va_K G vwCl [(cy, .int)] s) (hP : va_P G vwCl (cX cy a q) H) (hlink : va_Nw (.fieldLinkNest RX6 209 RX5 "since" "[I" RX6) s) (hdg : decode cc pc = .ok (.getfield 209, 3))
    (kk : W p l e R s m args below meth c H locs cells slots Q (F0 m (pc + 3) ls (.ref (a 34) :: rest))) : W p l e R s m args below meth c H locs cells slots Q (F0 m pc ls (.ref (a 5) :: rest)) := by
  exact va_getN (D := G) (ci := 5) (v := .ref (a 34)) (C := RX5) (T := TX5) (N := 7) hx hb hts hin hown hK hP 5 rfl rfl 5 (by decide) (va_Nw.use rfl hlink) (fun _ h9 => h9) rfl hdg kk
theorem gfX6_47 (hx : p.tables.exec = Jvm.exec) (hb : c.code = cc) (hts : ∀ w ∈ Ts, w.before args s = true) (hin : ∀ w ∈ u_ws RX6 TX6 10, w ∈ Ts) (hown : s.vm.findClass RX6 = some m.cls) (hK : va_K G vwCl [(cy, .int)] s) (hP : va_P G vwCl (cX cy a q) H) (hlink : (Cond.fieldLink RX6 47 RX6 "demands" "LVolumeHouse$Demands;").before args s = true) (hdg : decode cc pc = .ok (.getfield 47, 3))
    (kk : W p l e R s m args below meth c H locs cells slots Q (F0 m (pc + 3) ls (.ref (a 6) :: rest))) : W p l e R s m args below meth c H locs cells slots Q (F0 m pc ls (.ref (a 0) :: rest)) := by
  exact va_get (D := G) (ci := 6) (v := .ref (a 6)) (C := RX6) (T := TX6) (N := 10) hx hb hts hin hown hK hP 0 rfl rfl 5 (by decide) hlink (fun _ h9 => h9) rfl hdg kk
theorem gfX6_219 (hx : p.tables.exec = Jvm.exec) (hb : c.code = cc) (hts : ∀ w ∈ Ts, w.before args s = true) (hin : ∀ w ∈ u_ws RX2 TX2 2, w ∈ Ts) (hown : s.vm.findClass RX6 = some m.cls) (hK : va_K G vwCl [(cy, .int)] s) (hP : va_P G vwCl (cX cy a q) H) (hlink : va_Nw (.fieldLinkNest RX6 219 RX2 "wanted" "[I" RX6) s) (hdg : decode cc pc = .ok (.getfield 219, 3))
    (kk : W p l e R s m args below meth c H locs cells slots Q (F0 m (pc + 3) ls (.ref (a 35) :: rest))) : W p l e R s m args below meth c H locs cells slots Q (F0 m pc ls (.ref (a 6) :: rest)) := by
  exact va_getN (D := G) (ci := 2) (v := .ref (a 35)) (C := RX2) (T := TX2) (N := 2) hx hb hts hin hown hK hP 6 rfl rfl 0 (by decide) (va_Nw.use rfl hlink) (fun _ h9 => h9) rfl hdg kk
theorem gfX6_222 (hx : p.tables.exec = Jvm.exec) (hb : c.code = cc) (hts : ∀ w ∈ Ts, w.before args s = true) (hin : ∀ w ∈ u_ws RX2 TX2 2, w ∈ Ts) (hown : s.vm.findClass RX6 = some m.cls) (hK : va_K G vwCl [(cy, .int)] s) (hP : va_P G vwCl (cX cy a q) H) (hlink : va_Nw (.fieldLinkNest RX6 222 RX2 "sale" "[I" RX6) s) (hdg : decode cc pc = .ok (.getfield 222, 3))
    (kk : W p l e R s m args below meth c H locs cells slots Q (F0 m (pc + 3) ls (.ref (a 36) :: rest))) : W p l e R s m args below meth c H locs cells slots Q (F0 m pc ls (.ref (a 6) :: rest)) := by
  exact va_getN (D := G) (ci := 2) (v := .ref (a 36)) (C := RX2) (T := TX2) (N := 2) hx hb hts hin hown hK hP 6 rfl rfl 1 (by decide) (va_Nw.use rfl hlink) (fun _ h9 => h9) rfl hdg kk
theorem gfX6_237 (hx : p.tables.exec = Jvm.exec) (hb : c.code = cc) (hts : ∀ w ∈ Ts, w.before args s = true) (hin : ∀ w ∈ u_ws RX1 TX1 13, w ∈ Ts) (hown : s.vm.findClass RX6 = some m.cls) (hK : va_K G vwCl [(cy, .int)] s) (hP : va_P G vwCl (cX cy a q) H) (hlink : va_Nw (.fieldLinkNest RX6 237 RX1 "lost" "I" RX6) s) {v : Int32} (hv : q 38 0 = v) (hdg : decode cc pc = .ok (.getfield 237, 3))
    (kk : W p l e R s m args below meth c H locs cells slots Q (F0 m (pc + 3) ls (.int v :: rest))) : W p l e R s m args below meth c H locs cells slots Q (F0 m pc ls (.ref (a 3) :: rest)) := by
  subst hv
  exact va_getN (D := G) (ci := 1) (v := .int (q 38 0)) (C := RX1) (T := TX1) (N := 13) hx hb hts hin hown hK hP 3 rfl rfl 12 (by decide) (va_Nw.use rfl hlink) (fun _ h9 => h9) rfl hdg kk
theorem gfX6_240 (hx : p.tables.exec = Jvm.exec) (hb : c.code = cc) (hts : ∀ w ∈ Ts, w.before args s = true) (hin : ∀ w ∈ u_ws RX1 TX1 13, w ∈ Ts) (hown : s.vm.findClass RX6 = some m.cls) (hK : va_K G vwCl [(cy, .int)] s) (hP : va_P G vwCl (cX cy a q) H) (hlink : va_Nw (.fieldLinkNest RX6 240 RX1 "inBoxes" "I" RX6) s) {v : Int32} (hv : q 37 0 = v) (hdg : decode cc pc = .ok (.getfield 240, 3))
    (kk : W p l e R s m args below meth c H locs cells slots Q (F0 m (pc + 3) ls (.int v :: rest))) : W p l e R s m args below meth c H locs cells slots Q (F0 m pc ls (.ref (a 3) :: rest)) := by
  subst hv
  exact va_getN (D := G) (ci := 1) (v := .int (q 37 0)) (C := RX1) (T := TX1) (N := 13) hx hb hts hin hown hK hP 3 rfl rfl 11 (by decide) (va_Nw.use rfl hlink) (fun _ h9 => h9) rfl hdg kk
theorem gfX6_264 (hx : p.tables.exec = Jvm.exec) (hb : c.code = cc) (hts : ∀ w ∈ Ts, w.before args s = true) (hin : ∀ w ∈ u_ws RX5 TX5 7, w ∈ Ts) (hown : s.vm.findClass RX6 = some m.cls) (hK : va_K G vwCl [(cy, .int)] s) (hP : va_P G vwCl (cX cy a q) H) (hlink : va_Nw (.fieldLinkNest RX6 264 RX5 "reader" "[I" RX6) s) (hdg : decode cc pc = .ok (.getfield 264, 3))
    (kk : W p l e R s m args below meth c H locs cells slots Q (F0 m (pc + 3) ls (.ref (a 29) :: rest))) : W p l e R s m args below meth c H locs cells slots Q (F0 m pc ls (.ref (a 5) :: rest)) := by
  exact va_getN (D := G) (ci := 5) (v := .ref (a 29)) (C := RX5) (T := TX5) (N := 7) hx hb hts hin hown hK hP 5 rfl rfl 0 (by decide) (va_Nw.use rfl hlink) (fun _ h9 => h9) rfl hdg kk
theorem gfX6_268 (hx : p.tables.exec = Jvm.exec) (hb : c.code = cc) (hts : ∀ w ∈ Ts, w.before args s = true) (hin : ∀ w ∈ u_ws RX5 TX5 7, w ∈ Ts) (hown : s.vm.findClass RX6 = some m.cls) (hK : va_K G vwCl [(cy, .int)] s) (hP : va_P G vwCl (cX cy a q) H) (hlink : va_Nw (.fieldLinkNest RX6 268 RX5 "title" "[I" RX6) s) (hdg : decode cc pc = .ok (.getfield 268, 3))
    (kk : W p l e R s m args below meth c H locs cells slots Q (F0 m (pc + 3) ls (.ref (a 30) :: rest))) : W p l e R s m args below meth c H locs cells slots Q (F0 m pc ls (.ref (a 5) :: rest)) := by
  exact va_getN (D := G) (ci := 5) (v := .ref (a 30)) (C := RX5) (T := TX5) (N := 7) hx hb hts hin hown hK hP 5 rfl rfl 1 (by decide) (va_Nw.use rfl hlink) (fun _ h9 => h9) rfl hdg kk
theorem gfX7_88 (hx : p.tables.exec = Jvm.exec) (hb : c.code = cc) (hts : ∀ w ∈ Ts, w.before args s = true) (hin : ∀ w ∈ u_ws RX7 TX7 35, w ∈ Ts) (hown : s.vm.findClass RX7 = some m.cls) (hK : va_K G vwCl [(cy, .int)] s) (hP : va_P G vwCl (cM cy a q) H) (hlink : (Cond.fieldLink RX7 88 RX7 "titles" "I").before args s = true) {v : Int32} (hv : q 34 0 = v) (hdg : decode cc pc = .ok (.getfield 88, 3))
    (kk : W p l e R s m args below meth c H locs cells slots Q (F0 m (pc + 3) ls (.int v :: rest))) : W p l e R s m args below meth c H locs cells slots Q (F0 m pc ls (.ref (a 0) :: rest)) := by
  subst hv
  exact va_get (D := G) (ci := 7) (v := .int (q 34 0)) (C := RX7) (T := TX7) (N := 35) hx hb hts hin hown hK hP 0 rfl rfl 1 (by decide) hlink (fun _ h9 => h9) rfl hdg kk
theorem gfX7_96 (hx : p.tables.exec = Jvm.exec) (hb : c.code = cc) (hts : ∀ w ∈ Ts, w.before args s = true) (hin : ∀ w ∈ u_ws RX7 TX7 35, w ∈ Ts) (hown : s.vm.findClass RX7 = some m.cls) (hK : va_K G vwCl [(cy, .int)] s) (hP : va_P G vwCl (cM cy a q) H) (hlink : (Cond.fieldLink RX7 96 RX7 "readers" "I").before args s = true) {v : Int32} (hv : q 39 0 = v) (hdg : decode cc pc = .ok (.getfield 96, 3))
    (kk : W p l e R s m args below meth c H locs cells slots Q (F0 m (pc + 3) ls (.int v :: rest))) : W p l e R s m args below meth c H locs cells slots Q (F0 m pc ls (.ref (a 0) :: rest)) := by
  subst hv
  exact va_get (D := G) (ci := 7) (v := .int (q 39 0)) (C := RX7) (T := TX7) (N := 35) hx hb hts hin hown hK hP 0 rfl rfl 13 (by decide) hlink (fun _ h9 => h9) rfl hdg kk
theorem gfX7_99 (hx : p.tables.exec = Jvm.exec) (hb : c.code = cc) (hts : ∀ w ∈ Ts, w.before args s = true) (hin : ∀ w ∈ u_ws RX7 TX7 35, w ∈ Ts) (hown : s.vm.findClass RX7 = some m.cls) (hK : va_K G vwCl [(cy, .int)] s) (hP : va_P G vwCl (cM cy a q) H) (hlink : (Cond.fieldLink RX7 99 RX7 "copies" "I").before args s = true) {v : Int32} (hv : q 36 0 = v) (hdg : decode cc pc = .ok (.getfield 99, 3))
    (kk : W p l e R s m args below meth c H locs cells slots Q (F0 m (pc + 3) ls (.int v :: rest))) : W p l e R s m args below meth c H locs cells slots Q (F0 m pc ls (.ref (a 0) :: rest)) := by
  subst hv
  exact va_get (D := G) (ci := 7) (v := .int (q 36 0)) (C := RX7) (T := TX7) (N := 35) hx hb hts hin hown hK hP 0 rfl rfl 3 (by decide) hlink (fun _ h9 => h9) rfl hdg kk
theorem gfX7_102 (hx : p.tables.exec = Jvm.exec) (hb : c.code = cc) (hts : ∀ w ∈ Ts, w.before args s = true) (hin : ∀ w ∈ u_ws RX7 TX7 35, w ∈ Ts) (hown : s.vm.findClass RX7 = some m.cls) (hK : va_K G vwCl [(cy, .int)] s) (hP : va_P G vwCl (cM cy a q) H) (hlink : (Cond.fieldLink RX7 102 RX7 "wishes" "I").before args s = true) {v : Int32} (hv : q 40 0 = v) (hdg : decode cc pc = .ok (.getfield 102, 3))
    (kk : W p l e R s m args below meth c H locs cells slots Q (F0 m (pc + 3) ls (.int v :: rest))) : W p l e R s m args below meth c H locs cells slots Q (F0 m pc ls (.ref (a 0) :: rest)) := by
  subst hv
  exact va_get (D := G) (ci := 7) (v := .int (q 40 0)) (C := RX7) (T := TX7) (N := 35) hx hb hts hin hown hK hP 0 rfl rfl 18 (by decide) hlink (fun _ h9 => h9) rfl hdg kk
theorem gfX7_9 (hx : p.tables.exec = Jvm.exec) (hb : c.code = cc) (hts : ∀ w ∈ Ts, w.before args s = true) (hin : ∀ w ∈ u_ws RX7 TX7 35, w ∈ Ts) (hown : s.vm.findClass RX7 = some m.cls) (hK : va_K G vwCl [(cy, .int)] s) (hP : va_P G vwCl (cM cy a q) H) (hlink : (Cond.fieldLink RX7 9 RX7 "volumes" "[I").before args s = true) (hdg : decode cc pc = .ok (.getfield 9, 3))
    (kk : W p l e R s m args below meth c H locs cells slots Q (F0 m (pc + 3) ls (.ref (a 1) :: rest))) : W p l e R s m args below meth c H locs cells slots Q (F0 m pc ls (.ref (a 0) :: rest)) := by
  exact va_get (D := G) (ci := 7) (v := .ref (a 1)) (C := RX7) (T := TX7) (N := 35) hx hb hts hin hown hK hP 0 rfl rfl 2 (by decide) hlink (fun _ h9 => h9) rfl hdg kk
theorem pfX7_88 (hx : p.tables.exec = Jvm.exec) (hb : c.code = cc) (hts : ∀ w ∈ Ts, w.before args s = true) (hin : ∀ w ∈ u_ws RX7 TX7 35, w ∈ Ts) (hown : s.vm.findClass RX7 = some m.cls) (hK : va_K G vwCl [(cy, .int)] s) (hP : va_P G vwCl (cM cy a q) H) (hD : ∀ q : wSt, va_D A (cM cy a q)) (hS : va_S A s.heap H locs) (hlink : (Cond.fieldLink RX7 88 RX7 "titles" "I").before args s = true) {v : Int32} (hdg : decode cc pc = .ok (.putfield 88, 3))
    (kk : ∀ (H1 : Heap) (locs1 : List Loc), va_P G vwCl (cM cy a (rset q 34 (fun _ => v))) H1 → va_S A s.heap H1 locs1 → W p l e R s m args below meth c H1 locs1 cells slots Q (F0 m (pc + 3) ls rest)) : W p l e R s m args below meth c H locs cells slots Q (F0 m pc ls (.int v :: .ref (a 0) :: rest)) :=
  va_put (D := G) (ci := 7) (v := .int v) (ty := .int) (C := RX7) (T := TX7) (N := 35) hx hb hts hin tyX7 tyX7_ok nmX7 hown hK hP (hD _) hS 0 rfl rfl 1 (by decide) hlink (fun _ h9 => h9) rfl (by decide +kernel) rfl rfl (Nat.le_of_ble_eq_true rfl) hdg (fun H1 locs1 h1 _ h3 => kk H1 locs1 h1 h3)
theorem gfX7_109 (hx : p.tables.exec = Jvm.exec) (hb : c.code = cc) (hts : ∀ w ∈ Ts, w.before args s = true) (hin : ∀ w ∈ u_ws RX7 TX7 35, w ∈ Ts) (hown : s.vm.findClass RX7 = some m.cls) (hK : va_K G vwCl [(cy, .int)] s) (hP : va_P G vwCl (cM cy a q) H) (hlink : (Cond.fieldLink RX7 109 RX7 "bargains" "I").before args s = true) {v : Int32} (hv : q 35 0 = v) (hdg : decode cc pc = .ok (.getfield 109, 3))
    (kk : W p l e R s m args below meth c H locs cells slots Q (F0 m (pc + 3) ls (.int v :: rest))) : W p l e R s m args below meth c H locs cells slots Q (F0 m pc ls (.ref (a 0) :: rest)) := by
  subst hv
  exact va_get (D := G) (ci := 7) (v := .int (q 35 0)) (C := RX7) (T := TX7) (N := 35) hx hb hts hin hown hK hP 0 rfl rfl 24 (by decide) hlink (fun _ h9 => h9) rfl hdg kk
theorem gfX7_67 (hx : p.tables.exec = Jvm.exec) (hb : c.code = cc) (hts : ∀ w ∈ Ts, w.before args s = true) (hin : ∀ w ∈ u_ws RX7 TX7 35, w ∈ Ts) (hown : s.vm.findClass RX7 = some m.cls) (hK : va_K G vwCl [(cy, .int)] s) (hP : va_P G vwCl (cM cy a q) H) (hlink : (Cond.fieldLink RX7 67 RX7 "bargainTitle" "[I").before args s = true) (hdg : decode cc pc = .ok (.getfield 67, 3))
    (kk : W p l e R s m args below meth c H locs cells slots Q (F0 m (pc + 3) ls (.ref (a 20) :: rest))) : W p l e R s m args below meth c H locs cells slots Q (F0 m pc ls (.ref (a 0) :: rest)) := by
  exact va_get (D := G) (ci := 7) (v := .ref (a 20)) (C := RX7) (T := TX7) (N := 35) hx hb hts hin hown hK hP 0 rfl rfl 25 (by decide) hlink (fun _ h9 => h9) rfl hdg kk
theorem gfX7_70 (hx : p.tables.exec = Jvm.exec) (hb : c.code = cc) (hts : ∀ w ∈ Ts, w.before args s = true) (hin : ∀ w ∈ u_ws RX7 TX7 35, w ∈ Ts) (hown : s.vm.findClass RX7 = some m.cls) (hK : va_K G vwCl [(cy, .int)] s) (hP : va_P G vwCl (cM cy a q) H) (hlink : (Cond.fieldLink RX7 70 RX7 "bargainDay" "[I").before args s = true) (hdg : decode cc pc = .ok (.getfield 70, 3))
    (kk : W p l e R s m args below meth c H locs cells slots Q (F0 m (pc + 3) ls (.ref (a 21) :: rest))) : W p l e R s m args below meth c H locs cells slots Q (F0 m pc ls (.ref (a 0) :: rest)) := by
  exact va_get (D := G) (ci := 7) (v := .ref (a 21)) (C := RX7) (T := TX7) (N := 35) hx hb hts hin hown hK hP 0 rfl rfl 26 (by decide) hlink (fun _ h9 => h9) rfl hdg kk
theorem gfX7_73 (hx : p.tables.exec = Jvm.exec) (hb : c.code = cc) (hts : ∀ w ∈ Ts, w.before args s = true) (hin : ∀ w ∈ u_ws RX7 TX7 35, w ∈ Ts) (hown : s.vm.findClass RX7 = some m.cls) (hK : va_K G vwCl [(cy, .int)] s) (hP : va_P G vwCl (cM cy a q) H) (hlink : (Cond.fieldLink RX7 73 RX7 "bargainMany" "[I").before args s = true) (hdg : decode cc pc = .ok (.getfield 73, 3))
    (kk : W p l e R s m args below meth c H locs cells slots Q (F0 m (pc + 3) ls (.ref (a 22) :: rest))) : W p l e R s m args below meth c H locs cells slots Q (F0 m pc ls (.ref (a 0) :: rest)) := by
  exact va_get (D := G) (ci := 7) (v := .ref (a 22)) (C := RX7) (T := TX7) (N := 35) hx hb hts hin hown hK hP 0 rfl rfl 27 (by decide) hlink (fun _ h9 => h9) rfl hdg kk
theorem gfX7_76 (hx : p.tables.exec = Jvm.exec) (hb : c.code = cc) (hts : ∀ w ∈ Ts, w.before args s = true) (hin : ∀ w ∈ u_ws RX7 TX7 35, w ∈ Ts) (hown : s.vm.findClass RX7 = some m.cls) (hK : va_K G vwCl [(cy, .int)] s) (hP : va_P G vwCl (cM cy a q) H) (hlink : (Cond.fieldLink RX7 76 RX7 "bargainPrice" "[I").before args s = true) (hdg : decode cc pc = .ok (.getfield 76, 3))
    (kk : W p l e R s m args below meth c H locs cells slots Q (F0 m (pc + 3) ls (.ref (a 23) :: rest))) : W p l e R s m args below meth c H locs cells slots Q (F0 m pc ls (.ref (a 0) :: rest)) := by
  exact va_get (D := G) (ci := 7) (v := .ref (a 23)) (C := RX7) (T := TX7) (N := 35) hx hb hts hin hown hK hP 0 rfl rfl 28 (by decide) hlink (fun _ h9 => h9) rfl hdg kk
theorem gfX7_79 (hx : p.tables.exec = Jvm.exec) (hb : c.code = cc) (hts : ∀ w ∈ Ts, w.before args s = true) (hin : ∀ w ∈ u_ws RX7 TX7 35, w ∈ Ts) (hown : s.vm.findClass RX7 = some m.cls) (hK : va_K G vwCl [(cy, .int)] s) (hP : va_P G vwCl (cM cy a q) H) (hlink : (Cond.fieldLink RX7 79 RX7 "bargainBeyond" "[I").before args s = true) (hdg : decode cc pc = .ok (.getfield 79, 3))
    (kk : W p l e R s m args below meth c H locs cells slots Q (F0 m (pc + 3) ls (.ref (a 24) :: rest))) : W p l e R s m args below meth c H locs cells slots Q (F0 m pc ls (.ref (a 0) :: rest)) := by
  exact va_get (D := G) (ci := 7) (v := .ref (a 24)) (C := RX7) (T := TX7) (N := 35) hx hb hts hin hown hK hP 0 rfl rfl 29 (by decide) hlink (fun _ h9 => h9) rfl hdg kk
theorem pfX7_109 (hx : p.tables.exec = Jvm.exec) (hb : c.code = cc) (hts : ∀ w ∈ Ts, w.before args s = true) (hin : ∀ w ∈ u_ws RX7 TX7 35, w ∈ Ts) (hown : s.vm.findClass RX7 = some m.cls) (hK : va_K G vwCl [(cy, .int)] s) (hP : va_P G vwCl (cM cy a q) H) (hD : ∀ q : wSt, va_D A (cM cy a q)) (hS : va_S A s.heap H locs) (hlink : (Cond.fieldLink RX7 109 RX7 "bargains" "I").before args s = true) {v : Int32} (hdg : decode cc pc = .ok (.putfield 109, 3))
    (kk : ∀ (H1 : Heap) (locs1 : List Loc), va_P G vwCl (cM cy a (rset q 35 (fun _ => v))) H1 → va_S A s.heap H1 locs1 → W p l e R s m args below meth c H1 locs1 cells slots Q (F0 m (pc + 3) ls rest)) : W p l e R s m args below meth c H locs cells slots Q (F0 m pc ls (.int v :: .ref (a 0) :: rest)) :=
  va_put (D := G) (ci := 7) (v := .int v) (ty := .int) (C := RX7) (T := TX7) (N := 35) hx hb hts hin tyX7 tyX7_ok nmX7 hown hK hP (hD _) hS 0 rfl rfl 24 (by decide) hlink (fun _ h9 => h9) rfl (by decide +kernel) rfl rfl (Nat.le_of_ble_eq_true rfl) hdg (fun H1 locs1 h1 _ h3 => kk H1 locs1 h1 h3)
theorem gfX7_112 (hx : p.tables.exec = Jvm.exec) (hb : c.code = cc) (hts : ∀ w ∈ Ts, w.before args s = true) (hin : ∀ w ∈ u_ws RX7 TX7 35, w ∈ Ts) (hown : s.vm.findClass RX7 = some m.cls) (hK : va_K G vwCl [(cy, .int)] s) (hP : va_P G vwCl (cM cy a q) H) (hlink : (Cond.fieldLink RX7 112 RX7 "now" "I").before args s = true) {v : Int32} (hv : q 30 0 = v) (hdg : decode cc pc = .ok (.getfield 112, 3))
    (kk : W p l e R s m args below meth c H locs cells slots Q (F0 m (pc + 3) ls (.int v :: rest))) : W p l e R s m args below meth c H locs cells slots Q (F0 m pc ls (.ref (a 0) :: rest)) := by
  subst hv
  exact va_get (D := G) (ci := 7) (v := .int (q 30 0)) (C := RX7) (T := TX7) (N := 35) hx hb hts hin hown hK hP 0 rfl rfl 0 (by decide) hlink (fun _ h9 => h9) rfl hdg kk
theorem gfX7_13 (hx : p.tables.exec = Jvm.exec) (hb : c.code = cc) (hts : ∀ w ∈ Ts, w.before args s = true) (hin : ∀ w ∈ u_ws RX7 TX7 35, w ∈ Ts) (hown : s.vm.findClass RX7 = some m.cls) (hK : va_K G vwCl [(cy, .int)] s) (hP : va_P G vwCl (cM cy a q) H) (hlink : (Cond.fieldLink RX7 13 RX7 "titleOf" "[I").before args s = true) (hdg : decode cc pc = .ok (.getfield 13, 3))
    (kk : W p l e R s m args below meth c H locs cells slots Q (F0 m (pc + 3) ls (.ref (a 2) :: rest))) : W p l e R s m args below meth c H locs cells slots Q (F0 m pc ls (.ref (a 0) :: rest)) := by
  exact va_get (D := G) (ci := 7) (v := .ref (a 2)) (C := RX7) (T := TX7) (N := 35) hx hb hts hin hown hK hP 0 rfl rfl 4 (by decide) hlink (fun _ h9 => h9) rfl hdg kk
theorem gfX7_16 (hx : p.tables.exec = Jvm.exec) (hb : c.code = cc) (hts : ∀ w ∈ Ts, w.before args s = true) (hin : ∀ w ∈ u_ws RX7 TX7 35, w ∈ Ts) (hown : s.vm.findClass RX7 = some m.cls) (hK : va_K G vwCl [(cy, .int)] s) (hP : va_P G vwCl (cM cy a q) H) (hlink : (Cond.fieldLink RX7 16 RX7 "volumeOf" "[I").before args s = true) (hdg : decode cc pc = .ok (.getfield 16, 3))
    (kk : W p l e R s m args below meth c H locs cells slots Q (F0 m (pc + 3) ls (.ref (a 3) :: rest))) : W p l e R s m args below meth c H locs cells slots Q (F0 m pc ls (.ref (a 0) :: rest)) := by
  exact va_get (D := G) (ci := 7) (v := .ref (a 3)) (C := RX7) (T := TX7) (N := 35) hx hb hts hin hown hK hP 0 rfl rfl 5 (by decide) hlink (fun _ h9 => h9) rfl hdg kk
theorem gfX7_19 (hx : p.tables.exec = Jvm.exec) (hb : c.code = cc) (hts : ∀ w ∈ Ts, w.before args s = true) (hin : ∀ w ∈ u_ws RX7 TX7 35, w ∈ Ts) (hown : s.vm.findClass RX7 = some m.cls) (hK : va_K G vwCl [(cy, .int)] s) (hP : va_P G vwCl (cM cy a q) H) (hlink : (Cond.fieldLink RX7 19 RX7 "costOf" "[I").before args s = true) (hdg : decode cc pc = .ok (.getfield 19, 3))
    (kk : W p l e R s m args below meth c H locs cells slots Q (F0 m (pc + 3) ls (.ref (a 4) :: rest))) : W p l e R s m args below meth c H locs cells slots Q (F0 m pc ls (.ref (a 0) :: rest)) := by
  exact va_get (D := G) (ci := 7) (v := .ref (a 4)) (C := RX7) (T := TX7) (N := 35) hx hb hts hin hown hK hP 0 rfl rfl 6 (by decide) hlink (fun _ h9 => h9) rfl hdg kk
theorem gfX7_22 (hx : p.tables.exec = Jvm.exec) (hb : c.code = cc) (hts : ∀ w ∈ Ts, w.before args s = true) (hin : ∀ w ∈ u_ws RX7 TX7 35, w ∈ Ts) (hown : s.vm.findClass RX7 = some m.cls) (hK : va_K G vwCl [(cy, .int)] s) (hP : va_P G vwCl (cM cy a q) H) (hlink : (Cond.fieldLink RX7 22 RX7 "state" "[I").before args s = true) (hdg : decode cc pc = .ok (.getfield 22, 3))
    (kk : W p l e R s m args below meth c H locs cells slots Q (F0 m (pc + 3) ls (.ref (a 5) :: rest))) : W p l e R s m args below meth c H locs cells slots Q (F0 m pc ls (.ref (a 0) :: rest)) := by
  exact va_get (D := G) (ci := 7) (v := .ref (a 5)) (C := RX7) (T := TX7) (N := 35) hx hb hts hin hown hK hP 0 rfl rfl 7 (by decide) hlink (fun _ h9 => h9) rfl hdg kk
theorem gfX7_25 (hx : p.tables.exec = Jvm.exec) (hb : c.code = cc) (hts : ∀ w ∈ Ts, w.before args s = true) (hin : ∀ w ∈ u_ws RX7 TX7 35, w ∈ Ts) (hown : s.vm.findClass RX7 = some m.cls) (hK : va_K G vwCl [(cy, .int)] s) (hP : va_P G vwCl (cM cy a q) H) (hlink : (Cond.fieldLink RX7 25 RX7 "readerOf" "[I").before args s = true) (hdg : decode cc pc = .ok (.getfield 25, 3))
    (kk : W p l e R s m args below meth c H locs cells slots Q (F0 m (pc + 3) ls (.ref (a 6) :: rest))) : W p l e R s m args below meth c H locs cells slots Q (F0 m pc ls (.ref (a 0) :: rest)) := by
  exact va_get (D := G) (ci := 7) (v := .ref (a 6)) (C := RX7) (T := TX7) (N := 35) hx hb hts hin hown hK hP 0 rfl rfl 8 (by decide) hlink (fun _ h9 => h9) rfl hdg kk
theorem gfX7_28 (hx : p.tables.exec = Jvm.exec) (hb : c.code = cc) (hts : ∀ w ∈ Ts, w.before args s = true) (hin : ∀ w ∈ u_ws RX7 TX7 35, w ∈ Ts) (hown : s.vm.findClass RX7 = some m.cls) (hK : va_K G vwCl [(cy, .int)] s) (hP : va_P G vwCl (cM cy a q) H) (hlink : (Cond.fieldLink RX7 28 RX7 "wishOf" "[I").before args s = true) (hdg : decode cc pc = .ok (.getfield 28, 3))
    (kk : W p l e R s m args below meth c H locs cells slots Q (F0 m (pc + 3) ls (.ref (a 7) :: rest))) : W p l e R s m args below meth c H locs cells slots Q (F0 m pc ls (.ref (a 0) :: rest)) := by
  exact va_get (D := G) (ci := 7) (v := .ref (a 7)) (C := RX7) (T := TX7) (N := 35) hx hb hts hin hown hK hP 0 rfl rfl 9 (by decide) hlink (fun _ h9 => h9) rfl hdg kk
theorem gfX7_31 (hx : p.tables.exec = Jvm.exec) (hb : c.code = cc) (hts : ∀ w ∈ Ts, w.before args s = true) (hin : ∀ w ∈ u_ws RX7 TX7 35, w ∈ Ts) (hown : s.vm.findClass RX7 = some m.cls) (hK : va_K G vwCl [(cy, .int)] s) (hP : va_P G vwCl (cM cy a q) H) (hlink : (Cond.fieldLink RX7 31 RX7 "since" "[I").before args s = true) (hdg : decode cc pc = .ok (.getfield 31, 3))
    (kk : W p l e R s m args below meth c H locs cells slots Q (F0 m (pc + 3) ls (.ref (a 8) :: rest))) : W p l e R s m args below meth c H locs cells slots Q (F0 m pc ls (.ref (a 0) :: rest)) := by
  exact va_get (D := G) (ci := 7) (v := .ref (a 8)) (C := RX7) (T := TX7) (N := 35) hx hb hts hin hown hK hP 0 rfl rfl 10 (by decide) hlink (fun _ h9 => h9) rfl hdg kk
theorem pfX7_99 (hx : p.tables.exec = Jvm.exec) (hb : c.code = cc) (hts : ∀ w ∈ Ts, w.before args s = true) (hin : ∀ w ∈ u_ws RX7 TX7 35, w ∈ Ts) (hown : s.vm.findClass RX7 = some m.cls) (hK : va_K G vwCl [(cy, .int)] s) (hP : va_P G vwCl (cM cy a q) H) (hD : ∀ q : wSt, va_D A (cM cy a q)) (hS : va_S A s.heap H locs) (hlink : (Cond.fieldLink RX7 99 RX7 "copies" "I").before args s = true) {v : Int32} (hdg : decode cc pc = .ok (.putfield 99, 3))
    (kk : ∀ (H1 : Heap) (locs1 : List Loc), va_P G vwCl (cM cy a (rset q 36 (fun _ => v))) H1 → va_S A s.heap H1 locs1 → W p l e R s m args below meth c H1 locs1 cells slots Q (F0 m (pc + 3) ls rest)) : W p l e R s m args below meth c H locs cells slots Q (F0 m pc ls (.int v :: .ref (a 0) :: rest)) :=
  va_put (D := G) (ci := 7) (v := .int v) (ty := .int) (C := RX7) (T := TX7) (N := 35) hx hb hts hin tyX7 tyX7_ok nmX7 hown hK hP (hD _) hS 0 rfl rfl 3 (by decide) hlink (fun _ h9 => h9) rfl (by decide +kernel) rfl rfl (Nat.le_of_ble_eq_true rfl) hdg (fun H1 locs1 h1 _ h3 => kk H1 locs1 h1 h3)
theorem gfX7_119 (hx : p.tables.exec = Jvm.exec) (hb : c.code = cc) (hts : ∀ w ∈ Ts, w.before args s = true) (hin : ∀ w ∈ u_ws RX7 TX7 35, w ∈ Ts) (hown : s.vm.findClass RX7 = some m.cls) (hK : va_K G vwCl [(cy, .int)] s) (hP : va_P G vwCl (cM cy a q) H) (hlink : (Cond.fieldLink RX7 119 RX7 "spent" "I").before args s = true) {v : Int32} (hv : q 31 0 = v) (hdg : decode cc pc = .ok (.getfield 119, 3))
    (kk : W p l e R s m args below meth c H locs cells slots Q (F0 m (pc + 3) ls (.int v :: rest))) : W p l e R s m args below meth c H locs cells slots Q (F0 m pc ls (.ref (a 0) :: rest)) := by
  subst hv
  exact va_get (D := G) (ci := 7) (v := .int (q 31 0)) (C := RX7) (T := TX7) (N := 35) hx hb hts hin hown hK hP 0 rfl rfl 30 (by decide) hlink (fun _ h9 => h9) rfl hdg kk
theorem pfX7_119 (hx : p.tables.exec = Jvm.exec) (hb : c.code = cc) (hts : ∀ w ∈ Ts, w.before args s = true) (hin : ∀ w ∈ u_ws RX7 TX7 35, w ∈ Ts) (hown : s.vm.findClass RX7 = some m.cls) (hK : va_K G vwCl [(cy, .int)] s) (hP : va_P G vwCl (cM cy a q) H) (hD : ∀ q : wSt, va_D A (cM cy a q)) (hS : va_S A s.heap H locs) (hlink : (Cond.fieldLink RX7 119 RX7 "spent" "I").before args s = true) {v : Int32} (hdg : decode cc pc = .ok (.putfield 119, 3))
    (kk : ∀ (H1 : Heap) (locs1 : List Loc), va_P G vwCl (cM cy a (rset q 31 (fun _ => v))) H1 → va_S A s.heap H1 locs1 → W p l e R s m args below meth c H1 locs1 cells slots Q (F0 m (pc + 3) ls rest)) : W p l e R s m args below meth c H locs cells slots Q (F0 m pc ls (.int v :: .ref (a 0) :: rest)) :=
  va_put (D := G) (ci := 7) (v := .int v) (ty := .int) (C := RX7) (T := TX7) (N := 35) hx hb hts hin tyX7 tyX7_ok nmX7 hown hK hP (hD _) hS 0 rfl rfl 30 (by decide) hlink (fun _ h9 => h9) rfl (by decide +kernel) rfl rfl (Nat.le_of_ble_eq_true rfl) hdg (fun H1 locs1 h1 _ h3 => kk H1 locs1 h1 h3)
theorem gfX7_125 (hx : p.tables.exec = Jvm.exec) (hb : c.code = cc) (hts : ∀ w ∈ Ts, w.before args s = true) (hin : ∀ w ∈ u_ws RX7 TX7 35, w ∈ Ts) (hown : s.vm.findClass RX7 = some m.cls) (hK : va_K G vwCl [(cy, .int)] s) (hP : va_P G vwCl (cM cy a q) H) (hlink : (Cond.fieldLink RX7 125 RX7 "earned" "I").before args s = true) {v : Int32} (hv : q 32 0 = v) (hdg : decode cc pc = .ok (.getfield 125, 3))
    (kk : W p l e R s m args below meth c H locs cells slots Q (F0 m (pc + 3) ls (.int v :: rest))) : W p l e R s m args below meth c H locs cells slots Q (F0 m pc ls (.ref (a 0) :: rest)) := by
  subst hv
  exact va_get (D := G) (ci := 7) (v := .int (q 32 0)) (C := RX7) (T := TX7) (N := 35) hx hb hts hin hown hK hP 0 rfl rfl 31 (by decide) hlink (fun _ h9 => h9) rfl hdg kk
theorem pfX7_125 (hx : p.tables.exec = Jvm.exec) (hb : c.code = cc) (hts : ∀ w ∈ Ts, w.before args s = true) (hin : ∀ w ∈ u_ws RX7 TX7 35, w ∈ Ts) (hown : s.vm.findClass RX7 = some m.cls) (hK : va_K G vwCl [(cy, .int)] s) (hP : va_P G vwCl (cM cy a q) H) (hD : ∀ q : wSt, va_D A (cM cy a q)) (hS : va_S A s.heap H locs) (hlink : (Cond.fieldLink RX7 125 RX7 "earned" "I").before args s = true) {v : Int32} (hdg : decode cc pc = .ok (.putfield 125, 3))
    (kk : ∀ (H1 : Heap) (locs1 : List Loc), va_P G vwCl (cM cy a (rset q 32 (fun _ => v))) H1 → va_S A s.heap H1 locs1 → W p l e R s m args below meth c H1 locs1 cells slots Q (F0 m (pc + 3) ls rest)) : W p l e R s m args below meth c H locs cells slots Q (F0 m pc ls (.int v :: .ref (a 0) :: rest)) :=
  va_put (D := G) (ci := 7) (v := .int v) (ty := .int) (C := RX7) (T := TX7) (N := 35) hx hb hts hin tyX7 tyX7_ok nmX7 hown hK hP (hD _) hS 0 rfl rfl 31 (by decide) hlink (fun _ h9 => h9) rfl (by decide +kernel) rfl rfl (Nat.le_of_ble_eq_true rfl) hdg (fun H1 locs1 h1 _ h3 => kk H1 locs1 h1 h3)
theorem gfX7_40 (hx : p.tables.exec = Jvm.exec) (hb : c.code = cc) (hts : ∀ w ∈ Ts, w.before args s = true) (hin : ∀ w ∈ u_ws RX7 TX7 35, w ∈ Ts) (hown : s.vm.findClass RX7 = some m.cls) (hK : va_K G vwCl [(cy, .int)] s) (hP : va_P G vwCl (cM cy a q) H) (hlink : (Cond.fieldLink RX7 40 RX7 "rank" "[I").before args s = true) (hdg : decode cc pc = .ok (.getfield 40, 3))
    (kk : W p l e R s m args below meth c H locs cells slots Q (F0 m (pc + 3) ls (.ref (a 11) :: rest))) : W p l e R s m args below meth c H locs cells slots Q (F0 m pc ls (.ref (a 0) :: rest)) := by
  exact va_get (D := G) (ci := 7) (v := .ref (a 11)) (C := RX7) (T := TX7) (N := 35) hx hb hts hin hown hK hP 0 rfl rfl 14 (by decide) hlink (fun _ h9 => h9) rfl hdg kk
theorem gfX7_43 (hx : p.tables.exec = Jvm.exec) (hb : c.code = cc) (hts : ∀ w ∈ Ts, w.before args s = true) (hin : ∀ w ∈ u_ws RX7 TX7 35, w ∈ Ts) (hown : s.vm.findClass RX7 = some m.cls) (hK : va_K G vwCl [(cy, .int)] s) (hP : va_P G vwCl (cM cy a q) H) (hlink : (Cond.fieldLink RX7 43 RX7 "boxDays" "[I").before args s = true) (hdg : decode cc pc = .ok (.getfield 43, 3))
    (kk : W p l e R s m args below meth c H locs cells slots Q (F0 m (pc + 3) ls (.ref (a 12) :: rest))) : W p l e R s m args below meth c H locs cells slots Q (F0 m pc ls (.ref (a 0) :: rest)) := by
  exact va_get (D := G) (ci := 7) (v := .ref (a 12)) (C := RX7) (T := TX7) (N := 35) hx hb hts hin hown hK hP 0 rfl rfl 15 (by decide) hlink (fun _ h9 => h9) rfl hdg kk
theorem gfX7_46 (hx : p.tables.exec = Jvm.exec) (hb : c.code = cc) (hts : ∀ w ∈ Ts, w.before args s = true) (hin : ∀ w ∈ u_ws RX7 TX7 35, w ∈ Ts) (hown : s.vm.findClass RX7 = some m.cls) (hK : va_K G vwCl [(cy, .int)] s) (hP : va_P G vwCl (cM cy a q) H) (hlink : (Cond.fieldLink RX7 46 RX7 "last" "[I").before args s = true) (hdg : decode cc pc = .ok (.getfield 46, 3))
    (kk : W p l e R s m args below meth c H locs cells slots Q (F0 m (pc + 3) ls (.ref (a 13) :: rest))) : W p l e R s m args below meth c H locs cells slots Q (F0 m pc ls (.ref (a 0) :: rest)) := by
  exact va_get (D := G) (ci := 7) (v := .ref (a 13)) (C := RX7) (T := TX7) (N := 35) hx hb hts hin hown hK hP 0 rfl rfl 16 (by decide) hlink (fun _ h9 => h9) rfl hdg kk
theorem pfX7_96 (hx : p.tables.exec = Jvm.exec) (hb : c.code = cc) (hts : ∀ w ∈ Ts, w.before args s = true) (hin : ∀ w ∈ u_ws RX7 TX7 35, w ∈ Ts) (hown : s.vm.findClass RX7 = some m.cls) (hK : va_K G vwCl [(cy, .int)] s) (hP : va_P G vwCl (cM cy a q) H) (hD : ∀ q : wSt, va_D A (cM cy a q)) (hS : va_S A s.heap H locs) (hlink : (Cond.fieldLink RX7 96 RX7 "readers" "I").before args s = true) {v : Int32} (hdg : decode cc pc = .ok (.putfield 96, 3))
    (kk : ∀ (H1 : Heap) (locs1 : List Loc), va_P G vwCl (cM cy a (rset q 39 (fun _ => v))) H1 → va_S A s.heap H1 locs1 → W p l e R s m args below meth c H1 locs1 cells slots Q (F0 m (pc + 3) ls rest)) : W p l e R s m args below meth c H locs cells slots Q (F0 m pc ls (.int v :: .ref (a 0) :: rest)) :=
  va_put (D := G) (ci := 7) (v := .int v) (ty := .int) (C := RX7) (T := TX7) (N := 35) hx hb hts hin tyX7 tyX7_ok nmX7 hown hK hP (hD _) hS 0 rfl rfl 13 (by decide) hlink (fun _ h9 => h9) rfl (by decide +kernel) rfl rfl (Nat.le_of_ble_eq_true rfl) hdg (fun H1 locs1 h1 _ h3 => kk H1 locs1 h1 h3)
theorem gfX7_52 (hx : p.tables.exec = Jvm.exec) (hb : c.code = cc) (hts : ∀ w ∈ Ts, w.before args s = true) (hin : ∀ w ∈ u_ws RX7 TX7 35, w ∈ Ts) (hown : s.vm.findClass RX7 = some m.cls) (hK : va_K G vwCl [(cy, .int)] s) (hP : va_P G vwCl (cM cy a q) H) (hlink : (Cond.fieldLink RX7 52 RX7 "wisher" "[I").before args s = true) (hdg : decode cc pc = .ok (.getfield 52, 3))
    (kk : W p l e R s m args below meth c H locs cells slots Q (F0 m (pc + 3) ls (.ref (a 15) :: rest))) : W p l e R s m args below meth c H locs cells slots Q (F0 m pc ls (.ref (a 0) :: rest)) := by
  exact va_get (D := G) (ci := 7) (v := .ref (a 15)) (C := RX7) (T := TX7) (N := 35) hx hb hts hin hown hK hP 0 rfl rfl 19 (by decide) hlink (fun _ h9 => h9) rfl hdg kk
theorem gfX7_55 (hx : p.tables.exec = Jvm.exec) (hb : c.code = cc) (hts : ∀ w ∈ Ts, w.before args s = true) (hin : ∀ w ∈ u_ws RX7 TX7 35, w ∈ Ts) (hown : s.vm.findClass RX7 = some m.cls) (hK : va_K G vwCl [(cy, .int)] s) (hP : va_P G vwCl (cM cy a q) H) (hlink : (Cond.fieldLink RX7 55 RX7 "wishTitle" "[I").before args s = true) (hdg : decode cc pc = .ok (.getfield 55, 3))
    (kk : W p l e R s m args below meth c H locs cells slots Q (F0 m (pc + 3) ls (.ref (a 16) :: rest))) : W p l e R s m args below meth c H locs cells slots Q (F0 m pc ls (.ref (a 0) :: rest)) := by
  exact va_get (D := G) (ci := 7) (v := .ref (a 16)) (C := RX7) (T := TX7) (N := 35) hx hb hts hin hown hK hP 0 rfl rfl 20 (by decide) hlink (fun _ h9 => h9) rfl hdg kk
theorem gfX7_58 (hx : p.tables.exec = Jvm.exec) (hb : c.code = cc) (hts : ∀ w ∈ Ts, w.before args s = true) (hin : ∀ w ∈ u_ws RX7 TX7 35, w ∈ Ts) (hown : s.vm.findClass RX7 = some m.cls) (hK : va_K G vwCl [(cy, .int)] s) (hP : va_P G vwCl (cM cy a q) H) (hlink : (Cond.fieldLink RX7 58 RX7 "wishState" "[I").before args s = true) (hdg : decode cc pc = .ok (.getfield 58, 3))
    (kk : W p l e R s m args below meth c H locs cells slots Q (F0 m (pc + 3) ls (.ref (a 17) :: rest))) : W p l e R s m args below meth c H locs cells slots Q (F0 m pc ls (.ref (a 0) :: rest)) := by
  exact va_get (D := G) (ci := 7) (v := .ref (a 17)) (C := RX7) (T := TX7) (N := 35) hx hb hts hin hown hK hP 0 rfl rfl 21 (by decide) hlink (fun _ h9 => h9) rfl hdg kk
theorem gfX7_64 (hx : p.tables.exec = Jvm.exec) (hb : c.code = cc) (hts : ∀ w ∈ Ts, w.before args s = true) (hin : ∀ w ∈ u_ws RX7 TX7 35, w ∈ Ts) (hown : s.vm.findClass RX7 = some m.cls) (hK : va_K G vwCl [(cy, .int)] s) (hP : va_P G vwCl (cM cy a q) H) (hlink : (Cond.fieldLink RX7 64 RX7 "waitsFrom" "[I").before args s = true) (hdg : decode cc pc = .ok (.getfield 64, 3))
    (kk : W p l e R s m args below meth c H locs cells slots Q (F0 m (pc + 3) ls (.ref (a 19) :: rest))) : W p l e R s m args below meth c H locs cells slots Q (F0 m pc ls (.ref (a 0) :: rest)) := by
  exact va_get (D := G) (ci := 7) (v := .ref (a 19)) (C := RX7) (T := TX7) (N := 35) hx hb hts hin hown hK hP 0 rfl rfl 23 (by decide) hlink (fun _ h9 => h9) rfl hdg kk
theorem pfX7_102 (hx : p.tables.exec = Jvm.exec) (hb : c.code = cc) (hts : ∀ w ∈ Ts, w.before args s = true) (hin : ∀ w ∈ u_ws RX7 TX7 35, w ∈ Ts) (hown : s.vm.findClass RX7 = some m.cls) (hK : va_K G vwCl [(cy, .int)] s) (hP : va_P G vwCl (cM cy a q) H) (hD : ∀ q : wSt, va_D A (cM cy a q)) (hS : va_S A s.heap H locs) (hlink : (Cond.fieldLink RX7 102 RX7 "wishes" "I").before args s = true) {v : Int32} (hdg : decode cc pc = .ok (.putfield 102, 3))
    (kk : ∀ (H1 : Heap) (locs1 : List Loc), va_P G vwCl (cM cy a (rset q 40 (fun _ => v))) H1 → va_S A s.heap H1 locs1 → W p l e R s m args below meth c H1 locs1 cells slots Q (F0 m (pc + 3) ls rest)) : W p l e R s m args below meth c H locs cells slots Q (F0 m pc ls (.int v :: .ref (a 0) :: rest)) :=
  va_put (D := G) (ci := 7) (v := .int v) (ty := .int) (C := RX7) (T := TX7) (N := 35) hx hb hts hin tyX7 tyX7_ok nmX7 hown hK hP (hD _) hS 0 rfl rfl 18 (by decide) hlink (fun _ h9 => h9) rfl (by decide +kernel) rfl rfl (Nat.le_of_ble_eq_true rfl) hdg (fun H1 locs1 h1 _ h3 => kk H1 locs1 h1 h3)
theorem gfX7_34 (hx : p.tables.exec = Jvm.exec) (hb : c.code = cc) (hts : ∀ w ∈ Ts, w.before args s = true) (hin : ∀ w ∈ u_ws RX7 TX7 35, w ∈ Ts) (hown : s.vm.findClass RX7 = some m.cls) (hK : va_K G vwCl [(cy, .int)] s) (hP : va_P G vwCl (cM cy a q) H) (hlink : (Cond.fieldLink RX7 34 RX7 "toGo" "[I").before args s = true) (hdg : decode cc pc = .ok (.getfield 34, 3))
    (kk : W p l e R s m args below meth c H locs cells slots Q (F0 m (pc + 3) ls (.ref (a 9) :: rest))) : W p l e R s m args below meth c H locs cells slots Q (F0 m pc ls (.ref (a 0) :: rest)) := by
  exact va_get (D := G) (ci := 7) (v := .ref (a 9)) (C := RX7) (T := TX7) (N := 35) hx hb hts hin hown hK hP 0 rfl rfl 11 (by decide) hlink (fun _ h9 => h9) rfl hdg kk
theorem gfX7_61 (hx : p.tables.exec = Jvm.exec) (hb : c.code = cc) (hts : ∀ w ∈ Ts, w.before args s = true) (hin : ∀ w ∈ u_ws RX7 TX7 35, w ∈ Ts) (hown : s.vm.findClass RX7 = some m.cls) (hK : va_K G vwCl [(cy, .int)] s) (hP : va_P G vwCl (cM cy a q) H) (hlink : (Cond.fieldLink RX7 61 RX7 "had" "[I").before args s = true) (hdg : decode cc pc = .ok (.getfield 61, 3))
    (kk : W p l e R s m args below meth c H locs cells slots Q (F0 m (pc + 3) ls (.ref (a 18) :: rest))) : W p l e R s m args below meth c H locs cells slots Q (F0 m pc ls (.ref (a 0) :: rest)) := by
  exact va_get (D := G) (ci := 7) (v := .ref (a 18)) (C := RX7) (T := TX7) (N := 35) hx hb hts hin hown hK hP 0 rfl rfl 22 (by decide) hlink (fun _ h9 => h9) rfl hdg kk
theorem gfX7_37 (hx : p.tables.exec = Jvm.exec) (hb : c.code = cc) (hts : ∀ w ∈ Ts, w.before args s = true) (hin : ∀ w ∈ u_ws RX7 TX7 35, w ∈ Ts) (hown : s.vm.findClass RX7 = some m.cls) (hK : va_K G vwCl [(cy, .int)] s) (hP : va_P G vwCl (cM cy a q) H) (hlink : (Cond.fieldLink RX7 37 RX7 "lent" "[I").before args s = true) (hdg : decode cc pc = .ok (.getfield 37, 3))
    (kk : W p l e R s m args below meth c H locs cells slots Q (F0 m (pc + 3) ls (.ref (a 10) :: rest))) : W p l e R s m args below meth c H locs cells slots Q (F0 m pc ls (.ref (a 0) :: rest)) := by
  exact va_get (D := G) (ci := 7) (v := .ref (a 10)) (C := RX7) (T := TX7) (N := 35) hx hb hts hin hown hK hP 0 rfl rfl 12 (by decide) hlink (fun _ h9 => h9) rfl hdg kk
theorem pfX7_112 (hx : p.tables.exec = Jvm.exec) (hb : c.code = cc) (hts : ∀ w ∈ Ts, w.before args s = true) (hin : ∀ w ∈ u_ws RX7 TX7 35, w ∈ Ts) (hown : s.vm.findClass RX7 = some m.cls) (hK : va_K G vwCl [(cy, .int)] s) (hP : va_P G vwCl (cM cy a q) H) (hD : ∀ q : wSt, va_D A (cM cy a q)) (hS : va_S A s.heap H locs) (hlink : (Cond.fieldLink RX7 112 RX7 "now" "I").before args s = true) {v : Int32} (hdg : decode cc pc = .ok (.putfield 112, 3))
    (kk : ∀ (H1 : Heap) (locs1 : List Loc), va_P G vwCl (cM cy a (rset q 30 (fun _ => v))) H1 → va_S A s.heap H1 locs1 → W p l e R s m args below meth c H1 locs1 cells slots Q (F0 m (pc + 3) ls rest)) : W p l e R s m args below meth c H locs cells slots Q (F0 m pc ls (.int v :: .ref (a 0) :: rest)) :=
  va_put (D := G) (ci := 7) (v := .int v) (ty := .int) (C := RX7) (T := TX7) (N := 35) hx hb hts hin tyX7 tyX7_ok nmX7 hown hK hP (hD _) hS 0 rfl rfl 0 (by decide) hlink (fun _ h9 => h9) rfl (by decide +kernel) rfl rfl (Nat.le_of_ble_eq_true rfl) hdg (fun H1 locs1 h1 _ h3 => kk H1 locs1 h1 h3)
theorem gfX7_49 (hx : p.tables.exec = Jvm.exec) (hb : c.code = cc) (hts : ∀ w ∈ Ts, w.before args s = true) (hin : ∀ w ∈ u_ws RX7 TX7 35, w ∈ Ts) (hown : s.vm.findClass RX7 = some m.cls) (hK : va_K G vwCl [(cy, .int)] s) (hP : va_P G vwCl (cM cy a q) H) (hlink : (Cond.fieldLink RX7 49 RX7 "owed" "[I").before args s = true) (hdg : decode cc pc = .ok (.getfield 49, 3))
    (kk : W p l e R s m args below meth c H locs cells slots Q (F0 m (pc + 3) ls (.ref (a 14) :: rest))) : W p l e R s m args below meth c H locs cells slots Q (F0 m pc ls (.ref (a 0) :: rest)) := by
  exact va_get (D := G) (ci := 7) (v := .ref (a 14)) (C := RX7) (T := TX7) (N := 35) hx hb hts hin hown hK hP 0 rfl rfl 17 (by decide) hlink (fun _ h9 => h9) rfl hdg kk
theorem gfX7_171 (hx : p.tables.exec = Jvm.exec) (hb : c.code = cc) (hts : ∀ w ∈ Ts, w.before args s = true) (hin : ∀ w ∈ u_ws RX7 TX7 35, w ∈ Ts) (hown : s.vm.findClass RX7 = some m.cls) (hK : va_K G vwCl [(cy, .int)] s) (hP : va_P G vwCl (cM cy a q) H) (hlink : (Cond.fieldLink RX7 171 RX7 "paid" "I").before args s = true) {v : Int32} (hv : q 33 0 = v) (hdg : decode cc pc = .ok (.getfield 171, 3))
    (kk : W p l e R s m args below meth c H locs cells slots Q (F0 m (pc + 3) ls (.int v :: rest))) : W p l e R s m args below meth c H locs cells slots Q (F0 m pc ls (.ref (a 0) :: rest)) := by
  subst hv
  exact va_get (D := G) (ci := 7) (v := .int (q 33 0)) (C := RX7) (T := TX7) (N := 35) hx hb hts hin hown hK hP 0 rfl rfl 32 (by decide) hlink (fun _ h9 => h9) rfl hdg kk
theorem pfX7_171 (hx : p.tables.exec = Jvm.exec) (hb : c.code = cc) (hts : ∀ w ∈ Ts, w.before args s = true) (hin : ∀ w ∈ u_ws RX7 TX7 35, w ∈ Ts) (hown : s.vm.findClass RX7 = some m.cls) (hK : va_K G vwCl [(cy, .int)] s) (hP : va_P G vwCl (cM cy a q) H) (hD : ∀ q : wSt, va_D A (cM cy a q)) (hS : va_S A s.heap H locs) (hlink : (Cond.fieldLink RX7 171 RX7 "paid" "I").before args s = true) {v : Int32} (hdg : decode cc pc = .ok (.putfield 171, 3))
    (kk : ∀ (H1 : Heap) (locs1 : List Loc), va_P G vwCl (cM cy a (rset q 33 (fun _ => v))) H1 → va_S A s.heap H1 locs1 → W p l e R s m args below meth c H1 locs1 cells slots Q (F0 m (pc + 3) ls rest)) : W p l e R s m args below meth c H locs cells slots Q (F0 m pc ls (.int v :: .ref (a 0) :: rest)) :=
  va_put (D := G) (ci := 7) (v := .int v) (ty := .int) (C := RX7) (T := TX7) (N := 35) hx hb hts hin tyX7 tyX7_ok nmX7 hown hK hP (hD _) hS 0 rfl rfl 32 (by decide) hlink (fun _ h9 => h9) rfl (by decide +kernel) rfl rfl (Nat.le_of_ble_eq_true rfl) hdg (fun H1 locs1 h1 _ h3 => kk H1 locs1 h1 h3)
theorem gfX7_82 (hx : p.tables.exec = Jvm.exec) (hb : c.code = cc) (hts : ∀ w ∈ Ts, w.before args s = true) (hin : ∀ w ∈ u_ws RX7 TX7 35, w ∈ Ts) (hown : s.vm.findClass RX7 = some m.cls) (hK : va_K G vwCl [(cy, .int)] s) (hP : va_P G vwCl (cM cy a q) H) (hlink : (Cond.fieldLink RX7 82 RX7 "wanted" "[I").before args s = true) (hdg : decode cc pc = .ok (.getfield 82, 3))
    (kk : W p l e R s m args below meth c H locs cells slots Q (F0 m (pc + 3) ls (.ref (a 25) :: rest))) : W p l e R s m args below meth c H locs cells slots Q (F0 m pc ls (.ref (a 0) :: rest)) := by
  exact va_get (D := G) (ci := 7) (v := .ref (a 25)) (C := RX7) (T := TX7) (N := 35) hx hb hts hin hown hK hP 0 rfl rfl 33 (by decide) hlink (fun _ h9 => h9) rfl hdg kk
theorem gfX7_85 (hx : p.tables.exec = Jvm.exec) (hb : c.code = cc) (hts : ∀ w ∈ Ts, w.before args s = true) (hin : ∀ w ∈ u_ws RX7 TX7 35, w ∈ Ts) (hown : s.vm.findClass RX7 = some m.cls) (hK : va_K G vwCl [(cy, .int)] s) (hP : va_P G vwCl (cM cy a q) H) (hlink : (Cond.fieldLink RX7 85 RX7 "sale" "[I").before args s = true) (hdg : decode cc pc = .ok (.getfield 85, 3))
    (kk : W p l e R s m args below meth c H locs cells slots Q (F0 m (pc + 3) ls (.ref (a 26) :: rest))) : W p l e R s m args below meth c H locs cells slots Q (F0 m pc ls (.ref (a 0) :: rest)) := by
  exact va_get (D := G) (ci := 7) (v := .ref (a 26)) (C := RX7) (T := TX7) (N := 35) hx hb hts hin hown hK hP 0 rfl rfl 34 (by decide) hlink (fun _ h9 => h9) rfl hdg kk
theorem ldX_0 (hx : p.tables.exec = Jvm.exec) (hb : c.code = cc) (hK : va_K G vwCl [(cy, .int)] s) (hP : va_P G vwCl (cX cy a q) H) {f : Nat → Int32} (hf : q 0 = f) {i : Int32} (hi : vp_in i 12) (hdg : decode cc pc = .ok (.iaload, 1))
    (kk : W p l e R s m args below meth c H locs cells slots Q (F0 m (pc + 1) ls (.int (f i.toNatClampNeg) :: rest))) : W p l e R s m args below meth c H locs cells slots Q (F0 m pc ls (.int i :: .ref (a 7) :: rest)) := by
  subst hf
  exact va_iald hx hb hK hP 7 0 (f := q 0) rfl rfl hi hdg kk
theorem stX_0 (hx : p.tables.exec = Jvm.exec) (hb : c.code = cc) (hK : va_K G vwCl [(cy, .int)] s) (hP : va_P G vwCl (cX cy a q) H) (hD : ∀ q : wSt, va_D A (cX cy a q)) (hS : va_S A s.heap H locs) {f : Nat → Int32} (hf : q 0 = f) {i x : Int32} (hi : vp_in i 12) (hdg : decode cc pc = .ok (.iastore, 1))
    (kk : ∀ (H1 : Heap) (locs1 : List Loc), va_P G vwCl (cX cy a (rset q 0 (upd f i.toNatClampNeg x))) H1 → va_S A s.heap H1 locs1 → W p l e R s m args below meth c H1 locs1 cells slots Q (F0 m (pc + 1) ls rest)) : W p l e R s m args below meth c H locs cells slots Q (F0 m pc ls (.int x :: .int i :: .ref (a 7) :: rest)) := by
  subst hf
  exact va_iast hx hb hK hP (hD _) hS 7 0 (f := q 0) rfl rfl hi hdg (fun H1 locs1 h1 _ h3 => kk H1 locs1 h1 h3)
theorem ldX_1 (hx : p.tables.exec = Jvm.exec) (hb : c.code = cc) (hK : va_K G vwCl [(cy, .int)] s) (hP : va_P G vwCl (cX cy a q) H) {f : Nat → Int32} (hf : q 1 = f) {i : Int32} (hi : vp_in i 40) (hdg : decode cc pc = .ok (.iaload, 1))
    (kk : W p l e R s m args below meth c H locs cells slots Q (F0 m (pc + 1) ls (.int (f i.toNatClampNeg) :: rest))) : W p l e R s m args below meth c H locs cells slots Q (F0 m pc ls (.int i :: .ref (a 8) :: rest)) := by
  subst hf
  exact va_iald hx hb hK hP 8 0 (f := q 1) rfl rfl hi hdg kk
theorem stX_1 (hx : p.tables.exec = Jvm.exec) (hb : c.code = cc) (hK : va_K G vwCl [(cy, .int)] s) (hP : va_P G vwCl (cX cy a q) H) (hD : ∀ q : wSt, va_D A (cX cy a q)) (hS : va_S A s.heap H locs) {f : Nat → Int32} (hf : q 1 = f) {i x : Int32} (hi : vp_in i 40) (hdg : decode cc pc = .ok (.iastore, 1))
    (kk : ∀ (H1 : Heap) (locs1 : List Loc), va_P G vwCl (cX cy a (rset q 1 (upd f i.toNatClampNeg x))) H1 → va_S A s.heap H1 locs1 → W p l e R s m args below meth c H1 locs1 cells slots Q (F0 m (pc + 1) ls rest)) : W p l e R s m args below meth c H locs cells slots Q (F0 m pc ls (.int x :: .int i :: .ref (a 8) :: rest)) := by
  subst hf
  exact va_iast hx hb hK hP (hD _) hS 8 0 (f := q 1) rfl rfl hi hdg (fun H1 locs1 h1 _ h3 => kk H1 locs1 h1 h3)
theorem ldX_2 (hx : p.tables.exec = Jvm.exec) (hb : c.code = cc) (hK : va_K G vwCl [(cy, .int)] s) (hP : va_P G vwCl (cX cy a q) H) {f : Nat → Int32} (hf : q 2 = f) {i : Int32} (hi : vp_in i 40) (hdg : decode cc pc = .ok (.iaload, 1))
    (kk : W p l e R s m args below meth c H locs cells slots Q (F0 m (pc + 1) ls (.int (f i.toNatClampNeg) :: rest))) : W p l e R s m args below meth c H locs cells slots Q (F0 m pc ls (.int i :: .ref (a 9) :: rest)) := by
  subst hf
  exact va_iald hx hb hK hP 9 0 (f := q 2) rfl rfl hi hdg kk
theorem stX_2 (hx : p.tables.exec = Jvm.exec) (hb : c.code = cc) (hK : va_K G vwCl [(cy, .int)] s) (hP : va_P G vwCl (cX cy a q) H) (hD : ∀ q : wSt, va_D A (cX cy a q)) (hS : va_S A s.heap H locs) {f : Nat → Int32} (hf : q 2 = f) {i x : Int32} (hi : vp_in i 40) (hdg : decode cc pc = .ok (.iastore, 1))
    (kk : ∀ (H1 : Heap) (locs1 : List Loc), va_P G vwCl (cX cy a (rset q 2 (upd f i.toNatClampNeg x))) H1 → va_S A s.heap H1 locs1 → W p l e R s m args below meth c H1 locs1 cells slots Q (F0 m (pc + 1) ls rest)) : W p l e R s m args below meth c H locs cells slots Q (F0 m pc ls (.int x :: .int i :: .ref (a 9) :: rest)) := by
  subst hf
  exact va_iast hx hb hK hP (hD _) hS 9 0 (f := q 2) rfl rfl hi hdg (fun H1 locs1 h1 _ h3 => kk H1 locs1 h1 h3)
theorem ldX_3 (hx : p.tables.exec = Jvm.exec) (hb : c.code = cc) (hK : va_K G vwCl [(cy, .int)] s) (hP : va_P G vwCl (cX cy a q) H) {f : Nat → Int32} (hf : q 3 = f) {i : Int32} (hi : vp_in i 40) (hdg : decode cc pc = .ok (.iaload, 1))
    (kk : W p l e R s m args below meth c H locs cells slots Q (F0 m (pc + 1) ls (.int (f i.toNatClampNeg) :: rest))) : W p l e R s m args below meth c H locs cells slots Q (F0 m pc ls (.int i :: .ref (a 10) :: rest)) := by
  subst hf
  exact va_iald hx hb hK hP 10 0 (f := q 3) rfl rfl hi hdg kk
theorem stX_3 (hx : p.tables.exec = Jvm.exec) (hb : c.code = cc) (hK : va_K G vwCl [(cy, .int)] s) (hP : va_P G vwCl (cX cy a q) H) (hD : ∀ q : wSt, va_D A (cX cy a q)) (hS : va_S A s.heap H locs) {f : Nat → Int32} (hf : q 3 = f) {i x : Int32} (hi : vp_in i 40) (hdg : decode cc pc = .ok (.iastore, 1))
    (kk : ∀ (H1 : Heap) (locs1 : List Loc), va_P G vwCl (cX cy a (rset q 3 (upd f i.toNatClampNeg x))) H1 → va_S A s.heap H1 locs1 → W p l e R s m args below meth c H1 locs1 cells slots Q (F0 m (pc + 1) ls rest)) : W p l e R s m args below meth c H locs cells slots Q (F0 m pc ls (.int x :: .int i :: .ref (a 10) :: rest)) := by
  subst hf
  exact va_iast hx hb hK hP (hD _) hS 10 0 (f := q 3) rfl rfl hi hdg (fun H1 locs1 h1 _ h3 => kk H1 locs1 h1 h3)
theorem ldX_4 (hx : p.tables.exec = Jvm.exec) (hb : c.code = cc) (hK : va_K G vwCl [(cy, .int)] s) (hP : va_P G vwCl (cX cy a q) H) {f : Nat → Int32} (hf : q 4 = f) {i : Int32} (hi : vp_in i 40) (hdg : decode cc pc = .ok (.iaload, 1))
    (kk : W p l e R s m args below meth c H locs cells slots Q (F0 m (pc + 1) ls (.int (f i.toNatClampNeg) :: rest))) : W p l e R s m args below meth c H locs cells slots Q (F0 m pc ls (.int i :: .ref (a 11) :: rest)) := by
  subst hf
  exact va_iald hx hb hK hP 11 0 (f := q 4) rfl rfl hi hdg kk
theorem stX_4 (hx : p.tables.exec = Jvm.exec) (hb : c.code = cc) (hK : va_K G vwCl [(cy, .int)] s) (hP : va_P G vwCl (cX cy a q) H) (hD : ∀ q : wSt, va_D A (cX cy a q)) (hS : va_S A s.heap H locs) {f : Nat → Int32} (hf : q 4 = f) {i x : Int32} (hi : vp_in i 40) (hdg : decode cc pc = .ok (.iastore, 1))
    (kk : ∀ (H1 : Heap) (locs1 : List Loc), va_P G vwCl (cX cy a (rset q 4 (upd f i.toNatClampNeg x))) H1 → va_S A s.heap H1 locs1 → W p l e R s m args below meth c H1 locs1 cells slots Q (F0 m (pc + 1) ls rest)) : W p l e R s m args below meth c H locs cells slots Q (F0 m pc ls (.int x :: .int i :: .ref (a 11) :: rest)) := by
  subst hf
  exact va_iast hx hb hK hP (hD _) hS 11 0 (f := q 4) rfl rfl hi hdg (fun H1 locs1 h1 _ h3 => kk H1 locs1 h1 h3)
theorem ldX_5 (hx : p.tables.exec = Jvm.exec) (hb : c.code = cc) (hK : va_K G vwCl [(cy, .int)] s) (hP : va_P G vwCl (cX cy a q) H) {f : Nat → Int32} (hf : q 5 = f) {i : Int32} (hi : vp_in i 40) (hdg : decode cc pc = .ok (.iaload, 1))
    (kk : W p l e R s m args below meth c H locs cells slots Q (F0 m (pc + 1) ls (.int (f i.toNatClampNeg) :: rest))) : W p l e R s m args below meth c H locs cells slots Q (F0 m pc ls (.int i :: .ref (a 12) :: rest)) := by
  subst hf
  exact va_iald hx hb hK hP 12 0 (f := q 5) rfl rfl hi hdg kk
theorem stX_5 (hx : p.tables.exec = Jvm.exec) (hb : c.code = cc) (hK : va_K G vwCl [(cy, .int)] s) (hP : va_P G vwCl (cX cy a q) H) (hD : ∀ q : wSt, va_D A (cX cy a q)) (hS : va_S A s.heap H locs) {f : Nat → Int32} (hf : q 5 = f) {i x : Int32} (hi : vp_in i 40) (hdg : decode cc pc = .ok (.iastore, 1))
    (kk : ∀ (H1 : Heap) (locs1 : List Loc), va_P G vwCl (cX cy a (rset q 5 (upd f i.toNatClampNeg x))) H1 → va_S A s.heap H1 locs1 → W p l e R s m args below meth c H1 locs1 cells slots Q (F0 m (pc + 1) ls rest)) : W p l e R s m args below meth c H locs cells slots Q (F0 m pc ls (.int x :: .int i :: .ref (a 12) :: rest)) := by
  subst hf
  exact va_iast hx hb hK hP (hD _) hS 12 0 (f := q 5) rfl rfl hi hdg (fun H1 locs1 h1 _ h3 => kk H1 locs1 h1 h3)
theorem ldX_6 (hx : p.tables.exec = Jvm.exec) (hb : c.code = cc) (hK : va_K G vwCl [(cy, .int)] s) (hP : va_P G vwCl (cX cy a q) H) {f : Nat → Int32} (hf : q 6 = f) {i : Int32} (hi : vp_in i 200) (hdg : decode cc pc = .ok (.iaload, 1))
    (kk : W p l e R s m args below meth c H locs cells slots Q (F0 m (pc + 1) ls (.int (f i.toNatClampNeg) :: rest))) : W p l e R s m args below meth c H locs cells slots Q (F0 m pc ls (.int i :: .ref (a 13) :: rest)) := by
  subst hf
  exact va_iald hx hb hK hP 13 0 (f := q 6) rfl rfl hi hdg kk
theorem stX_6 (hx : p.tables.exec = Jvm.exec) (hb : c.code = cc) (hK : va_K G vwCl [(cy, .int)] s) (hP : va_P G vwCl (cX cy a q) H) (hD : ∀ q : wSt, va_D A (cX cy a q)) (hS : va_S A s.heap H locs) {f : Nat → Int32} (hf : q 6 = f) {i x : Int32} (hi : vp_in i 200) (hdg : decode cc pc = .ok (.iastore, 1))
    (kk : ∀ (H1 : Heap) (locs1 : List Loc), va_P G vwCl (cX cy a (rset q 6 (upd f i.toNatClampNeg x))) H1 → va_S A s.heap H1 locs1 → W p l e R s m args below meth c H1 locs1 cells slots Q (F0 m (pc + 1) ls rest)) : W p l e R s m args below meth c H locs cells slots Q (F0 m pc ls (.int x :: .int i :: .ref (a 13) :: rest)) := by
  subst hf
  exact va_iast hx hb hK hP (hD _) hS 13 0 (f := q 6) rfl rfl hi hdg (fun H1 locs1 h1 _ h3 => kk H1 locs1 h1 h3)
theorem ldX_7 (hx : p.tables.exec = Jvm.exec) (hb : c.code = cc) (hK : va_K G vwCl [(cy, .int)] s) (hP : va_P G vwCl (cX cy a q) H) {f : Nat → Int32} (hf : q 7 = f) {i : Int32} (hi : vp_in i 200) (hdg : decode cc pc = .ok (.iaload, 1))
    (kk : W p l e R s m args below meth c H locs cells slots Q (F0 m (pc + 1) ls (.int (f i.toNatClampNeg) :: rest))) : W p l e R s m args below meth c H locs cells slots Q (F0 m pc ls (.int i :: .ref (a 14) :: rest)) := by
  subst hf
  exact va_iald hx hb hK hP 14 0 (f := q 7) rfl rfl hi hdg kk
theorem stX_7 (hx : p.tables.exec = Jvm.exec) (hb : c.code = cc) (hK : va_K G vwCl [(cy, .int)] s) (hP : va_P G vwCl (cX cy a q) H) (hD : ∀ q : wSt, va_D A (cX cy a q)) (hS : va_S A s.heap H locs) {f : Nat → Int32} (hf : q 7 = f) {i x : Int32} (hi : vp_in i 200) (hdg : decode cc pc = .ok (.iastore, 1))
    (kk : ∀ (H1 : Heap) (locs1 : List Loc), va_P G vwCl (cX cy a (rset q 7 (upd f i.toNatClampNeg x))) H1 → va_S A s.heap H1 locs1 → W p l e R s m args below meth c H1 locs1 cells slots Q (F0 m (pc + 1) ls rest)) : W p l e R s m args below meth c H locs cells slots Q (F0 m pc ls (.int x :: .int i :: .ref (a 14) :: rest)) := by
  subst hf
  exact va_iast hx hb hK hP (hD _) hS 14 0 (f := q 7) rfl rfl hi hdg (fun H1 locs1 h1 _ h3 => kk H1 locs1 h1 h3)
theorem ldX_8 (hx : p.tables.exec = Jvm.exec) (hb : c.code = cc) (hK : va_K G vwCl [(cy, .int)] s) (hP : va_P G vwCl (cX cy a q) H) {f : Nat → Int32} (hf : q 8 = f) {i : Int32} (hi : vp_in i 200) (hdg : decode cc pc = .ok (.iaload, 1))
    (kk : W p l e R s m args below meth c H locs cells slots Q (F0 m (pc + 1) ls (.int (f i.toNatClampNeg) :: rest))) : W p l e R s m args below meth c H locs cells slots Q (F0 m pc ls (.int i :: .ref (a 15) :: rest)) := by
  subst hf
  exact va_iald hx hb hK hP 15 0 (f := q 8) rfl rfl hi hdg kk
theorem stX_8 (hx : p.tables.exec = Jvm.exec) (hb : c.code = cc) (hK : va_K G vwCl [(cy, .int)] s) (hP : va_P G vwCl (cX cy a q) H) (hD : ∀ q : wSt, va_D A (cX cy a q)) (hS : va_S A s.heap H locs) {f : Nat → Int32} (hf : q 8 = f) {i x : Int32} (hi : vp_in i 200) (hdg : decode cc pc = .ok (.iastore, 1))
    (kk : ∀ (H1 : Heap) (locs1 : List Loc), va_P G vwCl (cX cy a (rset q 8 (upd f i.toNatClampNeg x))) H1 → va_S A s.heap H1 locs1 → W p l e R s m args below meth c H1 locs1 cells slots Q (F0 m (pc + 1) ls rest)) : W p l e R s m args below meth c H locs cells slots Q (F0 m pc ls (.int x :: .int i :: .ref (a 15) :: rest)) := by
  subst hf
  exact va_iast hx hb hK hP (hD _) hS 15 0 (f := q 8) rfl rfl hi hdg (fun H1 locs1 h1 _ h3 => kk H1 locs1 h1 h3)
theorem ldX_9 (hx : p.tables.exec = Jvm.exec) (hb : c.code = cc) (hK : va_K G vwCl [(cy, .int)] s) (hP : va_P G vwCl (cX cy a q) H) {f : Nat → Int32} (hf : q 9 = f) {i : Int32} (hi : vp_in i 200) (hdg : decode cc pc = .ok (.iaload, 1))
    (kk : W p l e R s m args below meth c H locs cells slots Q (F0 m (pc + 1) ls (.int (f i.toNatClampNeg) :: rest))) : W p l e R s m args below meth c H locs cells slots Q (F0 m pc ls (.int i :: .ref (a 16) :: rest)) := by
  subst hf
  exact va_iald hx hb hK hP 16 0 (f := q 9) rfl rfl hi hdg kk
theorem stX_9 (hx : p.tables.exec = Jvm.exec) (hb : c.code = cc) (hK : va_K G vwCl [(cy, .int)] s) (hP : va_P G vwCl (cX cy a q) H) (hD : ∀ q : wSt, va_D A (cX cy a q)) (hS : va_S A s.heap H locs) {f : Nat → Int32} (hf : q 9 = f) {i x : Int32} (hi : vp_in i 200) (hdg : decode cc pc = .ok (.iastore, 1))
    (kk : ∀ (H1 : Heap) (locs1 : List Loc), va_P G vwCl (cX cy a (rset q 9 (upd f i.toNatClampNeg x))) H1 → va_S A s.heap H1 locs1 → W p l e R s m args below meth c H1 locs1 cells slots Q (F0 m (pc + 1) ls rest)) : W p l e R s m args below meth c H locs cells slots Q (F0 m pc ls (.int x :: .int i :: .ref (a 16) :: rest)) := by
  subst hf
  exact va_iast hx hb hK hP (hD _) hS 16 0 (f := q 9) rfl rfl hi hdg (fun H1 locs1 h1 _ h3 => kk H1 locs1 h1 h3)
theorem ldX_10 (hx : p.tables.exec = Jvm.exec) (hb : c.code = cc) (hK : va_K G vwCl [(cy, .int)] s) (hP : va_P G vwCl (cX cy a q) H) {f : Nat → Int32} (hf : q 10 = f) {i : Int32} (hi : vp_in i 200) (hdg : decode cc pc = .ok (.iaload, 1))
    (kk : W p l e R s m args below meth c H locs cells slots Q (F0 m (pc + 1) ls (.int (f i.toNatClampNeg) :: rest))) : W p l e R s m args below meth c H locs cells slots Q (F0 m pc ls (.int i :: .ref (a 17) :: rest)) := by
  subst hf
  exact va_iald hx hb hK hP 17 0 (f := q 10) rfl rfl hi hdg kk
theorem stX_10 (hx : p.tables.exec = Jvm.exec) (hb : c.code = cc) (hK : va_K G vwCl [(cy, .int)] s) (hP : va_P G vwCl (cX cy a q) H) (hD : ∀ q : wSt, va_D A (cX cy a q)) (hS : va_S A s.heap H locs) {f : Nat → Int32} (hf : q 10 = f) {i x : Int32} (hi : vp_in i 200) (hdg : decode cc pc = .ok (.iastore, 1))
    (kk : ∀ (H1 : Heap) (locs1 : List Loc), va_P G vwCl (cX cy a (rset q 10 (upd f i.toNatClampNeg x))) H1 → va_S A s.heap H1 locs1 → W p l e R s m args below meth c H1 locs1 cells slots Q (F0 m (pc + 1) ls rest)) : W p l e R s m args below meth c H locs cells slots Q (F0 m pc ls (.int x :: .int i :: .ref (a 17) :: rest)) := by
  subst hf
  exact va_iast hx hb hK hP (hD _) hS 17 0 (f := q 10) rfl rfl hi hdg (fun H1 locs1 h1 _ h3 => kk H1 locs1 h1 h3)
theorem ldX_11 (hx : p.tables.exec = Jvm.exec) (hb : c.code = cc) (hK : va_K G vwCl [(cy, .int)] s) (hP : va_P G vwCl (cX cy a q) H) {f : Nat → Int32} (hf : q 11 = f) {i : Int32} (hi : vp_in i 200) (hdg : decode cc pc = .ok (.iaload, 1))
    (kk : W p l e R s m args below meth c H locs cells slots Q (F0 m (pc + 1) ls (.int (f i.toNatClampNeg) :: rest))) : W p l e R s m args below meth c H locs cells slots Q (F0 m pc ls (.int i :: .ref (a 18) :: rest)) := by
  subst hf
  exact va_iald hx hb hK hP 18 0 (f := q 11) rfl rfl hi hdg kk
theorem stX_11 (hx : p.tables.exec = Jvm.exec) (hb : c.code = cc) (hK : va_K G vwCl [(cy, .int)] s) (hP : va_P G vwCl (cX cy a q) H) (hD : ∀ q : wSt, va_D A (cX cy a q)) (hS : va_S A s.heap H locs) {f : Nat → Int32} (hf : q 11 = f) {i x : Int32} (hi : vp_in i 200) (hdg : decode cc pc = .ok (.iastore, 1))
    (kk : ∀ (H1 : Heap) (locs1 : List Loc), va_P G vwCl (cX cy a (rset q 11 (upd f i.toNatClampNeg x))) H1 → va_S A s.heap H1 locs1 → W p l e R s m args below meth c H1 locs1 cells slots Q (F0 m (pc + 1) ls rest)) : W p l e R s m args below meth c H locs cells slots Q (F0 m pc ls (.int x :: .int i :: .ref (a 18) :: rest)) := by
  subst hf
  exact va_iast hx hb hK hP (hD _) hS 18 0 (f := q 11) rfl rfl hi hdg (fun H1 locs1 h1 _ h3 => kk H1 locs1 h1 h3)
theorem ldX_12 (hx : p.tables.exec = Jvm.exec) (hb : c.code = cc) (hK : va_K G vwCl [(cy, .int)] s) (hP : va_P G vwCl (cX cy a q) H) {f : Nat → Int32} (hf : q 12 = f) {i : Int32} (hi : vp_in i 200) (hdg : decode cc pc = .ok (.iaload, 1))
    (kk : W p l e R s m args below meth c H locs cells slots Q (F0 m (pc + 1) ls (.int (f i.toNatClampNeg) :: rest))) : W p l e R s m args below meth c H locs cells slots Q (F0 m pc ls (.int i :: .ref (a 19) :: rest)) := by
  subst hf
  exact va_iald hx hb hK hP 19 0 (f := q 12) rfl rfl hi hdg kk
theorem stX_12 (hx : p.tables.exec = Jvm.exec) (hb : c.code = cc) (hK : va_K G vwCl [(cy, .int)] s) (hP : va_P G vwCl (cX cy a q) H) (hD : ∀ q : wSt, va_D A (cX cy a q)) (hS : va_S A s.heap H locs) {f : Nat → Int32} (hf : q 12 = f) {i x : Int32} (hi : vp_in i 200) (hdg : decode cc pc = .ok (.iastore, 1))
    (kk : ∀ (H1 : Heap) (locs1 : List Loc), va_P G vwCl (cX cy a (rset q 12 (upd f i.toNatClampNeg x))) H1 → va_S A s.heap H1 locs1 → W p l e R s m args below meth c H1 locs1 cells slots Q (F0 m (pc + 1) ls rest)) : W p l e R s m args below meth c H locs cells slots Q (F0 m pc ls (.int x :: .int i :: .ref (a 19) :: rest)) := by
  subst hf
  exact va_iast hx hb hK hP (hD _) hS 19 0 (f := q 12) rfl rfl hi hdg (fun H1 locs1 h1 _ h3 => kk H1 locs1 h1 h3)
theorem ldX_13 (hx : p.tables.exec = Jvm.exec) (hb : c.code = cc) (hK : va_K G vwCl [(cy, .int)] s) (hP : va_P G vwCl (cX cy a q) H) {f : Nat → Int32} (hf : q 13 = f) {i : Int32} (hi : vp_in i 200) (hdg : decode cc pc = .ok (.iaload, 1))
    (kk : W p l e R s m args below meth c H locs cells slots Q (F0 m (pc + 1) ls (.int (f i.toNatClampNeg) :: rest))) : W p l e R s m args below meth c H locs cells slots Q (F0 m pc ls (.int i :: .ref (a 20) :: rest)) := by
  subst hf
  exact va_iald hx hb hK hP 20 0 (f := q 13) rfl rfl hi hdg kk
theorem stX_13 (hx : p.tables.exec = Jvm.exec) (hb : c.code = cc) (hK : va_K G vwCl [(cy, .int)] s) (hP : va_P G vwCl (cX cy a q) H) (hD : ∀ q : wSt, va_D A (cX cy a q)) (hS : va_S A s.heap H locs) {f : Nat → Int32} (hf : q 13 = f) {i x : Int32} (hi : vp_in i 200) (hdg : decode cc pc = .ok (.iastore, 1))
    (kk : ∀ (H1 : Heap) (locs1 : List Loc), va_P G vwCl (cX cy a (rset q 13 (upd f i.toNatClampNeg x))) H1 → va_S A s.heap H1 locs1 → W p l e R s m args below meth c H1 locs1 cells slots Q (F0 m (pc + 1) ls rest)) : W p l e R s m args below meth c H locs cells slots Q (F0 m pc ls (.int x :: .int i :: .ref (a 20) :: rest)) := by
  subst hf
  exact va_iast hx hb hK hP (hD _) hS 20 0 (f := q 13) rfl rfl hi hdg (fun H1 locs1 h1 _ h3 => kk H1 locs1 h1 h3)
theorem ldX_14 (hx : p.tables.exec = Jvm.exec) (hb : c.code = cc) (hK : va_K G vwCl [(cy, .int)] s) (hP : va_P G vwCl (cX cy a q) H) {f : Nat → Int32} (hf : q 14 = f) {i : Int32} (hi : vp_in i 200) (hdg : decode cc pc = .ok (.iaload, 1))
    (kk : W p l e R s m args below meth c H locs cells slots Q (F0 m (pc + 1) ls (.int (f i.toNatClampNeg) :: rest))) : W p l e R s m args below meth c H locs cells slots Q (F0 m pc ls (.int i :: .ref (a 21) :: rest)) := by
  subst hf
  exact va_iald hx hb hK hP 21 0 (f := q 14) rfl rfl hi hdg kk
theorem stX_14 (hx : p.tables.exec = Jvm.exec) (hb : c.code = cc) (hK : va_K G vwCl [(cy, .int)] s) (hP : va_P G vwCl (cX cy a q) H) (hD : ∀ q : wSt, va_D A (cX cy a q)) (hS : va_S A s.heap H locs) {f : Nat → Int32} (hf : q 14 = f) {i x : Int32} (hi : vp_in i 200) (hdg : decode cc pc = .ok (.iastore, 1))
    (kk : ∀ (H1 : Heap) (locs1 : List Loc), va_P G vwCl (cX cy a (rset q 14 (upd f i.toNatClampNeg x))) H1 → va_S A s.heap H1 locs1 → W p l e R s m args below meth c H1 locs1 cells slots Q (F0 m (pc + 1) ls rest)) : W p l e R s m args below meth c H locs cells slots Q (F0 m pc ls (.int x :: .int i :: .ref (a 21) :: rest)) := by
  subst hf
  exact va_iast hx hb hK hP (hD _) hS 21 0 (f := q 14) rfl rfl hi hdg (fun H1 locs1 h1 _ h3 => kk H1 locs1 h1 h3)
theorem ldX_15 (hx : p.tables.exec = Jvm.exec) (hb : c.code = cc) (hK : va_K G vwCl [(cy, .int)] s) (hP : va_P G vwCl (cX cy a q) H) {f : Nat → Int32} (hf : q 15 = f) {i : Int32} (hi : vp_in i 48) (hdg : decode cc pc = .ok (.iaload, 1))
    (kk : W p l e R s m args below meth c H locs cells slots Q (F0 m (pc + 1) ls (.int (f i.toNatClampNeg) :: rest))) : W p l e R s m args below meth c H locs cells slots Q (F0 m pc ls (.int i :: .ref (a 22) :: rest)) := by
  subst hf
  exact va_iald hx hb hK hP 22 0 (f := q 15) rfl rfl hi hdg kk
theorem stX_15 (hx : p.tables.exec = Jvm.exec) (hb : c.code = cc) (hK : va_K G vwCl [(cy, .int)] s) (hP : va_P G vwCl (cX cy a q) H) (hD : ∀ q : wSt, va_D A (cX cy a q)) (hS : va_S A s.heap H locs) {f : Nat → Int32} (hf : q 15 = f) {i x : Int32} (hi : vp_in i 48) (hdg : decode cc pc = .ok (.iastore, 1))
    (kk : ∀ (H1 : Heap) (locs1 : List Loc), va_P G vwCl (cX cy a (rset q 15 (upd f i.toNatClampNeg x))) H1 → va_S A s.heap H1 locs1 → W p l e R s m args below meth c H1 locs1 cells slots Q (F0 m (pc + 1) ls rest)) : W p l e R s m args below meth c H locs cells slots Q (F0 m pc ls (.int x :: .int i :: .ref (a 22) :: rest)) := by
  subst hf
  exact va_iast hx hb hK hP (hD _) hS 22 0 (f := q 15) rfl rfl hi hdg (fun H1 locs1 h1 _ h3 => kk H1 locs1 h1 h3)
theorem ldX_16 (hx : p.tables.exec = Jvm.exec) (hb : c.code = cc) (hK : va_K G vwCl [(cy, .int)] s) (hP : va_P G vwCl (cX cy a q) H) {f : Nat → Int32} (hf : q 16 = f) {i : Int32} (hi : vp_in i 20) (hdg : decode cc pc = .ok (.iaload, 1))
    (kk : W p l e R s m args below meth c H locs cells slots Q (F0 m (pc + 1) ls (.int (f i.toNatClampNeg) :: rest))) : W p l e R s m args below meth c H locs cells slots Q (F0 m pc ls (.int i :: .ref (a 23) :: rest)) := by
  subst hf
  exact va_iald hx hb hK hP 23 0 (f := q 16) rfl rfl hi hdg kk
theorem stX_16 (hx : p.tables.exec = Jvm.exec) (hb : c.code = cc) (hK : va_K G vwCl [(cy, .int)] s) (hP : va_P G vwCl (cX cy a q) H) (hD : ∀ q : wSt, va_D A (cX cy a q)) (hS : va_S A s.heap H locs) {f : Nat → Int32} (hf : q 16 = f) {i x : Int32} (hi : vp_in i 20) (hdg : decode cc pc = .ok (.iastore, 1))
    (kk : ∀ (H1 : Heap) (locs1 : List Loc), va_P G vwCl (cX cy a (rset q 16 (upd f i.toNatClampNeg x))) H1 → va_S A s.heap H1 locs1 → W p l e R s m args below meth c H1 locs1 cells slots Q (F0 m (pc + 1) ls rest)) : W p l e R s m args below meth c H locs cells slots Q (F0 m pc ls (.int x :: .int i :: .ref (a 23) :: rest)) := by
  subst hf
  exact va_iast hx hb hK hP (hD _) hS 23 0 (f := q 16) rfl rfl hi hdg (fun H1 locs1 h1 _ h3 => kk H1 locs1 h1 h3)
theorem ldX_17 (hx : p.tables.exec = Jvm.exec) (hb : c.code = cc) (hK : va_K G vwCl [(cy, .int)] s) (hP : va_P G vwCl (cX cy a q) H) {f : Nat → Int32} (hf : q 17 = f) {i : Int32} (hi : vp_in i 20) (hdg : decode cc pc = .ok (.iaload, 1))
    (kk : W p l e R s m args below meth c H locs cells slots Q (F0 m (pc + 1) ls (.int (f i.toNatClampNeg) :: rest))) : W p l e R s m args below meth c H locs cells slots Q (F0 m pc ls (.int i :: .ref (a 24) :: rest)) := by
  subst hf
  exact va_iald hx hb hK hP 24 0 (f := q 17) rfl rfl hi hdg kk
theorem stX_17 (hx : p.tables.exec = Jvm.exec) (hb : c.code = cc) (hK : va_K G vwCl [(cy, .int)] s) (hP : va_P G vwCl (cX cy a q) H) (hD : ∀ q : wSt, va_D A (cX cy a q)) (hS : va_S A s.heap H locs) {f : Nat → Int32} (hf : q 17 = f) {i x : Int32} (hi : vp_in i 20) (hdg : decode cc pc = .ok (.iastore, 1))
    (kk : ∀ (H1 : Heap) (locs1 : List Loc), va_P G vwCl (cX cy a (rset q 17 (upd f i.toNatClampNeg x))) H1 → va_S A s.heap H1 locs1 → W p l e R s m args below meth c H1 locs1 cells slots Q (F0 m (pc + 1) ls rest)) : W p l e R s m args below meth c H locs cells slots Q (F0 m pc ls (.int x :: .int i :: .ref (a 24) :: rest)) := by
  subst hf
  exact va_iast hx hb hK hP (hD _) hS 24 0 (f := q 17) rfl rfl hi hdg (fun H1 locs1 h1 _ h3 => kk H1 locs1 h1 h3)
theorem ldX_18 (hx : p.tables.exec = Jvm.exec) (hb : c.code = cc) (hK : va_K G vwCl [(cy, .int)] s) (hP : va_P G vwCl (cX cy a q) H) {f : Nat → Int32} (hf : q 18 = f) {i : Int32} (hi : vp_in i 20) (hdg : decode cc pc = .ok (.iaload, 1))
    (kk : W p l e R s m args below meth c H locs cells slots Q (F0 m (pc + 1) ls (.int (f i.toNatClampNeg) :: rest))) : W p l e R s m args below meth c H locs cells slots Q (F0 m pc ls (.int i :: .ref (a 25) :: rest)) := by
  subst hf
  exact va_iald hx hb hK hP 25 0 (f := q 18) rfl rfl hi hdg kk
theorem stX_18 (hx : p.tables.exec = Jvm.exec) (hb : c.code = cc) (hK : va_K G vwCl [(cy, .int)] s) (hP : va_P G vwCl (cX cy a q) H) (hD : ∀ q : wSt, va_D A (cX cy a q)) (hS : va_S A s.heap H locs) {f : Nat → Int32} (hf : q 18 = f) {i x : Int32} (hi : vp_in i 20) (hdg : decode cc pc = .ok (.iastore, 1))
    (kk : ∀ (H1 : Heap) (locs1 : List Loc), va_P G vwCl (cX cy a (rset q 18 (upd f i.toNatClampNeg x))) H1 → va_S A s.heap H1 locs1 → W p l e R s m args below meth c H1 locs1 cells slots Q (F0 m (pc + 1) ls rest)) : W p l e R s m args below meth c H locs cells slots Q (F0 m pc ls (.int x :: .int i :: .ref (a 25) :: rest)) := by
  subst hf
  exact va_iast hx hb hK hP (hD _) hS 25 0 (f := q 18) rfl rfl hi hdg (fun H1 locs1 h1 _ h3 => kk H1 locs1 h1 h3)
theorem ldX_19 (hx : p.tables.exec = Jvm.exec) (hb : c.code = cc) (hK : va_K G vwCl [(cy, .int)] s) (hP : va_P G vwCl (cX cy a q) H) {f : Nat → Int32} (hf : q 19 = f) {i : Int32} (hi : vp_in i 20) (hdg : decode cc pc = .ok (.iaload, 1))
    (kk : W p l e R s m args below meth c H locs cells slots Q (F0 m (pc + 1) ls (.int (f i.toNatClampNeg) :: rest))) : W p l e R s m args below meth c H locs cells slots Q (F0 m pc ls (.int i :: .ref (a 26) :: rest)) := by
  subst hf
  exact va_iald hx hb hK hP 26 0 (f := q 19) rfl rfl hi hdg kk
theorem stX_19 (hx : p.tables.exec = Jvm.exec) (hb : c.code = cc) (hK : va_K G vwCl [(cy, .int)] s) (hP : va_P G vwCl (cX cy a q) H) (hD : ∀ q : wSt, va_D A (cX cy a q)) (hS : va_S A s.heap H locs) {f : Nat → Int32} (hf : q 19 = f) {i x : Int32} (hi : vp_in i 20) (hdg : decode cc pc = .ok (.iastore, 1))
    (kk : ∀ (H1 : Heap) (locs1 : List Loc), va_P G vwCl (cX cy a (rset q 19 (upd f i.toNatClampNeg x))) H1 → va_S A s.heap H1 locs1 → W p l e R s m args below meth c H1 locs1 cells slots Q (F0 m (pc + 1) ls rest)) : W p l e R s m args below meth c H locs cells slots Q (F0 m pc ls (.int x :: .int i :: .ref (a 26) :: rest)) := by
  subst hf
  exact va_iast hx hb hK hP (hD _) hS 26 0 (f := q 19) rfl rfl hi hdg (fun H1 locs1 h1 _ h3 => kk H1 locs1 h1 h3)
theorem ldX_20 (hx : p.tables.exec = Jvm.exec) (hb : c.code = cc) (hK : va_K G vwCl [(cy, .int)] s) (hP : va_P G vwCl (cX cy a q) H) {f : Nat → Int32} (hf : q 20 = f) {i : Int32} (hi : vp_in i 20) (hdg : decode cc pc = .ok (.iaload, 1))
    (kk : W p l e R s m args below meth c H locs cells slots Q (F0 m (pc + 1) ls (.int (f i.toNatClampNeg) :: rest))) : W p l e R s m args below meth c H locs cells slots Q (F0 m pc ls (.int i :: .ref (a 27) :: rest)) := by
  subst hf
  exact va_iald hx hb hK hP 27 0 (f := q 20) rfl rfl hi hdg kk
theorem stX_20 (hx : p.tables.exec = Jvm.exec) (hb : c.code = cc) (hK : va_K G vwCl [(cy, .int)] s) (hP : va_P G vwCl (cX cy a q) H) (hD : ∀ q : wSt, va_D A (cX cy a q)) (hS : va_S A s.heap H locs) {f : Nat → Int32} (hf : q 20 = f) {i x : Int32} (hi : vp_in i 20) (hdg : decode cc pc = .ok (.iastore, 1))
    (kk : ∀ (H1 : Heap) (locs1 : List Loc), va_P G vwCl (cX cy a (rset q 20 (upd f i.toNatClampNeg x))) H1 → va_S A s.heap H1 locs1 → W p l e R s m args below meth c H1 locs1 cells slots Q (F0 m (pc + 1) ls rest)) : W p l e R s m args below meth c H locs cells slots Q (F0 m pc ls (.int x :: .int i :: .ref (a 27) :: rest)) := by
  subst hf
  exact va_iast hx hb hK hP (hD _) hS 27 0 (f := q 20) rfl rfl hi hdg (fun H1 locs1 h1 _ h3 => kk H1 locs1 h1 h3)
theorem ldX_21 (hx : p.tables.exec = Jvm.exec) (hb : c.code = cc) (hK : va_K G vwCl [(cy, .int)] s) (hP : va_P G vwCl (cX cy a q) H) {f : Nat → Int32} (hf : q 21 = f) {i : Int32} (hi : vp_in i 20) (hdg : decode cc pc = .ok (.iaload, 1))
    (kk : W p l e R s m args below meth c H locs cells slots Q (F0 m (pc + 1) ls (.int (f i.toNatClampNeg) :: rest))) : W p l e R s m args below meth c H locs cells slots Q (F0 m pc ls (.int i :: .ref (a 28) :: rest)) := by
  subst hf
  exact va_iald hx hb hK hP 28 0 (f := q 21) rfl rfl hi hdg kk
theorem stX_21 (hx : p.tables.exec = Jvm.exec) (hb : c.code = cc) (hK : va_K G vwCl [(cy, .int)] s) (hP : va_P G vwCl (cX cy a q) H) (hD : ∀ q : wSt, va_D A (cX cy a q)) (hS : va_S A s.heap H locs) {f : Nat → Int32} (hf : q 21 = f) {i x : Int32} (hi : vp_in i 20) (hdg : decode cc pc = .ok (.iastore, 1))
    (kk : ∀ (H1 : Heap) (locs1 : List Loc), va_P G vwCl (cX cy a (rset q 21 (upd f i.toNatClampNeg x))) H1 → va_S A s.heap H1 locs1 → W p l e R s m args below meth c H1 locs1 cells slots Q (F0 m (pc + 1) ls rest)) : W p l e R s m args below meth c H locs cells slots Q (F0 m pc ls (.int x :: .int i :: .ref (a 28) :: rest)) := by
  subst hf
  exact va_iast hx hb hK hP (hD _) hS 28 0 (f := q 21) rfl rfl hi hdg (fun H1 locs1 h1 _ h3 => kk H1 locs1 h1 h3)
theorem ldX_22 (hx : p.tables.exec = Jvm.exec) (hb : c.code = cc) (hK : va_K G vwCl [(cy, .int)] s) (hP : va_P G vwCl (cX cy a q) H) {f : Nat → Int32} (hf : q 22 = f) {i : Int32} (hi : vp_in i 100) (hdg : decode cc pc = .ok (.iaload, 1))
    (kk : W p l e R s m args below meth c H locs cells slots Q (F0 m (pc + 1) ls (.int (f i.toNatClampNeg) :: rest))) : W p l e R s m args below meth c H locs cells slots Q (F0 m pc ls (.int i :: .ref (a 29) :: rest)) := by
  subst hf
  exact va_iald hx hb hK hP 29 0 (f := q 22) rfl rfl hi hdg kk
theorem stX_22 (hx : p.tables.exec = Jvm.exec) (hb : c.code = cc) (hK : va_K G vwCl [(cy, .int)] s) (hP : va_P G vwCl (cX cy a q) H) (hD : ∀ q : wSt, va_D A (cX cy a q)) (hS : va_S A s.heap H locs) {f : Nat → Int32} (hf : q 22 = f) {i x : Int32} (hi : vp_in i 100) (hdg : decode cc pc = .ok (.iastore, 1))
    (kk : ∀ (H1 : Heap) (locs1 : List Loc), va_P G vwCl (cX cy a (rset q 22 (upd f i.toNatClampNeg x))) H1 → va_S A s.heap H1 locs1 → W p l e R s m args below meth c H1 locs1 cells slots Q (F0 m (pc + 1) ls rest)) : W p l e R s m args below meth c H locs cells slots Q (F0 m pc ls (.int x :: .int i :: .ref (a 29) :: rest)) := by
  subst hf
  exact va_iast hx hb hK hP (hD _) hS 29 0 (f := q 22) rfl rfl hi hdg (fun H1 locs1 h1 _ h3 => kk H1 locs1 h1 h3)
theorem ldX_23 (hx : p.tables.exec = Jvm.exec) (hb : c.code = cc) (hK : va_K G vwCl [(cy, .int)] s) (hP : va_P G vwCl (cX cy a q) H) {f : Nat → Int32} (hf : q 23 = f) {i : Int32} (hi : vp_in i 100) (hdg : decode cc pc = .ok (.iaload, 1))
    (kk : W p l e R s m args below meth c H locs cells slots Q (F0 m (pc + 1) ls (.int (f i.toNatClampNeg) :: rest))) : W p l e R s m args below meth c H locs cells slots Q (F0 m pc ls (.int i :: .ref (a 30) :: rest)) := by
  subst hf
  exact va_iald hx hb hK hP 30 0 (f := q 23) rfl rfl hi hdg kk
theorem stX_23 (hx : p.tables.exec = Jvm.exec) (hb : c.code = cc) (hK : va_K G vwCl [(cy, .int)] s) (hP : va_P G vwCl (cX cy a q) H) (hD : ∀ q : wSt, va_D A (cX cy a q)) (hS : va_S A s.heap H locs) {f : Nat → Int32} (hf : q 23 = f) {i x : Int32} (hi : vp_in i 100) (hdg : decode cc pc = .ok (.iastore, 1))
    (kk : ∀ (H1 : Heap) (locs1 : List Loc), va_P G vwCl (cX cy a (rset q 23 (upd f i.toNatClampNeg x))) H1 → va_S A s.heap H1 locs1 → W p l e R s m args below meth c H1 locs1 cells slots Q (F0 m (pc + 1) ls rest)) : W p l e R s m args below meth c H locs cells slots Q (F0 m pc ls (.int x :: .int i :: .ref (a 30) :: rest)) := by
  subst hf
  exact va_iast hx hb hK hP (hD _) hS 30 0 (f := q 23) rfl rfl hi hdg (fun H1 locs1 h1 _ h3 => kk H1 locs1 h1 h3)
theorem ldX_24 (hx : p.tables.exec = Jvm.exec) (hb : c.code = cc) (hK : va_K G vwCl [(cy, .int)] s) (hP : va_P G vwCl (cX cy a q) H) {f : Nat → Int32} (hf : q 24 = f) {i : Int32} (hi : vp_in i 100) (hdg : decode cc pc = .ok (.iaload, 1))
    (kk : W p l e R s m args below meth c H locs cells slots Q (F0 m (pc + 1) ls (.int (f i.toNatClampNeg) :: rest))) : W p l e R s m args below meth c H locs cells slots Q (F0 m pc ls (.int i :: .ref (a 31) :: rest)) := by
  subst hf
  exact va_iald hx hb hK hP 31 0 (f := q 24) rfl rfl hi hdg kk
theorem stX_24 (hx : p.tables.exec = Jvm.exec) (hb : c.code = cc) (hK : va_K G vwCl [(cy, .int)] s) (hP : va_P G vwCl (cX cy a q) H) (hD : ∀ q : wSt, va_D A (cX cy a q)) (hS : va_S A s.heap H locs) {f : Nat → Int32} (hf : q 24 = f) {i x : Int32} (hi : vp_in i 100) (hdg : decode cc pc = .ok (.iastore, 1))
    (kk : ∀ (H1 : Heap) (locs1 : List Loc), va_P G vwCl (cX cy a (rset q 24 (upd f i.toNatClampNeg x))) H1 → va_S A s.heap H1 locs1 → W p l e R s m args below meth c H1 locs1 cells slots Q (F0 m (pc + 1) ls rest)) : W p l e R s m args below meth c H locs cells slots Q (F0 m pc ls (.int x :: .int i :: .ref (a 31) :: rest)) := by
  subst hf
  exact va_iast hx hb hK hP (hD _) hS 31 0 (f := q 24) rfl rfl hi hdg (fun H1 locs1 h1 _ h3 => kk H1 locs1 h1 h3)
theorem ldX_25 (hx : p.tables.exec = Jvm.exec) (hb : c.code = cc) (hK : va_K G vwCl [(cy, .int)] s) (hP : va_P G vwCl (cX cy a q) H) {f : Nat → Int32} (hf : q 25 = f) {i : Int32} (hi : vp_in i 100) (hdg : decode cc pc = .ok (.iaload, 1))
    (kk : W p l e R s m args below meth c H locs cells slots Q (F0 m (pc + 1) ls (.int (f i.toNatClampNeg) :: rest))) : W p l e R s m args below meth c H locs cells slots Q (F0 m pc ls (.int i :: .ref (a 32) :: rest)) := by
  subst hf
  exact va_iald hx hb hK hP 32 0 (f := q 25) rfl rfl hi hdg kk
theorem stX_25 (hx : p.tables.exec = Jvm.exec) (hb : c.code = cc) (hK : va_K G vwCl [(cy, .int)] s) (hP : va_P G vwCl (cX cy a q) H) (hD : ∀ q : wSt, va_D A (cX cy a q)) (hS : va_S A s.heap H locs) {f : Nat → Int32} (hf : q 25 = f) {i x : Int32} (hi : vp_in i 100) (hdg : decode cc pc = .ok (.iastore, 1))
    (kk : ∀ (H1 : Heap) (locs1 : List Loc), va_P G vwCl (cX cy a (rset q 25 (upd f i.toNatClampNeg x))) H1 → va_S A s.heap H1 locs1 → W p l e R s m args below meth c H1 locs1 cells slots Q (F0 m (pc + 1) ls rest)) : W p l e R s m args below meth c H locs cells slots Q (F0 m pc ls (.int x :: .int i :: .ref (a 32) :: rest)) := by
  subst hf
  exact va_iast hx hb hK hP (hD _) hS 32 0 (f := q 25) rfl rfl hi hdg (fun H1 locs1 h1 _ h3 => kk H1 locs1 h1 h3)
theorem ldX_26 (hx : p.tables.exec = Jvm.exec) (hb : c.code = cc) (hK : va_K G vwCl [(cy, .int)] s) (hP : va_P G vwCl (cX cy a q) H) {f : Nat → Int32} (hf : q 26 = f) {i : Int32} (hi : vp_in i 100) (hdg : decode cc pc = .ok (.iaload, 1))
    (kk : W p l e R s m args below meth c H locs cells slots Q (F0 m (pc + 1) ls (.int (f i.toNatClampNeg) :: rest))) : W p l e R s m args below meth c H locs cells slots Q (F0 m pc ls (.int i :: .ref (a 33) :: rest)) := by
  subst hf
  exact va_iald hx hb hK hP 33 0 (f := q 26) rfl rfl hi hdg kk
theorem stX_26 (hx : p.tables.exec = Jvm.exec) (hb : c.code = cc) (hK : va_K G vwCl [(cy, .int)] s) (hP : va_P G vwCl (cX cy a q) H) (hD : ∀ q : wSt, va_D A (cX cy a q)) (hS : va_S A s.heap H locs) {f : Nat → Int32} (hf : q 26 = f) {i x : Int32} (hi : vp_in i 100) (hdg : decode cc pc = .ok (.iastore, 1))
    (kk : ∀ (H1 : Heap) (locs1 : List Loc), va_P G vwCl (cX cy a (rset q 26 (upd f i.toNatClampNeg x))) H1 → va_S A s.heap H1 locs1 → W p l e R s m args below meth c H1 locs1 cells slots Q (F0 m (pc + 1) ls rest)) : W p l e R s m args below meth c H locs cells slots Q (F0 m pc ls (.int x :: .int i :: .ref (a 33) :: rest)) := by
  subst hf
  exact va_iast hx hb hK hP (hD _) hS 33 0 (f := q 26) rfl rfl hi hdg (fun H1 locs1 h1 _ h3 => kk H1 locs1 h1 h3)
theorem ldX_27 (hx : p.tables.exec = Jvm.exec) (hb : c.code = cc) (hK : va_K G vwCl [(cy, .int)] s) (hP : va_P G vwCl (cX cy a q) H) {f : Nat → Int32} (hf : q 27 = f) {i : Int32} (hi : vp_in i 100) (hdg : decode cc pc = .ok (.iaload, 1))
    (kk : W p l e R s m args below meth c H locs cells slots Q (F0 m (pc + 1) ls (.int (f i.toNatClampNeg) :: rest))) : W p l e R s m args below meth c H locs cells slots Q (F0 m pc ls (.int i :: .ref (a 34) :: rest)) := by
  subst hf
  exact va_iald hx hb hK hP 34 0 (f := q 27) rfl rfl hi hdg kk
theorem stX_27 (hx : p.tables.exec = Jvm.exec) (hb : c.code = cc) (hK : va_K G vwCl [(cy, .int)] s) (hP : va_P G vwCl (cX cy a q) H) (hD : ∀ q : wSt, va_D A (cX cy a q)) (hS : va_S A s.heap H locs) {f : Nat → Int32} (hf : q 27 = f) {i x : Int32} (hi : vp_in i 100) (hdg : decode cc pc = .ok (.iastore, 1))
    (kk : ∀ (H1 : Heap) (locs1 : List Loc), va_P G vwCl (cX cy a (rset q 27 (upd f i.toNatClampNeg x))) H1 → va_S A s.heap H1 locs1 → W p l e R s m args below meth c H1 locs1 cells slots Q (F0 m (pc + 1) ls rest)) : W p l e R s m args below meth c H locs cells slots Q (F0 m pc ls (.int x :: .int i :: .ref (a 34) :: rest)) := by
  subst hf
  exact va_iast hx hb hK hP (hD _) hS 34 0 (f := q 27) rfl rfl hi hdg (fun H1 locs1 h1 _ h3 => kk H1 locs1 h1 h3)
theorem ldX_28 (hx : p.tables.exec = Jvm.exec) (hb : c.code = cc) (hK : va_K G vwCl [(cy, .int)] s) (hP : va_P G vwCl (cX cy a q) H) {f : Nat → Int32} (hf : q 28 = f) {i : Int32} (hi : vp_in i 21) (hdg : decode cc pc = .ok (.iaload, 1))
    (kk : W p l e R s m args below meth c H locs cells slots Q (F0 m (pc + 1) ls (.int (f i.toNatClampNeg) :: rest))) : W p l e R s m args below meth c H locs cells slots Q (F0 m pc ls (.int i :: .ref (a 35) :: rest)) := by
  subst hf
  exact va_iald hx hb hK hP 35 0 (f := q 28) rfl rfl hi hdg kk
theorem stX_28 (hx : p.tables.exec = Jvm.exec) (hb : c.code = cc) (hK : va_K G vwCl [(cy, .int)] s) (hP : va_P G vwCl (cX cy a q) H) (hD : ∀ q : wSt, va_D A (cX cy a q)) (hS : va_S A s.heap H locs) {f : Nat → Int32} (hf : q 28 = f) {i x : Int32} (hi : vp_in i 21) (hdg : decode cc pc = .ok (.iastore, 1))
    (kk : ∀ (H1 : Heap) (locs1 : List Loc), va_P G vwCl (cX cy a (rset q 28 (upd f i.toNatClampNeg x))) H1 → va_S A s.heap H1 locs1 → W p l e R s m args below meth c H1 locs1 cells slots Q (F0 m (pc + 1) ls rest)) : W p l e R s m args below meth c H locs cells slots Q (F0 m pc ls (.int x :: .int i :: .ref (a 35) :: rest)) := by
  subst hf
  exact va_iast hx hb hK hP (hD _) hS 35 0 (f := q 28) rfl rfl hi hdg (fun H1 locs1 h1 _ h3 => kk H1 locs1 h1 h3)
theorem ldX_29 (hx : p.tables.exec = Jvm.exec) (hb : c.code = cc) (hK : va_K G vwCl [(cy, .int)] s) (hP : va_P G vwCl (cX cy a q) H) {f : Nat → Int32} (hf : q 29 = f) {i : Int32} (hi : vp_in i 21) (hdg : decode cc pc = .ok (.iaload, 1))
    (kk : W p l e R s m args below meth c H locs cells slots Q (F0 m (pc + 1) ls (.int (f i.toNatClampNeg) :: rest))) : W p l e R s m args below meth c H locs cells slots Q (F0 m pc ls (.int i :: .ref (a 36) :: rest)) := by
  subst hf
  exact va_iald hx hb hK hP 36 0 (f := q 29) rfl rfl hi hdg kk
theorem stX_29 (hx : p.tables.exec = Jvm.exec) (hb : c.code = cc) (hK : va_K G vwCl [(cy, .int)] s) (hP : va_P G vwCl (cX cy a q) H) (hD : ∀ q : wSt, va_D A (cX cy a q)) (hS : va_S A s.heap H locs) {f : Nat → Int32} (hf : q 29 = f) {i x : Int32} (hi : vp_in i 21) (hdg : decode cc pc = .ok (.iastore, 1))
    (kk : ∀ (H1 : Heap) (locs1 : List Loc), va_P G vwCl (cX cy a (rset q 29 (upd f i.toNatClampNeg x))) H1 → va_S A s.heap H1 locs1 → W p l e R s m args below meth c H1 locs1 cells slots Q (F0 m (pc + 1) ls rest)) : W p l e R s m args below meth c H locs cells slots Q (F0 m pc ls (.int x :: .int i :: .ref (a 36) :: rest)) := by
  subst hf
  exact va_iast hx hb hK hP (hD _) hS 36 0 (f := q 29) rfl rfl hi hdg (fun H1 locs1 h1 _ h3 => kk H1 locs1 h1 h3)
theorem ldM_0 (hx : p.tables.exec = Jvm.exec) (hb : c.code = cc) (hK : va_K G vwCl [(cy, .int)] s) (hP : va_P G vwCl (cM cy a q) H) {f : Nat → Int32} (hf : q 0 = f) {i : Int32} (hi : vp_in i 12) (hdg : decode cc pc = .ok (.iaload, 1))
    (kk : W p l e R s m args below meth c H locs cells slots Q (F0 m (pc + 1) ls (.int (f i.toNatClampNeg) :: rest))) : W p l e R s m args below meth c H locs cells slots Q (F0 m pc ls (.int i :: .ref (a 1) :: rest)) := by
  subst hf
  exact va_iald hx hb hK hP 1 0 (f := q 0) rfl rfl hi hdg kk
theorem stM_0 (hx : p.tables.exec = Jvm.exec) (hb : c.code = cc) (hK : va_K G vwCl [(cy, .int)] s) (hP : va_P G vwCl (cM cy a q) H) (hD : ∀ q : wSt, va_D A (cM cy a q)) (hS : va_S A s.heap H locs) {f : Nat → Int32} (hf : q 0 = f) {i x : Int32} (hi : vp_in i 12) (hdg : decode cc pc = .ok (.iastore, 1))
    (kk : ∀ (H1 : Heap) (locs1 : List Loc), va_P G vwCl (cM cy a (rset q 0 (upd f i.toNatClampNeg x))) H1 → va_S A s.heap H1 locs1 → W p l e R s m args below meth c H1 locs1 cells slots Q (F0 m (pc + 1) ls rest)) : W p l e R s m args below meth c H locs cells slots Q (F0 m pc ls (.int x :: .int i :: .ref (a 1) :: rest)) := by
  subst hf
  exact va_iast hx hb hK hP (hD _) hS 1 0 (f := q 0) rfl rfl hi hdg (fun H1 locs1 h1 _ h3 => kk H1 locs1 h1 h3)
theorem ldM_7 (hx : p.tables.exec = Jvm.exec) (hb : c.code = cc) (hK : va_K G vwCl [(cy, .int)] s) (hP : va_P G vwCl (cM cy a q) H) {f : Nat → Int32} (hf : q 7 = f) {i : Int32} (hi : vp_in i 200) (hdg : decode cc pc = .ok (.iaload, 1))
    (kk : W p l e R s m args below meth c H locs cells slots Q (F0 m (pc + 1) ls (.int (f i.toNatClampNeg) :: rest))) : W p l e R s m args below meth c H locs cells slots Q (F0 m pc ls (.int i :: .ref (a 2) :: rest)) := by
  subst hf
  exact va_iald hx hb hK hP 2 0 (f := q 7) rfl rfl hi hdg kk
theorem stM_7 (hx : p.tables.exec = Jvm.exec) (hb : c.code = cc) (hK : va_K G vwCl [(cy, .int)] s) (hP : va_P G vwCl (cM cy a q) H) (hD : ∀ q : wSt, va_D A (cM cy a q)) (hS : va_S A s.heap H locs) {f : Nat → Int32} (hf : q 7 = f) {i x : Int32} (hi : vp_in i 200) (hdg : decode cc pc = .ok (.iastore, 1))
    (kk : ∀ (H1 : Heap) (locs1 : List Loc), va_P G vwCl (cM cy a (rset q 7 (upd f i.toNatClampNeg x))) H1 → va_S A s.heap H1 locs1 → W p l e R s m args below meth c H1 locs1 cells slots Q (F0 m (pc + 1) ls rest)) : W p l e R s m args below meth c H locs cells slots Q (F0 m pc ls (.int x :: .int i :: .ref (a 2) :: rest)) := by
  subst hf
  exact va_iast hx hb hK hP (hD _) hS 2 0 (f := q 7) rfl rfl hi hdg (fun H1 locs1 h1 _ h3 => kk H1 locs1 h1 h3)
theorem ldM_8 (hx : p.tables.exec = Jvm.exec) (hb : c.code = cc) (hK : va_K G vwCl [(cy, .int)] s) (hP : va_P G vwCl (cM cy a q) H) {f : Nat → Int32} (hf : q 8 = f) {i : Int32} (hi : vp_in i 200) (hdg : decode cc pc = .ok (.iaload, 1))
    (kk : W p l e R s m args below meth c H locs cells slots Q (F0 m (pc + 1) ls (.int (f i.toNatClampNeg) :: rest))) : W p l e R s m args below meth c H locs cells slots Q (F0 m pc ls (.int i :: .ref (a 3) :: rest)) := by
  subst hf
  exact va_iald hx hb hK hP 3 0 (f := q 8) rfl rfl hi hdg kk
theorem stM_8 (hx : p.tables.exec = Jvm.exec) (hb : c.code = cc) (hK : va_K G vwCl [(cy, .int)] s) (hP : va_P G vwCl (cM cy a q) H) (hD : ∀ q : wSt, va_D A (cM cy a q)) (hS : va_S A s.heap H locs) {f : Nat → Int32} (hf : q 8 = f) {i x : Int32} (hi : vp_in i 200) (hdg : decode cc pc = .ok (.iastore, 1))
    (kk : ∀ (H1 : Heap) (locs1 : List Loc), va_P G vwCl (cM cy a (rset q 8 (upd f i.toNatClampNeg x))) H1 → va_S A s.heap H1 locs1 → W p l e R s m args below meth c H1 locs1 cells slots Q (F0 m (pc + 1) ls rest)) : W p l e R s m args below meth c H locs cells slots Q (F0 m pc ls (.int x :: .int i :: .ref (a 3) :: rest)) := by
  subst hf
  exact va_iast hx hb hK hP (hD _) hS 3 0 (f := q 8) rfl rfl hi hdg (fun H1 locs1 h1 _ h3 => kk H1 locs1 h1 h3)
theorem ldM_9 (hx : p.tables.exec = Jvm.exec) (hb : c.code = cc) (hK : va_K G vwCl [(cy, .int)] s) (hP : va_P G vwCl (cM cy a q) H) {f : Nat → Int32} (hf : q 9 = f) {i : Int32} (hi : vp_in i 200) (hdg : decode cc pc = .ok (.iaload, 1))
    (kk : W p l e R s m args below meth c H locs cells slots Q (F0 m (pc + 1) ls (.int (f i.toNatClampNeg) :: rest))) : W p l e R s m args below meth c H locs cells slots Q (F0 m pc ls (.int i :: .ref (a 4) :: rest)) := by
  subst hf
  exact va_iald hx hb hK hP 4 0 (f := q 9) rfl rfl hi hdg kk
theorem stM_9 (hx : p.tables.exec = Jvm.exec) (hb : c.code = cc) (hK : va_K G vwCl [(cy, .int)] s) (hP : va_P G vwCl (cM cy a q) H) (hD : ∀ q : wSt, va_D A (cM cy a q)) (hS : va_S A s.heap H locs) {f : Nat → Int32} (hf : q 9 = f) {i x : Int32} (hi : vp_in i 200) (hdg : decode cc pc = .ok (.iastore, 1))
    (kk : ∀ (H1 : Heap) (locs1 : List Loc), va_P G vwCl (cM cy a (rset q 9 (upd f i.toNatClampNeg x))) H1 → va_S A s.heap H1 locs1 → W p l e R s m args below meth c H1 locs1 cells slots Q (F0 m (pc + 1) ls rest)) : W p l e R s m args below meth c H locs cells slots Q (F0 m pc ls (.int x :: .int i :: .ref (a 4) :: rest)) := by
  subst hf
  exact va_iast hx hb hK hP (hD _) hS 4 0 (f := q 9) rfl rfl hi hdg (fun H1 locs1 h1 _ h3 => kk H1 locs1 h1 h3)
theorem ldM_6 (hx : p.tables.exec = Jvm.exec) (hb : c.code = cc) (hK : va_K G vwCl [(cy, .int)] s) (hP : va_P G vwCl (cM cy a q) H) {f : Nat → Int32} (hf : q 6 = f) {i : Int32} (hi : vp_in i 200) (hdg : decode cc pc = .ok (.iaload, 1))
    (kk : W p l e R s m args below meth c H locs cells slots Q (F0 m (pc + 1) ls (.int (f i.toNatClampNeg) :: rest))) : W p l e R s m args below meth c H locs cells slots Q (F0 m pc ls (.int i :: .ref (a 5) :: rest)) := by
  subst hf
  exact va_iald hx hb hK hP 5 0 (f := q 6) rfl rfl hi hdg kk
theorem stM_6 (hx : p.tables.exec = Jvm.exec) (hb : c.code = cc) (hK : va_K G vwCl [(cy, .int)] s) (hP : va_P G vwCl (cM cy a q) H) (hD : ∀ q : wSt, va_D A (cM cy a q)) (hS : va_S A s.heap H locs) {f : Nat → Int32} (hf : q 6 = f) {i x : Int32} (hi : vp_in i 200) (hdg : decode cc pc = .ok (.iastore, 1))
    (kk : ∀ (H1 : Heap) (locs1 : List Loc), va_P G vwCl (cM cy a (rset q 6 (upd f i.toNatClampNeg x))) H1 → va_S A s.heap H1 locs1 → W p l e R s m args below meth c H1 locs1 cells slots Q (F0 m (pc + 1) ls rest)) : W p l e R s m args below meth c H locs cells slots Q (F0 m pc ls (.int x :: .int i :: .ref (a 5) :: rest)) := by
  subst hf
  exact va_iast hx hb hK hP (hD _) hS 5 0 (f := q 6) rfl rfl hi hdg (fun H1 locs1 h1 _ h3 => kk H1 locs1 h1 h3)
theorem ldM_10 (hx : p.tables.exec = Jvm.exec) (hb : c.code = cc) (hK : va_K G vwCl [(cy, .int)] s) (hP : va_P G vwCl (cM cy a q) H) {f : Nat → Int32} (hf : q 10 = f) {i : Int32} (hi : vp_in i 200) (hdg : decode cc pc = .ok (.iaload, 1))
    (kk : W p l e R s m args below meth c H locs cells slots Q (F0 m (pc + 1) ls (.int (f i.toNatClampNeg) :: rest))) : W p l e R s m args below meth c H locs cells slots Q (F0 m pc ls (.int i :: .ref (a 6) :: rest)) := by
  subst hf
  exact va_iald hx hb hK hP 6 0 (f := q 10) rfl rfl hi hdg kk
theorem stM_10 (hx : p.tables.exec = Jvm.exec) (hb : c.code = cc) (hK : va_K G vwCl [(cy, .int)] s) (hP : va_P G vwCl (cM cy a q) H) (hD : ∀ q : wSt, va_D A (cM cy a q)) (hS : va_S A s.heap H locs) {f : Nat → Int32} (hf : q 10 = f) {i x : Int32} (hi : vp_in i 200) (hdg : decode cc pc = .ok (.iastore, 1))
    (kk : ∀ (H1 : Heap) (locs1 : List Loc), va_P G vwCl (cM cy a (rset q 10 (upd f i.toNatClampNeg x))) H1 → va_S A s.heap H1 locs1 → W p l e R s m args below meth c H1 locs1 cells slots Q (F0 m (pc + 1) ls rest)) : W p l e R s m args below meth c H locs cells slots Q (F0 m pc ls (.int x :: .int i :: .ref (a 6) :: rest)) := by
  subst hf
  exact va_iast hx hb hK hP (hD _) hS 6 0 (f := q 10) rfl rfl hi hdg (fun H1 locs1 h1 _ h3 => kk H1 locs1 h1 h3)
theorem ldM_11 (hx : p.tables.exec = Jvm.exec) (hb : c.code = cc) (hK : va_K G vwCl [(cy, .int)] s) (hP : va_P G vwCl (cM cy a q) H) {f : Nat → Int32} (hf : q 11 = f) {i : Int32} (hi : vp_in i 200) (hdg : decode cc pc = .ok (.iaload, 1))
    (kk : W p l e R s m args below meth c H locs cells slots Q (F0 m (pc + 1) ls (.int (f i.toNatClampNeg) :: rest))) : W p l e R s m args below meth c H locs cells slots Q (F0 m pc ls (.int i :: .ref (a 7) :: rest)) := by
  subst hf
  exact va_iald hx hb hK hP 7 0 (f := q 11) rfl rfl hi hdg kk
theorem stM_11 (hx : p.tables.exec = Jvm.exec) (hb : c.code = cc) (hK : va_K G vwCl [(cy, .int)] s) (hP : va_P G vwCl (cM cy a q) H) (hD : ∀ q : wSt, va_D A (cM cy a q)) (hS : va_S A s.heap H locs) {f : Nat → Int32} (hf : q 11 = f) {i x : Int32} (hi : vp_in i 200) (hdg : decode cc pc = .ok (.iastore, 1))
    (kk : ∀ (H1 : Heap) (locs1 : List Loc), va_P G vwCl (cM cy a (rset q 11 (upd f i.toNatClampNeg x))) H1 → va_S A s.heap H1 locs1 → W p l e R s m args below meth c H1 locs1 cells slots Q (F0 m (pc + 1) ls rest)) : W p l e R s m args below meth c H locs cells slots Q (F0 m pc ls (.int x :: .int i :: .ref (a 7) :: rest)) := by
  subst hf
  exact va_iast hx hb hK hP (hD _) hS 7 0 (f := q 11) rfl rfl hi hdg (fun H1 locs1 h1 _ h3 => kk H1 locs1 h1 h3)
theorem ldM_12 (hx : p.tables.exec = Jvm.exec) (hb : c.code = cc) (hK : va_K G vwCl [(cy, .int)] s) (hP : va_P G vwCl (cM cy a q) H) {f : Nat → Int32} (hf : q 12 = f) {i : Int32} (hi : vp_in i 200) (hdg : decode cc pc = .ok (.iaload, 1))
    (kk : W p l e R s m args below meth c H locs cells slots Q (F0 m (pc + 1) ls (.int (f i.toNatClampNeg) :: rest))) : W p l e R s m args below meth c H locs cells slots Q (F0 m pc ls (.int i :: .ref (a 8) :: rest)) := by
  subst hf
  exact va_iald hx hb hK hP 8 0 (f := q 12) rfl rfl hi hdg kk
theorem stM_12 (hx : p.tables.exec = Jvm.exec) (hb : c.code = cc) (hK : va_K G vwCl [(cy, .int)] s) (hP : va_P G vwCl (cM cy a q) H) (hD : ∀ q : wSt, va_D A (cM cy a q)) (hS : va_S A s.heap H locs) {f : Nat → Int32} (hf : q 12 = f) {i x : Int32} (hi : vp_in i 200) (hdg : decode cc pc = .ok (.iastore, 1))
    (kk : ∀ (H1 : Heap) (locs1 : List Loc), va_P G vwCl (cM cy a (rset q 12 (upd f i.toNatClampNeg x))) H1 → va_S A s.heap H1 locs1 → W p l e R s m args below meth c H1 locs1 cells slots Q (F0 m (pc + 1) ls rest)) : W p l e R s m args below meth c H locs cells slots Q (F0 m pc ls (.int x :: .int i :: .ref (a 8) :: rest)) := by
  subst hf
  exact va_iast hx hb hK hP (hD _) hS 8 0 (f := q 12) rfl rfl hi hdg (fun H1 locs1 h1 _ h3 => kk H1 locs1 h1 h3)
theorem ldM_13 (hx : p.tables.exec = Jvm.exec) (hb : c.code = cc) (hK : va_K G vwCl [(cy, .int)] s) (hP : va_P G vwCl (cM cy a q) H) {f : Nat → Int32} (hf : q 13 = f) {i : Int32} (hi : vp_in i 200) (hdg : decode cc pc = .ok (.iaload, 1))
    (kk : W p l e R s m args below meth c H locs cells slots Q (F0 m (pc + 1) ls (.int (f i.toNatClampNeg) :: rest))) : W p l e R s m args below meth c H locs cells slots Q (F0 m pc ls (.int i :: .ref (a 9) :: rest)) := by
  subst hf
  exact va_iald hx hb hK hP 9 0 (f := q 13) rfl rfl hi hdg kk
theorem stM_13 (hx : p.tables.exec = Jvm.exec) (hb : c.code = cc) (hK : va_K G vwCl [(cy, .int)] s) (hP : va_P G vwCl (cM cy a q) H) (hD : ∀ q : wSt, va_D A (cM cy a q)) (hS : va_S A s.heap H locs) {f : Nat → Int32} (hf : q 13 = f) {i x : Int32} (hi : vp_in i 200) (hdg : decode cc pc = .ok (.iastore, 1))
    (kk : ∀ (H1 : Heap) (locs1 : List Loc), va_P G vwCl (cM cy a (rset q 13 (upd f i.toNatClampNeg x))) H1 → va_S A s.heap H1 locs1 → W p l e R s m args below meth c H1 locs1 cells slots Q (F0 m (pc + 1) ls rest)) : W p l e R s m args below meth c H locs cells slots Q (F0 m pc ls (.int x :: .int i :: .ref (a 9) :: rest)) := by
  subst hf
  exact va_iast hx hb hK hP (hD _) hS 9 0 (f := q 13) rfl rfl hi hdg (fun H1 locs1 h1 _ h3 => kk H1 locs1 h1 h3)
theorem ldM_14 (hx : p.tables.exec = Jvm.exec) (hb : c.code = cc) (hK : va_K G vwCl [(cy, .int)] s) (hP : va_P G vwCl (cM cy a q) H) {f : Nat → Int32} (hf : q 14 = f) {i : Int32} (hi : vp_in i 200) (hdg : decode cc pc = .ok (.iaload, 1))
    (kk : W p l e R s m args below meth c H locs cells slots Q (F0 m (pc + 1) ls (.int (f i.toNatClampNeg) :: rest))) : W p l e R s m args below meth c H locs cells slots Q (F0 m pc ls (.int i :: .ref (a 10) :: rest)) := by
  subst hf
  exact va_iald hx hb hK hP 10 0 (f := q 14) rfl rfl hi hdg kk
theorem stM_14 (hx : p.tables.exec = Jvm.exec) (hb : c.code = cc) (hK : va_K G vwCl [(cy, .int)] s) (hP : va_P G vwCl (cM cy a q) H) (hD : ∀ q : wSt, va_D A (cM cy a q)) (hS : va_S A s.heap H locs) {f : Nat → Int32} (hf : q 14 = f) {i x : Int32} (hi : vp_in i 200) (hdg : decode cc pc = .ok (.iastore, 1))
    (kk : ∀ (H1 : Heap) (locs1 : List Loc), va_P G vwCl (cM cy a (rset q 14 (upd f i.toNatClampNeg x))) H1 → va_S A s.heap H1 locs1 → W p l e R s m args below meth c H1 locs1 cells slots Q (F0 m (pc + 1) ls rest)) : W p l e R s m args below meth c H locs cells slots Q (F0 m pc ls (.int x :: .int i :: .ref (a 10) :: rest)) := by
  subst hf
  exact va_iast hx hb hK hP (hD _) hS 10 0 (f := q 14) rfl rfl hi hdg (fun H1 locs1 h1 _ h3 => kk H1 locs1 h1 h3)
theorem ldM_16 (hx : p.tables.exec = Jvm.exec) (hb : c.code = cc) (hK : va_K G vwCl [(cy, .int)] s) (hP : va_P G vwCl (cM cy a q) H) {f : Nat → Int32} (hf : q 16 = f) {i : Int32} (hi : vp_in i 20) (hdg : decode cc pc = .ok (.iaload, 1))
    (kk : W p l e R s m args below meth c H locs cells slots Q (F0 m (pc + 1) ls (.int (f i.toNatClampNeg) :: rest))) : W p l e R s m args below meth c H locs cells slots Q (F0 m pc ls (.int i :: .ref (a 11) :: rest)) := by
  subst hf
  exact va_iald hx hb hK hP 11 0 (f := q 16) rfl rfl hi hdg kk
theorem stM_16 (hx : p.tables.exec = Jvm.exec) (hb : c.code = cc) (hK : va_K G vwCl [(cy, .int)] s) (hP : va_P G vwCl (cM cy a q) H) (hD : ∀ q : wSt, va_D A (cM cy a q)) (hS : va_S A s.heap H locs) {f : Nat → Int32} (hf : q 16 = f) {i x : Int32} (hi : vp_in i 20) (hdg : decode cc pc = .ok (.iastore, 1))
    (kk : ∀ (H1 : Heap) (locs1 : List Loc), va_P G vwCl (cM cy a (rset q 16 (upd f i.toNatClampNeg x))) H1 → va_S A s.heap H1 locs1 → W p l e R s m args below meth c H1 locs1 cells slots Q (F0 m (pc + 1) ls rest)) : W p l e R s m args below meth c H locs cells slots Q (F0 m pc ls (.int x :: .int i :: .ref (a 11) :: rest)) := by
  subst hf
  exact va_iast hx hb hK hP (hD _) hS 11 0 (f := q 16) rfl rfl hi hdg (fun H1 locs1 h1 _ h3 => kk H1 locs1 h1 h3)
theorem ldM_17 (hx : p.tables.exec = Jvm.exec) (hb : c.code = cc) (hK : va_K G vwCl [(cy, .int)] s) (hP : va_P G vwCl (cM cy a q) H) {f : Nat → Int32} (hf : q 17 = f) {i : Int32} (hi : vp_in i 20) (hdg : decode cc pc = .ok (.iaload, 1))
    (kk : W p l e R s m args below meth c H locs cells slots Q (F0 m (pc + 1) ls (.int (f i.toNatClampNeg) :: rest))) : W p l e R s m args below meth c H locs cells slots Q (F0 m pc ls (.int i :: .ref (a 12) :: rest)) := by
  subst hf
  exact va_iald hx hb hK hP 12 0 (f := q 17) rfl rfl hi hdg kk
theorem stM_17 (hx : p.tables.exec = Jvm.exec) (hb : c.code = cc) (hK : va_K G vwCl [(cy, .int)] s) (hP : va_P G vwCl (cM cy a q) H) (hD : ∀ q : wSt, va_D A (cM cy a q)) (hS : va_S A s.heap H locs) {f : Nat → Int32} (hf : q 17 = f) {i x : Int32} (hi : vp_in i 20) (hdg : decode cc pc = .ok (.iastore, 1))
    (kk : ∀ (H1 : Heap) (locs1 : List Loc), va_P G vwCl (cM cy a (rset q 17 (upd f i.toNatClampNeg x))) H1 → va_S A s.heap H1 locs1 → W p l e R s m args below meth c H1 locs1 cells slots Q (F0 m (pc + 1) ls rest)) : W p l e R s m args below meth c H locs cells slots Q (F0 m pc ls (.int x :: .int i :: .ref (a 12) :: rest)) := by
  subst hf
  exact va_iast hx hb hK hP (hD _) hS 12 0 (f := q 17) rfl rfl hi hdg (fun H1 locs1 h1 _ h3 => kk H1 locs1 h1 h3)
theorem ldM_18 (hx : p.tables.exec = Jvm.exec) (hb : c.code = cc) (hK : va_K G vwCl [(cy, .int)] s) (hP : va_P G vwCl (cM cy a q) H) {f : Nat → Int32} (hf : q 18 = f) {i : Int32} (hi : vp_in i 20) (hdg : decode cc pc = .ok (.iaload, 1))
    (kk : W p l e R s m args below meth c H locs cells slots Q (F0 m (pc + 1) ls (.int (f i.toNatClampNeg) :: rest))) : W p l e R s m args below meth c H locs cells slots Q (F0 m pc ls (.int i :: .ref (a 13) :: rest)) := by
  subst hf
  exact va_iald hx hb hK hP 13 0 (f := q 18) rfl rfl hi hdg kk
theorem stM_18 (hx : p.tables.exec = Jvm.exec) (hb : c.code = cc) (hK : va_K G vwCl [(cy, .int)] s) (hP : va_P G vwCl (cM cy a q) H) (hD : ∀ q : wSt, va_D A (cM cy a q)) (hS : va_S A s.heap H locs) {f : Nat → Int32} (hf : q 18 = f) {i x : Int32} (hi : vp_in i 20) (hdg : decode cc pc = .ok (.iastore, 1))
    (kk : ∀ (H1 : Heap) (locs1 : List Loc), va_P G vwCl (cM cy a (rset q 18 (upd f i.toNatClampNeg x))) H1 → va_S A s.heap H1 locs1 → W p l e R s m args below meth c H1 locs1 cells slots Q (F0 m (pc + 1) ls rest)) : W p l e R s m args below meth c H locs cells slots Q (F0 m pc ls (.int x :: .int i :: .ref (a 13) :: rest)) := by
  subst hf
  exact va_iast hx hb hK hP (hD _) hS 13 0 (f := q 18) rfl rfl hi hdg (fun H1 locs1 h1 _ h3 => kk H1 locs1 h1 h3)
theorem ldM_19 (hx : p.tables.exec = Jvm.exec) (hb : c.code = cc) (hK : va_K G vwCl [(cy, .int)] s) (hP : va_P G vwCl (cM cy a q) H) {f : Nat → Int32} (hf : q 19 = f) {i : Int32} (hi : vp_in i 20) (hdg : decode cc pc = .ok (.iaload, 1))
    (kk : W p l e R s m args below meth c H locs cells slots Q (F0 m (pc + 1) ls (.int (f i.toNatClampNeg) :: rest))) : W p l e R s m args below meth c H locs cells slots Q (F0 m pc ls (.int i :: .ref (a 14) :: rest)) := by
  subst hf
  exact va_iald hx hb hK hP 14 0 (f := q 19) rfl rfl hi hdg kk
theorem stM_19 (hx : p.tables.exec = Jvm.exec) (hb : c.code = cc) (hK : va_K G vwCl [(cy, .int)] s) (hP : va_P G vwCl (cM cy a q) H) (hD : ∀ q : wSt, va_D A (cM cy a q)) (hS : va_S A s.heap H locs) {f : Nat → Int32} (hf : q 19 = f) {i x : Int32} (hi : vp_in i 20) (hdg : decode cc pc = .ok (.iastore, 1))
    (kk : ∀ (H1 : Heap) (locs1 : List Loc), va_P G vwCl (cM cy a (rset q 19 (upd f i.toNatClampNeg x))) H1 → va_S A s.heap H1 locs1 → W p l e R s m args below meth c H1 locs1 cells slots Q (F0 m (pc + 1) ls rest)) : W p l e R s m args below meth c H locs cells slots Q (F0 m pc ls (.int x :: .int i :: .ref (a 14) :: rest)) := by
  subst hf
  exact va_iast hx hb hK hP (hD _) hS 14 0 (f := q 19) rfl rfl hi hdg (fun H1 locs1 h1 _ h3 => kk H1 locs1 h1 h3)
theorem ldM_22 (hx : p.tables.exec = Jvm.exec) (hb : c.code = cc) (hK : va_K G vwCl [(cy, .int)] s) (hP : va_P G vwCl (cM cy a q) H) {f : Nat → Int32} (hf : q 22 = f) {i : Int32} (hi : vp_in i 100) (hdg : decode cc pc = .ok (.iaload, 1))
    (kk : W p l e R s m args below meth c H locs cells slots Q (F0 m (pc + 1) ls (.int (f i.toNatClampNeg) :: rest))) : W p l e R s m args below meth c H locs cells slots Q (F0 m pc ls (.int i :: .ref (a 15) :: rest)) := by
  subst hf
  exact va_iald hx hb hK hP 15 0 (f := q 22) rfl rfl hi hdg kk
theorem stM_22 (hx : p.tables.exec = Jvm.exec) (hb : c.code = cc) (hK : va_K G vwCl [(cy, .int)] s) (hP : va_P G vwCl (cM cy a q) H) (hD : ∀ q : wSt, va_D A (cM cy a q)) (hS : va_S A s.heap H locs) {f : Nat → Int32} (hf : q 22 = f) {i x : Int32} (hi : vp_in i 100) (hdg : decode cc pc = .ok (.iastore, 1))
    (kk : ∀ (H1 : Heap) (locs1 : List Loc), va_P G vwCl (cM cy a (rset q 22 (upd f i.toNatClampNeg x))) H1 → va_S A s.heap H1 locs1 → W p l e R s m args below meth c H1 locs1 cells slots Q (F0 m (pc + 1) ls rest)) : W p l e R s m args below meth c H locs cells slots Q (F0 m pc ls (.int x :: .int i :: .ref (a 15) :: rest)) := by
  subst hf
  exact va_iast hx hb hK hP (hD _) hS 15 0 (f := q 22) rfl rfl hi hdg (fun H1 locs1 h1 _ h3 => kk H1 locs1 h1 h3)
theorem ldM_23 (hx : p.tables.exec = Jvm.exec) (hb : c.code = cc) (hK : va_K G vwCl [(cy, .int)] s) (hP : va_P G vwCl (cM cy a q) H) {f : Nat → Int32} (hf : q 23 = f) {i : Int32} (hi : vp_in i 100) (hdg : decode cc pc = .ok (.iaload, 1))
    (kk : W p l e R s m args below meth c H locs cells slots Q (F0 m (pc + 1) ls (.int (f i.toNatClampNeg) :: rest))) : W p l e R s m args below meth c H locs cells slots Q (F0 m pc ls (.int i :: .ref (a 16) :: rest)) := by
  subst hf
  exact va_iald hx hb hK hP 16 0 (f := q 23) rfl rfl hi hdg kk
theorem stM_23 (hx : p.tables.exec = Jvm.exec) (hb : c.code = cc) (hK : va_K G vwCl [(cy, .int)] s) (hP : va_P G vwCl (cM cy a q) H) (hD : ∀ q : wSt, va_D A (cM cy a q)) (hS : va_S A s.heap H locs) {f : Nat → Int32} (hf : q 23 = f) {i x : Int32} (hi : vp_in i 100) (hdg : decode cc pc = .ok (.iastore, 1))
    (kk : ∀ (H1 : Heap) (locs1 : List Loc), va_P G vwCl (cM cy a (rset q 23 (upd f i.toNatClampNeg x))) H1 → va_S A s.heap H1 locs1 → W p l e R s m args below meth c H1 locs1 cells slots Q (F0 m (pc + 1) ls rest)) : W p l e R s m args below meth c H locs cells slots Q (F0 m pc ls (.int x :: .int i :: .ref (a 16) :: rest)) := by
  subst hf
  exact va_iast hx hb hK hP (hD _) hS 16 0 (f := q 23) rfl rfl hi hdg (fun H1 locs1 h1 _ h3 => kk H1 locs1 h1 h3)
theorem ldM_24 (hx : p.tables.exec = Jvm.exec) (hb : c.code = cc) (hK : va_K G vwCl [(cy, .int)] s) (hP : va_P G vwCl (cM cy a q) H) {f : Nat → Int32} (hf : q 24 = f) {i : Int32} (hi : vp_in i 100) (hdg : decode cc pc = .ok (.iaload, 1))
    (kk : W p l e R s m args below meth c H locs cells slots Q (F0 m (pc + 1) ls (.int (f i.toNatClampNeg) :: rest))) : W p l e R s m args below meth c H locs cells slots Q (F0 m pc ls (.int i :: .ref (a 17) :: rest)) := by
  subst hf
  exact va_iald hx hb hK hP 17 0 (f := q 24) rfl rfl hi hdg kk
theorem stM_24 (hx : p.tables.exec = Jvm.exec) (hb : c.code = cc) (hK : va_K G vwCl [(cy, .int)] s) (hP : va_P G vwCl (cM cy a q) H) (hD : ∀ q : wSt, va_D A (cM cy a q)) (hS : va_S A s.heap H locs) {f : Nat → Int32} (hf : q 24 = f) {i x : Int32} (hi : vp_in i 100) (hdg : decode cc pc = .ok (.iastore, 1))
    (kk : ∀ (H1 : Heap) (locs1 : List Loc), va_P G vwCl (cM cy a (rset q 24 (upd f i.toNatClampNeg x))) H1 → va_S A s.heap H1 locs1 → W p l e R s m args below meth c H1 locs1 cells slots Q (F0 m (pc + 1) ls rest)) : W p l e R s m args below meth c H locs cells slots Q (F0 m pc ls (.int x :: .int i :: .ref (a 17) :: rest)) := by
  subst hf
  exact va_iast hx hb hK hP (hD _) hS 17 0 (f := q 24) rfl rfl hi hdg (fun H1 locs1 h1 _ h3 => kk H1 locs1 h1 h3)
theorem ldM_25 (hx : p.tables.exec = Jvm.exec) (hb : c.code = cc) (hK : va_K G vwCl [(cy, .int)] s) (hP : va_P G vwCl (cM cy a q) H) {f : Nat → Int32} (hf : q 25 = f) {i : Int32} (hi : vp_in i 100) (hdg : decode cc pc = .ok (.iaload, 1))
    (kk : W p l e R s m args below meth c H locs cells slots Q (F0 m (pc + 1) ls (.int (f i.toNatClampNeg) :: rest))) : W p l e R s m args below meth c H locs cells slots Q (F0 m pc ls (.int i :: .ref (a 18) :: rest)) := by
  subst hf
  exact va_iald hx hb hK hP 18 0 (f := q 25) rfl rfl hi hdg kk
theorem stM_25 (hx : p.tables.exec = Jvm.exec) (hb : c.code = cc) (hK : va_K G vwCl [(cy, .int)] s) (hP : va_P G vwCl (cM cy a q) H) (hD : ∀ q : wSt, va_D A (cM cy a q)) (hS : va_S A s.heap H locs) {f : Nat → Int32} (hf : q 25 = f) {i x : Int32} (hi : vp_in i 100) (hdg : decode cc pc = .ok (.iastore, 1))
    (kk : ∀ (H1 : Heap) (locs1 : List Loc), va_P G vwCl (cM cy a (rset q 25 (upd f i.toNatClampNeg x))) H1 → va_S A s.heap H1 locs1 → W p l e R s m args below meth c H1 locs1 cells slots Q (F0 m (pc + 1) ls rest)) : W p l e R s m args below meth c H locs cells slots Q (F0 m pc ls (.int x :: .int i :: .ref (a 18) :: rest)) := by
  subst hf
  exact va_iast hx hb hK hP (hD _) hS 18 0 (f := q 25) rfl rfl hi hdg (fun H1 locs1 h1 _ h3 => kk H1 locs1 h1 h3)
theorem ldM_27 (hx : p.tables.exec = Jvm.exec) (hb : c.code = cc) (hK : va_K G vwCl [(cy, .int)] s) (hP : va_P G vwCl (cM cy a q) H) {f : Nat → Int32} (hf : q 27 = f) {i : Int32} (hi : vp_in i 100) (hdg : decode cc pc = .ok (.iaload, 1))
    (kk : W p l e R s m args below meth c H locs cells slots Q (F0 m (pc + 1) ls (.int (f i.toNatClampNeg) :: rest))) : W p l e R s m args below meth c H locs cells slots Q (F0 m pc ls (.int i :: .ref (a 19) :: rest)) := by
  subst hf
  exact va_iald hx hb hK hP 19 0 (f := q 27) rfl rfl hi hdg kk
theorem stM_27 (hx : p.tables.exec = Jvm.exec) (hb : c.code = cc) (hK : va_K G vwCl [(cy, .int)] s) (hP : va_P G vwCl (cM cy a q) H) (hD : ∀ q : wSt, va_D A (cM cy a q)) (hS : va_S A s.heap H locs) {f : Nat → Int32} (hf : q 27 = f) {i x : Int32} (hi : vp_in i 100) (hdg : decode cc pc = .ok (.iastore, 1))
    (kk : ∀ (H1 : Heap) (locs1 : List Loc), va_P G vwCl (cM cy a (rset q 27 (upd f i.toNatClampNeg x))) H1 → va_S A s.heap H1 locs1 → W p l e R s m args below meth c H1 locs1 cells slots Q (F0 m (pc + 1) ls rest)) : W p l e R s m args below meth c H locs cells slots Q (F0 m pc ls (.int x :: .int i :: .ref (a 19) :: rest)) := by
  subst hf
  exact va_iast hx hb hK hP (hD _) hS 19 0 (f := q 27) rfl rfl hi hdg (fun H1 locs1 h1 _ h3 => kk H1 locs1 h1 h3)
theorem ldM_1 (hx : p.tables.exec = Jvm.exec) (hb : c.code = cc) (hK : va_K G vwCl [(cy, .int)] s) (hP : va_P G vwCl (cM cy a q) H) {f : Nat → Int32} (hf : q 1 = f) {i : Int32} (hi : vp_in i 40) (hdg : decode cc pc = .ok (.iaload, 1))
    (kk : W p l e R s m args below meth c H locs cells slots Q (F0 m (pc + 1) ls (.int (f i.toNatClampNeg) :: rest))) : W p l e R s m args below meth c H locs cells slots Q (F0 m pc ls (.int i :: .ref (a 20) :: rest)) := by
  subst hf
  exact va_iald hx hb hK hP 20 0 (f := q 1) rfl rfl hi hdg kk
theorem stM_1 (hx : p.tables.exec = Jvm.exec) (hb : c.code = cc) (hK : va_K G vwCl [(cy, .int)] s) (hP : va_P G vwCl (cM cy a q) H) (hD : ∀ q : wSt, va_D A (cM cy a q)) (hS : va_S A s.heap H locs) {f : Nat → Int32} (hf : q 1 = f) {i x : Int32} (hi : vp_in i 40) (hdg : decode cc pc = .ok (.iastore, 1))
    (kk : ∀ (H1 : Heap) (locs1 : List Loc), va_P G vwCl (cM cy a (rset q 1 (upd f i.toNatClampNeg x))) H1 → va_S A s.heap H1 locs1 → W p l e R s m args below meth c H1 locs1 cells slots Q (F0 m (pc + 1) ls rest)) : W p l e R s m args below meth c H locs cells slots Q (F0 m pc ls (.int x :: .int i :: .ref (a 20) :: rest)) := by
  subst hf
  exact va_iast hx hb hK hP (hD _) hS 20 0 (f := q 1) rfl rfl hi hdg (fun H1 locs1 h1 _ h3 => kk H1 locs1 h1 h3)
theorem ldM_2 (hx : p.tables.exec = Jvm.exec) (hb : c.code = cc) (hK : va_K G vwCl [(cy, .int)] s) (hP : va_P G vwCl (cM cy a q) H) {f : Nat → Int32} (hf : q 2 = f) {i : Int32} (hi : vp_in i 40) (hdg : decode cc pc = .ok (.iaload, 1))
    (kk : W p l e R s m args below meth c H locs cells slots Q (F0 m (pc + 1) ls (.int (f i.toNatClampNeg) :: rest))) : W p l e R s m args below meth c H locs cells slots Q (F0 m pc ls (.int i :: .ref (a 21) :: rest)) := by
  subst hf
  exact va_iald hx hb hK hP 21 0 (f := q 2) rfl rfl hi hdg kk
theorem stM_2 (hx : p.tables.exec = Jvm.exec) (hb : c.code = cc) (hK : va_K G vwCl [(cy, .int)] s) (hP : va_P G vwCl (cM cy a q) H) (hD : ∀ q : wSt, va_D A (cM cy a q)) (hS : va_S A s.heap H locs) {f : Nat → Int32} (hf : q 2 = f) {i x : Int32} (hi : vp_in i 40) (hdg : decode cc pc = .ok (.iastore, 1))
    (kk : ∀ (H1 : Heap) (locs1 : List Loc), va_P G vwCl (cM cy a (rset q 2 (upd f i.toNatClampNeg x))) H1 → va_S A s.heap H1 locs1 → W p l e R s m args below meth c H1 locs1 cells slots Q (F0 m (pc + 1) ls rest)) : W p l e R s m args below meth c H locs cells slots Q (F0 m pc ls (.int x :: .int i :: .ref (a 21) :: rest)) := by
  subst hf
  exact va_iast hx hb hK hP (hD _) hS 21 0 (f := q 2) rfl rfl hi hdg (fun H1 locs1 h1 _ h3 => kk H1 locs1 h1 h3)
theorem ldM_3 (hx : p.tables.exec = Jvm.exec) (hb : c.code = cc) (hK : va_K G vwCl [(cy, .int)] s) (hP : va_P G vwCl (cM cy a q) H) {f : Nat → Int32} (hf : q 3 = f) {i : Int32} (hi : vp_in i 40) (hdg : decode cc pc = .ok (.iaload, 1))
    (kk : W p l e R s m args below meth c H locs cells slots Q (F0 m (pc + 1) ls (.int (f i.toNatClampNeg) :: rest))) : W p l e R s m args below meth c H locs cells slots Q (F0 m pc ls (.int i :: .ref (a 22) :: rest)) := by
  subst hf
  exact va_iald hx hb hK hP 22 0 (f := q 3) rfl rfl hi hdg kk
theorem stM_3 (hx : p.tables.exec = Jvm.exec) (hb : c.code = cc) (hK : va_K G vwCl [(cy, .int)] s) (hP : va_P G vwCl (cM cy a q) H) (hD : ∀ q : wSt, va_D A (cM cy a q)) (hS : va_S A s.heap H locs) {f : Nat → Int32} (hf : q 3 = f) {i x : Int32} (hi : vp_in i 40) (hdg : decode cc pc = .ok (.iastore, 1))
    (kk : ∀ (H1 : Heap) (locs1 : List Loc), va_P G vwCl (cM cy a (rset q 3 (upd f i.toNatClampNeg x))) H1 → va_S A s.heap H1 locs1 → W p l e R s m args below meth c H1 locs1 cells slots Q (F0 m (pc + 1) ls rest)) : W p l e R s m args below meth c H locs cells slots Q (F0 m pc ls (.int x :: .int i :: .ref (a 22) :: rest)) := by
  subst hf
  exact va_iast hx hb hK hP (hD _) hS 22 0 (f := q 3) rfl rfl hi hdg (fun H1 locs1 h1 _ h3 => kk H1 locs1 h1 h3)
theorem ldM_4 (hx : p.tables.exec = Jvm.exec) (hb : c.code = cc) (hK : va_K G vwCl [(cy, .int)] s) (hP : va_P G vwCl (cM cy a q) H) {f : Nat → Int32} (hf : q 4 = f) {i : Int32} (hi : vp_in i 40) (hdg : decode cc pc = .ok (.iaload, 1))
    (kk : W p l e R s m args below meth c H locs cells slots Q (F0 m (pc + 1) ls (.int (f i.toNatClampNeg) :: rest))) : W p l e R s m args below meth c H locs cells slots Q (F0 m pc ls (.int i :: .ref (a 23) :: rest)) := by
  subst hf
  exact va_iald hx hb hK hP 23 0 (f := q 4) rfl rfl hi hdg kk
theorem stM_4 (hx : p.tables.exec = Jvm.exec) (hb : c.code = cc) (hK : va_K G vwCl [(cy, .int)] s) (hP : va_P G vwCl (cM cy a q) H) (hD : ∀ q : wSt, va_D A (cM cy a q)) (hS : va_S A s.heap H locs) {f : Nat → Int32} (hf : q 4 = f) {i x : Int32} (hi : vp_in i 40) (hdg : decode cc pc = .ok (.iastore, 1))
    (kk : ∀ (H1 : Heap) (locs1 : List Loc), va_P G vwCl (cM cy a (rset q 4 (upd f i.toNatClampNeg x))) H1 → va_S A s.heap H1 locs1 → W p l e R s m args below meth c H1 locs1 cells slots Q (F0 m (pc + 1) ls rest)) : W p l e R s m args below meth c H locs cells slots Q (F0 m pc ls (.int x :: .int i :: .ref (a 23) :: rest)) := by
  subst hf
  exact va_iast hx hb hK hP (hD _) hS 23 0 (f := q 4) rfl rfl hi hdg (fun H1 locs1 h1 _ h3 => kk H1 locs1 h1 h3)
theorem ldM_5 (hx : p.tables.exec = Jvm.exec) (hb : c.code = cc) (hK : va_K G vwCl [(cy, .int)] s) (hP : va_P G vwCl (cM cy a q) H) {f : Nat → Int32} (hf : q 5 = f) {i : Int32} (hi : vp_in i 40) (hdg : decode cc pc = .ok (.iaload, 1))
    (kk : W p l e R s m args below meth c H locs cells slots Q (F0 m (pc + 1) ls (.int (f i.toNatClampNeg) :: rest))) : W p l e R s m args below meth c H locs cells slots Q (F0 m pc ls (.int i :: .ref (a 24) :: rest)) := by
  subst hf
  exact va_iald hx hb hK hP 24 0 (f := q 5) rfl rfl hi hdg kk
theorem stM_5 (hx : p.tables.exec = Jvm.exec) (hb : c.code = cc) (hK : va_K G vwCl [(cy, .int)] s) (hP : va_P G vwCl (cM cy a q) H) (hD : ∀ q : wSt, va_D A (cM cy a q)) (hS : va_S A s.heap H locs) {f : Nat → Int32} (hf : q 5 = f) {i x : Int32} (hi : vp_in i 40) (hdg : decode cc pc = .ok (.iastore, 1))
    (kk : ∀ (H1 : Heap) (locs1 : List Loc), va_P G vwCl (cM cy a (rset q 5 (upd f i.toNatClampNeg x))) H1 → va_S A s.heap H1 locs1 → W p l e R s m args below meth c H1 locs1 cells slots Q (F0 m (pc + 1) ls rest)) : W p l e R s m args below meth c H locs cells slots Q (F0 m pc ls (.int x :: .int i :: .ref (a 24) :: rest)) := by
  subst hf
  exact va_iast hx hb hK hP (hD _) hS 24 0 (f := q 5) rfl rfl hi hdg (fun H1 locs1 h1 _ h3 => kk H1 locs1 h1 h3)
theorem ldM_28 (hx : p.tables.exec = Jvm.exec) (hb : c.code = cc) (hK : va_K G vwCl [(cy, .int)] s) (hP : va_P G vwCl (cM cy a q) H) {f : Nat → Int32} (hf : q 28 = f) {i : Int32} (hi : vp_in i 21) (hdg : decode cc pc = .ok (.iaload, 1))
    (kk : W p l e R s m args below meth c H locs cells slots Q (F0 m (pc + 1) ls (.int (f i.toNatClampNeg) :: rest))) : W p l e R s m args below meth c H locs cells slots Q (F0 m pc ls (.int i :: .ref (a 25) :: rest)) := by
  subst hf
  exact va_iald hx hb hK hP 25 0 (f := q 28) rfl rfl hi hdg kk
theorem stM_28 (hx : p.tables.exec = Jvm.exec) (hb : c.code = cc) (hK : va_K G vwCl [(cy, .int)] s) (hP : va_P G vwCl (cM cy a q) H) (hD : ∀ q : wSt, va_D A (cM cy a q)) (hS : va_S A s.heap H locs) {f : Nat → Int32} (hf : q 28 = f) {i x : Int32} (hi : vp_in i 21) (hdg : decode cc pc = .ok (.iastore, 1))
    (kk : ∀ (H1 : Heap) (locs1 : List Loc), va_P G vwCl (cM cy a (rset q 28 (upd f i.toNatClampNeg x))) H1 → va_S A s.heap H1 locs1 → W p l e R s m args below meth c H1 locs1 cells slots Q (F0 m (pc + 1) ls rest)) : W p l e R s m args below meth c H locs cells slots Q (F0 m pc ls (.int x :: .int i :: .ref (a 25) :: rest)) := by
  subst hf
  exact va_iast hx hb hK hP (hD _) hS 25 0 (f := q 28) rfl rfl hi hdg (fun H1 locs1 h1 _ h3 => kk H1 locs1 h1 h3)
theorem ldM_29 (hx : p.tables.exec = Jvm.exec) (hb : c.code = cc) (hK : va_K G vwCl [(cy, .int)] s) (hP : va_P G vwCl (cM cy a q) H) {f : Nat → Int32} (hf : q 29 = f) {i : Int32} (hi : vp_in i 21) (hdg : decode cc pc = .ok (.iaload, 1))
    (kk : W p l e R s m args below meth c H locs cells slots Q (F0 m (pc + 1) ls (.int (f i.toNatClampNeg) :: rest))) : W p l e R s m args below meth c H locs cells slots Q (F0 m pc ls (.int i :: .ref (a 26) :: rest)) := by
  subst hf
  exact va_iald hx hb hK hP 26 0 (f := q 29) rfl rfl hi hdg kk
theorem stM_29 (hx : p.tables.exec = Jvm.exec) (hb : c.code = cc) (hK : va_K G vwCl [(cy, .int)] s) (hP : va_P G vwCl (cM cy a q) H) (hD : ∀ q : wSt, va_D A (cM cy a q)) (hS : va_S A s.heap H locs) {f : Nat → Int32} (hf : q 29 = f) {i x : Int32} (hi : vp_in i 21) (hdg : decode cc pc = .ok (.iastore, 1))
    (kk : ∀ (H1 : Heap) (locs1 : List Loc), va_P G vwCl (cM cy a (rset q 29 (upd f i.toNatClampNeg x))) H1 → va_S A s.heap H1 locs1 → W p l e R s m args below meth c H1 locs1 cells slots Q (F0 m (pc + 1) ls rest)) : W p l e R s m args below meth c H locs cells slots Q (F0 m pc ls (.int x :: .int i :: .ref (a 26) :: rest)) := by
  subst hf
  exact va_iast hx hb hK hP (hD _) hS 26 0 (f := q 29) rfl rfl hi hdg (fun H1 locs1 h1 _ h3 => kk H1 locs1 h1 h3)
end XSTEPS
end
section
/-! Part 04: the pure functions of the bytecode, by program; frames -/
def cN (P : Nat → Bool) : Nat → Nat
  | 0 => 0
  | n + 1 => cN P n + (if P n = true then 1 else 0)
/-- how many copies are on the shelf -/
def shN (p : wSt) : Nat := cN (fun c => decide (p 6 c = 0)) (p 36 0).toNatClampNeg
/-- what every call keeps: counts within bounds; volumes, classes, readers and titles of wishes within theirs -/
def iI (q : wSt) : Prop := (0 ≤ (q 34 0).toInt ∧ (q 34 0).toInt ≤ 12 ∧ 0 ≤ (q 35 0).toInt ∧ (q 35 0).toInt ≤ 40 ∧ 0 ≤ (q 36 0).toInt ∧ (q 36 0).toInt ≤ 200 ∧ 0 ≤ (q 39 0).toInt ∧ (q 39 0).toInt ≤ 20 ∧ 0 ≤ (q 40 0).toInt ∧ (q 40 0).toInt ≤ 100) ∧ (∀ i : Nat, i < 12 → 0 ≤ (q 0 i).toInt ∧ (q 0 i).toInt ≤ 4) ∧ (∀ i : Nat, i < 20 → 0 ≤ (q 16 i).toInt ∧ (q 16 i).toInt ≤ 2) ∧ (∀ i : Nat, i < 100 → 0 ≤ (q 22 i).toInt ∧ (q 22 i).toInt ≤ 19) ∧ (∀ i : Nat, i < 100 → 0 ≤ (q 23 i).toInt ∧ (q 23 i).toInt ≤ 11)
theorem iI_b {q : wSt} (h : iI q) : 0 ≤ (q 34 0).toInt ∧ (q 34 0).toInt ≤ 12 ∧ 0 ≤ (q 35 0).toInt ∧ (q 35 0).toInt ≤ 40 ∧ 0 ≤ (q 36 0).toInt ∧ (q 36 0).toInt ≤ 200 ∧ 0 ≤ (q 39 0).toInt ∧ (q 39 0).toInt ≤ 20 ∧ 0 ≤ (q 40 0).toInt ∧ (q 40 0).toInt ≤ 100 := h.1
theorem iI_0 {q : wSt} (h : iI q) : ∀ i : Nat, i < 12 → 0 ≤ (q 0 i).toInt ∧ (q 0 i).toInt ≤ 4 := h.2.1
theorem iI_16 {q : wSt} (h : iI q) : ∀ i : Nat, i < 20 → 0 ≤ (q 16 i).toInt ∧ (q 16 i).toInt ≤ 2 := h.2.2.1
theorem iI_22 {q : wSt} (h : iI q) : ∀ i : Nat, i < 100 → 0 ≤ (q 22 i).toInt ∧ (q 22 i).toInt ≤ 19 := h.2.2.2.1
theorem iI_23 {q : wSt} (h : iI q) : ∀ i : Nat, i < 100 → 0 ≤ (q 23 i).toInt ∧ (q 23 i).toInt ≤ 11 := h.2.2.2.2
theorem iI_fr {q q' : wSt} (h : ∀ k : Nat, (k = 0 ∨ k = 16 ∨ k = 22 ∨ k = 23 ∨ k = 34 ∨ k = 35 ∨ k = 36 ∨ k = 39 ∨ k = 40) → q' k = q k) (hq : iI q) : iI q' := by
  have h0 := h 0 (by omega)
  have h16 := h 16 (by omega)
  have h22 := h 22 (by omega)
  have h23 := h 23 (by omega)
  have h34 := h 34 (by omega)
  have h35 := h 35 (by omega)
  have h36 := h 36 (by omega)
  have h39 := h 39 (by omega)
  have h40 := h 40 (by omega)
  unfold iI
  rw [h0, h16, h22, h23, h34, h35, h36, h39, h40]
  exact hq
theorem iI_rset {q : wSt} {k : Nat} {f : Nat → Int32} (hk : ¬ (k = 0 ∨ k = 16 ∨ k = 22 ∨ k = 23 ∨ k = 34 ∨ k = 35 ∨ k = 36 ∨ k = 39 ∨ k = 40)) (h : iI q) : iI (rset q k f) := iI_fr (fun j hj => by unfold rset; rw [if_neg (fun e => hk (by rw [← e]; exact hj))]) h
theorem w_bool {v : Int32} (h : v.toInt = 0 ∨ v.toInt = 1) : narrow .boolean (.int v) = .int v := by
  rcases h with h | h
  · rw [Int32.toInt_inj.mp (show v.toInt = (0 : Int32).toInt from h)]; rfl
  · rw [Int32.toInt_inj.mp (show v.toInt = (1 : Int32).toInt from h)]; rfl
def fX0_add (q : wSt) (x1 : Int32) (x2 : Int32) (x3 : Int32) (x4 : Int32) (x5 : Int32) : wSt := (rset (rset (rset (rset (rset (rset q 1 (upd (q 1) (q 35 0).toNatClampNeg x1)) 2 (upd (q 2) (q 35 0).toNatClampNeg x2)) 3 (upd (q 3) (q 35 0).toNatClampNeg x3)) 4 (upd (q 4) (q 35 0).toNatClampNeg x4)) 5 (upd (q 5) (q 35 0).toNatClampNeg x5)) 35 (fun _ => ((q 35 0) + 1)))
set_option maxRecDepth 20000 in
theorem frX0_add (q : wSt) (x1 : Int32) (x2 : Int32) (x3 : Int32) (x4 : Int32) (x5 : Int32) (k : Nat) (hk : k ≠ 1 ∧ k ≠ 2 ∧ k ≠ 3 ∧ k ≠ 4 ∧ k ≠ 5 ∧ k ≠ 35) : (fX0_add q x1 x2 x3 x4 x5) k = q k := by
  obtain ⟨h1, h2, h3, h4, h5, h35⟩ := hk
  unfold fX0_add
  (repeat' split) <;> simp [rset, h1, h2, h3, h4, h5, h35]
def fX0_inForce_j2 (q : wSt) (x1 : Int32) (x2 : Int32) (y3_1 : Int32) (y4_1 : Int32) : Int32 := (if (q 1 (y4_1).toNatClampNeg) = x1 then (if x2 < (q 2 (y4_1).toNatClampNeg) then y3_1 else (if y3_1 = (-1) then y4_1 else (if (q 2 (y4_1).toNatClampNeg) < (q 2 (y3_1).toNatClampNeg) then y3_1 else y4_1))) else y3_1)
def lX0_inForce_1 (q : wSt) (x1 : Int32) (x2 : Int32) : Nat → Int32 → Int32 → Int32
  | 0, _, _ => (-1)
  | n + 1, y3_1, y4_1 => (if (q 35 0) ≤ y4_1 then y3_1 else (lX0_inForce_1 q x1 x2 n (fX0_inForce_j2 q x1 x2 y3_1 y4_1) (y4_1 + 1)))
theorem lX0_inForce_1_s (q : wSt) (x1 : Int32) (x2 : Int32) (n : Nat) (y3_1 : Int32) (y4_1 : Int32) : lX0_inForce_1 q x1 x2 (n + 1) y3_1 y4_1 = (if (q 35 0) ≤ y4_1 then y3_1 else (lX0_inForce_1 q x1 x2 n (fX0_inForce_j2 q x1 x2 y3_1 y4_1) (y4_1 + 1))) := rfl
def fX0_inForce (q : wSt) (x1 : Int32) (x2 : Int32) : Int32 := (lX0_inForce_1 q x1 x2 (((q 35 0).toInt - (0 : Int32).toInt).toNat + 1) (-1) 0)
def fX0_priceAt (q : wSt) (x1 : Int32) (x2 : Int32) : Int32 := (if x1 < 0 then 10 else (if x1 < (q 35 0) then (if (q 3 (x1).toNatClampNeg) ≤ x2 then (q 5 (x1).toNatClampNeg) else (q 4 (x1).toNatClampNeg)) else 10))
def fX1_has (q : wSt) (x1 : Int32) : Int32 := (if x1 < 0 then 0 else (if (q 36 0) ≤ x1 then 0 else 1))
def fX1_isAt (q : wSt) (x1 : Int32) (x2 : Int32) : Int32 := (if (fX1_has q x1) = 0 then 0 else (if (q 6 (x1).toNatClampNeg) = x2 then 1 else 0))
def fX1_slot (q : wSt) (x1 : Int32) (x2 : Int32) : Int32 := ((x1 * 4) + x2)
def fX1_inBox (q : wSt) (x1 : Int32) : Int32 := (if (q 6 (x1).toNatClampNeg) = 2 then 1 else (if (q 6 (x1).toNatClampNeg) = 3 then 1 else 0))
def fX1_tally_j1 (q : wSt) (x1 : Int32) (x2 : Int32) : wSt := (if (q 6 (x1).toNatClampNeg) = 0 then (if (fX1_slot q (q 7 (x1).toNatClampNeg) (q 8 (x1).toNatClampNeg)) < 0 then q else (if 48 ≤ (fX1_slot q (q 7 (x1).toNatClampNeg) (q 8 (x1).toNatClampNeg)) then q else (rset q 15 (upd (q 15) (fX1_slot q (q 7 (x1).toNatClampNeg) (q 8 (x1).toNatClampNeg)).toNatClampNeg ((q 15 (fX1_slot q (q 7 (x1).toNatClampNeg) (q 8 (x1).toNatClampNeg)).toNatClampNeg) + x2))))) else q)
def fX1_tally_j2 (q : wSt) (x1 : Int32) (x2 : Int32) : wSt := (if (fX1_inBox (fX1_tally_j1 q x1 x2) x1) = 0 then (fX1_tally_j1 q x1 x2) else (rset (fX1_tally_j1 q x1 x2) 37 (fun _ => (((fX1_tally_j1 q x1 x2) 37 0) + x2))))
def fX1_tally (q : wSt) (x1 : Int32) (x2 : Int32) : wSt := (if ((fX1_tally_j2 q x1 x2) 6 (x1).toNatClampNeg) = 5 then (rset (fX1_tally_j2 q x1 x2) 38 (fun _ => (((fX1_tally_j2 q x1 x2) 38 0) + x2))) else (fX1_tally_j2 q x1 x2))
set_option maxRecDepth 20000 in
theorem frX1_tally_j1 (q : wSt) (x1 : Int32) (x2 : Int32) (k : Nat) (hk : k ≠ 15 ∧ k ≠ 37 ∧ k ≠ 38) : (fX1_tally_j1 q x1 x2) k = q k := by
  obtain ⟨h15, h37, h38⟩ := hk
  unfold fX1_tally_j1
  (repeat' split) <;> simp [rset, h15, h37, h38]
set_option maxRecDepth 20000 in
theorem frX1_tally_j2 (q : wSt) (x1 : Int32) (x2 : Int32) (k : Nat) (hk : k ≠ 15 ∧ k ≠ 37 ∧ k ≠ 38) : (fX1_tally_j2 q x1 x2) k = q k := by
  have gfX1_tally_j1 := fun a0 a1 a2 => frX1_tally_j1 a0 a1 a2 k (by omega)
  obtain ⟨h15, h37, h38⟩ := hk
  unfold fX1_tally_j2
  (repeat' split) <;> simp [rset, h15, h37, h38, gfX1_tally_j1]
set_option maxRecDepth 20000 in
theorem frX1_tally (q : wSt) (x1 : Int32) (x2 : Int32) (k : Nat) (hk : k ≠ 15 ∧ k ≠ 37 ∧ k ≠ 38) : (fX1_tally q x1 x2) k = q k := by
  have gfX1_tally_j1 := fun a0 a1 a2 => frX1_tally_j1 a0 a1 a2 k (by omega)
  have gfX1_tally_j2 := fun a0 a1 a2 => frX1_tally_j2 a0 a1 a2 k (by omega)
  obtain ⟨h15, h37, h38⟩ := hk
  unfold fX1_tally
  (repeat' split) <;> simp [rset, h15, h37, h38, gfX1_tally_j1, gfX1_tally_j2]
theorem iIX1_tally (q : wSt) (x1 : Int32) (x2 : Int32) (h : iI q) : iI (fX1_tally q x1 x2) := iI_fr (fun k hk => frX1_tally q x1 x2 k (by omega)) h
def fX1_moveTo (q : wSt) (x1 : Int32) (x2 : Int32) : wSt := (fX1_tally (rset (fX1_tally q x1 (-1)) 6 (upd ((fX1_tally q x1 (-1)) 6) (x1).toNatClampNeg x2)) x1 1)
set_option maxRecDepth 20000 in
theorem frX1_moveTo (q : wSt) (x1 : Int32) (x2 : Int32) (k : Nat) (hk : k ≠ 6 ∧ k ≠ 15 ∧ k ≠ 37 ∧ k ≠ 38) : (fX1_moveTo q x1 x2) k = q k := by
  have gX1_tally := fun a b0 b1 => frX1_tally a b0 b1 k (by omega)
  obtain ⟨h6, h15, h37, h38⟩ := hk
  unfold fX1_moveTo
  (repeat' split) <;> simp [rset, h6, h15, h37, h38, gX1_tally]
theorem iIX1_moveTo (q : wSt) (x1 : Int32) (x2 : Int32) (h : iI q) : iI (fX1_moveTo q x1 x2) := iI_fr (fun k hk => frX1_moveTo q x1 x2 k (by omega)) h
def fX1_belongToNobody (q : wSt) (x1 : Int32) : wSt := (rset (rset (rset (rset q 10 (upd (q 10) (x1).toNatClampNeg (-1))) 11 (upd (q 11) (x1).toNatClampNeg (-1))) 12 (upd (q 12) (x1).toNatClampNeg (-1))) 13 (upd (q 13) (x1).toNatClampNeg 0))
set_option maxRecDepth 20000 in
theorem frX1_belongToNobody (q : wSt) (x1 : Int32) (k : Nat) (hk : k ≠ 10 ∧ k ≠ 11 ∧ k ≠ 12 ∧ k ≠ 13) : (fX1_belongToNobody q x1) k = q k := by
  obtain ⟨h10, h11, h12, h13⟩ := hk
  unfold fX1_belongToNobody
  (repeat' split) <;> simp [rset, h10, h11, h12, h13]
theorem iIX1_belongToNobody (q : wSt) (x1 : Int32) (h : iI q) : iI (fX1_belongToNobody q x1) := iI_fr (fun k hk => frX1_belongToNobody q x1 k (by omega)) h
def fX1_shelve (q : wSt) (x1 : Int32) : wSt := (fX1_belongToNobody (fX1_moveTo q x1 0) x1)
set_option maxRecDepth 20000 in
theorem frX1_shelve (q : wSt) (x1 : Int32) (k : Nat) (hk : k ≠ 6 ∧ k ≠ 10 ∧ k ≠ 11 ∧ k ≠ 12 ∧ k ≠ 13 ∧ k ≠ 15 ∧ k ≠ 37 ∧ k ≠ 38) : (fX1_shelve q x1) k = q k := by
  have gX1_belongToNobody := fun a b0 => frX1_belongToNobody a b0 k (by omega)
  have gX1_moveTo := fun a b0 b1 => frX1_moveTo a b0 b1 k (by omega)
  obtain ⟨h6, h10, h11, h12, h13, h15, h37, h38⟩ := hk
  unfold fX1_shelve
  (repeat' split) <;> simp [rset, h6, h10, h11, h12, h13, h15, h37, h38, gX1_belongToNobody, gX1_moveTo]
theorem iIX1_shelve (q : wSt) (x1 : Int32) (h : iI q) : iI (fX1_shelve q x1) := iI_fr (fun k hk => frX1_shelve q x1 k (by omega)) h
def fX1_add (q : wSt) (x1 : Int32) (x2 : Int32) (x3 : Int32) : wSt := (fX1_shelve (rset (rset (rset (rset (rset (rset q 36 (fun _ => ((q 36 0) + 1))) 7 (upd (q 7) (q 36 0).toNatClampNeg x1)) 8 (upd (q 8) (q 36 0).toNatClampNeg x2)) 9 (upd (q 9) (q 36 0).toNatClampNeg x3)) 6 (upd (q 6) (q 36 0).toNatClampNeg (-1))) 14 (upd (q 14) (q 36 0).toNatClampNeg 0)) (q 36 0))
set_option maxRecDepth 20000 in
theorem frX1_add (q : wSt) (x1 : Int32) (x2 : Int32) (x3 : Int32) (k : Nat) (hk : k ≠ 6 ∧ k ≠ 7 ∧ k ≠ 8 ∧ k ≠ 9 ∧ k ≠ 10 ∧ k ≠ 11 ∧ k ≠ 12 ∧ k ≠ 13 ∧ k ≠ 14 ∧ k ≠ 15 ∧ k ≠ 36 ∧ k ≠ 37 ∧ k ≠ 38) : (fX1_add q x1 x2 x3) k = q k := by
  have gX1_shelve := fun a b0 => frX1_shelve a b0 k (by omega)
  obtain ⟨h6, h7, h8, h9, h10, h11, h12, h13, h14, h15, h36, h37, h38⟩ := hk
  unfold fX1_add
  (repeat' split) <;> simp [rset, h6, h7, h8, h9, h10, h11, h12, h13, h14, h15, h36, h37, h38, gX1_shelve]
def fX1_onShelf (q : wSt) (x1 : Int32) (x2 : Int32) : Int32 := (if (fX1_slot q x1 x2) < 0 then 0 else (if 48 ≤ (fX1_slot q x1 x2) then 0 else (q 15 (fX1_slot q x1 x2).toNatClampNeg)))
def lX1_leastOnShelf_1 (q : wSt) (x1 : Int32) (x2 : Int32) : Nat → Int32 → Int32
  | 0, _ => (-1)
  | n + 1, y3_1 => (if (q 36 0) ≤ y3_1 then (-1) else (if (q 6 (y3_1).toNatClampNeg) = 0 then (if (q 7 (y3_1).toNatClampNeg) = x1 then (if (q 8 (y3_1).toNatClampNeg) = x2 then y3_1 else (lX1_leastOnShelf_1 q x1 x2 n (y3_1 + 1))) else (lX1_leastOnShelf_1 q x1 x2 n (y3_1 + 1))) else (lX1_leastOnShelf_1 q x1 x2 n (y3_1 + 1))))
theorem lX1_leastOnShelf_1_s (q : wSt) (x1 : Int32) (x2 : Int32) (n : Nat) (y3_1 : Int32) : lX1_leastOnShelf_1 q x1 x2 (n + 1) y3_1 = (if (q 36 0) ≤ y3_1 then (-1) else (if (q 6 (y3_1).toNatClampNeg) = 0 then (if (q 7 (y3_1).toNatClampNeg) = x1 then (if (q 8 (y3_1).toNatClampNeg) = x2 then y3_1 else (lX1_leastOnShelf_1 q x1 x2 n (y3_1 + 1))) else (lX1_leastOnShelf_1 q x1 x2 n (y3_1 + 1))) else (lX1_leastOnShelf_1 q x1 x2 n (y3_1 + 1)))) := rfl
def fX1_leastOnShelf (q : wSt) (x1 : Int32) (x2 : Int32) : Int32 := (lX1_leastOnShelf_1 q x1 x2 (((q 36 0).toInt - (0 : Int32).toInt).toNat + 1) 0)
def fX1_inHouse_j2 (q : wSt) (x1 : Int32) (x2 : Int32) (y3_1 : Int32) (y4_1 : Int32) : Int32 := (if (q 7 (y4_1).toNatClampNeg) = x1 then (if (q 8 (y4_1).toNatClampNeg) = x2 then (if (q 6 (y4_1).toNatClampNeg) = 4 then y3_1 else (if (q 6 (y4_1).toNatClampNeg) = 5 then y3_1 else (y3_1 + 1))) else y3_1) else y3_1)
def lX1_inHouse_1 (q : wSt) (x1 : Int32) (x2 : Int32) : Nat → Int32 → Int32 → Int32
  | 0, _, _ => (-1)
  | n + 1, y3_1, y4_1 => (if (q 36 0) ≤ y4_1 then y3_1 else (lX1_inHouse_1 q x1 x2 n (fX1_inHouse_j2 q x1 x2 y3_1 y4_1) (y4_1 + 1)))
theorem lX1_inHouse_1_s (q : wSt) (x1 : Int32) (x2 : Int32) (n : Nat) (y3_1 : Int32) (y4_1 : Int32) : lX1_inHouse_1 q x1 x2 (n + 1) y3_1 y4_1 = (if (q 36 0) ≤ y4_1 then y3_1 else (lX1_inHouse_1 q x1 x2 n (fX1_inHouse_j2 q x1 x2 y3_1 y4_1) (y4_1 + 1))) := rfl
def fX1_inHouse (q : wSt) (x1 : Int32) (x2 : Int32) : Int32 := (lX1_inHouse_1 q x1 x2 (((q 36 0).toInt - (0 : Int32).toInt).toNat + 1) 0 0)
def fX1_leaveFor (q : wSt) (x1 : Int32) (x2 : Int32) : wSt := (fX1_belongToNobody (fX1_moveTo q x1 x2) x1)
set_option maxRecDepth 20000 in
theorem frX1_leaveFor (q : wSt) (x1 : Int32) (x2 : Int32) (k : Nat) (hk : k ≠ 6 ∧ k ≠ 10 ∧ k ≠ 11 ∧ k ≠ 12 ∧ k ≠ 13 ∧ k ≠ 15 ∧ k ≠ 37 ∧ k ≠ 38) : (fX1_leaveFor q x1 x2) k = q k := by
  have gX1_belongToNobody := fun a b0 => frX1_belongToNobody a b0 k (by omega)
  have gX1_moveTo := fun a b0 b1 => frX1_moveTo a b0 b1 k (by omega)
  obtain ⟨h6, h10, h11, h12, h13, h15, h37, h38⟩ := hk
  unfold fX1_leaveFor
  (repeat' split) <;> simp [rset, h6, h10, h11, h12, h13, h15, h37, h38, gX1_belongToNobody, gX1_moveTo]
theorem iIX1_leaveFor (q : wSt) (x1 : Int32) (x2 : Int32) (h : iI q) : iI (fX1_leaveFor q x1 x2) := iI_fr (fun k hk => frX1_leaveFor q x1 x2 k (by omega)) h
def fX1_lend (q : wSt) (x1 : Int32) (x2 : Int32) (x3 : Int32) : wSt := (rset (rset (rset q 10 (upd (q 10) (x1).toNatClampNeg x2)) 11 (upd (q 11) (x1).toNatClampNeg x3)) 14 (upd (q 14) (x1).toNatClampNeg ((q 14 (x1).toNatClampNeg) + 1)))
set_option maxRecDepth 20000 in
theorem frX1_lend (q : wSt) (x1 : Int32) (x2 : Int32) (x3 : Int32) (k : Nat) (hk : k ≠ 10 ∧ k ≠ 11 ∧ k ≠ 14) : (fX1_lend q x1 x2 x3) k = q k := by
  obtain ⟨h10, h11, h14⟩ := hk
  unfold fX1_lend
  (repeat' split) <;> simp [rset, h10, h11, h14]
theorem iIX1_lend (q : wSt) (x1 : Int32) (x2 : Int32) (x3 : Int32) (h : iI q) : iI (fX1_lend q x1 x2 x3) := iI_fr (fun k hk => frX1_lend q x1 x2 x3 k (by omega)) h
def fX1_handOver (q : wSt) (x1 : Int32) (x2 : Int32) : wSt := (rset (rset (fX1_moveTo q x1 1) 12 (upd ((fX1_moveTo q x1 1) 12) (x1).toNatClampNeg x2)) 13 (upd ((fX1_moveTo q x1 1) 13) (x1).toNatClampNeg 0))
set_option maxRecDepth 20000 in
theorem frX1_handOver (q : wSt) (x1 : Int32) (x2 : Int32) (k : Nat) (hk : k ≠ 6 ∧ k ≠ 12 ∧ k ≠ 13 ∧ k ≠ 15 ∧ k ≠ 37 ∧ k ≠ 38) : (fX1_handOver q x1 x2) k = q k := by
  have gX1_moveTo := fun a b0 b1 => frX1_moveTo a b0 b1 k (by omega)
  obtain ⟨h6, h12, h13, h15, h37, h38⟩ := hk
  unfold fX1_handOver
  (repeat' split) <;> simp [rset, h6, h12, h13, h15, h37, h38, gX1_moveTo]
theorem iIX1_handOver (q : wSt) (x1 : Int32) (x2 : Int32) (h : iI q) : iI (fX1_handOver q x1 x2) := iI_fr (fun k hk => frX1_handOver q x1 x2 k (by omega)) h
def fX1_sendOut (q : wSt) (x1 : Int32) (x2 : Int32) : wSt := (rset (fX1_moveTo q x1 2) 13 (upd ((fX1_moveTo q x1 2) 13) (x1).toNatClampNeg x2))
set_option maxRecDepth 20000 in
theorem frX1_sendOut (q : wSt) (x1 : Int32) (x2 : Int32) (k : Nat) (hk : k ≠ 6 ∧ k ≠ 13 ∧ k ≠ 15 ∧ k ≠ 37 ∧ k ≠ 38) : (fX1_sendOut q x1 x2) k = q k := by
  have gX1_moveTo := fun a b0 b1 => frX1_moveTo a b0 b1 k (by omega)
  obtain ⟨h6, h13, h15, h37, h38⟩ := hk
  unfold fX1_sendOut
  (repeat' split) <;> simp [rset, h6, h13, h15, h37, h38, gX1_moveTo]
theorem iIX1_sendOut (q : wSt) (x1 : Int32) (x2 : Int32) (h : iI q) : iI (fX1_sendOut q x1 x2) := iI_fr (fun k hk => frX1_sendOut q x1 x2 k (by omega)) h
def fX1_sendBack (q : wSt) (x1 : Int32) (x2 : Int32) : wSt := (rset (rset (rset (fX1_moveTo q x1 3) 11 (upd ((fX1_moveTo q x1 3) 11) (x1).toNatClampNeg (-1))) 12 (upd ((fX1_moveTo q x1 3) 12) (x1).toNatClampNeg (-1))) 13 (upd ((fX1_moveTo q x1 3) 13) (x1).toNatClampNeg x2))
set_option maxRecDepth 20000 in
theorem frX1_sendBack (q : wSt) (x1 : Int32) (x2 : Int32) (k : Nat) (hk : k ≠ 6 ∧ k ≠ 11 ∧ k ≠ 12 ∧ k ≠ 13 ∧ k ≠ 15 ∧ k ≠ 37 ∧ k ≠ 38) : (fX1_sendBack q x1 x2) k = q k := by
  have gX1_moveTo := fun a b0 b1 => frX1_moveTo a b0 b1 k (by omega)
  obtain ⟨h6, h11, h12, h13, h15, h37, h38⟩ := hk
  unfold fX1_sendBack
  (repeat' split) <;> simp [rset, h6, h11, h12, h13, h15, h37, h38, gX1_moveTo]
theorem iIX1_sendBack (q : wSt) (x1 : Int32) (x2 : Int32) (h : iI q) : iI (fX1_sendBack q x1 x2) := iI_fr (fun k hk => frX1_sendBack q x1 x2 k (by omega)) h
def fX1_comesToday (q : wSt) (x1 : Int32) : Int32 × wSt := (if (fX1_inBox q x1) = 0 then (0, q) else (if 0 < ((upd (q 13) (x1).toNatClampNeg ((q 13 (x1).toNatClampNeg) - 1)) (x1).toNatClampNeg) then (0, (rset q 13 (upd (q 13) (x1).toNatClampNeg ((q 13 (x1).toNatClampNeg) - 1)))) else (1, (rset q 13 (upd (q 13) (x1).toNatClampNeg ((q 13 (x1).toNatClampNeg) - 1))))))
set_option maxRecDepth 20000 in
theorem frX1_comesToday (q : wSt) (x1 : Int32) (k : Nat) (hk : k ≠ 13) : (fX1_comesToday q x1).2 k = q k := by
  have h13 := hk
  unfold fX1_comesToday
  (repeat' split) <;> simp [rset, h13]
theorem iIX1_comesToday (q : wSt) (x1 : Int32) (h : iI q) : iI (fX1_comesToday q x1).2 := iI_fr (fun k hk => frX1_comesToday q x1 k (by omega)) h
def fX2_gainIn (q : wSt) (x1 : Int32) (x2 : Int32) (x3 : Int32) : Int32 := (if (q 28 (x1).toNatClampNeg) ≤ x3 then 0 else x2)
def lX2_mostOf_1 (q : wSt) (x1 : Int32) (x2 : Int32) : Nat → Int32 → Int32 → Int32 → Int32
  | 0, _, _, _ => (-1)
  | n + 1, y3_1, y4_1, y5_1 => (if 20 < y5_1 then y3_1 else (lX2_mostOf_1 q x1 x2 n (if y3_1 < ((y4_1 + (fX2_gainIn q (y5_1 - 1) x1 x2)) + (q 29 (y5_1).toNatClampNeg)) then ((y4_1 + (fX2_gainIn q (y5_1 - 1) x1 x2)) + (q 29 (y5_1).toNatClampNeg)) else y3_1) (y4_1 + (fX2_gainIn q (y5_1 - 1) x1 x2)) (y5_1 + 1)))
theorem lX2_mostOf_1_s (q : wSt) (x1 : Int32) (x2 : Int32) (n : Nat) (y3_1 : Int32) (y4_1 : Int32) (y5_1 : Int32) : lX2_mostOf_1 q x1 x2 (n + 1) y3_1 y4_1 y5_1 = (if 20 < y5_1 then y3_1 else (lX2_mostOf_1 q x1 x2 n (if y3_1 < ((y4_1 + (fX2_gainIn q (y5_1 - 1) x1 x2)) + (q 29 (y5_1).toNatClampNeg)) then ((y4_1 + (fX2_gainIn q (y5_1 - 1) x1 x2)) + (q 29 (y5_1).toNatClampNeg)) else y3_1) (y4_1 + (fX2_gainIn q (y5_1 - 1) x1 x2)) (y5_1 + 1))) := rfl
def fX2_mostOf (q : wSt) (x1 : Int32) (x2 : Int32) : Int32 := (lX2_mostOf_1 q x1 x2 (((20 : Int32).toInt + 1 - (1 : Int32).toInt).toNat + 1) (q 29 (0 : Int32).toNatClampNeg) 0 1)
def lX2_setsToBuy_1 (q : wSt) (x1 : Int32) (x2 : Int32) : Nat → Int32 → Int32
  | 0, _ => (-1)
  | n + 1, y3_1 => (if 50 ≤ y3_1 then y3_1 else (if (fX2_mostOf q x1 y3_1) ≤ x2 then y3_1 else (lX2_setsToBuy_1 q x1 x2 n (y3_1 + 1))))
theorem lX2_setsToBuy_1_s (q : wSt) (x1 : Int32) (x2 : Int32) (n : Nat) (y3_1 : Int32) : lX2_setsToBuy_1 q x1 x2 (n + 1) y3_1 = (if 50 ≤ y3_1 then y3_1 else (if (fX2_mostOf q x1 y3_1) ≤ x2 then y3_1 else (lX2_setsToBuy_1 q x1 x2 n (y3_1 + 1)))) := rfl
def fX2_setsToBuy (q : wSt) (x1 : Int32) (x2 : Int32) : Int32 := (lX2_setsToBuy_1 q x1 x2 (((50 : Int32).toInt - (0 : Int32).toInt).toNat + 1) 0)
def lX2_weeksOf_1 (q : wSt) (x1 : Int32) (x2 : Int32) : Nat → Int32 → Int32 → Int32
  | 0, _, _ => (-1)
  | n + 1, y4_1, y5_1 => (if 20 ≤ y5_1 then 20 else (if (y4_1 + (q 29 (y5_1).toNatClampNeg)) = (fX2_mostOf q x1 x2) then y5_1 else (lX2_weeksOf_1 q x1 x2 n (y4_1 + (fX2_gainIn q y5_1 x1 x2)) (y5_1 + 1))))
theorem lX2_weeksOf_1_s (q : wSt) (x1 : Int32) (x2 : Int32) (n : Nat) (y4_1 : Int32) (y5_1 : Int32) : lX2_weeksOf_1 q x1 x2 (n + 1) y4_1 y5_1 = (if 20 ≤ y5_1 then 20 else (if (y4_1 + (q 29 (y5_1).toNatClampNeg)) = (fX2_mostOf q x1 x2) then y5_1 else (lX2_weeksOf_1 q x1 x2 n (y4_1 + (fX2_gainIn q y5_1 x1 x2)) (y5_1 + 1)))) := rfl
def fX2_weeksOf (q : wSt) (x1 : Int32) (x2 : Int32) : Int32 := (lX2_weeksOf_1 q x1 x2 (((20 : Int32).toInt - (0 : Int32).toInt).toNat + 1) 0 0)
def fX3_has (q : wSt) (x1 : Int32) : Int32 := (if x1 < 0 then 0 else (if (q 39 0) ≤ x1 then 0 else 1))
def fX3_add (q : wSt) (x1 : Int32) (x2 : Int32) (x3 : Int32) : Int32 × wSt := ((((q 39 0) + 1) - 1), (rset (rset (rset (rset q 16 (upd (q 16) (q 39 0).toNatClampNeg x1)) 17 (upd (q 17) (q 39 0).toNatClampNeg x2)) 18 (upd (q 18) (q 39 0).toNatClampNeg x3)) 39 (fun _ => ((q 39 0) + 1))))
set_option maxRecDepth 20000 in
theorem frX3_add (q : wSt) (x1 : Int32) (x2 : Int32) (x3 : Int32) (k : Nat) (hk : k ≠ 16 ∧ k ≠ 17 ∧ k ≠ 18 ∧ k ≠ 39) : (fX3_add q x1 x2 x3).2 k = q k := by
  obtain ⟨h16, h17, h18, h39⟩ := hk
  unfold fX3_add
  (repeat' split) <;> simp [rset, h16, h17, h18, h39]
def fX3_rankOf (q : wSt) (x1 : Int32) : Int32 := (if (fX3_has q x1) = 0 then 0 else (q 16 (x1).toNatClampNeg))
def fX3_mayTake (q : wSt) (x1 : Int32) (x2 : Int32) : Int32 := (if (fX3_has q x1) = 0 then 0 else (if (q 18 (x1).toNatClampNeg) < x2 then 0 else (if (tMost (q 16 (x1).toNatClampNeg).toNatClampNeg) ≤ ((q 20 (x1).toNatClampNeg) + (q 21 (x1).toNatClampNeg)) then 0 else 1)))
def fX3_lateCost (q : wSt) (x1 : Int32) (x2 : Int32) : Int32 := ((if 0 < (x2 - (tTerm (fX3_rankOf q x1).toNatClampNeg)) then (x2 - (tTerm (fX3_rankOf q x1).toNatClampNeg)) else 0) * (tLate (fX3_rankOf q x1).toNatClampNeg))
def fX4_has (q : wSt) (x1 : Int32) : Int32 := (if x1 < 0 then 0 else (if (q 34 0) ≤ x1 then 0 else 1))
def fX4_volumesOf (q : wSt) (x1 : Int32) : Int32 := (if (fX4_has q x1) = 0 then 0 else (q 0 (x1).toNatClampNeg))
def fX4_hasVolume (q : wSt) (x1 : Int32) (x2 : Int32) : Int32 := (if x2 < 0 then 0 else (if (fX4_volumesOf q x1) ≤ x2 then 0 else 1))
def fX4_add (q : wSt) (x1 : Int32) : Int32 × wSt := ((((q 34 0) + 1) - 1), (rset (rset q 0 (upd (q 0) (q 34 0).toNatClampNeg x1)) 34 (fun _ => ((q 34 0) + 1))))
set_option maxRecDepth 20000 in
theorem frX4_add (q : wSt) (x1 : Int32) (k : Nat) (hk : k ≠ 0 ∧ k ≠ 34) : (fX4_add q x1).2 k = q k := by
  obtain ⟨h0, h34⟩ := hk
  unfold fX4_add
  (repeat' split) <;> simp [rset, h0, h34]
def fX5_has (q : wSt) (x1 : Int32) : Int32 := (if x1 < 0 then 0 else (if (q 40 0) ≤ x1 then 0 else 1))
def fX5_isOpen (q : wSt) (x1 : Int32) : Int32 := (if (fX5_has q x1) = 0 then 0 else (if (q 24 (x1).toNatClampNeg) = 0 then 1 else 0))
def fX5_waits (q : wSt) (x1 : Int32) : Int32 := (if (fX5_isOpen q x1) = 0 then 0 else (if (q 26 (x1).toNatClampNeg) = (-1) then 1 else 0))
def fX5_add (q : wSt) (x1 : Int32) (x2 : Int32) (x3 : Int32) : Int32 × wSt := ((q 40 0), (rset (rset (rset (rset (rset (rset (rset q 40 (fun _ => ((q 40 0) + 1))) 22 (upd (q 22) (q 40 0).toNatClampNeg x1)) 23 (upd (q 23) (q 40 0).toNatClampNeg x2)) 24 (upd (q 24) (q 40 0).toNatClampNeg 0)) 25 (upd (q 25) (q 40 0).toNatClampNeg 0)) 26 (upd (q 26) (q 40 0).toNatClampNeg (-1))) 27 (upd (q 27) (q 40 0).toNatClampNeg x3)))
set_option maxRecDepth 20000 in
theorem frX5_add (q : wSt) (x1 : Int32) (x2 : Int32) (x3 : Int32) (k : Nat) (hk : k ≠ 22 ∧ k ≠ 23 ∧ k ≠ 24 ∧ k ≠ 25 ∧ k ≠ 26 ∧ k ≠ 27 ∧ k ≠ 40) : (fX5_add q x1 x2 x3).2 k = q k := by
  obtain ⟨h22, h23, h24, h25, h26, h27, h40⟩ := hk
  unfold fX5_add
  (repeat' split) <;> simp [rset, h22, h23, h24, h25, h26, h27, h40]
def lX5_hasOpen_1 (q : wSt) (x1 : Int32) (x2 : Int32) : Nat → Int32 → Int32
  | 0, _ => (-1)
  | n + 1, y3_1 => (if (q 40 0) ≤ y3_1 then 0 else (if (q 24 (y3_1).toNatClampNeg) = 0 then (if (q 22 (y3_1).toNatClampNeg) = x1 then (if (q 23 (y3_1).toNatClampNeg) = x2 then 1 else (lX5_hasOpen_1 q x1 x2 n (y3_1 + 1))) else (lX5_hasOpen_1 q x1 x2 n (y3_1 + 1))) else (lX5_hasOpen_1 q x1 x2 n (y3_1 + 1))))
theorem lX5_hasOpen_1_s (q : wSt) (x1 : Int32) (x2 : Int32) (n : Nat) (y3_1 : Int32) : lX5_hasOpen_1 q x1 x2 (n + 1) y3_1 = (if (q 40 0) ≤ y3_1 then 0 else (if (q 24 (y3_1).toNatClampNeg) = 0 then (if (q 22 (y3_1).toNatClampNeg) = x1 then (if (q 23 (y3_1).toNatClampNeg) = x2 then 1 else (lX5_hasOpen_1 q x1 x2 n (y3_1 + 1))) else (lX5_hasOpen_1 q x1 x2 n (y3_1 + 1))) else (lX5_hasOpen_1 q x1 x2 n (y3_1 + 1)))) := rfl
def fX5_hasOpen (q : wSt) (x1 : Int32) (x2 : Int32) : Int32 := (lX5_hasOpen_1 q x1 x2 (((q 40 0).toInt - (0 : Int32).toInt).toNat + 1) 0)
def fX5_openOf_j2 (q : wSt) (x1 : Int32) (y2_1 : Int32) (y3_1 : Int32) : Int32 := (if (q 24 (y3_1).toNatClampNeg) = 0 then (if (q 22 (y3_1).toNatClampNeg) = x1 then (y2_1 + 1) else y2_1) else y2_1)
def lX5_openOf_1 (q : wSt) (x1 : Int32) : Nat → Int32 → Int32 → Int32
  | 0, _, _ => (-1)
  | n + 1, y2_1, y3_1 => (if (q 40 0) ≤ y3_1 then y2_1 else (lX5_openOf_1 q x1 n (fX5_openOf_j2 q x1 y2_1 y3_1) (y3_1 + 1)))
theorem lX5_openOf_1_s (q : wSt) (x1 : Int32) (n : Nat) (y2_1 : Int32) (y3_1 : Int32) : lX5_openOf_1 q x1 (n + 1) y2_1 y3_1 = (if (q 40 0) ≤ y3_1 then y2_1 else (lX5_openOf_1 q x1 n (fX5_openOf_j2 q x1 y2_1 y3_1) (y3_1 + 1))) := rfl
def fX5_openOf (q : wSt) (x1 : Int32) : Int32 := (lX5_openOf_1 q x1 (((q 40 0).toInt - (0 : Int32).toInt).toNat + 1) 0 0)
def fX5_waitingFor_j2 (q : wSt) (x1 : Int32) (x2 : Int32) (y3_1 : Int32) (y4_1 : Int32) : Int32 := (if (fX5_waits q y4_1) = 0 then y3_1 else (if (q 23 (y4_1).toNatClampNeg) = x1 then (if (q 25 (y4_1).toNatClampNeg) = x2 then (y3_1 + 1) else y3_1) else y3_1))
def lX5_waitingFor_1 (q : wSt) (x1 : Int32) (x2 : Int32) : Nat → Int32 → Int32 → Int32
  | 0, _, _ => (-1)
  | n + 1, y3_1, y4_1 => (if (q 40 0) ≤ y4_1 then y3_1 else (lX5_waitingFor_1 q x1 x2 n (fX5_waitingFor_j2 q x1 x2 y3_1 y4_1) (y4_1 + 1)))
theorem lX5_waitingFor_1_s (q : wSt) (x1 : Int32) (x2 : Int32) (n : Nat) (y3_1 : Int32) (y4_1 : Int32) : lX5_waitingFor_1 q x1 x2 (n + 1) y3_1 y4_1 = (if (q 40 0) ≤ y4_1 then y3_1 else (lX5_waitingFor_1 q x1 x2 n (fX5_waitingFor_j2 q x1 x2 y3_1 y4_1) (y4_1 + 1))) := rfl
def fX5_waitingFor (q : wSt) (x1 : Int32) (x2 : Int32) : Int32 := (lX5_waitingFor_1 q x1 x2 (((q 40 0).toInt - (0 : Int32).toInt).toNat + 1) 0 0)
def fX5_countAsHad (q : wSt) (x1 : Int32) (x2 : Int32) (x3 : Int32) : wSt := (if (q 24 (x1).toNatClampNeg) = 0 then (if ((upd (q 25) (x1).toNatClampNeg ((q 25 (x1).toNatClampNeg) + 1)) (x1).toNatClampNeg) < x2 then (rset (rset (rset q 26 (upd (q 26) (x1).toNatClampNeg (-1))) 25 (upd (q 25) (x1).toNatClampNeg ((q 25 (x1).toNatClampNeg) + 1))) 27 (upd (q 27) (x1).toNatClampNeg x3)) else (rset (rset (rset (rset q 26 (upd (q 26) (x1).toNatClampNeg (-1))) 25 (upd (q 25) (x1).toNatClampNeg ((q 25 (x1).toNatClampNeg) + 1))) 27 (upd (q 27) (x1).toNatClampNeg x3)) 24 (upd (q 24) (x1).toNatClampNeg 1))) else (rset (rset (rset q 26 (upd (q 26) (x1).toNatClampNeg (-1))) 25 (upd (q 25) (x1).toNatClampNeg ((q 25 (x1).toNatClampNeg) + 1))) 27 (upd (q 27) (x1).toNatClampNeg x3)))
set_option maxRecDepth 20000 in
theorem frX5_countAsHad (q : wSt) (x1 : Int32) (x2 : Int32) (x3 : Int32) (k : Nat) (hk : k ≠ 24 ∧ k ≠ 25 ∧ k ≠ 26 ∧ k ≠ 27) : (fX5_countAsHad q x1 x2 x3) k = q k := by
  obtain ⟨h24, h25, h26, h27⟩ := hk
  unfold fX5_countAsHad
  (repeat' split) <;> simp [rset, h24, h25, h26, h27]
theorem iIX5_countAsHad (q : wSt) (x1 : Int32) (x2 : Int32) (x3 : Int32) (h : iI q) : iI (fX5_countAsHad q x1 x2 x3) := iI_fr (fun k hk => frX5_countAsHad q x1 x2 x3 k (by omega)) h
def fX6_within (q : wSt) (x0 : Int32) (x1 : Int32) (x2 : Int32) : Int32 := (if x0 < x1 then 0 else (if x2 < x0 then 0 else 1))
def fX6_title (q : wSt) (x1 : Int32) : Int32 × wSt := (if (fX6_within q x1 1 4) = 0 then ((-1), q) else (if (q 34 0) < 12 then ((fX4_add q x1).1, (fX4_add q x1).2) else ((-1), q)))
set_option maxRecDepth 20000 in
theorem frX6_title (q : wSt) (x1 : Int32) (k : Nat) (hk : k ≠ 0 ∧ k ≠ 34) : (fX6_title q x1).2 k = q k := by
  have gX4_add := fun a b0 => frX4_add a b0 k (by omega)
  obtain ⟨h0, h34⟩ := hk
  unfold fX6_title
  (repeat' split) <;> simp [rset, h0, h34, gX4_add]
def fX6_bargain (q : wSt) (x1 : Int32) (x2 : Int32) (x3 : Int32) (x4 : Int32) (x5 : Int32) : Int32 × wSt := (if (fX4_has q x1) = 0 then (0, q) else (if (fX6_within q x2 0 5000) = 0 then (0, q) else (if (fX6_within q x3 0 200) = 0 then (0, q) else (if (fX6_within q x4 0 1000) = 0 then (0, q) else (if (fX6_within q x5 0 1000) = 0 then (0, q) else (if (q 35 0) < 40 then (1, (fX0_add q x1 x2 x3 x4 x5)) else (0, q)))))))
set_option maxRecDepth 20000 in
theorem frX6_bargain (q : wSt) (x1 : Int32) (x2 : Int32) (x3 : Int32) (x4 : Int32) (x5 : Int32) (k : Nat) (hk : k ≠ 1 ∧ k ≠ 2 ∧ k ≠ 3 ∧ k ≠ 4 ∧ k ≠ 5 ∧ k ≠ 35) : (fX6_bargain q x1 x2 x3 x4 x5).2 k = q k := by
  have gX0_add := fun a b0 b1 b2 b3 b4 => frX0_add a b0 b1 b2 b3 b4 k (by omega)
  obtain ⟨h1, h2, h3, h4, h5, h35⟩ := hk
  unfold fX6_bargain
  (repeat' split) <;> simp [rset, h1, h2, h3, h4, h5, h35, gX0_add]
def lX6_buy_1 (q : wSt) (x1 : Int32) (x2 : Int32) : Nat → Int32 → Int32 → wSt → Int32 × wSt
  | 0, _, _, p1 => ((-1), p1)
  | n + 1, y5_1, y6_1, p1 => (if (x2 * (fX4_volumesOf q x1)) ≤ y6_1 then (y5_1, p1) else (lX6_buy_1 q x1 x2 n (y5_1 + (fX0_priceAt p1 (fX0_inForce q x1 (q 30 0)) y6_1)) (y6_1 + 1) (fX1_add p1 x1 (y6_1 / x2) (fX0_priceAt p1 (fX0_inForce q x1 (q 30 0)) y6_1))))
theorem lX6_buy_1_s (q : wSt) (x1 : Int32) (x2 : Int32) (n : Nat) (y5_1 : Int32) (y6_1 : Int32) (p1 : wSt) : lX6_buy_1 q x1 x2 (n + 1) y5_1 y6_1 p1 = (if (x2 * (fX4_volumesOf q x1)) ≤ y6_1 then (y5_1, p1) else (lX6_buy_1 q x1 x2 n (y5_1 + (fX0_priceAt p1 (fX0_inForce q x1 (q 30 0)) y6_1)) (y6_1 + 1) (fX1_add p1 x1 (y6_1 / x2) (fX0_priceAt p1 (fX0_inForce q x1 (q 30 0)) y6_1)))) := rfl
def fX6_buy (q : wSt) (x1 : Int32) (x2 : Int32) : Int32 × wSt := (if (fX4_has q x1) = 0 then ((-1), q) else (if (fX6_within q x2 1 20) = 0 then ((-1), q) else (if ((q 36 0) + (x2 * (fX4_volumesOf q x1))) ≤ 200 then ((lX6_buy_1 q x1 x2 (((x2 * (fX4_volumesOf q x1)).toInt - (0 : Int32).toInt).toNat + 1) 0 0 q).1, (rset (lX6_buy_1 q x1 x2 (((x2 * (fX4_volumesOf q x1)).toInt - (0 : Int32).toInt).toNat + 1) 0 0 q).2 31 (fun _ => (((lX6_buy_1 q x1 x2 (((x2 * (fX4_volumesOf q x1)).toInt - (0 : Int32).toInt).toNat + 1) 0 0 q).2 31 0) + (lX6_buy_1 q x1 x2 (((x2 * (fX4_volumesOf q x1)).toInt - (0 : Int32).toInt).toNat + 1) 0 0 q).1)))) else ((-1), q))))
set_option maxRecDepth 20000 in
theorem frlX6_buy_1 (q : wSt) (x1 : Int32) (x2 : Int32) (n : Nat) (y5_1 : Int32) (y6_1 : Int32) (p1 : wSt) (k : Nat) (hk : k ≠ 6 ∧ k ≠ 7 ∧ k ≠ 8 ∧ k ≠ 9 ∧ k ≠ 10 ∧ k ≠ 11 ∧ k ≠ 12 ∧ k ≠ 13 ∧ k ≠ 14 ∧ k ≠ 15 ∧ k ≠ 31 ∧ k ≠ 36 ∧ k ≠ 37 ∧ k ≠ 38) : (lX6_buy_1 q x1 x2 n y5_1 y6_1 p1).2 k = p1 k := by
  have gX1_add := fun a b0 b1 b2 => frX1_add a b0 b1 b2 k (by omega)
  obtain ⟨h6, h7, h8, h9, h10, h11, h12, h13, h14, h15, h31, h36, h37, h38⟩ := hk
  induction n generalizing y5_1 y6_1 p1 with
  | zero => rfl
  | succ n ih =>
    rw [lX6_buy_1_s]
    (repeat' split) <;> simp [rset, h6, h7, h8, h9, h10, h11, h12, h13, h14, h15, h31, h36, h37, h38, gX1_add, ih]
set_option maxRecDepth 20000 in
theorem frX6_buy (q : wSt) (x1 : Int32) (x2 : Int32) (k : Nat) (hk : k ≠ 6 ∧ k ≠ 7 ∧ k ≠ 8 ∧ k ≠ 9 ∧ k ≠ 10 ∧ k ≠ 11 ∧ k ≠ 12 ∧ k ≠ 13 ∧ k ≠ 14 ∧ k ≠ 15 ∧ k ≠ 31 ∧ k ≠ 36 ∧ k ≠ 37 ∧ k ≠ 38) : (fX6_buy q x1 x2).2 k = q k := by
  have gX1_add := fun a b0 b1 b2 => frX1_add a b0 b1 b2 k (by omega)
  have glX6_buy_1 := fun a0 a1 a2 a3 a4 a5 a6 => frlX6_buy_1 a0 a1 a2 a3 a4 a5 a6 k (by omega)
  obtain ⟨h6, h7, h8, h9, h10, h11, h12, h13, h14, h15, h31, h36, h37, h38⟩ := hk
  unfold fX6_buy
  (repeat' split) <;> simp [rset, h6, h7, h8, h9, h10, h11, h12, h13, h14, h15, h31, h36, h37, h38, gX1_add, glX6_buy_1]
def fX6_sell (q : wSt) (x1 : Int32) (x2 : Int32) : Int32 × wSt := (if (fX1_isAt q x1 0) = 0 then (0, q) else (if (fX6_within q x2 0 1000) = 0 then (0, q) else (1, (rset (fX1_leaveFor q x1 4) 32 (fun _ => (((fX1_leaveFor q x1 4) 32 0) + x2))))))
set_option maxRecDepth 20000 in
theorem frX6_sell (q : wSt) (x1 : Int32) (x2 : Int32) (k : Nat) (hk : k ≠ 6 ∧ k ≠ 10 ∧ k ≠ 11 ∧ k ≠ 12 ∧ k ≠ 13 ∧ k ≠ 15 ∧ k ≠ 32 ∧ k ≠ 37 ∧ k ≠ 38) : (fX6_sell q x1 x2).2 k = q k := by
  have gX1_leaveFor := fun a b0 b1 => frX1_leaveFor a b0 b1 k (by omega)
  obtain ⟨h6, h10, h11, h12, h13, h15, h32, h37, h38⟩ := hk
  unfold fX6_sell
  (repeat' split) <;> simp [rset, h6, h10, h11, h12, h13, h15, h32, h37, h38, gX1_leaveFor]
theorem iIX6_sell (q : wSt) (x1 : Int32) (x2 : Int32) (h : iI q) : iI (fX6_sell q x1 x2).2 := iI_fr (fun k hk => frX6_sell q x1 x2 k (by omega)) h
def fX6_reader (q : wSt) (x1 : Int32) (x2 : Int32) (x3 : Int32) : Int32 × wSt := (if (fX6_within q x1 0 2) = 0 then ((-1), q) else (if (fX6_within q x2 0 9) = 0 then ((-1), q) else (if (fX6_within q x3 0 5000) = 0 then ((-1), q) else (if (q 39 0) < 20 then ((fX3_add q x1 x2 x3).1, (fX3_add q x1 x2 x3).2) else ((-1), q)))))
set_option maxRecDepth 20000 in
theorem frX6_reader (q : wSt) (x1 : Int32) (x2 : Int32) (x3 : Int32) (k : Nat) (hk : k ≠ 16 ∧ k ≠ 17 ∧ k ≠ 18 ∧ k ≠ 39) : (fX6_reader q x1 x2 x3).2 k = q k := by
  have gX3_add := fun a b0 b1 b2 => frX3_add a b0 b1 b2 k (by omega)
  obtain ⟨h16, h17, h18, h39⟩ := hk
  unfold fX6_reader
  (repeat' split) <;> simp [rset, h16, h17, h18, h39, gX3_add]
def fX6_renew (q : wSt) (x1 : Int32) (x2 : Int32) : Int32 × wSt := (if (fX3_has q x1) = 0 then (0, q) else (if (fX6_within q x2 0 5000) = 0 then (0, q) else (1, (rset q 18 (upd (q 18) (x1).toNatClampNeg x2)))))
set_option maxRecDepth 20000 in
theorem frX6_renew (q : wSt) (x1 : Int32) (x2 : Int32) (k : Nat) (hk : k ≠ 18) : (fX6_renew q x1 x2).2 k = q k := by
  have h18 := hk
  unfold fX6_renew
  (repeat' split) <;> simp [rset, h18]
theorem iIX6_renew (q : wSt) (x1 : Int32) (x2 : Int32) (h : iI q) : iI (fX6_renew q x1 x2).2 := iI_fr (fun k hk => frX6_renew q x1 x2 k (by omega)) h
def fX6_wish (q : wSt) (x1 : Int32) (x2 : Int32) : Int32 × wSt := (if (fX3_has q x1) = 0 then ((-1), q) else (if (fX4_has q x2) = 0 then ((-1), q) else (if (q 40 0) < 100 then (if (fX5_hasOpen q x1 x2) = 0 then ((fX5_add q x1 x2 (q 30 0)).1, (fX5_add q x1 x2 (q 30 0)).2) else ((-1), q)) else ((-1), q))))
set_option maxRecDepth 20000 in
theorem frX6_wish (q : wSt) (x1 : Int32) (x2 : Int32) (k : Nat) (hk : k ≠ 22 ∧ k ≠ 23 ∧ k ≠ 24 ∧ k ≠ 25 ∧ k ≠ 26 ∧ k ≠ 27 ∧ k ≠ 40) : (fX6_wish q x1 x2).2 k = q k := by
  have gX5_add := fun a b0 b1 b2 => frX5_add a b0 b1 b2 k (by omega)
  obtain ⟨h22, h23, h24, h25, h26, h27, h40⟩ := hk
  unfold fX6_wish
  (repeat' split) <;> simp [rset, h22, h23, h24, h25, h26, h27, h40, gX5_add]
def fX6_unwish (q : wSt) (x1 : Int32) : Int32 × wSt := (if (fX5_isOpen q x1) = 0 then (0, q) else (1, (rset q 24 (upd (q 24) (x1).toNatClampNeg 2))))
set_option maxRecDepth 20000 in
theorem frX6_unwish (q : wSt) (x1 : Int32) (k : Nat) (hk : k ≠ 24) : (fX6_unwish q x1).2 k = q k := by
  have h24 := hk
  unfold fX6_unwish
  (repeat' split) <;> simp [rset, h24]
theorem iIX6_unwish (q : wSt) (x1 : Int32) (h : iI q) : iI (fX6_unwish q x1).2 := iI_fr (fun k hk => frX6_unwish q x1 k (by omega)) h
def fX6_unpack (q : wSt) (x1 : Int32) : wSt := (if (fX3_has q (q 10 (x1).toNatClampNeg)) = 0 then q else (if (q 6 (x1).toNatClampNeg) = 3 then (fX1_shelve (rset q 21 (upd (q 21) (q 10 (x1).toNatClampNeg).toNatClampNeg ((q 21 (q 10 (x1).toNatClampNeg).toNatClampNeg) - 1))) x1) else (rset (fX1_handOver (rset q 21 (upd (q 21) (q 10 (x1).toNatClampNeg).toNatClampNeg ((q 21 (q 10 (x1).toNatClampNeg).toNatClampNeg) - 1))) x1 (q 30 0)) 20 (upd ((fX1_handOver (rset q 21 (upd (q 21) (q 10 (x1).toNatClampNeg).toNatClampNeg ((q 21 (q 10 (x1).toNatClampNeg).toNatClampNeg) - 1))) x1 (q 30 0)) 20) (q 10 (x1).toNatClampNeg).toNatClampNeg (((fX1_handOver (rset q 21 (upd (q 21) (q 10 (x1).toNatClampNeg).toNatClampNeg ((q 21 (q 10 (x1).toNatClampNeg).toNatClampNeg) - 1))) x1 (q 30 0)) 20 (q 10 (x1).toNatClampNeg).toNatClampNeg) + 1)))))
set_option maxRecDepth 20000 in
theorem frX6_unpack (q : wSt) (x1 : Int32) (k : Nat) (hk : k ≠ 6 ∧ k ≠ 10 ∧ k ≠ 11 ∧ k ≠ 12 ∧ k ≠ 13 ∧ k ≠ 15 ∧ k ≠ 20 ∧ k ≠ 21 ∧ k ≠ 37 ∧ k ≠ 38) : (fX6_unpack q x1) k = q k := by
  have gX1_handOver := fun a b0 b1 => frX1_handOver a b0 b1 k (by omega)
  have gX1_shelve := fun a b0 => frX1_shelve a b0 k (by omega)
  obtain ⟨h6, h10, h11, h12, h13, h15, h20, h21, h37, h38⟩ := hk
  unfold fX6_unpack
  (repeat' split) <;> simp [rset, h6, h10, h11, h12, h13, h15, h20, h21, h37, h38, gX1_handOver, gX1_shelve]
theorem iIX6_unpack (q : wSt) (x1 : Int32) (h : iI q) : iI (fX6_unpack q x1) := iI_fr (fun k hk => frX6_unpack q x1 k (by omega)) h
def fX6_moveBoxes_j2 (q : wSt) (y1_1 : Int32) (y2_1 : Int32) (p1 : wSt) : Int32 := (if y1_1 = 0 then (if ((fX1_comesToday p1 y2_1).2 6 (y2_1).toNatClampNeg) = 3 then 1 else 0) else 1)
def fX6_moveBoxes_j3 (q : wSt) (y1_1 : Int32) (y2_1 : Int32) (p1 : wSt) : Int32 × wSt := (if (fX1_comesToday p1 y2_1).1 = 0 then (y1_1, (fX1_comesToday p1 y2_1).2) else ((fX6_moveBoxes_j2 q y1_1 y2_1 p1), (fX6_unpack (fX1_comesToday p1 y2_1).2 y2_1)))
def lX6_moveBoxes_1 (q : wSt) : Nat → Int32 → Int32 → wSt → Int32 × wSt
  | 0, _, _, p1 => ((-1), p1)
  | n + 1, y1_1, y2_1, p1 => (if (p1 36 0) ≤ y2_1 then (y1_1, p1) else (lX6_moveBoxes_1 q n (fX6_moveBoxes_j3 q y1_1 y2_1 p1).1 (y2_1 + 1) (fX6_moveBoxes_j3 q y1_1 y2_1 p1).2))
theorem lX6_moveBoxes_1_s (q : wSt) (n : Nat) (y1_1 : Int32) (y2_1 : Int32) (p1 : wSt) : lX6_moveBoxes_1 q (n + 1) y1_1 y2_1 p1 = (if (p1 36 0) ≤ y2_1 then (y1_1, p1) else (lX6_moveBoxes_1 q n (fX6_moveBoxes_j3 q y1_1 y2_1 p1).1 (y2_1 + 1) (fX6_moveBoxes_j3 q y1_1 y2_1 p1).2)) := rfl
def fX6_moveBoxes (q : wSt) : Int32 × wSt := (if (q 37 0) = 0 then (0, q) else ((lX6_moveBoxes_1 q ((((q 36) 0).toInt - (0 : Int32).toInt).toNat + 1) 0 0 q).1, (lX6_moveBoxes_1 q ((((q 36) 0).toInt - (0 : Int32).toInt).toNat + 1) 0 0 q).2))
set_option maxRecDepth 20000 in
theorem frX6_moveBoxes_j3 (q : wSt) (y1_1 : Int32) (y2_1 : Int32) (p1 : wSt) (k : Nat) (hk : k ≠ 6 ∧ k ≠ 10 ∧ k ≠ 11 ∧ k ≠ 12 ∧ k ≠ 13 ∧ k ≠ 15 ∧ k ≠ 20 ∧ k ≠ 21 ∧ k ≠ 37 ∧ k ≠ 38) : (fX6_moveBoxes_j3 q y1_1 y2_1 p1).2 k = p1 k := by
  have gX1_comesToday := fun a b0 => frX1_comesToday a b0 k (by omega)
  have gX6_unpack := fun a b0 => frX6_unpack a b0 k (by omega)
  obtain ⟨h6, h10, h11, h12, h13, h15, h20, h21, h37, h38⟩ := hk
  unfold fX6_moveBoxes_j3
  (repeat' split) <;> simp [rset, h6, h10, h11, h12, h13, h15, h20, h21, h37, h38, gX1_comesToday, gX6_unpack]
set_option maxRecDepth 20000 in
theorem frlX6_moveBoxes_1 (q : wSt) (n : Nat) (y1_1 : Int32) (y2_1 : Int32) (p1 : wSt) (k : Nat) (hk : k ≠ 6 ∧ k ≠ 10 ∧ k ≠ 11 ∧ k ≠ 12 ∧ k ≠ 13 ∧ k ≠ 15 ∧ k ≠ 20 ∧ k ≠ 21 ∧ k ≠ 37 ∧ k ≠ 38) : (lX6_moveBoxes_1 q n y1_1 y2_1 p1).2 k = p1 k := by
  have gX1_comesToday := fun a b0 => frX1_comesToday a b0 k (by omega)
  have gX6_unpack := fun a b0 => frX6_unpack a b0 k (by omega)
  have gfX6_moveBoxes_j3 := fun a0 a1 a2 a3 => frX6_moveBoxes_j3 a0 a1 a2 a3 k (by omega)
  obtain ⟨h6, h10, h11, h12, h13, h15, h20, h21, h37, h38⟩ := hk
  induction n generalizing y1_1 y2_1 p1 with
  | zero => rfl
  | succ n ih =>
    rw [lX6_moveBoxes_1_s]
    (repeat' split) <;> simp [rset, h6, h10, h11, h12, h13, h15, h20, h21, h37, h38, gX1_comesToday, gX6_unpack, gfX6_moveBoxes_j3, ih]
set_option maxRecDepth 20000 in
theorem frX6_moveBoxes (q : wSt) (k : Nat) (hk : k ≠ 6 ∧ k ≠ 10 ∧ k ≠ 11 ∧ k ≠ 12 ∧ k ≠ 13 ∧ k ≠ 15 ∧ k ≠ 20 ∧ k ≠ 21 ∧ k ≠ 37 ∧ k ≠ 38) : (fX6_moveBoxes q).2 k = q k := by
  have gX1_comesToday := fun a b0 => frX1_comesToday a b0 k (by omega)
  have gX6_unpack := fun a b0 => frX6_unpack a b0 k (by omega)
  have gfX6_moveBoxes_j3 := fun a0 a1 a2 a3 => frX6_moveBoxes_j3 a0 a1 a2 a3 k (by omega)
  have glX6_moveBoxes_1 := fun a0 a1 a2 a3 a4 => frlX6_moveBoxes_1 a0 a1 a2 a3 a4 k (by omega)
  obtain ⟨h6, h10, h11, h12, h13, h15, h20, h21, h37, h38⟩ := hk
  unfold fX6_moveBoxes
  (repeat' split) <;> simp [rset, h6, h10, h11, h12, h13, h15, h20, h21, h37, h38, gX1_comesToday, gX6_unpack, gfX6_moveBoxes_j3, glX6_moveBoxes_1]
theorem iIX6_moveBoxes (q : wSt) (h : iI q) : iI (fX6_moveBoxes q).2 := iI_fr (fun k hk => frX6_moveBoxes q k (by omega)) h
def fX6_canGet (q : wSt) (x1 : Int32) : Int32 := (if (fX5_waits q x1) = 0 then 0 else (if (fX3_mayTake q (q 22 (x1).toNatClampNeg) (q 30 0)) = 0 then 0 else (if (fX1_onShelf q (q 23 (x1).toNatClampNeg) (q 25 (x1).toNatClampNeg)) ≤ 0 then 0 else 1)))
def fX6_goesAhead (q : wSt) (x1 : Int32) (x2 : Int32) : Int32 := (if (fX3_rankOf q (q 22 (x1).toNatClampNeg)) = (fX3_rankOf q (q 22 (x2).toNatClampNeg)) then (if (q 27 (x2).toNatClampNeg) ≤ (q 27 (x1).toNatClampNeg) then 0 else 1) else (if (fX3_rankOf q (q 22 (x1).toNatClampNeg)) ≤ (fX3_rankOf q (q 22 (x2).toNatClampNeg)) then 0 else 1))
def fX6_nextInTurn_j2 (q : wSt) (y1_1 : Int32) (y2_1 : Int32) : Int32 := (if (fX6_canGet q y2_1) = 0 then y1_1 else (if y1_1 = (-1) then y2_1 else (if (fX6_goesAhead q y2_1 y1_1) = 0 then y1_1 else y2_1)))
def lX6_nextInTurn_1 (q : wSt) : Nat → Int32 → Int32 → Int32
  | 0, _, _ => (-1)
  | n + 1, y1_1, y2_1 => (if (q 40 0) ≤ y2_1 then y1_1 else (lX6_nextInTurn_1 q n (fX6_nextInTurn_j2 q y1_1 y2_1) (y2_1 + 1)))
theorem lX6_nextInTurn_1_s (q : wSt) (n : Nat) (y1_1 : Int32) (y2_1 : Int32) : lX6_nextInTurn_1 q (n + 1) y1_1 y2_1 = (if (q 40 0) ≤ y2_1 then y1_1 else (lX6_nextInTurn_1 q n (fX6_nextInTurn_j2 q y1_1 y2_1) (y2_1 + 1))) := rfl
def fX6_nextInTurn (q : wSt) : Int32 := (lX6_nextInTurn_1 q (((q 40 0).toInt - (0 : Int32).toInt).toNat + 1) (-1) 0)
def fX6_lendFor (q : wSt) (x1 : Int32) : wSt := (if (fX1_leastOnShelf q (q 23 (x1).toNatClampNeg) (q 25 (x1).toNatClampNeg)) = (-1) then q else (if (fX3_has q (q 22 (x1).toNatClampNeg)) = 0 then q else (if ((fX1_lend (rset q 26 (upd (q 26) (x1).toNatClampNeg (fX1_leastOnShelf q (q 23 (x1).toNatClampNeg) (q 25 (x1).toNatClampNeg)))) (fX1_leastOnShelf q (q 23 (x1).toNatClampNeg) (q 25 (x1).toNatClampNeg)) (q 22 (x1).toNatClampNeg) x1) 17 (q 22 (x1).toNatClampNeg).toNatClampNeg) = 0 then (rset (fX1_handOver (fX1_lend (rset q 26 (upd (q 26) (x1).toNatClampNeg (fX1_leastOnShelf q (q 23 (x1).toNatClampNeg) (q 25 (x1).toNatClampNeg)))) (fX1_leastOnShelf q (q 23 (x1).toNatClampNeg) (q 25 (x1).toNatClampNeg)) (q 22 (x1).toNatClampNeg) x1) (fX1_leastOnShelf q (q 23 (x1).toNatClampNeg) (q 25 (x1).toNatClampNeg)) ((fX1_lend (rset q 26 (upd (q 26) (x1).toNatClampNeg (fX1_leastOnShelf q (q 23 (x1).toNatClampNeg) (q 25 (x1).toNatClampNeg)))) (fX1_leastOnShelf q (q 23 (x1).toNatClampNeg) (q 25 (x1).toNatClampNeg)) (q 22 (x1).toNatClampNeg) x1) 30 0)) 20 (upd ((fX1_handOver (fX1_lend (rset q 26 (upd (q 26) (x1).toNatClampNeg (fX1_leastOnShelf q (q 23 (x1).toNatClampNeg) (q 25 (x1).toNatClampNeg)))) (fX1_leastOnShelf q (q 23 (x1).toNatClampNeg) (q 25 (x1).toNatClampNeg)) (q 22 (x1).toNatClampNeg) x1) (fX1_leastOnShelf q (q 23 (x1).toNatClampNeg) (q 25 (x1).toNatClampNeg)) ((fX1_lend (rset q 26 (upd (q 26) (x1).toNatClampNeg (fX1_leastOnShelf q (q 23 (x1).toNatClampNeg) (q 25 (x1).toNatClampNeg)))) (fX1_leastOnShelf q (q 23 (x1).toNatClampNeg) (q 25 (x1).toNatClampNeg)) (q 22 (x1).toNatClampNeg) x1) 30 0)) 20) (q 22 (x1).toNatClampNeg).toNatClampNeg (((fX1_handOver (fX1_lend (rset q 26 (upd (q 26) (x1).toNatClampNeg (fX1_leastOnShelf q (q 23 (x1).toNatClampNeg) (q 25 (x1).toNatClampNeg)))) (fX1_leastOnShelf q (q 23 (x1).toNatClampNeg) (q 25 (x1).toNatClampNeg)) (q 22 (x1).toNatClampNeg) x1) (fX1_leastOnShelf q (q 23 (x1).toNatClampNeg) (q 25 (x1).toNatClampNeg)) ((fX1_lend (rset q 26 (upd (q 26) (x1).toNatClampNeg (fX1_leastOnShelf q (q 23 (x1).toNatClampNeg) (q 25 (x1).toNatClampNeg)))) (fX1_leastOnShelf q (q 23 (x1).toNatClampNeg) (q 25 (x1).toNatClampNeg)) (q 22 (x1).toNatClampNeg) x1) 30 0)) 20 (q 22 (x1).toNatClampNeg).toNatClampNeg) + 1))) else (rset (fX1_sendOut (fX1_lend (rset q 26 (upd (q 26) (x1).toNatClampNeg (fX1_leastOnShelf q (q 23 (x1).toNatClampNeg) (q 25 (x1).toNatClampNeg)))) (fX1_leastOnShelf q (q 23 (x1).toNatClampNeg) (q 25 (x1).toNatClampNeg)) (q 22 (x1).toNatClampNeg) x1) (fX1_leastOnShelf q (q 23 (x1).toNatClampNeg) (q 25 (x1).toNatClampNeg)) ((fX1_lend (rset q 26 (upd (q 26) (x1).toNatClampNeg (fX1_leastOnShelf q (q 23 (x1).toNatClampNeg) (q 25 (x1).toNatClampNeg)))) (fX1_leastOnShelf q (q 23 (x1).toNatClampNeg) (q 25 (x1).toNatClampNeg)) (q 22 (x1).toNatClampNeg) x1) 17 (q 22 (x1).toNatClampNeg).toNatClampNeg)) 21 (upd ((fX1_sendOut (fX1_lend (rset q 26 (upd (q 26) (x1).toNatClampNeg (fX1_leastOnShelf q (q 23 (x1).toNatClampNeg) (q 25 (x1).toNatClampNeg)))) (fX1_leastOnShelf q (q 23 (x1).toNatClampNeg) (q 25 (x1).toNatClampNeg)) (q 22 (x1).toNatClampNeg) x1) (fX1_leastOnShelf q (q 23 (x1).toNatClampNeg) (q 25 (x1).toNatClampNeg)) ((fX1_lend (rset q 26 (upd (q 26) (x1).toNatClampNeg (fX1_leastOnShelf q (q 23 (x1).toNatClampNeg) (q 25 (x1).toNatClampNeg)))) (fX1_leastOnShelf q (q 23 (x1).toNatClampNeg) (q 25 (x1).toNatClampNeg)) (q 22 (x1).toNatClampNeg) x1) 17 (q 22 (x1).toNatClampNeg).toNatClampNeg)) 21) (q 22 (x1).toNatClampNeg).toNatClampNeg (((fX1_sendOut (fX1_lend (rset q 26 (upd (q 26) (x1).toNatClampNeg (fX1_leastOnShelf q (q 23 (x1).toNatClampNeg) (q 25 (x1).toNatClampNeg)))) (fX1_leastOnShelf q (q 23 (x1).toNatClampNeg) (q 25 (x1).toNatClampNeg)) (q 22 (x1).toNatClampNeg) x1) (fX1_leastOnShelf q (q 23 (x1).toNatClampNeg) (q 25 (x1).toNatClampNeg)) ((fX1_lend (rset q 26 (upd (q 26) (x1).toNatClampNeg (fX1_leastOnShelf q (q 23 (x1).toNatClampNeg) (q 25 (x1).toNatClampNeg)))) (fX1_leastOnShelf q (q 23 (x1).toNatClampNeg) (q 25 (x1).toNatClampNeg)) (q 22 (x1).toNatClampNeg) x1) 17 (q 22 (x1).toNatClampNeg).toNatClampNeg)) 21 (q 22 (x1).toNatClampNeg).toNatClampNeg) + 1))))))
set_option maxRecDepth 20000 in
theorem frX6_lendFor (q : wSt) (x1 : Int32) (k : Nat) (hk : k ≠ 6 ∧ k ≠ 10 ∧ k ≠ 11 ∧ k ≠ 12 ∧ k ≠ 13 ∧ k ≠ 14 ∧ k ≠ 15 ∧ k ≠ 20 ∧ k ≠ 21 ∧ k ≠ 26 ∧ k ≠ 37 ∧ k ≠ 38) : (fX6_lendFor q x1) k = q k := by
  have gX1_handOver := fun a b0 b1 => frX1_handOver a b0 b1 k (by omega)
  have gX1_lend := fun a b0 b1 b2 => frX1_lend a b0 b1 b2 k (by omega)
  have gX1_sendOut := fun a b0 b1 => frX1_sendOut a b0 b1 k (by omega)
  obtain ⟨h6, h10, h11, h12, h13, h14, h15, h20, h21, h26, h37, h38⟩ := hk
  unfold fX6_lendFor
  (repeat' split) <;> simp [rset, h6, h10, h11, h12, h13, h14, h15, h20, h21, h26, h37, h38, gX1_handOver, gX1_lend, gX1_sendOut]
theorem iIX6_lendFor (q : wSt) (x1 : Int32) (h : iI q) : iI (fX6_lendFor q x1) := iI_fr (fun k hk => frX6_lendFor q x1 k (by omega)) h
def lX6_takeTurns_1 (q : wSt) : Nat → Int32 → wSt → wSt
  | 0, _, p1 => p1
  | n + 1, y1_1, p1 => (if 200 ≤ y1_1 then p1 else (if (fX6_nextInTurn p1) = (-1) then p1 else (lX6_takeTurns_1 q n (y1_1 + 1) (fX6_lendFor p1 (fX6_nextInTurn p1)))))
theorem lX6_takeTurns_1_s (q : wSt) (n : Nat) (y1_1 : Int32) (p1 : wSt) : lX6_takeTurns_1 q (n + 1) y1_1 p1 = (if 200 ≤ y1_1 then p1 else (if (fX6_nextInTurn p1) = (-1) then p1 else (lX6_takeTurns_1 q n (y1_1 + 1) (fX6_lendFor p1 (fX6_nextInTurn p1))))) := rfl
def fX6_takeTurns (q : wSt) : wSt := (lX6_takeTurns_1 q (((200 : Int32).toInt - (0 : Int32).toInt).toNat + 1) 0 q)
set_option maxRecDepth 20000 in
theorem frlX6_takeTurns_1 (q : wSt) (n : Nat) (y1_1 : Int32) (p1 : wSt) (k : Nat) (hk : k ≠ 6 ∧ k ≠ 10 ∧ k ≠ 11 ∧ k ≠ 12 ∧ k ≠ 13 ∧ k ≠ 14 ∧ k ≠ 15 ∧ k ≠ 20 ∧ k ≠ 21 ∧ k ≠ 26 ∧ k ≠ 37 ∧ k ≠ 38) : (lX6_takeTurns_1 q n y1_1 p1) k = p1 k := by
  have gX6_lendFor := fun a b0 => frX6_lendFor a b0 k (by omega)
  obtain ⟨h6, h10, h11, h12, h13, h14, h15, h20, h21, h26, h37, h38⟩ := hk
  induction n generalizing y1_1 p1 with
  | zero => rfl
  | succ n ih =>
    rw [lX6_takeTurns_1_s]
    (repeat' split) <;> simp [rset, h6, h10, h11, h12, h13, h14, h15, h20, h21, h26, h37, h38, gX6_lendFor, ih]
set_option maxRecDepth 20000 in
theorem frX6_takeTurns (q : wSt) (k : Nat) (hk : k ≠ 6 ∧ k ≠ 10 ∧ k ≠ 11 ∧ k ≠ 12 ∧ k ≠ 13 ∧ k ≠ 14 ∧ k ≠ 15 ∧ k ≠ 20 ∧ k ≠ 21 ∧ k ≠ 26 ∧ k ≠ 37 ∧ k ≠ 38) : (fX6_takeTurns q) k = q k := by
  have gX6_lendFor := fun a b0 => frX6_lendFor a b0 k (by omega)
  have glX6_takeTurns_1 := fun a0 a1 a2 a3 => frlX6_takeTurns_1 a0 a1 a2 a3 k (by omega)
  obtain ⟨h6, h10, h11, h12, h13, h14, h15, h20, h21, h26, h37, h38⟩ := hk
  unfold fX6_takeTurns
  (repeat' split) <;> simp [rset, h6, h10, h11, h12, h13, h14, h15, h20, h21, h26, h37, h38, gX6_lendFor, glX6_takeTurns_1]
theorem iIX6_takeTurns (q : wSt) (h : iI q) : iI (fX6_takeTurns q) := iI_fr (fun k hk => frX6_takeTurns q k (by omega)) h
def fX6_go_j2 (q : wSt) (x1 : Int32) (y3_1 : Int32) (p1 : wSt) : wSt := (if y3_1 = 0 then (fX6_takeTurns (fX6_moveBoxes p1).2) else (if (fX6_moveBoxes p1).1 = 0 then (fX6_moveBoxes p1).2 else (fX6_takeTurns (fX6_moveBoxes p1).2)))
def lX6_go_1 (q : wSt) (x1 : Int32) : Nat → Int32 → wSt → wSt
  | 0, _, p1 => p1
  | n + 1, y3_1, p1 => (if (if (5000 - (q 30 0)) < x1 then (5000 - (q 30 0)) else x1) ≤ y3_1 then p1 else (lX6_go_1 q x1 n (y3_1 + 1) (rset (fX6_go_j2 q x1 y3_1 p1) 30 (fun _ => (((fX6_go_j2 q x1 y3_1 p1) 30 0) + 1)))))
theorem lX6_go_1_s (q : wSt) (x1 : Int32) (n : Nat) (y3_1 : Int32) (p1 : wSt) : lX6_go_1 q x1 (n + 1) y3_1 p1 = (if (if (5000 - (q 30 0)) < x1 then (5000 - (q 30 0)) else x1) ≤ y3_1 then p1 else (lX6_go_1 q x1 n (y3_1 + 1) (rset (fX6_go_j2 q x1 y3_1 p1) 30 (fun _ => (((fX6_go_j2 q x1 y3_1 p1) 30 0) + 1))))) := rfl
def fX6_go (q : wSt) (x1 : Int32) : Int32 × wSt := (if (fX6_within q x1 0 100) = 0 then ((-1), q) else (((lX6_go_1 q x1 (((if (5000 - (q 30 0)) < x1 then (5000 - (q 30 0)) else x1).toInt - (0 : Int32).toInt).toNat + 1) 0 q) 30 0), (lX6_go_1 q x1 (((if (5000 - (q 30 0)) < x1 then (5000 - (q 30 0)) else x1).toInt - (0 : Int32).toInt).toNat + 1) 0 q)))
set_option maxRecDepth 20000 in
theorem frX6_go_j2 (q : wSt) (x1 : Int32) (y3_1 : Int32) (p1 : wSt) (k : Nat) (hk : k ≠ 6 ∧ k ≠ 10 ∧ k ≠ 11 ∧ k ≠ 12 ∧ k ≠ 13 ∧ k ≠ 14 ∧ k ≠ 15 ∧ k ≠ 20 ∧ k ≠ 21 ∧ k ≠ 26 ∧ k ≠ 30 ∧ k ≠ 37 ∧ k ≠ 38) : (fX6_go_j2 q x1 y3_1 p1) k = p1 k := by
  have gX6_moveBoxes := fun a => frX6_moveBoxes a  k (by omega)
  have gX6_takeTurns := fun a => frX6_takeTurns a  k (by omega)
  obtain ⟨h6, h10, h11, h12, h13, h14, h15, h20, h21, h26, h30, h37, h38⟩ := hk
  unfold fX6_go_j2
  (repeat' split) <;> simp [rset, h6, h10, h11, h12, h13, h14, h15, h20, h21, h26, h30, h37, h38, gX6_moveBoxes, gX6_takeTurns]
set_option maxRecDepth 20000 in
theorem frlX6_go_1 (q : wSt) (x1 : Int32) (n : Nat) (y3_1 : Int32) (p1 : wSt) (k : Nat) (hk : k ≠ 6 ∧ k ≠ 10 ∧ k ≠ 11 ∧ k ≠ 12 ∧ k ≠ 13 ∧ k ≠ 14 ∧ k ≠ 15 ∧ k ≠ 20 ∧ k ≠ 21 ∧ k ≠ 26 ∧ k ≠ 30 ∧ k ≠ 37 ∧ k ≠ 38) : (lX6_go_1 q x1 n y3_1 p1) k = p1 k := by
  have gX6_moveBoxes := fun a => frX6_moveBoxes a  k (by omega)
  have gX6_takeTurns := fun a => frX6_takeTurns a  k (by omega)
  have gfX6_go_j2 := fun a0 a1 a2 a3 => frX6_go_j2 a0 a1 a2 a3 k (by omega)
  obtain ⟨h6, h10, h11, h12, h13, h14, h15, h20, h21, h26, h30, h37, h38⟩ := hk
  induction n generalizing y3_1 p1 with
  | zero => rfl
  | succ n ih =>
    rw [lX6_go_1_s]
    (repeat' split) <;> simp [rset, h6, h10, h11, h12, h13, h14, h15, h20, h21, h26, h30, h37, h38, gX6_moveBoxes, gX6_takeTurns, gfX6_go_j2, ih]
set_option maxRecDepth 20000 in
theorem frX6_go (q : wSt) (x1 : Int32) (k : Nat) (hk : k ≠ 6 ∧ k ≠ 10 ∧ k ≠ 11 ∧ k ≠ 12 ∧ k ≠ 13 ∧ k ≠ 14 ∧ k ≠ 15 ∧ k ≠ 20 ∧ k ≠ 21 ∧ k ≠ 26 ∧ k ≠ 30 ∧ k ≠ 37 ∧ k ≠ 38) : (fX6_go q x1).2 k = q k := by
  have gX6_moveBoxes := fun a => frX6_moveBoxes a  k (by omega)
  have gX6_takeTurns := fun a => frX6_takeTurns a  k (by omega)
  have gfX6_go_j2 := fun a0 a1 a2 a3 => frX6_go_j2 a0 a1 a2 a3 k (by omega)
  have glX6_go_1 := fun a0 a1 a2 a3 a4 => frlX6_go_1 a0 a1 a2 a3 a4 k (by omega)
  obtain ⟨h6, h10, h11, h12, h13, h14, h15, h20, h21, h26, h30, h37, h38⟩ := hk
  unfold fX6_go
  (repeat' split) <;> simp [rset, h6, h10, h11, h12, h13, h14, h15, h20, h21, h26, h30, h37, h38, gX6_moveBoxes, gX6_takeTurns, gfX6_go_j2, glX6_go_1]
theorem iIX6_go (q : wSt) (x1 : Int32) (h : iI q) : iI (fX6_go q x1).2 := iI_fr (fun k hk => frX6_go q x1 k (by omega)) h
def fX6_lateCost (q : wSt) (x1 : Int32) (x2 : Int32) : Int32 := (if (fX1_isAt q x1 1) = 0 then 0 else (fX3_lateCost q x2 ((q 30 0) - (q 12 (x1).toNatClampNeg))))
def fX6_countAsHad (q : wSt) (x1 : Int32) : wSt := (if (fX5_has q x1) = 0 then q else (fX5_countAsHad q x1 (fX4_volumesOf q (q 23 (x1).toNatClampNeg)) (q 30 0)))
set_option maxRecDepth 20000 in
theorem frX6_countAsHad (q : wSt) (x1 : Int32) (k : Nat) (hk : k ≠ 24 ∧ k ≠ 25 ∧ k ≠ 26 ∧ k ≠ 27) : (fX6_countAsHad q x1) k = q k := by
  have gX5_countAsHad := fun a b0 b1 b2 => frX5_countAsHad a b0 b1 b2 k (by omega)
  obtain ⟨h24, h25, h26, h27⟩ := hk
  unfold fX6_countAsHad
  (repeat' split) <;> simp [rset, h24, h25, h26, h27, gX5_countAsHad]
theorem iIX6_countAsHad (q : wSt) (x1 : Int32) (h : iI q) : iI (fX6_countAsHad q x1) := iI_fr (fun k hk => frX6_countAsHad q x1 k (by omega)) h
def fX6_back_j1 (q : wSt) (x1 : Int32) : wSt := (if ((fX6_countAsHad (rset q 19 (upd (q 19) (q 10 (x1).toNatClampNeg).toNatClampNeg ((q 19 (q 10 (x1).toNatClampNeg).toNatClampNeg) + (fX6_lateCost q x1 (q 10 (x1).toNatClampNeg))))) (q 11 (x1).toNatClampNeg)) 17 (q 10 (x1).toNatClampNeg).toNatClampNeg) = 0 then (fX1_shelve (rset (fX6_countAsHad (rset q 19 (upd (q 19) (q 10 (x1).toNatClampNeg).toNatClampNeg ((q 19 (q 10 (x1).toNatClampNeg).toNatClampNeg) + (fX6_lateCost q x1 (q 10 (x1).toNatClampNeg))))) (q 11 (x1).toNatClampNeg)) 20 (upd ((fX6_countAsHad (rset q 19 (upd (q 19) (q 10 (x1).toNatClampNeg).toNatClampNeg ((q 19 (q 10 (x1).toNatClampNeg).toNatClampNeg) + (fX6_lateCost q x1 (q 10 (x1).toNatClampNeg))))) (q 11 (x1).toNatClampNeg)) 20) (q 10 (x1).toNatClampNeg).toNatClampNeg (((fX6_countAsHad (rset q 19 (upd (q 19) (q 10 (x1).toNatClampNeg).toNatClampNeg ((q 19 (q 10 (x1).toNatClampNeg).toNatClampNeg) + (fX6_lateCost q x1 (q 10 (x1).toNatClampNeg))))) (q 11 (x1).toNatClampNeg)) 20 (q 10 (x1).toNatClampNeg).toNatClampNeg) - 1))) x1) else (rset (fX1_sendBack (rset (fX6_countAsHad (rset q 19 (upd (q 19) (q 10 (x1).toNatClampNeg).toNatClampNeg ((q 19 (q 10 (x1).toNatClampNeg).toNatClampNeg) + (fX6_lateCost q x1 (q 10 (x1).toNatClampNeg))))) (q 11 (x1).toNatClampNeg)) 20 (upd ((fX6_countAsHad (rset q 19 (upd (q 19) (q 10 (x1).toNatClampNeg).toNatClampNeg ((q 19 (q 10 (x1).toNatClampNeg).toNatClampNeg) + (fX6_lateCost q x1 (q 10 (x1).toNatClampNeg))))) (q 11 (x1).toNatClampNeg)) 20) (q 10 (x1).toNatClampNeg).toNatClampNeg (((fX6_countAsHad (rset q 19 (upd (q 19) (q 10 (x1).toNatClampNeg).toNatClampNeg ((q 19 (q 10 (x1).toNatClampNeg).toNatClampNeg) + (fX6_lateCost q x1 (q 10 (x1).toNatClampNeg))))) (q 11 (x1).toNatClampNeg)) 20 (q 10 (x1).toNatClampNeg).toNatClampNeg) - 1))) x1 ((fX6_countAsHad (rset q 19 (upd (q 19) (q 10 (x1).toNatClampNeg).toNatClampNeg ((q 19 (q 10 (x1).toNatClampNeg).toNatClampNeg) + (fX6_lateCost q x1 (q 10 (x1).toNatClampNeg))))) (q 11 (x1).toNatClampNeg)) 17 (q 10 (x1).toNatClampNeg).toNatClampNeg)) 21 (upd ((fX1_sendBack (rset (fX6_countAsHad (rset q 19 (upd (q 19) (q 10 (x1).toNatClampNeg).toNatClampNeg ((q 19 (q 10 (x1).toNatClampNeg).toNatClampNeg) + (fX6_lateCost q x1 (q 10 (x1).toNatClampNeg))))) (q 11 (x1).toNatClampNeg)) 20 (upd ((fX6_countAsHad (rset q 19 (upd (q 19) (q 10 (x1).toNatClampNeg).toNatClampNeg ((q 19 (q 10 (x1).toNatClampNeg).toNatClampNeg) + (fX6_lateCost q x1 (q 10 (x1).toNatClampNeg))))) (q 11 (x1).toNatClampNeg)) 20) (q 10 (x1).toNatClampNeg).toNatClampNeg (((fX6_countAsHad (rset q 19 (upd (q 19) (q 10 (x1).toNatClampNeg).toNatClampNeg ((q 19 (q 10 (x1).toNatClampNeg).toNatClampNeg) + (fX6_lateCost q x1 (q 10 (x1).toNatClampNeg))))) (q 11 (x1).toNatClampNeg)) 20 (q 10 (x1).toNatClampNeg).toNatClampNeg) - 1))) x1 ((fX6_countAsHad (rset q 19 (upd (q 19) (q 10 (x1).toNatClampNeg).toNatClampNeg ((q 19 (q 10 (x1).toNatClampNeg).toNatClampNeg) + (fX6_lateCost q x1 (q 10 (x1).toNatClampNeg))))) (q 11 (x1).toNatClampNeg)) 17 (q 10 (x1).toNatClampNeg).toNatClampNeg)) 21) (q 10 (x1).toNatClampNeg).toNatClampNeg (((fX1_sendBack (rset (fX6_countAsHad (rset q 19 (upd (q 19) (q 10 (x1).toNatClampNeg).toNatClampNeg ((q 19 (q 10 (x1).toNatClampNeg).toNatClampNeg) + (fX6_lateCost q x1 (q 10 (x1).toNatClampNeg))))) (q 11 (x1).toNatClampNeg)) 20 (upd ((fX6_countAsHad (rset q 19 (upd (q 19) (q 10 (x1).toNatClampNeg).toNatClampNeg ((q 19 (q 10 (x1).toNatClampNeg).toNatClampNeg) + (fX6_lateCost q x1 (q 10 (x1).toNatClampNeg))))) (q 11 (x1).toNatClampNeg)) 20) (q 10 (x1).toNatClampNeg).toNatClampNeg (((fX6_countAsHad (rset q 19 (upd (q 19) (q 10 (x1).toNatClampNeg).toNatClampNeg ((q 19 (q 10 (x1).toNatClampNeg).toNatClampNeg) + (fX6_lateCost q x1 (q 10 (x1).toNatClampNeg))))) (q 11 (x1).toNatClampNeg)) 20 (q 10 (x1).toNatClampNeg).toNatClampNeg) - 1))) x1 ((fX6_countAsHad (rset q 19 (upd (q 19) (q 10 (x1).toNatClampNeg).toNatClampNeg ((q 19 (q 10 (x1).toNatClampNeg).toNatClampNeg) + (fX6_lateCost q x1 (q 10 (x1).toNatClampNeg))))) (q 11 (x1).toNatClampNeg)) 17 (q 10 (x1).toNatClampNeg).toNatClampNeg)) 21 (q 10 (x1).toNatClampNeg).toNatClampNeg) + 1))))
def fX6_back (q : wSt) (x1 : Int32) : Int32 × wSt := (if (fX1_isAt q x1 1) = 0 then ((-1), q) else (if (fX3_has q (q 10 (x1).toNatClampNeg)) = 0 then ((-1), q) else ((fX6_lateCost q x1 (q 10 (x1).toNatClampNeg)), (fX6_back_j1 q x1))))
set_option maxRecDepth 20000 in
theorem frX6_back_j1 (q : wSt) (x1 : Int32) (k : Nat) (hk : k ≠ 6 ∧ k ≠ 10 ∧ k ≠ 11 ∧ k ≠ 12 ∧ k ≠ 13 ∧ k ≠ 15 ∧ k ≠ 19 ∧ k ≠ 20 ∧ k ≠ 21 ∧ k ≠ 24 ∧ k ≠ 25 ∧ k ≠ 26 ∧ k ≠ 27 ∧ k ≠ 37 ∧ k ≠ 38) : (fX6_back_j1 q x1) k = q k := by
  have gX1_sendBack := fun a b0 b1 => frX1_sendBack a b0 b1 k (by omega)
  have gX1_shelve := fun a b0 => frX1_shelve a b0 k (by omega)
  have gX6_countAsHad := fun a b0 => frX6_countAsHad a b0 k (by omega)
  obtain ⟨h6, h10, h11, h12, h13, h15, h19, h20, h21, h24, h25, h26, h27, h37, h38⟩ := hk
  unfold fX6_back_j1
  (repeat' split) <;> simp [rset, h6, h10, h11, h12, h13, h15, h19, h20, h21, h24, h25, h26, h27, h37, h38, gX1_sendBack, gX1_shelve, gX6_countAsHad]
set_option maxRecDepth 20000 in
theorem frX6_back (q : wSt) (x1 : Int32) (k : Nat) (hk : k ≠ 6 ∧ k ≠ 10 ∧ k ≠ 11 ∧ k ≠ 12 ∧ k ≠ 13 ∧ k ≠ 15 ∧ k ≠ 19 ∧ k ≠ 20 ∧ k ≠ 21 ∧ k ≠ 24 ∧ k ≠ 25 ∧ k ≠ 26 ∧ k ≠ 27 ∧ k ≠ 37 ∧ k ≠ 38) : (fX6_back q x1).2 k = q k := by
  have gX1_sendBack := fun a b0 b1 => frX1_sendBack a b0 b1 k (by omega)
  have gX1_shelve := fun a b0 => frX1_shelve a b0 k (by omega)
  have gX6_countAsHad := fun a b0 => frX6_countAsHad a b0 k (by omega)
  have gfX6_back_j1 := fun a0 a1 => frX6_back_j1 a0 a1 k (by omega)
  obtain ⟨h6, h10, h11, h12, h13, h15, h19, h20, h21, h24, h25, h26, h27, h37, h38⟩ := hk
  unfold fX6_back
  (repeat' split) <;> simp [rset, h6, h10, h11, h12, h13, h15, h19, h20, h21, h24, h25, h26, h27, h37, h38, gX1_sendBack, gX1_shelve, gX6_countAsHad, gfX6_back_j1]
theorem iIX6_back (q : wSt) (x1 : Int32) (h : iI q) : iI (fX6_back q x1).2 := iI_fr (fun k hk => frX6_back q x1 k (by omega)) h
def fX6_takeFrom (q : wSt) (x1 : Int32) (x2 : Int32) : wSt := (if (fX1_isAt q x2 1) = 0 then (rset q 21 (upd (q 21) (x1).toNatClampNeg ((q 21 (x1).toNatClampNeg) - 1))) else (rset q 20 (upd (q 20) (x1).toNatClampNeg ((q 20 (x1).toNatClampNeg) - 1))))
set_option maxRecDepth 20000 in
theorem frX6_takeFrom (q : wSt) (x1 : Int32) (x2 : Int32) (k : Nat) (hk : k ≠ 20 ∧ k ≠ 21) : (fX6_takeFrom q x1 x2) k = q k := by
  obtain ⟨h20, h21⟩ := hk
  unfold fX6_takeFrom
  (repeat' split) <;> simp [rset, h20, h21]
theorem iIX6_takeFrom (q : wSt) (x1 : Int32) (x2 : Int32) (h : iI q) : iI (fX6_takeFrom q x1 x2) := iI_fr (fun k hk => frX6_takeFrom q x1 x2 k (by omega)) h
def fX6_lose_j1 (q : wSt) (x1 : Int32) : Int32 × wSt := (if (fX3_has q (q 10 (x1).toNatClampNeg)) = 0 then (0, q) else (((q 9 (x1).toNatClampNeg) + (fX6_lateCost q x1 (q 10 (x1).toNatClampNeg))), (fX6_takeFrom (fX6_countAsHad (rset q 19 (upd (q 19) (q 10 (x1).toNatClampNeg).toNatClampNeg ((q 19 (q 10 (x1).toNatClampNeg).toNatClampNeg) + ((q 9 (x1).toNatClampNeg) + (fX6_lateCost q x1 (q 10 (x1).toNatClampNeg)))))) (q 11 (x1).toNatClampNeg)) (q 10 (x1).toNatClampNeg) x1)))
def fX6_lose (q : wSt) (x1 : Int32) : Int32 × wSt := (if (fX1_has q x1) = 0 then ((-1), q) else (if (fX1_isAt q x1 4) = 0 then (if (fX1_isAt q x1 5) = 0 then ((fX6_lose_j1 q x1).1, (fX1_leaveFor (fX6_lose_j1 q x1).2 x1 5)) else ((-1), q)) else ((-1), q)))
set_option maxRecDepth 20000 in
theorem frX6_lose_j1 (q : wSt) (x1 : Int32) (k : Nat) (hk : k ≠ 6 ∧ k ≠ 10 ∧ k ≠ 11 ∧ k ≠ 12 ∧ k ≠ 13 ∧ k ≠ 15 ∧ k ≠ 19 ∧ k ≠ 20 ∧ k ≠ 21 ∧ k ≠ 24 ∧ k ≠ 25 ∧ k ≠ 26 ∧ k ≠ 27 ∧ k ≠ 37 ∧ k ≠ 38) : (fX6_lose_j1 q x1).2 k = q k := by
  have gX1_leaveFor := fun a b0 b1 => frX1_leaveFor a b0 b1 k (by omega)
  have gX6_countAsHad := fun a b0 => frX6_countAsHad a b0 k (by omega)
  have gX6_takeFrom := fun a b0 b1 => frX6_takeFrom a b0 b1 k (by omega)
  obtain ⟨h6, h10, h11, h12, h13, h15, h19, h20, h21, h24, h25, h26, h27, h37, h38⟩ := hk
  unfold fX6_lose_j1
  (repeat' split) <;> simp [rset, h6, h10, h11, h12, h13, h15, h19, h20, h21, h24, h25, h26, h27, h37, h38, gX1_leaveFor, gX6_countAsHad, gX6_takeFrom]
set_option maxRecDepth 20000 in
theorem frX6_lose (q : wSt) (x1 : Int32) (k : Nat) (hk : k ≠ 6 ∧ k ≠ 10 ∧ k ≠ 11 ∧ k ≠ 12 ∧ k ≠ 13 ∧ k ≠ 15 ∧ k ≠ 19 ∧ k ≠ 20 ∧ k ≠ 21 ∧ k ≠ 24 ∧ k ≠ 25 ∧ k ≠ 26 ∧ k ≠ 27 ∧ k ≠ 37 ∧ k ≠ 38) : (fX6_lose q x1).2 k = q k := by
  have gX1_leaveFor := fun a b0 b1 => frX1_leaveFor a b0 b1 k (by omega)
  have gX6_countAsHad := fun a b0 => frX6_countAsHad a b0 k (by omega)
  have gX6_takeFrom := fun a b0 b1 => frX6_takeFrom a b0 b1 k (by omega)
  have gfX6_lose_j1 := fun a0 a1 => frX6_lose_j1 a0 a1 k (by omega)
  obtain ⟨h6, h10, h11, h12, h13, h15, h19, h20, h21, h24, h25, h26, h27, h37, h38⟩ := hk
  unfold fX6_lose
  (repeat' split) <;> simp [rset, h6, h10, h11, h12, h13, h15, h19, h20, h21, h24, h25, h26, h27, h37, h38, gX1_leaveFor, gX6_countAsHad, gX6_takeFrom, gfX6_lose_j1]
theorem iIX6_lose (q : wSt) (x1 : Int32) (h : iI q) : iI (fX6_lose q x1).2 := iI_fr (fun k hk => frX6_lose q x1 k (by omega)) h
def fX6_pay (q : wSt) (x1 : Int32) (x2 : Int32) : Int32 × wSt := (if (fX3_has q x1) = 0 then ((-1), q) else (if (fX6_within q x2 1 (q 19 (x1).toNatClampNeg)) = 0 then ((-1), q) else (((upd (q 19) (x1).toNatClampNeg ((q 19 (x1).toNatClampNeg) - x2)) (x1).toNatClampNeg), (rset (rset q 19 (upd (q 19) (x1).toNatClampNeg ((q 19 (x1).toNatClampNeg) - x2))) 33 (fun _ => ((q 33 0) + x2))))))
set_option maxRecDepth 20000 in
theorem frX6_pay (q : wSt) (x1 : Int32) (x2 : Int32) (k : Nat) (hk : k ≠ 19 ∧ k ≠ 33) : (fX6_pay q x1 x2).2 k = q k := by
  obtain ⟨h19, h33⟩ := hk
  unfold fX6_pay
  (repeat' split) <;> simp [rset, h19, h33]
theorem iIX6_pay (q : wSt) (x1 : Int32) (x2 : Int32) (h : iI q) : iI (fX6_pay q x1 x2).2 := iI_fr (fun k hk => frX6_pay q x1 x2 k (by omega)) h
def fX6_copy (q : wSt) (x1 : Int32) (x2 : Int32) : Int32 := (if (fX1_has q x1) = 0 then (-1) else (if x2 = 0 then (q 6 (x1).toNatClampNeg) else (if x2 = 1 then (q 7 (x1).toNatClampNeg) else (if x2 = 2 then (q 8 (x1).toNatClampNeg) else (if x2 = 3 then (q 9 (x1).toNatClampNeg) else (if x2 = 4 then (q 10 (x1).toNatClampNeg) else (if x2 = 5 then (q 12 (x1).toNatClampNeg) else (if x2 = 6 then (q 13 (x1).toNatClampNeg) else (if x2 = 7 then (q 14 (x1).toNatClampNeg) else (-1))))))))))
def fX6_told (q : wSt) (x1 : Int32) (x2 : Int32) : Int32 := (if (fX3_has q x1) = 0 then (-1) else (if x2 = 0 then (q 16 (x1).toNatClampNeg) else (if x2 = 1 then (q 20 (x1).toNatClampNeg) else (if x2 = 2 then (q 21 (x1).toNatClampNeg) else (if x2 = 3 then (q 19 (x1).toNatClampNeg) else (if x2 = 4 then (fX5_openOf q x1) else (if x2 = 5 then (q 18 (x1).toNatClampNeg) else (-1))))))))
def fX6_wished (q : wSt) (x1 : Int32) (x2 : Int32) : Int32 := (if (fX5_has q x1) = 0 then (-1) else (if x2 = 0 then (q 24 (x1).toNatClampNeg) else (if x2 = 1 then (q 25 (x1).toNatClampNeg) else (if x2 = 2 then (q 26 (x1).toNatClampNeg) else (if x2 = 3 then (if (fX5_waits q x1) = 0 then (-1) else (q 27 (x1).toNatClampNeg)) else (-1))))))
def fX6_waiting (q : wSt) (x1 : Int32) (x2 : Int32) : Int32 := (if (fX4_hasVolume q x1 x2) = 0 then (-1) else (fX5_waitingFor q x1 x2))
def lX6_sets_1 (q : wSt) (x1 : Int32) : Nat → Int32 → Int32 → Int32
  | 0, _, _ => (-1)
  | n + 1, y2_1, y4_1 => (if (fX4_volumesOf q x1) ≤ y4_1 then y2_1 else (lX6_sets_1 q x1 n (if (fX1_inHouse q x1 y4_1) < y2_1 then (fX1_inHouse q x1 y4_1) else y2_1) (y4_1 + 1)))
theorem lX6_sets_1_s (q : wSt) (x1 : Int32) (n : Nat) (y2_1 : Int32) (y4_1 : Int32) : lX6_sets_1 q x1 (n + 1) y2_1 y4_1 = (if (fX4_volumesOf q x1) ≤ y4_1 then y2_1 else (lX6_sets_1 q x1 n (if (fX1_inHouse q x1 y4_1) < y2_1 then (fX1_inHouse q x1 y4_1) else y2_1) (y4_1 + 1))) := rfl
def fX6_sets (q : wSt) (x1 : Int32) : Int32 := (if (fX4_has q x1) = 0 then (-1) else (lX6_sets_1 q x1 (((fX4_volumesOf q x1).toInt - (0 : Int32).toInt).toNat + 1) 200 0))
def fX6_demand_j1 (q : wSt) (x1 : Int32) (x2 : Int32) (x3 : Int32) : Int32 := (if x1 = 20 then 0 else 50)
def fX6_demand (q : wSt) (x1 : Int32) (x2 : Int32) (x3 : Int32) : Int32 × wSt := (if (fX6_within q x1 0 20) = 0 then (0, q) else (if (fX6_within q x2 0 (fX6_demand_j1 q x1 x2 x3)) = 0 then (0, q) else (if (fX6_within q x3 0 1000) = 0 then (0, q) else (1, (rset (rset q 28 (upd (q 28) (x1).toNatClampNeg x2)) 29 (upd (q 29) (x1).toNatClampNeg x3))))))
set_option maxRecDepth 20000 in
theorem frX6_demand (q : wSt) (x1 : Int32) (x2 : Int32) (x3 : Int32) (k : Nat) (hk : k ≠ 28 ∧ k ≠ 29) : (fX6_demand q x1 x2 x3).2 k = q k := by
  obtain ⟨h28, h29⟩ := hk
  unfold fX6_demand
  (repeat' split) <;> simp [rset, h28, h29]
theorem iIX6_demand (q : wSt) (x1 : Int32) (x2 : Int32) (x3 : Int32) (h : iI q) : iI (fX6_demand q x1 x2 x3).2 := iI_fr (fun k hk => frX6_demand q x1 x2 x3 k (by omega)) h
def fX6_canPlan (q : wSt) (x0 : Int32) (x1 : Int32) : Int32 := (if (fX6_within q x0 0 1000) = 0 then 0 else (if (fX6_within q x1 0 1000) = 0 then 0 else 1))
def fX6_best (q : wSt) (x1 : Int32) (x2 : Int32) : Int32 := (if (fX6_canPlan q x1 x2) = 0 then (-1) else (fX2_setsToBuy q x1 x2))
def lX6_gain_1 (q : wSt) (x1 : Int32) (x2 : Int32) : Nat → Int32 → Int32 → Int32
  | 0, _, _ => (-1)
  | n + 1, y4_1, y5_1 => (if (fX2_setsToBuy q x1 x2) ≤ y5_1 then y4_1 else (lX6_gain_1 q x1 x2 n (y4_1 + ((fX2_mostOf q x1 y5_1) - x2)) (y5_1 + 1)))
theorem lX6_gain_1_s (q : wSt) (x1 : Int32) (x2 : Int32) (n : Nat) (y4_1 : Int32) (y5_1 : Int32) : lX6_gain_1 q x1 x2 (n + 1) y4_1 y5_1 = (if (fX2_setsToBuy q x1 x2) ≤ y5_1 then y4_1 else (lX6_gain_1 q x1 x2 n (y4_1 + ((fX2_mostOf q x1 y5_1) - x2)) (y5_1 + 1))) := rfl
def fX6_gain (q : wSt) (x1 : Int32) (x2 : Int32) : Int32 := (if (fX6_canPlan q x1 x2) = 0 then (-1) else (lX6_gain_1 q x1 x2 (((fX2_setsToBuy q x1 x2).toInt - (0 : Int32).toInt).toNat + 1) 0 0))
def fX6_kept (q : wSt) (x1 : Int32) (x2 : Int32) (x3 : Int32) : Int32 := (if (fX6_canPlan q x1 x2) = 0 then (-1) else (if (fX6_within q x3 0 ((fX2_setsToBuy q x1 x2) - 1)) = 0 then (-1) else (fX2_weeksOf q x1 x3)))
def fX6_count (q : wSt) (x1 : Int32) : Int32 := (if x1 = 0 then (q 30 0) else (if x1 = 1 then (q 34 0) else (if x1 = 2 then (q 36 0) else (if x1 = 3 then (q 39 0) else (if x1 = 4 then (q 40 0) else (if x1 = 5 then (q 31 0) else (if x1 = 6 then (q 32 0) else (if x1 = 7 then (q 33 0) else (if x1 = 8 then (q 38 0) else (-1))))))))))
def fX7_in (q : wSt) (x0 : Int32) (x1 : Int32) (x2 : Int32) : Int32 := (if x0 < x1 then 0 else (if x2 < x0 then 0 else 1))
def fX7_isTitle (q : wSt) (x1 : Int32) : Int32 := (fX7_in q x1 0 ((q 34 0) - 1))
def fX7_isReader (q : wSt) (x1 : Int32) : Int32 := (fX7_in q x1 0 ((q 39 0) - 1))
def fX7_isCopy (q : wSt) (x1 : Int32) : Int32 := (fX7_in q x1 0 ((q 36 0) - 1))
def fX7_isWish (q : wSt) (x1 : Int32) : Int32 := (fX7_in q x1 0 ((q 40 0) - 1))
def fX7_title (q : wSt) (x1 : Int32) : Int32 × wSt := (if (fX7_in q x1 1 4) = 0 then ((-1), q) else (if (q 34 0) = 12 then ((-1), q) else ((((q 34 0) + 1) - 1), (rset (rset q 0 (upd (q 0) (q 34 0).toNatClampNeg x1)) 34 (fun _ => ((q 34 0) + 1))))))
set_option maxRecDepth 20000 in
theorem frX7_title (q : wSt) (x1 : Int32) (k : Nat) (hk : k ≠ 0 ∧ k ≠ 34) : (fX7_title q x1).2 k = q k := by
  obtain ⟨h0, h34⟩ := hk
  unfold fX7_title
  (repeat' split) <;> simp [rset, h0, h34]
def fX7_bargain (q : wSt) (x1 : Int32) (x2 : Int32) (x3 : Int32) (x4 : Int32) (x5 : Int32) : Int32 × wSt := (if (fX7_isTitle q x1) = 0 then (0, q) else (if (fX7_in q x2 0 5000) = 0 then (0, q) else (if (fX7_in q x3 0 200) = 0 then (0, q) else (if (fX7_in q x4 0 1000) = 0 then (0, q) else (if (fX7_in q x5 0 1000) = 0 then (0, q) else (if (q 35 0) = 40 then (0, q) else (1, (rset (rset (rset (rset (rset (rset q 1 (upd (q 1) (q 35 0).toNatClampNeg x1)) 2 (upd (q 2) (q 35 0).toNatClampNeg x2)) 3 (upd (q 3) (q 35 0).toNatClampNeg x3)) 4 (upd (q 4) (q 35 0).toNatClampNeg x4)) 5 (upd (q 5) (q 35 0).toNatClampNeg x5)) 35 (fun _ => ((q 35 0) + 1))))))))))
set_option maxRecDepth 20000 in
theorem frX7_bargain (q : wSt) (x1 : Int32) (x2 : Int32) (x3 : Int32) (x4 : Int32) (x5 : Int32) (k : Nat) (hk : k ≠ 1 ∧ k ≠ 2 ∧ k ≠ 3 ∧ k ≠ 4 ∧ k ≠ 5 ∧ k ≠ 35) : (fX7_bargain q x1 x2 x3 x4 x5).2 k = q k := by
  obtain ⟨h1, h2, h3, h4, h5, h35⟩ := hk
  unfold fX7_bargain
  (repeat' split) <;> simp [rset, h1, h2, h3, h4, h5, h35]
def fX7_bargainOf_j2 (q : wSt) (x1 : Int32) (y2_1 : Int32) (y3_1 : Int32) : Int32 := (if (q 1 (y3_1).toNatClampNeg) = x1 then (if (q 30 0) < (q 2 (y3_1).toNatClampNeg) then y2_1 else (if y2_1 = (-1) then y3_1 else (if (q 2 (y3_1).toNatClampNeg) < (q 2 (y2_1).toNatClampNeg) then y2_1 else y3_1))) else y2_1)
def lX7_bargainOf_1 (q : wSt) (x1 : Int32) : Nat → Int32 → Int32 → Int32
  | 0, _, _ => (-1)
  | n + 1, y2_1, y3_1 => (if (q 35 0) ≤ y3_1 then y2_1 else (lX7_bargainOf_1 q x1 n (fX7_bargainOf_j2 q x1 y2_1 y3_1) (y3_1 + 1)))
theorem lX7_bargainOf_1_s (q : wSt) (x1 : Int32) (n : Nat) (y2_1 : Int32) (y3_1 : Int32) : lX7_bargainOf_1 q x1 (n + 1) y2_1 y3_1 = (if (q 35 0) ≤ y3_1 then y2_1 else (lX7_bargainOf_1 q x1 n (fX7_bargainOf_j2 q x1 y2_1 y3_1) (y3_1 + 1))) := rfl
def fX7_bargainOf (q : wSt) (x1 : Int32) : Int32 := (lX7_bargainOf_1 q x1 (((q 35 0).toInt - (0 : Int32).toInt).toNat + 1) (-1) 0)
def fX7_buy_j2 (q : wSt) (x1 : Int32) (x2 : Int32) (y4_1 : Int32) (y5_1 : Int32) (p1 : wSt) : Int32 := (if (fX7_bargainOf q x1) = (-1) then 10 else (if (p1 3 (fX7_bargainOf q x1).toNatClampNeg) ≤ y5_1 then (p1 5 (fX7_bargainOf q x1).toNatClampNeg) else (p1 4 (fX7_bargainOf q x1).toNatClampNeg)))
def lX7_buy_1 (q : wSt) (x1 : Int32) (x2 : Int32) : Nat → Int32 → Int32 → wSt → Int32 × wSt
  | 0, _, _, p1 => ((-1), p1)
  | n + 1, y4_1, y5_1, p1 => (if (x2 * (p1 0 (x1).toNatClampNeg)) ≤ y5_1 then (y4_1, p1) else (lX7_buy_1 q x1 x2 n (y4_1 + (fX7_buy_j2 q x1 x2 y4_1 y5_1 p1)) (y5_1 + 1) (rset (rset (rset (rset (rset (rset (rset (rset p1 7 (upd (p1 7) (p1 36 0).toNatClampNeg x1)) 8 (upd (p1 8) (p1 36 0).toNatClampNeg (y5_1 / x2))) 9 (upd (p1 9) (p1 36 0).toNatClampNeg (fX7_buy_j2 q x1 x2 y4_1 y5_1 p1))) 6 (upd (p1 6) (p1 36 0).toNatClampNeg 0)) 10 (upd (p1 10) (p1 36 0).toNatClampNeg (-1))) 11 (upd (p1 11) (p1 36 0).toNatClampNeg (-1))) 12 (upd (p1 12) (p1 36 0).toNatClampNeg (-1))) 36 (fun _ => ((p1 36 0) + 1)))))
theorem lX7_buy_1_s (q : wSt) (x1 : Int32) (x2 : Int32) (n : Nat) (y4_1 : Int32) (y5_1 : Int32) (p1 : wSt) : lX7_buy_1 q x1 x2 (n + 1) y4_1 y5_1 p1 = (if (x2 * (p1 0 (x1).toNatClampNeg)) ≤ y5_1 then (y4_1, p1) else (lX7_buy_1 q x1 x2 n (y4_1 + (fX7_buy_j2 q x1 x2 y4_1 y5_1 p1)) (y5_1 + 1) (rset (rset (rset (rset (rset (rset (rset (rset p1 7 (upd (p1 7) (p1 36 0).toNatClampNeg x1)) 8 (upd (p1 8) (p1 36 0).toNatClampNeg (y5_1 / x2))) 9 (upd (p1 9) (p1 36 0).toNatClampNeg (fX7_buy_j2 q x1 x2 y4_1 y5_1 p1))) 6 (upd (p1 6) (p1 36 0).toNatClampNeg 0)) 10 (upd (p1 10) (p1 36 0).toNatClampNeg (-1))) 11 (upd (p1 11) (p1 36 0).toNatClampNeg (-1))) 12 (upd (p1 12) (p1 36 0).toNatClampNeg (-1))) 36 (fun _ => ((p1 36 0) + 1))))) := rfl
def fX7_buy (q : wSt) (x1 : Int32) (x2 : Int32) : Int32 × wSt := (if (fX7_isTitle q x1) = 0 then ((-1), q) else (if (fX7_in q x2 1 20) = 0 then ((-1), q) else (if ((q 36 0) + (x2 * (q 0 (x1).toNatClampNeg))) ≤ 200 then ((lX7_buy_1 q x1 x2 (((x2 * ((q 0) (x1).toNatClampNeg)).toInt - (0 : Int32).toInt).toNat + 1) 0 0 q).1, (rset (lX7_buy_1 q x1 x2 (((x2 * ((q 0) (x1).toNatClampNeg)).toInt - (0 : Int32).toInt).toNat + 1) 0 0 q).2 31 (fun _ => (((lX7_buy_1 q x1 x2 (((x2 * ((q 0) (x1).toNatClampNeg)).toInt - (0 : Int32).toInt).toNat + 1) 0 0 q).2 31 0) + (lX7_buy_1 q x1 x2 (((x2 * ((q 0) (x1).toNatClampNeg)).toInt - (0 : Int32).toInt).toNat + 1) 0 0 q).1)))) else ((-1), q))))
set_option maxRecDepth 20000 in
theorem frlX7_buy_1 (q : wSt) (x1 : Int32) (x2 : Int32) (n : Nat) (y4_1 : Int32) (y5_1 : Int32) (p1 : wSt) (k : Nat) (hk : k ≠ 6 ∧ k ≠ 7 ∧ k ≠ 8 ∧ k ≠ 9 ∧ k ≠ 10 ∧ k ≠ 11 ∧ k ≠ 12 ∧ k ≠ 31 ∧ k ≠ 36) : (lX7_buy_1 q x1 x2 n y4_1 y5_1 p1).2 k = p1 k := by
  obtain ⟨h6, h7, h8, h9, h10, h11, h12, h31, h36⟩ := hk
  induction n generalizing y4_1 y5_1 p1 with
  | zero => rfl
  | succ n ih =>
    rw [lX7_buy_1_s]
    (repeat' split) <;> simp [rset, h6, h7, h8, h9, h10, h11, h12, h31, h36, ih]
set_option maxRecDepth 20000 in
theorem frX7_buy (q : wSt) (x1 : Int32) (x2 : Int32) (k : Nat) (hk : k ≠ 6 ∧ k ≠ 7 ∧ k ≠ 8 ∧ k ≠ 9 ∧ k ≠ 10 ∧ k ≠ 11 ∧ k ≠ 12 ∧ k ≠ 31 ∧ k ≠ 36) : (fX7_buy q x1 x2).2 k = q k := by
  have glX7_buy_1 := fun a0 a1 a2 a3 a4 a5 a6 => frlX7_buy_1 a0 a1 a2 a3 a4 a5 a6 k (by omega)
  obtain ⟨h6, h7, h8, h9, h10, h11, h12, h31, h36⟩ := hk
  unfold fX7_buy
  (repeat' split) <;> simp [rset, h6, h7, h8, h9, h10, h11, h12, h31, h36, glX7_buy_1]
def fX7_sell (q : wSt) (x1 : Int32) (x2 : Int32) : Int32 × wSt := (if (fX7_isCopy q x1) = 0 then (0, q) else (if (q 6 (x1).toNatClampNeg) = 0 then (if (fX7_in q x2 0 1000) = 0 then (0, q) else (1, (rset (rset q 6 (upd (q 6) (x1).toNatClampNeg 4)) 32 (fun _ => ((q 32 0) + x2))))) else (0, q)))
set_option maxRecDepth 20000 in
theorem frX7_sell (q : wSt) (x1 : Int32) (x2 : Int32) (k : Nat) (hk : k ≠ 6 ∧ k ≠ 32) : (fX7_sell q x1 x2).2 k = q k := by
  obtain ⟨h6, h32⟩ := hk
  unfold fX7_sell
  (repeat' split) <;> simp [rset, h6, h32]
theorem iIX7_sell (q : wSt) (x1 : Int32) (x2 : Int32) (h : iI q) : iI (fX7_sell q x1 x2).2 := iI_fr (fun k hk => frX7_sell q x1 x2 k (by omega)) h
def fX7_reader (q : wSt) (x1 : Int32) (x2 : Int32) (x3 : Int32) : Int32 × wSt := (if (fX7_in q x1 0 2) = 0 then ((-1), q) else (if (fX7_in q x2 0 9) = 0 then ((-1), q) else (if (fX7_in q x3 0 5000) = 0 then ((-1), q) else (if (q 39 0) = 20 then ((-1), q) else ((((q 39 0) + 1) - 1), (rset (rset (rset (rset q 16 (upd (q 16) (q 39 0).toNatClampNeg x1)) 17 (upd (q 17) (q 39 0).toNatClampNeg x2)) 18 (upd (q 18) (q 39 0).toNatClampNeg x3)) 39 (fun _ => ((q 39 0) + 1))))))))
set_option maxRecDepth 20000 in
theorem frX7_reader (q : wSt) (x1 : Int32) (x2 : Int32) (x3 : Int32) (k : Nat) (hk : k ≠ 16 ∧ k ≠ 17 ∧ k ≠ 18 ∧ k ≠ 39) : (fX7_reader q x1 x2 x3).2 k = q k := by
  obtain ⟨h16, h17, h18, h39⟩ := hk
  unfold fX7_reader
  (repeat' split) <;> simp [rset, h16, h17, h18, h39]
def fX7_renew (q : wSt) (x1 : Int32) (x2 : Int32) : Int32 × wSt := (if (fX7_isReader q x1) = 0 then (0, q) else (if (fX7_in q x2 0 5000) = 0 then (0, q) else (1, (rset q 18 (upd (q 18) (x1).toNatClampNeg x2)))))
set_option maxRecDepth 20000 in
theorem frX7_renew (q : wSt) (x1 : Int32) (x2 : Int32) (k : Nat) (hk : k ≠ 18) : (fX7_renew q x1 x2).2 k = q k := by
  have h18 := hk
  unfold fX7_renew
  (repeat' split) <;> simp [rset, h18]
theorem iIX7_renew (q : wSt) (x1 : Int32) (x2 : Int32) (h : iI q) : iI (fX7_renew q x1 x2).2 := iI_fr (fun k hk => frX7_renew q x1 x2 k (by omega)) h
def lX7_wish_1 (q : wSt) (x1 : Int32) (x2 : Int32) : Nat → Int32 → Int32 × wSt
  | 0, _ => ((-1), q)
  | n + 1, y3_1 => (if (q 40 0) ≤ y3_1 then ((((q 40 0) + 1) - 1), (rset (rset (rset (rset q 22 (upd (q 22) (q 40 0).toNatClampNeg x1)) 23 (upd (q 23) (q 40 0).toNatClampNeg x2)) 27 (upd (q 27) (q 40 0).toNatClampNeg (q 30 0))) 40 (fun _ => ((q 40 0) + 1)))) else (if (q 22 (y3_1).toNatClampNeg) = x1 then (if (q 23 (y3_1).toNatClampNeg) = x2 then (if (q 24 (y3_1).toNatClampNeg) = 0 then ((-1), q) else (lX7_wish_1 q x1 x2 n (y3_1 + 1))) else (lX7_wish_1 q x1 x2 n (y3_1 + 1))) else (lX7_wish_1 q x1 x2 n (y3_1 + 1))))
theorem lX7_wish_1_s (q : wSt) (x1 : Int32) (x2 : Int32) (n : Nat) (y3_1 : Int32) : lX7_wish_1 q x1 x2 (n + 1) y3_1 = (if (q 40 0) ≤ y3_1 then ((((q 40 0) + 1) - 1), (rset (rset (rset (rset q 22 (upd (q 22) (q 40 0).toNatClampNeg x1)) 23 (upd (q 23) (q 40 0).toNatClampNeg x2)) 27 (upd (q 27) (q 40 0).toNatClampNeg (q 30 0))) 40 (fun _ => ((q 40 0) + 1)))) else (if (q 22 (y3_1).toNatClampNeg) = x1 then (if (q 23 (y3_1).toNatClampNeg) = x2 then (if (q 24 (y3_1).toNatClampNeg) = 0 then ((-1), q) else (lX7_wish_1 q x1 x2 n (y3_1 + 1))) else (lX7_wish_1 q x1 x2 n (y3_1 + 1))) else (lX7_wish_1 q x1 x2 n (y3_1 + 1)))) := rfl
def fX7_wish (q : wSt) (x1 : Int32) (x2 : Int32) : Int32 × wSt := (if (fX7_isReader q x1) = 0 then ((-1), q) else (if (fX7_isTitle q x2) = 0 then ((-1), q) else (if (q 40 0) = 100 then ((-1), q) else (lX7_wish_1 q x1 x2 (((q 40 0).toInt - (0 : Int32).toInt).toNat + 1) 0))))
set_option maxRecDepth 20000 in
theorem frlX7_wish_1 (q : wSt) (x1 : Int32) (x2 : Int32) (n : Nat) (y3_1 : Int32) (k : Nat) (hk : k ≠ 22 ∧ k ≠ 23 ∧ k ≠ 27 ∧ k ≠ 40) : (lX7_wish_1 q x1 x2 n y3_1).2 k = q k := by
  obtain ⟨h22, h23, h27, h40⟩ := hk
  induction n generalizing y3_1 with
  | zero => rfl
  | succ n ih =>
    rw [lX7_wish_1_s]
    (repeat' split) <;> simp [rset, h22, h23, h27, h40, ih]
set_option maxRecDepth 20000 in
theorem frX7_wish (q : wSt) (x1 : Int32) (x2 : Int32) (k : Nat) (hk : k ≠ 22 ∧ k ≠ 23 ∧ k ≠ 27 ∧ k ≠ 40) : (fX7_wish q x1 x2).2 k = q k := by
  have glX7_wish_1 := fun a0 a1 a2 a3 a4 => frlX7_wish_1 a0 a1 a2 a3 a4 k (by omega)
  obtain ⟨h22, h23, h27, h40⟩ := hk
  unfold fX7_wish
  (repeat' split) <;> simp [rset, h22, h23, h27, h40, glX7_wish_1]
def fX7_unwish (q : wSt) (x1 : Int32) : Int32 × wSt := (if (fX7_isWish q x1) = 0 then (0, q) else (if (q 24 (x1).toNatClampNeg) = 0 then (1, (rset q 24 (upd (q 24) (x1).toNatClampNeg 2))) else (0, q)))
set_option maxRecDepth 20000 in
theorem frX7_unwish (q : wSt) (x1 : Int32) (k : Nat) (hk : k ≠ 24) : (fX7_unwish q x1).2 k = q k := by
  have h24 := hk
  unfold fX7_unwish
  (repeat' split) <;> simp [rset, h24]
theorem iIX7_unwish (q : wSt) (x1 : Int32) (h : iI q) : iI (fX7_unwish q x1).2 := iI_fr (fun k hk => frX7_unwish q x1 k (by omega)) h
def lX7_copyOf_1 (q : wSt) (x1 : Int32) : Nat → Int32 → Int32
  | 0, _ => (-1)
  | n + 1, y2_1 => (if (q 36 0) ≤ y2_1 then (-1) else (if (q 11 (y2_1).toNatClampNeg) = x1 then y2_1 else (lX7_copyOf_1 q x1 n (y2_1 + 1))))
theorem lX7_copyOf_1_s (q : wSt) (x1 : Int32) (n : Nat) (y2_1 : Int32) : lX7_copyOf_1 q x1 (n + 1) y2_1 = (if (q 36 0) ≤ y2_1 then (-1) else (if (q 11 (y2_1).toNatClampNeg) = x1 then y2_1 else (lX7_copyOf_1 q x1 n (y2_1 + 1)))) := rfl
def fX7_copyOf (q : wSt) (x1 : Int32) : Int32 := (lX7_copyOf_1 q x1 (((q 36 0).toInt - (0 : Int32).toInt).toNat + 1) 0)
def fX7_waits (q : wSt) (x1 : Int32) : Int32 := (if (q 24 (x1).toNatClampNeg) = 0 then (if (fX7_copyOf q x1) = (-1) then 1 else 0) else 0)
def fX7_holds_j2 (q : wSt) (x1 : Int32) (x2 : Int32) (y3_1 : Int32) (y4_1 : Int32) : Int32 := (if (q 10 (y4_1).toNatClampNeg) = x1 then (if (q 6 (y4_1).toNatClampNeg) = x2 then 1 else 0) else 0)
def lX7_holds_1 (q : wSt) (x1 : Int32) (x2 : Int32) : Nat → Int32 → Int32 → Int32
  | 0, _, _ => (-1)
  | n + 1, y3_1, y4_1 => (if (q 36 0) ≤ y4_1 then y3_1 else (lX7_holds_1 q x1 x2 n (y3_1 + (fX7_holds_j2 q x1 x2 y3_1 y4_1)) (y4_1 + 1)))
theorem lX7_holds_1_s (q : wSt) (x1 : Int32) (x2 : Int32) (n : Nat) (y3_1 : Int32) (y4_1 : Int32) : lX7_holds_1 q x1 x2 (n + 1) y3_1 y4_1 = (if (q 36 0) ≤ y4_1 then y3_1 else (lX7_holds_1 q x1 x2 n (y3_1 + (fX7_holds_j2 q x1 x2 y3_1 y4_1)) (y4_1 + 1))) := rfl
def fX7_holds (q : wSt) (x1 : Int32) (x2 : Int32) : Int32 := (lX7_holds_1 q x1 x2 (((q 36 0).toInt - (0 : Int32).toInt).toNat + 1) 0 0)
def fX7_most (q : wSt) (x1 : Int32) : Int32 := (if (q 16 (x1).toNatClampNeg) = 0 then 1 else (if (q 16 (x1).toNatClampNeg) = 1 then 3 else 6))
def fX7_term (q : wSt) (x0 : Int32) : Int32 := (if x0 = 0 then 7 else (if x0 = 1 then 14 else 28))
def fX7_boxes_j2 (q : wSt) (y1_1 : Int32) (p1 : wSt) : wSt := (if (p1 6 (y1_1).toNatClampNeg) = 2 then (if ((upd (p1 13) (y1_1).toNatClampNeg ((p1 13 (y1_1).toNatClampNeg) - 1)) (y1_1).toNatClampNeg) ≤ 0 then (if (p1 6 (y1_1).toNatClampNeg) = 2 then (rset (rset (rset p1 13 (upd (p1 13) (y1_1).toNatClampNeg ((p1 13 (y1_1).toNatClampNeg) - 1))) 6 (upd (p1 6) (y1_1).toNatClampNeg 1)) 12 (upd (p1 12) (y1_1).toNatClampNeg (p1 30 0))) else (rset (rset (rset p1 13 (upd (p1 13) (y1_1).toNatClampNeg ((p1 13 (y1_1).toNatClampNeg) - 1))) 6 (upd (p1 6) (y1_1).toNatClampNeg 0)) 10 (upd (p1 10) (y1_1).toNatClampNeg (-1)))) else (rset p1 13 (upd (p1 13) (y1_1).toNatClampNeg ((p1 13 (y1_1).toNatClampNeg) - 1)))) else (if (p1 6 (y1_1).toNatClampNeg) = 3 then (if ((upd (p1 13) (y1_1).toNatClampNeg ((p1 13 (y1_1).toNatClampNeg) - 1)) (y1_1).toNatClampNeg) ≤ 0 then (if (p1 6 (y1_1).toNatClampNeg) = 2 then (rset (rset (rset p1 13 (upd (p1 13) (y1_1).toNatClampNeg ((p1 13 (y1_1).toNatClampNeg) - 1))) 6 (upd (p1 6) (y1_1).toNatClampNeg 1)) 12 (upd (p1 12) (y1_1).toNatClampNeg (p1 30 0))) else (rset (rset (rset p1 13 (upd (p1 13) (y1_1).toNatClampNeg ((p1 13 (y1_1).toNatClampNeg) - 1))) 6 (upd (p1 6) (y1_1).toNatClampNeg 0)) 10 (upd (p1 10) (y1_1).toNatClampNeg (-1)))) else (rset p1 13 (upd (p1 13) (y1_1).toNatClampNeg ((p1 13 (y1_1).toNatClampNeg) - 1)))) else p1))
def lX7_boxes_1 (q : wSt) : Nat → Int32 → wSt → wSt
  | 0, _, p1 => p1
  | n + 1, y1_1, p1 => (if (p1 36 0) ≤ y1_1 then p1 else (lX7_boxes_1 q n (y1_1 + 1) (fX7_boxes_j2 q y1_1 p1)))
theorem lX7_boxes_1_s (q : wSt) (n : Nat) (y1_1 : Int32) (p1 : wSt) : lX7_boxes_1 q (n + 1) y1_1 p1 = (if (p1 36 0) ≤ y1_1 then p1 else (lX7_boxes_1 q n (y1_1 + 1) (fX7_boxes_j2 q y1_1 p1))) := rfl
def fX7_boxes (q : wSt) : wSt := (lX7_boxes_1 q ((((q 36) 0).toInt - (0 : Int32).toInt).toNat + 1) 0 q)
set_option maxRecDepth 20000 in
theorem frX7_boxes_j2 (q : wSt) (y1_1 : Int32) (p1 : wSt) (k : Nat) (hk : k ≠ 6 ∧ k ≠ 10 ∧ k ≠ 12 ∧ k ≠ 13) : (fX7_boxes_j2 q y1_1 p1) k = p1 k := by
  obtain ⟨h6, h10, h12, h13⟩ := hk
  unfold fX7_boxes_j2
  (repeat' split) <;> simp [rset, h6, h10, h12, h13]
set_option maxRecDepth 20000 in
theorem frlX7_boxes_1 (q : wSt) (n : Nat) (y1_1 : Int32) (p1 : wSt) (k : Nat) (hk : k ≠ 6 ∧ k ≠ 10 ∧ k ≠ 12 ∧ k ≠ 13) : (lX7_boxes_1 q n y1_1 p1) k = p1 k := by
  have gfX7_boxes_j2 := fun a0 a1 a2 => frX7_boxes_j2 a0 a1 a2 k (by omega)
  obtain ⟨h6, h10, h12, h13⟩ := hk
  induction n generalizing y1_1 p1 with
  | zero => rfl
  | succ n ih =>
    rw [lX7_boxes_1_s]
    (repeat' split) <;> simp [rset, h6, h10, h12, h13, gfX7_boxes_j2, ih]
set_option maxRecDepth 20000 in
theorem frX7_boxes (q : wSt) (k : Nat) (hk : k ≠ 6 ∧ k ≠ 10 ∧ k ≠ 12 ∧ k ≠ 13) : (fX7_boxes q) k = q k := by
  have gfX7_boxes_j2 := fun a0 a1 a2 => frX7_boxes_j2 a0 a1 a2 k (by omega)
  have glX7_boxes_1 := fun a0 a1 a2 a3 => frlX7_boxes_1 a0 a1 a2 a3 k (by omega)
  obtain ⟨h6, h10, h12, h13⟩ := hk
  unfold fX7_boxes
  (repeat' split) <;> simp [rset, h6, h10, h12, h13, gfX7_boxes_j2, glX7_boxes_1]
theorem iIX7_boxes (q : wSt) (h : iI q) : iI (fX7_boxes q) := iI_fr (fun k hk => frX7_boxes q k (by omega)) h
def lX7_shelved_1 (q : wSt) (x1 : Int32) (x2 : Int32) : Nat → Int32 → Int32
  | 0, _ => (-1)
  | n + 1, y3_1 => (if (q 36 0) ≤ y3_1 then (-1) else (if (q 7 (y3_1).toNatClampNeg) = x1 then (if (q 8 (y3_1).toNatClampNeg) = x2 then (if (q 6 (y3_1).toNatClampNeg) = 0 then y3_1 else (lX7_shelved_1 q x1 x2 n (y3_1 + 1))) else (lX7_shelved_1 q x1 x2 n (y3_1 + 1))) else (lX7_shelved_1 q x1 x2 n (y3_1 + 1))))
theorem lX7_shelved_1_s (q : wSt) (x1 : Int32) (x2 : Int32) (n : Nat) (y3_1 : Int32) : lX7_shelved_1 q x1 x2 (n + 1) y3_1 = (if (q 36 0) ≤ y3_1 then (-1) else (if (q 7 (y3_1).toNatClampNeg) = x1 then (if (q 8 (y3_1).toNatClampNeg) = x2 then (if (q 6 (y3_1).toNatClampNeg) = 0 then y3_1 else (lX7_shelved_1 q x1 x2 n (y3_1 + 1))) else (lX7_shelved_1 q x1 x2 n (y3_1 + 1))) else (lX7_shelved_1 q x1 x2 n (y3_1 + 1)))) := rfl
def fX7_shelved (q : wSt) (x1 : Int32) (x2 : Int32) : Int32 := (lX7_shelved_1 q x1 x2 (((q 36 0).toInt - (0 : Int32).toInt).toNat + 1) 0)
def fX7_canHave (q : wSt) (x1 : Int32) : Int32 := (if (fX7_waits q x1) = 0 then 0 else (if (q 18 (q 22 (x1).toNatClampNeg).toNatClampNeg) < (q 30 0) then 0 else (if (fX7_shelved q (q 23 (x1).toNatClampNeg) (q 25 (x1).toNatClampNeg)) = (-1) then 0 else (if (fX7_most q (q 22 (x1).toNatClampNeg)) ≤ (((fX7_holds q (q 22 (x1).toNatClampNeg) 1) + (fX7_holds q (q 22 (x1).toNatClampNeg) 2)) + (fX7_holds q (q 22 (x1).toNatClampNeg) 3)) then 0 else 1))))
def fX7_gets_j1 (q : wSt) (x1 : Int32) : Int32 := (if (q 17 (q 22 (x1).toNatClampNeg).toNatClampNeg) ≤ 0 then 1 else 2)
def fX7_gets_j2 (q : wSt) (x1 : Int32) : Int32 := (if (q 17 (q 22 (x1).toNatClampNeg).toNatClampNeg) ≤ 0 then (q 30 0) else (-1))
def fX7_gets (q : wSt) (x1 : Int32) : wSt := (rset (rset (rset (rset (rset (rset q 10 (upd (q 10) (fX7_shelved q (q 23 (x1).toNatClampNeg) (q 25 (x1).toNatClampNeg)).toNatClampNeg (q 22 (x1).toNatClampNeg))) 11 (upd (q 11) (fX7_shelved q (q 23 (x1).toNatClampNeg) (q 25 (x1).toNatClampNeg)).toNatClampNeg x1)) 14 (upd (q 14) (fX7_shelved q (q 23 (x1).toNatClampNeg) (q 25 (x1).toNatClampNeg)).toNatClampNeg ((q 14 (fX7_shelved q (q 23 (x1).toNatClampNeg) (q 25 (x1).toNatClampNeg)).toNatClampNeg) + 1))) 13 (upd (q 13) (fX7_shelved q (q 23 (x1).toNatClampNeg) (q 25 (x1).toNatClampNeg)).toNatClampNeg (q 17 (q 22 (x1).toNatClampNeg).toNatClampNeg))) 6 (upd (q 6) (fX7_shelved q (q 23 (x1).toNatClampNeg) (q 25 (x1).toNatClampNeg)).toNatClampNeg (fX7_gets_j1 q x1))) 12 (upd (q 12) (fX7_shelved q (q 23 (x1).toNatClampNeg) (q 25 (x1).toNatClampNeg)).toNatClampNeg (fX7_gets_j2 q x1)))
set_option maxRecDepth 20000 in
theorem frX7_gets (q : wSt) (x1 : Int32) (k : Nat) (hk : k ≠ 6 ∧ k ≠ 10 ∧ k ≠ 11 ∧ k ≠ 12 ∧ k ≠ 13 ∧ k ≠ 14) : (fX7_gets q x1) k = q k := by
  obtain ⟨h6, h10, h11, h12, h13, h14⟩ := hk
  unfold fX7_gets
  (repeat' split) <;> simp [rset, h6, h10, h11, h12, h13, h14]
theorem iIX7_gets (q : wSt) (x1 : Int32) (h : iI q) : iI (fX7_gets q x1) := iI_fr (fun k hk => frX7_gets q x1 k (by omega)) h
def fX7_turns_j3 (q : wSt) (y1_1 : Int32) (p1 : wSt) (y1_2 : Int32) (y2_2 : Int32) : Int32 := (if (fX7_canHave p1 y2_2) = 0 then y1_2 else (if y1_2 = (-1) then y2_2 else (if (p1 16 (p1 22 (y1_2).toNatClampNeg).toNatClampNeg) < (p1 16 (p1 22 (y2_2).toNatClampNeg).toNatClampNeg) then y2_2 else (if (p1 16 (p1 22 (y2_2).toNatClampNeg).toNatClampNeg) = (p1 16 (p1 22 (y1_2).toNatClampNeg).toNatClampNeg) then (if (p1 27 (y1_2).toNatClampNeg) ≤ (p1 27 (y2_2).toNatClampNeg) then y1_2 else y2_2) else y1_2))))
def lX7_turns_2 (q : wSt) (y1_1 : Int32) (p1 : wSt) : Nat → Int32 → Int32 → Int32
  | 0, _, _ => (-1)
  | n + 1, y1_2, y2_2 => (if (p1 40 0) ≤ y2_2 then y1_2 else (lX7_turns_2 q y1_1 p1 n (fX7_turns_j3 q y1_1 p1 y1_2 y2_2) (y2_2 + 1)))
theorem lX7_turns_2_s (q : wSt) (y1_1 : Int32) (p1 : wSt) (n : Nat) (y1_2 : Int32) (y2_2 : Int32) : lX7_turns_2 q y1_1 p1 (n + 1) y1_2 y2_2 = (if (p1 40 0) ≤ y2_2 then y1_2 else (lX7_turns_2 q y1_1 p1 n (fX7_turns_j3 q y1_1 p1 y1_2 y2_2) (y2_2 + 1))) := rfl
def lX7_turns_1 (q : wSt) : Nat → Int32 → wSt → wSt
  | 0, _, p1 => p1
  | n + 1, y1_1, p1 => (if y1_1 = (-1) then p1 else (if (lX7_turns_2 q y1_1 p1 (((p1 40 0).toInt - (0 : Int32).toInt).toNat + 1) (-1) 0) = (-1) then (lX7_turns_1 q n (lX7_turns_2 q y1_1 p1 (((p1 40 0).toInt - (0 : Int32).toInt).toNat + 1) (-1) 0) p1) else (lX7_turns_1 q n (lX7_turns_2 q y1_1 p1 (((p1 40 0).toInt - (0 : Int32).toInt).toNat + 1) (-1) 0) (fX7_gets p1 (lX7_turns_2 q y1_1 p1 (((p1 40 0).toInt - (0 : Int32).toInt).toNat + 1) (-1) 0)))))
theorem lX7_turns_1_s (q : wSt) (n : Nat) (y1_1 : Int32) (p1 : wSt) : lX7_turns_1 q (n + 1) y1_1 p1 = (if y1_1 = (-1) then p1 else (if (lX7_turns_2 q y1_1 p1 (((p1 40 0).toInt - (0 : Int32).toInt).toNat + 1) (-1) 0) = (-1) then (lX7_turns_1 q n (lX7_turns_2 q y1_1 p1 (((p1 40 0).toInt - (0 : Int32).toInt).toNat + 1) (-1) 0) p1) else (lX7_turns_1 q n (lX7_turns_2 q y1_1 p1 (((p1 40 0).toInt - (0 : Int32).toInt).toNat + 1) (-1) 0) (fX7_gets p1 (lX7_turns_2 q y1_1 p1 (((p1 40 0).toInt - (0 : Int32).toInt).toNat + 1) (-1) 0))))) := rfl
def fX7_turns (q : wSt) : wSt := (lX7_turns_1 q (2 * shN q + 2) 0 q)
set_option maxRecDepth 20000 in
theorem frlX7_turns_1 (q : wSt) (n : Nat) (y1_1 : Int32) (p1 : wSt) (k : Nat) (hk : k ≠ 6 ∧ k ≠ 10 ∧ k ≠ 11 ∧ k ≠ 12 ∧ k ≠ 13 ∧ k ≠ 14) : (lX7_turns_1 q n y1_1 p1) k = p1 k := by
  have gX7_gets := fun a b0 => frX7_gets a b0 k (by omega)
  obtain ⟨h6, h10, h11, h12, h13, h14⟩ := hk
  induction n generalizing y1_1 p1 with
  | zero => rfl
  | succ n ih =>
    rw [lX7_turns_1_s]
    (repeat' split) <;> simp [rset, h6, h10, h11, h12, h13, h14, gX7_gets, ih]
set_option maxRecDepth 20000 in
theorem frX7_turns (q : wSt) (k : Nat) (hk : k ≠ 6 ∧ k ≠ 10 ∧ k ≠ 11 ∧ k ≠ 12 ∧ k ≠ 13 ∧ k ≠ 14) : (fX7_turns q) k = q k := by
  have gX7_gets := fun a b0 => frX7_gets a b0 k (by omega)
  have glX7_turns_1 := fun a0 a1 a2 a3 => frlX7_turns_1 a0 a1 a2 a3 k (by omega)
  obtain ⟨h6, h10, h11, h12, h13, h14⟩ := hk
  unfold fX7_turns
  (repeat' split) <;> simp [rset, h6, h10, h11, h12, h13, h14, gX7_gets, glX7_turns_1]
theorem iIX7_turns (q : wSt) (h : iI q) : iI (fX7_turns q) := iI_fr (fun k hk => frX7_turns q k (by omega)) h
def lX7_go_1 (q : wSt) (x1 : Int32) : Nat → Int32 → wSt → wSt
  | 0, _, p1 => p1
  | n + 1, y2_1, p1 => (if x1 ≤ y2_1 then p1 else (if 5000 ≤ (p1 30 0) then p1 else (lX7_go_1 q x1 n (y2_1 + 1) (rset (fX7_turns (fX7_boxes p1)) 30 (fun _ => (((fX7_turns (fX7_boxes p1)) 30 0) + 1))))))
theorem lX7_go_1_s (q : wSt) (x1 : Int32) (n : Nat) (y2_1 : Int32) (p1 : wSt) : lX7_go_1 q x1 (n + 1) y2_1 p1 = (if x1 ≤ y2_1 then p1 else (if 5000 ≤ (p1 30 0) then p1 else (lX7_go_1 q x1 n (y2_1 + 1) (rset (fX7_turns (fX7_boxes p1)) 30 (fun _ => (((fX7_turns (fX7_boxes p1)) 30 0) + 1)))))) := rfl
def fX7_go (q : wSt) (x1 : Int32) : Int32 × wSt := (if (fX7_in q x1 0 100) = 0 then ((-1), q) else (((lX7_go_1 q x1 (((x1).toInt - (0 : Int32).toInt).toNat + 1) 0 q) 30 0), (lX7_go_1 q x1 (((x1).toInt - (0 : Int32).toInt).toNat + 1) 0 q)))
set_option maxRecDepth 20000 in
theorem frlX7_go_1 (q : wSt) (x1 : Int32) (n : Nat) (y2_1 : Int32) (p1 : wSt) (k : Nat) (hk : k ≠ 6 ∧ k ≠ 10 ∧ k ≠ 11 ∧ k ≠ 12 ∧ k ≠ 13 ∧ k ≠ 14 ∧ k ≠ 30) : (lX7_go_1 q x1 n y2_1 p1) k = p1 k := by
  have gX7_boxes := fun a => frX7_boxes a  k (by omega)
  have gX7_turns := fun a => frX7_turns a  k (by omega)
  obtain ⟨h6, h10, h11, h12, h13, h14, h30⟩ := hk
  induction n generalizing y2_1 p1 with
  | zero => rfl
  | succ n ih =>
    rw [lX7_go_1_s]
    (repeat' split) <;> simp [rset, h6, h10, h11, h12, h13, h14, h30, gX7_boxes, gX7_turns, ih]
set_option maxRecDepth 20000 in
theorem frX7_go (q : wSt) (x1 : Int32) (k : Nat) (hk : k ≠ 6 ∧ k ≠ 10 ∧ k ≠ 11 ∧ k ≠ 12 ∧ k ≠ 13 ∧ k ≠ 14 ∧ k ≠ 30) : (fX7_go q x1).2 k = q k := by
  have gX7_boxes := fun a => frX7_boxes a  k (by omega)
  have gX7_turns := fun a => frX7_turns a  k (by omega)
  have glX7_go_1 := fun a0 a1 a2 a3 a4 => frlX7_go_1 a0 a1 a2 a3 a4 k (by omega)
  obtain ⟨h6, h10, h11, h12, h13, h14, h30⟩ := hk
  unfold fX7_go
  (repeat' split) <;> simp [rset, h6, h10, h11, h12, h13, h14, h30, gX7_boxes, gX7_turns, glX7_go_1]
theorem iIX7_go (q : wSt) (x1 : Int32) (h : iI q) : iI (fX7_go q x1).2 := iI_fr (fun k hk => frX7_go q x1 k (by omega)) h
def fX7_had (q : wSt) (x1 : Int32) : wSt := (if (q 11 (x1).toNatClampNeg) = (-1) then (rset q 11 (upd (q 11) (x1).toNatClampNeg (-1))) else (if (q 24 (q 11 (x1).toNatClampNeg).toNatClampNeg) = 0 then (if ((upd (q 25) (q 11 (x1).toNatClampNeg).toNatClampNeg ((q 25 (q 11 (x1).toNatClampNeg).toNatClampNeg) + 1)) (q 11 (x1).toNatClampNeg).toNatClampNeg) = (q 0 (q 23 (q 11 (x1).toNatClampNeg).toNatClampNeg).toNatClampNeg) then (rset (rset (rset (rset q 11 (upd (q 11) (x1).toNatClampNeg (-1))) 25 (upd (q 25) (q 11 (x1).toNatClampNeg).toNatClampNeg ((q 25 (q 11 (x1).toNatClampNeg).toNatClampNeg) + 1))) 27 (upd (q 27) (q 11 (x1).toNatClampNeg).toNatClampNeg (q 30 0))) 24 (upd (q 24) (q 11 (x1).toNatClampNeg).toNatClampNeg 1)) else (rset (rset (rset q 11 (upd (q 11) (x1).toNatClampNeg (-1))) 25 (upd (q 25) (q 11 (x1).toNatClampNeg).toNatClampNeg ((q 25 (q 11 (x1).toNatClampNeg).toNatClampNeg) + 1))) 27 (upd (q 27) (q 11 (x1).toNatClampNeg).toNatClampNeg (q 30 0)))) else (rset (rset (rset q 11 (upd (q 11) (x1).toNatClampNeg (-1))) 25 (upd (q 25) (q 11 (x1).toNatClampNeg).toNatClampNeg ((q 25 (q 11 (x1).toNatClampNeg).toNatClampNeg) + 1))) 27 (upd (q 27) (q 11 (x1).toNatClampNeg).toNatClampNeg (q 30 0)))))
set_option maxRecDepth 20000 in
theorem frX7_had (q : wSt) (x1 : Int32) (k : Nat) (hk : k ≠ 11 ∧ k ≠ 24 ∧ k ≠ 25 ∧ k ≠ 27) : (fX7_had q x1) k = q k := by
  obtain ⟨h11, h24, h25, h27⟩ := hk
  unfold fX7_had
  (repeat' split) <;> simp [rset, h11, h24, h25, h27]
theorem iIX7_had (q : wSt) (x1 : Int32) (h : iI q) : iI (fX7_had q x1) := iI_fr (fun k hk => frX7_had q x1 k (by omega)) h
def fX7_late (q : wSt) (x1 : Int32) : Int32 := (if (((q 30 0) - (q 12 (x1).toNatClampNeg)) - (fX7_term q (q 16 (q 10 (x1).toNatClampNeg).toNatClampNeg))) ≤ 0 then 0 else ((((q 30 0) - (q 12 (x1).toNatClampNeg)) - (fX7_term q (q 16 (q 10 (x1).toNatClampNeg).toNatClampNeg))) * (3 - (q 16 (q 10 (x1).toNatClampNeg).toNatClampNeg))))
def fX7_back_j1 (q : wSt) (x1 : Int32) : Int32 := (if ((fX7_had (rset q 19 (upd (q 19) (q 10 (x1).toNatClampNeg).toNatClampNeg ((q 19 (q 10 (x1).toNatClampNeg).toNatClampNeg) + (fX7_late q x1)))) x1) 17 (q 10 (x1).toNatClampNeg).toNatClampNeg) ≤ 0 then 0 else 3)
def fX7_back_j2 (q : wSt) (x1 : Int32) : wSt := (if ((fX7_had (rset q 19 (upd (q 19) (q 10 (x1).toNatClampNeg).toNatClampNeg ((q 19 (q 10 (x1).toNatClampNeg).toNatClampNeg) + (fX7_late q x1)))) x1) 17 (q 10 (x1).toNatClampNeg).toNatClampNeg) = 0 then (rset (rset (rset (rset (fX7_had (rset q 19 (upd (q 19) (q 10 (x1).toNatClampNeg).toNatClampNeg ((q 19 (q 10 (x1).toNatClampNeg).toNatClampNeg) + (fX7_late q x1)))) x1) 12 (upd ((fX7_had (rset q 19 (upd (q 19) (q 10 (x1).toNatClampNeg).toNatClampNeg ((q 19 (q 10 (x1).toNatClampNeg).toNatClampNeg) + (fX7_late q x1)))) x1) 12) (x1).toNatClampNeg (-1))) 13 (upd ((fX7_had (rset q 19 (upd (q 19) (q 10 (x1).toNatClampNeg).toNatClampNeg ((q 19 (q 10 (x1).toNatClampNeg).toNatClampNeg) + (fX7_late q x1)))) x1) 13) (x1).toNatClampNeg ((fX7_had (rset q 19 (upd (q 19) (q 10 (x1).toNatClampNeg).toNatClampNeg ((q 19 (q 10 (x1).toNatClampNeg).toNatClampNeg) + (fX7_late q x1)))) x1) 17 (q 10 (x1).toNatClampNeg).toNatClampNeg))) 6 (upd ((fX7_had (rset q 19 (upd (q 19) (q 10 (x1).toNatClampNeg).toNatClampNeg ((q 19 (q 10 (x1).toNatClampNeg).toNatClampNeg) + (fX7_late q x1)))) x1) 6) (x1).toNatClampNeg (fX7_back_j1 q x1))) 10 (upd ((fX7_had (rset q 19 (upd (q 19) (q 10 (x1).toNatClampNeg).toNatClampNeg ((q 19 (q 10 (x1).toNatClampNeg).toNatClampNeg) + (fX7_late q x1)))) x1) 10) (x1).toNatClampNeg (-1))) else (rset (rset (rset (fX7_had (rset q 19 (upd (q 19) (q 10 (x1).toNatClampNeg).toNatClampNeg ((q 19 (q 10 (x1).toNatClampNeg).toNatClampNeg) + (fX7_late q x1)))) x1) 12 (upd ((fX7_had (rset q 19 (upd (q 19) (q 10 (x1).toNatClampNeg).toNatClampNeg ((q 19 (q 10 (x1).toNatClampNeg).toNatClampNeg) + (fX7_late q x1)))) x1) 12) (x1).toNatClampNeg (-1))) 13 (upd ((fX7_had (rset q 19 (upd (q 19) (q 10 (x1).toNatClampNeg).toNatClampNeg ((q 19 (q 10 (x1).toNatClampNeg).toNatClampNeg) + (fX7_late q x1)))) x1) 13) (x1).toNatClampNeg ((fX7_had (rset q 19 (upd (q 19) (q 10 (x1).toNatClampNeg).toNatClampNeg ((q 19 (q 10 (x1).toNatClampNeg).toNatClampNeg) + (fX7_late q x1)))) x1) 17 (q 10 (x1).toNatClampNeg).toNatClampNeg))) 6 (upd ((fX7_had (rset q 19 (upd (q 19) (q 10 (x1).toNatClampNeg).toNatClampNeg ((q 19 (q 10 (x1).toNatClampNeg).toNatClampNeg) + (fX7_late q x1)))) x1) 6) (x1).toNatClampNeg (fX7_back_j1 q x1))))
def fX7_back (q : wSt) (x1 : Int32) : Int32 × wSt := (if (fX7_isCopy q x1) = 0 then ((-1), q) else (if (q 6 (x1).toNatClampNeg) = 1 then ((fX7_late q x1), (fX7_back_j2 q x1)) else ((-1), q)))
set_option maxRecDepth 20000 in
theorem frX7_back_j2 (q : wSt) (x1 : Int32) (k : Nat) (hk : k ≠ 6 ∧ k ≠ 10 ∧ k ≠ 11 ∧ k ≠ 12 ∧ k ≠ 13 ∧ k ≠ 19 ∧ k ≠ 24 ∧ k ≠ 25 ∧ k ≠ 27) : (fX7_back_j2 q x1) k = q k := by
  have gX7_had := fun a b0 => frX7_had a b0 k (by omega)
  obtain ⟨h6, h10, h11, h12, h13, h19, h24, h25, h27⟩ := hk
  unfold fX7_back_j2
  (repeat' split) <;> simp [rset, h6, h10, h11, h12, h13, h19, h24, h25, h27, gX7_had]
set_option maxRecDepth 20000 in
theorem frX7_back (q : wSt) (x1 : Int32) (k : Nat) (hk : k ≠ 6 ∧ k ≠ 10 ∧ k ≠ 11 ∧ k ≠ 12 ∧ k ≠ 13 ∧ k ≠ 19 ∧ k ≠ 24 ∧ k ≠ 25 ∧ k ≠ 27) : (fX7_back q x1).2 k = q k := by
  have gX7_had := fun a b0 => frX7_had a b0 k (by omega)
  have gfX7_back_j2 := fun a0 a1 => frX7_back_j2 a0 a1 k (by omega)
  obtain ⟨h6, h10, h11, h12, h13, h19, h24, h25, h27⟩ := hk
  unfold fX7_back
  (repeat' split) <;> simp [rset, h6, h10, h11, h12, h13, h19, h24, h25, h27, gX7_had, gfX7_back_j2]
theorem iIX7_back (q : wSt) (x1 : Int32) (h : iI q) : iI (fX7_back q x1).2 := iI_fr (fun k hk => frX7_back q x1 k (by omega)) h
def fX7_lose_j1 (q : wSt) (x1 : Int32) : Int32 := (if (q 6 (x1).toNatClampNeg) = 1 then (fX7_late q x1) else 0)
def fX7_lose_j2 (q : wSt) (x1 : Int32) : Int32 × wSt := (if (q 6 (x1).toNatClampNeg) = 0 then (0, q) else (((q 9 (x1).toNatClampNeg) + (fX7_lose_j1 q x1)), (fX7_had (rset q 19 (upd (q 19) (q 10 (x1).toNatClampNeg).toNatClampNeg ((q 19 (q 10 (x1).toNatClampNeg).toNatClampNeg) + ((q 9 (x1).toNatClampNeg) + (fX7_lose_j1 q x1))))) x1)))
def fX7_lose (q : wSt) (x1 : Int32) : Int32 × wSt := (if (fX7_isCopy q x1) = 0 then ((-1), q) else (if (q 6 (x1).toNatClampNeg) < 4 then ((fX7_lose_j2 q x1).1, (rset (rset (rset (rset (fX7_lose_j2 q x1).2 6 (upd ((fX7_lose_j2 q x1).2 6) (x1).toNatClampNeg 5)) 10 (upd ((fX7_lose_j2 q x1).2 10) (x1).toNatClampNeg (-1))) 12 (upd ((fX7_lose_j2 q x1).2 12) (x1).toNatClampNeg (-1))) 13 (upd ((fX7_lose_j2 q x1).2 13) (x1).toNatClampNeg 0))) else ((-1), q)))
set_option maxRecDepth 20000 in
theorem frX7_lose_j2 (q : wSt) (x1 : Int32) (k : Nat) (hk : k ≠ 6 ∧ k ≠ 10 ∧ k ≠ 11 ∧ k ≠ 12 ∧ k ≠ 13 ∧ k ≠ 19 ∧ k ≠ 24 ∧ k ≠ 25 ∧ k ≠ 27) : (fX7_lose_j2 q x1).2 k = q k := by
  have gX7_had := fun a b0 => frX7_had a b0 k (by omega)
  obtain ⟨h6, h10, h11, h12, h13, h19, h24, h25, h27⟩ := hk
  unfold fX7_lose_j2
  (repeat' split) <;> simp [rset, h6, h10, h11, h12, h13, h19, h24, h25, h27, gX7_had]
set_option maxRecDepth 20000 in
theorem frX7_lose (q : wSt) (x1 : Int32) (k : Nat) (hk : k ≠ 6 ∧ k ≠ 10 ∧ k ≠ 11 ∧ k ≠ 12 ∧ k ≠ 13 ∧ k ≠ 19 ∧ k ≠ 24 ∧ k ≠ 25 ∧ k ≠ 27) : (fX7_lose q x1).2 k = q k := by
  have gX7_had := fun a b0 => frX7_had a b0 k (by omega)
  have gfX7_lose_j2 := fun a0 a1 => frX7_lose_j2 a0 a1 k (by omega)
  obtain ⟨h6, h10, h11, h12, h13, h19, h24, h25, h27⟩ := hk
  unfold fX7_lose
  (repeat' split) <;> simp [rset, h6, h10, h11, h12, h13, h19, h24, h25, h27, gX7_had, gfX7_lose_j2]
theorem iIX7_lose (q : wSt) (x1 : Int32) (h : iI q) : iI (fX7_lose q x1).2 := iI_fr (fun k hk => frX7_lose q x1 k (by omega)) h
def fX7_pay (q : wSt) (x1 : Int32) (x2 : Int32) : Int32 × wSt := (if (fX7_isReader q x1) = 0 then ((-1), q) else (if (fX7_in q x2 1 (q 19 (x1).toNatClampNeg)) = 0 then ((-1), q) else (((upd (q 19) (x1).toNatClampNeg ((q 19 (x1).toNatClampNeg) - x2)) (x1).toNatClampNeg), (rset (rset q 19 (upd (q 19) (x1).toNatClampNeg ((q 19 (x1).toNatClampNeg) - x2))) 33 (fun _ => ((q 33 0) + x2))))))
set_option maxRecDepth 20000 in
theorem frX7_pay (q : wSt) (x1 : Int32) (x2 : Int32) (k : Nat) (hk : k ≠ 19 ∧ k ≠ 33) : (fX7_pay q x1 x2).2 k = q k := by
  obtain ⟨h19, h33⟩ := hk
  unfold fX7_pay
  (repeat' split) <;> simp [rset, h19, h33]
theorem iIX7_pay (q : wSt) (x1 : Int32) (x2 : Int32) (h : iI q) : iI (fX7_pay q x1 x2).2 := iI_fr (fun k hk => frX7_pay q x1 x2 k (by omega)) h
def fX7_copy (q : wSt) (x1 : Int32) (x2 : Int32) : Int32 := (if (fX7_isCopy q x1) = 0 then (-1) else (if x2 = 0 then (q 6 (x1).toNatClampNeg) else (if x2 = 1 then (q 7 (x1).toNatClampNeg) else (if x2 = 2 then (q 8 (x1).toNatClampNeg) else (if x2 = 3 then (q 9 (x1).toNatClampNeg) else (if x2 = 4 then (q 10 (x1).toNatClampNeg) else (if x2 = 5 then (q 12 (x1).toNatClampNeg) else (if x2 = 6 then (if (q 6 (x1).toNatClampNeg) = 2 then (q 13 (x1).toNatClampNeg) else (if (q 6 (x1).toNatClampNeg) = 3 then (q 13 (x1).toNatClampNeg) else 0)) else (if x2 = 7 then (q 14 (x1).toNatClampNeg) else (-1))))))))))
def fX7_told_j2 (q : wSt) (x1 : Int32) (x2 : Int32) (y3_1 : Int32) (y4_1 : Int32) : Int32 := (if (q 22 (y4_1).toNatClampNeg) = x1 then (if (q 24 (y4_1).toNatClampNeg) = 0 then 1 else 0) else 0)
def lX7_told_1 (q : wSt) (x1 : Int32) (x2 : Int32) : Nat → Int32 → Int32 → Int32
  | 0, _, _ => (-1)
  | n + 1, y3_1, y4_1 => (if (q 40 0) ≤ y4_1 then y3_1 else (lX7_told_1 q x1 x2 n (y3_1 + (fX7_told_j2 q x1 x2 y3_1 y4_1)) (y4_1 + 1)))
theorem lX7_told_1_s (q : wSt) (x1 : Int32) (x2 : Int32) (n : Nat) (y3_1 : Int32) (y4_1 : Int32) : lX7_told_1 q x1 x2 (n + 1) y3_1 y4_1 = (if (q 40 0) ≤ y4_1 then y3_1 else (lX7_told_1 q x1 x2 n (y3_1 + (fX7_told_j2 q x1 x2 y3_1 y4_1)) (y4_1 + 1))) := rfl
def fX7_told (q : wSt) (x1 : Int32) (x2 : Int32) : Int32 := (if (fX7_isReader q x1) = 0 then (-1) else (if x2 = 0 then (q 16 (x1).toNatClampNeg) else (if x2 = 1 then (fX7_holds q x1 1) else (if x2 = 2 then ((fX7_holds q x1 2) + (fX7_holds q x1 3)) else (if x2 = 3 then (q 19 (x1).toNatClampNeg) else (if x2 = 4 then (lX7_told_1 q x1 x2 (((q 40 0).toInt - (0 : Int32).toInt).toNat + 1) 0 0) else (if x2 = 5 then (q 18 (x1).toNatClampNeg) else (-1))))))))
def fX7_wished (q : wSt) (x1 : Int32) (x2 : Int32) : Int32 := (if (fX7_isWish q x1) = 0 then (-1) else (if x2 = 0 then (q 24 (x1).toNatClampNeg) else (if x2 = 1 then (q 25 (x1).toNatClampNeg) else (if x2 = 2 then (fX7_copyOf q x1) else (if x2 = 3 then (if (fX7_waits q x1) = 0 then (-1) else (q 27 (x1).toNatClampNeg)) else (-1))))))
def fX7_waiting_j2 (q : wSt) (x1 : Int32) (x2 : Int32) (y3_1 : Int32) (y4_1 : Int32) : Int32 := (if (q 23 (y4_1).toNatClampNeg) = x1 then (if (q 25 (y4_1).toNatClampNeg) = x2 then (if (fX7_waits q y4_1) = 0 then 0 else 1) else 0) else 0)
def lX7_waiting_1 (q : wSt) (x1 : Int32) (x2 : Int32) : Nat → Int32 → Int32 → Int32
  | 0, _, _ => (-1)
  | n + 1, y3_1, y4_1 => (if (q 40 0) ≤ y4_1 then y3_1 else (lX7_waiting_1 q x1 x2 n (y3_1 + (fX7_waiting_j2 q x1 x2 y3_1 y4_1)) (y4_1 + 1)))
theorem lX7_waiting_1_s (q : wSt) (x1 : Int32) (x2 : Int32) (n : Nat) (y3_1 : Int32) (y4_1 : Int32) : lX7_waiting_1 q x1 x2 (n + 1) y3_1 y4_1 = (if (q 40 0) ≤ y4_1 then y3_1 else (lX7_waiting_1 q x1 x2 n (y3_1 + (fX7_waiting_j2 q x1 x2 y3_1 y4_1)) (y4_1 + 1))) := rfl
def fX7_waiting (q : wSt) (x1 : Int32) (x2 : Int32) : Int32 := (if (fX7_isTitle q x1) = 0 then (-1) else (if (fX7_in q x2 0 ((q 0 (x1).toNatClampNeg) - 1)) = 0 then (-1) else (lX7_waiting_1 q x1 x2 (((q 40 0).toInt - (0 : Int32).toInt).toNat + 1) 0 0)))
def fX7_sets_j3 (q : wSt) (x1 : Int32) (y2_1 : Int32) (y3_1 : Int32) (y4_2 : Int32) (y5_2 : Int32) : Int32 := (if (q 7 (y5_2).toNatClampNeg) = x1 then (if (q 8 (y5_2).toNatClampNeg) = y3_1 then (if 4 ≤ (q 6 (y5_2).toNatClampNeg) then 0 else 1) else 0) else 0)
def lX7_sets_2 (q : wSt) (x1 : Int32) (y2_1 : Int32) (y3_1 : Int32) : Nat → Int32 → Int32 → Int32
  | 0, _, _ => (-1)
  | n + 1, y4_2, y5_2 => (if (q 36 0) ≤ y5_2 then y4_2 else (lX7_sets_2 q x1 y2_1 y3_1 n (y4_2 + (fX7_sets_j3 q x1 y2_1 y3_1 y4_2 y5_2)) (y5_2 + 1)))
theorem lX7_sets_2_s (q : wSt) (x1 : Int32) (y2_1 : Int32) (y3_1 : Int32) (n : Nat) (y4_2 : Int32) (y5_2 : Int32) : lX7_sets_2 q x1 y2_1 y3_1 (n + 1) y4_2 y5_2 = (if (q 36 0) ≤ y5_2 then y4_2 else (lX7_sets_2 q x1 y2_1 y3_1 n (y4_2 + (fX7_sets_j3 q x1 y2_1 y3_1 y4_2 y5_2)) (y5_2 + 1))) := rfl
def fX7_sets_j4 (q : wSt) (x1 : Int32) (y2_1 : Int32) (y3_1 : Int32) : Int32 := (if y2_1 ≤ (lX7_sets_2 q x1 y2_1 y3_1 (((q 36 0).toInt - (0 : Int32).toInt).toNat + 1) 0 0) then y2_1 else (lX7_sets_2 q x1 y2_1 y3_1 (((q 36 0).toInt - (0 : Int32).toInt).toNat + 1) 0 0))
def lX7_sets_1 (q : wSt) (x1 : Int32) : Nat → Int32 → Int32 → Int32
  | 0, _, _ => (-1)
  | n + 1, y2_1, y3_1 => (if (q 0 (x1).toNatClampNeg) ≤ y3_1 then y2_1 else (lX7_sets_1 q x1 n (fX7_sets_j4 q x1 y2_1 y3_1) (y3_1 + 1)))
theorem lX7_sets_1_s (q : wSt) (x1 : Int32) (n : Nat) (y2_1 : Int32) (y3_1 : Int32) : lX7_sets_1 q x1 (n + 1) y2_1 y3_1 = (if (q 0 (x1).toNatClampNeg) ≤ y3_1 then y2_1 else (lX7_sets_1 q x1 n (fX7_sets_j4 q x1 y2_1 y3_1) (y3_1 + 1))) := rfl
def fX7_sets (q : wSt) (x1 : Int32) : Int32 := (if (fX7_isTitle q x1) = 0 then (-1) else (lX7_sets_1 q x1 (((q 0 (x1).toNatClampNeg).toInt - (0 : Int32).toInt).toNat + 1) 200 0))
def fX7_demand_j1 (q : wSt) (x1 : Int32) (x2 : Int32) (x3 : Int32) : Int32 := (if x1 = 20 then 0 else 50)
def fX7_demand (q : wSt) (x1 : Int32) (x2 : Int32) (x3 : Int32) : Int32 × wSt := (if (fX7_in q x1 0 20) = 0 then (0, q) else (if (fX7_in q x2 0 (fX7_demand_j1 q x1 x2 x3)) = 0 then (0, q) else (if (fX7_in q x3 0 1000) = 0 then (0, q) else (1, (rset (rset q 28 (upd (q 28) (x1).toNatClampNeg x2)) 29 (upd (q 29) (x1).toNatClampNeg x3))))))
set_option maxRecDepth 20000 in
theorem frX7_demand (q : wSt) (x1 : Int32) (x2 : Int32) (x3 : Int32) (k : Nat) (hk : k ≠ 28 ∧ k ≠ 29) : (fX7_demand q x1 x2 x3).2 k = q k := by
  obtain ⟨h28, h29⟩ := hk
  unfold fX7_demand
  (repeat' split) <;> simp [rset, h28, h29]
theorem iIX7_demand (q : wSt) (x1 : Int32) (x2 : Int32) (x3 : Int32) (h : iI q) : iI (fX7_demand q x1 x2 x3).2 := iI_fr (fun k hk => frX7_demand q x1 x2 x3 k (by omega)) h
def fX7_brings_j2 (q : wSt) (x1 : Int32) (x2 : Int32) (x3 : Int32) (y4_1 : Int32) (y5_1 : Int32) : Int32 := (if (q 28 (y5_1).toNatClampNeg) ≤ x2 then 0 else x1)
def lX7_brings_1 (q : wSt) (x1 : Int32) (x2 : Int32) (x3 : Int32) : Nat → Int32 → Int32 → Int32
  | 0, _, _ => (-1)
  | n + 1, y4_1, y5_1 => (if x3 ≤ y5_1 then y4_1 else (lX7_brings_1 q x1 x2 x3 n (y4_1 + (fX7_brings_j2 q x1 x2 x3 y4_1 y5_1)) (y5_1 + 1)))
theorem lX7_brings_1_s (q : wSt) (x1 : Int32) (x2 : Int32) (x3 : Int32) (n : Nat) (y4_1 : Int32) (y5_1 : Int32) : lX7_brings_1 q x1 x2 x3 (n + 1) y4_1 y5_1 = (if x3 ≤ y5_1 then y4_1 else (lX7_brings_1 q x1 x2 x3 n (y4_1 + (fX7_brings_j2 q x1 x2 x3 y4_1 y5_1)) (y5_1 + 1))) := rfl
def fX7_brings (q : wSt) (x1 : Int32) (x2 : Int32) (x3 : Int32) : Int32 := (lX7_brings_1 q x1 x2 x3 (((x3).toInt - (0 : Int32).toInt).toNat + 1) (q 29 (x3).toNatClampNeg) 0)
def fX7_weeksOf_j2 (q : wSt) (x1 : Int32) (x2 : Int32) (y3_1 : Int32) (y4_1 : Int32) : Int32 := (if (fX7_brings q x1 x2 y4_1) ≤ (fX7_brings q x1 x2 y3_1) then y3_1 else y4_1)
def lX7_weeksOf_1 (q : wSt) (x1 : Int32) (x2 : Int32) : Nat → Int32 → Int32 → Int32
  | 0, _, _ => (-1)
  | n + 1, y3_1, y4_1 => (if 20 < y4_1 then y3_1 else (lX7_weeksOf_1 q x1 x2 n (fX7_weeksOf_j2 q x1 x2 y3_1 y4_1) (y4_1 + 1)))
theorem lX7_weeksOf_1_s (q : wSt) (x1 : Int32) (x2 : Int32) (n : Nat) (y3_1 : Int32) (y4_1 : Int32) : lX7_weeksOf_1 q x1 x2 (n + 1) y3_1 y4_1 = (if 20 < y4_1 then y3_1 else (lX7_weeksOf_1 q x1 x2 n (fX7_weeksOf_j2 q x1 x2 y3_1 y4_1) (y4_1 + 1))) := rfl
def fX7_weeksOf (q : wSt) (x1 : Int32) (x2 : Int32) : Int32 := (lX7_weeksOf_1 q x1 x2 (((20 : Int32).toInt + 1 - (1 : Int32).toInt).toNat + 1) 0 1)
def fX7_isAny (q : wSt) (x0 : Int32) (x1 : Int32) : Int32 := (if (fX7_in q x0 0 1000) = 0 then 0 else (if (fX7_in q x1 0 1000) = 0 then 0 else 1))
def fX7_best_j2 (q : wSt) (x1 : Int32) (x2 : Int32) (y3_1 : Int32) (y4_1 : Int32) (y5_1 : Int32) (y6_1 : Int32) : Int32 × Int32 := (if y4_1 < (y5_1 + ((fX7_brings q x1 y6_1 (fX7_weeksOf q x1 y6_1)) - x2)) then ((y6_1 + 1), (y5_1 + ((fX7_brings q x1 y6_1 (fX7_weeksOf q x1 y6_1)) - x2))) else (y3_1, y4_1))
def lX7_best_1 (q : wSt) (x1 : Int32) (x2 : Int32) : Nat → Int32 → Int32 → Int32 → Int32 → Int32
  | 0, _, _, _, _ => (-1)
  | n + 1, y3_1, y4_1, y5_1, y6_1 => (if 50 ≤ y6_1 then y3_1 else (lX7_best_1 q x1 x2 n (fX7_best_j2 q x1 x2 y3_1 y4_1 y5_1 y6_1).1 (fX7_best_j2 q x1 x2 y3_1 y4_1 y5_1 y6_1).2 (y5_1 + ((fX7_brings q x1 y6_1 (fX7_weeksOf q x1 y6_1)) - x2)) (y6_1 + 1)))
theorem lX7_best_1_s (q : wSt) (x1 : Int32) (x2 : Int32) (n : Nat) (y3_1 : Int32) (y4_1 : Int32) (y5_1 : Int32) (y6_1 : Int32) : lX7_best_1 q x1 x2 (n + 1) y3_1 y4_1 y5_1 y6_1 = (if 50 ≤ y6_1 then y3_1 else (lX7_best_1 q x1 x2 n (fX7_best_j2 q x1 x2 y3_1 y4_1 y5_1 y6_1).1 (fX7_best_j2 q x1 x2 y3_1 y4_1 y5_1 y6_1).2 (y5_1 + ((fX7_brings q x1 y6_1 (fX7_weeksOf q x1 y6_1)) - x2)) (y6_1 + 1))) := rfl
def fX7_best (q : wSt) (x1 : Int32) (x2 : Int32) : Int32 := (if (fX7_isAny q x1 x2) = 0 then (-1) else (lX7_best_1 q x1 x2 (((50 : Int32).toInt - (0 : Int32).toInt).toNat + 1) 0 0 0 0))
def lX7_gain_1 (q : wSt) (x1 : Int32) (x2 : Int32) : Nat → Int32 → Int32 → Int32
  | 0, _, _ => (-1)
  | n + 1, y3_1, y4_1 => (if (fX7_best q x1 x2) ≤ y4_1 then y3_1 else (lX7_gain_1 q x1 x2 n (y3_1 + ((fX7_brings q x1 y4_1 (fX7_weeksOf q x1 y4_1)) - x2)) (y4_1 + 1)))
theorem lX7_gain_1_s (q : wSt) (x1 : Int32) (x2 : Int32) (n : Nat) (y3_1 : Int32) (y4_1 : Int32) : lX7_gain_1 q x1 x2 (n + 1) y3_1 y4_1 = (if (fX7_best q x1 x2) ≤ y4_1 then y3_1 else (lX7_gain_1 q x1 x2 n (y3_1 + ((fX7_brings q x1 y4_1 (fX7_weeksOf q x1 y4_1)) - x2)) (y4_1 + 1))) := rfl
def fX7_gain (q : wSt) (x1 : Int32) (x2 : Int32) : Int32 := (if (fX7_isAny q x1 x2) = 0 then (-1) else (lX7_gain_1 q x1 x2 (((fX7_best q x1 x2).toInt - (0 : Int32).toInt).toNat + 1) 0 0))
def fX7_kept (q : wSt) (x1 : Int32) (x2 : Int32) (x3 : Int32) : Int32 := (if (fX7_isAny q x1 x2) = 0 then (-1) else (if (fX7_in q x3 0 ((fX7_best q x1 x2) - 1)) = 0 then (-1) else (fX7_weeksOf q x1 x3)))
def fX7_count_j2 (q : wSt) (x1 : Int32) (y2_1 : Int32) (y3_1 : Int32) : Int32 := (if (q 6 (y3_1).toNatClampNeg) = 5 then 1 else 0)
def lX7_count_1 (q : wSt) (x1 : Int32) : Nat → Int32 → Int32 → Int32
  | 0, _, _ => (-1)
  | n + 1, y2_1, y3_1 => (if (q 36 0) ≤ y3_1 then y2_1 else (lX7_count_1 q x1 n (y2_1 + (fX7_count_j2 q x1 y2_1 y3_1)) (y3_1 + 1)))
theorem lX7_count_1_s (q : wSt) (x1 : Int32) (n : Nat) (y2_1 : Int32) (y3_1 : Int32) : lX7_count_1 q x1 (n + 1) y2_1 y3_1 = (if (q 36 0) ≤ y3_1 then y2_1 else (lX7_count_1 q x1 n (y2_1 + (fX7_count_j2 q x1 y2_1 y3_1)) (y3_1 + 1))) := rfl
def fX7_count (q : wSt) (x1 : Int32) : Int32 := (if x1 = 0 then (q 30 0) else (if x1 = 1 then (q 34 0) else (if x1 = 2 then (q 36 0) else (if x1 = 3 then (q 39 0) else (if x1 = 4 then (q 40 0) else (if x1 = 5 then (q 31 0) else (if x1 = 6 then (q 32 0) else (if x1 = 7 then (q 33 0) else (if x1 = 8 then (lX7_count_1 q x1 (((q 36 0).toInt - (0 : Int32).toInt).toNat + 1) 0 0) else (-1))))))))))
end
section
/-! Part 05: what the tests say, for the places of the rows -/
theorem tX4_has (q : wSt) (x : Int32) : ¬ (fX4_has q x).toInt = 0 → 0 ≤ x.toInt ∧ x.toInt < (q 34 0).toInt := by
  unfold fX4_has
  split
  · intro h; exact absurd rfl h
  · split
    · intro h; exact absurd rfl h
    · rename_i h1 h2; intro _; exact ⟨i_nlt h1, i_nle h2⟩
theorem tX1_has (q : wSt) (x : Int32) : ¬ (fX1_has q x).toInt = 0 → 0 ≤ x.toInt ∧ x.toInt < (q 36 0).toInt := by
  unfold fX1_has
  split
  · intro h; exact absurd rfl h
  · split
    · intro h; exact absurd rfl h
    · rename_i h1 h2; intro _; exact ⟨i_nlt h1, i_nle h2⟩
theorem tX3_has (q : wSt) (x : Int32) : ¬ (fX3_has q x).toInt = 0 → 0 ≤ x.toInt ∧ x.toInt < (q 39 0).toInt := by
  unfold fX3_has
  split
  · intro h; exact absurd rfl h
  · split
    · intro h; exact absurd rfl h
    · rename_i h1 h2; intro _; exact ⟨i_nlt h1, i_nle h2⟩
theorem tX5_has (q : wSt) (x : Int32) : ¬ (fX5_has q x).toInt = 0 → 0 ≤ x.toInt ∧ x.toInt < (q 40 0).toInt := by
  unfold fX5_has
  split
  · intro h; exact absurd rfl h
  · split
    · intro h; exact absurd rfl h
    · rename_i h1 h2; intro _; exact ⟨i_nlt h1, i_nle h2⟩
theorem tX6_within (q : wSt) (x y z : Int32) : ¬ (fX6_within q x y z).toInt = 0 → y.toInt ≤ x.toInt ∧ x.toInt ≤ z.toInt := by
  unfold fX6_within
  split
  · intro h; exact absurd rfl h
  · split
    · intro h; exact absurd rfl h
    · rename_i h1 h2; intro _; exact ⟨i_nlt h1, i_nlt h2⟩
theorem tX7_in (q : wSt) (x y z : Int32) : ¬ (fX7_in q x y z).toInt = 0 → y.toInt ≤ x.toInt ∧ x.toInt ≤ z.toInt := by
  unfold fX7_in
  split
  · intro h; exact absurd rfl h
  · split
    · intro h; exact absurd rfl h
    · rename_i h1 h2; intro _; exact ⟨i_nlt h1, i_nlt h2⟩
theorem tX1_isAt (q : wSt) (x y : Int32) : ¬ (fX1_isAt q x y).toInt = 0 → 0 ≤ x.toInt ∧ x.toInt < (q 36 0).toInt ∧ (q 6 x.toNatClampNeg).toInt = y.toInt := by
  unfold fX1_isAt
  split
  · intro h; exact absurd rfl h
  · split
    · rename_i h1 h2; intro _
      have := tX1_has q x (i_ne h1)
      exact ⟨this.1, this.2, i_eq h2⟩
    · intro h; exact absurd rfl h
theorem tX5_isOpen (q : wSt) (x : Int32) : ¬ (fX5_isOpen q x).toInt = 0 → 0 ≤ x.toInt ∧ x.toInt < (q 40 0).toInt := by
  unfold fX5_isOpen
  split
  · intro h; exact absurd rfl h
  · split
    · rename_i h1 h2; intro _
      exact tX5_has q x (i_ne h1)
    · intro h; exact absurd rfl h
theorem tX5_waits (q : wSt) (x : Int32) : ¬ (fX5_waits q x).toInt = 0 → 0 ≤ x.toInt ∧ x.toInt < (q 40 0).toInt := by
  unfold fX5_waits
  split
  · intro h; exact absurd rfl h
  · split
    · rename_i h1 h2; intro _
      exact tX5_isOpen q x (i_ne h1)
    · intro h; exact absurd rfl h
theorem tX3_rankOf (q : wSt) (x : Int32) (h : iI q) : 0 ≤ (fX3_rankOf q x).toInt ∧ (fX3_rankOf q x).toInt ≤ 2 := by
  unfold fX3_rankOf
  split
  · decide
  · rename_i h1
    have h2 := tX3_has q x (i_ne h1)
    have h3 := iI_b h
    exact iI_16 h _ (i_clamp (vp_in_iff.mpr (by omega)))
theorem tlX1_leastOnShelf (q : wSt) (x1 x2 : Int32) (n : Nat) (y : Int32) (hy : 0 ≤ y.toInt) : (lX1_leastOnShelf_1 q x1 x2 n y).toInt = -1 ∨ (0 ≤ (lX1_leastOnShelf_1 q x1 x2 n y).toInt ∧ (lX1_leastOnShelf_1 q x1 x2 n y).toInt < (q 36 0).toInt) := by
  induction n generalizing y with
  | zero => left; rfl
  | succ n ih =>
    rw [lX1_leastOnShelf_1_s]
    split
    · left; rfl
    · rename_i h1
      have h2 := i_nle h1
      have h3 := i_rng (q 36 0)
      have h4 : (y + 1).toInt = y.toInt + 1 := i_inc (by omega)
      have h5 := ih (y + 1) (by omega)
      (repeat' split) <;> first | exact h5 | (right; omega)
theorem tX1_leastOnShelf (q : wSt) (x1 x2 : Int32) : (fX1_leastOnShelf q x1 x2).toInt = -1 ∨ (0 ≤ (fX1_leastOnShelf q x1 x2).toInt ∧ (fX1_leastOnShelf q x1 x2).toInt < (q 36 0).toInt) := by
  unfold fX1_leastOnShelf
  exact tlX1_leastOnShelf q x1 x2 _ 0 (by decide)
end
section
set_option maxHeartbeats 4000000 in
set_option maxRecDepth 100000 in
theorem mX0_add (l : Launch) (G : va_G) (cy : ClassId) (a : Nat → Nat) (sz : Nat) (q : wSt) (x1 : Int32) (x2 : Int32) (x3 : Int32) (x4 : Int32) (x5 : Int32) (g0 : 0 ≤ (q 35 0).toInt) (g1 : (q 35 0).toInt < 40) : CtV l yX0_add wsX0_add ({ frames := 0, cells := 0, slots := 0, locals := 0 }) G cy (cX cy a) xN sz q [.ref (a 2), .int x1, .int x2, .int x3, .int x4, .int x5] (fX0_add q x1 x2 x3 x4 x5) := by
  refine Met.ofW (cc := cX0_add) (maxL := 6) (ret := none) (by decide) rfl ?_
  intro p e s m args below meth c s₁ B hml hv
  obtain ⟨rfl, hsz, hP, hK, hD0, hN⟩ := hv
  have hx := B.exec
  have hb := B.bytes
  have hr := B.returns
  have hts := atoms_spec (ws := wsX0_add) B.pre
  have hown : s.vm.findClass RX0 = some m.cls := findClass_of_methodNamed B.named
  have hlocks := B.notSynchronized
  subst hsz
  have hD : ∀ z : wSt, va_D (wA (cX cy a) s.heap.size) ((cX cy a) z) := fun z => w_self (xOk cy a).1 hD0 z
  have hA : ∀ z : Nat, s.heap.size ≤ z → wA (cX cy a) s.heap.size z := fun _ h => Or.inr h
  have hS : va_S (wA (cX cy a) s.heap.size) s.heap s.heap [] := va_S.rf
  have hl := lv_entry ([.ref (a 2), .int x1, .int x2, .int x3, .int x4, .int x5]) (n := 6) (Nat.le_of_ble_eq_true rfl)
  rw [lg_entry_eq]
  generalize (lg_sl ([.ref (a 2), .int x1, .int x2, .int x3, .int x4, .int x5]) ++ List.replicate (6 - (lg_sl ([.ref (a 2), .int x1, .int x2, .int x3, .int x4, .int x5])).length) Slot.unset).toArray = ls at hl ⊢
  have hl : lv_has ls 6 [(0, .ref (a 2)), (1, .int x1), (2, .int x2), (3, .int x3), (4, .int x4), (5, .int x5)] := hl
  have h_1 := hts (.fieldLink RX0 9 RX0 "title" "[I") (by decide +kernel)
  have h_2 := (show ∀ w ∈ u_ws RX0 TX0 6, w ∈ wsX0_add by decide +kernel)
  have h_3 := hts (.fieldLink RX0 27 RX0 "came" "I") (by decide +kernel)
  have h_4 := hts (.fieldLink RX0 15 RX0 "day" "[I") (by decide +kernel)
  have h_5 := hts (.fieldLink RX0 18 RX0 "atFirstPrice" "[I") (by decide +kernel)
  have h_6 := hts (.fieldLink RX0 21 RX0 "price" "[I") (by decide +kernel)
  have h_7 := hts (.fieldLink RX0 24 RX0 "priceBeyond" "[I") (by decide +kernel)
  have t_1 : (1 : Int32).toInt = 1 := rfl
  refine lv_aload_n hx hb dX0_add_0 rfl (lv_at hl 0 rfl) ?_
  refine gfX0_9 hx hb hts h_2 hown hK hP h_1 dX0_add_1 ?_
  refine lv_aload_n hx hb dX0_add_4 rfl (lv_at hl 0 rfl) ?_
  refine gfX0_27 (v := (q 35 0)) hx hb hts h_2 hown hK hP h_3 rfl dX0_add_5 ?_
  refine lv_iload_n hx hb dX0_add_8 rfl (lv_at hl 1 rfl) ?_
  have v_1 : vp_in (q 35 0) 40 := vp_in_iff.mpr (by omega)
  refine stX_1 (f := (q 1)) hx hb hK hP hD hS rfl v_1 dX0_add_9 (fun H locs hP hS => ?_)
  refine lv_aload_n hx hb dX0_add_10 rfl (lv_at hl 0 rfl) ?_
  refine gfX0_15 hx hb hts h_2 hown hK hP h_4 dX0_add_11 ?_
  refine lv_aload_n hx hb dX0_add_14 rfl (lv_at hl 0 rfl) ?_
  refine gfX0_27 (v := (q 35 0)) hx hb hts h_2 hown hK hP h_3 rfl dX0_add_15 ?_
  refine lv_iload_n hx hb dX0_add_18 rfl (lv_at hl 2 rfl) ?_
  have v_2 : vp_in (q 35 0) 40 := vp_in_iff.mpr (by omega)
  refine stX_2 (f := (q 2)) hx hb hK hP hD hS rfl v_2 dX0_add_19 (fun H locs hP hS => ?_)
  refine lv_aload_n hx hb dX0_add_20 rfl (lv_at hl 0 rfl) ?_
  refine gfX0_18 hx hb hts h_2 hown hK hP h_5 dX0_add_21 ?_
  refine lv_aload_n hx hb dX0_add_24 rfl (lv_at hl 0 rfl) ?_
  refine gfX0_27 (v := (q 35 0)) hx hb hts h_2 hown hK hP h_3 rfl dX0_add_25 ?_
  refine lv_iload_n hx hb dX0_add_28 rfl (lv_at hl 3 rfl) ?_
  have v_3 : vp_in (q 35 0) 40 := vp_in_iff.mpr (by omega)
  refine stX_3 (f := (q 3)) hx hb hK hP hD hS rfl v_3 dX0_add_29 (fun H locs hP hS => ?_)
  refine lv_aload_n hx hb dX0_add_30 rfl (lv_at hl 0 rfl) ?_
  refine gfX0_21 hx hb hts h_2 hown hK hP h_6 dX0_add_31 ?_
  refine lv_aload_n hx hb dX0_add_34 rfl (lv_at hl 0 rfl) ?_
  refine gfX0_27 (v := (q 35 0)) hx hb hts h_2 hown hK hP h_3 rfl dX0_add_35 ?_
  refine lv_iload hx hb dX0_add_38 (lv_at hl 4 rfl) ?_
  have v_4 : vp_in (q 35 0) 40 := vp_in_iff.mpr (by omega)
  refine stX_4 (f := (q 4)) hx hb hK hP hD hS rfl v_4 dX0_add_40 (fun H locs hP hS => ?_)
  refine lv_aload_n hx hb dX0_add_41 rfl (lv_at hl 0 rfl) ?_
  refine gfX0_24 hx hb hts h_2 hown hK hP h_7 dX0_add_42 ?_
  refine lv_aload_n hx hb dX0_add_45 rfl (lv_at hl 0 rfl) ?_
  refine gfX0_27 (v := (q 35 0)) hx hb hts h_2 hown hK hP h_3 rfl dX0_add_46 ?_
  refine lv_iload hx hb dX0_add_49 (lv_at hl 5 rfl) ?_
  have v_5 : vp_in (q 35 0) 40 := vp_in_iff.mpr (by omega)
  refine stX_5 (f := (q 5)) hx hb hK hP hD hS rfl v_5 dX0_add_51 (fun H locs hP hS => ?_)
  refine lv_aload_n hx hb dX0_add_52 rfl (lv_at hl 0 rfl) ?_
  refine lv_dup hx hb dX0_add_53 rfl ?_
  refine gfX0_27 (v := (q 35 0)) hx hb hts h_2 hown hK hP h_3 rfl dX0_add_54 ?_
  refine lv_iconst (v := 1) hx hb dX0_add_57 (by decide) ?_
  refine lv_iadd hx hb dX0_add_58 ?_
  refine pfX0_27 hx hb hts h_2 hown hK hP hD hS h_3 dX0_add_59 (fun H locs hP hS => ?_)
  exact W.vret hx hb hr (fun t ht hW => ⟨⟨(rset (rset (rset (rset (rset (rset q 1 (upd (q 1) (q 35 0).toNatClampNeg x1)) 2 (upd (q 2) (q 35 0).toNatClampNeg x2)) 3 (upd (q 3) (q 35 0).toNatClampNeg x3)) 4 (upd (q 4) (q 35 0).toNatClampNeg x4)) 5 (upd (q 5) (q 35 0).toNatClampNeg x5)) 35 (fun _ => ((q 35 0) + 1))), rfl, (Eq.symm (show (fX0_add q x1 x2 x3 x4 x5) = (rset (rset (rset (rset (rset (rset q 1 (upd (q 1) (q 35 0).toNatClampNeg x1)) 2 (upd (q 2) (q 35 0).toNatClampNeg x2)) 3 (upd (q 3) (q 35 0).toNatClampNeg x3)) 4 (upd (q 4) (q 35 0).toNatClampNeg x4)) 5 (upd (q 5) (q 35 0).toNatClampNeg x5)) 35 (fun _ => ((q 35 0) + 1))) by (rw [fX0_add]); try rfl)), w_ht ht hP⟩, hS.F ht⟩) hS.2.2 dX0_add_62
end
section
set_option maxHeartbeats 4000000 in
set_option maxRecDepth 100000 in
theorem mX0_inForce (l : Launch) (G : va_G) (cy : ClassId) (a : Nat → Nat) (sz : Nat) (q : wSt) (x1 : Int32) (x2 : Int32) (g0 : (q 35 0).toInt ≤ 40) : CtI l yX0_inForce wsX0_inForce ({ frames := 0, cells := 0, slots := 0, locals := 0 }) G cy (cX cy a) xN sz q [.ref (a 2), .int x1, .int x2] (fX0_inForce q x1 x2) q := by
  refine Met.ofW (cc := cX0_inForce) (maxL := 5) (ret := (some .int)) (by decide) rfl ?_
  intro p e s m args below meth c s₁ B hml hv
  obtain ⟨rfl, hsz, hP, hK, hD0, hN⟩ := hv
  have hx := B.exec
  have hb := B.bytes
  have hr := B.returns
  have hts := atoms_spec (ws := wsX0_inForce) B.pre
  have hown : s.vm.findClass RX0 = some m.cls := findClass_of_methodNamed B.named
  have hlocks := B.notSynchronized
  subst hsz
  have hD : ∀ z : wSt, va_D (wA (cX cy a) s.heap.size) ((cX cy a) z) := fun z => w_self (xOk cy a).1 hD0 z
  have hA : ∀ z : Nat, s.heap.size ≤ z → wA (cX cy a) s.heap.size z := fun _ h => Or.inr h
  have hS : va_S (wA (cX cy a) s.heap.size) s.heap s.heap [] := va_S.rf
  have hl := lv_entry ([.ref (a 2), .int x1, .int x2]) (n := 5) (Nat.le_of_ble_eq_true rfl)
  rw [lg_entry_eq]
  generalize (lg_sl ([.ref (a 2), .int x1, .int x2]) ++ List.replicate (5 - (lg_sl ([.ref (a 2), .int x1, .int x2])).length) Slot.unset).toArray = ls at hl ⊢
  have hl : lv_has ls 5 [(0, .ref (a 2)), (1, .int x1), (2, .int x2)] := hl
  have h_1 := hts (.fieldLink RX0 27 RX0 "came" "I") (by decide +kernel)
  have h_2 := (show ∀ w ∈ u_ws RX0 TX0 6, w ∈ wsX0_inForce by decide +kernel)
  have h_3 := hts (.fieldLink RX0 9 RX0 "title" "[I") (by decide +kernel)
  have h_4 := hts (.fieldLink RX0 15 RX0 "day" "[I") (by decide +kernel)
  have t_m1 : ((-1) : Int32).toInt = -1 := rfl
  have t_0 : (0 : Int32).toInt = 0 := rfl
  have t_1 : (1 : Int32).toInt = 1 := rfl
  refine lv_iconst (v := (-1)) hx hb dX0_inForce_0 (by decide) ?_
  refine lv_istore_n (lv' := [(3, .int (-1)), (0, .ref (a 2)), (1, .int x1), (2, .int x2)]) hx hb dX0_inForce_1 rfl hl (by decide) rfl (fun ls hl => ?_)
  refine lv_iconst (v := 0) hx hb dX0_inForce_2 (by decide) ?_
  refine lv_istore (lv' := [(4, .int 0), (3, .int (-1)), (0, .ref (a 2)), (1, .int x1), (2, .int x2)]) hx hb dX0_inForce_3 hl (by decide) rfl (fun ls hl => ?_)
  have K_1 : ∀ (v : Int32) (H : Heap) (ls : Array Slot) (locs : List Loc), (lX0_inForce_1 q x1 x2 (((q 35 0).toInt - (0 : Int32).toInt).toNat + 1) (-1) 0) = v → ((v).toInt = -1 ∨ (0 ≤ (v).toInt ∧ (v).toInt < (q 35 0).toInt)) → va_P G vwCl ((cX cy a) q) H → va_S (wA (cX cy a) s.heap.size) s.heap H locs → lv_has ls 5 [(3, .int v)] → W p l e ({ frames := 0, cells := 0, slots := 0, locals := 0 }) s m [.ref (a 2), .int x1, .int x2].toArray below meth c H locs 0 0 (MQ below (wQi G (cX cy a) s.heap.size (fX0_inForce q x1 x2) q) [.ref (a 2), .int x1, .int x2].toArray s 0 0 (wA (cX cy a) s.heap.size)) (F0 m 66 ls []) := by
    intro v H ls locs hv iv_1_x hP hS hl
    subst hv
    refine lv_iload_n hx hb dX0_inForce_66 rfl (lv_at hl 0 rfl) ?_
    exact W.iret (v := (lX0_inForce_1 q x1 x2 (((q 35 0).toInt - (0 : Int32).toInt).toNat + 1) (-1) 0)) hx hb hr (fun t ht hW => ⟨⟨(lX0_inForce_1 q x1 x2 (((q 35 0).toInt - (0 : Int32).toInt).toNat + 1) (-1) 0), q, rfl, ⟨(Eq.symm (show (fX0_inForce q x1 x2) = (lX0_inForce_1 q x1 x2 (((q 35 0).toInt - (0 : Int32).toInt).toNat + 1) (-1) 0) by (rw [fX0_inForce]); try rfl)), rfl⟩, w_ht ht hP⟩, hS.F ht⟩) hS.2.2 dX0_inForce_67
  have L_1 : ∀ (n : Nat) (y3_1 : Int32) (y4_1 : Int32) (H : Heap) (ls : Array Slot) (locs : List Loc), ((q 35 0).toInt - (y4_1).toInt).toNat < n → (0 ≤ (y4_1).toInt) → ((y3_1).toInt = -1 ∨ (0 ≤ (y3_1).toInt ∧ (y3_1).toInt < (q 35 0).toInt)) → lX0_inForce_1 q x1 x2 n y3_1 y4_1 = (lX0_inForce_1 q x1 x2 (((q 35 0).toInt - (0 : Int32).toInt).toNat + 1) (-1) 0) → va_P G vwCl ((cX cy a) q) H → va_S (wA (cX cy a) s.heap.size) s.heap H locs → lv_has ls 5 [(0, .ref (a 2)), (1, .int x1), (2, .int x2), (3, .int y3_1), (4, .int y4_1)] → W p l e ({ frames := 0, cells := 0, slots := 0, locals := 0 }) s m [.ref (a 2), .int x1, .int x2].toArray below meth c H locs 0 0 (MQ below (wQi G (cX cy a) s.heap.size (fX0_inForce q x1 x2) q) [.ref (a 2), .int x1, .int x2].toArray s 0 0 (wA (cX cy a) s.heap.size)) (F0 m 5 ls []) := by
    intro n
    induction n with
    | zero => intro y3_1 y4_1 H ls locs hm; exact absurd hm (Nat.not_lt_zero _)
    | succ n ih =>
      intro y3_1 y4_1 H ls locs hm_1 i0_1 iv_1 he_1 hP hS hl
      refine lv_iload hx hb dX0_inForce_5 (lv_at hl 4 rfl) ?_
      refine lv_aload_n hx hb dX0_inForce_7 rfl (lv_at hl 0 rfl) ?_
      refine gfX0_27 (v := (q 35 0)) hx hb hts h_2 hown hK hP h_1 rfl dX0_inForce_8 ?_
      refine lv_icmp_ge (tgt := 66) hx hb dX0_inForce_11 (by decide) (fun c_1 => ?_) (fun c_1 => ?_)
      · have e_2 := i_le c_1
        exact K_1 (y3_1) _ _ _ (Eq.trans (Eq.symm he_1) (by (rw [lX0_inForce_1_s, if_pos c_1]); try rfl)) (by first | assumption | omega) hP hS (lv_sub hl [3] rfl)
      · have e_2 := i_nle c_1
        refine lv_aload_n hx hb dX0_inForce_14 rfl (lv_at hl 0 rfl) ?_
        refine gfX0_9 hx hb hts h_2 hown hK hP h_3 dX0_inForce_15 ?_
        refine lv_iload hx hb dX0_inForce_18 (lv_at hl 4 rfl) ?_
        have v_3 : vp_in y4_1 40 := vp_in_iff.mpr (by omega)
        refine ldX_1 (f := (q 1)) hx hb hK hP rfl v_3 dX0_inForce_20 ?_
        refine lv_iload_n hx hb dX0_inForce_21 rfl (lv_at hl 1 rfl) ?_
        have J_2 : ∀ (v : Int32) (H : Heap) (ls : Array Slot) (locs : List Loc), (fX0_inForce_j2 q x1 x2 y3_1 y4_1) = v → ((v).toInt = -1 ∨ (0 ≤ (v).toInt ∧ (v).toInt < (q 35 0).toInt)) → va_P G vwCl ((cX cy a) q) H → va_S (wA (cX cy a) s.heap.size) s.heap H locs → lv_has ls 5 [(0, .ref (a 2)), (1, .int x1), (2, .int x2), (3, .int v), (4, .int y4_1)] → W p l e ({ frames := 0, cells := 0, slots := 0, locals := 0 }) s m [.ref (a 2), .int x1, .int x2].toArray below meth c H locs 0 0 (MQ below (wQi G (cX cy a) s.heap.size (fX0_inForce q x1 x2) q) [.ref (a 2), .int x1, .int x2].toArray s 0 0 (wA (cX cy a) s.heap.size)) (F0 m 60 ls []) := by
          intro v H ls locs hv iv_1_j2 hP hS hl
          subst hv
          refine lv_iinc (v := (y4_1 + 1)) (lv' := [(4, .int (y4_1 + 1)), (0, .ref (a 2)), (1, .int x1), (2, .int x2), (3, .int (fX0_inForce_j2 q x1 x2 y3_1 y4_1))]) hx hb dX0_inForce_60 hl (k := 4) rfl rfl (by decide) rfl (fun ls hl => ?_)
          have e_15 : (y4_1 + 1).toInt = (y4_1).toInt + 1 := i_inc (by have := i_rng y4_1; omega)
          refine lv_goto (tgt := 5) hx hb dX0_inForce_63 (by decide) ?_
          exact ih (fX0_inForce_j2 q x1 x2 y3_1 y4_1) (y4_1 + 1) _ _ _ (by omega) (by first | assumption | omega) (by first | assumption | omega) (Eq.trans (Eq.symm (by (rw [lX0_inForce_1_s, if_neg c_1]); try rfl)) he_1) hP hS (lv_sub hl [1, 2, 3, 4, 0] rfl)
        refine lv_icmp_ne (tgt := 60) hx hb dX0_inForce_22 (by decide) (fun c_4 => ?_) (fun c_4 => ?_)
        · have e_5 := i_ne c_4
          exact J_2 (y3_1) _ _ _ (by (rw [fX0_inForce_j2, if_neg c_4]); try rfl) (show (y3_1).toInt = -1 ∨ (0 ≤ (y3_1).toInt ∧ (y3_1).toInt < (q 35 0).toInt) by omega) hP hS (lv_sub hl [0, 1, 2, 3, 4] rfl)
        · have e_5 := i_eq c_4
          refine lv_aload_n hx hb dX0_inForce_25 rfl (lv_at hl 0 rfl) ?_
          refine gfX0_15 hx hb hts h_2 hown hK hP h_4 dX0_inForce_26 ?_
          refine lv_iload hx hb dX0_inForce_29 (lv_at hl 4 rfl) ?_
          have v_6 : vp_in y4_1 40 := vp_in_iff.mpr (by omega)
          refine ldX_2 (f := (q 2)) hx hb hK hP rfl v_6 dX0_inForce_31 ?_
          refine lv_iload_n hx hb dX0_inForce_32 rfl (lv_at hl 2 rfl) ?_
          refine lv_icmp_gt (tgt := 60) hx hb dX0_inForce_33 (by decide) (fun c_7 => ?_) (fun c_7 => ?_)
          · have e_8 := i_lt c_7
            exact J_2 (y3_1) _ _ _ (by (rw [fX0_inForce_j2, if_pos c_4, if_pos c_7]); try rfl) (show (y3_1).toInt = -1 ∨ (0 ≤ (y3_1).toInt ∧ (y3_1).toInt < (q 35 0).toInt) by omega) hP hS (lv_sub hl [0, 1, 2, 3, 4] rfl)
          · have e_8 := i_nlt c_7
            refine lv_iload_n hx hb dX0_inForce_36 rfl (lv_at hl 3 rfl) ?_
            refine lv_iconst (v := (-1)) hx hb dX0_inForce_37 (by decide) ?_
            refine lv_icmp_eq (tgt := 57) hx hb dX0_inForce_38 (by decide) (fun c_9 => ?_) (fun c_9 => ?_)
            · have e_10 := i_eq c_9
              refine lv_iload hx hb dX0_inForce_57 (lv_at hl 4 rfl) ?_
              refine lv_istore_n (lv' := [(3, .int y4_1), (0, .ref (a 2)), (1, .int x1), (2, .int x2), (4, .int y4_1)]) hx hb dX0_inForce_59 rfl hl (by decide) rfl (fun ls hl => ?_)
              exact J_2 (y4_1) _ _ _ (by (rw [fX0_inForce_j2, if_pos c_4, if_neg c_7, if_pos c_9]); try rfl) (show (y4_1).toInt = -1 ∨ (0 ≤ (y4_1).toInt ∧ (y4_1).toInt < (q 35 0).toInt) by omega) hP hS (lv_sub hl [1, 2, 3, 0, 4] rfl)
            · have e_10 := i_ne c_9
              refine lv_aload_n hx hb dX0_inForce_41 rfl (lv_at hl 0 rfl) ?_
              refine gfX0_15 hx hb hts h_2 hown hK hP h_4 dX0_inForce_42 ?_
              refine lv_iload hx hb dX0_inForce_45 (lv_at hl 4 rfl) ?_
              have v_11 : vp_in y4_1 40 := vp_in_iff.mpr (by omega)
              refine ldX_2 (f := (q 2)) hx hb hK hP rfl v_11 dX0_inForce_47 ?_
              refine lv_aload_n hx hb dX0_inForce_48 rfl (lv_at hl 0 rfl) ?_
              refine gfX0_15 hx hb hts h_2 hown hK hP h_4 dX0_inForce_49 ?_
              refine lv_iload_n hx hb dX0_inForce_52 rfl (lv_at hl 3 rfl) ?_
              have v_12 : vp_in y3_1 40 := vp_in_iff.mpr (by omega)
              refine ldX_2 (f := (q 2)) hx hb hK hP rfl v_12 dX0_inForce_53 ?_
              refine lv_icmp_lt (tgt := 60) hx hb dX0_inForce_54 (by decide) (fun c_13 => ?_) (fun c_13 => ?_)
              · have e_14 := i_lt c_13
                exact J_2 (y3_1) _ _ _ (by (rw [fX0_inForce_j2, if_pos c_4, if_neg c_7, if_neg c_9, if_pos c_13]); try rfl) (show (y3_1).toInt = -1 ∨ (0 ≤ (y3_1).toInt ∧ (y3_1).toInt < (q 35 0).toInt) by omega) hP hS (lv_sub hl [0, 1, 2, 3, 4] rfl)
              · have e_14 := i_nlt c_13
                refine lv_iload hx hb dX0_inForce_57 (lv_at hl 4 rfl) ?_
                refine lv_istore_n (lv' := [(3, .int y4_1), (0, .ref (a 2)), (1, .int x1), (2, .int x2), (4, .int y4_1)]) hx hb dX0_inForce_59 rfl hl (by decide) rfl (fun ls hl => ?_)
                exact J_2 (y4_1) _ _ _ (by (rw [fX0_inForce_j2, if_pos c_4, if_neg c_7, if_neg c_9, if_neg c_13]); try rfl) (show (y4_1).toInt = -1 ∨ (0 ≤ (y4_1).toInt ∧ (y4_1).toInt < (q 35 0).toInt) by omega) hP hS (lv_sub hl [1, 2, 3, 0, 4] rfl)
  exact L_1 (((q 35 0).toInt - (0 : Int32).toInt).toNat + 1) (-1) 0 _ _ _ (by omega) (by omega) (by omega) rfl hP hS (lv_sub hl [2, 3, 4, 1, 0] rfl)
end
section
set_option maxHeartbeats 4000000 in
set_option maxRecDepth 100000 in
theorem mX0_priceAt (l : Launch) (G : va_G) (cy : ClassId) (a : Nat → Nat) (sz : Nat) (q : wSt) (x1 : Int32) (x2 : Int32) (g0 : (q 35 0).toInt ≤ 40) : CtI l yX0_priceAt wsX0_priceAt ({ frames := 0, cells := 0, slots := 0, locals := 0 }) G cy (cX cy a) xN sz q [.ref (a 2), .int x1, .int x2] (fX0_priceAt q x1 x2) q := by
  refine Met.ofW (cc := cX0_priceAt) (maxL := 3) (ret := (some .int)) (by decide) rfl ?_
  intro p e s m args below meth c s₁ B hml hv
  obtain ⟨rfl, hsz, hP, hK, hD0, hN⟩ := hv
  have hx := B.exec
  have hb := B.bytes
  have hr := B.returns
  have hts := atoms_spec (ws := wsX0_priceAt) B.pre
  have hown : s.vm.findClass RX0 = some m.cls := findClass_of_methodNamed B.named
  have hlocks := B.notSynchronized
  subst hsz
  have hD : ∀ z : wSt, va_D (wA (cX cy a) s.heap.size) ((cX cy a) z) := fun z => w_self (xOk cy a).1 hD0 z
  have hA : ∀ z : Nat, s.heap.size ≤ z → wA (cX cy a) s.heap.size z := fun _ h => Or.inr h
  have hS : va_S (wA (cX cy a) s.heap.size) s.heap s.heap [] := va_S.rf
  have hl := lv_entry ([.ref (a 2), .int x1, .int x2]) (n := 3) (Nat.le_of_ble_eq_true rfl)
  rw [lg_entry_eq]
  generalize (lg_sl ([.ref (a 2), .int x1, .int x2]) ++ List.replicate (3 - (lg_sl ([.ref (a 2), .int x1, .int x2])).length) Slot.unset).toArray = ls at hl ⊢
  have hl : lv_has ls 3 [(0, .ref (a 2)), (1, .int x1), (2, .int x2)] := hl
  have h_1 := hts (.fieldLink RX0 27 RX0 "came" "I") (by decide +kernel)
  have h_2 := (show ∀ w ∈ u_ws RX0 TX0 6, w ∈ wsX0_priceAt by decide +kernel)
  have h_3 := hts (.fieldLink RX0 18 RX0 "atFirstPrice" "[I") (by decide +kernel)
  have h_4 := hts (.fieldLink RX0 24 RX0 "priceBeyond" "[I") (by decide +kernel)
  have h_5 := hts (.fieldLink RX0 21 RX0 "price" "[I") (by decide +kernel)
  have t_0 : (0 : Int32).toInt = 0 := rfl
  have t_10 : (10 : Int32).toInt = 10 := rfl
  refine lv_iload_n hx hb dX0_priceAt_0 rfl (lv_at hl 1 rfl) ?_
  refine lv_if_lt (tgt := 12) hx hb dX0_priceAt_1 (by decide) (fun c_1 => ?_) (fun c_1 => ?_)
  · have e_2 := i_lt c_1
    refine lv_bipush (v := 10) hx hb dX0_priceAt_12 (by decide) ?_
    exact W.iret (v := 10) hx hb hr (fun t ht hW => ⟨⟨10, q, rfl, ⟨(Eq.symm (show (fX0_priceAt q x1 x2) = 10 by (rw [fX0_priceAt, if_pos c_1]); try rfl)), rfl⟩, w_ht ht hP⟩, hS.F ht⟩) hS.2.2 dX0_priceAt_14
  · have e_2 := i_nlt c_1
    refine lv_iload_n hx hb dX0_priceAt_4 rfl (lv_at hl 1 rfl) ?_
    refine lv_aload_n hx hb dX0_priceAt_5 rfl (lv_at hl 0 rfl) ?_
    refine gfX0_27 (v := (q 35 0)) hx hb hts h_2 hown hK hP h_1 rfl dX0_priceAt_6 ?_
    refine lv_icmp_lt (tgt := 15) hx hb dX0_priceAt_9 (by decide) (fun c_3 => ?_) (fun c_3 => ?_)
    · have e_4 := i_lt c_3
      refine lv_iload_n hx hb dX0_priceAt_15 rfl (lv_at hl 2 rfl) ?_
      refine lv_aload_n hx hb dX0_priceAt_16 rfl (lv_at hl 0 rfl) ?_
      refine gfX0_18 hx hb hts h_2 hown hK hP h_3 dX0_priceAt_17 ?_
      refine lv_iload_n hx hb dX0_priceAt_20 rfl (lv_at hl 1 rfl) ?_
      have v_5 : vp_in x1 40 := vp_in_iff.mpr (by omega)
      refine ldX_3 (f := (q 3)) hx hb hK hP rfl v_5 dX0_priceAt_21 ?_
      refine lv_icmp_ge (tgt := 34) hx hb dX0_priceAt_22 (by decide) (fun c_6 => ?_) (fun c_6 => ?_)
      · have e_7 := i_le c_6
        refine lv_aload_n hx hb dX0_priceAt_34 rfl (lv_at hl 0 rfl) ?_
        refine gfX0_24 hx hb hts h_2 hown hK hP h_4 dX0_priceAt_35 ?_
        refine lv_iload_n hx hb dX0_priceAt_38 rfl (lv_at hl 1 rfl) ?_
        have v_8 : vp_in x1 40 := vp_in_iff.mpr (by omega)
        refine ldX_5 (f := (q 5)) hx hb hK hP rfl v_8 dX0_priceAt_39 ?_
        exact W.iret (v := (q 5 (x1).toNatClampNeg)) hx hb hr (fun t ht hW => ⟨⟨(q 5 (x1).toNatClampNeg), q, rfl, ⟨(Eq.symm (show (fX0_priceAt q x1 x2) = (q 5 (x1).toNatClampNeg) by (rw [fX0_priceAt, if_neg c_1, if_pos c_3, if_pos c_6]); try rfl)), rfl⟩, w_ht ht hP⟩, hS.F ht⟩) hS.2.2 dX0_priceAt_40
      · have e_7 := i_nle c_6
        refine lv_aload_n hx hb dX0_priceAt_25 rfl (lv_at hl 0 rfl) ?_
        refine gfX0_21 hx hb hts h_2 hown hK hP h_5 dX0_priceAt_26 ?_
        refine lv_iload_n hx hb dX0_priceAt_29 rfl (lv_at hl 1 rfl) ?_
        have v_9 : vp_in x1 40 := vp_in_iff.mpr (by omega)
        refine ldX_4 (f := (q 4)) hx hb hK hP rfl v_9 dX0_priceAt_30 ?_
        refine lv_goto (tgt := 40) hx hb dX0_priceAt_31 (by decide) ?_
        exact W.iret (v := (q 4 (x1).toNatClampNeg)) hx hb hr (fun t ht hW => ⟨⟨(q 4 (x1).toNatClampNeg), q, rfl, ⟨(Eq.symm (show (fX0_priceAt q x1 x2) = (q 4 (x1).toNatClampNeg) by (rw [fX0_priceAt, if_neg c_1, if_pos c_3, if_neg c_6]); try rfl)), rfl⟩, w_ht ht hP⟩, hS.F ht⟩) hS.2.2 dX0_priceAt_40
    · have e_4 := i_nlt c_3
      refine lv_bipush (v := 10) hx hb dX0_priceAt_12 (by decide) ?_
      exact W.iret (v := 10) hx hb hr (fun t ht hW => ⟨⟨10, q, rfl, ⟨(Eq.symm (show (fX0_priceAt q x1 x2) = 10 by (rw [fX0_priceAt, if_neg c_1, if_neg c_3]); try rfl)), rfl⟩, w_ht ht hP⟩, hS.F ht⟩) hS.2.2 dX0_priceAt_14
end
section
set_option maxHeartbeats 4000000 in
set_option maxRecDepth 100000 in
theorem mX4_has (l : Launch) (G : va_G) (cy : ClassId) (a : Nat → Nat) (sz : Nat) (q : wSt) (x1 : Int32) : CtI l yX4_has wsX4_has ({ frames := 0, cells := 0, slots := 0, locals := 0 }) G cy (cX cy a) xN sz q [.ref (a 1), .int x1] (fX4_has q x1) q := by
  refine Met.ofW (cc := cX4_has) (maxL := 2) (ret := (some .boolean)) (by decide) rfl ?_
  intro p e s m args below meth c s₁ B hml hv
  obtain ⟨rfl, hsz, hP, hK, hD0, hN⟩ := hv
  have hx := B.exec
  have hb := B.bytes
  have hr := B.returns
  have hts := atoms_spec (ws := wsX4_has) B.pre
  have hown : s.vm.findClass RX4 = some m.cls := findClass_of_methodNamed B.named
  have hlocks := B.notSynchronized
  subst hsz
  have hD : ∀ z : wSt, va_D (wA (cX cy a) s.heap.size) ((cX cy a) z) := fun z => w_self (xOk cy a).1 hD0 z
  have hA : ∀ z : Nat, s.heap.size ≤ z → wA (cX cy a) s.heap.size z := fun _ h => Or.inr h
  have hS : va_S (wA (cX cy a) s.heap.size) s.heap s.heap [] := va_S.rf
  have hl := lv_entry ([.ref (a 1), .int x1]) (n := 2) (Nat.le_of_ble_eq_true rfl)
  rw [lg_entry_eq]
  generalize (lg_sl ([.ref (a 1), .int x1]) ++ List.replicate (2 - (lg_sl ([.ref (a 1), .int x1])).length) Slot.unset).toArray = ls at hl ⊢
  have hl : lv_has ls 2 [(0, .ref (a 1)), (1, .int x1)] := hl
  have h_1 := hts (.fieldLink RX4 15 RX4 "came" "I") (by decide +kernel)
  have h_2 := (show ∀ w ∈ u_ws RX4 TX4 2, w ∈ wsX4_has by decide +kernel)
  have t_0 : (0 : Int32).toInt = 0 := rfl
  have t_1 : (1 : Int32).toInt = 1 := rfl
  refine lv_iload_n hx hb dX4_has_0 rfl (lv_at hl 1 rfl) ?_
  refine lv_if_lt (tgt := 16) hx hb dX4_has_1 (by decide) (fun c_1 => ?_) (fun c_1 => ?_)
  · have e_2 := i_lt c_1
    refine lv_iconst (v := 0) hx hb dX4_has_16 (by decide) ?_
    exact W.zret (v := 0) hx hb hr rfl (fun t ht hW => ⟨⟨0, q, rfl, ⟨(Eq.symm (show (fX4_has q x1) = 0 by (rw [fX4_has, if_pos c_1]); try rfl)), rfl⟩, w_ht ht hP⟩, hS.F ht⟩) hS.2.2 dX4_has_17
  · have e_2 := i_nlt c_1
    refine lv_iload_n hx hb dX4_has_4 rfl (lv_at hl 1 rfl) ?_
    refine lv_aload_n hx hb dX4_has_5 rfl (lv_at hl 0 rfl) ?_
    refine gfX4_15 (v := (q 34 0)) hx hb hts h_2 hown hK hP h_1 rfl dX4_has_6 ?_
    refine lv_icmp_ge (tgt := 16) hx hb dX4_has_9 (by decide) (fun c_3 => ?_) (fun c_3 => ?_)
    · have e_4 := i_le c_3
      refine lv_iconst (v := 0) hx hb dX4_has_16 (by decide) ?_
      exact W.zret (v := 0) hx hb hr rfl (fun t ht hW => ⟨⟨0, q, rfl, ⟨(Eq.symm (show (fX4_has q x1) = 0 by (rw [fX4_has, if_neg c_1, if_pos c_3]); try rfl)), rfl⟩, w_ht ht hP⟩, hS.F ht⟩) hS.2.2 dX4_has_17
    · have e_4 := i_nle c_3
      refine lv_iconst (v := 1) hx hb dX4_has_12 (by decide) ?_
      refine lv_goto (tgt := 17) hx hb dX4_has_13 (by decide) ?_
      exact W.zret (v := 1) hx hb hr rfl (fun t ht hW => ⟨⟨1, q, rfl, ⟨(Eq.symm (show (fX4_has q x1) = 1 by (rw [fX4_has, if_neg c_1, if_neg c_3]); try rfl)), rfl⟩, w_ht ht hP⟩, hS.F ht⟩) hS.2.2 dX4_has_17
end
section
set_option maxHeartbeats 4000000 in
set_option maxRecDepth 100000 in
theorem mX4_volumesOf (l : Launch) (G : va_G) (cy : ClassId) (a : Nat → Nat) (sz : Nat) (q : wSt) (x1 : Int32) (g0 : (q 34 0).toInt ≤ 12) : CtI l yX4_volumesOf wsX4_volumesOf ({ frames := 1, cells := 0, slots := 0, locals := 21 }) G cy (cX cy a) xN sz q [.ref (a 1), .int x1] (fX4_volumesOf q x1) q := by
  refine Met.ofW (cc := cX4_volumesOf) (maxL := 2) (ret := (some .int)) (by decide) rfl ?_
  intro p e s m args below meth c s₁ B hml hv
  obtain ⟨rfl, hsz, hP, hK, hD0, hN⟩ := hv
  have hx := B.exec
  have hb := B.bytes
  have hr := B.returns
  have hts := atoms_spec (ws := wsX4_volumesOf) B.pre
  have hown : s.vm.findClass RX4 = some m.cls := findClass_of_methodNamed B.named
  have hlocks := B.notSynchronized
  subst hsz
  have hD : ∀ z : wSt, va_D (wA (cX cy a) s.heap.size) ((cX cy a) z) := fun z => w_self (xOk cy a).1 hD0 z
  have hA : ∀ z : Nat, s.heap.size ≤ z → wA (cX cy a) s.heap.size z := fun _ h => Or.inr h
  have hS : va_S (wA (cX cy a) s.heap.size) s.heap s.heap [] := va_S.rf
  have hl := lv_entry ([.ref (a 1), .int x1]) (n := 2) (Nat.le_of_ble_eq_true rfl)
  rw [lg_entry_eq]
  generalize (lg_sl ([.ref (a 1), .int x1]) ++ List.replicate (2 - (lg_sl ([.ref (a 1), .int x1])).length) Slot.unset).toArray = ls at hl ⊢
  have hl : lv_has ls 2 [(0, .ref (a 1)), (1, .int x1)] := hl
  have h_1 := hts (.fieldLink RX4 9 RX4 "volumes" "[I") (by decide +kernel)
  have h_2 := (show ∀ w ∈ u_ws RX4 TX4 2, w ∈ wsX4_volumesOf by decide +kernel)
  have t_0 : (0 : Int32).toInt = 0 := rfl
  refine lv_aload_n hx hb dX4_volumesOf_0 rfl (lv_at hl 0 rfl) ?_
  refine lv_iload_n hx hb dX4_volumesOf_1 rfl (lv_at hl 1 rfl) ?_
  refine w_goI (va_runV (As := [.int x1]) (rest := []) ⟨hx, hb, hml, hown, hts⟩ (mX4_has l G cy a _ q x1) (cwV 1 hts gX4_volumesOf_X4_has rfl rfl rfl (by decide +kernel) ⟨Nat.le_of_ble_eq_true rfl, Nat.le_of_ble_eq_true rfl⟩) (w_pre (xOk cy a) (va_recv hK hP (ci := 4) (q0 := 1) rfl rfl) hK hP hD hS hA hN) rfl rfl hl.1 rfl (lv_room (Nat.le_of_ble_eq_true rfl)) dX4_volumesOf_2 ⟨Nat.le_of_ble_eq_true rfl, Nat.le_of_ble_eq_true rfl⟩) hD hS hA (fun H locs hP hS => ?_)
  have e_1 := tX4_has q x1
  refine lv_if_eq (tgt := 17) hx hb dX4_volumesOf_5 (by decide) (fun c_2 => ?_) (fun c_2 => ?_)
  · have e_3 := i_eq c_2
    refine lv_iconst (v := 0) hx hb dX4_volumesOf_17 (by decide) ?_
    exact W.iret (v := 0) hx hb hr (fun t ht hW => ⟨⟨0, q, rfl, ⟨(Eq.symm (show (fX4_volumesOf q x1) = 0 by (rw [fX4_volumesOf, if_pos c_2]); try rfl)), rfl⟩, w_ht ht hP⟩, hS.F ht⟩) hS.2.2 dX4_volumesOf_18
  · have e_3 := i_ne c_2
    refine lv_aload_n hx hb dX4_volumesOf_8 rfl (lv_at hl 0 rfl) ?_
    refine gfX4_9 hx hb hts h_2 hown hK hP h_1 dX4_volumesOf_9 ?_
    refine lv_iload_n hx hb dX4_volumesOf_12 rfl (lv_at hl 1 rfl) ?_
    have v_4 : vp_in x1 12 := vp_in_iff.mpr (by omega)
    refine ldX_0 (f := (q 0)) hx hb hK hP rfl v_4 dX4_volumesOf_13 ?_
    refine lv_goto (tgt := 18) hx hb dX4_volumesOf_14 (by decide) ?_
    exact W.iret (v := (q 0 (x1).toNatClampNeg)) hx hb hr (fun t ht hW => ⟨⟨(q 0 (x1).toNatClampNeg), q, rfl, ⟨(Eq.symm (show (fX4_volumesOf q x1) = (q 0 (x1).toNatClampNeg) by (rw [fX4_volumesOf, if_neg c_2]); try rfl)), rfl⟩, w_ht ht hP⟩, hS.F ht⟩) hS.2.2 dX4_volumesOf_18
end
section
set_option maxHeartbeats 4000000 in
set_option maxRecDepth 100000 in
theorem mX4_hasVolume (l : Launch) (G : va_G) (cy : ClassId) (a : Nat → Nat) (sz : Nat) (q : wSt) (x1 : Int32) (x2 : Int32) (g0 : (q 34 0).toInt ≤ 12) : CtI l yX4_hasVolume wsX4_hasVolume ({ frames := 2, cells := 0, slots := 0, locals := 42 }) G cy (cX cy a) xN sz q [.ref (a 1), .int x1, .int x2] (fX4_hasVolume q x1 x2) q := by
  refine Met.ofW (cc := cX4_hasVolume) (maxL := 3) (ret := (some .boolean)) (by decide) rfl ?_
  intro p e s m args below meth c s₁ B hml hv
  obtain ⟨rfl, hsz, hP, hK, hD0, hN⟩ := hv
  have hx := B.exec
  have hb := B.bytes
  have hr := B.returns
  have hts := atoms_spec (ws := wsX4_hasVolume) B.pre
  have hown : s.vm.findClass RX4 = some m.cls := findClass_of_methodNamed B.named
  have hlocks := B.notSynchronized
  subst hsz
  have hD : ∀ z : wSt, va_D (wA (cX cy a) s.heap.size) ((cX cy a) z) := fun z => w_self (xOk cy a).1 hD0 z
  have hA : ∀ z : Nat, s.heap.size ≤ z → wA (cX cy a) s.heap.size z := fun _ h => Or.inr h
  have hS : va_S (wA (cX cy a) s.heap.size) s.heap s.heap [] := va_S.rf
  have hl := lv_entry ([.ref (a 1), .int x1, .int x2]) (n := 3) (Nat.le_of_ble_eq_true rfl)
  rw [lg_entry_eq]
  generalize (lg_sl ([.ref (a 1), .int x1, .int x2]) ++ List.replicate (3 - (lg_sl ([.ref (a 1), .int x1, .int x2])).length) Slot.unset).toArray = ls at hl ⊢
  have hl : lv_has ls 3 [(0, .ref (a 1)), (1, .int x1), (2, .int x2)] := hl
  have t_0 : (0 : Int32).toInt = 0 := rfl
  have t_1 : (1 : Int32).toInt = 1 := rfl
  refine lv_iload_n hx hb dX4_hasVolume_0 rfl (lv_at hl 2 rfl) ?_
  refine lv_if_lt (tgt := 17) hx hb dX4_hasVolume_1 (by decide) (fun c_1 => ?_) (fun c_1 => ?_)
  · have e_2 := i_lt c_1
    refine lv_iconst (v := 0) hx hb dX4_hasVolume_17 (by decide) ?_
    exact W.zret (v := 0) hx hb hr rfl (fun t ht hW => ⟨⟨0, q, rfl, ⟨(Eq.symm (show (fX4_hasVolume q x1 x2) = 0 by (rw [fX4_hasVolume, if_pos c_1]); try rfl)), rfl⟩, w_ht ht hP⟩, hS.F ht⟩) hS.2.2 dX4_hasVolume_18
  · have e_2 := i_nlt c_1
    refine lv_iload_n hx hb dX4_hasVolume_4 rfl (lv_at hl 2 rfl) ?_
    refine lv_aload_n hx hb dX4_hasVolume_5 rfl (lv_at hl 0 rfl) ?_
    refine lv_iload_n hx hb dX4_hasVolume_6 rfl (lv_at hl 1 rfl) ?_
    refine w_goI (va_runV (As := [.int x1]) (rest := [.int x2]) ⟨hx, hb, hml, hown, hts⟩ (mX4_volumesOf l G cy a _ q x1 (by omega)) (cwV 1 hts gX4_hasVolume_X4_volumesOf rfl rfl rfl (by decide +kernel) ⟨Nat.le_of_ble_eq_true rfl, Nat.le_of_ble_eq_true rfl⟩) (w_pre (xOk cy a) (va_recv hK hP (ci := 4) (q0 := 1) rfl rfl) hK hP hD hS hA hN) rfl rfl hl.1 rfl (lv_room (Nat.le_of_ble_eq_true rfl)) dX4_hasVolume_7 ⟨Nat.le_of_ble_eq_true rfl, Nat.le_of_ble_eq_true rfl⟩) hD hS hA (fun H locs hP hS => ?_)
    refine lv_icmp_ge (tgt := 17) hx hb dX4_hasVolume_10 (by decide) (fun c_3 => ?_) (fun c_3 => ?_)
    · have e_4 := i_le c_3
      refine lv_iconst (v := 0) hx hb dX4_hasVolume_17 (by decide) ?_
      exact W.zret (v := 0) hx hb hr rfl (fun t ht hW => ⟨⟨0, q, rfl, ⟨(Eq.symm (show (fX4_hasVolume q x1 x2) = 0 by (rw [fX4_hasVolume, if_neg c_1, if_pos c_3]); try rfl)), rfl⟩, w_ht ht hP⟩, hS.F ht⟩) hS.2.2 dX4_hasVolume_18
    · have e_4 := i_nle c_3
      refine lv_iconst (v := 1) hx hb dX4_hasVolume_13 (by decide) ?_
      refine lv_goto (tgt := 18) hx hb dX4_hasVolume_14 (by decide) ?_
      exact W.zret (v := 1) hx hb hr rfl (fun t ht hW => ⟨⟨1, q, rfl, ⟨(Eq.symm (show (fX4_hasVolume q x1 x2) = 1 by (rw [fX4_hasVolume, if_neg c_1, if_neg c_3]); try rfl)), rfl⟩, w_ht ht hP⟩, hS.F ht⟩) hS.2.2 dX4_hasVolume_18
end
section
set_option maxHeartbeats 4000000 in
set_option maxRecDepth 100000 in
theorem mX4_add (l : Launch) (G : va_G) (cy : ClassId) (a : Nat → Nat) (sz : Nat) (q : wSt) (x1 : Int32) (g0 : 0 ≤ (q 34 0).toInt) (g1 : (q 34 0).toInt < 12) : CtI l yX4_add wsX4_add ({ frames := 0, cells := 0, slots := 0, locals := 0 }) G cy (cX cy a) xN sz q [.ref (a 1), .int x1] (fX4_add q x1).1 (fX4_add q x1).2 := by
  refine Met.ofW (cc := cX4_add) (maxL := 2) (ret := (some .int)) (by decide) rfl ?_
  intro p e s m args below meth c s₁ B hml hv
  obtain ⟨rfl, hsz, hP, hK, hD0, hN⟩ := hv
  have hx := B.exec
  have hb := B.bytes
  have hr := B.returns
  have hts := atoms_spec (ws := wsX4_add) B.pre
  have hown : s.vm.findClass RX4 = some m.cls := findClass_of_methodNamed B.named
  have hlocks := B.notSynchronized
  subst hsz
  have hD : ∀ z : wSt, va_D (wA (cX cy a) s.heap.size) ((cX cy a) z) := fun z => w_self (xOk cy a).1 hD0 z
  have hA : ∀ z : Nat, s.heap.size ≤ z → wA (cX cy a) s.heap.size z := fun _ h => Or.inr h
  have hS : va_S (wA (cX cy a) s.heap.size) s.heap s.heap [] := va_S.rf
  have hl := lv_entry ([.ref (a 1), .int x1]) (n := 2) (Nat.le_of_ble_eq_true rfl)
  rw [lg_entry_eq]
  generalize (lg_sl ([.ref (a 1), .int x1]) ++ List.replicate (2 - (lg_sl ([.ref (a 1), .int x1])).length) Slot.unset).toArray = ls at hl ⊢
  have hl : lv_has ls 2 [(0, .ref (a 1)), (1, .int x1)] := hl
  have h_1 := hts (.fieldLink RX4 9 RX4 "volumes" "[I") (by decide +kernel)
  have h_2 := (show ∀ w ∈ u_ws RX4 TX4 2, w ∈ wsX4_add by decide +kernel)
  have h_3 := hts (.fieldLink RX4 15 RX4 "came" "I") (by decide +kernel)
  have t_1 : (1 : Int32).toInt = 1 := rfl
  refine lv_aload_n hx hb dX4_add_0 rfl (lv_at hl 0 rfl) ?_
  refine gfX4_9 hx hb hts h_2 hown hK hP h_1 dX4_add_1 ?_
  refine lv_aload_n hx hb dX4_add_4 rfl (lv_at hl 0 rfl) ?_
  refine gfX4_15 (v := (q 34 0)) hx hb hts h_2 hown hK hP h_3 rfl dX4_add_5 ?_
  refine lv_iload_n hx hb dX4_add_8 rfl (lv_at hl 1 rfl) ?_
  have v_1 : vp_in (q 34 0) 12 := vp_in_iff.mpr (by omega)
  refine stX_0 (f := (q 0)) hx hb hK hP hD hS rfl v_1 dX4_add_9 (fun H locs hP hS => ?_)
  refine lv_aload_n hx hb dX4_add_10 rfl (lv_at hl 0 rfl) ?_
  refine lv_dup hx hb dX4_add_11 rfl ?_
  refine gfX4_15 (v := (q 34 0)) hx hb hts h_2 hown hK hP h_3 rfl dX4_add_12 ?_
  refine lv_iconst (v := 1) hx hb dX4_add_15 (by decide) ?_
  refine lv_iadd hx hb dX4_add_16 ?_
  refine pfX4_15 hx hb hts h_2 hown hK hP hD hS h_3 dX4_add_17 (fun H locs hP hS => ?_)
  refine lv_aload_n hx hb dX4_add_20 rfl (lv_at hl 0 rfl) ?_
  refine gfX4_15 (v := ((q 34 0) + 1)) hx hb hts h_2 hown hK hP h_3 rfl dX4_add_21 ?_
  refine lv_iconst (v := 1) hx hb dX4_add_24 (by decide) ?_
  refine lv_isub hx hb dX4_add_25 ?_
  exact W.iret (v := (((q 34 0) + 1) - 1)) hx hb hr (fun t ht hW => ⟨⟨(((q 34 0) + 1) - 1), (rset (rset q 0 (upd (q 0) (q 34 0).toNatClampNeg x1)) 34 (fun _ => ((q 34 0) + 1))), rfl, ⟨(Eq.symm (show (fX4_add q x1).1 = (((q 34 0) + 1) - 1) by (rw [fX4_add]); try rfl)), (Eq.symm (show (fX4_add q x1).2 = (rset (rset q 0 (upd (q 0) (q 34 0).toNatClampNeg x1)) 34 (fun _ => ((q 34 0) + 1))) by (rw [fX4_add]); try rfl))⟩, w_ht ht hP⟩, hS.F ht⟩) hS.2.2 dX4_add_26
end
section
set_option maxHeartbeats 4000000 in
set_option maxRecDepth 100000 in
theorem mX1_has (l : Launch) (G : va_G) (cy : ClassId) (a : Nat → Nat) (sz : Nat) (q : wSt) (x1 : Int32) : CtI l yX1_has wsX1_has ({ frames := 0, cells := 0, slots := 0, locals := 0 }) G cy (cX cy a) xN sz q [.ref (a 3), .int x1] (fX1_has q x1) q := by
  refine Met.ofW (cc := cX1_has) (maxL := 2) (ret := (some .boolean)) (by decide) rfl ?_
  intro p e s m args below meth c s₁ B hml hv
  obtain ⟨rfl, hsz, hP, hK, hD0, hN⟩ := hv
  have hx := B.exec
  have hb := B.bytes
  have hr := B.returns
  have hts := atoms_spec (ws := wsX1_has) B.pre
  have hown : s.vm.findClass RX1 = some m.cls := findClass_of_methodNamed B.named
  have hlocks := B.notSynchronized
  subst hsz
  have hD : ∀ z : wSt, va_D (wA (cX cy a) s.heap.size) ((cX cy a) z) := fun z => w_self (xOk cy a).1 hD0 z
  have hA : ∀ z : Nat, s.heap.size ≤ z → wA (cX cy a) s.heap.size z := fun _ h => Or.inr h
  have hS : va_S (wA (cX cy a) s.heap.size) s.heap s.heap [] := va_S.rf
  have hl := lv_entry ([.ref (a 3), .int x1]) (n := 2) (Nat.le_of_ble_eq_true rfl)
  rw [lg_entry_eq]
  generalize (lg_sl ([.ref (a 3), .int x1]) ++ List.replicate (2 - (lg_sl ([.ref (a 3), .int x1])).length) Slot.unset).toArray = ls at hl ⊢
  have hl : lv_has ls 2 [(0, .ref (a 3)), (1, .int x1)] := hl
  have h_1 := hts (.fieldLink RX1 42 RX1 "came" "I") (by decide +kernel)
  have h_2 := (show ∀ w ∈ u_ws RX1 TX1 13, w ∈ wsX1_has by decide +kernel)
  have t_0 : (0 : Int32).toInt = 0 := rfl
  have t_1 : (1 : Int32).toInt = 1 := rfl
  refine lv_iload_n hx hb dX1_has_0 rfl (lv_at hl 1 rfl) ?_
  refine lv_if_lt (tgt := 16) hx hb dX1_has_1 (by decide) (fun c_1 => ?_) (fun c_1 => ?_)
  · have e_2 := i_lt c_1
    refine lv_iconst (v := 0) hx hb dX1_has_16 (by decide) ?_
    exact W.zret (v := 0) hx hb hr rfl (fun t ht hW => ⟨⟨0, q, rfl, ⟨(Eq.symm (show (fX1_has q x1) = 0 by (rw [fX1_has, if_pos c_1]); try rfl)), rfl⟩, w_ht ht hP⟩, hS.F ht⟩) hS.2.2 dX1_has_17
  · have e_2 := i_nlt c_1
    refine lv_iload_n hx hb dX1_has_4 rfl (lv_at hl 1 rfl) ?_
    refine lv_aload_n hx hb dX1_has_5 rfl (lv_at hl 0 rfl) ?_
    refine gfX1_42 (v := (q 36 0)) hx hb hts h_2 hown hK hP h_1 rfl dX1_has_6 ?_
    refine lv_icmp_ge (tgt := 16) hx hb dX1_has_9 (by decide) (fun c_3 => ?_) (fun c_3 => ?_)
    · have e_4 := i_le c_3
      refine lv_iconst (v := 0) hx hb dX1_has_16 (by decide) ?_
      exact W.zret (v := 0) hx hb hr rfl (fun t ht hW => ⟨⟨0, q, rfl, ⟨(Eq.symm (show (fX1_has q x1) = 0 by (rw [fX1_has, if_neg c_1, if_pos c_3]); try rfl)), rfl⟩, w_ht ht hP⟩, hS.F ht⟩) hS.2.2 dX1_has_17
    · have e_4 := i_nle c_3
      refine lv_iconst (v := 1) hx hb dX1_has_12 (by decide) ?_
      refine lv_goto (tgt := 17) hx hb dX1_has_13 (by decide) ?_
      exact W.zret (v := 1) hx hb hr rfl (fun t ht hW => ⟨⟨1, q, rfl, ⟨(Eq.symm (show (fX1_has q x1) = 1 by (rw [fX1_has, if_neg c_1, if_neg c_3]); try rfl)), rfl⟩, w_ht ht hP⟩, hS.F ht⟩) hS.2.2 dX1_has_17
end
section
set_option maxHeartbeats 4000000 in
set_option maxRecDepth 100000 in
theorem mX1_isAt (l : Launch) (G : va_G) (cy : ClassId) (a : Nat → Nat) (sz : Nat) (q : wSt) (x1 : Int32) (x2 : Int32) (g0 : (q 36 0).toInt ≤ 200) : CtI l yX1_isAt wsX1_isAt ({ frames := 1, cells := 0, slots := 0, locals := 21 }) G cy (cX cy a) xN sz q [.ref (a 3), .int x1, .int x2] (fX1_isAt q x1 x2) q := by
  refine Met.ofW (cc := cX1_isAt) (maxL := 3) (ret := (some .boolean)) (by decide) rfl ?_
  intro p e s m args below meth c s₁ B hml hv
  obtain ⟨rfl, hsz, hP, hK, hD0, hN⟩ := hv
  have hx := B.exec
  have hb := B.bytes
  have hr := B.returns
  have hts := atoms_spec (ws := wsX1_isAt) B.pre
  have hown : s.vm.findClass RX1 = some m.cls := findClass_of_methodNamed B.named
  have hlocks := B.notSynchronized
  subst hsz
  have hD : ∀ z : wSt, va_D (wA (cX cy a) s.heap.size) ((cX cy a) z) := fun z => w_self (xOk cy a).1 hD0 z
  have hA : ∀ z : Nat, s.heap.size ≤ z → wA (cX cy a) s.heap.size z := fun _ h => Or.inr h
  have hS : va_S (wA (cX cy a) s.heap.size) s.heap s.heap [] := va_S.rf
  have hl := lv_entry ([.ref (a 3), .int x1, .int x2]) (n := 3) (Nat.le_of_ble_eq_true rfl)
  rw [lg_entry_eq]
  generalize (lg_sl ([.ref (a 3), .int x1, .int x2]) ++ List.replicate (3 - (lg_sl ([.ref (a 3), .int x1, .int x2])).length) Slot.unset).toArray = ls at hl ⊢
  have hl : lv_has ls 3 [(0, .ref (a 3)), (1, .int x1), (2, .int x2)] := hl
  have h_1 := hts (.fieldLink RX1 9 RX1 "where" "[I") (by decide +kernel)
  have h_2 := (show ∀ w ∈ u_ws RX1 TX1 13, w ∈ wsX1_isAt by decide +kernel)
  have t_0 : (0 : Int32).toInt = 0 := rfl
  have t_1 : (1 : Int32).toInt = 1 := rfl
  refine lv_aload_n hx hb dX1_isAt_0 rfl (lv_at hl 0 rfl) ?_
  refine lv_iload_n hx hb dX1_isAt_1 rfl (lv_at hl 1 rfl) ?_
  refine w_goI (va_runV (As := [.int x1]) (rest := []) ⟨hx, hb, hml, hown, hts⟩ (mX1_has l G cy a _ q x1) (cwV 1 hts gX1_isAt_X1_has rfl rfl rfl (by decide +kernel) ⟨Nat.le_of_ble_eq_true rfl, Nat.le_of_ble_eq_true rfl⟩) (w_pre (xOk cy a) (va_recv hK hP (ci := 1) (q0 := 3) rfl rfl) hK hP hD hS hA hN) rfl rfl hl.1 rfl (lv_room (Nat.le_of_ble_eq_true rfl)) dX1_isAt_2 ⟨Nat.le_of_ble_eq_true rfl, Nat.le_of_ble_eq_true rfl⟩) hD hS hA (fun H locs hP hS => ?_)
  have e_1 := tX1_has q x1
  refine lv_if_eq (tgt := 22) hx hb dX1_isAt_5 (by decide) (fun c_2 => ?_) (fun c_2 => ?_)
  · have e_3 := i_eq c_2
    refine lv_iconst (v := 0) hx hb dX1_isAt_22 (by decide) ?_
    exact W.zret (v := 0) hx hb hr rfl (fun t ht hW => ⟨⟨0, q, rfl, ⟨(Eq.symm (show (fX1_isAt q x1 x2) = 0 by (rw [fX1_isAt, if_pos c_2]); try rfl)), rfl⟩, w_ht ht hP⟩, hS.F ht⟩) hS.2.2 dX1_isAt_23
  · have e_3 := i_ne c_2
    refine lv_aload_n hx hb dX1_isAt_8 rfl (lv_at hl 0 rfl) ?_
    refine gfX1_9 hx hb hts h_2 hown hK hP h_1 dX1_isAt_9 ?_
    refine lv_iload_n hx hb dX1_isAt_12 rfl (lv_at hl 1 rfl) ?_
    have v_4 : vp_in x1 200 := vp_in_iff.mpr (by omega)
    refine ldX_6 (f := (q 6)) hx hb hK hP rfl v_4 dX1_isAt_13 ?_
    refine lv_iload_n hx hb dX1_isAt_14 rfl (lv_at hl 2 rfl) ?_
    refine lv_icmp_ne (tgt := 22) hx hb dX1_isAt_15 (by decide) (fun c_5 => ?_) (fun c_5 => ?_)
    · have e_6 := i_ne c_5
      refine lv_iconst (v := 0) hx hb dX1_isAt_22 (by decide) ?_
      exact W.zret (v := 0) hx hb hr rfl (fun t ht hW => ⟨⟨0, q, rfl, ⟨(Eq.symm (show (fX1_isAt q x1 x2) = 0 by (rw [fX1_isAt, if_neg c_2, if_neg c_5]); try rfl)), rfl⟩, w_ht ht hP⟩, hS.F ht⟩) hS.2.2 dX1_isAt_23
    · have e_6 := i_eq c_5
      refine lv_iconst (v := 1) hx hb dX1_isAt_18 (by decide) ?_
      refine lv_goto (tgt := 23) hx hb dX1_isAt_19 (by decide) ?_
      exact W.zret (v := 1) hx hb hr rfl (fun t ht hW => ⟨⟨1, q, rfl, ⟨(Eq.symm (show (fX1_isAt q x1 x2) = 1 by (rw [fX1_isAt, if_neg c_2, if_pos c_5]); try rfl)), rfl⟩, w_ht ht hP⟩, hS.F ht⟩) hS.2.2 dX1_isAt_23
end
section
set_option maxHeartbeats 4000000 in
set_option maxRecDepth 100000 in
theorem mX1_slot (l : Launch) (G : va_G) (cy : ClassId) (a : Nat → Nat) (sz : Nat) (q : wSt) (x1 : Int32) (x2 : Int32) : CtI l yX1_slot wsX1_slot ({ frames := 0, cells := 0, slots := 0, locals := 0 }) G cy (cX cy a) xN sz q [.ref (a 3), .int x1, .int x2] (fX1_slot q x1 x2) q := by
  refine Met.ofW (cc := cX1_slot) (maxL := 3) (ret := (some .int)) (by decide) rfl ?_
  intro p e s m args below meth c s₁ B hml hv
  obtain ⟨rfl, hsz, hP, hK, hD0, hN⟩ := hv
  have hx := B.exec
  have hb := B.bytes
  have hr := B.returns
  have hts := atoms_spec (ws := wsX1_slot) B.pre
  have hown : s.vm.findClass RX1 = some m.cls := findClass_of_methodNamed B.named
  have hlocks := B.notSynchronized
  subst hsz
  have hD : ∀ z : wSt, va_D (wA (cX cy a) s.heap.size) ((cX cy a) z) := fun z => w_self (xOk cy a).1 hD0 z
  have hA : ∀ z : Nat, s.heap.size ≤ z → wA (cX cy a) s.heap.size z := fun _ h => Or.inr h
  have hS : va_S (wA (cX cy a) s.heap.size) s.heap s.heap [] := va_S.rf
  have hl := lv_entry ([.ref (a 3), .int x1, .int x2]) (n := 3) (Nat.le_of_ble_eq_true rfl)
  rw [lg_entry_eq]
  generalize (lg_sl ([.ref (a 3), .int x1, .int x2]) ++ List.replicate (3 - (lg_sl ([.ref (a 3), .int x1, .int x2])).length) Slot.unset).toArray = ls at hl ⊢
  have hl : lv_has ls 3 [(0, .ref (a 3)), (1, .int x1), (2, .int x2)] := hl
  have t_4 : (4 : Int32).toInt = 4 := rfl
  refine lv_iload_n hx hb dX1_slot_0 rfl (lv_at hl 1 rfl) ?_
  refine lv_iconst (v := 4) hx hb dX1_slot_1 (by decide) ?_
  refine lv_imul hx hb dX1_slot_2 ?_
  refine lv_iload_n hx hb dX1_slot_3 rfl (lv_at hl 2 rfl) ?_
  refine lv_iadd hx hb dX1_slot_4 ?_
  exact W.iret (v := ((x1 * 4) + x2)) hx hb hr (fun t ht hW => ⟨⟨((x1 * 4) + x2), q, rfl, ⟨(Eq.symm (show (fX1_slot q x1 x2) = ((x1 * 4) + x2) by (rw [fX1_slot]); try rfl)), rfl⟩, w_ht ht hP⟩, hS.F ht⟩) hS.2.2 dX1_slot_5
end
section
set_option maxHeartbeats 4000000 in
set_option maxRecDepth 100000 in
theorem mX1_inBox (l : Launch) (G : va_G) (cy : ClassId) (a : Nat → Nat) (sz : Nat) (q : wSt) (x1 : Int32) (g0 : 0 ≤ (x1).toInt) (g1 : (x1).toInt < 200) : CtI l yX1_inBox wsX1_inBox ({ frames := 0, cells := 0, slots := 0, locals := 0 }) G cy (cX cy a) xN sz q [.ref (a 3), .int x1] (fX1_inBox q x1) q := by
  refine Met.ofW (cc := cX1_inBox) (maxL := 2) (ret := (some .boolean)) (by decide) rfl ?_
  intro p e s m args below meth c s₁ B hml hv
  obtain ⟨rfl, hsz, hP, hK, hD0, hN⟩ := hv
  have hx := B.exec
  have hb := B.bytes
  have hr := B.returns
  have hts := atoms_spec (ws := wsX1_inBox) B.pre
  have hown : s.vm.findClass RX1 = some m.cls := findClass_of_methodNamed B.named
  have hlocks := B.notSynchronized
  subst hsz
  have hD : ∀ z : wSt, va_D (wA (cX cy a) s.heap.size) ((cX cy a) z) := fun z => w_self (xOk cy a).1 hD0 z
  have hA : ∀ z : Nat, s.heap.size ≤ z → wA (cX cy a) s.heap.size z := fun _ h => Or.inr h
  have hS : va_S (wA (cX cy a) s.heap.size) s.heap s.heap [] := va_S.rf
  have hl := lv_entry ([.ref (a 3), .int x1]) (n := 2) (Nat.le_of_ble_eq_true rfl)
  rw [lg_entry_eq]
  generalize (lg_sl ([.ref (a 3), .int x1]) ++ List.replicate (2 - (lg_sl ([.ref (a 3), .int x1])).length) Slot.unset).toArray = ls at hl ⊢
  have hl : lv_has ls 2 [(0, .ref (a 3)), (1, .int x1)] := hl
  have h_1 := hts (.fieldLink RX1 9 RX1 "where" "[I") (by decide +kernel)
  have h_2 := (show ∀ w ∈ u_ws RX1 TX1 13, w ∈ wsX1_inBox by decide +kernel)
  have t_0 : (0 : Int32).toInt = 0 := rfl
  have t_1 : (1 : Int32).toInt = 1 := rfl
  have t_2 : (2 : Int32).toInt = 2 := rfl
  have t_3 : (3 : Int32).toInt = 3 := rfl
  refine lv_aload_n hx hb dX1_inBox_0 rfl (lv_at hl 0 rfl) ?_
  refine gfX1_9 hx hb hts h_2 hown hK hP h_1 dX1_inBox_1 ?_
  refine lv_iload_n hx hb dX1_inBox_4 rfl (lv_at hl 1 rfl) ?_
  have v_1 : vp_in x1 200 := vp_in_iff.mpr (by omega)
  refine ldX_6 (f := (q 6)) hx hb hK hP rfl v_1 dX1_inBox_5 ?_
  refine lv_iconst (v := 2) hx hb dX1_inBox_6 (by decide) ?_
  refine lv_icmp_eq (tgt := 20) hx hb dX1_inBox_7 (by decide) (fun c_2 => ?_) (fun c_2 => ?_)
  · have e_3 := i_eq c_2
    refine lv_iconst (v := 1) hx hb dX1_inBox_20 (by decide) ?_
    refine lv_goto (tgt := 25) hx hb dX1_inBox_21 (by decide) ?_
    exact W.zret (v := 1) hx hb hr rfl (fun t ht hW => ⟨⟨1, q, rfl, ⟨(Eq.symm (show (fX1_inBox q x1) = 1 by (rw [fX1_inBox, if_pos c_2]); try rfl)), rfl⟩, w_ht ht hP⟩, hS.F ht⟩) hS.2.2 dX1_inBox_25
  · have e_3 := i_ne c_2
    refine lv_aload_n hx hb dX1_inBox_10 rfl (lv_at hl 0 rfl) ?_
    refine gfX1_9 hx hb hts h_2 hown hK hP h_1 dX1_inBox_11 ?_
    refine lv_iload_n hx hb dX1_inBox_14 rfl (lv_at hl 1 rfl) ?_
    have v_4 : vp_in x1 200 := vp_in_iff.mpr (by omega)
    refine ldX_6 (f := (q 6)) hx hb hK hP rfl v_4 dX1_inBox_15 ?_
    refine lv_iconst (v := 3) hx hb dX1_inBox_16 (by decide) ?_
    refine lv_icmp_ne (tgt := 24) hx hb dX1_inBox_17 (by decide) (fun c_5 => ?_) (fun c_5 => ?_)
    · have e_6 := i_ne c_5
      refine lv_iconst (v := 0) hx hb dX1_inBox_24 (by decide) ?_
      exact W.zret (v := 0) hx hb hr rfl (fun t ht hW => ⟨⟨0, q, rfl, ⟨(Eq.symm (show (fX1_inBox q x1) = 0 by (rw [fX1_inBox, if_neg c_2, if_neg c_5]); try rfl)), rfl⟩, w_ht ht hP⟩, hS.F ht⟩) hS.2.2 dX1_inBox_25
    · have e_6 := i_eq c_5
      refine lv_iconst (v := 1) hx hb dX1_inBox_20 (by decide) ?_
      refine lv_goto (tgt := 25) hx hb dX1_inBox_21 (by decide) ?_
      exact W.zret (v := 1) hx hb hr rfl (fun t ht hW => ⟨⟨1, q, rfl, ⟨(Eq.symm (show (fX1_inBox q x1) = 1 by (rw [fX1_inBox, if_neg c_2, if_pos c_5]); try rfl)), rfl⟩, w_ht ht hP⟩, hS.F ht⟩) hS.2.2 dX1_inBox_25
end
section
set_option maxHeartbeats 4000000 in
set_option maxRecDepth 100000 in
theorem mX1_tally (l : Launch) (G : va_G) (cy : ClassId) (a : Nat → Nat) (sz : Nat) (q : wSt) (x1 : Int32) (x2 : Int32) (g0 : 0 ≤ (x1).toInt) (g1 : (x1).toInt < 200) : CtV l yX1_tally wsX1_tally ({ frames := 1, cells := 0, slots := 0, locals := 22 }) G cy (cX cy a) xN sz q [.ref (a 3), .int x1, .int x2] (fX1_tally q x1 x2) := by
  refine Met.ofW (cc := cX1_tally) (maxL := 4) (ret := none) (by decide) rfl ?_
  intro p e s m args below meth c s₁ B hml hv
  obtain ⟨rfl, hsz, hP, hK, hD0, hN⟩ := hv
  have hx := B.exec
  have hb := B.bytes
  have hr := B.returns
  have hts := atoms_spec (ws := wsX1_tally) B.pre
  have hown : s.vm.findClass RX1 = some m.cls := findClass_of_methodNamed B.named
  have hlocks := B.notSynchronized
  subst hsz
  have hD : ∀ z : wSt, va_D (wA (cX cy a) s.heap.size) ((cX cy a) z) := fun z => w_self (xOk cy a).1 hD0 z
  have hA : ∀ z : Nat, s.heap.size ≤ z → wA (cX cy a) s.heap.size z := fun _ h => Or.inr h
  have hS : va_S (wA (cX cy a) s.heap.size) s.heap s.heap [] := va_S.rf
  have hl := lv_entry ([.ref (a 3), .int x1, .int x2]) (n := 4) (Nat.le_of_ble_eq_true rfl)
  rw [lg_entry_eq]
  generalize (lg_sl ([.ref (a 3), .int x1, .int x2]) ++ List.replicate (4 - (lg_sl ([.ref (a 3), .int x1, .int x2])).length) Slot.unset).toArray = ls at hl ⊢
  have hl : lv_has ls 4 [(0, .ref (a 3)), (1, .int x1), (2, .int x2)] := hl
  have h_1 := hts (.fieldLink RX1 15 RX1 "title" "[I") (by decide +kernel)
  have h_2 := (show ∀ w ∈ u_ws RX1 TX1 13, w ∈ wsX1_tally by decide +kernel)
  have h_3 := hts (.fieldLink RX1 18 RX1 "volume" "[I") (by decide +kernel)
  have h_4 := hts (.fieldLink RX1 9 RX1 "where" "[I") (by decide +kernel)
  have h_5 := hts (.fieldLink RX1 39 RX1 "shelved" "[I") (by decide +kernel)
  have h_6 := hts (.fieldLink RX1 46 RX1 "inBoxes" "I") (by decide +kernel)
  have h_7 := hts (.fieldLink RX1 49 RX1 "lost" "I") (by decide +kernel)
  have t_0 : (0 : Int32).toInt = 0 := rfl
  have t_5 : (5 : Int32).toInt = 5 := rfl
  have t_48 : (48 : Int32).toInt = 48 := rfl
  refine lv_aload_n hx hb dX1_tally_0 rfl (lv_at hl 0 rfl) ?_
  refine lv_aload_n hx hb dX1_tally_1 rfl (lv_at hl 0 rfl) ?_
  refine gfX1_15 hx hb hts h_2 hown hK hP h_1 dX1_tally_2 ?_
  refine lv_iload_n hx hb dX1_tally_5 rfl (lv_at hl 1 rfl) ?_
  have v_1 : vp_in x1 200 := vp_in_iff.mpr (by omega)
  refine ldX_7 (f := (q 7)) hx hb hK hP rfl v_1 dX1_tally_6 ?_
  refine lv_aload_n hx hb dX1_tally_7 rfl (lv_at hl 0 rfl) ?_
  refine gfX1_18 hx hb hts h_2 hown hK hP h_3 dX1_tally_8 ?_
  refine lv_iload_n hx hb dX1_tally_11 rfl (lv_at hl 1 rfl) ?_
  have v_2 : vp_in x1 200 := vp_in_iff.mpr (by omega)
  refine ldX_8 (f := (q 8)) hx hb hK hP rfl v_2 dX1_tally_12 ?_
  refine w_goI (va_runV (As := [.int (q 7 (x1).toNatClampNeg), .int (q 8 (x1).toNatClampNeg)]) (rest := []) ⟨hx, hb, hml, hown, hts⟩ (mX1_slot l G cy a _ q (q 7 (x1).toNatClampNeg) (q 8 (x1).toNatClampNeg)) (cwV 2 hts gX1_tally_X1_slot rfl rfl rfl (by decide +kernel) ⟨Nat.le_of_ble_eq_true rfl, Nat.le_of_ble_eq_true rfl⟩) (w_pre (xOk cy a) (va_recv hK hP (ci := 1) (q0 := 3) rfl rfl) hK hP hD hS hA hN) rfl rfl hl.1 rfl (lv_room (Nat.le_of_ble_eq_true rfl)) dX1_tally_13 ⟨Nat.le_of_ble_eq_true rfl, Nat.le_of_ble_eq_true rfl⟩) hD hS hA (fun H locs hP hS => ?_)
  refine lv_istore_n (lv' := [(3, .int (fX1_slot q (q 7 (x1).toNatClampNeg) (q 8 (x1).toNatClampNeg))), (0, .ref (a 3)), (1, .int x1), (2, .int x2)]) hx hb dX1_tally_16 rfl hl (by decide) rfl (fun ls hl => ?_)
  refine lv_aload_n hx hb dX1_tally_17 rfl (lv_at hl 1 rfl) ?_
  refine gfX1_9 hx hb hts h_2 hown hK hP h_4 dX1_tally_18 ?_
  refine lv_iload_n hx hb dX1_tally_21 rfl (lv_at hl 2 rfl) ?_
  have v_3 : vp_in x1 200 := vp_in_iff.mpr (by omega)
  refine ldX_6 (f := (q 6)) hx hb hK hP rfl v_3 dX1_tally_22 ?_
  have J_1 : ∀ (v : wSt) (H : Heap) (ls : Array Slot) (locs : List Loc), (fX1_tally_j1 q x1 x2) = v → va_P G vwCl ((cX cy a) v) H → va_S (wA (cX cy a) s.heap.size) s.heap H locs → lv_has ls 4 [(0, .ref (a 3)), (1, .int x1), (2, .int x2)] → W p l e ({ frames := 1, cells := 0, slots := 0, locals := 22 }) s m [.ref (a 3), .int x1, .int x2].toArray below meth c H locs 0 0 (MQ below (wQv G (cX cy a) s.heap.size (fX1_tally q x1 x2)) [.ref (a 3), .int x1, .int x2].toArray s 0 0 (wA (cX cy a) s.heap.size)) (F0 m 49 ls []) := by
    intro v H ls locs hv hP hS hl
    subst hv
    refine lv_aload_n hx hb dX1_tally_49 rfl (lv_at hl 0 rfl) ?_
    refine lv_iload_n hx hb dX1_tally_50 rfl (lv_at hl 1 rfl) ?_
    refine w_goI (va_runV (As := [.int x1]) (rest := []) ⟨hx, hb, hml, hown, hts⟩ (mX1_inBox l G cy a _ (fX1_tally_j1 q x1 x2) x1 (by omega) (by omega)) (cwV 1 hts gX1_tally_X1_inBox rfl rfl rfl (by decide +kernel) ⟨Nat.le_of_ble_eq_true rfl, Nat.le_of_ble_eq_true rfl⟩) (w_pre (xOk cy a) (va_recv hK hP (ci := 1) (q0 := 3) rfl rfl) hK hP hD hS hA hN) rfl rfl hl.1 rfl (lv_room (Nat.le_of_ble_eq_true rfl)) dX1_tally_51 ⟨Nat.le_of_ble_eq_true rfl, Nat.le_of_ble_eq_true rfl⟩) hD hS hA (fun H locs hP hS => ?_)
    have J_2 : ∀ (v : wSt) (H : Heap) (ls : Array Slot) (locs : List Loc), (fX1_tally_j2 q x1 x2) = v → va_P G vwCl ((cX cy a) v) H → va_S (wA (cX cy a) s.heap.size) s.heap H locs → lv_has ls 4 [(0, .ref (a 3)), (1, .int x1), (2, .int x2)] → W p l e ({ frames := 1, cells := 0, slots := 0, locals := 22 }) s m [.ref (a 3), .int x1, .int x2].toArray below meth c H locs 0 0 (MQ below (wQv G (cX cy a) s.heap.size (fX1_tally q x1 x2)) [.ref (a 3), .int x1, .int x2].toArray s 0 0 (wA (cX cy a) s.heap.size)) (F0 m 67 ls []) := by
      intro v H ls locs hv hP hS hl
      subst hv
      refine lv_aload_n hx hb dX1_tally_67 rfl (lv_at hl 0 rfl) ?_
      refine gfX1_9 hx hb hts h_2 hown hK hP h_4 dX1_tally_68 ?_
      refine lv_iload_n hx hb dX1_tally_71 rfl (lv_at hl 1 rfl) ?_
      have v_14 : vp_in x1 200 := vp_in_iff.mpr (by omega)
      refine ldX_6 (f := ((fX1_tally_j2 q x1 x2) 6)) hx hb hK hP rfl v_14 dX1_tally_72 ?_
      refine lv_iconst (v := 5) hx hb dX1_tally_73 (by decide) ?_
      refine lv_icmp_ne (tgt := 87) hx hb dX1_tally_74 (by decide) (fun c_15 => ?_) (fun c_15 => ?_)
      · have e_16 := i_ne c_15
        exact W.vret hx hb hr (fun t ht hW => ⟨⟨(fX1_tally_j2 q x1 x2), rfl, (Eq.symm (show (fX1_tally q x1 x2) = (fX1_tally_j2 q x1 x2) by (rw [fX1_tally, if_neg c_15]); try rfl)), w_ht ht hP⟩, hS.F ht⟩) hS.2.2 dX1_tally_87
      · have e_16 := i_eq c_15
        refine lv_aload_n hx hb dX1_tally_77 rfl (lv_at hl 0 rfl) ?_
        refine lv_dup hx hb dX1_tally_78 rfl ?_
        refine gfX1_49 (v := ((fX1_tally_j2 q x1 x2) 38 0)) hx hb hts h_2 hown hK hP h_7 rfl dX1_tally_79 ?_
        refine lv_iload_n hx hb dX1_tally_82 rfl (lv_at hl 2 rfl) ?_
        refine lv_iadd hx hb dX1_tally_83 ?_
        refine pfX1_49 hx hb hts h_2 hown hK hP hD hS h_7 dX1_tally_84 (fun H locs hP hS => ?_)
        exact W.vret hx hb hr (fun t ht hW => ⟨⟨(rset (fX1_tally_j2 q x1 x2) 38 (fun _ => (((fX1_tally_j2 q x1 x2) 38 0) + x2))), rfl, (Eq.symm (show (fX1_tally q x1 x2) = (rset (fX1_tally_j2 q x1 x2) 38 (fun _ => (((fX1_tally_j2 q x1 x2) 38 0) + x2))) by (rw [fX1_tally, if_pos c_15]); try rfl)), w_ht ht hP⟩, hS.F ht⟩) hS.2.2 dX1_tally_87
    refine lv_if_eq (tgt := 67) hx hb dX1_tally_54 (by decide) (fun c_12 => ?_) (fun c_12 => ?_)
    · have e_13 := i_eq c_12
      exact J_2 (fX1_tally_j1 q x1 x2) _ _ _ (by (rw [fX1_tally_j2, if_pos c_12]); try rfl) hP hS (lv_sub hl [0, 1, 2] rfl)
    · have e_13 := i_ne c_12
      refine lv_aload_n hx hb dX1_tally_57 rfl (lv_at hl 0 rfl) ?_
      refine lv_dup hx hb dX1_tally_58 rfl ?_
      refine gfX1_46 (v := ((fX1_tally_j1 q x1 x2) 37 0)) hx hb hts h_2 hown hK hP h_6 rfl dX1_tally_59 ?_
      refine lv_iload_n hx hb dX1_tally_62 rfl (lv_at hl 2 rfl) ?_
      refine lv_iadd hx hb dX1_tally_63 ?_
      refine pfX1_46 hx hb hts h_2 hown hK hP hD hS h_6 dX1_tally_64 (fun H locs hP hS => ?_)
      exact J_2 (rset (fX1_tally_j1 q x1 x2) 37 (fun _ => (((fX1_tally_j1 q x1 x2) 37 0) + x2))) _ _ _ (by (rw [fX1_tally_j2, if_neg c_12]); try rfl) hP hS (lv_sub hl [0, 1, 2] rfl)
  refine lv_if_ne (tgt := 49) hx hb dX1_tally_23 (by decide) (fun c_4 => ?_) (fun c_4 => ?_)
  · have e_5 := i_ne c_4
    exact J_1 (q) _ _ _ (by (rw [fX1_tally_j1, if_neg c_4]); try rfl) hP hS (lv_sub hl [1, 2, 3] rfl)
  · have e_5 := i_eq c_4
    refine lv_iload_n hx hb dX1_tally_26 rfl (lv_at hl 0 rfl) ?_
    refine lv_if_lt (tgt := 49) hx hb dX1_tally_27 (by decide) (fun c_6 => ?_) (fun c_6 => ?_)
    · have e_7 := i_lt c_6
      exact J_1 (q) _ _ _ (by (rw [fX1_tally_j1, if_pos c_4, if_pos c_6]); try rfl) hP hS (lv_sub hl [1, 2, 3] rfl)
    · have e_7 := i_nlt c_6
      refine lv_iload_n hx hb dX1_tally_30 rfl (lv_at hl 0 rfl) ?_
      refine lv_aload_n hx hb dX1_tally_31 rfl (lv_at hl 1 rfl) ?_
      refine gfX1_39 hx hb hts h_2 hown hK hP h_5 dX1_tally_32 ?_
      refine va_alen hx hb hK hP 22 0 rfl rfl (v := 48) rfl dX1_tally_35 ?_
      refine lv_icmp_ge (tgt := 49) hx hb dX1_tally_36 (by decide) (fun c_8 => ?_) (fun c_8 => ?_)
      · have e_9 := i_le c_8
        exact J_1 (q) _ _ _ (by (rw [fX1_tally_j1, if_pos c_4, if_neg c_6, if_pos c_8]); try rfl) hP hS (lv_sub hl [1, 2, 3] rfl)
      · have e_9 := i_nle c_8
        refine lv_aload_n hx hb dX1_tally_39 rfl (lv_at hl 1 rfl) ?_
        refine gfX1_39 hx hb hts h_2 hown hK hP h_5 dX1_tally_40 ?_
        refine lv_iload_n hx hb dX1_tally_43 rfl (lv_at hl 0 rfl) ?_
        refine lv_dup2_11 hx hb dX1_tally_44 rfl rfl ?_
        have v_10 : vp_in (fX1_slot q (q 7 (x1).toNatClampNeg) (q 8 (x1).toNatClampNeg)) 48 := vp_in_iff.mpr (by omega)
        refine ldX_15 (f := (q 15)) hx hb hK hP rfl v_10 dX1_tally_45 ?_
        refine lv_iload_n hx hb dX1_tally_46 rfl (lv_at hl 3 rfl) ?_
        refine lv_iadd hx hb dX1_tally_47 ?_
        have v_11 : vp_in (fX1_slot q (q 7 (x1).toNatClampNeg) (q 8 (x1).toNatClampNeg)) 48 := vp_in_iff.mpr (by omega)
        refine stX_15 (f := (q 15)) hx hb hK hP hD hS rfl v_11 dX1_tally_48 (fun H locs hP hS => ?_)
        exact J_1 (rset q 15 (upd (q 15) (fX1_slot q (q 7 (x1).toNatClampNeg) (q 8 (x1).toNatClampNeg)).toNatClampNeg ((q 15 (fX1_slot q (q 7 (x1).toNatClampNeg) (q 8 (x1).toNatClampNeg)).toNatClampNeg) + x2))) _ _ _ (by (rw [fX1_tally_j1, if_pos c_4, if_neg c_6, if_neg c_8]); try rfl) hP hS (lv_sub hl [1, 2, 3] rfl)
end
section
set_option maxHeartbeats 4000000 in
set_option maxRecDepth 100000 in
theorem mX1_moveTo (l : Launch) (G : va_G) (cy : ClassId) (a : Nat → Nat) (sz : Nat) (q : wSt) (x1 : Int32) (x2 : Int32) (g0 : 0 ≤ (x1).toInt) (g1 : (x1).toInt < 200) : CtV l yX1_moveTo wsX1_moveTo ({ frames := 2, cells := 0, slots := 0, locals := 45 }) G cy (cX cy a) xN sz q [.ref (a 3), .int x1, .int x2] (fX1_moveTo q x1 x2) := by
  refine Met.ofW (cc := cX1_moveTo) (maxL := 3) (ret := none) (by decide) rfl ?_
  intro p e s m args below meth c s₁ B hml hv
  obtain ⟨rfl, hsz, hP, hK, hD0, hN⟩ := hv
  have hx := B.exec
  have hb := B.bytes
  have hr := B.returns
  have hts := atoms_spec (ws := wsX1_moveTo) B.pre
  have hown : s.vm.findClass RX1 = some m.cls := findClass_of_methodNamed B.named
  have hlocks := B.notSynchronized
  subst hsz
  have hD : ∀ z : wSt, va_D (wA (cX cy a) s.heap.size) ((cX cy a) z) := fun z => w_self (xOk cy a).1 hD0 z
  have hA : ∀ z : Nat, s.heap.size ≤ z → wA (cX cy a) s.heap.size z := fun _ h => Or.inr h
  have hS : va_S (wA (cX cy a) s.heap.size) s.heap s.heap [] := va_S.rf
  have hl := lv_entry ([.ref (a 3), .int x1, .int x2]) (n := 3) (Nat.le_of_ble_eq_true rfl)
  rw [lg_entry_eq]
  generalize (lg_sl ([.ref (a 3), .int x1, .int x2]) ++ List.replicate (3 - (lg_sl ([.ref (a 3), .int x1, .int x2])).length) Slot.unset).toArray = ls at hl ⊢
  have hl : lv_has ls 3 [(0, .ref (a 3)), (1, .int x1), (2, .int x2)] := hl
  have h_1 := hts (.fieldLink RX1 9 RX1 "where" "[I") (by decide +kernel)
  have h_2 := (show ∀ w ∈ u_ws RX1 TX1 13, w ∈ wsX1_moveTo by decide +kernel)
  have t_m1 : ((-1) : Int32).toInt = -1 := rfl
  have t_1 : (1 : Int32).toInt = 1 := rfl
  refine lv_aload_n hx hb dX1_moveTo_0 rfl (lv_at hl 0 rfl) ?_
  refine lv_iload_n hx hb dX1_moveTo_1 rfl (lv_at hl 1 rfl) ?_
  refine lv_iconst (v := (-1)) hx hb dX1_moveTo_2 (by decide) ?_
  refine w_goV (va_runV (As := [.int x1, .int (-1)]) (rest := []) ⟨hx, hb, hml, hown, hts⟩ (mX1_tally l G cy a _ q x1 (-1) (by omega) (by omega)) (cwV 2 hts gX1_moveTo_X1_tally rfl rfl rfl (by decide +kernel) ⟨Nat.le_of_ble_eq_true rfl, Nat.le_of_ble_eq_true rfl⟩) (w_pre (xOk cy a) (va_recv hK hP (ci := 1) (q0 := 3) rfl rfl) hK hP hD hS hA hN) rfl rfl hl.1 rfl (lv_room (Nat.le_of_ble_eq_true rfl)) dX1_moveTo_3 ⟨Nat.le_of_ble_eq_true rfl, Nat.le_of_ble_eq_true rfl⟩) hD hS hA (fun H locs hP hS => ?_)
  refine lv_aload_n hx hb dX1_moveTo_6 rfl (lv_at hl 0 rfl) ?_
  refine gfX1_9 hx hb hts h_2 hown hK hP h_1 dX1_moveTo_7 ?_
  refine lv_iload_n hx hb dX1_moveTo_10 rfl (lv_at hl 1 rfl) ?_
  refine lv_iload_n hx hb dX1_moveTo_11 rfl (lv_at hl 2 rfl) ?_
  have v_1 : vp_in x1 200 := vp_in_iff.mpr (by omega)
  refine stX_6 (f := ((fX1_tally q x1 (-1)) 6)) hx hb hK hP hD hS rfl v_1 dX1_moveTo_12 (fun H locs hP hS => ?_)
  refine lv_aload_n hx hb dX1_moveTo_13 rfl (lv_at hl 0 rfl) ?_
  refine lv_iload_n hx hb dX1_moveTo_14 rfl (lv_at hl 1 rfl) ?_
  refine lv_iconst (v := 1) hx hb dX1_moveTo_15 (by decide) ?_
  refine w_goV (va_runV (As := [.int x1, .int 1]) (rest := []) ⟨hx, hb, hml, hown, hts⟩ (mX1_tally l G cy a _ (rset (fX1_tally q x1 (-1)) 6 (upd ((fX1_tally q x1 (-1)) 6) (x1).toNatClampNeg x2)) x1 1 (by omega) (by omega)) (cwV 2 hts gX1_moveTo_X1_tally rfl rfl rfl (by decide +kernel) ⟨Nat.le_of_ble_eq_true rfl, Nat.le_of_ble_eq_true rfl⟩) (w_pre (xOk cy a) (va_recv hK hP (ci := 1) (q0 := 3) rfl rfl) hK hP hD hS hA hN) rfl rfl hl.1 rfl (lv_room (Nat.le_of_ble_eq_true rfl)) dX1_moveTo_16 ⟨Nat.le_of_ble_eq_true rfl, Nat.le_of_ble_eq_true rfl⟩) hD hS hA (fun H locs hP hS => ?_)
  exact W.vret hx hb hr (fun t ht hW => ⟨⟨(fX1_tally (rset (fX1_tally q x1 (-1)) 6 (upd ((fX1_tally q x1 (-1)) 6) (x1).toNatClampNeg x2)) x1 1), rfl, (Eq.symm (show (fX1_moveTo q x1 x2) = (fX1_tally (rset (fX1_tally q x1 (-1)) 6 (upd ((fX1_tally q x1 (-1)) 6) (x1).toNatClampNeg x2)) x1 1) by (rw [fX1_moveTo]); try rfl)), w_ht ht hP⟩, hS.F ht⟩) hS.2.2 dX1_moveTo_19
end
section
set_option maxHeartbeats 4000000 in
set_option maxRecDepth 100000 in
theorem mX1_belongToNobody (l : Launch) (G : va_G) (cy : ClassId) (a : Nat → Nat) (sz : Nat) (q : wSt) (x1 : Int32) (g0 : 0 ≤ (x1).toInt) (g1 : (x1).toInt < 200) : CtV l yX1_belongToNobody wsX1_belongToNobody ({ frames := 0, cells := 0, slots := 0, locals := 0 }) G cy (cX cy a) xN sz q [.ref (a 3), .int x1] (fX1_belongToNobody q x1) := by
  refine Met.ofW (cc := cX1_belongToNobody) (maxL := 2) (ret := none) (by decide) rfl ?_
  intro p e s m args below meth c s₁ B hml hv
  obtain ⟨rfl, hsz, hP, hK, hD0, hN⟩ := hv
  have hx := B.exec
  have hb := B.bytes
  have hr := B.returns
  have hts := atoms_spec (ws := wsX1_belongToNobody) B.pre
  have hown : s.vm.findClass RX1 = some m.cls := findClass_of_methodNamed B.named
  have hlocks := B.notSynchronized
  subst hsz
  have hD : ∀ z : wSt, va_D (wA (cX cy a) s.heap.size) ((cX cy a) z) := fun z => w_self (xOk cy a).1 hD0 z
  have hA : ∀ z : Nat, s.heap.size ≤ z → wA (cX cy a) s.heap.size z := fun _ h => Or.inr h
  have hS : va_S (wA (cX cy a) s.heap.size) s.heap s.heap [] := va_S.rf
  have hl := lv_entry ([.ref (a 3), .int x1]) (n := 2) (Nat.le_of_ble_eq_true rfl)
  rw [lg_entry_eq]
  generalize (lg_sl ([.ref (a 3), .int x1]) ++ List.replicate (2 - (lg_sl ([.ref (a 3), .int x1])).length) Slot.unset).toArray = ls at hl ⊢
  have hl : lv_has ls 2 [(0, .ref (a 3)), (1, .int x1)] := hl
  have h_1 := hts (.fieldLink RX1 24 RX1 "reader" "[I") (by decide +kernel)
  have h_2 := (show ∀ w ∈ u_ws RX1 TX1 13, w ∈ wsX1_belongToNobody by decide +kernel)
  have h_3 := hts (.fieldLink RX1 27 RX1 "wish" "[I") (by decide +kernel)
  have h_4 := hts (.fieldLink RX1 30 RX1 "since" "[I") (by decide +kernel)
  have h_5 := hts (.fieldLink RX1 33 RX1 "daysToGo" "[I") (by decide +kernel)
  have t_m1 : ((-1) : Int32).toInt = -1 := rfl
  have t_0 : (0 : Int32).toInt = 0 := rfl
  refine lv_aload_n hx hb dX1_belongToNobody_0 rfl (lv_at hl 0 rfl) ?_
  refine gfX1_24 hx hb hts h_2 hown hK hP h_1 dX1_belongToNobody_1 ?_
  refine lv_iload_n hx hb dX1_belongToNobody_4 rfl (lv_at hl 1 rfl) ?_
  refine lv_iconst (v := (-1)) hx hb dX1_belongToNobody_5 (by decide) ?_
  have v_1 : vp_in x1 200 := vp_in_iff.mpr (by omega)
  refine stX_10 (f := (q 10)) hx hb hK hP hD hS rfl v_1 dX1_belongToNobody_6 (fun H locs hP hS => ?_)
  refine lv_aload_n hx hb dX1_belongToNobody_7 rfl (lv_at hl 0 rfl) ?_
  refine gfX1_27 hx hb hts h_2 hown hK hP h_3 dX1_belongToNobody_8 ?_
  refine lv_iload_n hx hb dX1_belongToNobody_11 rfl (lv_at hl 1 rfl) ?_
  refine lv_iconst (v := (-1)) hx hb dX1_belongToNobody_12 (by decide) ?_
  have v_2 : vp_in x1 200 := vp_in_iff.mpr (by omega)
  refine stX_11 (f := (q 11)) hx hb hK hP hD hS rfl v_2 dX1_belongToNobody_13 (fun H locs hP hS => ?_)
  refine lv_aload_n hx hb dX1_belongToNobody_14 rfl (lv_at hl 0 rfl) ?_
  refine gfX1_30 hx hb hts h_2 hown hK hP h_4 dX1_belongToNobody_15 ?_
  refine lv_iload_n hx hb dX1_belongToNobody_18 rfl (lv_at hl 1 rfl) ?_
  refine lv_iconst (v := (-1)) hx hb dX1_belongToNobody_19 (by decide) ?_
  have v_3 : vp_in x1 200 := vp_in_iff.mpr (by omega)
  refine stX_12 (f := (q 12)) hx hb hK hP hD hS rfl v_3 dX1_belongToNobody_20 (fun H locs hP hS => ?_)
  refine lv_aload_n hx hb dX1_belongToNobody_21 rfl (lv_at hl 0 rfl) ?_
  refine gfX1_33 hx hb hts h_2 hown hK hP h_5 dX1_belongToNobody_22 ?_
  refine lv_iload_n hx hb dX1_belongToNobody_25 rfl (lv_at hl 1 rfl) ?_
  refine lv_iconst (v := 0) hx hb dX1_belongToNobody_26 (by decide) ?_
  have v_4 : vp_in x1 200 := vp_in_iff.mpr (by omega)
  refine stX_13 (f := (q 13)) hx hb hK hP hD hS rfl v_4 dX1_belongToNobody_27 (fun H locs hP hS => ?_)
  exact W.vret hx hb hr (fun t ht hW => ⟨⟨(rset (rset (rset (rset q 10 (upd (q 10) (x1).toNatClampNeg (-1))) 11 (upd (q 11) (x1).toNatClampNeg (-1))) 12 (upd (q 12) (x1).toNatClampNeg (-1))) 13 (upd (q 13) (x1).toNatClampNeg 0)), rfl, (Eq.symm (show (fX1_belongToNobody q x1) = (rset (rset (rset (rset q 10 (upd (q 10) (x1).toNatClampNeg (-1))) 11 (upd (q 11) (x1).toNatClampNeg (-1))) 12 (upd (q 12) (x1).toNatClampNeg (-1))) 13 (upd (q 13) (x1).toNatClampNeg 0)) by (rw [fX1_belongToNobody]); try rfl)), w_ht ht hP⟩, hS.F ht⟩) hS.2.2 dX1_belongToNobody_28
end
section
set_option maxHeartbeats 4000000 in
set_option maxRecDepth 100000 in
theorem mX1_shelve (l : Launch) (G : va_G) (cy : ClassId) (a : Nat → Nat) (sz : Nat) (q : wSt) (x1 : Int32) (g0 : 0 ≤ (x1).toInt) (g1 : (x1).toInt < 200) : CtV l yX1_shelve wsX1_shelve ({ frames := 3, cells := 0, slots := 0, locals := 67 }) G cy (cX cy a) xN sz q [.ref (a 3), .int x1] (fX1_shelve q x1) := by
  refine Met.ofW (cc := cX1_shelve) (maxL := 2) (ret := none) (by decide) rfl ?_
  intro p e s m args below meth c s₁ B hml hv
  obtain ⟨rfl, hsz, hP, hK, hD0, hN⟩ := hv
  have hx := B.exec
  have hb := B.bytes
  have hr := B.returns
  have hts := atoms_spec (ws := wsX1_shelve) B.pre
  have hown : s.vm.findClass RX1 = some m.cls := findClass_of_methodNamed B.named
  have hlocks := B.notSynchronized
  subst hsz
  have hD : ∀ z : wSt, va_D (wA (cX cy a) s.heap.size) ((cX cy a) z) := fun z => w_self (xOk cy a).1 hD0 z
  have hA : ∀ z : Nat, s.heap.size ≤ z → wA (cX cy a) s.heap.size z := fun _ h => Or.inr h
  have hS : va_S (wA (cX cy a) s.heap.size) s.heap s.heap [] := va_S.rf
  have hl := lv_entry ([.ref (a 3), .int x1]) (n := 2) (Nat.le_of_ble_eq_true rfl)
  rw [lg_entry_eq]
  generalize (lg_sl ([.ref (a 3), .int x1]) ++ List.replicate (2 - (lg_sl ([.ref (a 3), .int x1])).length) Slot.unset).toArray = ls at hl ⊢
  have hl : lv_has ls 2 [(0, .ref (a 3)), (1, .int x1)] := hl
  have t_0 : (0 : Int32).toInt = 0 := rfl
  refine lv_aload_n hx hb dX1_shelve_0 rfl (lv_at hl 0 rfl) ?_
  refine lv_iload_n hx hb dX1_shelve_1 rfl (lv_at hl 1 rfl) ?_
  refine lv_iconst (v := 0) hx hb dX1_shelve_2 (by decide) ?_
  refine w_goV (va_runV (As := [.int x1, .int 0]) (rest := []) ⟨hx, hb, hml, hown, hts⟩ (mX1_moveTo l G cy a _ q x1 0 (by omega) (by omega)) (cwV 2 hts gX1_shelve_X1_moveTo rfl rfl rfl (by decide +kernel) ⟨Nat.le_of_ble_eq_true rfl, Nat.le_of_ble_eq_true rfl⟩) (w_pre (xOk cy a) (va_recv hK hP (ci := 1) (q0 := 3) rfl rfl) hK hP hD hS hA hN) rfl rfl hl.1 rfl (lv_room (Nat.le_of_ble_eq_true rfl)) dX1_shelve_3 ⟨Nat.le_of_ble_eq_true rfl, Nat.le_of_ble_eq_true rfl⟩) hD hS hA (fun H locs hP hS => ?_)
  refine lv_aload_n hx hb dX1_shelve_6 rfl (lv_at hl 0 rfl) ?_
  refine lv_iload_n hx hb dX1_shelve_7 rfl (lv_at hl 1 rfl) ?_
  refine w_goV (va_runV (As := [.int x1]) (rest := []) ⟨hx, hb, hml, hown, hts⟩ (mX1_belongToNobody l G cy a _ (fX1_moveTo q x1 0) x1 (by omega) (by omega)) (cwV 1 hts gX1_shelve_X1_belongToNobody rfl rfl rfl (by decide +kernel) ⟨Nat.le_of_ble_eq_true rfl, Nat.le_of_ble_eq_true rfl⟩) (w_pre (xOk cy a) (va_recv hK hP (ci := 1) (q0 := 3) rfl rfl) hK hP hD hS hA hN) rfl rfl hl.1 rfl (lv_room (Nat.le_of_ble_eq_true rfl)) dX1_shelve_8 ⟨Nat.le_of_ble_eq_true rfl, Nat.le_of_ble_eq_true rfl⟩) hD hS hA (fun H locs hP hS => ?_)
  exact W.vret hx hb hr (fun t ht hW => ⟨⟨(fX1_belongToNobody (fX1_moveTo q x1 0) x1), rfl, (Eq.symm (show (fX1_shelve q x1) = (fX1_belongToNobody (fX1_moveTo q x1 0) x1) by (rw [fX1_shelve]); try rfl)), w_ht ht hP⟩, hS.F ht⟩) hS.2.2 dX1_shelve_11
end
section
set_option maxHeartbeats 4000000 in
set_option maxRecDepth 100000 in
theorem mX1_add (l : Launch) (G : va_G) (cy : ClassId) (a : Nat → Nat) (sz : Nat) (q : wSt) (x1 : Int32) (x2 : Int32) (x3 : Int32) (g0 : 0 ≤ (q 36 0).toInt) (g1 : (q 36 0).toInt < 200) : CtV l yX1_add wsX1_add ({ frames := 4, cells := 0, slots := 0, locals := 88 }) G cy (cX cy a) xN sz q [.ref (a 3), .int x1, .int x2, .int x3] (fX1_add q x1 x2 x3) := by
  refine Met.ofW (cc := cX1_add) (maxL := 5) (ret := none) (by decide) rfl ?_
  intro p e s m args below meth c s₁ B hml hv
  obtain ⟨rfl, hsz, hP, hK, hD0, hN⟩ := hv
  have hx := B.exec
  have hb := B.bytes
  have hr := B.returns
  have hts := atoms_spec (ws := wsX1_add) B.pre
  have hown : s.vm.findClass RX1 = some m.cls := findClass_of_methodNamed B.named
  have hlocks := B.notSynchronized
  subst hsz
  have hD : ∀ z : wSt, va_D (wA (cX cy a) s.heap.size) ((cX cy a) z) := fun z => w_self (xOk cy a).1 hD0 z
  have hA : ∀ z : Nat, s.heap.size ≤ z → wA (cX cy a) s.heap.size z := fun _ h => Or.inr h
  have hS : va_S (wA (cX cy a) s.heap.size) s.heap s.heap [] := va_S.rf
  have hl := lv_entry ([.ref (a 3), .int x1, .int x2, .int x3]) (n := 5) (Nat.le_of_ble_eq_true rfl)
  rw [lg_entry_eq]
  generalize (lg_sl ([.ref (a 3), .int x1, .int x2, .int x3]) ++ List.replicate (5 - (lg_sl ([.ref (a 3), .int x1, .int x2, .int x3])).length) Slot.unset).toArray = ls at hl ⊢
  have hl : lv_has ls 5 [(0, .ref (a 3)), (1, .int x1), (2, .int x2), (3, .int x3)] := hl
  have h_1 := hts (.fieldLink RX1 42 RX1 "came" "I") (by decide +kernel)
  have h_2 := (show ∀ w ∈ u_ws RX1 TX1 13, w ∈ wsX1_add by decide +kernel)
  have h_3 := hts (.fieldLink RX1 15 RX1 "title" "[I") (by decide +kernel)
  have h_4 := hts (.fieldLink RX1 18 RX1 "volume" "[I") (by decide +kernel)
  have h_5 := hts (.fieldLink RX1 21 RX1 "cost" "[I") (by decide +kernel)
  have h_6 := hts (.fieldLink RX1 9 RX1 "where" "[I") (by decide +kernel)
  have h_7 := hts (.fieldLink RX1 36 RX1 "timesLent" "[I") (by decide +kernel)
  have t_m1 : ((-1) : Int32).toInt = -1 := rfl
  have t_0 : (0 : Int32).toInt = 0 := rfl
  have t_1 : (1 : Int32).toInt = 1 := rfl
  refine lv_aload_n hx hb dX1_add_0 rfl (lv_at hl 0 rfl) ?_
  refine gfX1_42 (v := (q 36 0)) hx hb hts h_2 hown hK hP h_1 rfl dX1_add_1 ?_
  refine lv_istore (lv' := [(4, .int (q 36 0)), (0, .ref (a 3)), (1, .int x1), (2, .int x2), (3, .int x3)]) hx hb dX1_add_4 hl (by decide) rfl (fun ls hl => ?_)
  refine lv_aload_n hx hb dX1_add_6 rfl (lv_at hl 1 rfl) ?_
  refine lv_dup hx hb dX1_add_7 rfl ?_
  refine gfX1_42 (v := (q 36 0)) hx hb hts h_2 hown hK hP h_1 rfl dX1_add_8 ?_
  refine lv_iconst (v := 1) hx hb dX1_add_11 (by decide) ?_
  refine lv_iadd hx hb dX1_add_12 ?_
  refine pfX1_42 hx hb hts h_2 hown hK hP hD hS h_1 dX1_add_13 (fun H locs hP hS => ?_)
  refine lv_aload_n hx hb dX1_add_16 rfl (lv_at hl 1 rfl) ?_
  refine gfX1_15 hx hb hts h_2 hown hK hP h_3 dX1_add_17 ?_
  refine lv_iload hx hb dX1_add_20 (lv_at hl 0 rfl) ?_
  refine lv_iload_n hx hb dX1_add_22 rfl (lv_at hl 2 rfl) ?_
  have v_1 : vp_in (q 36 0) 200 := vp_in_iff.mpr (by omega)
  refine stX_7 (f := (q 7)) hx hb hK hP hD hS rfl v_1 dX1_add_23 (fun H locs hP hS => ?_)
  refine lv_aload_n hx hb dX1_add_24 rfl (lv_at hl 1 rfl) ?_
  refine gfX1_18 hx hb hts h_2 hown hK hP h_4 dX1_add_25 ?_
  refine lv_iload hx hb dX1_add_28 (lv_at hl 0 rfl) ?_
  refine lv_iload_n hx hb dX1_add_30 rfl (lv_at hl 3 rfl) ?_
  have v_2 : vp_in (q 36 0) 200 := vp_in_iff.mpr (by omega)
  refine stX_8 (f := (q 8)) hx hb hK hP hD hS rfl v_2 dX1_add_31 (fun H locs hP hS => ?_)
  refine lv_aload_n hx hb dX1_add_32 rfl (lv_at hl 1 rfl) ?_
  refine gfX1_21 hx hb hts h_2 hown hK hP h_5 dX1_add_33 ?_
  refine lv_iload hx hb dX1_add_36 (lv_at hl 0 rfl) ?_
  refine lv_iload_n hx hb dX1_add_38 rfl (lv_at hl 4 rfl) ?_
  have v_3 : vp_in (q 36 0) 200 := vp_in_iff.mpr (by omega)
  refine stX_9 (f := (q 9)) hx hb hK hP hD hS rfl v_3 dX1_add_39 (fun H locs hP hS => ?_)
  refine lv_aload_n hx hb dX1_add_40 rfl (lv_at hl 1 rfl) ?_
  refine gfX1_9 hx hb hts h_2 hown hK hP h_6 dX1_add_41 ?_
  refine lv_iload hx hb dX1_add_44 (lv_at hl 0 rfl) ?_
  refine lv_iconst (v := (-1)) hx hb dX1_add_46 (by decide) ?_
  have v_4 : vp_in (q 36 0) 200 := vp_in_iff.mpr (by omega)
  refine stX_6 (f := (q 6)) hx hb hK hP hD hS rfl v_4 dX1_add_47 (fun H locs hP hS => ?_)
  refine lv_aload_n hx hb dX1_add_48 rfl (lv_at hl 1 rfl) ?_
  refine gfX1_36 hx hb hts h_2 hown hK hP h_7 dX1_add_49 ?_
  refine lv_iload hx hb dX1_add_52 (lv_at hl 0 rfl) ?_
  refine lv_iconst (v := 0) hx hb dX1_add_54 (by decide) ?_
  have v_5 : vp_in (q 36 0) 200 := vp_in_iff.mpr (by omega)
  refine stX_14 (f := (q 14)) hx hb hK hP hD hS rfl v_5 dX1_add_55 (fun H locs hP hS => ?_)
  refine lv_aload_n hx hb dX1_add_56 rfl (lv_at hl 1 rfl) ?_
  refine lv_iload hx hb dX1_add_57 (lv_at hl 0 rfl) ?_
  refine w_goV (va_runV (As := [.int (q 36 0)]) (rest := []) ⟨hx, hb, hml, hown, hts⟩ (mX1_shelve l G cy a _ (rset (rset (rset (rset (rset (rset q 36 (fun _ => ((q 36 0) + 1))) 7 (upd (q 7) (q 36 0).toNatClampNeg x1)) 8 (upd (q 8) (q 36 0).toNatClampNeg x2)) 9 (upd (q 9) (q 36 0).toNatClampNeg x3)) 6 (upd (q 6) (q 36 0).toNatClampNeg (-1))) 14 (upd (q 14) (q 36 0).toNatClampNeg 0)) (q 36 0) (by omega) (by omega)) (cwV 1 hts gX1_add_X1_shelve rfl rfl rfl (by decide +kernel) ⟨Nat.le_of_ble_eq_true rfl, Nat.le_of_ble_eq_true rfl⟩) (w_pre (xOk cy a) (va_recv hK hP (ci := 1) (q0 := 3) rfl rfl) hK hP hD hS hA hN) rfl rfl hl.1 rfl (lv_room (Nat.le_of_ble_eq_true rfl)) dX1_add_59 ⟨Nat.le_of_ble_eq_true rfl, Nat.le_of_ble_eq_true rfl⟩) hD hS hA (fun H locs hP hS => ?_)
  exact W.vret hx hb hr (fun t ht hW => ⟨⟨(fX1_shelve (rset (rset (rset (rset (rset (rset q 36 (fun _ => ((q 36 0) + 1))) 7 (upd (q 7) (q 36 0).toNatClampNeg x1)) 8 (upd (q 8) (q 36 0).toNatClampNeg x2)) 9 (upd (q 9) (q 36 0).toNatClampNeg x3)) 6 (upd (q 6) (q 36 0).toNatClampNeg (-1))) 14 (upd (q 14) (q 36 0).toNatClampNeg 0)) (q 36 0)), rfl, (Eq.symm (show (fX1_add q x1 x2 x3) = (fX1_shelve (rset (rset (rset (rset (rset (rset q 36 (fun _ => ((q 36 0) + 1))) 7 (upd (q 7) (q 36 0).toNatClampNeg x1)) 8 (upd (q 8) (q 36 0).toNatClampNeg x2)) 9 (upd (q 9) (q 36 0).toNatClampNeg x3)) 6 (upd (q 6) (q 36 0).toNatClampNeg (-1))) 14 (upd (q 14) (q 36 0).toNatClampNeg 0)) (q 36 0)) by (rw [fX1_add]); try rfl)), w_ht ht hP⟩, hS.F ht⟩) hS.2.2 dX1_add_62
end
section
set_option maxHeartbeats 4000000 in
set_option maxRecDepth 100000 in
theorem mX1_onShelf (l : Launch) (G : va_G) (cy : ClassId) (a : Nat → Nat) (sz : Nat) (q : wSt) (x1 : Int32) (x2 : Int32) : CtI l yX1_onShelf wsX1_onShelf ({ frames := 1, cells := 0, slots := 0, locals := 22 }) G cy (cX cy a) xN sz q [.ref (a 3), .int x1, .int x2] (fX1_onShelf q x1 x2) q := by
  refine Met.ofW (cc := cX1_onShelf) (maxL := 4) (ret := (some .int)) (by decide) rfl ?_
  intro p e s m args below meth c s₁ B hml hv
  obtain ⟨rfl, hsz, hP, hK, hD0, hN⟩ := hv
  have hx := B.exec
  have hb := B.bytes
  have hr := B.returns
  have hts := atoms_spec (ws := wsX1_onShelf) B.pre
  have hown : s.vm.findClass RX1 = some m.cls := findClass_of_methodNamed B.named
  have hlocks := B.notSynchronized
  subst hsz
  have hD : ∀ z : wSt, va_D (wA (cX cy a) s.heap.size) ((cX cy a) z) := fun z => w_self (xOk cy a).1 hD0 z
  have hA : ∀ z : Nat, s.heap.size ≤ z → wA (cX cy a) s.heap.size z := fun _ h => Or.inr h
  have hS : va_S (wA (cX cy a) s.heap.size) s.heap s.heap [] := va_S.rf
  have hl := lv_entry ([.ref (a 3), .int x1, .int x2]) (n := 4) (Nat.le_of_ble_eq_true rfl)
  rw [lg_entry_eq]
  generalize (lg_sl ([.ref (a 3), .int x1, .int x2]) ++ List.replicate (4 - (lg_sl ([.ref (a 3), .int x1, .int x2])).length) Slot.unset).toArray = ls at hl ⊢
  have hl : lv_has ls 4 [(0, .ref (a 3)), (1, .int x1), (2, .int x2)] := hl
  have h_1 := hts (.fieldLink RX1 39 RX1 "shelved" "[I") (by decide +kernel)
  have h_2 := (show ∀ w ∈ u_ws RX1 TX1 13, w ∈ wsX1_onShelf by decide +kernel)
  have t_0 : (0 : Int32).toInt = 0 := rfl
  have t_48 : (48 : Int32).toInt = 48 := rfl
  refine lv_aload_n hx hb dX1_onShelf_0 rfl (lv_at hl 0 rfl) ?_
  refine lv_iload_n hx hb dX1_onShelf_1 rfl (lv_at hl 1 rfl) ?_
  refine lv_iload_n hx hb dX1_onShelf_2 rfl (lv_at hl 2 rfl) ?_
  refine w_goI (va_runV (As := [.int x1, .int x2]) (rest := []) ⟨hx, hb, hml, hown, hts⟩ (mX1_slot l G cy a _ q x1 x2) (cwV 2 hts gX1_onShelf_X1_slot rfl rfl rfl (by decide +kernel) ⟨Nat.le_of_ble_eq_true rfl, Nat.le_of_ble_eq_true rfl⟩) (w_pre (xOk cy a) (va_recv hK hP (ci := 1) (q0 := 3) rfl rfl) hK hP hD hS hA hN) rfl rfl hl.1 rfl (lv_room (Nat.le_of_ble_eq_true rfl)) dX1_onShelf_3 ⟨Nat.le_of_ble_eq_true rfl, Nat.le_of_ble_eq_true rfl⟩) hD hS hA (fun H locs hP hS => ?_)
  refine lv_istore_n (lv' := [(3, .int (fX1_slot q x1 x2)), (0, .ref (a 3)), (1, .int x1), (2, .int x2)]) hx hb dX1_onShelf_6 rfl hl (by decide) rfl (fun ls hl => ?_)
  refine lv_iload_n hx hb dX1_onShelf_7 rfl (lv_at hl 0 rfl) ?_
  refine lv_if_lt (tgt := 29) hx hb dX1_onShelf_8 (by decide) (fun c_1 => ?_) (fun c_1 => ?_)
  · have e_2 := i_lt c_1
    refine lv_iconst (v := 0) hx hb dX1_onShelf_29 (by decide) ?_
    exact W.iret (v := 0) hx hb hr (fun t ht hW => ⟨⟨0, q, rfl, ⟨(Eq.symm (show (fX1_onShelf q x1 x2) = 0 by (rw [fX1_onShelf, if_pos c_1]); try rfl)), rfl⟩, w_ht ht hP⟩, hS.F ht⟩) hS.2.2 dX1_onShelf_30
  · have e_2 := i_nlt c_1
    refine lv_iload_n hx hb dX1_onShelf_11 rfl (lv_at hl 0 rfl) ?_
    refine lv_aload_n hx hb dX1_onShelf_12 rfl (lv_at hl 1 rfl) ?_
    refine gfX1_39 hx hb hts h_2 hown hK hP h_1 dX1_onShelf_13 ?_
    refine va_alen hx hb hK hP 22 0 rfl rfl (v := 48) rfl dX1_onShelf_16 ?_
    refine lv_icmp_ge (tgt := 29) hx hb dX1_onShelf_17 (by decide) (fun c_3 => ?_) (fun c_3 => ?_)
    · have e_4 := i_le c_3
      refine lv_iconst (v := 0) hx hb dX1_onShelf_29 (by decide) ?_
      exact W.iret (v := 0) hx hb hr (fun t ht hW => ⟨⟨0, q, rfl, ⟨(Eq.symm (show (fX1_onShelf q x1 x2) = 0 by (rw [fX1_onShelf, if_neg c_1, if_pos c_3]); try rfl)), rfl⟩, w_ht ht hP⟩, hS.F ht⟩) hS.2.2 dX1_onShelf_30
    · have e_4 := i_nle c_3
      refine lv_aload_n hx hb dX1_onShelf_20 rfl (lv_at hl 1 rfl) ?_
      refine gfX1_39 hx hb hts h_2 hown hK hP h_1 dX1_onShelf_21 ?_
      refine lv_iload_n hx hb dX1_onShelf_24 rfl (lv_at hl 0 rfl) ?_
      have v_5 : vp_in (fX1_slot q x1 x2) 48 := vp_in_iff.mpr (by omega)
      refine ldX_15 (f := (q 15)) hx hb hK hP rfl v_5 dX1_onShelf_25 ?_
      refine lv_goto (tgt := 30) hx hb dX1_onShelf_26 (by decide) ?_
      exact W.iret (v := (q 15 (fX1_slot q x1 x2).toNatClampNeg)) hx hb hr (fun t ht hW => ⟨⟨(q 15 (fX1_slot q x1 x2).toNatClampNeg), q, rfl, ⟨(Eq.symm (show (fX1_onShelf q x1 x2) = (q 15 (fX1_slot q x1 x2).toNatClampNeg) by (rw [fX1_onShelf, if_neg c_1, if_neg c_3]); try rfl)), rfl⟩, w_ht ht hP⟩, hS.F ht⟩) hS.2.2 dX1_onShelf_30
end
section
set_option maxHeartbeats 4000000 in
set_option maxRecDepth 100000 in
theorem mX1_leastOnShelf (l : Launch) (G : va_G) (cy : ClassId) (a : Nat → Nat) (sz : Nat) (q : wSt) (x1 : Int32) (x2 : Int32) (g0 : (q 36 0).toInt ≤ 200) : CtI l yX1_leastOnShelf wsX1_leastOnShelf ({ frames := 0, cells := 0, slots := 0, locals := 0 }) G cy (cX cy a) xN sz q [.ref (a 3), .int x1, .int x2] (fX1_leastOnShelf q x1 x2) q := by
  refine Met.ofW (cc := cX1_leastOnShelf) (maxL := 4) (ret := (some .int)) (by decide) rfl ?_
  intro p e s m args below meth c s₁ B hml hv
  obtain ⟨rfl, hsz, hP, hK, hD0, hN⟩ := hv
  have hx := B.exec
  have hb := B.bytes
  have hr := B.returns
  have hts := atoms_spec (ws := wsX1_leastOnShelf) B.pre
  have hown : s.vm.findClass RX1 = some m.cls := findClass_of_methodNamed B.named
  have hlocks := B.notSynchronized
  subst hsz
  have hD : ∀ z : wSt, va_D (wA (cX cy a) s.heap.size) ((cX cy a) z) := fun z => w_self (xOk cy a).1 hD0 z
  have hA : ∀ z : Nat, s.heap.size ≤ z → wA (cX cy a) s.heap.size z := fun _ h => Or.inr h
  have hS : va_S (wA (cX cy a) s.heap.size) s.heap s.heap [] := va_S.rf
  have hl := lv_entry ([.ref (a 3), .int x1, .int x2]) (n := 4) (Nat.le_of_ble_eq_true rfl)
  rw [lg_entry_eq]
  generalize (lg_sl ([.ref (a 3), .int x1, .int x2]) ++ List.replicate (4 - (lg_sl ([.ref (a 3), .int x1, .int x2])).length) Slot.unset).toArray = ls at hl ⊢
  have hl : lv_has ls 4 [(0, .ref (a 3)), (1, .int x1), (2, .int x2)] := hl
  have h_1 := hts (.fieldLink RX1 42 RX1 "came" "I") (by decide +kernel)
  have h_2 := (show ∀ w ∈ u_ws RX1 TX1 13, w ∈ wsX1_leastOnShelf by decide +kernel)
  have h_3 := hts (.fieldLink RX1 9 RX1 "where" "[I") (by decide +kernel)
  have h_4 := hts (.fieldLink RX1 15 RX1 "title" "[I") (by decide +kernel)
  have h_5 := hts (.fieldLink RX1 18 RX1 "volume" "[I") (by decide +kernel)
  have t_m1 : ((-1) : Int32).toInt = -1 := rfl
  have t_0 : (0 : Int32).toInt = 0 := rfl
  have t_1 : (1 : Int32).toInt = 1 := rfl
  refine lv_iconst (v := 0) hx hb dX1_leastOnShelf_0 (by decide) ?_
  refine lv_istore_n (lv' := [(3, .int 0), (0, .ref (a 3)), (1, .int x1), (2, .int x2)]) hx hb dX1_leastOnShelf_1 rfl hl (by decide) rfl (fun ls hl => ?_)
  have L_1 : ∀ (n : Nat) (y3_1 : Int32) (H : Heap) (ls : Array Slot) (locs : List Loc), ((q 36 0).toInt - (y3_1).toInt).toNat < n → (0 ≤ (y3_1).toInt) → lX1_leastOnShelf_1 q x1 x2 n y3_1 = (fX1_leastOnShelf q x1 x2) → va_P G vwCl ((cX cy a) q) H → va_S (wA (cX cy a) s.heap.size) s.heap H locs → lv_has ls 4 [(0, .ref (a 3)), (1, .int x1), (2, .int x2), (3, .int y3_1)] → W p l e ({ frames := 0, cells := 0, slots := 0, locals := 0 }) s m [.ref (a 3), .int x1, .int x2].toArray below meth c H locs 0 0 (MQ below (wQi G (cX cy a) s.heap.size (fX1_leastOnShelf q x1 x2) q) [.ref (a 3), .int x1, .int x2].toArray s 0 0 (wA (cX cy a) s.heap.size)) (F0 m 2 ls []) := by
    intro n
    induction n with
    | zero => intro y3_1 H ls locs hm; exact absurd hm (Nat.not_lt_zero _)
    | succ n ih =>
      intro y3_1 H ls locs hm_1 i0_1 he_1 hP hS hl
      refine lv_iload_n hx hb dX1_leastOnShelf_2 rfl (lv_at hl 3 rfl) ?_
      refine lv_aload_n hx hb dX1_leastOnShelf_3 rfl (lv_at hl 0 rfl) ?_
      refine gfX1_42 (v := (q 36 0)) hx hb hts h_2 hown hK hP h_1 rfl dX1_leastOnShelf_4 ?_
      refine lv_icmp_ge (tgt := 47) hx hb dX1_leastOnShelf_7 (by decide) (fun c_1 => ?_) (fun c_1 => ?_)
      · have e_2 := i_le c_1
        refine lv_iconst (v := (-1)) hx hb dX1_leastOnShelf_47 (by decide) ?_
        exact W.iret (v := (-1)) hx hb hr (fun t ht hW => ⟨⟨(-1), q, rfl, ⟨(Eq.symm ((congrArg (fun z => z) (Eq.symm he_1)).trans (by (rw [lX1_leastOnShelf_1_s, if_pos c_1]); try rfl))), rfl⟩, w_ht ht hP⟩, hS.F ht⟩) hS.2.2 dX1_leastOnShelf_48
      · have e_2 := i_nle c_1
        refine lv_aload_n hx hb dX1_leastOnShelf_10 rfl (lv_at hl 0 rfl) ?_
        refine gfX1_9 hx hb hts h_2 hown hK hP h_3 dX1_leastOnShelf_11 ?_
        refine lv_iload_n hx hb dX1_leastOnShelf_14 rfl (lv_at hl 3 rfl) ?_
        have v_3 : vp_in y3_1 200 := vp_in_iff.mpr (by omega)
        refine ldX_6 (f := (q 6)) hx hb hK hP rfl v_3 dX1_leastOnShelf_15 ?_
        refine lv_if_ne (tgt := 41) hx hb dX1_leastOnShelf_16 (by decide) (fun c_4 => ?_) (fun c_4 => ?_)
        · have e_5 := i_ne c_4
          refine lv_iinc (v := (y3_1 + 1)) (lv' := [(3, .int (y3_1 + 1)), (0, .ref (a 3)), (1, .int x1), (2, .int x2)]) hx hb dX1_leastOnShelf_41 hl (k := 3) rfl rfl (by decide) rfl (fun ls hl => ?_)
          have e_6 : (y3_1 + 1).toInt = (y3_1).toInt + 1 := i_inc (by have := i_rng y3_1; omega)
          refine lv_goto (tgt := 2) hx hb dX1_leastOnShelf_44 (by decide) ?_
          exact ih (y3_1 + 1) _ _ _ (by omega) (by first | assumption | omega) (Eq.trans (Eq.symm (by (rw [lX1_leastOnShelf_1_s, if_neg c_1, if_neg c_4]); try rfl)) he_1) hP hS (lv_sub hl [1, 2, 3, 0] rfl)
        · have e_5 := i_eq c_4
          refine lv_aload_n hx hb dX1_leastOnShelf_19 rfl (lv_at hl 0 rfl) ?_
          refine gfX1_15 hx hb hts h_2 hown hK hP h_4 dX1_leastOnShelf_20 ?_
          refine lv_iload_n hx hb dX1_leastOnShelf_23 rfl (lv_at hl 3 rfl) ?_
          have v_7 : vp_in y3_1 200 := vp_in_iff.mpr (by omega)
          refine ldX_7 (f := (q 7)) hx hb hK hP rfl v_7 dX1_leastOnShelf_24 ?_
          refine lv_iload_n hx hb dX1_leastOnShelf_25 rfl (lv_at hl 1 rfl) ?_
          refine lv_icmp_ne (tgt := 41) hx hb dX1_leastOnShelf_26 (by decide) (fun c_8 => ?_) (fun c_8 => ?_)
          · have e_9 := i_ne c_8
            refine lv_iinc (v := (y3_1 + 1)) (lv' := [(3, .int (y3_1 + 1)), (0, .ref (a 3)), (1, .int x1), (2, .int x2)]) hx hb dX1_leastOnShelf_41 hl (k := 3) rfl rfl (by decide) rfl (fun ls hl => ?_)
            have e_10 : (y3_1 + 1).toInt = (y3_1).toInt + 1 := i_inc (by have := i_rng y3_1; omega)
            refine lv_goto (tgt := 2) hx hb dX1_leastOnShelf_44 (by decide) ?_
            exact ih (y3_1 + 1) _ _ _ (by omega) (by first | assumption | omega) (Eq.trans (Eq.symm (by (rw [lX1_leastOnShelf_1_s, if_neg c_1, if_pos c_4, if_neg c_8]); try rfl)) he_1) hP hS (lv_sub hl [1, 2, 3, 0] rfl)
          · have e_9 := i_eq c_8
            refine lv_aload_n hx hb dX1_leastOnShelf_29 rfl (lv_at hl 0 rfl) ?_
            refine gfX1_18 hx hb hts h_2 hown hK hP h_5 dX1_leastOnShelf_30 ?_
            refine lv_iload_n hx hb dX1_leastOnShelf_33 rfl (lv_at hl 3 rfl) ?_
            have v_11 : vp_in y3_1 200 := vp_in_iff.mpr (by omega)
            refine ldX_8 (f := (q 8)) hx hb hK hP rfl v_11 dX1_leastOnShelf_34 ?_
            refine lv_iload_n hx hb dX1_leastOnShelf_35 rfl (lv_at hl 2 rfl) ?_
            refine lv_icmp_ne (tgt := 41) hx hb dX1_leastOnShelf_36 (by decide) (fun c_12 => ?_) (fun c_12 => ?_)
            · have e_13 := i_ne c_12
              refine lv_iinc (v := (y3_1 + 1)) (lv' := [(3, .int (y3_1 + 1)), (0, .ref (a 3)), (1, .int x1), (2, .int x2)]) hx hb dX1_leastOnShelf_41 hl (k := 3) rfl rfl (by decide) rfl (fun ls hl => ?_)
              have e_14 : (y3_1 + 1).toInt = (y3_1).toInt + 1 := i_inc (by have := i_rng y3_1; omega)
              refine lv_goto (tgt := 2) hx hb dX1_leastOnShelf_44 (by decide) ?_
              exact ih (y3_1 + 1) _ _ _ (by omega) (by first | assumption | omega) (Eq.trans (Eq.symm (by (rw [lX1_leastOnShelf_1_s, if_neg c_1, if_pos c_4, if_pos c_8, if_neg c_12]); try rfl)) he_1) hP hS (lv_sub hl [1, 2, 3, 0] rfl)
            · have e_13 := i_eq c_12
              refine lv_iload_n hx hb dX1_leastOnShelf_39 rfl (lv_at hl 3 rfl) ?_
              exact W.iret (v := y3_1) hx hb hr (fun t ht hW => ⟨⟨y3_1, q, rfl, ⟨(Eq.symm ((congrArg (fun z => z) (Eq.symm he_1)).trans (by (rw [lX1_leastOnShelf_1_s, if_neg c_1, if_pos c_4, if_pos c_8, if_pos c_12]); try rfl))), rfl⟩, w_ht ht hP⟩, hS.F ht⟩) hS.2.2 dX1_leastOnShelf_40
  exact L_1 (((q 36 0).toInt - (0 : Int32).toInt).toNat + 1) 0 _ _ _ (by omega) (by omega) (Eq.symm (by (rw [fX1_leastOnShelf]); try rfl)) hP hS (lv_sub hl [1, 2, 3, 0] rfl)
end
section
set_option maxHeartbeats 4000000 in
set_option maxRecDepth 100000 in
theorem mX1_inHouse (l : Launch) (G : va_G) (cy : ClassId) (a : Nat → Nat) (sz : Nat) (q : wSt) (x1 : Int32) (x2 : Int32) (g0 : (q 36 0).toInt ≤ 200) : CtI l yX1_inHouse wsX1_inHouse ({ frames := 0, cells := 0, slots := 0, locals := 0 }) G cy (cX cy a) xN sz q [.ref (a 3), .int x1, .int x2] (fX1_inHouse q x1 x2) q := by
  refine Met.ofW (cc := cX1_inHouse) (maxL := 5) (ret := (some .int)) (by decide) rfl ?_
  intro p e s m args below meth c s₁ B hml hv
  obtain ⟨rfl, hsz, hP, hK, hD0, hN⟩ := hv
  have hx := B.exec
  have hb := B.bytes
  have hr := B.returns
  have hts := atoms_spec (ws := wsX1_inHouse) B.pre
  have hown : s.vm.findClass RX1 = some m.cls := findClass_of_methodNamed B.named
  have hlocks := B.notSynchronized
  subst hsz
  have hD : ∀ z : wSt, va_D (wA (cX cy a) s.heap.size) ((cX cy a) z) := fun z => w_self (xOk cy a).1 hD0 z
  have hA : ∀ z : Nat, s.heap.size ≤ z → wA (cX cy a) s.heap.size z := fun _ h => Or.inr h
  have hS : va_S (wA (cX cy a) s.heap.size) s.heap s.heap [] := va_S.rf
  have hl := lv_entry ([.ref (a 3), .int x1, .int x2]) (n := 5) (Nat.le_of_ble_eq_true rfl)
  rw [lg_entry_eq]
  generalize (lg_sl ([.ref (a 3), .int x1, .int x2]) ++ List.replicate (5 - (lg_sl ([.ref (a 3), .int x1, .int x2])).length) Slot.unset).toArray = ls at hl ⊢
  have hl : lv_has ls 5 [(0, .ref (a 3)), (1, .int x1), (2, .int x2)] := hl
  have h_1 := hts (.fieldLink RX1 42 RX1 "came" "I") (by decide +kernel)
  have h_2 := (show ∀ w ∈ u_ws RX1 TX1 13, w ∈ wsX1_inHouse by decide +kernel)
  have h_3 := hts (.fieldLink RX1 15 RX1 "title" "[I") (by decide +kernel)
  have h_4 := hts (.fieldLink RX1 18 RX1 "volume" "[I") (by decide +kernel)
  have h_5 := hts (.fieldLink RX1 9 RX1 "where" "[I") (by decide +kernel)
  have t_0 : (0 : Int32).toInt = 0 := rfl
  have t_1 : (1 : Int32).toInt = 1 := rfl
  have t_4 : (4 : Int32).toInt = 4 := rfl
  have t_5 : (5 : Int32).toInt = 5 := rfl
  refine lv_iconst (v := 0) hx hb dX1_inHouse_0 (by decide) ?_
  refine lv_istore_n (lv' := [(3, .int 0), (0, .ref (a 3)), (1, .int x1), (2, .int x2)]) hx hb dX1_inHouse_1 rfl hl (by decide) rfl (fun ls hl => ?_)
  refine lv_iconst (v := 0) hx hb dX1_inHouse_2 (by decide) ?_
  refine lv_istore (lv' := [(4, .int 0), (3, .int 0), (0, .ref (a 3)), (1, .int x1), (2, .int x2)]) hx hb dX1_inHouse_3 hl (by decide) rfl (fun ls hl => ?_)
  have K_1 : ∀ (v : Int32) (H : Heap) (ls : Array Slot) (locs : List Loc), (lX1_inHouse_1 q x1 x2 (((q 36 0).toInt - (0 : Int32).toInt).toNat + 1) 0 0) = v → va_P G vwCl ((cX cy a) q) H → va_S (wA (cX cy a) s.heap.size) s.heap H locs → lv_has ls 5 [(3, .int v)] → W p l e ({ frames := 0, cells := 0, slots := 0, locals := 0 }) s m [.ref (a 3), .int x1, .int x2].toArray below meth c H locs 0 0 (MQ below (wQi G (cX cy a) s.heap.size (fX1_inHouse q x1 x2) q) [.ref (a 3), .int x1, .int x2].toArray s 0 0 (wA (cX cy a) s.heap.size)) (F0 m 67 ls []) := by
    intro v H ls locs hv hP hS hl
    subst hv
    refine lv_iload_n hx hb dX1_inHouse_67 rfl (lv_at hl 0 rfl) ?_
    exact W.iret (v := (lX1_inHouse_1 q x1 x2 (((q 36 0).toInt - (0 : Int32).toInt).toNat + 1) 0 0)) hx hb hr (fun t ht hW => ⟨⟨(lX1_inHouse_1 q x1 x2 (((q 36 0).toInt - (0 : Int32).toInt).toNat + 1) 0 0), q, rfl, ⟨(Eq.symm (show (fX1_inHouse q x1 x2) = (lX1_inHouse_1 q x1 x2 (((q 36 0).toInt - (0 : Int32).toInt).toNat + 1) 0 0) by (rw [fX1_inHouse]); try rfl)), rfl⟩, w_ht ht hP⟩, hS.F ht⟩) hS.2.2 dX1_inHouse_68
  have L_1 : ∀ (n : Nat) (y3_1 : Int32) (y4_1 : Int32) (H : Heap) (ls : Array Slot) (locs : List Loc), ((q 36 0).toInt - (y4_1).toInt).toNat < n → (0 ≤ (y4_1).toInt) → lX1_inHouse_1 q x1 x2 n y3_1 y4_1 = (lX1_inHouse_1 q x1 x2 (((q 36 0).toInt - (0 : Int32).toInt).toNat + 1) 0 0) → va_P G vwCl ((cX cy a) q) H → va_S (wA (cX cy a) s.heap.size) s.heap H locs → lv_has ls 5 [(0, .ref (a 3)), (1, .int x1), (2, .int x2), (3, .int y3_1), (4, .int y4_1)] → W p l e ({ frames := 0, cells := 0, slots := 0, locals := 0 }) s m [.ref (a 3), .int x1, .int x2].toArray below meth c H locs 0 0 (MQ below (wQi G (cX cy a) s.heap.size (fX1_inHouse q x1 x2) q) [.ref (a 3), .int x1, .int x2].toArray s 0 0 (wA (cX cy a) s.heap.size)) (F0 m 5 ls []) := by
    intro n
    induction n with
    | zero => intro y3_1 y4_1 H ls locs hm; exact absurd hm (Nat.not_lt_zero _)
    | succ n ih =>
      intro y3_1 y4_1 H ls locs hm_1 i0_1 he_1 hP hS hl
      refine lv_iload hx hb dX1_inHouse_5 (lv_at hl 4 rfl) ?_
      refine lv_aload_n hx hb dX1_inHouse_7 rfl (lv_at hl 0 rfl) ?_
      refine gfX1_42 (v := (q 36 0)) hx hb hts h_2 hown hK hP h_1 rfl dX1_inHouse_8 ?_
      refine lv_icmp_ge (tgt := 67) hx hb dX1_inHouse_11 (by decide) (fun c_1 => ?_) (fun c_1 => ?_)
      · have e_2 := i_le c_1
        exact K_1 (y3_1) _ _ _ (Eq.trans (Eq.symm he_1) (by (rw [lX1_inHouse_1_s, if_pos c_1]); try rfl)) hP hS (lv_sub hl [3] rfl)
      · have e_2 := i_nle c_1
        refine lv_aload_n hx hb dX1_inHouse_14 rfl (lv_at hl 0 rfl) ?_
        refine gfX1_15 hx hb hts h_2 hown hK hP h_3 dX1_inHouse_15 ?_
        refine lv_iload hx hb dX1_inHouse_18 (lv_at hl 4 rfl) ?_
        have v_3 : vp_in y4_1 200 := vp_in_iff.mpr (by omega)
        refine ldX_7 (f := (q 7)) hx hb hK hP rfl v_3 dX1_inHouse_20 ?_
        refine lv_iload_n hx hb dX1_inHouse_21 rfl (lv_at hl 1 rfl) ?_
        have J_2 : ∀ (v : Int32) (H : Heap) (ls : Array Slot) (locs : List Loc), (fX1_inHouse_j2 q x1 x2 y3_1 y4_1) = v → va_P G vwCl ((cX cy a) q) H → va_S (wA (cX cy a) s.heap.size) s.heap H locs → lv_has ls 5 [(0, .ref (a 3)), (1, .int x1), (2, .int x2), (3, .int v), (4, .int y4_1)] → W p l e ({ frames := 0, cells := 0, slots := 0, locals := 0 }) s m [.ref (a 3), .int x1, .int x2].toArray below meth c H locs 0 0 (MQ below (wQi G (cX cy a) s.heap.size (fX1_inHouse q x1 x2) q) [.ref (a 3), .int x1, .int x2].toArray s 0 0 (wA (cX cy a) s.heap.size)) (F0 m 61 ls []) := by
          intro v H ls locs hv hP hS hl
          subst hv
          refine lv_iinc (v := (y4_1 + 1)) (lv' := [(4, .int (y4_1 + 1)), (0, .ref (a 3)), (1, .int x1), (2, .int x2), (3, .int (fX1_inHouse_j2 q x1 x2 y3_1 y4_1))]) hx hb dX1_inHouse_61 hl (k := 4) rfl rfl (by decide) rfl (fun ls hl => ?_)
          have e_15 : (y4_1 + 1).toInt = (y4_1).toInt + 1 := i_inc (by have := i_rng y4_1; omega)
          refine lv_goto (tgt := 5) hx hb dX1_inHouse_64 (by decide) ?_
          exact ih (fX1_inHouse_j2 q x1 x2 y3_1 y4_1) (y4_1 + 1) _ _ _ (by omega) (by first | assumption | omega) (Eq.trans (Eq.symm (by (rw [lX1_inHouse_1_s, if_neg c_1]); try rfl)) he_1) hP hS (lv_sub hl [1, 2, 3, 4, 0] rfl)
        refine lv_icmp_ne (tgt := 61) hx hb dX1_inHouse_22 (by decide) (fun c_4 => ?_) (fun c_4 => ?_)
        · have e_5 := i_ne c_4
          exact J_2 (y3_1) _ _ _ (by (rw [fX1_inHouse_j2, if_neg c_4]); try rfl) hP hS (lv_sub hl [0, 1, 2, 3, 4] rfl)
        · have e_5 := i_eq c_4
          refine lv_aload_n hx hb dX1_inHouse_25 rfl (lv_at hl 0 rfl) ?_
          refine gfX1_18 hx hb hts h_2 hown hK hP h_4 dX1_inHouse_26 ?_
          refine lv_iload hx hb dX1_inHouse_29 (lv_at hl 4 rfl) ?_
          have v_6 : vp_in y4_1 200 := vp_in_iff.mpr (by omega)
          refine ldX_8 (f := (q 8)) hx hb hK hP rfl v_6 dX1_inHouse_31 ?_
          refine lv_iload_n hx hb dX1_inHouse_32 rfl (lv_at hl 2 rfl) ?_
          refine lv_icmp_ne (tgt := 61) hx hb dX1_inHouse_33 (by decide) (fun c_7 => ?_) (fun c_7 => ?_)
          · have e_8 := i_ne c_7
            exact J_2 (y3_1) _ _ _ (by (rw [fX1_inHouse_j2, if_pos c_4, if_neg c_7]); try rfl) hP hS (lv_sub hl [0, 1, 2, 3, 4] rfl)
          · have e_8 := i_eq c_7
            refine lv_aload_n hx hb dX1_inHouse_36 rfl (lv_at hl 0 rfl) ?_
            refine gfX1_9 hx hb hts h_2 hown hK hP h_5 dX1_inHouse_37 ?_
            refine lv_iload hx hb dX1_inHouse_40 (lv_at hl 4 rfl) ?_
            have v_9 : vp_in y4_1 200 := vp_in_iff.mpr (by omega)
            refine ldX_6 (f := (q 6)) hx hb hK hP rfl v_9 dX1_inHouse_42 ?_
            refine lv_iconst (v := 4) hx hb dX1_inHouse_43 (by decide) ?_
            refine lv_icmp_eq (tgt := 61) hx hb dX1_inHouse_44 (by decide) (fun c_10 => ?_) (fun c_10 => ?_)
            · have e_11 := i_eq c_10
              exact J_2 (y3_1) _ _ _ (by (rw [fX1_inHouse_j2, if_pos c_4, if_pos c_7, if_pos c_10]); try rfl) hP hS (lv_sub hl [0, 1, 2, 3, 4] rfl)
            · have e_11 := i_ne c_10
              refine lv_aload_n hx hb dX1_inHouse_47 rfl (lv_at hl 0 rfl) ?_
              refine gfX1_9 hx hb hts h_2 hown hK hP h_5 dX1_inHouse_48 ?_
              refine lv_iload hx hb dX1_inHouse_51 (lv_at hl 4 rfl) ?_
              have v_12 : vp_in y4_1 200 := vp_in_iff.mpr (by omega)
              refine ldX_6 (f := (q 6)) hx hb hK hP rfl v_12 dX1_inHouse_53 ?_
              refine lv_iconst (v := 5) hx hb dX1_inHouse_54 (by decide) ?_
              refine lv_icmp_eq (tgt := 61) hx hb dX1_inHouse_55 (by decide) (fun c_13 => ?_) (fun c_13 => ?_)
              · have e_14 := i_eq c_13
                exact J_2 (y3_1) _ _ _ (by (rw [fX1_inHouse_j2, if_pos c_4, if_pos c_7, if_neg c_10, if_pos c_13]); try rfl) hP hS (lv_sub hl [0, 1, 2, 3, 4] rfl)
              · have e_14 := i_ne c_13
                refine lv_iinc (v := (y3_1 + 1)) (lv' := [(3, .int (y3_1 + 1)), (0, .ref (a 3)), (1, .int x1), (2, .int x2), (4, .int y4_1)]) hx hb dX1_inHouse_58 hl (k := 3) rfl rfl (by decide) rfl (fun ls hl => ?_)
                exact J_2 (y3_1 + 1) _ _ _ (by (rw [fX1_inHouse_j2, if_pos c_4, if_pos c_7, if_neg c_10, if_neg c_13]); try rfl) hP hS (lv_sub hl [1, 2, 3, 0, 4] rfl)
  exact L_1 (((q 36 0).toInt - (0 : Int32).toInt).toNat + 1) 0 0 _ _ _ (by omega) (by omega) rfl hP hS (lv_sub hl [2, 3, 4, 1, 0] rfl)
end
section
set_option maxHeartbeats 4000000 in
set_option maxRecDepth 100000 in
theorem mX1_leaveFor (l : Launch) (G : va_G) (cy : ClassId) (a : Nat → Nat) (sz : Nat) (q : wSt) (x1 : Int32) (x2 : Int32) (g0 : 0 ≤ (x1).toInt) (g1 : (x1).toInt < 200) : CtV l yX1_leaveFor wsX1_leaveFor ({ frames := 3, cells := 0, slots := 0, locals := 67 }) G cy (cX cy a) xN sz q [.ref (a 3), .int x1, .int x2] (fX1_leaveFor q x1 x2) := by
  refine Met.ofW (cc := cX1_leaveFor) (maxL := 3) (ret := none) (by decide) rfl ?_
  intro p e s m args below meth c s₁ B hml hv
  obtain ⟨rfl, hsz, hP, hK, hD0, hN⟩ := hv
  have hx := B.exec
  have hb := B.bytes
  have hr := B.returns
  have hts := atoms_spec (ws := wsX1_leaveFor) B.pre
  have hown : s.vm.findClass RX1 = some m.cls := findClass_of_methodNamed B.named
  have hlocks := B.notSynchronized
  subst hsz
  have hD : ∀ z : wSt, va_D (wA (cX cy a) s.heap.size) ((cX cy a) z) := fun z => w_self (xOk cy a).1 hD0 z
  have hA : ∀ z : Nat, s.heap.size ≤ z → wA (cX cy a) s.heap.size z := fun _ h => Or.inr h
  have hS : va_S (wA (cX cy a) s.heap.size) s.heap s.heap [] := va_S.rf
  have hl := lv_entry ([.ref (a 3), .int x1, .int x2]) (n := 3) (Nat.le_of_ble_eq_true rfl)
  rw [lg_entry_eq]
  generalize (lg_sl ([.ref (a 3), .int x1, .int x2]) ++ List.replicate (3 - (lg_sl ([.ref (a 3), .int x1, .int x2])).length) Slot.unset).toArray = ls at hl ⊢
  have hl : lv_has ls 3 [(0, .ref (a 3)), (1, .int x1), (2, .int x2)] := hl
  refine lv_aload_n hx hb dX1_leaveFor_0 rfl (lv_at hl 0 rfl) ?_
  refine lv_iload_n hx hb dX1_leaveFor_1 rfl (lv_at hl 1 rfl) ?_
  refine lv_iload_n hx hb dX1_leaveFor_2 rfl (lv_at hl 2 rfl) ?_
  refine w_goV (va_runV (As := [.int x1, .int x2]) (rest := []) ⟨hx, hb, hml, hown, hts⟩ (mX1_moveTo l G cy a _ q x1 x2 (by omega) (by omega)) (cwV 2 hts gX1_leaveFor_X1_moveTo rfl rfl rfl (by decide +kernel) ⟨Nat.le_of_ble_eq_true rfl, Nat.le_of_ble_eq_true rfl⟩) (w_pre (xOk cy a) (va_recv hK hP (ci := 1) (q0 := 3) rfl rfl) hK hP hD hS hA hN) rfl rfl hl.1 rfl (lv_room (Nat.le_of_ble_eq_true rfl)) dX1_leaveFor_3 ⟨Nat.le_of_ble_eq_true rfl, Nat.le_of_ble_eq_true rfl⟩) hD hS hA (fun H locs hP hS => ?_)
  refine lv_aload_n hx hb dX1_leaveFor_6 rfl (lv_at hl 0 rfl) ?_
  refine lv_iload_n hx hb dX1_leaveFor_7 rfl (lv_at hl 1 rfl) ?_
  refine w_goV (va_runV (As := [.int x1]) (rest := []) ⟨hx, hb, hml, hown, hts⟩ (mX1_belongToNobody l G cy a _ (fX1_moveTo q x1 x2) x1 (by omega) (by omega)) (cwV 1 hts gX1_leaveFor_X1_belongToNobody rfl rfl rfl (by decide +kernel) ⟨Nat.le_of_ble_eq_true rfl, Nat.le_of_ble_eq_true rfl⟩) (w_pre (xOk cy a) (va_recv hK hP (ci := 1) (q0 := 3) rfl rfl) hK hP hD hS hA hN) rfl rfl hl.1 rfl (lv_room (Nat.le_of_ble_eq_true rfl)) dX1_leaveFor_8 ⟨Nat.le_of_ble_eq_true rfl, Nat.le_of_ble_eq_true rfl⟩) hD hS hA (fun H locs hP hS => ?_)
  exact W.vret hx hb hr (fun t ht hW => ⟨⟨(fX1_belongToNobody (fX1_moveTo q x1 x2) x1), rfl, (Eq.symm (show (fX1_leaveFor q x1 x2) = (fX1_belongToNobody (fX1_moveTo q x1 x2) x1) by (rw [fX1_leaveFor]); try rfl)), w_ht ht hP⟩, hS.F ht⟩) hS.2.2 dX1_leaveFor_11
end
section
set_option maxHeartbeats 4000000 in
set_option maxRecDepth 100000 in
theorem mX1_lend (l : Launch) (G : va_G) (cy : ClassId) (a : Nat → Nat) (sz : Nat) (q : wSt) (x1 : Int32) (x2 : Int32) (x3 : Int32) (g0 : 0 ≤ (x1).toInt) (g1 : (x1).toInt < 200) : CtV l yX1_lend wsX1_lend ({ frames := 0, cells := 0, slots := 0, locals := 0 }) G cy (cX cy a) xN sz q [.ref (a 3), .int x1, .int x2, .int x3] (fX1_lend q x1 x2 x3) := by
  refine Met.ofW (cc := cX1_lend) (maxL := 4) (ret := none) (by decide) rfl ?_
  intro p e s m args below meth c s₁ B hml hv
  obtain ⟨rfl, hsz, hP, hK, hD0, hN⟩ := hv
  have hx := B.exec
  have hb := B.bytes
  have hr := B.returns
  have hts := atoms_spec (ws := wsX1_lend) B.pre
  have hown : s.vm.findClass RX1 = some m.cls := findClass_of_methodNamed B.named
  have hlocks := B.notSynchronized
  subst hsz
  have hD : ∀ z : wSt, va_D (wA (cX cy a) s.heap.size) ((cX cy a) z) := fun z => w_self (xOk cy a).1 hD0 z
  have hA : ∀ z : Nat, s.heap.size ≤ z → wA (cX cy a) s.heap.size z := fun _ h => Or.inr h
  have hS : va_S (wA (cX cy a) s.heap.size) s.heap s.heap [] := va_S.rf
  have hl := lv_entry ([.ref (a 3), .int x1, .int x2, .int x3]) (n := 4) (Nat.le_of_ble_eq_true rfl)
  rw [lg_entry_eq]
  generalize (lg_sl ([.ref (a 3), .int x1, .int x2, .int x3]) ++ List.replicate (4 - (lg_sl ([.ref (a 3), .int x1, .int x2, .int x3])).length) Slot.unset).toArray = ls at hl ⊢
  have hl : lv_has ls 4 [(0, .ref (a 3)), (1, .int x1), (2, .int x2), (3, .int x3)] := hl
  have h_1 := hts (.fieldLink RX1 24 RX1 "reader" "[I") (by decide +kernel)
  have h_2 := (show ∀ w ∈ u_ws RX1 TX1 13, w ∈ wsX1_lend by decide +kernel)
  have h_3 := hts (.fieldLink RX1 27 RX1 "wish" "[I") (by decide +kernel)
  have h_4 := hts (.fieldLink RX1 36 RX1 "timesLent" "[I") (by decide +kernel)
  have t_1 : (1 : Int32).toInt = 1 := rfl
  refine lv_aload_n hx hb dX1_lend_0 rfl (lv_at hl 0 rfl) ?_
  refine gfX1_24 hx hb hts h_2 hown hK hP h_1 dX1_lend_1 ?_
  refine lv_iload_n hx hb dX1_lend_4 rfl (lv_at hl 1 rfl) ?_
  refine lv_iload_n hx hb dX1_lend_5 rfl (lv_at hl 2 rfl) ?_
  have v_1 : vp_in x1 200 := vp_in_iff.mpr (by omega)
  refine stX_10 (f := (q 10)) hx hb hK hP hD hS rfl v_1 dX1_lend_6 (fun H locs hP hS => ?_)
  refine lv_aload_n hx hb dX1_lend_7 rfl (lv_at hl 0 rfl) ?_
  refine gfX1_27 hx hb hts h_2 hown hK hP h_3 dX1_lend_8 ?_
  refine lv_iload_n hx hb dX1_lend_11 rfl (lv_at hl 1 rfl) ?_
  refine lv_iload_n hx hb dX1_lend_12 rfl (lv_at hl 3 rfl) ?_
  have v_2 : vp_in x1 200 := vp_in_iff.mpr (by omega)
  refine stX_11 (f := (q 11)) hx hb hK hP hD hS rfl v_2 dX1_lend_13 (fun H locs hP hS => ?_)
  refine lv_aload_n hx hb dX1_lend_14 rfl (lv_at hl 0 rfl) ?_
  refine gfX1_36 hx hb hts h_2 hown hK hP h_4 dX1_lend_15 ?_
  refine lv_iload_n hx hb dX1_lend_18 rfl (lv_at hl 1 rfl) ?_
  refine lv_dup2_11 hx hb dX1_lend_19 rfl rfl ?_
  have v_3 : vp_in x1 200 := vp_in_iff.mpr (by omega)
  refine ldX_14 (f := (q 14)) hx hb hK hP rfl v_3 dX1_lend_20 ?_
  refine lv_iconst (v := 1) hx hb dX1_lend_21 (by decide) ?_
  refine lv_iadd hx hb dX1_lend_22 ?_
  have v_4 : vp_in x1 200 := vp_in_iff.mpr (by omega)
  refine stX_14 (f := (q 14)) hx hb hK hP hD hS rfl v_4 dX1_lend_23 (fun H locs hP hS => ?_)
  exact W.vret hx hb hr (fun t ht hW => ⟨⟨(rset (rset (rset q 10 (upd (q 10) (x1).toNatClampNeg x2)) 11 (upd (q 11) (x1).toNatClampNeg x3)) 14 (upd (q 14) (x1).toNatClampNeg ((q 14 (x1).toNatClampNeg) + 1))), rfl, (Eq.symm (show (fX1_lend q x1 x2 x3) = (rset (rset (rset q 10 (upd (q 10) (x1).toNatClampNeg x2)) 11 (upd (q 11) (x1).toNatClampNeg x3)) 14 (upd (q 14) (x1).toNatClampNeg ((q 14 (x1).toNatClampNeg) + 1))) by (rw [fX1_lend]); try rfl)), w_ht ht hP⟩, hS.F ht⟩) hS.2.2 dX1_lend_24
end
section
set_option maxHeartbeats 4000000 in
set_option maxRecDepth 100000 in
theorem mX1_handOver (l : Launch) (G : va_G) (cy : ClassId) (a : Nat → Nat) (sz : Nat) (q : wSt) (x1 : Int32) (x2 : Int32) (g0 : 0 ≤ (x1).toInt) (g1 : (x1).toInt < 200) : CtV l yX1_handOver wsX1_handOver ({ frames := 3, cells := 0, slots := 0, locals := 67 }) G cy (cX cy a) xN sz q [.ref (a 3), .int x1, .int x2] (fX1_handOver q x1 x2) := by
  refine Met.ofW (cc := cX1_handOver) (maxL := 3) (ret := none) (by decide) rfl ?_
  intro p e s m args below meth c s₁ B hml hv
  obtain ⟨rfl, hsz, hP, hK, hD0, hN⟩ := hv
  have hx := B.exec
  have hb := B.bytes
  have hr := B.returns
  have hts := atoms_spec (ws := wsX1_handOver) B.pre
  have hown : s.vm.findClass RX1 = some m.cls := findClass_of_methodNamed B.named
  have hlocks := B.notSynchronized
  subst hsz
  have hD : ∀ z : wSt, va_D (wA (cX cy a) s.heap.size) ((cX cy a) z) := fun z => w_self (xOk cy a).1 hD0 z
  have hA : ∀ z : Nat, s.heap.size ≤ z → wA (cX cy a) s.heap.size z := fun _ h => Or.inr h
  have hS : va_S (wA (cX cy a) s.heap.size) s.heap s.heap [] := va_S.rf
  have hl := lv_entry ([.ref (a 3), .int x1, .int x2]) (n := 3) (Nat.le_of_ble_eq_true rfl)
  rw [lg_entry_eq]
  generalize (lg_sl ([.ref (a 3), .int x1, .int x2]) ++ List.replicate (3 - (lg_sl ([.ref (a 3), .int x1, .int x2])).length) Slot.unset).toArray = ls at hl ⊢
  have hl : lv_has ls 3 [(0, .ref (a 3)), (1, .int x1), (2, .int x2)] := hl
  have h_1 := hts (.fieldLink RX1 30 RX1 "since" "[I") (by decide +kernel)
  have h_2 := (show ∀ w ∈ u_ws RX1 TX1 13, w ∈ wsX1_handOver by decide +kernel)
  have h_3 := hts (.fieldLink RX1 33 RX1 "daysToGo" "[I") (by decide +kernel)
  have t_0 : (0 : Int32).toInt = 0 := rfl
  have t_1 : (1 : Int32).toInt = 1 := rfl
  refine lv_aload_n hx hb dX1_handOver_0 rfl (lv_at hl 0 rfl) ?_
  refine lv_iload_n hx hb dX1_handOver_1 rfl (lv_at hl 1 rfl) ?_
  refine lv_iconst (v := 1) hx hb dX1_handOver_2 (by decide) ?_
  refine w_goV (va_runV (As := [.int x1, .int 1]) (rest := []) ⟨hx, hb, hml, hown, hts⟩ (mX1_moveTo l G cy a _ q x1 1 (by omega) (by omega)) (cwV 2 hts gX1_handOver_X1_moveTo rfl rfl rfl (by decide +kernel) ⟨Nat.le_of_ble_eq_true rfl, Nat.le_of_ble_eq_true rfl⟩) (w_pre (xOk cy a) (va_recv hK hP (ci := 1) (q0 := 3) rfl rfl) hK hP hD hS hA hN) rfl rfl hl.1 rfl (lv_room (Nat.le_of_ble_eq_true rfl)) dX1_handOver_3 ⟨Nat.le_of_ble_eq_true rfl, Nat.le_of_ble_eq_true rfl⟩) hD hS hA (fun H locs hP hS => ?_)
  refine lv_aload_n hx hb dX1_handOver_6 rfl (lv_at hl 0 rfl) ?_
  refine gfX1_30 hx hb hts h_2 hown hK hP h_1 dX1_handOver_7 ?_
  refine lv_iload_n hx hb dX1_handOver_10 rfl (lv_at hl 1 rfl) ?_
  refine lv_iload_n hx hb dX1_handOver_11 rfl (lv_at hl 2 rfl) ?_
  have v_1 : vp_in x1 200 := vp_in_iff.mpr (by omega)
  refine stX_12 (f := ((fX1_moveTo q x1 1) 12)) hx hb hK hP hD hS rfl v_1 dX1_handOver_12 (fun H locs hP hS => ?_)
  refine lv_aload_n hx hb dX1_handOver_13 rfl (lv_at hl 0 rfl) ?_
  refine gfX1_33 hx hb hts h_2 hown hK hP h_3 dX1_handOver_14 ?_
  refine lv_iload_n hx hb dX1_handOver_17 rfl (lv_at hl 1 rfl) ?_
  refine lv_iconst (v := 0) hx hb dX1_handOver_18 (by decide) ?_
  have v_2 : vp_in x1 200 := vp_in_iff.mpr (by omega)
  refine stX_13 (f := ((fX1_moveTo q x1 1) 13)) hx hb hK hP hD hS rfl v_2 dX1_handOver_19 (fun H locs hP hS => ?_)
  exact W.vret hx hb hr (fun t ht hW => ⟨⟨(rset (rset (fX1_moveTo q x1 1) 12 (upd ((fX1_moveTo q x1 1) 12) (x1).toNatClampNeg x2)) 13 (upd ((fX1_moveTo q x1 1) 13) (x1).toNatClampNeg 0)), rfl, (Eq.symm (show (fX1_handOver q x1 x2) = (rset (rset (fX1_moveTo q x1 1) 12 (upd ((fX1_moveTo q x1 1) 12) (x1).toNatClampNeg x2)) 13 (upd ((fX1_moveTo q x1 1) 13) (x1).toNatClampNeg 0)) by (rw [fX1_handOver]); try rfl)), w_ht ht hP⟩, hS.F ht⟩) hS.2.2 dX1_handOver_20
end
section
set_option maxHeartbeats 4000000 in
set_option maxRecDepth 100000 in
theorem mX1_sendOut (l : Launch) (G : va_G) (cy : ClassId) (a : Nat → Nat) (sz : Nat) (q : wSt) (x1 : Int32) (x2 : Int32) (g0 : 0 ≤ (x1).toInt) (g1 : (x1).toInt < 200) : CtV l yX1_sendOut wsX1_sendOut ({ frames := 3, cells := 0, slots := 0, locals := 67 }) G cy (cX cy a) xN sz q [.ref (a 3), .int x1, .int x2] (fX1_sendOut q x1 x2) := by
  refine Met.ofW (cc := cX1_sendOut) (maxL := 3) (ret := none) (by decide) rfl ?_
  intro p e s m args below meth c s₁ B hml hv
  obtain ⟨rfl, hsz, hP, hK, hD0, hN⟩ := hv
  have hx := B.exec
  have hb := B.bytes
  have hr := B.returns
  have hts := atoms_spec (ws := wsX1_sendOut) B.pre
  have hown : s.vm.findClass RX1 = some m.cls := findClass_of_methodNamed B.named
  have hlocks := B.notSynchronized
  subst hsz
  have hD : ∀ z : wSt, va_D (wA (cX cy a) s.heap.size) ((cX cy a) z) := fun z => w_self (xOk cy a).1 hD0 z
  have hA : ∀ z : Nat, s.heap.size ≤ z → wA (cX cy a) s.heap.size z := fun _ h => Or.inr h
  have hS : va_S (wA (cX cy a) s.heap.size) s.heap s.heap [] := va_S.rf
  have hl := lv_entry ([.ref (a 3), .int x1, .int x2]) (n := 3) (Nat.le_of_ble_eq_true rfl)
  rw [lg_entry_eq]
  generalize (lg_sl ([.ref (a 3), .int x1, .int x2]) ++ List.replicate (3 - (lg_sl ([.ref (a 3), .int x1, .int x2])).length) Slot.unset).toArray = ls at hl ⊢
  have hl : lv_has ls 3 [(0, .ref (a 3)), (1, .int x1), (2, .int x2)] := hl
  have h_1 := hts (.fieldLink RX1 33 RX1 "daysToGo" "[I") (by decide +kernel)
  have h_2 := (show ∀ w ∈ u_ws RX1 TX1 13, w ∈ wsX1_sendOut by decide +kernel)
  have t_2 : (2 : Int32).toInt = 2 := rfl
  refine lv_aload_n hx hb dX1_sendOut_0 rfl (lv_at hl 0 rfl) ?_
  refine lv_iload_n hx hb dX1_sendOut_1 rfl (lv_at hl 1 rfl) ?_
  refine lv_iconst (v := 2) hx hb dX1_sendOut_2 (by decide) ?_
  refine w_goV (va_runV (As := [.int x1, .int 2]) (rest := []) ⟨hx, hb, hml, hown, hts⟩ (mX1_moveTo l G cy a _ q x1 2 (by omega) (by omega)) (cwV 2 hts gX1_sendOut_X1_moveTo rfl rfl rfl (by decide +kernel) ⟨Nat.le_of_ble_eq_true rfl, Nat.le_of_ble_eq_true rfl⟩) (w_pre (xOk cy a) (va_recv hK hP (ci := 1) (q0 := 3) rfl rfl) hK hP hD hS hA hN) rfl rfl hl.1 rfl (lv_room (Nat.le_of_ble_eq_true rfl)) dX1_sendOut_3 ⟨Nat.le_of_ble_eq_true rfl, Nat.le_of_ble_eq_true rfl⟩) hD hS hA (fun H locs hP hS => ?_)
  refine lv_aload_n hx hb dX1_sendOut_6 rfl (lv_at hl 0 rfl) ?_
  refine gfX1_33 hx hb hts h_2 hown hK hP h_1 dX1_sendOut_7 ?_
  refine lv_iload_n hx hb dX1_sendOut_10 rfl (lv_at hl 1 rfl) ?_
  refine lv_iload_n hx hb dX1_sendOut_11 rfl (lv_at hl 2 rfl) ?_
  have v_1 : vp_in x1 200 := vp_in_iff.mpr (by omega)
  refine stX_13 (f := ((fX1_moveTo q x1 2) 13)) hx hb hK hP hD hS rfl v_1 dX1_sendOut_12 (fun H locs hP hS => ?_)
  exact W.vret hx hb hr (fun t ht hW => ⟨⟨(rset (fX1_moveTo q x1 2) 13 (upd ((fX1_moveTo q x1 2) 13) (x1).toNatClampNeg x2)), rfl, (Eq.symm (show (fX1_sendOut q x1 x2) = (rset (fX1_moveTo q x1 2) 13 (upd ((fX1_moveTo q x1 2) 13) (x1).toNatClampNeg x2)) by (rw [fX1_sendOut]); try rfl)), w_ht ht hP⟩, hS.F ht⟩) hS.2.2 dX1_sendOut_13
end
section
set_option maxHeartbeats 4000000 in
set_option maxRecDepth 100000 in
theorem mX1_sendBack (l : Launch) (G : va_G) (cy : ClassId) (a : Nat → Nat) (sz : Nat) (q : wSt) (x1 : Int32) (x2 : Int32) (g0 : 0 ≤ (x1).toInt) (g1 : (x1).toInt < 200) : CtV l yX1_sendBack wsX1_sendBack ({ frames := 3, cells := 0, slots := 0, locals := 67 }) G cy (cX cy a) xN sz q [.ref (a 3), .int x1, .int x2] (fX1_sendBack q x1 x2) := by
  refine Met.ofW (cc := cX1_sendBack) (maxL := 3) (ret := none) (by decide) rfl ?_
  intro p e s m args below meth c s₁ B hml hv
  obtain ⟨rfl, hsz, hP, hK, hD0, hN⟩ := hv
  have hx := B.exec
  have hb := B.bytes
  have hr := B.returns
  have hts := atoms_spec (ws := wsX1_sendBack) B.pre
  have hown : s.vm.findClass RX1 = some m.cls := findClass_of_methodNamed B.named
  have hlocks := B.notSynchronized
  subst hsz
  have hD : ∀ z : wSt, va_D (wA (cX cy a) s.heap.size) ((cX cy a) z) := fun z => w_self (xOk cy a).1 hD0 z
  have hA : ∀ z : Nat, s.heap.size ≤ z → wA (cX cy a) s.heap.size z := fun _ h => Or.inr h
  have hS : va_S (wA (cX cy a) s.heap.size) s.heap s.heap [] := va_S.rf
  have hl := lv_entry ([.ref (a 3), .int x1, .int x2]) (n := 3) (Nat.le_of_ble_eq_true rfl)
  rw [lg_entry_eq]
  generalize (lg_sl ([.ref (a 3), .int x1, .int x2]) ++ List.replicate (3 - (lg_sl ([.ref (a 3), .int x1, .int x2])).length) Slot.unset).toArray = ls at hl ⊢
  have hl : lv_has ls 3 [(0, .ref (a 3)), (1, .int x1), (2, .int x2)] := hl
  have h_1 := hts (.fieldLink RX1 27 RX1 "wish" "[I") (by decide +kernel)
  have h_2 := (show ∀ w ∈ u_ws RX1 TX1 13, w ∈ wsX1_sendBack by decide +kernel)
  have h_3 := hts (.fieldLink RX1 30 RX1 "since" "[I") (by decide +kernel)
  have h_4 := hts (.fieldLink RX1 33 RX1 "daysToGo" "[I") (by decide +kernel)
  have t_m1 : ((-1) : Int32).toInt = -1 := rfl
  have t_3 : (3 : Int32).toInt = 3 := rfl
  refine lv_aload_n hx hb dX1_sendBack_0 rfl (lv_at hl 0 rfl) ?_
  refine lv_iload_n hx hb dX1_sendBack_1 rfl (lv_at hl 1 rfl) ?_
  refine lv_iconst (v := 3) hx hb dX1_sendBack_2 (by decide) ?_
  refine w_goV (va_runV (As := [.int x1, .int 3]) (rest := []) ⟨hx, hb, hml, hown, hts⟩ (mX1_moveTo l G cy a _ q x1 3 (by omega) (by omega)) (cwV 2 hts gX1_sendBack_X1_moveTo rfl rfl rfl (by decide +kernel) ⟨Nat.le_of_ble_eq_true rfl, Nat.le_of_ble_eq_true rfl⟩) (w_pre (xOk cy a) (va_recv hK hP (ci := 1) (q0 := 3) rfl rfl) hK hP hD hS hA hN) rfl rfl hl.1 rfl (lv_room (Nat.le_of_ble_eq_true rfl)) dX1_sendBack_3 ⟨Nat.le_of_ble_eq_true rfl, Nat.le_of_ble_eq_true rfl⟩) hD hS hA (fun H locs hP hS => ?_)
  refine lv_aload_n hx hb dX1_sendBack_6 rfl (lv_at hl 0 rfl) ?_
  refine gfX1_27 hx hb hts h_2 hown hK hP h_1 dX1_sendBack_7 ?_
  refine lv_iload_n hx hb dX1_sendBack_10 rfl (lv_at hl 1 rfl) ?_
  refine lv_iconst (v := (-1)) hx hb dX1_sendBack_11 (by decide) ?_
  have v_1 : vp_in x1 200 := vp_in_iff.mpr (by omega)
  refine stX_11 (f := ((fX1_moveTo q x1 3) 11)) hx hb hK hP hD hS rfl v_1 dX1_sendBack_12 (fun H locs hP hS => ?_)
  refine lv_aload_n hx hb dX1_sendBack_13 rfl (lv_at hl 0 rfl) ?_
  refine gfX1_30 hx hb hts h_2 hown hK hP h_3 dX1_sendBack_14 ?_
  refine lv_iload_n hx hb dX1_sendBack_17 rfl (lv_at hl 1 rfl) ?_
  refine lv_iconst (v := (-1)) hx hb dX1_sendBack_18 (by decide) ?_
  have v_2 : vp_in x1 200 := vp_in_iff.mpr (by omega)
  refine stX_12 (f := ((fX1_moveTo q x1 3) 12)) hx hb hK hP hD hS rfl v_2 dX1_sendBack_19 (fun H locs hP hS => ?_)
  refine lv_aload_n hx hb dX1_sendBack_20 rfl (lv_at hl 0 rfl) ?_
  refine gfX1_33 hx hb hts h_2 hown hK hP h_4 dX1_sendBack_21 ?_
  refine lv_iload_n hx hb dX1_sendBack_24 rfl (lv_at hl 1 rfl) ?_
  refine lv_iload_n hx hb dX1_sendBack_25 rfl (lv_at hl 2 rfl) ?_
  have v_3 : vp_in x1 200 := vp_in_iff.mpr (by omega)
  refine stX_13 (f := ((fX1_moveTo q x1 3) 13)) hx hb hK hP hD hS rfl v_3 dX1_sendBack_26 (fun H locs hP hS => ?_)
  exact W.vret hx hb hr (fun t ht hW => ⟨⟨(rset (rset (rset (fX1_moveTo q x1 3) 11 (upd ((fX1_moveTo q x1 3) 11) (x1).toNatClampNeg (-1))) 12 (upd ((fX1_moveTo q x1 3) 12) (x1).toNatClampNeg (-1))) 13 (upd ((fX1_moveTo q x1 3) 13) (x1).toNatClampNeg x2)), rfl, (Eq.symm (show (fX1_sendBack q x1 x2) = (rset (rset (rset (fX1_moveTo q x1 3) 11 (upd ((fX1_moveTo q x1 3) 11) (x1).toNatClampNeg (-1))) 12 (upd ((fX1_moveTo q x1 3) 12) (x1).toNatClampNeg (-1))) 13 (upd ((fX1_moveTo q x1 3) 13) (x1).toNatClampNeg x2)) by (rw [fX1_sendBack]); try rfl)), w_ht ht hP⟩, hS.F ht⟩) hS.2.2 dX1_sendBack_27
end
section
set_option maxHeartbeats 4000000 in
set_option maxRecDepth 100000 in
theorem mX1_comesToday (l : Launch) (G : va_G) (cy : ClassId) (a : Nat → Nat) (sz : Nat) (q : wSt) (x1 : Int32) (g0 : 0 ≤ (x1).toInt) (g1 : (x1).toInt < 200) : CtI l yX1_comesToday wsX1_comesToday ({ frames := 1, cells := 0, slots := 0, locals := 21 }) G cy (cX cy a) xN sz q [.ref (a 3), .int x1] (fX1_comesToday q x1).1 (fX1_comesToday q x1).2 := by
  refine Met.ofW (cc := cX1_comesToday) (maxL := 2) (ret := (some .boolean)) (by decide) rfl ?_
  intro p e s m args below meth c s₁ B hml hv
  obtain ⟨rfl, hsz, hP, hK, hD0, hN⟩ := hv
  have hx := B.exec
  have hb := B.bytes
  have hr := B.returns
  have hts := atoms_spec (ws := wsX1_comesToday) B.pre
  have hown : s.vm.findClass RX1 = some m.cls := findClass_of_methodNamed B.named
  have hlocks := B.notSynchronized
  subst hsz
  have hD : ∀ z : wSt, va_D (wA (cX cy a) s.heap.size) ((cX cy a) z) := fun z => w_self (xOk cy a).1 hD0 z
  have hA : ∀ z : Nat, s.heap.size ≤ z → wA (cX cy a) s.heap.size z := fun _ h => Or.inr h
  have hS : va_S (wA (cX cy a) s.heap.size) s.heap s.heap [] := va_S.rf
  have hl := lv_entry ([.ref (a 3), .int x1]) (n := 2) (Nat.le_of_ble_eq_true rfl)
  rw [lg_entry_eq]
  generalize (lg_sl ([.ref (a 3), .int x1]) ++ List.replicate (2 - (lg_sl ([.ref (a 3), .int x1])).length) Slot.unset).toArray = ls at hl ⊢
  have hl : lv_has ls 2 [(0, .ref (a 3)), (1, .int x1)] := hl
  have h_1 := hts (.fieldLink RX1 33 RX1 "daysToGo" "[I") (by decide +kernel)
  have h_2 := (show ∀ w ∈ u_ws RX1 TX1 13, w ∈ wsX1_comesToday by decide +kernel)
  have t_0 : (0 : Int32).toInt = 0 := rfl
  have t_1 : (1 : Int32).toInt = 1 := rfl
  refine lv_aload_n hx hb dX1_comesToday_0 rfl (lv_at hl 0 rfl) ?_
  refine lv_iload_n hx hb dX1_comesToday_1 rfl (lv_at hl 1 rfl) ?_
  refine w_goI (va_runV (As := [.int x1]) (rest := []) ⟨hx, hb, hml, hown, hts⟩ (mX1_inBox l G cy a _ q x1 (by omega) (by omega)) (cwV 1 hts gX1_comesToday_X1_inBox rfl rfl rfl (by decide +kernel) ⟨Nat.le_of_ble_eq_true rfl, Nat.le_of_ble_eq_true rfl⟩) (w_pre (xOk cy a) (va_recv hK hP (ci := 1) (q0 := 3) rfl rfl) hK hP hD hS hA hN) rfl rfl hl.1 rfl (lv_room (Nat.le_of_ble_eq_true rfl)) dX1_comesToday_2 ⟨Nat.le_of_ble_eq_true rfl, Nat.le_of_ble_eq_true rfl⟩) hD hS hA (fun H locs hP hS => ?_)
  refine lv_if_ne (tgt := 10) hx hb dX1_comesToday_5 (by decide) (fun c_1 => ?_) (fun c_1 => ?_)
  · have e_2 := i_ne c_1
    refine lv_aload_n hx hb dX1_comesToday_10 rfl (lv_at hl 0 rfl) ?_
    refine gfX1_33 hx hb hts h_2 hown hK hP h_1 dX1_comesToday_11 ?_
    refine lv_iload_n hx hb dX1_comesToday_14 rfl (lv_at hl 1 rfl) ?_
    refine lv_dup2_11 hx hb dX1_comesToday_15 rfl rfl ?_
    have v_3 : vp_in x1 200 := vp_in_iff.mpr (by omega)
    refine ldX_13 (f := (q 13)) hx hb hK hP rfl v_3 dX1_comesToday_16 ?_
    refine lv_iconst (v := 1) hx hb dX1_comesToday_17 (by decide) ?_
    refine lv_isub hx hb dX1_comesToday_18 ?_
    have v_4 : vp_in x1 200 := vp_in_iff.mpr (by omega)
    refine stX_13 (f := (q 13)) hx hb hK hP hD hS rfl v_4 dX1_comesToday_19 (fun H locs hP hS => ?_)
    refine lv_aload_n hx hb dX1_comesToday_20 rfl (lv_at hl 0 rfl) ?_
    refine gfX1_33 hx hb hts h_2 hown hK hP h_1 dX1_comesToday_21 ?_
    refine lv_iload_n hx hb dX1_comesToday_24 rfl (lv_at hl 1 rfl) ?_
    have v_5 : vp_in x1 200 := vp_in_iff.mpr (by omega)
    refine ldX_13 (f := (upd (q 13) (x1).toNatClampNeg ((q 13 (x1).toNatClampNeg) - 1))) hx hb hK hP rfl v_5 dX1_comesToday_25 ?_
    refine lv_if_gt (tgt := 33) hx hb dX1_comesToday_26 (by decide) (fun c_6 => ?_) (fun c_6 => ?_)
    · have e_7 := i_lt c_6
      refine lv_iconst (v := 0) hx hb dX1_comesToday_33 (by decide) ?_
      exact W.zret (v := 0) hx hb hr rfl (fun t ht hW => ⟨⟨0, (rset q 13 (upd (q 13) (x1).toNatClampNeg ((q 13 (x1).toNatClampNeg) - 1))), rfl, ⟨(Eq.symm (show (fX1_comesToday q x1).1 = 0 by (rw [fX1_comesToday, if_neg c_1, if_pos c_6]); try rfl)), (Eq.symm (show (fX1_comesToday q x1).2 = (rset q 13 (upd (q 13) (x1).toNatClampNeg ((q 13 (x1).toNatClampNeg) - 1))) by (rw [fX1_comesToday, if_neg c_1, if_pos c_6]); try rfl))⟩, w_ht ht hP⟩, hS.F ht⟩) hS.2.2 dX1_comesToday_34
    · have e_7 := i_nlt c_6
      refine lv_iconst (v := 1) hx hb dX1_comesToday_29 (by decide) ?_
      refine lv_goto (tgt := 34) hx hb dX1_comesToday_30 (by decide) ?_
      exact W.zret (v := 1) hx hb hr rfl (fun t ht hW => ⟨⟨1, (rset q 13 (upd (q 13) (x1).toNatClampNeg ((q 13 (x1).toNatClampNeg) - 1))), rfl, ⟨(Eq.symm (show (fX1_comesToday q x1).1 = 1 by (rw [fX1_comesToday, if_neg c_1, if_neg c_6]); try rfl)), (Eq.symm (show (fX1_comesToday q x1).2 = (rset q 13 (upd (q 13) (x1).toNatClampNeg ((q 13 (x1).toNatClampNeg) - 1))) by (rw [fX1_comesToday, if_neg c_1, if_neg c_6]); try rfl))⟩, w_ht ht hP⟩, hS.F ht⟩) hS.2.2 dX1_comesToday_34
  · have e_2 := i_eq c_1
    refine lv_iconst (v := 0) hx hb dX1_comesToday_8 (by decide) ?_
    exact W.zret (v := 0) hx hb hr rfl (fun t ht hW => ⟨⟨0, q, rfl, ⟨(Eq.symm (show (fX1_comesToday q x1).1 = 0 by (rw [fX1_comesToday, if_pos c_1]); try rfl)), (Eq.symm (show (fX1_comesToday q x1).2 = q by (rw [fX1_comesToday, if_pos c_1]); try rfl))⟩, w_ht ht hP⟩, hS.F ht⟩) hS.2.2 dX1_comesToday_9
end
