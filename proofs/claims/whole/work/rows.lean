section
-- ===== PART A: goes FIRST, ahead of the names: the tables' words, and 'selects' of the private methods out of them =====
/-- a private method of a class that the tables say can be made, by its rows of tables_1 -/
def lw_okq (q : MethodName × Nat) : Prop := (q.1.cls ≠ "java/lang/invoke/MethodHandle" ∧ q.1.cls ≠ "java/lang/invoke/VarHandle") ∧ Cond.instantiable q.1.cls q.2 ∈ tables_1 ∧ Cond.privateMethod q.1 ∈ tables_1 ∧ Cond.instanceMethod q.1 ∈ tables_1
theorem lw_p0 : lw_okq (⟨"Buddyfield$Content", "mappedPlaces", "()I"⟩, 11) := ⟨⟨by decide +kernel, by decide +kernel⟩, List.mem_of_getElem? (i := 87) (by decide +kernel), List.mem_of_getElem? (i := 176) (by decide +kernel), List.mem_of_getElem? (i := 177) (by decide +kernel)⟩
theorem lw_p1 : lw_okq (⟨"java/lang/Throwable", "fillInStackTrace", "(I)Ljava/lang/Throwable;"⟩, 6) := ⟨⟨by decide +kernel, by decide +kernel⟩, List.mem_of_getElem? (i := 245) (by decide +kernel), List.mem_of_getElem? (i := 243) (by decide +kernel), List.mem_of_getElem? (i := 244) (by decide +kernel)⟩
theorem lw_p2 : lw_okq (⟨"Buddyfield", "requireUp", "()V"⟩, 5) := ⟨⟨by decide +kernel, by decide +kernel⟩, List.mem_of_getElem? (i := 16) (by decide +kernel), List.mem_of_getElem? (i := 275) (by decide +kernel), List.mem_of_getElem? (i := 276) (by decide +kernel)⟩
theorem lw_p3 : lw_okq (⟨"Buddyfield", "lowestUnusedFile", "()I"⟩, 5) := ⟨⟨by decide +kernel, by decide +kernel⟩, List.mem_of_getElem? (i := 16) (by decide +kernel), List.mem_of_getElem? (i := 295) (by decide +kernel), List.mem_of_getElem? (i := 296) (by decide +kernel)⟩
theorem lw_p4 : lw_okq (⟨"Buddyfield$Directory", "fileWith", "(I)I"⟩, 2) := ⟨⟨by decide +kernel, by decide +kernel⟩, List.mem_of_getElem? (i := 39) (by decide +kernel), List.mem_of_getElem? (i := 299) (by decide +kernel), List.mem_of_getElem? (i := 300) (by decide +kernel)⟩
theorem lw_p5 : lw_okq (⟨"Buddyfield$Directory", "lastLookedAt", "(I)LBuddyfield$Leaf;"⟩, 2) := ⟨⟨by decide +kernel, by decide +kernel⟩, List.mem_of_getElem? (i := 39) (by decide +kernel), List.mem_of_getElem? (i := 303) (by decide +kernel), List.mem_of_getElem? (i := 304) (by decide +kernel)⟩
theorem lw_p6 : lw_okq (⟨"Buddyfield$Directory", "firstLookedAt", "(I)LBuddyfield$Leaf;"⟩, 2) := ⟨⟨by decide +kernel, by decide +kernel⟩, List.mem_of_getElem? (i := 39) (by decide +kernel), List.mem_of_getElem? (i := 310) (by decide +kernel), List.mem_of_getElem? (i := 311) (by decide +kernel)⟩
theorem lw_p7 : lw_okq (⟨"Buddyfield$Directory", "lastLeafFor", "(I)LBuddyfield$Leaf;"⟩, 2) := ⟨⟨by decide +kernel, by decide +kernel⟩, List.mem_of_getElem? (i := 39) (by decide +kernel), List.mem_of_getElem? (i := 314) (by decide +kernel), List.mem_of_getElem? (i := 315) (by decide +kernel)⟩
theorem lw_p8 : lw_okq (⟨"Buddyfield$Leaf", "continues", "(I)Z"⟩, 7) := ⟨⟨by decide +kernel, by decide +kernel⟩, List.mem_of_getElem? (i := 45) (by decide +kernel), List.mem_of_getElem? (i := 318) (by decide +kernel), List.mem_of_getElem? (i := 319) (by decide +kernel)⟩
theorem lw_p9 : lw_okq (⟨"Buddyfield$Leaf", "has", "(I)Z"⟩, 7) := ⟨⟨by decide +kernel, by decide +kernel⟩, List.mem_of_getElem? (i := 45) (by decide +kernel), List.mem_of_getElem? (i := 322) (by decide +kernel), List.mem_of_getElem? (i := 323) (by decide +kernel)⟩
theorem lw_p10 : lw_okq (⟨"Buddyfield$Leaf", "indexOf", "(I)I"⟩, 7) := ⟨⟨by decide +kernel, by decide +kernel⟩, List.mem_of_getElem? (i := 45) (by decide +kernel), List.mem_of_getElem? (i := 326) (by decide +kernel), List.mem_of_getElem? (i := 327) (by decide +kernel)⟩
theorem lw_p11 : lw_okq (⟨"Buddyfield$Leaf", "fileWith", "(I)I"⟩, 7) := ⟨⟨by decide +kernel, by decide +kernel⟩, List.mem_of_getElem? (i := 45) (by decide +kernel), List.mem_of_getElem? (i := 330) (by decide +kernel), List.mem_of_getElem? (i := 331) (by decide +kernel)⟩
theorem lw_p12 : lw_okq (⟨"Buddyfield$Directory", "isFull", "()Z"⟩, 2) := ⟨⟨by decide +kernel, by decide +kernel⟩, List.mem_of_getElem? (i := 39) (by decide +kernel), List.mem_of_getElem? (i := 334) (by decide +kernel), List.mem_of_getElem? (i := 335) (by decide +kernel)⟩
theorem lw_p13 : lw_okq (⟨"Buddyfield$Directory", "add", "(II)V"⟩, 2) := ⟨⟨by decide +kernel, by decide +kernel⟩, List.mem_of_getElem? (i := 39) (by decide +kernel), List.mem_of_getElem? (i := 339) (by decide +kernel), List.mem_of_getElem? (i := 340) (by decide +kernel)⟩
theorem lw_p14 : lw_okq (⟨"Buddyfield$Leaf", "split", "()V"⟩, 7) := ⟨⟨by decide +kernel, by decide +kernel⟩, List.mem_of_getElem? (i := 45) (by decide +kernel), List.mem_of_getElem? (i := 343) (by decide +kernel), List.mem_of_getElem? (i := 344) (by decide +kernel)⟩
theorem lw_p15 : lw_okq (⟨"Buddyfield$Leaf", "insert", "(II)V"⟩, 7) := ⟨⟨by decide +kernel, by decide +kernel⟩, List.mem_of_getElem? (i := 45) (by decide +kernel), List.mem_of_getElem? (i := 350) (by decide +kernel), List.mem_of_getElem? (i := 351) (by decide +kernel)⟩
def lw_privs_1 : List (MethodName × Nat) := [(⟨"Buddyfield$Content", "mappedPlaces", "()I"⟩, 11), (⟨"java/lang/Throwable", "fillInStackTrace", "(I)Ljava/lang/Throwable;"⟩, 6), (⟨"Buddyfield", "requireUp", "()V"⟩, 5), (⟨"Buddyfield", "lowestUnusedFile", "()I"⟩, 5), (⟨"Buddyfield$Directory", "fileWith", "(I)I"⟩, 2), (⟨"Buddyfield$Directory", "lastLookedAt", "(I)LBuddyfield$Leaf;"⟩, 2), (⟨"Buddyfield$Directory", "firstLookedAt", "(I)LBuddyfield$Leaf;"⟩, 2), (⟨"Buddyfield$Directory", "lastLeafFor", "(I)LBuddyfield$Leaf;"⟩, 2), (⟨"Buddyfield$Leaf", "continues", "(I)Z"⟩, 7), (⟨"Buddyfield$Leaf", "has", "(I)Z"⟩, 7), (⟨"Buddyfield$Leaf", "indexOf", "(I)I"⟩, 7), (⟨"Buddyfield$Leaf", "fileWith", "(I)I"⟩, 7), (⟨"Buddyfield$Directory", "isFull", "()Z"⟩, 2), (⟨"Buddyfield$Directory", "add", "(II)V"⟩, 2), (⟨"Buddyfield$Leaf", "split", "()V"⟩, 7), (⟨"Buddyfield$Leaf", "insert", "(II)V"⟩, 7)]
theorem lw_r1 : ∀ q ∈ lw_privs_1, lw_okq q := List.forall_mem_cons.mpr ⟨lw_p0, List.forall_mem_cons.mpr ⟨lw_p1, List.forall_mem_cons.mpr ⟨lw_p2, List.forall_mem_cons.mpr ⟨lw_p3, List.forall_mem_cons.mpr ⟨lw_p4, List.forall_mem_cons.mpr ⟨lw_p5, List.forall_mem_cons.mpr ⟨lw_p6, List.forall_mem_cons.mpr ⟨lw_p7, List.forall_mem_cons.mpr ⟨lw_p8, List.forall_mem_cons.mpr ⟨lw_p9, List.forall_mem_cons.mpr ⟨lw_p10, List.forall_mem_cons.mpr ⟨lw_p11, List.forall_mem_cons.mpr ⟨lw_p12, List.forall_mem_cons.mpr ⟨lw_p13, List.forall_mem_cons.mpr ⟨lw_p14, List.forall_mem_cons.mpr ⟨lw_p15, fun _ h => absurd h List.not_mem_nil⟩⟩⟩⟩⟩⟩⟩⟩⟩⟩⟩⟩⟩⟩⟩⟩
theorem lw_p16 : lw_okq (⟨"Buddyfield$Leaf", "linkBehind", "(LBuddyfield$Leaf;)V"⟩, 7) := ⟨⟨by decide +kernel, by decide +kernel⟩, List.mem_of_getElem? (i := 45) (by decide +kernel), List.mem_of_getElem? (i := 357) (by decide +kernel), List.mem_of_getElem? (i := 358) (by decide +kernel)⟩
theorem lw_p17 : lw_okq (⟨"Buddyfield$Content", "begin", "()V"⟩, 11) := ⟨⟨by decide +kernel, by decide +kernel⟩, List.mem_of_getElem? (i := 87) (by decide +kernel), List.mem_of_getElem? (i := 362) (by decide +kernel), List.mem_of_getElem? (i := 363) (by decide +kernel)⟩
theorem lw_p18 : lw_okq (⟨"Buddyfield", "requireFileWith", "(I)I"⟩, 5) := ⟨⟨by decide +kernel, by decide +kernel⟩, List.mem_of_getElem? (i := 16) (by decide +kernel), List.mem_of_getElem? (i := 373) (by decide +kernel), List.mem_of_getElem? (i := 374) (by decide +kernel)⟩
theorem lw_p19 : lw_okq (⟨"Buddyfield", "requireContent", "(I)LBuddyfield$Content;"⟩, 5) := ⟨⟨by decide +kernel, by decide +kernel⟩, List.mem_of_getElem? (i := 16) (by decide +kernel), List.mem_of_getElem? (i := 386) (by decide +kernel), List.mem_of_getElem? (i := 387) (by decide +kernel)⟩
theorem lw_p20 : lw_okq (⟨"Buddyfield", "erase", "(LBuddyfield$Content;)Z"⟩, 5) := ⟨⟨by decide +kernel, by decide +kernel⟩, List.mem_of_getElem? (i := 16) (by decide +kernel), List.mem_of_getElem? (i := 407) (by decide +kernel), List.mem_of_getElem? (i := 408) (by decide +kernel)⟩
theorem lw_p21 : lw_okq (⟨"Buddyfield", "cutTo", "(LBuddyfield$Content;I)I"⟩, 5) := ⟨⟨by decide +kernel, by decide +kernel⟩, List.mem_of_getElem? (i := 16) (by decide +kernel), List.mem_of_getElem? (i := 411) (by decide +kernel), List.mem_of_getElem? (i := 412) (by decide +kernel)⟩
theorem lw_p22 : lw_okq (⟨"Buddyfield$Content", "dropReserved", "(I)V"⟩, 11) := ⟨⟨by decide +kernel, by decide +kernel⟩, List.mem_of_getElem? (i := 87) (by decide +kernel), List.mem_of_getElem? (i := 415) (by decide +kernel), List.mem_of_getElem? (i := 416) (by decide +kernel)⟩
theorem lw_p23 : lw_okq (⟨"Buddyfield", "releaseKept", "(LBuddyfield$Content;)V"⟩, 5) := ⟨⟨by decide +kernel, by decide +kernel⟩, List.mem_of_getElem? (i := 16) (by decide +kernel), List.mem_of_getElem? (i := 419) (by decide +kernel), List.mem_of_getElem? (i := 420) (by decide +kernel)⟩
theorem lw_p24 : lw_okq (⟨"Buddyfield$Ground", "release", "(II)V"⟩, 2) := ⟨⟨by decide +kernel, by decide +kernel⟩, List.mem_of_getElem? (i := 24) (by decide +kernel), List.mem_of_getElem? (i := 423) (by decide +kernel), List.mem_of_getElem? (i := 424) (by decide +kernel)⟩
theorem lw_p25 : lw_okq (⟨"Buddyfield$Ground", "mark", "(IIZ)V"⟩, 2) := ⟨⟨by decide +kernel, by decide +kernel⟩, List.mem_of_getElem? (i := 24) (by decide +kernel), List.mem_of_getElem? (i := 427) (by decide +kernel), List.mem_of_getElem? (i := 428) (by decide +kernel)⟩
theorem lw_p26 : lw_okq (⟨"Buddyfield$Content", "isMapped", "(I)Z"⟩, 11) := ⟨⟨by decide +kernel, by decide +kernel⟩, List.mem_of_getElem? (i := 87) (by decide +kernel), List.mem_of_getElem? (i := 431) (by decide +kernel), List.mem_of_getElem? (i := 432) (by decide +kernel)⟩
theorem lw_p27 : lw_okq (⟨"Buddyfield", "step", "(LBuddyfield$Content;II)V"⟩, 5) := ⟨⟨by decide +kernel, by decide +kernel⟩, List.mem_of_getElem? (i := 16) (by decide +kernel), List.mem_of_getElem? (i := 435) (by decide +kernel), List.mem_of_getElem? (i := 436) (by decide +kernel)⟩
theorem lw_p28 : lw_okq (⟨"Buddyfield$Content", "joinsAhead", "(I)Z"⟩, 11) := ⟨⟨by decide +kernel, by decide +kernel⟩, List.mem_of_getElem? (i := 87) (by decide +kernel), List.mem_of_getElem? (i := 439) (by decide +kernel), List.mem_of_getElem? (i := 440) (by decide +kernel)⟩
theorem lw_p29 : lw_okq (⟨"Buddyfield", "crashIsDue", "()Z"⟩, 5) := ⟨⟨by decide +kernel, by decide +kernel⟩, List.mem_of_getElem? (i := 16) (by decide +kernel), List.mem_of_getElem? (i := 444) (by decide +kernel), List.mem_of_getElem? (i := 445) (by decide +kernel)⟩
theorem lw_p30 : lw_okq (⟨"Buddyfield", "fall", "()V"⟩, 5) := ⟨⟨by decide +kernel, by decide +kernel⟩, List.mem_of_getElem? (i := 16) (by decide +kernel), List.mem_of_getElem? (i := 448) (by decide +kernel), List.mem_of_getElem? (i := 449) (by decide +kernel)⟩
theorem lw_p31 : lw_okq (⟨"Buddyfield", "releaseAllKept", "()V"⟩, 5) := ⟨⟨by decide +kernel, by decide +kernel⟩, List.mem_of_getElem? (i := 16) (by decide +kernel), List.mem_of_getElem? (i := 452) (by decide +kernel), List.mem_of_getElem? (i := 453) (by decide +kernel)⟩
def lw_privs_2 : List (MethodName × Nat) := [(⟨"Buddyfield$Leaf", "linkBehind", "(LBuddyfield$Leaf;)V"⟩, 7), (⟨"Buddyfield$Content", "begin", "()V"⟩, 11), (⟨"Buddyfield", "requireFileWith", "(I)I"⟩, 5), (⟨"Buddyfield", "requireContent", "(I)LBuddyfield$Content;"⟩, 5), (⟨"Buddyfield", "erase", "(LBuddyfield$Content;)Z"⟩, 5), (⟨"Buddyfield", "cutTo", "(LBuddyfield$Content;I)I"⟩, 5), (⟨"Buddyfield$Content", "dropReserved", "(I)V"⟩, 11), (⟨"Buddyfield", "releaseKept", "(LBuddyfield$Content;)V"⟩, 5), (⟨"Buddyfield$Ground", "release", "(II)V"⟩, 2), (⟨"Buddyfield$Ground", "mark", "(IIZ)V"⟩, 2), (⟨"Buddyfield$Content", "isMapped", "(I)Z"⟩, 11), (⟨"Buddyfield", "step", "(LBuddyfield$Content;II)V"⟩, 5), (⟨"Buddyfield$Content", "joinsAhead", "(I)Z"⟩, 11), (⟨"Buddyfield", "crashIsDue", "()Z"⟩, 5), (⟨"Buddyfield", "fall", "()V"⟩, 5), (⟨"Buddyfield", "releaseAllKept", "()V"⟩, 5)]
theorem lw_r2 : ∀ q ∈ lw_privs_2, lw_okq q := List.forall_mem_cons.mpr ⟨lw_p16, List.forall_mem_cons.mpr ⟨lw_p17, List.forall_mem_cons.mpr ⟨lw_p18, List.forall_mem_cons.mpr ⟨lw_p19, List.forall_mem_cons.mpr ⟨lw_p20, List.forall_mem_cons.mpr ⟨lw_p21, List.forall_mem_cons.mpr ⟨lw_p22, List.forall_mem_cons.mpr ⟨lw_p23, List.forall_mem_cons.mpr ⟨lw_p24, List.forall_mem_cons.mpr ⟨lw_p25, List.forall_mem_cons.mpr ⟨lw_p26, List.forall_mem_cons.mpr ⟨lw_p27, List.forall_mem_cons.mpr ⟨lw_p28, List.forall_mem_cons.mpr ⟨lw_p29, List.forall_mem_cons.mpr ⟨lw_p30, List.forall_mem_cons.mpr ⟨lw_p31, fun _ h => absurd h List.not_mem_nil⟩⟩⟩⟩⟩⟩⟩⟩⟩⟩⟩⟩⟩⟩⟩⟩
theorem lw_p32 : lw_okq (⟨"Buddyfield$Directory", "takeOut", "(I)V"⟩, 2) := ⟨⟨by decide +kernel, by decide +kernel⟩, List.mem_of_getElem? (i := 39) (by decide +kernel), List.mem_of_getElem? (i := 463) (by decide +kernel), List.mem_of_getElem? (i := 464) (by decide +kernel)⟩
theorem lw_p33 : lw_okq (⟨"Buddyfield$Leaf", "takeOut", "(I)V"⟩, 7) := ⟨⟨by decide +kernel, by decide +kernel⟩, List.mem_of_getElem? (i := 45) (by decide +kernel), List.mem_of_getElem? (i := 467) (by decide +kernel), List.mem_of_getElem? (i := 468) (by decide +kernel)⟩
theorem lw_p34 : lw_okq (⟨"Buddyfield$Content", "emptyPlaces", "(II)I"⟩, 11) := ⟨⟨by decide +kernel, by decide +kernel⟩, List.mem_of_getElem? (i := 87) (by decide +kernel), List.mem_of_getElem? (i := 478) (by decide +kernel), List.mem_of_getElem? (i := 479) (by decide +kernel)⟩
theorem lw_p35 : lw_okq (⟨"Buddyfield", "left", "()I"⟩, 5) := ⟨⟨by decide +kernel, by decide +kernel⟩, List.mem_of_getElem? (i := 16) (by decide +kernel), List.mem_of_getElem? (i := 482) (by decide +kernel), List.mem_of_getElem? (i := 483) (by decide +kernel)⟩
theorem lw_p36 : lw_okq (⟨"Buddyfield$Content", "reserve", "(II)V"⟩, 11) := ⟨⟨by decide +kernel, by decide +kernel⟩, List.mem_of_getElem? (i := 87) (by decide +kernel), List.mem_of_getElem? (i := 490) (by decide +kernel), List.mem_of_getElem? (i := 491) (by decide +kernel)⟩
theorem lw_p37 : lw_okq (⟨"Buddyfield$Content", "isReserved", "(I)Z"⟩, 11) := ⟨⟨by decide +kernel, by decide +kernel⟩, List.mem_of_getElem? (i := 87) (by decide +kernel), List.mem_of_getElem? (i := 501) (by decide +kernel), List.mem_of_getElem? (i := 502) (by decide +kernel)⟩
theorem lw_p38 : lw_okq (⟨"Buddyfield$Content", "endOfReserved", "(I)I"⟩, 11) := ⟨⟨by decide +kernel, by decide +kernel⟩, List.mem_of_getElem? (i := 87) (by decide +kernel), List.mem_of_getElem? (i := 505) (by decide +kernel), List.mem_of_getElem? (i := 506) (by decide +kernel)⟩
theorem lw_p39 : lw_okq (⟨"Buddyfield", "mapRow", "(LBuddyfield$Content;II)I"⟩, 5) := ⟨⟨by decide +kernel, by decide +kernel⟩, List.mem_of_getElem? (i := 16) (by decide +kernel), List.mem_of_getElem? (i := 510) (by decide +kernel), List.mem_of_getElem? (i := 511) (by decide +kernel)⟩
theorem lw_p40 : lw_okq (⟨"Buddyfield$Content", "isKeptFor", "(I)Z"⟩, 11) := ⟨⟨by decide +kernel, by decide +kernel⟩, List.mem_of_getElem? (i := 87) (by decide +kernel), List.mem_of_getElem? (i := 514) (by decide +kernel), List.mem_of_getElem? (i := 515) (by decide +kernel)⟩
theorem lw_p41 : lw_okq (⟨"Buddyfield$Content", "mapKept", "(II)I"⟩, 11) := ⟨⟨by decide +kernel, by decide +kernel⟩, List.mem_of_getElem? (i := 87) (by decide +kernel), List.mem_of_getElem? (i := 518) (by decide +kernel), List.mem_of_getElem? (i := 519) (by decide +kernel)⟩
theorem lw_p42 : lw_okq (⟨"Buddyfield$Content", "map", "(III)V"⟩, 11) := ⟨⟨by decide +kernel, by decide +kernel⟩, List.mem_of_getElem? (i := 87) (by decide +kernel), List.mem_of_getElem? (i := 525) (by decide +kernel), List.mem_of_getElem? (i := 526) (by decide +kernel)⟩
theorem lw_p43 : lw_okq (⟨"Buddyfield$Content", "keep", "(III)V"⟩, 11) := ⟨⟨by decide +kernel, by decide +kernel⟩, List.mem_of_getElem? (i := 87) (by decide +kernel), List.mem_of_getElem? (i := 529) (by decide +kernel), List.mem_of_getElem? (i := 530) (by decide +kernel)⟩
theorem lw_p44 : lw_okq (⟨"Buddyfield", "mapFound", "(LBuddyfield$Content;II)I"⟩, 5) := ⟨⟨by decide +kernel, by decide +kernel⟩, List.mem_of_getElem? (i := 16) (by decide +kernel), List.mem_of_getElem? (i := 533) (by decide +kernel), List.mem_of_getElem? (i := 534) (by decide +kernel)⟩
theorem lw_p45 : lw_okq (⟨"Buddyfield", "goalFor", "(LBuddyfield$Content;I)I"⟩, 5) := ⟨⟨by decide +kernel, by decide +kernel⟩, List.mem_of_getElem? (i := 16) (by decide +kernel), List.mem_of_getElem? (i := 537) (by decide +kernel), List.mem_of_getElem? (i := 538) (by decide +kernel)⟩
theorem lw_p46 : lw_okq (⟨"Buddyfield", "lengthFor", "(I)I"⟩, 5) := ⟨⟨by decide +kernel, by decide +kernel⟩, List.mem_of_getElem? (i := 16) (by decide +kernel), List.mem_of_getElem? (i := 541) (by decide +kernel), List.mem_of_getElem? (i := 542) (by decide +kernel)⟩
theorem lw_p47 : lw_okq (⟨"Buddyfield$Ground", "find", "(II)I"⟩, 2) := ⟨⟨by decide +kernel, by decide +kernel⟩, List.mem_of_getElem? (i := 24) (by decide +kernel), List.mem_of_getElem? (i := 545) (by decide +kernel), List.mem_of_getElem? (i := 546) (by decide +kernel)⟩
def lw_privs_3 : List (MethodName × Nat) := [(⟨"Buddyfield$Directory", "takeOut", "(I)V"⟩, 2), (⟨"Buddyfield$Leaf", "takeOut", "(I)V"⟩, 7), (⟨"Buddyfield$Content", "emptyPlaces", "(II)I"⟩, 11), (⟨"Buddyfield", "left", "()I"⟩, 5), (⟨"Buddyfield$Content", "reserve", "(II)V"⟩, 11), (⟨"Buddyfield$Content", "isReserved", "(I)Z"⟩, 11), (⟨"Buddyfield$Content", "endOfReserved", "(I)I"⟩, 11), (⟨"Buddyfield", "mapRow", "(LBuddyfield$Content;II)I"⟩, 5), (⟨"Buddyfield$Content", "isKeptFor", "(I)Z"⟩, 11), (⟨"Buddyfield$Content", "mapKept", "(II)I"⟩, 11), (⟨"Buddyfield$Content", "map", "(III)V"⟩, 11), (⟨"Buddyfield$Content", "keep", "(III)V"⟩, 11), (⟨"Buddyfield", "mapFound", "(LBuddyfield$Content;II)I"⟩, 5), (⟨"Buddyfield", "goalFor", "(LBuddyfield$Content;I)I"⟩, 5), (⟨"Buddyfield", "lengthFor", "(I)I"⟩, 5), (⟨"Buddyfield$Ground", "find", "(II)I"⟩, 2)]
theorem lw_r3 : ∀ q ∈ lw_privs_3, lw_okq q := List.forall_mem_cons.mpr ⟨lw_p32, List.forall_mem_cons.mpr ⟨lw_p33, List.forall_mem_cons.mpr ⟨lw_p34, List.forall_mem_cons.mpr ⟨lw_p35, List.forall_mem_cons.mpr ⟨lw_p36, List.forall_mem_cons.mpr ⟨lw_p37, List.forall_mem_cons.mpr ⟨lw_p38, List.forall_mem_cons.mpr ⟨lw_p39, List.forall_mem_cons.mpr ⟨lw_p40, List.forall_mem_cons.mpr ⟨lw_p41, List.forall_mem_cons.mpr ⟨lw_p42, List.forall_mem_cons.mpr ⟨lw_p43, List.forall_mem_cons.mpr ⟨lw_p44, List.forall_mem_cons.mpr ⟨lw_p45, List.forall_mem_cons.mpr ⟨lw_p46, List.forall_mem_cons.mpr ⟨lw_p47, fun _ h => absurd h List.not_mem_nil⟩⟩⟩⟩⟩⟩⟩⟩⟩⟩⟩⟩⟩⟩⟩⟩
theorem lw_p48 : lw_okq (⟨"Buddyfield$Ground", "areFree", "(II)Z"⟩, 2) := ⟨⟨by decide +kernel, by decide +kernel⟩, List.mem_of_getElem? (i := 24) (by decide +kernel), List.mem_of_getElem? (i := 549) (by decide +kernel), List.mem_of_getElem? (i := 550) (by decide +kernel)⟩
theorem lw_p49 : lw_okq (⟨"Buddyfield$Ground", "firstPiece", "(II)I"⟩, 2) := ⟨⟨by decide +kernel, by decide +kernel⟩, List.mem_of_getElem? (i := 24) (by decide +kernel), List.mem_of_getElem? (i := 553) (by decide +kernel), List.mem_of_getElem? (i := 554) (by decide +kernel)⟩
theorem lw_p50 : lw_okq (⟨"Buddyfield$Ground", "isFreePiece", "(II)Z"⟩, 2) := ⟨⟨by decide +kernel, by decide +kernel⟩, List.mem_of_getElem? (i := 24) (by decide +kernel), List.mem_of_getElem? (i := 557) (by decide +kernel), List.mem_of_getElem? (i := 558) (by decide +kernel)⟩
theorem lw_p51 : lw_okq (⟨"Buddyfield$Ground", "take", "(II)V"⟩, 2) := ⟨⟨by decide +kernel, by decide +kernel⟩, List.mem_of_getElem? (i := 24) (by decide +kernel), List.mem_of_getElem? (i := 562) (by decide +kernel), List.mem_of_getElem? (i := 563) (by decide +kernel)⟩
theorem lw_p52 : lw_okq (⟨"Buddyfield$Ground", "countPieces", "(II)I"⟩, 2) := ⟨⟨by decide +kernel, by decide +kernel⟩, List.mem_of_getElem? (i := 24) (by decide +kernel), List.mem_of_getElem? (i := 613) (by decide +kernel), List.mem_of_getElem? (i := 614) (by decide +kernel)⟩
theorem lw_p53 : lw_okq (⟨"Buddyfield$Content", "countExtents", "()I"⟩, 11) := ⟨⟨by decide +kernel, by decide +kernel⟩, List.mem_of_getElem? (i := 87) (by decide +kernel), List.mem_of_getElem? (i := 640) (by decide +kernel), List.mem_of_getElem? (i := 641) (by decide +kernel)⟩
theorem lw_p54 : lw_okq (⟨"Buddyfield$Content", "beginsExtent", "(I)Z"⟩, 11) := ⟨⟨by decide +kernel, by decide +kernel⟩, List.mem_of_getElem? (i := 87) (by decide +kernel), List.mem_of_getElem? (i := 644) (by decide +kernel), List.mem_of_getElem? (i := 645) (by decide +kernel)⟩
theorem lw_p55 : lw_okq (⟨"Buddyfield$Content", "beginOfExtent", "(I)I"⟩, 11) := ⟨⟨by decide +kernel, by decide +kernel⟩, List.mem_of_getElem? (i := 87) (by decide +kernel), List.mem_of_getElem? (i := 656) (by decide +kernel), List.mem_of_getElem? (i := 657) (by decide +kernel)⟩
theorem lw_p56 : lw_okq (⟨"Buddyfield$Content", "lengthOfExtent", "(I)I"⟩, 11) := ⟨⟨by decide +kernel, by decide +kernel⟩, List.mem_of_getElem? (i := 87) (by decide +kernel), List.mem_of_getElem? (i := 661) (by decide +kernel), List.mem_of_getElem? (i := 662) (by decide +kernel)⟩
theorem lw_p57 : lw_okq (⟨"Buddyfield$Directory", "countLooks", "(I)I"⟩, 2) := ⟨⟨by decide +kernel, by decide +kernel⟩, List.mem_of_getElem? (i := 39) (by decide +kernel), List.mem_of_getElem? (i := 686) (by decide +kernel), List.mem_of_getElem? (i := 687) (by decide +kernel)⟩
theorem lw_p58 : lw_okq (⟨"BuddyfieldModel", "asked", "(ZZ)Z"⟩, 18) := ⟨⟨by decide +kernel, by decide +kernel⟩, List.mem_of_getElem? (i := 690) (by decide +kernel), List.mem_of_getElem? (i := 765) (by decide +kernel), List.mem_of_getElem? (i := 766) (by decide +kernel)⟩
theorem lw_p59 : lw_okq (⟨"BuddyfieldModel", "addsName", "(I)V"⟩, 18) := ⟨⟨by decide +kernel, by decide +kernel⟩, List.mem_of_getElem? (i := 690) (by decide +kernel), List.mem_of_getElem? (i := 769) (by decide +kernel), List.mem_of_getElem? (i := 770) (by decide +kernel)⟩
theorem lw_p60 : lw_okq (⟨"BuddyfieldModel", "lastLeaf", "(I)I"⟩, 18) := ⟨⟨by decide +kernel, by decide +kernel⟩, List.mem_of_getElem? (i := 690) (by decide +kernel), List.mem_of_getElem? (i := 776) (by decide +kernel), List.mem_of_getElem? (i := 777) (by decide +kernel)⟩
theorem lw_p61 : lw_okq (⟨"BuddyfieldModel", "splits", "(I)V"⟩, 18) := ⟨⟨by decide +kernel, by decide +kernel⟩, List.mem_of_getElem? (i := 690) (by decide +kernel), List.mem_of_getElem? (i := 780) (by decide +kernel), List.mem_of_getElem? (i := 781) (by decide +kernel)⟩
theorem lw_p62 : lw_okq (⟨"BuddyfieldModel", "isThere", "(I)Z"⟩, 18) := ⟨⟨by decide +kernel, by decide +kernel⟩, List.mem_of_getElem? (i := 690) (by decide +kernel), List.mem_of_getElem? (i := 795) (by decide +kernel), List.mem_of_getElem? (i := 796) (by decide +kernel)⟩
theorem lw_p63 : lw_okq (⟨"BuddyfieldModel", "ends", "(I)Z"⟩, 18) := ⟨⟨by decide +kernel, by decide +kernel⟩, List.mem_of_getElem? (i := 690) (by decide +kernel), List.mem_of_getElem? (i := 799) (by decide +kernel), List.mem_of_getElem? (i := 800) (by decide +kernel)⟩
def lw_privs_4 : List (MethodName × Nat) := [(⟨"Buddyfield$Ground", "areFree", "(II)Z"⟩, 2), (⟨"Buddyfield$Ground", "firstPiece", "(II)I"⟩, 2), (⟨"Buddyfield$Ground", "isFreePiece", "(II)Z"⟩, 2), (⟨"Buddyfield$Ground", "take", "(II)V"⟩, 2), (⟨"Buddyfield$Ground", "countPieces", "(II)I"⟩, 2), (⟨"Buddyfield$Content", "countExtents", "()I"⟩, 11), (⟨"Buddyfield$Content", "beginsExtent", "(I)Z"⟩, 11), (⟨"Buddyfield$Content", "beginOfExtent", "(I)I"⟩, 11), (⟨"Buddyfield$Content", "lengthOfExtent", "(I)I"⟩, 11), (⟨"Buddyfield$Directory", "countLooks", "(I)I"⟩, 2), (⟨"BuddyfieldModel", "asked", "(ZZ)Z"⟩, 18), (⟨"BuddyfieldModel", "addsName", "(I)V"⟩, 18), (⟨"BuddyfieldModel", "lastLeaf", "(I)I"⟩, 18), (⟨"BuddyfieldModel", "splits", "(I)V"⟩, 18), (⟨"BuddyfieldModel", "isThere", "(I)Z"⟩, 18), (⟨"BuddyfieldModel", "ends", "(I)Z"⟩, 18)]
theorem lw_r4 : ∀ q ∈ lw_privs_4, lw_okq q := List.forall_mem_cons.mpr ⟨lw_p48, List.forall_mem_cons.mpr ⟨lw_p49, List.forall_mem_cons.mpr ⟨lw_p50, List.forall_mem_cons.mpr ⟨lw_p51, List.forall_mem_cons.mpr ⟨lw_p52, List.forall_mem_cons.mpr ⟨lw_p53, List.forall_mem_cons.mpr ⟨lw_p54, List.forall_mem_cons.mpr ⟨lw_p55, List.forall_mem_cons.mpr ⟨lw_p56, List.forall_mem_cons.mpr ⟨lw_p57, List.forall_mem_cons.mpr ⟨lw_p58, List.forall_mem_cons.mpr ⟨lw_p59, List.forall_mem_cons.mpr ⟨lw_p60, List.forall_mem_cons.mpr ⟨lw_p61, List.forall_mem_cons.mpr ⟨lw_p62, List.forall_mem_cons.mpr ⟨lw_p63, fun _ h => absurd h List.not_mem_nil⟩⟩⟩⟩⟩⟩⟩⟩⟩⟩⟩⟩⟩⟩⟩⟩
theorem lw_p64 : lw_okq (⟨"BuddyfieldModel", "cuts", "(II)I"⟩, 18) := ⟨⟨by decide +kernel, by decide +kernel⟩, List.mem_of_getElem? (i := 690) (by decide +kernel), List.mem_of_getElem? (i := 803) (by decide +kernel), List.mem_of_getElem? (i := 804) (by decide +kernel)⟩
theorem lw_p65 : lw_okq (⟨"BuddyfieldModel", "freesKept", "(I)V"⟩, 18) := ⟨⟨by decide +kernel, by decide +kernel⟩, List.mem_of_getElem? (i := 690) (by decide +kernel), List.mem_of_getElem? (i := 807) (by decide +kernel), List.mem_of_getElem? (i := 808) (by decide +kernel)⟩
theorem lw_p66 : lw_okq (⟨"BuddyfieldModel", "steps", "(II)Z"⟩, 18) := ⟨⟨by decide +kernel, by decide +kernel⟩, List.mem_of_getElem? (i := 690) (by decide +kernel), List.mem_of_getElem? (i := 811) (by decide +kernel), List.mem_of_getElem? (i := 812) (by decide +kernel)⟩
theorem lw_p67 : lw_okq (⟨"BuddyfieldModel", "crashes", "()V"⟩, 18) := ⟨⟨by decide +kernel, by decide +kernel⟩, List.mem_of_getElem? (i := 690) (by decide +kernel), List.mem_of_getElem? (i := 815) (by decide +kernel), List.mem_of_getElem? (i := 816) (by decide +kernel)⟩
theorem lw_p68 : lw_okq (⟨"BuddyfieldModel", "takesOut", "(I)V"⟩, 18) := ⟨⟨by decide +kernel, by decide +kernel⟩, List.mem_of_getElem? (i := 690) (by decide +kernel), List.mem_of_getElem? (i := 823) (by decide +kernel), List.mem_of_getElem? (i := 824) (by decide +kernel)⟩
theorem lw_p69 : lw_okq (⟨"BuddyfieldModel", "begins", "(I)I"⟩, 18) := ⟨⟨by decide +kernel, by decide +kernel⟩, List.mem_of_getElem? (i := 690) (by decide +kernel), List.mem_of_getElem? (i := 827) (by decide +kernel), List.mem_of_getElem? (i := 828) (by decide +kernel)⟩
theorem lw_p70 : lw_okq (⟨"BuddyfieldModel", "goesOn", "(II)Z"⟩, 18) := ⟨⟨by decide +kernel, by decide +kernel⟩, List.mem_of_getElem? (i := 690) (by decide +kernel), List.mem_of_getElem? (i := 831) (by decide +kernel), List.mem_of_getElem? (i := 832) (by decide +kernel)⟩
theorem lw_p71 : lw_okq (⟨"BuddyfieldModel", "isIn", "(II)Z"⟩, 18) := ⟨⟨by decide +kernel, by decide +kernel⟩, List.mem_of_getElem? (i := 690) (by decide +kernel), List.mem_of_getElem? (i := 835) (by decide +kernel), List.mem_of_getElem? (i := 836) (by decide +kernel)⟩
theorem lw_p72 : lw_okq (⟨"BuddyfieldModel", "left", "()I"⟩, 18) := ⟨⟨by decide +kernel, by decide +kernel⟩, List.mem_of_getElem? (i := 690) (by decide +kernel), List.mem_of_getElem? (i := 843) (by decide +kernel), List.mem_of_getElem? (i := 844) (by decide +kernel)⟩
theorem lw_p73 : lw_okq (⟨"BuddyfieldModel", "freeNow", "()I"⟩, 18) := ⟨⟨by decide +kernel, by decide +kernel⟩, List.mem_of_getElem? (i := 690) (by decide +kernel), List.mem_of_getElem? (i := 847) (by decide +kernel), List.mem_of_getElem? (i := 848) (by decide +kernel)⟩
theorem lw_p74 : lw_okq (⟨"BuddyfieldModel", "reservedNow", "()I"⟩, 18) := ⟨⟨by decide +kernel, by decide +kernel⟩, List.mem_of_getElem? (i := 690) (by decide +kernel), List.mem_of_getElem? (i := 851) (by decide +kernel), List.mem_of_getElem? (i := 852) (by decide +kernel)⟩
theorem lw_p75 : lw_okq (⟨"BuddyfieldModel", "keptNow", "()I"⟩, 18) := ⟨⟨by decide +kernel, by decide +kernel⟩, List.mem_of_getElem? (i := 690) (by decide +kernel), List.mem_of_getElem? (i := 855) (by decide +kernel), List.mem_of_getElem? (i := 856) (by decide +kernel)⟩
theorem lw_p76 : lw_okq (⟨"BuddyfieldModel", "asked", "(ZZZ)Z"⟩, 18) := ⟨⟨by decide +kernel, by decide +kernel⟩, List.mem_of_getElem? (i := 690) (by decide +kernel), List.mem_of_getElem? (i := 859) (by decide +kernel), List.mem_of_getElem? (i := 860) (by decide +kernel)⟩
theorem lw_p77 : lw_okq (⟨"BuddyfieldModel", "maps", "(III)I"⟩, 18) := ⟨⟨by decide +kernel, by decide +kernel⟩, List.mem_of_getElem? (i := 690) (by decide +kernel), List.mem_of_getElem? (i := 867) (by decide +kernel), List.mem_of_getElem? (i := 868) (by decide +kernel)⟩
theorem lw_p78 : lw_okq (⟨"BuddyfieldModel", "finds", "(II)I"⟩, 18) := ⟨⟨by decide +kernel, by decide +kernel⟩, List.mem_of_getElem? (i := 690) (by decide +kernel), List.mem_of_getElem? (i := 871) (by decide +kernel), List.mem_of_getElem? (i := 872) (by decide +kernel)⟩
theorem lw_p79 : lw_okq (⟨"BuddyfieldModel", "areFree", "(II)Z"⟩, 18) := ⟨⟨by decide +kernel, by decide +kernel⟩, List.mem_of_getElem? (i := 690) (by decide +kernel), List.mem_of_getElem? (i := 875) (by decide +kernel), List.mem_of_getElem? (i := 876) (by decide +kernel)⟩
def lw_privs_5 : List (MethodName × Nat) := [(⟨"BuddyfieldModel", "cuts", "(II)I"⟩, 18), (⟨"BuddyfieldModel", "freesKept", "(I)V"⟩, 18), (⟨"BuddyfieldModel", "steps", "(II)Z"⟩, 18), (⟨"BuddyfieldModel", "crashes", "()V"⟩, 18), (⟨"BuddyfieldModel", "takesOut", "(I)V"⟩, 18), (⟨"BuddyfieldModel", "begins", "(I)I"⟩, 18), (⟨"BuddyfieldModel", "goesOn", "(II)Z"⟩, 18), (⟨"BuddyfieldModel", "isIn", "(II)Z"⟩, 18), (⟨"BuddyfieldModel", "left", "()I"⟩, 18), (⟨"BuddyfieldModel", "freeNow", "()I"⟩, 18), (⟨"BuddyfieldModel", "reservedNow", "()I"⟩, 18), (⟨"BuddyfieldModel", "keptNow", "()I"⟩, 18), (⟨"BuddyfieldModel", "asked", "(ZZZ)Z"⟩, 18), (⟨"BuddyfieldModel", "maps", "(III)I"⟩, 18), (⟨"BuddyfieldModel", "finds", "(II)I"⟩, 18), (⟨"BuddyfieldModel", "areFree", "(II)Z"⟩, 18)]
theorem lw_r5 : ∀ q ∈ lw_privs_5, lw_okq q := List.forall_mem_cons.mpr ⟨lw_p64, List.forall_mem_cons.mpr ⟨lw_p65, List.forall_mem_cons.mpr ⟨lw_p66, List.forall_mem_cons.mpr ⟨lw_p67, List.forall_mem_cons.mpr ⟨lw_p68, List.forall_mem_cons.mpr ⟨lw_p69, List.forall_mem_cons.mpr ⟨lw_p70, List.forall_mem_cons.mpr ⟨lw_p71, List.forall_mem_cons.mpr ⟨lw_p72, List.forall_mem_cons.mpr ⟨lw_p73, List.forall_mem_cons.mpr ⟨lw_p74, List.forall_mem_cons.mpr ⟨lw_p75, List.forall_mem_cons.mpr ⟨lw_p76, List.forall_mem_cons.mpr ⟨lw_p77, List.forall_mem_cons.mpr ⟨lw_p78, List.forall_mem_cons.mpr ⟨lw_p79, fun _ h => absurd h List.not_mem_nil⟩⟩⟩⟩⟩⟩⟩⟩⟩⟩⟩⟩⟩⟩⟩⟩
theorem lw_p80 : lw_okq (⟨"BuddyfieldModel", "asked", "(Z)Z"⟩, 18) := ⟨⟨by decide +kernel, by decide +kernel⟩, List.mem_of_getElem? (i := 690) (by decide +kernel), List.mem_of_getElem? (i := 891) (by decide +kernel), List.mem_of_getElem? (i := 892) (by decide +kernel)⟩
theorem lw_p81 : lw_okq (⟨"BuddyfieldModel", "told", "(I)I"⟩, 18) := ⟨⟨by decide +kernel, by decide +kernel⟩, List.mem_of_getElem? (i := 690) (by decide +kernel), List.mem_of_getElem? (i := 907) (by decide +kernel), List.mem_of_getElem? (i := 908) (by decide +kernel)⟩
theorem lw_p82 : lw_okq (⟨"BuddyfieldModel", "extentsOf", "(I)I"⟩, 18) := ⟨⟨by decide +kernel, by decide +kernel⟩, List.mem_of_getElem? (i := 690) (by decide +kernel), List.mem_of_getElem? (i := 951) (by decide +kernel), List.mem_of_getElem? (i := 952) (by decide +kernel)⟩
theorem lw_p83 : lw_okq (⟨"BuddyfieldModel", "isBegin", "(II)Z"⟩, 18) := ⟨⟨by decide +kernel, by decide +kernel⟩, List.mem_of_getElem? (i := 690) (by decide +kernel), List.mem_of_getElem? (i := 955) (by decide +kernel), List.mem_of_getElem? (i := 956) (by decide +kernel)⟩
def lw_privs_6 : List (MethodName × Nat) := [(⟨"BuddyfieldModel", "asked", "(Z)Z"⟩, 18), (⟨"BuddyfieldModel", "told", "(I)I"⟩, 18), (⟨"BuddyfieldModel", "extentsOf", "(I)I"⟩, 18), (⟨"BuddyfieldModel", "isBegin", "(II)Z"⟩, 18)]
theorem lw_r6 : ∀ q ∈ lw_privs_6, lw_okq q := List.forall_mem_cons.mpr ⟨lw_p80, List.forall_mem_cons.mpr ⟨lw_p81, List.forall_mem_cons.mpr ⟨lw_p82, List.forall_mem_cons.mpr ⟨lw_p83, fun _ h => absurd h List.not_mem_nil⟩⟩⟩⟩
def lw_privs : List (MethodName × Nat) := lw_privs_1 ++ (lw_privs_2 ++ (lw_privs_3 ++ (lw_privs_4 ++ (lw_privs_5 ++ (lw_privs_6)))))
def lw_tbl : List Cond := k2_sels lw_privs ++ tables_1
theorem lw_privs_ok : ∀ q ∈ lw_privs, lw_okq q := by
  show ∀ q ∈ lw_privs_1 ++ (lw_privs_2 ++ (lw_privs_3 ++ (lw_privs_4 ++ (lw_privs_5 ++ (lw_privs_6))))), lw_okq q
  exact List.forall_mem_append.mpr ⟨lw_r1, List.forall_mem_append.mpr ⟨lw_r2, List.forall_mem_append.mpr ⟨lw_r3, List.forall_mem_append.mpr ⟨lw_r4, List.forall_mem_append.mpr ⟨lw_r5, lw_r6⟩⟩⟩⟩⟩
/-- the streams that the claim lets the run draw from -/
abbrev lw_cs : List Choice := [Jvm.Choice.named "NaN.bits"]
theorem lw_bits : nanBits ∈ lw_cs := by first | decide | exact List.mem_cons_self | simp [lw_cs, nanBits]
-- ===== end of PART A; then your names; then what follows =====
end
section
/-! ===== BEGIN words of one list among another's, by their places ===== -/
theorem goodIn_r {big : List Cond} (ws : List Cond) (ps : List Nat) (hp : ws = ps.filterMap (fun i => big[i]?)) (h : ws.all goodWord = true) : GoodIn big ws := by
  intro w hw
  have h1 := List.all_eq_true.mp h w hw
  rw [hp] at hw
  obtain ⟨i, -, hi⟩ := List.mem_filterMap.mp hw
  have hm : w ∈ big := by first | exact List.mem_of_getElem? hi | exact List.getElem?_mem hi
  exact ⟨hm, good_of_word h1⟩
theorem goodIn_app {big a b : List Cond} (ha : GoodIn big a) (hb : GoodIn big b) : GoodIn big (a ++ b) := fun w h => (List.mem_append.mp h).elim (ha w) (hb w)
theorem goodIn_ca {big a b : List Cond} {c : Cond} (ha : GoodIn big (c :: a)) (hb : GoodIn big b) : GoodIn big (c :: (a ++ b)) := fun w h => (List.mem_cons.mp h).elim (fun e => ha w (List.mem_cons.mpr (Or.inl e))) (fun h => (List.mem_append.mp h).elim (fun h => ha w (List.mem_cons.mpr (Or.inr h))) (hb w))
theorem goodIn_sub {big ws : List Cond} (hm : ∀ w ∈ ws, w ∈ big) (h : ws.all goodWord = true) : GoodIn big ws := fun w hw => ⟨hm w hw, good_of_word (List.all_eq_true.mp h w hw)⟩
/-! ===== END ===== -/

/-! ===== BEGIN exceptions that leave a method, and their catching by the caller (launches without stack traces) ===== -/
section VXA
/-! The laws vx_back, vx_callV, vx_callS, vx_callSW, vx_throw0, vx_throwS follow proofs of the library, with one case more: JvmDerived/Free/Laws.lean (Back.of_free), Shelf42/LK1.lean (callV, callS), Shelf/KitTraced.lean (throwNew0V, throwNewS). -/
/-- where a method has thrown q: the class by its name, the cell, what was written, the world -/
def vx_T (XC : String → State → State → Prop) (st : State) (q : Addr) (t : State) (mc ms : Nat) (free : Addr → Prop) : Prop :=
  ∃ (E : String) (ce : Cell) (L : List Loc), XC E st t ∧ t.heap[q]? = some ce ∧ ce.vm = .none ∧ st.vm.findClass E = some ce.cls ∧ st.WarmedH t.vm ∧ st.sameButNew ({ t with vm := st.vm } : State) L mc ms ∧ ∀ z ∈ L, free z.base
def vx_Q (Qc : Array Value → State → Outcome → State → Prop) (XC : String → State → State → Prop) (mc ms : Nat) (free : Addr → Prop) : Array Value → State → Outcome → State → Prop := fun a st o t =>
  (Qc a st o t ∧ ∃ L, FrameEnd st o t L mc ms ∧ ∀ q ∈ L, free q.base) ∨ ∃ q, o = .threw q ∧ vx_T XC st q t mc ms free
/-- a callee that returns or throws -/
def vx_Met (l : Launch) (y : MethodName) (ws : List Cond) (rm : Room) (Pc : Array Value → State → Prop) (Qc : Array Value → State → Outcome → State → Prop) (XC : String → State → State → Prop) (mc ms : Nat) (free : Addr → Prop) : Prop :=
  MetFree l y (headSpec ws rm) Pc (fun _ _ _ _ _ => True) (vx_Q Qc XC mc ms free)
def vx_Post (XC : String → State → State → Prop) (mc ms : Nat) (free : Addr → Prop) : Pt → Array Value → Addr → Pt → Prop := fun A a q B =>
  ∃ (g : JFrame) (mk : MethodId) (t : State) (L : List Loc) (E : String) (ce : Cell), B.U.heap = t.heap ∧ B.U.vm = t.vm ∧ XC E (A.U.calling g mk a) t ∧ t.heap[q]? = some ce ∧ ce.vm = .none ∧ A.U.vm.findClass E = some ce.cls ∧ B.locs = A.locs ++ L ∧ (∀ z ∈ L, free z.base) ∧ B.cells = A.cells + mc ∧ B.slots = A.slots + ms
def vx_Back (l : Launch) (R : Room) (p : Program) (e : Env) (below : List Frame) (s : State) (sargs : Array Value) (y : MethodName) (len W9 : Nat)
    (Pre : Pt → Array Value → Prop) (Post : Pt → Array Value → Option Value → Pt → Prop) (PostX : Pt → Array Value → Addr → Pt → Prop) : Prop :=
  ∀ (m : MethodId) (meth : Method) (c : Code) (A : Pt) (g : JFrame) (ig : Instr) (mk : MethodId) (a : Array Value),
    Stand p l e R s m sargs below meth c A.U A.locs A.cells A.slots → g.method = m → g.locals.size = c.maxLocals → decode c.code g.pc = .ok (ig, len) →
    2 * g.monitorRoom + (g.stack.map fun v => v.category).sum ≤ W9 → A.U.methodNamed? y = some mk → Pre A a →
    (∃ (v : Option Value) (B : Pt), Stand p l e R s m sargs below meth c B.U B.locs B.cells B.slots ∧ Post A a v B ∧
      Steps p.tables e below (doInvoke e (A.U.setTop g) [] mk a).1 (B.U.setTop { g with pc := g.pc + len, stack := v.toList ++ g.stack })) ∨
    (∃ (q : Addr) (B : Pt), Stand p l e R s m sargs below meth c B.U B.locs B.cells B.slots ∧ PostX A a q B ∧
      Steps p.tables e below (doInvoke e (A.U.setTop g) [] mk a).1 ((B.U.setTop g).pushFrame (.throwing q)))
section Payer
variable {l : Launch} {R : Room} {p : Program} {e : Env} {below : List Frame} {s : State} {sargs : Array Value} {y : MethodName} {len W9 : Nat}
theorem vx_back {ws : List Cond} {rm : Room} {Pc : Array Value → State → Prop} {Qc : Array Value → State → Outcome → State → Prop} {XC : String → State → State → Prop} {mc ms : Nat} {free : Addr → Prop} {bytes : ByteArray} {maxL : Nat} {ret : Option FieldType}
    (hM : vx_Met l y ws rm Pc Qc XC mc ms free) (hblind : FrameBlind Pc) (hrc : rm.cells = mc) (hrs : rm.slots = ms)
    (hframes : rm.frames + 1 ≤ R.frames) (hlocals : W9 + (maxL + 11) + rm.locals ≤ R.locals)
    (hws : ∀ w ∈ ws, ∀ a' U, s.WarmedH U.vm → w.before a' U = true) (hcode : Cond.code y bytes maxL ret ∈ ws) (hinit : ∀ a' U, s.WarmedH U.vm → (Cond.initialized y.cls).before a' U = true) :
    vx_Back l R p e below s sargs y len W9 (PreOf R mc ms Pc) (PostOf Qc mc ms free) (vx_Post XC mc ms free) := by
  intro m meth c A g ig mk a X hg hsize hdg hW hn hp
  have h1 : (headSpec ws rm).pre.before a A.U = true := atoms_intro fun w hw => hws w hw _ _ X.warmed
  have h2 : (Cond.code y bytes maxL ret).before a A.U = true := hws _ hcode _ _ X.warmed
  have h3 : (Cond.initialized y.cls).before a A.U = true := hinit _ _ X.warmed
  have h4 : A.cells + (headSpec ws rm).room.cells ≤ R.cells := by rw [show (headSpec ws rm).room.cells = mc from hrc]; exact hp.1
  have h5 : A.slots + (headSpec ws rm).room.slots ≤ R.slots := by rw [show (headSpec ws rm).room.slots = ms from hrs]; exact hp.2.1
  have hPc : Pc a (A.U.calling g mk a) := hblind _ _ _ _ hp.2.2
  obtain ⟨U, Ls, c0, s0⟩ := A
  dsimp only [Pt.U, Pt.locs, Pt.cells, Pt.slots] at h1 h2 h3 h4 h5 X hn hPc ⊢
  obtain ⟨methY, cY, hmY, hcY, -, hlY, -, -, -, -⟩ := Cond.code_spec hn h2
  obtain ⟨kY, hkY, -⟩ := className_of_methodNamed hn
  have hinitY : kY.init = .initialized := Cond.initialized_spec (findClass_of_methodNamed hn) hkY h3
  have h : At U g.method c below := by rw [hg]; exact X.here
  have hlocals9 : W9 + (maxL + 11) + (headSpec ws rm).room.locals ≤ R.locals := hlocals
  have happ : (headSpec ws rm).appliesLoose y e.platform (U.calling g mk a) = true :=
    Spec.appliesLoose_calling (g := g) h hdg hn hkY hinitY
      (X.room_calling (g := g) (R' := (headSpec ws rm).room) hsize hmY hcY hframes (by rw [hlY]; omega) h4 h5) h1
  obtain ⟨mid, hmid⟩ := h.above
  have hfr : (U.setTop g).frames = (.java g :: mid) ++ below := by rw [State.frames_setTop' g h.top, hmid]; rfl
  obtain ⟨o, s₂, hsteps, -, hend, hq⟩ := Steps.callFree hM p X.admits X.cas X.clock (acts := []) hfr happ hPc trivial
  have hq' : vx_Q Qc XC mc ms free a (U.calling g mk a) o s₂ := hq
  rw [State.frames_setTop' g h.top] at hend
  obtain ⟨g₀, hg0⟩ := Option.isSome_iff_exists.mp h.top
  obtain ⟨r, hr⟩ := State.topJava?_eq_some.mp hg0
  have hr' : (({ U with heap := s₂.heap, slotsUsed := s₂.slotsUsed } : State).setVm s₂.vm).frames = .java g₀ :: r := hr
  rcases hq' with ⟨hqc, L, hfe, hL⟩ | ⟨q, rfl, E, ce, L, hx, hce, hcv, hcl, hW₂, hsm, hL⟩
  · obtain ⟨⟨v, rfl⟩, hW₂, e2, q2, q3, q4, q5, q6⟩ := id hfe
    have e3 : s₂ = ({ (U.calling g mk a).setFrames s₂.frames with heap := s₂.heap, slotsUsed := s₂.slotsUsed } : State).setVm s₂.vm := by
      have : s₂ = ({ s₂ with vm := (U.calling g mk a).vm } : State).setVm s₂.vm := rfl
      rw [e2] at this
      exact this
    obtain ⟨c₂, i₂, len₂, hc₂, hd₂, hf₂⟩ := hend
    have hW' : U.WarmedH s₂.vm := hW₂
    have hcc : c₂ = c := by
      have h1 : s₂.code? g.method = U.code? g.method := by
        rw [State.code?_eq, State.code?_eq, hW'.alike.method?]
      exact Option.some.inj (hc₂.symm.trans (h1.trans h.code))
    subst hcc
    have hlen : len₂ = len := by rw [hdg] at hd₂; cases hd₂; rfl
    subst hlen
    have hs₂ : s₂ = (({ U with heap := s₂.heap, slotsUsed := s₂.slotsUsed } : State).setVm s₂.vm).setTop { g with pc := g.pc + len₂, stack := v.toList ++ g.stack } := by
      refine e3.trans ?_
      rw [hf₂, State.calling_eq h.top, State.setFrames_setFrames, State.setTop_of_frames _ hr', hr]
      rfl
    have hsame : U.sameButNew ({ U with heap := s₂.heap, slotsUsed := s₂.slotsUsed } : State) L mc ms := by
      refine ⟨?_, q2, q3, q4, q5, q6⟩
      obtain ⟨t, ht, -⟩ := State.frames_cons hr
      show ({ U with heap := s₂.heap, slotsUsed := s₂.slotsUsed } : State) = { U.setFrames U.frames with heap := s₂.heap, slotsUsed := s₂.slotsUsed }
      rw [State.setFrames_self ht]
    subst hg
    refine Or.inl ⟨v, ⟨(({ U with heap := s₂.heap, slotsUsed := s₂.slotsUsed } : State).setVm s₂.vm), Ls ++ L, c0 + mc, s0 + ms⟩,
      ⟨X.admits, X.cas, X.clock, X.frames, X.room, X.hears, X.method, X.code, (X.here.setHeapUsed s₂.heap s₂.slotsUsed).setVm hW'.alike, X.tail, State.WarmedH.trans X.warmed hW', X.limits, X.bytes, X.same.trans (hsame.setVm s.vm)⟩,
      ⟨g, mk, s₂, L, rfl, rfl, hqc, rfl, hL, rfl, rfl⟩, ?_⟩
    show Steps p.tables e below _ ((({ U with heap := s₂.heap, slotsUsed := s₂.slotsUsed } : State).setVm s₂.vm).setTop { g with pc := g.pc + len₂, stack := v.toList ++ g.stack })
    rw [← hs₂]
    exact hsteps
  · obtain ⟨e2, q2, q3, q4, q5, q6⟩ := id hsm
    have e3 : s₂ = ({ (U.calling g mk a).setFrames s₂.frames with heap := s₂.heap, slotsUsed := s₂.slotsUsed } : State).setVm s₂.vm := by
      have : s₂ = ({ s₂ with vm := (U.calling g mk a).vm } : State).setVm s₂.vm := rfl
      rw [e2] at this
      exact this
    have hf₂ : s₂.frames = .throwing q :: .java g :: U.frames.tail := hend
    have hW' : U.WarmedH s₂.vm := hW₂
    have hs₂ : s₂ = ((({ U with heap := s₂.heap, slotsUsed := s₂.slotsUsed } : State).setVm s₂.vm).setTop g).pushFrame (.throwing q) := by
      refine e3.trans ?_
      rw [hf₂, State.calling_eq h.top, State.setFrames_setFrames, State.pushFrame, State.frames_setTop _ hr', State.setTop_of_frames _ hr', State.setFrames_setFrames, hr]
      rfl
    have hsame : U.sameButNew ({ U with heap := s₂.heap, slotsUsed := s₂.slotsUsed } : State) L mc ms := by
      refine ⟨?_, q2, q3, q4, q5, q6⟩
      obtain ⟨t, ht, -⟩ := State.frames_cons hr
      show ({ U with heap := s₂.heap, slotsUsed := s₂.slotsUsed } : State) = { U.setFrames U.frames with heap := s₂.heap, slotsUsed := s₂.slotsUsed }
      rw [State.setFrames_self ht]
    subst hg
    refine Or.inr ⟨q, ⟨(({ U with heap := s₂.heap, slotsUsed := s₂.slotsUsed } : State).setVm s₂.vm), Ls ++ L, c0 + mc, s0 + ms⟩,
      ⟨X.admits, X.cas, X.clock, X.frames, X.room, X.hears, X.method, X.code, (X.here.setHeapUsed s₂.heap s₂.slotsUsed).setVm hW'.alike, X.tail, State.WarmedH.trans X.warmed hW', X.limits, X.bytes, X.same.trans (hsame.setVm s.vm)⟩,
      ⟨g, mk, s₂, L, E, ce, rfl, rfl, hx, hce, hcv, hcl, rfl, hL, rfl, rfl⟩, ?_⟩
    show Steps p.tables e below _ (((({ U with heap := s₂.heap, slotsUsed := s₂.slotsUsed } : State).setVm s₂.vm).setTop g).pushFrame (.throwing q))
    rw [← hs₂]
    exact hsteps
end Payer
section Calls
variable {p : Program} {l : Launch} {e : Env} {R : Room} {s : State} {m : MethodId} {args : Array Value} {below : List Frame} {meth : Method} {c : Code} {T : State} {locs : List Loc} {cells slots : Nat}
theorem vx_callV (X : Stand p l e R s m args below meth c T locs cells slots) (hexec : p.tables.exec = Jvm.exec) {own C : String} {index : Nat} {y : MethodName} {bytes : ByteArray} {maxL : Nat} {ret : Option FieldType}
    (hown : s.vm.findClass own = some m.cls) (hlink : (Cond.methodLink own index y).before args s = true) (hinst : (Cond.instanceMethod y).before args s = true) (hsel : (Cond.selects C y y).before args s = true)
    (hcode : (Cond.code y bytes maxL ret).before args s = true) (hy : y.cls ≠ "java/lang/invoke/MethodHandle" ∧ y.cls ≠ "java/lang/invoke/VarHandle")
    {W9 : Nat} {Pre : Pt → Array Value → Prop} {Post : Pt → Array Value → Option Value → Pt → Prop} {PostX : Pt → Array Value → Addr → Pt → Prop} (hK : vx_Back l R p e below s args y 3 W9 Pre Post PostX)
    {b : Addr} {cellB : Cell} (hcell : T.heap[b]? = some cellB) (hobj : cellB.vm.isStatics = false) (hcls : s.vm.findClass C = some cellB.cls)
    {g : JFrame} (hg : g.method = m) (hsize : g.locals.size = c.maxLocals) {argsL rest : List Value} (hlen : ∀ sig, parseMethodDescriptor y.desc = some sig → argsL.length = sig.parameters.length)
    (hstack : g.stack = argsL.reverse ++ .ref b :: rest) (hW : 2 * g.monitorRoom + (rest.map fun v => v.category).sum ≤ W9) (hdg : decode c.code g.pc = .ok (.invokevirtual index, 3))
    (hpre : ∀ vm₁, s.WarmedH vm₁ → Pre ⟨T.setVm vm₁, locs, cells, slots⟩ (Value.ref b :: argsL).toArray) :
    (∃ (v : Option Value) (vm₁ : Vm) (B : Pt), s.WarmedH vm₁ ∧ Stand p l e R s m args below meth c B.U B.locs B.cells B.slots ∧ Post ⟨T.setVm vm₁, locs, cells, slots⟩ (Value.ref b :: argsL).toArray v B ∧
      ∀ target, Steps p.tables e below (B.U.setTop { g with pc := g.pc + 3, stack := v.toList ++ rest }) target → Steps p.tables e below (T.setTop g) target) ∨
    (∃ (q : Addr) (vm₁ : Vm) (B : Pt), s.WarmedH vm₁ ∧ Stand p l e R s m args below meth c B.U B.locs B.cells B.slots ∧ PostX ⟨T.setVm vm₁, locs, cells, slots⟩ (Value.ref b :: argsL).toArray q B ∧
      Steps p.tables e below (T.setTop g) ((B.U.setTop { g with stack := rest }).pushFrame (.throwing q))) := by
  obtain ⟨mk, methM, hnamed, hmethM, hstM, habM⟩ := Cond.instanceMethod_spec hinst
  obtain ⟨methM', cM, hmethM', -, -, -, -, -, -, hsigM⟩ := Cond.code_spec hnamed hcode
  cases hmethM.symm.trans hmethM'
  obtain ⟨c2, r2, m2, q1, q2, q3, q4, kP, hkP, hkPi⟩ := Cond.selects_spec hsel
  cases hcls.symm.trans q1
  cases (State.methodFound?_of_named hnamed hy).symm.trans q2
  cases hnamed.symm.trans q3
  have hselP : selectMethod e.platform s.vm cellB.cls mk = .method mk := by rw [Launch.admits_selectMethod X.admits]; exact q4
  obtain ⟨vm₁, X₁, hstep₁⟩ := X.invokevirtual hexec hown hlink hnamed hmethM hstM hkP hkPi hy (a := b) (cell := cellB) hcell
    (fun z h => by rw [h] at hobj; cases hobj) hselP hmethM habM hkP hkPi (g := g) hg (argsL := argsL) (rest := rest) (hlen _ hsigM) hstack hdg
  rcases hK m meth c ⟨T.setVm vm₁, locs, cells, slots⟩ { g with stack := rest } (.invokevirtual index) mk (Value.ref b :: argsL).toArray X₁ hg hsize hdg hW (X₁.named hnamed) (hpre vm₁ X₁.warmed) with ⟨v, B, X', hpost, hsteps⟩ | ⟨q, B, X', hpost, hsteps⟩
  · exact Or.inl ⟨v, vm₁, B, X₁.warmed, X', hpost, fun target h => hstep₁ _ fun acts => by rw [doInvoke_state]; exact hsteps.trans h⟩
  · exact Or.inr ⟨q, vm₁, B, X₁.warmed, X', hpost, hstep₁ _ fun acts => by rw [doInvoke_state]; exact hsteps⟩
theorem vx_callS (X : Stand p l e R s m args below meth c T locs cells slots) (hexec : p.tables.exec = Jvm.exec) {own : String} {index : Nat} {y : MethodName} {bytes : ByteArray} {maxL : Nat} {ret : Option FieldType}
    (hown : s.vm.findClass own = some m.cls) (hlink : (Cond.methodLink own index y).before args s = true) (hstat : (Cond.static y).before args s = true) (hinit : (Cond.initialized y.cls).before args s = true)
    (hcode : (Cond.code y bytes maxL ret).before args s = true) (hy : y.cls ≠ "java/lang/invoke/MethodHandle" ∧ y.cls ≠ "java/lang/invoke/VarHandle")
    {W9 : Nat} {Pre : Pt → Array Value → Prop} {Post : Pt → Array Value → Option Value → Pt → Prop} {PostX : Pt → Array Value → Addr → Pt → Prop} (hK : vx_Back l R p e below s args y 3 W9 Pre Post PostX)
    {g : JFrame} (hg : g.method = m) (hsize : g.locals.size = c.maxLocals) {argsL rest : List Value} (hlen : ∀ sig, parseMethodDescriptor y.desc = some sig → argsL.length = sig.parameters.length)
    (hstack : g.stack = argsL.reverse ++ rest) (hW : 2 * g.monitorRoom + (rest.map fun v => v.category).sum ≤ W9) (hdg : decode c.code g.pc = .ok (.invokestatic index, 3))
    (hpre : ∀ vm₁, s.WarmedH vm₁ → Pre ⟨T.setVm vm₁, locs, cells, slots⟩ argsL.toArray) :
    (∃ (v : Option Value) (vm₁ : Vm) (B : Pt), s.WarmedH vm₁ ∧ Stand p l e R s m args below meth c B.U B.locs B.cells B.slots ∧ Post ⟨T.setVm vm₁, locs, cells, slots⟩ argsL.toArray v B ∧
      ∀ target, Steps p.tables e below (B.U.setTop { g with pc := g.pc + 3, stack := v.toList ++ rest }) target → Steps p.tables e below (T.setTop g) target) ∨
    (∃ (q : Addr) (vm₁ : Vm) (B : Pt), s.WarmedH vm₁ ∧ Stand p l e R s m args below meth c B.U B.locs B.cells B.slots ∧ PostX ⟨T.setVm vm₁, locs, cells, slots⟩ argsL.toArray q B ∧
      Steps p.tables e below (T.setTop g) ((B.U.setTop { g with stack := rest }).pushFrame (.throwing q))) := by
  obtain ⟨mk, hnamed⟩ := Cond.code_named hcode
  obtain ⟨methM, cM, hmethM, -, -, -, -, -, -, hsigM⟩ := Cond.code_spec hnamed hcode
  have hstatic : methM.isStatic = true := Cond.static_spec hnamed hmethM hstat
  obtain ⟨kP, hkP, -⟩ := className_of_methodNamed hnamed
  have hinitP : kP.init = .initialized := Cond.initialized_spec (findClass_of_methodNamed hnamed) hkP hinit
  obtain ⟨vm₁, X₁, hstep₁⟩ := X.invokestatic hexec hown hlink hnamed hmethM hstatic hkP hinitP hy (g := g) hg (argsL := argsL) (rest := rest) (hlen _ hsigM) hstack hdg
  rcases hK m meth c ⟨T.setVm vm₁, locs, cells, slots⟩ { g with stack := rest } (.invokestatic index) mk argsL.toArray X₁ hg hsize hdg hW (X₁.named hnamed) (hpre vm₁ X₁.warmed) with ⟨v, B, X', hpost, hsteps⟩ | ⟨q, B, X', hpost, hsteps⟩
  · exact Or.inl ⟨v, vm₁, B, X₁.warmed, X', hpost, fun target h => hstep₁ _ fun acts => by rw [doInvoke_state]; exact hsteps.trans h⟩
  · exact Or.inr ⟨q, vm₁, B, X₁.warmed, X', hpost, hstep₁ _ fun acts => by rw [doInvoke_state]; exact hsteps⟩
end Calls
theorem vx_cls {s : State} {T : State} {vm₁ : Vm} {E : String} {k : ClassId} (hW : s.WarmedH vm₁) (h : (T.setVm vm₁).vm.findClass E = some k) : s.vm.findClass E = some k := by
  have h1 : vm₁.findClass E = some k := h
  rw [hW.alike.findClass] at h1
  exact h1
/-- the method's frame g, with q thrown over it -/
def vx_W (p : Program) (l : Launch) (e : Env) (R : Room) (s : State) (m : MethodId) (args : Array Value) (below : List Frame) (meth : Method) (c : Code) (H : Heap) (locs : List Loc) (cells slots : Nat) (Q : State → Prop) (g : JFrame) (q : Addr) : Prop :=
  ∀ T : State, T.heap = H → Stand p l e R s m args below meth c T locs cells slots → ∃ t, Steps p.tables e below ((T.setTop g).pushFrame (.throwing q)) t ∧ Q t
def vx_Run (p : Program) (l : Launch) (e : Env) (R : Room) (s : State) (m : MethodId) (args : Array Value) (below : List Frame) (meth : Method) (c : Code) (H : Heap) (locs : List Loc) (cells slots mc ms : Nat) (g : JFrame) (rest : List Value) (Qa : State → Outcome → State → Prop) (XC : String → State → State → Prop) (free : Addr → Prop) : Prop :=
  ∀ T : State, T.heap = H → Stand p l e R s m args below meth c T locs cells slots →
    (∃ (v : Option Value) (st₀ t T' : State) (L : List Loc), st₀.heap = H ∧ Stand p l e R s m args below meth c T' (locs ++ L) (cells + mc) (slots + ms) ∧ (∀ q ∈ L, free q.base) ∧ T'.heap = t.heap ∧ T'.vm = t.vm ∧ Qa st₀ (.returned v) t ∧
      Goes p e below T g T' { g with pc := g.pc + 3, stack := v.toList ++ rest }) ∨
    (∃ (q : Addr) (st₀ t T' : State) (L : List Loc) (E : String) (ce : Cell), st₀.heap = H ∧ Stand p l e R s m args below meth c T' (locs ++ L) (cells + mc) (slots + ms) ∧ (∀ z ∈ L, free z.base) ∧ T'.heap = t.heap ∧ T'.vm = t.vm ∧ XC E st₀ t ∧ t.heap[q]? = some ce ∧ ce.vm = .none ∧ s.vm.findClass E = some ce.cls ∧
      Steps p.tables e below (T.setTop g) ((T'.setTop { g with stack := rest }).pushFrame (.throwing q)))
def vx_X {S : Type} (px : S → Prop) (B : String → S → State → Prop) (A : Nat → Prop) : String → State → State → Prop := fun E st t => ∃ u : S, px u ∧ B E u t ∧ va_F A st t
section Runs
variable {p : Program} {l : Launch} {e : Env} {R : Room} {s : State} {m : MethodId} {args : Array Value} {below : List Frame} {meth : Method} {c : Code} {H : Heap} {locs : List Loc} {cells slots : Nat}
variable {y : MethodName} {bytes cc : ByteArray} {maxL nL mc ms n index : Nat} {ret : Option FieldType} {ws : List Cond} {rm : Room} {Pc : Array Value → State → Prop} {Qc : Array Value → State → Outcome → State → Prop} {XC : String → State → State → Prop} {free : Addr → Prop} {Ts : List Cond} {own C : String} {b : Addr} {As rest : List Value} {g : JFrame}
theorem vx_callBack (cb : CallB R s args own index y bytes maxL ret ws rm mc ms n) (hM : vx_Met l y ws rm Pc Qc XC mc ms free) (hbl : FrameBlind Pc) : vx_Back l R p e below s args y 3 8 (PreOf R mc ms Pc) (PostOf Qc mc ms free) (vx_Post XC mc ms free) := by
  obtain ⟨hrc, hrs, hfr, hlo, hws, hcw, -, hini, -⟩ := cb
  exact vx_back (bytes := bytes) (maxL := maxL) (ret := ret) hM hbl hrc hrs hfr hlo hws hcw (fun a' U hW => word_at hW (Or.inl (by first | rfl | simp [Cond.onTables, Cond.keeps, Cond.steady])) hini)
theorem vx_runV (S : CallFix p m c cc nL s args Ts own) (hM : vx_Met l y ws rm Pc Qc XC mc ms free) (cw : CallW R s args own C index y bytes maxL ret ws rm mc ms n) (hp : PreV s H C b Pc As)
    (hg : g.method = m) (hn : As.length = n) (hsize : g.locals.size = nL) (hstack : g.stack = As.reverse ++ .ref b :: rest) (hW : 2 * g.monitorRoom + (rest.map fun v => v.category).sum ≤ 8) (hdg : decode cc g.pc = .ok (.invokevirtual index, 3)) (hf : cells + mc ≤ R.cells ∧ slots + ms ≤ R.slots) :
    vx_Run p l e R s m args below meth c H locs cells slots mc ms g rest (Qc (Value.ref b :: As).toArray) XC free := by
  have hK : vx_Back l R p e below s args y 3 8 (PreOf R mc ms Pc) (PostOf Qc mc ms free) (vx_Post XC mc ms free) := vx_callBack cw.1 hM hp.1
  obtain ⟨⟨-, -, -, -, -, -, hcode, -, hy, hlen, hl⟩, hin, hse⟩ := cw
  obtain ⟨hx, hb, hml, ho, -⟩ := S
  obtain ⟨-, ⟨cellB, hcB, hoB, hclB⟩, hPc⟩ := hp
  intro T hT X
  rcases vx_callV X hx (C := C) (bytes := bytes) (maxL := maxL) (ret := ret) ho hl hin hse hcode hy hK (by rw [hT]; exact hcB) hoB hclB hg (hsize.trans hml.symm) (argsL := As) (rest := rest) (fun sig h => hn.trans (hlen sig h)) hstack hW (by rw [hb]; exact hdg)
    (fun vm₁ hW₁ => ⟨hf.1, hf.2, hPc (T.setVm vm₁) hT hW₁⟩) with ⟨v, vm₁, ⟨U', l2, c2, s2⟩, hW₁, X', ⟨g', mk, t, L, e1, e2, hq, h1, hL, h2, h3⟩, st⟩ | ⟨q, vm₁, ⟨U', l2, c2, s2⟩, hW₁, X', ⟨g', mk, t, L, E, ce, e1, e2, hq, hce, hcv, hcl, h1, hL, h2, h3⟩, st⟩
  · dsimp only [Pt.U, Pt.locs, Pt.cells, Pt.slots] at X' e1 e2 h1 h2 h3 st
    subst h1; subst h2; subst h3
    exact Or.inl ⟨v, (T.setVm vm₁).calling g' mk (Value.ref b :: As).toArray, t, U', L, hT, X', hL, e1, e2, hq, st⟩
  · dsimp only [Pt.U, Pt.locs, Pt.cells, Pt.slots] at X' e1 e2 h1 h2 h3 st hcl
    subst h1; subst h2; subst h3
    exact Or.inr ⟨q, (T.setVm vm₁).calling g' mk (Value.ref b :: As).toArray, t, U', L, E, ce, hT, X', hL, e1, e2, hq, hce, hcv, vx_cls hW₁ hcl, st⟩
theorem vx_runS (S : CallFix p m c cc nL s args Ts own) (hM : vx_Met l y ws rm Pc Qc XC mc ms free) (cw : CallB R s args own index y bytes maxL ret ws rm mc ms n ∧ (Cond.static y).before args s = true) (hp : PreS s H Pc As)
    (hg : g.method = m) (hn : As.length = n) (hsize : g.locals.size = nL) (hstack : g.stack = As.reverse ++ rest) (hW : 2 * g.monitorRoom + (rest.map fun v => v.category).sum ≤ 8) (hdg : decode cc g.pc = .ok (.invokestatic index, 3)) (hf : cells + mc ≤ R.cells ∧ slots + ms ≤ R.slots) :
    vx_Run p l e R s m args below meth c H locs cells slots mc ms g rest (Qc As.toArray) XC free := by
  have hK : vx_Back l R p e below s args y 3 8 (PreOf R mc ms Pc) (PostOf Qc mc ms free) (vx_Post XC mc ms free) := vx_callBack cw.1 hM hp.1
  obtain ⟨⟨-, -, -, -, -, -, hcode, hini, hy, hlen, hl⟩, hstt⟩ := cw
  obtain ⟨hx, hb, hml, ho, -⟩ := S
  intro T hT X
  rcases vx_callS X hx (bytes := bytes) (maxL := maxL) (ret := ret) ho hl hstt hini hcode hy hK hg (hsize.trans hml.symm) (argsL := As) (rest := rest) (fun sig h => hn.trans (hlen sig h)) hstack hW (by rw [hb]; exact hdg)
    (fun vm₁ hW₁ => ⟨hf.1, hf.2, hp.2 (T.setVm vm₁) hT hW₁⟩) with ⟨v, vm₁, ⟨U', l2, c2, s2⟩, hW₁, X', ⟨g', mk, t, L, e1, e2, hq, h1, hL, h2, h3⟩, st⟩ | ⟨q, vm₁, ⟨U', l2, c2, s2⟩, hW₁, X', ⟨g', mk, t, L, E, ce, e1, e2, hq, hce, hcv, hcl, h1, hL, h2, h3⟩, st⟩
  · dsimp only [Pt.U, Pt.locs, Pt.cells, Pt.slots] at X' e1 e2 h1 h2 h3 st
    subst h1; subst h2; subst h3
    exact Or.inl ⟨v, (T.setVm vm₁).calling g' mk As.toArray, t, U', L, hT, X', hL, e1, e2, hq, st⟩
  · dsimp only [Pt.U, Pt.locs, Pt.cells, Pt.slots] at X' e1 e2 h1 h2 h3 st hcl
    subst h1; subst h2; subst h3
    exact Or.inr ⟨q, (T.setVm vm₁).calling g' mk As.toArray, t, U', L, E, ce, hT, X', hL, e1, e2, hq, hce, hcv, vx_cls hW₁ hcl, st⟩
end Runs
section Rows
variable {p : Program} {l : Launch} {e : Env} {R : Room} {s : State} {m : MethodId} {args : Array Value} {below : List Frame} {meth : Method} {c : Code} {H : Heap} {locs : List Loc} {cells slots : Nat} {Q : State → Prop}
variable {mc ms : Nat} {free : Addr → Prop} {A0 A1 : Nat → Prop} {H0 : Heap} {a : Array Value} {pc : Nat} {ls : Array Slot} {st0 rest : List Value}
theorem vx_keep {st₀ t T' : State} {L : List Loc} (h0 : st₀.heap = H) (e1 : T'.heap = t.heap) (hS : va_S A0 H0 H locs) (hA : ∀ q, q < H.size → A1 q → A0 q) (hf : ∀ q, free q → A0 q) (hL : ∀ q ∈ L, free q.base) (hF : va_F A1 st₀ t) :
    H.size ≤ T'.heap.size ∧ (∀ q : Nat, q < H.size → ¬ A1 q → T'.heap[q]? = H[q]?) ∧ va_S A0 H0 T'.heap (locs ++ L) := by
  obtain ⟨hz, hk⟩ := hF
  rw [h0] at hz hk
  exact ⟨by rw [e1]; exact hz, fun q h1 h2 => by rw [e1]; exact hk q h1 h2,
    ⟨Nat.le_trans hS.1 (by rw [e1]; exact hz), fun q h1 h2 => by rw [e1, hk q (Nat.lt_of_lt_of_le h1 hS.1) (fun z => h2 (hA q (Nat.lt_of_lt_of_le h1 hS.1) z))]; exact hS.2.1 q h1 h2, fun q hq => by
      rcases List.mem_append.mp hq with h | h
      · exact hS.2.2 q h
      · exact hf _ (hL q h)⟩⟩
theorem vx_calli {S SX : Type} {post : Int32 → S → Prop} {px : SX → Prop} {B : S → State → Prop} {BX : String → SX → State → Prop} {AX : Nat → Prop} (hr : vx_Run p l e R s m args below meth c H locs cells slots mc ms (F0 m pc ls st0) rest (va_Qi post B A1 a) (vx_X px BX AX) free) (hS : va_S A0 H0 H locs) (hA : ∀ q, q < H.size → A1 q → A0 q) (hf : ∀ q, free q → A0 q) (hAX : ∀ q, q < H.size → AX q → A0 q)
    (kx : ∀ (E : String) (ce : Cell) (q9 : Addr) (u : SX) (t : State) (H1 : Heap) (locs1 : List Loc), t.heap = H1 → s.vm.Alike t.vm → px u → BX E u t → H.size ≤ H1.size → (∀ q : Nat, q < H.size → ¬ AX q → H1[q]? = H[q]?) → va_S A0 H0 H1 locs1 → H1[q9]? = some ce → ce.vm = .none → s.vm.findClass E = some ce.cls → vx_W p l e R s m args below meth c H1 locs1 (cells + mc) (slots + ms) Q (F0 m pc ls rest) q9)
    (kk : ∀ (r : Int32) (u : S) (t : State) (H1 : Heap) (locs1 : List Loc), t.heap = H1 → s.vm.Alike t.vm → post r u → B u t → H.size ≤ H1.size → (∀ q : Nat, q < H.size → ¬ A1 q → H1[q]? = H[q]?) → va_S A0 H0 H1 locs1 → W p l e R s m args below meth c H1 locs1 (cells + mc) (slots + ms) Q (F0 m (pc + 3) ls (.int r :: rest))) : W p l e R s m args below meth c H locs cells slots Q (F0 m pc ls st0) := by
  intro T hT X
  rcases hr T hT X with ⟨v, st₀, t, T', L, h0, X', hL, e1, e2, ⟨⟨r, u, hv, hp, hb⟩, hF⟩, st⟩ | ⟨q, st₀, t, T', L, E, ce, h0, X', hL, e1, e2, ⟨u, hp, hb, hF⟩, hce, hcv, hcl, st⟩
  · cases hv
    obtain ⟨k1, k2, k3⟩ := vx_keep h0 e1 hS hA hf hL hF
    obtain ⟨t2, a1, b1⟩ := kk r u t T'.heap (locs ++ L) e1.symm (by rw [← e2]; exact X'.warmed.alike) hp hb k1 k2 k3 T' rfl X'
    exact ⟨t2, st t2 a1, b1⟩
  · obtain ⟨k1, k2, k3⟩ := vx_keep h0 e1 hS hAX hf hL hF
    obtain ⟨t2, a1, b1⟩ := kx E ce q u t T'.heap (locs ++ L) e1.symm (by rw [← e2]; exact X'.warmed.alike) hp hb k1 k2 k3 (by rw [e1]; exact hce) hcv hcl T' rfl X'
    exact ⟨t2, st.trans a1, b1⟩
theorem vx_calll {S SX : Type} {post : Int64 → S → Prop} {px : SX → Prop} {B : S → State → Prop} {BX : String → SX → State → Prop} {AX : Nat → Prop} (hr : vx_Run p l e R s m args below meth c H locs cells slots mc ms (F0 m pc ls st0) rest (va_Ql post B A1 a) (vx_X px BX AX) free) (hS : va_S A0 H0 H locs) (hA : ∀ q, q < H.size → A1 q → A0 q) (hf : ∀ q, free q → A0 q) (hAX : ∀ q, q < H.size → AX q → A0 q)
    (kx : ∀ (E : String) (ce : Cell) (q9 : Addr) (u : SX) (t : State) (H1 : Heap) (locs1 : List Loc), t.heap = H1 → s.vm.Alike t.vm → px u → BX E u t → H.size ≤ H1.size → (∀ q : Nat, q < H.size → ¬ AX q → H1[q]? = H[q]?) → va_S A0 H0 H1 locs1 → H1[q9]? = some ce → ce.vm = .none → s.vm.findClass E = some ce.cls → vx_W p l e R s m args below meth c H1 locs1 (cells + mc) (slots + ms) Q (F0 m pc ls rest) q9)
    (kk : ∀ (r : Int64) (u : S) (t : State) (H1 : Heap) (locs1 : List Loc), t.heap = H1 → s.vm.Alike t.vm → post r u → B u t → H.size ≤ H1.size → (∀ q : Nat, q < H.size → ¬ A1 q → H1[q]? = H[q]?) → va_S A0 H0 H1 locs1 → W p l e R s m args below meth c H1 locs1 (cells + mc) (slots + ms) Q (F0 m (pc + 3) ls (.long r :: rest))) : W p l e R s m args below meth c H locs cells slots Q (F0 m pc ls st0) := by
  intro T hT X
  rcases hr T hT X with ⟨v, st₀, t, T', L, h0, X', hL, e1, e2, ⟨⟨r, u, hv, hp, hb⟩, hF⟩, st⟩ | ⟨q, st₀, t, T', L, E, ce, h0, X', hL, e1, e2, ⟨u, hp, hb, hF⟩, hce, hcv, hcl, st⟩
  · cases hv
    obtain ⟨k1, k2, k3⟩ := vx_keep h0 e1 hS hA hf hL hF
    obtain ⟨t2, a1, b1⟩ := kk r u t T'.heap (locs ++ L) e1.symm (by rw [← e2]; exact X'.warmed.alike) hp hb k1 k2 k3 T' rfl X'
    exact ⟨t2, st t2 a1, b1⟩
  · obtain ⟨k1, k2, k3⟩ := vx_keep h0 e1 hS hAX hf hL hF
    obtain ⟨t2, a1, b1⟩ := kx E ce q u t T'.heap (locs ++ L) e1.symm (by rw [← e2]; exact X'.warmed.alike) hp hb k1 k2 k3 (by rw [e1]; exact hce) hcv hcl T' rfl X'
    exact ⟨t2, st.trans a1, b1⟩
theorem vx_callf {S SX : Type} {post : UInt32 → S → Prop} {px : SX → Prop} {B : S → State → Prop} {BX : String → SX → State → Prop} {AX : Nat → Prop} (hr : vx_Run p l e R s m args below meth c H locs cells slots mc ms (F0 m pc ls st0) rest (va_Qf post B A1 a) (vx_X px BX AX) free) (hS : va_S A0 H0 H locs) (hA : ∀ q, q < H.size → A1 q → A0 q) (hf : ∀ q, free q → A0 q) (hAX : ∀ q, q < H.size → AX q → A0 q)
    (kx : ∀ (E : String) (ce : Cell) (q9 : Addr) (u : SX) (t : State) (H1 : Heap) (locs1 : List Loc), t.heap = H1 → s.vm.Alike t.vm → px u → BX E u t → H.size ≤ H1.size → (∀ q : Nat, q < H.size → ¬ AX q → H1[q]? = H[q]?) → va_S A0 H0 H1 locs1 → H1[q9]? = some ce → ce.vm = .none → s.vm.findClass E = some ce.cls → vx_W p l e R s m args below meth c H1 locs1 (cells + mc) (slots + ms) Q (F0 m pc ls rest) q9)
    (kk : ∀ (r : UInt32) (u : S) (t : State) (H1 : Heap) (locs1 : List Loc), t.heap = H1 → s.vm.Alike t.vm → post r u → B u t → H.size ≤ H1.size → (∀ q : Nat, q < H.size → ¬ A1 q → H1[q]? = H[q]?) → va_S A0 H0 H1 locs1 → W p l e R s m args below meth c H1 locs1 (cells + mc) (slots + ms) Q (F0 m (pc + 3) ls (.float r :: rest))) : W p l e R s m args below meth c H locs cells slots Q (F0 m pc ls st0) := by
  intro T hT X
  rcases hr T hT X with ⟨v, st₀, t, T', L, h0, X', hL, e1, e2, ⟨⟨r, u, hv, hp, hb⟩, hF⟩, st⟩ | ⟨q, st₀, t, T', L, E, ce, h0, X', hL, e1, e2, ⟨u, hp, hb, hF⟩, hce, hcv, hcl, st⟩
  · cases hv
    obtain ⟨k1, k2, k3⟩ := vx_keep h0 e1 hS hA hf hL hF
    obtain ⟨t2, a1, b1⟩ := kk r u t T'.heap (locs ++ L) e1.symm (by rw [← e2]; exact X'.warmed.alike) hp hb k1 k2 k3 T' rfl X'
    exact ⟨t2, st t2 a1, b1⟩
  · obtain ⟨k1, k2, k3⟩ := vx_keep h0 e1 hS hAX hf hL hF
    obtain ⟨t2, a1, b1⟩ := kx E ce q u t T'.heap (locs ++ L) e1.symm (by rw [← e2]; exact X'.warmed.alike) hp hb k1 k2 k3 (by rw [e1]; exact hce) hcv hcl T' rfl X'
    exact ⟨t2, st.trans a1, b1⟩
theorem vx_calld {S SX : Type} {post : UInt64 → S → Prop} {px : SX → Prop} {B : S → State → Prop} {BX : String → SX → State → Prop} {AX : Nat → Prop} (hr : vx_Run p l e R s m args below meth c H locs cells slots mc ms (F0 m pc ls st0) rest (va_Qd post B A1 a) (vx_X px BX AX) free) (hS : va_S A0 H0 H locs) (hA : ∀ q, q < H.size → A1 q → A0 q) (hf : ∀ q, free q → A0 q) (hAX : ∀ q, q < H.size → AX q → A0 q)
    (kx : ∀ (E : String) (ce : Cell) (q9 : Addr) (u : SX) (t : State) (H1 : Heap) (locs1 : List Loc), t.heap = H1 → s.vm.Alike t.vm → px u → BX E u t → H.size ≤ H1.size → (∀ q : Nat, q < H.size → ¬ AX q → H1[q]? = H[q]?) → va_S A0 H0 H1 locs1 → H1[q9]? = some ce → ce.vm = .none → s.vm.findClass E = some ce.cls → vx_W p l e R s m args below meth c H1 locs1 (cells + mc) (slots + ms) Q (F0 m pc ls rest) q9)
    (kk : ∀ (r : UInt64) (u : S) (t : State) (H1 : Heap) (locs1 : List Loc), t.heap = H1 → s.vm.Alike t.vm → post r u → B u t → H.size ≤ H1.size → (∀ q : Nat, q < H.size → ¬ A1 q → H1[q]? = H[q]?) → va_S A0 H0 H1 locs1 → W p l e R s m args below meth c H1 locs1 (cells + mc) (slots + ms) Q (F0 m (pc + 3) ls (.double r :: rest))) : W p l e R s m args below meth c H locs cells slots Q (F0 m pc ls st0) := by
  intro T hT X
  rcases hr T hT X with ⟨v, st₀, t, T', L, h0, X', hL, e1, e2, ⟨⟨r, u, hv, hp, hb⟩, hF⟩, st⟩ | ⟨q, st₀, t, T', L, E, ce, h0, X', hL, e1, e2, ⟨u, hp, hb, hF⟩, hce, hcv, hcl, st⟩
  · cases hv
    obtain ⟨k1, k2, k3⟩ := vx_keep h0 e1 hS hA hf hL hF
    obtain ⟨t2, a1, b1⟩ := kk r u t T'.heap (locs ++ L) e1.symm (by rw [← e2]; exact X'.warmed.alike) hp hb k1 k2 k3 T' rfl X'
    exact ⟨t2, st t2 a1, b1⟩
  · obtain ⟨k1, k2, k3⟩ := vx_keep h0 e1 hS hAX hf hL hF
    obtain ⟨t2, a1, b1⟩ := kx E ce q u t T'.heap (locs ++ L) e1.symm (by rw [← e2]; exact X'.warmed.alike) hp hb k1 k2 k3 (by rw [e1]; exact hce) hcv hcl T' rfl X'
    exact ⟨t2, st.trans a1, b1⟩
theorem vx_callv {S SX : Type} {post : S → Prop} {px : SX → Prop} {B : S → State → Prop} {BX : String → SX → State → Prop} {AX : Nat → Prop} (hr : vx_Run p l e R s m args below meth c H locs cells slots mc ms (F0 m pc ls st0) rest (va_Qv post B A1 a) (vx_X px BX AX) free) (hS : va_S A0 H0 H locs) (hA : ∀ q, q < H.size → A1 q → A0 q) (hf : ∀ q, free q → A0 q) (hAX : ∀ q, q < H.size → AX q → A0 q)
    (kx : ∀ (E : String) (ce : Cell) (q9 : Addr) (u : SX) (t : State) (H1 : Heap) (locs1 : List Loc), t.heap = H1 → s.vm.Alike t.vm → px u → BX E u t → H.size ≤ H1.size → (∀ q : Nat, q < H.size → ¬ AX q → H1[q]? = H[q]?) → va_S A0 H0 H1 locs1 → H1[q9]? = some ce → ce.vm = .none → s.vm.findClass E = some ce.cls → vx_W p l e R s m args below meth c H1 locs1 (cells + mc) (slots + ms) Q (F0 m pc ls rest) q9)
    (kk : ∀ (u : S) (t : State) (H1 : Heap) (locs1 : List Loc), t.heap = H1 → s.vm.Alike t.vm → post u → B u t → H.size ≤ H1.size → (∀ q : Nat, q < H.size → ¬ A1 q → H1[q]? = H[q]?) → va_S A0 H0 H1 locs1 → W p l e R s m args below meth c H1 locs1 (cells + mc) (slots + ms) Q (F0 m (pc + 3) ls (rest))) : W p l e R s m args below meth c H locs cells slots Q (F0 m pc ls st0) := by
  intro T hT X
  rcases hr T hT X with ⟨v, st₀, t, T', L, h0, X', hL, e1, e2, ⟨⟨u, hv, hp, hb⟩, hF⟩, st⟩ | ⟨q, st₀, t, T', L, E, ce, h0, X', hL, e1, e2, ⟨u, hp, hb, hF⟩, hce, hcv, hcl, st⟩
  · cases hv
    obtain ⟨k1, k2, k3⟩ := vx_keep h0 e1 hS hA hf hL hF
    obtain ⟨t2, a1, b1⟩ := kk u t T'.heap (locs ++ L) e1.symm (by rw [← e2]; exact X'.warmed.alike) hp hb k1 k2 k3 T' rfl X'
    exact ⟨t2, st t2 a1, b1⟩
  · obtain ⟨k1, k2, k3⟩ := vx_keep h0 e1 hS hAX hf hL hF
    obtain ⟨t2, a1, b1⟩ := kx E ce q u t T'.heap (locs ++ L) e1.symm (by rw [← e2]; exact X'.warmed.alike) hp hb k1 k2 k3 (by rw [e1]; exact hce) hcv hcl T' rfl X'
    exact ⟨t2, st.trans a1, b1⟩
/-- caught by the row x of this method's table; the rows ahead don't take it -/
theorem vx_catch {own name : String} {E : String} {ce : Cell} {q : Addr} (hown : s.vm.findClass own = some m.cls) (pre : List ExceptionTableEntry) (x : ExceptionTableEntry) (suf : List ExceptionTableEntry) (hsplit : c.exceptionTable.toList = pre ++ x :: suf)
    (hpass : ∀ z ∈ pre, covers z pc = false ∨ (z.catchType ≠ 0 ∧ ∃ nm : String, (Cond.classLink own z.catchType nm).before args s = true ∧ va_Nc E nm s)) (hx : covers x pc = true) (h0 : x.catchType ≠ 0)
    (hlink : (Cond.classLink own x.catchType name).before args s = true) (hcast : (Cond.castable E name).before args s = true) (hcell : H[q]? = some ce) (hv : ce.vm = .none) (hcl : s.vm.findClass E = some ce.cls)
    (kk : W p l e R s m args below meth c H locs cells slots Q (F0 m x.handlerPc ls [.ref q])) : vx_W p l e R s m args below meth c H locs cells slots Q (F0 m pc ls rest) q := by
  intro T hT X
  have hpl : e.platform.magicAccessors = ({} : Platform).magicAccessors := by rw [X.admits.platform]
  obtain ⟨c3, c4, hc3, hc4, hasg⟩ := Cond.castable_spec hcast
  cases Option.some.inj (hc3.symm.trans hcl)
  obtain ⟨c5, hc5, hcl5⟩ := Cond.classLink_spec hown hlink e.platform hpl
  cases Option.some.inj (hc4.symm.trans hc5)
  obtain ⟨vm', X', st⟩ := X.thenCaughtThrough q (g := F0 m pc ls rest) rfl (Steps.refl _) (by rw [hT]; exact hcell) (by rw [hv]; rfl) (by obtain ⟨k9, h9, -⟩ := Vm.findClass_spec hcl; exact ⟨k9, h9⟩) pre x suf hsplit
    (fun z hz => by
      rcases hpass z hz with h | ⟨hz0, nm, hl1, hn1⟩
      · exact Or.inl h
      · obtain ⟨c6, hc6, hcl6⟩ := Cond.classLink_spec hown hl1 e.platform hpl
        obtain ⟨a8, b8, h1, h2, h3⟩ := hn1
        cases Option.some.inj (h1.symm.trans hcl)
        cases Option.some.inj (h2.symm.trans hc6)
        exact Or.inr ⟨hz0, _, hcl6, h3⟩) hx (Or.inr ⟨h0, c4, hcl5, hasg⟩)
  obtain ⟨t, a1, b1⟩ := kk (T.setVm vm') hT X'
  exact ⟨t, st.trans a1, b1⟩
end Rows
section Ends
variable {p : Program} {l : Launch} {e : Env} {R : Room} {s : State} {m : MethodId} {args : Array Value} {below : List Frame} {meth : Method} {c : Code} {H : Heap} {locs : List Loc} {cells slots : Nat} {Q : State → Prop}
variable {mc ms : Nat} {free : Addr → Prop} {A0 A1 : Nat → Prop} {H0 : Heap} {a : Array Value} {ls : Array Slot} {st0 rest : List Value}
variable {Qc : Array Value → State → Outcome → State → Prop} {XC : String → State → State → Prop}
/-- what a body that may throw owes at its end -/
def vx_MQ (below : List Frame) (Qc : Array Value → State → Outcome → State → Prop) (XC : String → State → State → Prop) (a : Array Value) (s : State) (mc ms : Nat) (free : Addr → Prop) : State → Prop := fun t =>
  ∃ o, t.status = .running ∧ Ended t below o ∧ vx_Q Qc XC mc ms free a s o t
theorem vx_ret {g : JFrame} {mc ms : Nat} (k : W p l e R s m args below meth c H locs cells slots (MQ below Qc args s mc ms free) g) : W p l e R s m args below meth c H locs cells slots (vx_MQ below Qc XC args s mc ms free) g := by
  intro T hT X
  obtain ⟨t, a1, o, b1, b2, b3, b4⟩ := k T hT X
  exact ⟨t, a1, o, b1, b2, Or.inl ⟨b3, b4⟩⟩
/-- not caught here: it goes on to the caller -/
theorem vx_widen {g : JFrame} {q : Addr} {k n : Nat} (h1 : cells ≤ k) (h2 : slots ≤ n) (kk : vx_W p l e R s m args below meth c H locs k n Q g q) : vx_W p l e R s m args below meth c H locs cells slots Q g q := fun T hT X => kk T hT (stand_widen X h1 h2)
theorem vx_out {pc : Nat} {E : String} {ce : Cell} {q : Addr} {mc ms : Nat} (hout : ∀ x ∈ c.exceptionTable.toList, covers x pc = false) (hlocks : meth.locks = false) (hcell : H[q]? = some ce) (hv : ce.vm = .none) (hcl : s.vm.findClass E = some ce.cls)
    (hx : ∀ t : State, t.heap = H → s.vm.Alike t.vm → XC E s t) (hf : ∀ z ∈ locs, free z.base) (hc : cells ≤ mc) (hs : slots ≤ ms) :
    vx_W p l e R s m args below meth c H locs cells slots (vx_MQ below Qc XC args s mc ms free) (F0 m pc ls rest) q := by
  intro T hT X
  obtain ⟨st1, hrun, hend, hW, hsm⟩ := X.leaveThrown q (g := F0 m pc ls rest) rfl rfl rfl hout hlocks
  have hcell9 : (T.setFrames (.throwing q :: below)).heap[q]? = some ce := by
    show T.heap[q]? = some ce
    rw [hT]; exact hcell
  exact ⟨_, st1, .threw q, hrun, hend, Or.inr ⟨q, rfl, E, ce, locs, hx _ hT hW.alike, hcell9, hv, hcl, hW, hsm.mono hc hs, hf⟩⟩
theorem vx_frame {U : State} {k n : Nat} (h : s.sameButNew ({ U with vm := s.vm } : State) locs k n) : s.heap.size ≤ U.heap.size ∧ ∀ q : Nat, q < s.heap.size → (∀ z ∈ locs, z.base ≠ q) → U.heap[q]? = s.heap[q]? := by
  obtain ⟨-, h2, -, -, -, h6⟩ := h
  refine ⟨h2, fun q hq hz => ?_⟩
  obtain ⟨c9, e1, e2, e3, e4⟩ := h6 q _ (Array.getElem?_eq_getElem hq)
  have hs : c9.slots = (s.heap[q]).slots := Array.ext_getElem? fun i => e4 i fun hm => hz _ hm rfl
  have h9 : c9 = s.heap[q] := by
    rw [hs] at e2
    exact e2
  have e5 : U.heap[q]? = some c9 := e1
  rw [e5, h9, Array.getElem?_eq_getElem hq]
/-- the words of a throw but the four that speak of the heap -/
def vx_no (w : Cond) : Bool := decide (w ≠ .isRef (.static Bundle.tN "UNASSIGNED_STACK" Bundle.steD)) && decide (w ≠ .isRef (.static Bundle.tN "SUPPRESSED_SENTINEL" Bundle.listD)) && decide (w ≠ .laysStatic Bundle.tN "UNASSIGNED_STACK" Bundle.steD) && decide (w ≠ .laysStatic Bundle.tN "SUPPRESSED_SENTINEL" Bundle.listD)
def vx_at0 (own : String) (ic : Nat) (X : String) (names : List String) : List Cond := (Bundle.ownAtoms0 own ic X names).filter vx_no
def vx_atS (own : String) (ic : Nat) (X : String) (names : List String) : List Cond := (Bundle.ownAtoms own ic X names).filter vx_no
/-- a word that the tables alone decide, or a good one -/
def vx_ot (w : Cond) : Bool := w.onTables || goodWord w
theorem vx_ot_at {args a' : Array Value} {s U : State} {w : Cond} (hW : s.WarmedH U.vm) (hvm : s.vm = U.vm) (hg : vx_ot w = true) (h : w.before args s = true) : w.before a' U = true := by
  simp only [vx_ot, Bool.or_eq_true] at hg
  rcases hg with hg | hg
  · exact va_tabs hg hvm h
  · exact word_at hW (good_of_word hg) h
/-- a list's words: the good ones out of the method's own list, the others by premises of their own -/
theorem vx_hat {args : Array Value} {s : State} {L B : List Cond} (h1 : ∀ w ∈ L.filter goodWord, w.before args s = true) (h2 : ∀ w ∈ L.filter (fun w => !goodWord w), w ∈ B) (h3 : ∀ w ∈ B, w.before args s = true) : ∀ w ∈ L, w.before args s = true := by
  intro w hw
  by_cases g : goodWord w = true
  · exact h1 w (List.mem_filter.mpr ⟨hw, g⟩)
  · refine h3 w (h2 w (List.mem_filter.mpr ⟨hw, ?_⟩))
    show (!goodWord w) = true
    cases hgw : goodWord w
    · rfl
    · exact absurd hgw g
theorem vx_c {args : Array Value} {s : State} {w : Cond} {B : List Cond} (h : w.before args s = true) (t : ∀ w ∈ B, w.before args s = true) : ∀ w' ∈ w :: B, w'.before args s = true := fun w' h' => (List.mem_cons.mp h').elim (fun e => by rw [e]; exact h) (t w')
theorem vx_n {args : Array Value} {s : State} : ∀ w ∈ ([] : List Cond), w.before args s = true := fun _ h => nomatch h
theorem vx_own {args : Array Value} {s : State} {L : List Cond} (h1 : ∀ w ∈ L.filter vx_no, w.before args s = true)
    (hU : (Cond.isRef (.static Bundle.tN "UNASSIGNED_STACK" Bundle.steD)).before args s = true) (hN : (Cond.isRef (.static Bundle.tN "SUPPRESSED_SENTINEL" Bundle.listD)).before args s = true)
    (lU : (Cond.laysStatic Bundle.tN "UNASSIGNED_STACK" Bundle.steD).before args s = true) (lN : (Cond.laysStatic Bundle.tN "SUPPRESSED_SENTINEL" Bundle.listD).before args s = true) : ∀ w ∈ L, w.before args s = true := by
  intro w hw
  by_cases e1 : w = .isRef (.static Bundle.tN "UNASSIGNED_STACK" Bundle.steD)
  · rw [e1]; exact hU
  · by_cases e2 : w = .isRef (.static Bundle.tN "SUPPRESSED_SENTINEL" Bundle.listD)
    · rw [e2]; exact hN
    · by_cases e3 : w = .laysStatic Bundle.tN "UNASSIGNED_STACK" Bundle.steD
      · rw [e3]; exact lU
      · by_cases e4 : w = .laysStatic Bundle.tN "SUPPRESSED_SENTINEL" Bundle.listD
        · rw [e4]; exact lN
        · exact h1 w (List.mem_filter.mpr ⟨hw, by unfold vx_no; rw [decide_eq_true e1, decide_eq_true e2, decide_eq_true e3, decide_eq_true e4]; rfl⟩)
/-- where a static field lies, its class's statics cell in H -/
def vx_L (C n d : String) (A : Nat → Prop) (U : State) (H : Heap) : Prop := ∃ (c : ClassId) (k : Class) (i : Nat) (f : Field) (a : Nat) (cell : Cell), U.vm.findClass C = some c ∧ U.fieldFound? C n d = some (c, k, i, f) ∧ f.isStatic = true ∧ k.statics = some a ∧ H[a]? = some cell ∧ cell.vm.isStatics = true ∧ cell.cls = c ∧ f.slot < cell.slots.size ∧ k.staticTypes[f.slot]? = some f.type ∧ ¬ A a
theorem vx_L.moved {C n d : String} {A : Nat → Prop} {u U : State} {H : Heap} (hvm : u.vm.Alike U.vm) (h : vx_L C n d A u H) : vx_L C n d A U H := by
  obtain ⟨c, k, i, f, a, cell, h1, h2, h3, h4, h5, h6, h7, h8, h9, h10⟩ := h
  obtain ⟨k', hi', he⟩ := State.fieldFound?_setVm hvm h2
  exact ⟨c, k', i, f, a, cell, by rw [hvm.findClass]; exact h1, hi', h3, by rw [he]; exact h4, h5, h6, h7, h8, by rw [he]; exact h9, h10⟩
theorem vx_L.kept {C n d : String} {A : Nat → Prop} {U : State} {H H1 : Heap} (h : vx_L C n d A U H) (hq : ∀ a : Nat, a < H.size → ¬ A a → H1[a]? = H[a]?) : vx_L C n d A U H1 := by
  obtain ⟨c, k, i, f, a, cell, h1, h2, h3, h4, h5, h6, h7, h8, h9, h10⟩ := h
  exact ⟨c, k, i, f, a, cell, h1, h2, h3, h4, by rw [hq a (Array.getElem?_eq_some_iff.mp h5).1 h10]; exact h5, h6, h7, h8, h9, h10⟩
theorem vx_L.narrow {C n d : String} {A B : Nat → Prop} {U : State} {H : Heap} (h : vx_L C n d A U H) (hAB : ∀ q, B q → A q) : vx_L C n d B U H := by
  obtain ⟨c, k, i, f, a, cell, h1, h2, h3, h4, h5, h6, h7, h8, h9, h10⟩ := h
  exact ⟨c, k, i, f, a, cell, h1, h2, h3, h4, h5, h6, h7, h8, h9, fun z => h10 (hAB _ z)⟩
theorem vx_L.word {C n d : String} {A : Nat → Prop} {s : State} {args : Array Value} (h : vx_L C n d A s s.heap) : (Cond.laysStatic C n d).before args s = true := by
  obtain ⟨c, k, i, f, a, cell, h1, h2, h3, h4, h5, h6, h7, h8, h9, -⟩ := h
  show (Cond.laysStatic C n d).holds args s none s [] = true
  exact Cond.laysStatic_of h1 h2 h3 h4 h5 h6 h7 h8 h9
/-- .. and what it holds: null or some reference -/
def vx_Zq (C n d : String) (A : Nat → Prop) (U : State) (H : Heap) : Prop := va_Zq C n d A U H ∧ vx_L C n d A U H
theorem vx_Zq.moved {C n d : String} {A : Nat → Prop} {u U : State} {H : Heap} (hvm : u.vm.Alike U.vm) (h : vx_Zq C n d A u H) : vx_Zq C n d A U H := ⟨va_Zq.moved hvm h.1, vx_L.moved hvm h.2⟩
theorem vx_Zq.kept {C n d : String} {A : Nat → Prop} {U : State} {H H1 : Heap} (h : vx_Zq C n d A U H) (hq : ∀ a : Nat, a < H.size → ¬ A a → H1[a]? = H[a]?) : vx_Zq C n d A U H1 := ⟨va_Zq.kept h.1 hq, vx_L.kept h.2 hq⟩
theorem vx_Zq.narrow {C n d : String} {A B : Nat → Prop} {U : State} {H : Heap} (h : vx_Zq C n d A U H) (hAB : ∀ q, B q → A q) : vx_Zq C n d B U H := ⟨va_Zq.narrow h.1 hAB, vx_L.narrow h.2 hAB⟩
theorem vx_Zqof {args : Array Value} {s : State} {C n d : String} {A : Nat → Prop} (hl : (Cond.laysStatic C n d).before args s = true) (hini : (Cond.initialized C).before args s = true) (h : (Cond.isRef (.static C n d)).before args s = true) (hA : ∀ a : Nat, a < s.heap.size → ¬ A a) : vx_Zq C n d A s s.heap := by
  refine ⟨va_Zqof hl hini h hA, ?_⟩
  obtain ⟨c, k, i, f, a, cell, h1, h2, h3, h4, h5, h6, h7, h8, h9⟩ := Cond.laysStatic_spec hl
  exact ⟨c, k, i, f, a, cell, h1, h2, h3, h4, h5, h6, h7, h8, h9, hA a (Array.getElem?_eq_some_iff.mp h5).1⟩
theorem vx_isRef {C n d : String} {v : Value} {A : Nat → Prop} {s : State} {args : Array Value} (h : va_Z C n d v A s s.heap) (hv : v.isRef = true) : (Cond.isRef (.static C n d)).before args s = true := by
  obtain ⟨cf, kf, fi, f, a, cell, h1, h2, h3, h4, h5, h6, h7, -⟩ := h
  have he : (Term.static C n d).eval args s none [] s = some v := by
    simp [Term.eval, State.fieldNamed?, h1, h2, h4, h5, h6, h7]
  simp only [Cond.before, Cond.holds, Cond.value, he]
  cases v <;> simp_all [Value.isRef]
theorem vx_isRefq {C n d : String} {A : Nat → Prop} {s : State} {args : Array Value} (h : va_Zq C n d A s s.heap) : (Cond.isRef (.static C n d)).before args s = true := by
  rcases h with h | ⟨t, h⟩
  · exact vx_isRef h rfl
  · exact vx_isRef h rfl
/-- the same frame, seen from here: as if the method were called anew in this heap -/
theorem vx_rebase {T : State} (X : Stand p l e R s m args below meth c T locs cells slots) {R' : Room} (hf : R'.frames ≤ R.frames) (hl : R'.locals ≤ R.locals) (hc : cells + R'.cells ≤ R.cells) (hs : slots + R'.slots ≤ R.slots) :
    Stand p l e R' ((T.setVm s.vm).setFrames (.invoking m args :: below)) m args below meth c T [] 0 0 := by
  have htop : (T.setVm s.vm).topJava?.isSome := X.here.top
  have hF : ((T.setVm s.vm).setFrames (.invoking m args :: below)).frames = .invoking m args :: below := State.frames_setFrames _ (State.cur_lt_of_top htop)
  obtain ⟨g₀, hg0⟩ := Option.isSome_iff_exists.mp htop
  obtain ⟨r, hr⟩ := State.topJava?_eq_some.mp hg0
  have hl9 : e.platform.stackLimits (T.setVm s.vm).me = e.platform.stackLimits s.me := X.limits
  have hb9 : (T.setVm s.vm).me.stackBytes = s.me.stackBytes := X.bytes
  refine ⟨X.admits, X.cas, X.clock, hF, ?_, X.hears, X.method, X.code, X.here, X.tail, X.warmed, ?_, ?_, ?_⟩
  · have h := X.room
    have hU : ((T.setVm s.vm).setFrames (.invoking m args :: below)).localsInUse = s.localsInUse := by
      rw [State.localsInUse_invoking hF (meth := meth) (c := c) X.method X.code, State.localsInUse_invoking X.frames X.method X.code]
    simp only [State.hasRoom, Bool.and_eq_true, decide_eq_true_eq] at h ⊢
    obtain ⟨⟨⟨⟨h1, h2, h3, h4, h5, h6⟩, h7⟩, h8⟩, h9⟩ := h
    rw [X.frames, List.length_cons] at h2 h3
    have q1 := X.heapSize
    have q2 := X.used
    simp only [hF, hU, List.length_cons, State.stackLimits_setFrames, State.stackBytes_setFrames, hl9, hb9]
    refine ⟨⟨⟨⟨by omega, by omega, by omega, by omega, by omega, h6⟩, ?_⟩, ?_⟩, X.book⟩
    · show T.heap.size + R'.cells ≤ e.platform.maxCells
      omega
    · show T.slotsUsed + R'.slots ≤ e.platform.maxSlots
      omega
  · rw [State.stackLimits_setFrames]; rfl
  · rw [State.stackBytes_setFrames]; rfl
  · refine ⟨?_, Nat.le_refl _, Nat.le_refl _, ?_, ?_, fun a c9 h9 => ⟨c9, h9, rfl, rfl, fun _ _ => rfl⟩⟩
    · obtain ⟨t, ht, -⟩ := State.frames_cons hr
      show T.setVm s.vm = { ((T.setVm s.vm).setFrames (.invoking m args :: below)).setFrames (T.setVm s.vm).frames with heap := T.heap, slotsUsed := T.slotsUsed }
      rw [State.setFrames_setFrames, State.setFrames_self ht]
      rfl
    · show T.slotsUsed = T.slotsUsed + ((T.heap.toList.drop T.heap.size).map (·.slots.size)).sum
      rw [List.drop_eq_nil_of_le (Nat.le_of_eq Array.length_toList)]
      rfl
    · show ((T.heap.toList.drop T.heap.size).map (·.slots.size)).sum ≤ 0
      rw [List.drop_eq_nil_of_le (Nat.le_of_eq Array.length_toList)]
      exact Nat.le_refl _
/-- 'throw new E()': new; dup; invokespecial; athrow -/
theorem vx_throw0 {cc : ByteArray} {pc : Nat} (hexec : p.tables.exec = Jvm.exec) (hb : c.code = cc) (hl : l.stackTraces = false) {own cls : String} {names : List String} {ik ic mc ms : Nat} {A : Nat → Prop}
    (hown : s.vm.findClass own = some m.cls) (hcls : Bundle.fit cls = true) (hnames : ∀ n ∈ names, Bundle.fit n = true)
    (hk : (Cond.classLink own ik cls).before args s = true) (hini : (Cond.initialized cls).before args s = true) (hat : ∀ w ∈ vx_at0 own ic cls names, w.before args s = true)
    (hgood : ∀ w ∈ Cond.classLink own ik cls :: Cond.initialized cls :: vx_at0 own ic cls names, vx_ot w = true)
    (hU : vx_Zq Bundle.tN "UNASSIGNED_STACK" Bundle.steD A s s.heap) (hN : vx_Zq Bundle.tN "SUPPRESSED_SENTINEL" Bundle.listD A s s.heap) (hS : va_S A s.heap H locs) (hsize : ls.size = c.maxLocals)
    (d0 : decode cc pc = .ok (.new ik, 3)) (d3 : decode cc (pc + 3) = .ok (.dup, 1)) (d4 : decode cc (pc + 4) = .ok (.invokespecial ic, 3)) (d7 : decode cc (pc + 7) = .ok (.athrow, 1))
    (hout : ∀ x ∈ c.exceptionTable.toList, covers x (pc + 7) = false)
    (hRframes : names.length + 3 < R.frames) (hRlocals : (rest.map fun v => v.category).sum + (13 * (names.length + 1) + 42) ≤ R.locals) (hRcells : cells + 1 ≤ R.cells) (hRslots : slots + 6 ≤ R.slots) (hlocks : meth.locks = false)
    (hx : ∀ t : State, s.vm.Alike t.vm → H.size ≤ t.heap.size → (∀ q : Nat, q < H.size → t.heap[q]? = H[q]?) → XC cls s t)
    (hf : ∀ z ∈ locs, free z.base) (hc : cells + 1 ≤ mc) (hs : slots + 6 ≤ ms) :
    W p l e R s m args below meth c H locs cells slots (vx_MQ below Qc XC args s mc ms free) (F0 m pc ls rest) := by
  intro T hT X
  have htr : e.platform.stackTraces = false := (show e.platform.stackTraces = l.stackTraces by rw [X.admits.platform]).trans hl
  have Y := vx_rebase X (R' := { frames := R.frames, locals := R.locals, cells := 1, slots := 6 }) (Nat.le_refl _) (Nat.le_refl _) hRcells hRslots
  obtain ⟨s', hA⟩ : ∃ z, z = (T.setVm s.vm).setFrames (.invoking m args :: below) := ⟨_, rfl⟩
  rw [← hA] at Y
  have hvm : s'.vm = s.vm := by rw [hA]; rfl
  have hhp : s'.heap = H := by rw [hA]; exact hT
  have hW0 : s.WarmedH s'.vm := by rw [hvm]; exact State.WarmedH.refl s
  have hat' : ∀ w ∈ vx_at0 own ic cls names, w.before args s' = true := fun w hw => vx_ot_at hW0 hvm.symm (hgood w (List.mem_cons_of_mem _ (List.mem_cons_of_mem _ hw))) (hat w hw)
  have hk' : (Cond.classLink own ik cls).before args s' = true := vx_ot_at hW0 hvm.symm (hgood _ List.mem_cons_self) hk
  have hini' : (Cond.initialized cls).before args s' = true := vx_ot_at hW0 hvm.symm (hgood _ (List.mem_cons_of_mem _ List.mem_cons_self)) hini
  have hU' : vx_Zq Bundle.tN "UNASSIGNED_STACK" Bundle.steD A s' s'.heap := by rw [hhp]; exact vx_Zq.moved hW0.alike (hU.kept hS.2.1)
  have hN' : vx_Zq Bundle.tN "SUPPRESSED_SENTINEL" Bundle.listD A s' s'.heap := by rw [hhp]; exact vx_Zq.moved hW0.alike (hN.kept hS.2.1)
  have h : ∀ w ∈ Bundle.ownAtoms0 own ic cls names, w.before args s' = true := vx_own hat' (vx_isRefq hU'.1) (vx_isRefq hN'.1) hU'.2.word hN'.2.word
  have hown' : s'.vm.findClass own = some m.cls := by rw [hvm]; exact hown
  have hins : (Cond.instantiable cls 6).before args s' = true := h _ (by simp [Bundle.ownAtoms0])
  obtain ⟨vm₁, cX, kX, hfX, hkX, -, -, X₁, st1⟩ := Y.newCold hexec (own := own) (C := cls) (index := ik) (n := 6) hown' hk' hins hini'
    (g := F0 m pc ls rest) rfl (by rw [hb]; exact d0) (Nat.le_refl _) (Nat.le_refl _)
  generalize hT1 : (T.setVm vm₁).pushCell { cls := cX, slots := kX.instanceTypes.map defaultValue, vm := .none } = T1 at X₁ st1
  have hcat : (Value.ref T.heap.size).category = 1 := rfl
  have hcellA : T1.heap[T.heap.size]? = some (freshCell cX kX) := by rw [← hT1]; exact State.heap_pushCell_size _ _
  have d3' : decode c.code (pc + 3) = .ok (.dup, 1) := by rw [hb]; exact d3
  obtain ⟨U, hsteps, hrun, hend, hW, hsame, ce, hce, hO⟩ := X₁.ctorThrow0 hexec htr (own := own) (cls := cls) (names := names) (ic := ic) hown' hcls hnames h (fun x hx => nomatch hx) hfX hkX hcellA (by rw [hhp, hT]; exact Nat.le_refl _)
    (g := { method := m, pc := pc + 4, locals := ls, stack := .ref T.heap.size :: .ref T.heap.size :: rest, locked := none }) rfl hsize rfl rfl (rest := rest) rfl
    (by rw [hb]; exact d4) (by rw [hb]; exact d7) hout hRframes (by simp only [List.map_cons, List.sum_cons, hcat]; omega) hlocks
  obtain ⟨f1, f2⟩ := vx_frame hsame
  rw [hhp] at f1 f2
  have hWs : s.WarmedH U.vm := State.WarmedH.trans hW0 hW
  have hcl : s.vm.findClass cls = some ce.cls := by
    have h9 := hO.cls
    rw [hvm] at h9
    exact h9
  have hall : s.sameButNew ({ U with vm := s.vm } : State) locs mc ms := by
    subst hA
    obtain ⟨e1, e2⟩ := hsame
    rw [State.setFrames_setFrames] at e1
    have h2 : (T.setVm s.vm).sameButNew ({ U with vm := s.vm } : State) [] (0 + 1) (0 + 6) := ⟨e1, e2⟩
    have h3 := X.same.trans h2
    rw [List.append_nil] at h3
    exact h3.mono hc hs
  refine ⟨U, ?_, .threw T.heap.size, hrun, hend, Or.inr ⟨T.heap.size, rfl, cls, ce, locs, hx U hWs.alike f1 (fun q hq => f2 q hq (fun z hz => nomatch hz)), hce, hO.vm, hcl, hWs, hall, hf⟩⟩
  refine st1 _ ?_
  show Steps p.tables e below (T1.setTop { method := m, pc := pc + 3, locals := ls, stack := .ref T.heap.size :: rest, locked := none }) _
  jvm_step X₁.here [X₁.here.top, hexec, d3', Value.category]
  exact hsteps
/-- 'throw new E("text")': new; dup; ldc; invokespecial; athrow -/
theorem vx_throwS {cc : ByteArray} {pc : Nat} (hexec : p.tables.exec = Jvm.exec) (hb : c.code = cc) (hl : l.stackTraces = false) {own cls text : String} {names : List String} {ik is ic mc ms sa : Nat} {A : Nat → Prop}
    (hown : s.vm.findClass own = some m.cls) (hcls : Bundle.fit cls = true) (hnames : ∀ n ∈ names, Bundle.fit n = true)
    (hk : (Cond.classLink own ik cls).before args s = true) (hini : (Cond.initialized cls).before args s = true) (hstr : vk_R own is text sa s) (hat : ∀ w ∈ vx_atS own ic cls names, w.before args s = true)
    (hgood : ∀ w ∈ Cond.classLink own ik cls :: Cond.initialized cls :: vx_atS own ic cls names, vx_ot w = true)
    (hU : vx_Zq Bundle.tN "UNASSIGNED_STACK" Bundle.steD A s s.heap) (hN : vx_Zq Bundle.tN "SUPPRESSED_SENTINEL" Bundle.listD A s s.heap) (hS : va_S A s.heap H locs) (hsize : ls.size = c.maxLocals)
    (d0 : decode cc pc = .ok (.new ik, 3)) (d3 : decode cc (pc + 3) = .ok (.dup, 1)) (d4 : decode cc (pc + 4) = .ok (.ldc is, 2)) (d6 : decode cc (pc + 6) = .ok (.invokespecial ic, 3)) (d9 : decode cc (pc + 9) = .ok (.athrow, 1))
    (hout : ∀ x ∈ c.exceptionTable.toList, covers x (pc + 9) = false)
    (hRframes : names.length + 3 < R.frames) (hRlocals : (rest.map fun v => v.category).sum + (13 * (names.length + 1) + 43) ≤ R.locals) (hRcells : cells + 1 ≤ R.cells) (hRslots : slots + 6 ≤ R.slots) (hlocks : meth.locks = false)
    (hx : ∀ t : State, s.vm.Alike t.vm → H.size ≤ t.heap.size → (∀ q : Nat, q < H.size → t.heap[q]? = H[q]?) → XC cls s t)
    (hf : ∀ z ∈ locs, free z.base) (hc : cells + 1 ≤ mc) (hs : slots + 6 ≤ ms) :
    W p l e R s m args below meth c H locs cells slots (vx_MQ below Qc XC args s mc ms free) (F0 m pc ls rest) := by
  intro T hT X
  have htr : e.platform.stackTraces = false := (show e.platform.stackTraces = l.stackTraces by rw [X.admits.platform]).trans hl
  have Y := vx_rebase X (R' := { frames := R.frames, locals := R.locals, cells := 1, slots := 6 }) (Nat.le_refl _) (Nat.le_refl _) hRcells hRslots
  obtain ⟨s', hA⟩ : ∃ z, z = (T.setVm s.vm).setFrames (.invoking m args :: below) := ⟨_, rfl⟩
  rw [← hA] at Y
  have hvm : s'.vm = s.vm := by rw [hA]; rfl
  have hhp : s'.heap = H := by rw [hA]; exact hT
  have hW0 : s.WarmedH s'.vm := by rw [hvm]; exact State.WarmedH.refl s
  have hat' : ∀ w ∈ vx_atS own ic cls names, w.before args s' = true := fun w hw => vx_ot_at hW0 hvm.symm (hgood w (List.mem_cons_of_mem _ (List.mem_cons_of_mem _ hw))) (hat w hw)
  have hk' : (Cond.classLink own ik cls).before args s' = true := vx_ot_at hW0 hvm.symm (hgood _ List.mem_cons_self) hk
  have hini' : (Cond.initialized cls).before args s' = true := vx_ot_at hW0 hvm.symm (hgood _ (List.mem_cons_of_mem _ List.mem_cons_self)) hini
  have hU' : vx_Zq Bundle.tN "UNASSIGNED_STACK" Bundle.steD A s' s'.heap := by rw [hhp]; exact vx_Zq.moved hW0.alike (hU.kept hS.2.1)
  have hN' : vx_Zq Bundle.tN "SUPPRESSED_SENTINEL" Bundle.listD A s' s'.heap := by rw [hhp]; exact vx_Zq.moved hW0.alike (hN.kept hS.2.1)
  have h : ∀ w ∈ Bundle.ownAtoms own ic cls names, w.before args s' = true := vx_own hat' (vx_isRefq hU'.1) (vx_isRefq hN'.1) hU'.2.word hN'.2.word
  have hown' : s'.vm.findClass own = some m.cls := by rw [hvm]; exact hown
  have hins : (Cond.instantiable cls 6).before args s' = true := h _ (by simp [Bundle.ownAtoms])
  obtain ⟨vm₁, cX, kX, hfX, hkX, -, -, X₁, st1⟩ := Y.newCold hexec (own := own) (C := cls) (index := ik) (n := 6) hown' hk' hins hini'
    (g := F0 m pc ls rest) rfl (by rw [hb]; exact d0) (Nat.le_refl _) (Nat.le_refl _)
  generalize hT1 : (T.setVm vm₁).pushCell { cls := cX, slots := kX.instanceTypes.map defaultValue, vm := .none } = T1 at X₁ st1
  have hcat : (Value.ref T.heap.size).category = 1 := rfl
  have hcellA : T1.heap[T.heap.size]? = some (freshCell cX kX) := by rw [← hT1]; exact State.heap_pushCell_size _ _
  have d3' : decode c.code (pc + 3) = .ok (.dup, 1) := by rw [hb]; exact d3
  have d4' : decode c.code (pc + 4) = .ok (.ldc is, 2) := by rw [hb]; exact d4
  have hstr' : vk_R own is text sa s' := vk_R.warm hW0 hstr
  obtain ⟨U, hsteps, hrun, hend, hW, hsame, ce, hce, hO⟩ := X₁.ctorThrowS hexec htr (own := own) (cls := cls) (names := names) (ic := ic) hown' hcls hnames h (fun x hx => nomatch hx) hfX hkX hcellA (by rw [hhp, hT]; exact Nat.le_refl _) (msg := .ref sa) rfl
    (g := { method := m, pc := pc + 6, locals := ls, stack := .ref sa :: .ref T.heap.size :: .ref T.heap.size :: rest, locked := none }) rfl hsize rfl rfl (rest := rest) rfl
    (by rw [hb]; exact d6) (by rw [hb]; exact d9) hout hRframes (by simp only [List.map_cons, List.sum_cons, hcat]; omega) hlocks
  obtain ⟨f1, f2⟩ := vx_frame hsame
  rw [hhp] at f1 f2
  have hWs : s.WarmedH U.vm := State.WarmedH.trans hW0 hW
  have hcl : s.vm.findClass cls = some ce.cls := by
    have h9 := hO.cls
    rw [hvm] at h9
    exact h9
  have hall : s.sameButNew ({ U with vm := s.vm } : State) locs mc ms := by
    subst hA
    obtain ⟨e1, e2⟩ := hsame
    rw [State.setFrames_setFrames] at e1
    have h2 : (T.setVm s.vm).sameButNew ({ U with vm := s.vm } : State) [] (0 + 1) (0 + 6) := ⟨e1, e2⟩
    have h3 := X.same.trans h2
    rw [List.append_nil] at h3
    exact h3.mono hc hs
  refine ⟨U, ?_, .threw T.heap.size, hrun, hend, Or.inr ⟨T.heap.size, rfl, cls, ce, locs, hx U hWs.alike f1 (fun q hq => f2 q hq (fun z hz => nomatch hz)), hce, hO.vm, hcl, hWs, hall, hf⟩⟩
  refine st1 _ ?_
  show Steps p.tables e below (T1.setTop { method := m, pc := pc + 3, locals := ls, stack := .ref T.heap.size :: rest, locked := none }) _
  jvm_step X₁.here [X₁.here.top, hexec, d3', Value.category]
  exact X₁.ldcString hexec (own := own) (text := text) (index := is) (a := sa) hown' hstr'.1 hstr'.2
    (g := { method := m, pc := pc + 4, locals := ls, stack := .ref T.heap.size :: .ref T.heap.size :: rest, locked := none }) rfl d4' _ hsteps
/-- 'throw new E("text")', the text by a wide index -/
theorem vx_throwSW {cc : ByteArray} {pc : Nat} (hexec : p.tables.exec = Jvm.exec) (hb : c.code = cc) (hl : l.stackTraces = false) {own cls text : String} {names : List String} {ik is ic mc ms sa : Nat} {A : Nat → Prop}
    (hown : s.vm.findClass own = some m.cls) (hcls : Bundle.fit cls = true) (hnames : ∀ n ∈ names, Bundle.fit n = true)
    (hk : (Cond.classLink own ik cls).before args s = true) (hini : (Cond.initialized cls).before args s = true) (hstr : vk_R own is text sa s) (hat : ∀ w ∈ vx_atS own ic cls names, w.before args s = true)
    (hgood : ∀ w ∈ Cond.classLink own ik cls :: Cond.initialized cls :: vx_atS own ic cls names, vx_ot w = true)
    (hU : vx_Zq Bundle.tN "UNASSIGNED_STACK" Bundle.steD A s s.heap) (hN : vx_Zq Bundle.tN "SUPPRESSED_SENTINEL" Bundle.listD A s s.heap) (hS : va_S A s.heap H locs) (hsize : ls.size = c.maxLocals)
    (d0 : decode cc pc = .ok (.new ik, 3)) (d3 : decode cc (pc + 3) = .ok (.dup, 1)) (d4 : decode cc (pc + 4) = .ok (.ldc_w is, 3)) (d7 : decode cc (pc + 7) = .ok (.invokespecial ic, 3)) (d10 : decode cc (pc + 10) = .ok (.athrow, 1))
    (hout : ∀ x ∈ c.exceptionTable.toList, covers x (pc + 10) = false)
    (hRframes : names.length + 3 < R.frames) (hRlocals : (rest.map fun v => v.category).sum + (13 * (names.length + 1) + 43) ≤ R.locals) (hRcells : cells + 1 ≤ R.cells) (hRslots : slots + 6 ≤ R.slots) (hlocks : meth.locks = false)
    (hx : ∀ t : State, s.vm.Alike t.vm → H.size ≤ t.heap.size → (∀ q : Nat, q < H.size → t.heap[q]? = H[q]?) → XC cls s t)
    (hf : ∀ z ∈ locs, free z.base) (hc : cells + 1 ≤ mc) (hs : slots + 6 ≤ ms) :
    W p l e R s m args below meth c H locs cells slots (vx_MQ below Qc XC args s mc ms free) (F0 m pc ls rest) := by
  intro T hT X
  have htr : e.platform.stackTraces = false := (show e.platform.stackTraces = l.stackTraces by rw [X.admits.platform]).trans hl
  have Y := vx_rebase X (R' := { frames := R.frames, locals := R.locals, cells := 1, slots := 6 }) (Nat.le_refl _) (Nat.le_refl _) hRcells hRslots
  obtain ⟨s', hA⟩ : ∃ z, z = (T.setVm s.vm).setFrames (.invoking m args :: below) := ⟨_, rfl⟩
  rw [← hA] at Y
  have hvm : s'.vm = s.vm := by rw [hA]; rfl
  have hhp : s'.heap = H := by rw [hA]; exact hT
  have hW0 : s.WarmedH s'.vm := by rw [hvm]; exact State.WarmedH.refl s
  have hat' : ∀ w ∈ vx_atS own ic cls names, w.before args s' = true := fun w hw => vx_ot_at hW0 hvm.symm (hgood w (List.mem_cons_of_mem _ (List.mem_cons_of_mem _ hw))) (hat w hw)
  have hk' : (Cond.classLink own ik cls).before args s' = true := vx_ot_at hW0 hvm.symm (hgood _ List.mem_cons_self) hk
  have hini' : (Cond.initialized cls).before args s' = true := vx_ot_at hW0 hvm.symm (hgood _ (List.mem_cons_of_mem _ List.mem_cons_self)) hini
  have hU' : vx_Zq Bundle.tN "UNASSIGNED_STACK" Bundle.steD A s' s'.heap := by rw [hhp]; exact vx_Zq.moved hW0.alike (hU.kept hS.2.1)
  have hN' : vx_Zq Bundle.tN "SUPPRESSED_SENTINEL" Bundle.listD A s' s'.heap := by rw [hhp]; exact vx_Zq.moved hW0.alike (hN.kept hS.2.1)
  have h : ∀ w ∈ Bundle.ownAtoms own ic cls names, w.before args s' = true := vx_own hat' (vx_isRefq hU'.1) (vx_isRefq hN'.1) hU'.2.word hN'.2.word
  have hown' : s'.vm.findClass own = some m.cls := by rw [hvm]; exact hown
  have hins : (Cond.instantiable cls 6).before args s' = true := h _ (by simp [Bundle.ownAtoms])
  obtain ⟨vm₁, cX, kX, hfX, hkX, -, -, X₁, st1⟩ := Y.newCold hexec (own := own) (C := cls) (index := ik) (n := 6) hown' hk' hins hini'
    (g := F0 m pc ls rest) rfl (by rw [hb]; exact d0) (Nat.le_refl _) (Nat.le_refl _)
  generalize hT1 : (T.setVm vm₁).pushCell { cls := cX, slots := kX.instanceTypes.map defaultValue, vm := .none } = T1 at X₁ st1
  have hcat : (Value.ref T.heap.size).category = 1 := rfl
  have hcellA : T1.heap[T.heap.size]? = some (freshCell cX kX) := by rw [← hT1]; exact State.heap_pushCell_size _ _
  have d3' : decode c.code (pc + 3) = .ok (.dup, 1) := by rw [hb]; exact d3
  have d4' : decode c.code (pc + 4) = .ok (.ldc_w is, 3) := by rw [hb]; exact d4
  have hstr' : vk_R own is text sa s' := vk_R.warm hW0 hstr
  obtain ⟨U, hsteps, hrun, hend, hW, hsame, ce, hce, hO⟩ := X₁.ctorThrowS hexec htr (own := own) (cls := cls) (names := names) (ic := ic) hown' hcls hnames h (fun x hx => nomatch hx) hfX hkX hcellA (by rw [hhp, hT]; exact Nat.le_refl _) (msg := .ref sa) rfl
    (g := { method := m, pc := pc + 7, locals := ls, stack := .ref sa :: .ref T.heap.size :: .ref T.heap.size :: rest, locked := none }) rfl hsize rfl rfl (rest := rest) rfl
    (by rw [hb]; exact d7) (by rw [hb]; exact d10) hout hRframes (by simp only [List.map_cons, List.sum_cons, hcat]; omega) hlocks
  obtain ⟨f1, f2⟩ := vx_frame hsame
  rw [hhp] at f1 f2
  have hWs : s.WarmedH U.vm := State.WarmedH.trans hW0 hW
  have hcl : s.vm.findClass cls = some ce.cls := by
    have h9 := hO.cls
    rw [hvm] at h9
    exact h9
  have hall : s.sameButNew ({ U with vm := s.vm } : State) locs mc ms := by
    subst hA
    obtain ⟨e1, e2⟩ := hsame
    rw [State.setFrames_setFrames] at e1
    have h2 : (T.setVm s.vm).sameButNew ({ U with vm := s.vm } : State) [] (0 + 1) (0 + 6) := ⟨e1, e2⟩
    have h3 := X.same.trans h2
    rw [List.append_nil] at h3
    exact h3.mono hc hs
  refine ⟨U, ?_, .threw T.heap.size, hrun, hend, Or.inr ⟨T.heap.size, rfl, cls, ce, locs, hx U hWs.alike f1 (fun q hq => f2 q hq (fun z hz => nomatch hz)), hce, hO.vm, hcl, hWs, hall, hf⟩⟩
  refine st1 _ ?_
  show Steps p.tables e below (T1.setTop { method := m, pc := pc + 3, locals := ls, stack := .ref T.heap.size :: rest, locked := none }) _
  jvm_step X₁.here [X₁.here.top, hexec, d3', Value.category]
  exact X₁.ldcStringW hexec (own := own) (text := text) (index := is) (a := sa) hown' hstr'.1 hstr'.2
    (g := { method := m, pc := pc + 4, locals := ls, stack := .ref T.heap.size :: .ref T.heap.size :: rest, locked := none }) rfl d4' _ hsteps
end Ends
section Bodies
variable {l : Launch}
theorem vx_ofW {y : MethodName} {ws ws' : List Cond} {rm : Room} {Pc : Array Value → State → Prop} {Qc : Array Value → State → Outcome → State → Prop} {XC : String → State → State → Prop} {mc ms : Nat} {free : Addr → Prop} {cc : ByteArray} {maxL : Nat} {ret : Option FieldType}
    (hy : plainName y.cls = true) (hw : ws = Cond.code y cc maxL ret :: ws')
    (body : ∀ p e s m args below meth c s₁, BodyLoose p l y (headSpec ws rm) cc maxL ret e s m args below meth c s₁ → c.maxLocals = maxL → (∀ x ∈ c.exceptionTable.toList, False) → Pc args s →
      W p l e (headSpec ws rm).room s m args below meth c s.heap [] 0 0 (vx_MQ below Qc XC args s mc ms free) (entryFrame m args maxL)) : vx_Met l y ws rm Pc Qc XC mc ms free := by
  refine MetFree.of_bodyS (code := cc) (maxLocals := maxL) (ret := ret) hy ?_ ?_
  · intro args s m h hn
    obtain ⟨meth, c, h1, h2, h3, h4, h5, h6, -, -⟩ := Cond.code_spec hn (atoms_spec (ws := ws) h _ (by rw [hw]; exact List.mem_cons_self))
    exact ⟨meth, c, h1, h2, h3, h4, h5, h6⟩
  · intro p e s m args below meth c s₁ B hml hP _
    have hh0 : s₁.heap = s.heap := by rw [B.state]; rfl
    have ht : ∀ x ∈ c.exceptionTable.toList, False := by
      obtain ⟨meth9, c9, h1, h2, -, -, -, -, h7, -⟩ := Cond.code_spec B.named (atoms_spec (ws := ws) B.pre _ (by rw [hw]; exact List.mem_cons_self))
      cases Option.some.inj (h1.symm.trans B.method)
      cases Option.some.inj (h2.symm.trans (Stand.of_body B).code)
      intro x hx
      rw [Array.isEmpty_iff.mp h7] at hx
      cases hx
    obtain ⟨t, a1, o, b1, b2, b3⟩ := body p e s m args below meth c s₁ B hml ht hP s₁ hh0 (Stand.of_body B)
    exact ⟨t, o, a1, b1, b2, b3⟩
/-- the table of a body with handlers -/
theorem vx_table {p : Program} {x y : MethodName} {S : Spec} {cc bytes : ByteArray} {maxL maxL' : Nat} {ret ret' : Option FieldType} {e : Env} {s s₁ : State} {m : MethodId} {args : Array Value} {below : List Frame} {meth : Method} {c : Code} {hh : List (Nat × Nat × Nat × Nat)}
    (B : BodyLoose p l y S cc maxL ret e s m args below meth c s₁) (h : (Cond.codeWith y bytes maxL' ret' hh).before args s = true) : c.exceptionTable.toList = tableOf hh := by
  obtain ⟨m9, meth9, c9, hn9, h1, h2, -, -, h6, -⟩ := Cond.codeWith_spec h
  cases Option.some.inj (hn9.symm.trans B.named)
  cases Option.some.inj (h1.symm.trans B.method)
  cases Option.some.inj (h2.symm.trans (Stand.of_body B).code)
  rw [← h6, table_eq]
end Bodies
end VXA
/-! ===== END ===== -/
/-! ===== BEGIN a static call of a method with an exception table ===== -/
section VXS
variable {p : Program} {l : Launch} {e : Env} {R : Room} {s : State} {m : MethodId} {args : Array Value} {below : List Frame} {meth : Method} {c : Code} {T : State} {H : Heap} {locs : List Loc} {cells slots : Nat}
abbrev vx_CSW (R : Room) (s : State) (args : Array Value) (own : String) (index : Nat) (y : MethodName) (bytes : ByteArray) (maxL : Nat) (ret : Option FieldType) (hh : List (Nat × Nat × Nat × Nat)) (ws : List Cond) (rm : Room) (mc ms n : Nat) : Prop :=
  (rm.cells = mc ∧ rm.slots = ms ∧ rm.frames + 1 ≤ R.frames ∧ 8 + (maxL + 11) + rm.locals ≤ R.locals ∧ (∀ w ∈ ws, ∀ (a' : Array Value) (U : State), s.WarmedH U.vm → w.before a' U = true) ∧ Cond.codeWith y bytes maxL ret hh ∈ ws) ∧
  (Cond.codeWith y bytes maxL ret hh).before args s = true ∧ (Cond.initialized y.cls).before args s = true ∧ (y.cls ≠ "java/lang/invoke/MethodHandle" ∧ y.cls ≠ "java/lang/invoke/VarHandle") ∧
  (∀ sig, parseMethodDescriptor y.desc = some sig → n = sig.parameters.length) ∧ (Cond.methodLink own index y).before args s = true ∧ (Cond.static y).before args s = true
theorem vx_cwSW {own : String} {index maxL mc ms : Nat} {y : MethodName} {bytes : ByteArray} {ret : Option FieldType} {hh : List (Nat × Nat × Nat × Nat)} {Ts ws ws' : List Cond} {rm : Room} (n : Nat) (ht : ∀ w ∈ Ts, w.before args s = true) (hT : GoodIn Ts (va_wsS own index y ws)) (hw : ws = Cond.codeWith y bytes maxL ret hh :: ws') (hrc : rm.cells = mc) (hrs : rm.slots = ms)
    (hd : y.cls ≠ "java/lang/invoke/MethodHandle" ∧ y.cls ≠ "java/lang/invoke/VarHandle" ∧ (parseMethodDescriptor y.desc).map (fun d => d.parameters.length) = some n) (hR : rm.frames + 1 ≤ R.frames ∧ 8 + (maxL + 11) + rm.locals ≤ R.locals) :
    vx_CSW R s args own index y bytes maxL ret hh ws rm mc ms n := by
  have ok : ∀ w ∈ va_wsS own index y ws, w.before args s = true := fun w h => ht w (hT w h).1
  have hG : GoodIn Ts ws := fun w h => hT w (by unfold va_wsS; exact List.mem_append_right _ h)
  have hc : Cond.codeWith y bytes maxL ret hh ∈ ws := by rw [hw]; exact List.mem_cons_self
  refine ⟨⟨hrc, hrs, hR.1, hR.2, pay_in ht hG, hc⟩, ht _ (hG _ hc).1, ok _ (by simp [va_wsS]), ⟨hd.1, hd.2.1⟩, fun sig h => ?_, ok _ (by simp [va_wsS]), ok _ (by simp [va_wsS])⟩
  have h2 := hd.2.2
  rw [h] at h2
  exact (Option.some.inj h2).symm
theorem vx_callSW (X : Stand p l e R s m args below meth c T locs cells slots) (hexec : p.tables.exec = Jvm.exec) {own : String} {index : Nat} {y : MethodName} {bytes : ByteArray} {maxL : Nat} {ret : Option FieldType} {hh : List (Nat × Nat × Nat × Nat)}
    (hown : s.vm.findClass own = some m.cls) (hlink : (Cond.methodLink own index y).before args s = true) (hstat : (Cond.static y).before args s = true) (hinit : (Cond.initialized y.cls).before args s = true)
    (hcode : (Cond.codeWith y bytes maxL ret hh).before args s = true) (hy : y.cls ≠ "java/lang/invoke/MethodHandle" ∧ y.cls ≠ "java/lang/invoke/VarHandle")
    {W9 : Nat} {Pre : Pt → Array Value → Prop} {Post : Pt → Array Value → Option Value → Pt → Prop} (hK : Back l R p e below s args y 3 W9 Pre Post)
    {g : JFrame} (hg : g.method = m) (hsize : g.locals.size = c.maxLocals) {argsL rest : List Value} (hlen : ∀ sig, parseMethodDescriptor y.desc = some sig → argsL.length = sig.parameters.length)
    (hstack : g.stack = argsL.reverse ++ rest) (hW : 2 * g.monitorRoom + (rest.map fun v => v.category).sum ≤ W9) (hdg : decode c.code g.pc = .ok (.invokestatic index, 3))
    (hpre : ∀ vm₁, s.WarmedH vm₁ → Pre ⟨T.setVm vm₁, locs, cells, slots⟩ argsL.toArray) :
    ∃ (v : Option Value) (vm₁ : Vm) (B : Pt), s.WarmedH vm₁ ∧ Stand p l e R s m args below meth c B.U B.locs B.cells B.slots ∧ Post ⟨T.setVm vm₁, locs, cells, slots⟩ argsL.toArray v B ∧
      ∀ target, Steps p.tables e below (B.U.setTop { g with pc := g.pc + 3, stack := v.toList ++ rest }) target → Steps p.tables e below (T.setTop g) target := by
  obtain ⟨mk, methM, cM, hnamed, hmethM, -, -, -, -, -, -, hsigM⟩ := Cond.codeWith_spec hcode
  have hstatic : methM.isStatic = true := Cond.static_spec hnamed hmethM hstat
  obtain ⟨kP, hkP, -⟩ := className_of_methodNamed hnamed
  have hinitP : kP.init = .initialized := Cond.initialized_spec (findClass_of_methodNamed hnamed) hkP hinit
  obtain ⟨vm₁, X₁, hstep₁⟩ := X.invokestatic hexec hown hlink hnamed hmethM hstatic hkP hinitP hy (g := g) hg (argsL := argsL) (rest := rest) (hlen _ hsigM) hstack hdg
  obtain ⟨v, B, X', hpost, hsteps⟩ := hK m meth c ⟨T.setVm vm₁, locs, cells, slots⟩ { g with stack := rest } (.invokestatic index) mk argsL.toArray X₁ hg hsize hdg hW (X₁.named hnamed) (hpre vm₁ X₁.warmed)
  exact ⟨v, vm₁, B, X₁.warmed, X', hpost, fun target h => hstep₁ _ fun acts => by rw [doInvoke_state]; exact hsteps.trans h⟩
theorem vx_runSW {y : MethodName} {bytes cc : ByteArray} {maxL nL mc ms n index : Nat} {ret : Option FieldType} {hh : List (Nat × Nat × Nat × Nat)} {ws : List Cond} {rm : Room} {Pc : Array Value → State → Prop} {Qc : Array Value → State → Outcome → State → Prop} {free : Addr → Prop} {Ts : List Cond} {own : String} {As rest : List Value} {g : JFrame}
    (S : CallFix p m c cc nL s args Ts own) (hM : Met l y ws rm Pc Qc mc ms free) (cw : vx_CSW R s args own index y bytes maxL ret hh ws rm mc ms n) (hp : PreS s H Pc As)
    (hg : g.method = m) (hn : As.length = n) (hsize : g.locals.size = nL) (hstack : g.stack = As.reverse ++ rest) (hW : 2 * g.monitorRoom + (rest.map fun v => v.category).sum ≤ 8) (hdg : decode cc g.pc = .ok (.invokestatic index, 3)) (hf : cells + mc ≤ R.cells ∧ slots + ms ≤ R.slots) :
    va_Run p l e R s m args below meth c H locs cells slots mc ms g rest (Qc As.toArray) (free) := by
  obtain ⟨⟨hrc, hrs, hfr, hlo, hws, hcw⟩, hcode, hini, hy, hlen, hl, hstt⟩ := cw
  have hK : Back l R p e below s args y 3 8 (PreOf R mc ms Pc) (PostOf Qc mc ms free) := va_backW (hh := hh) (bytes := bytes) (maxL := maxL) (ret := ret) hM hp.1 hrc hrs hfr hlo hws hcw (fun a' U hW => word_at hW (Or.inl (by first | rfl | simp [Cond.onTables, Cond.keeps, Cond.steady])) hini)
  obtain ⟨hx, hb, hml, ho, -⟩ := S
  intro T hT X
  obtain ⟨v, vm₁, ⟨U', l2, c2, s2⟩, hW₁, X', ⟨g', mk, t, L, e1, e2, hq, h1, hL, h2, h3⟩, st⟩ := vx_callSW X hx (hh := hh) (bytes := bytes) (maxL := maxL) (ret := ret) ho hl hstt hini hcode hy hK hg (hsize.trans hml.symm) (argsL := As) (rest := rest) (fun sig h => hn.trans (hlen sig h)) hstack hW (by rw [hb]; exact hdg)
    (fun vm₁ hW₁ => ⟨hf.1, hf.2, hp.2 (T.setVm vm₁) hT hW₁⟩)
  dsimp only [Pt.U, Pt.locs, Pt.cells, Pt.slots] at X' e1 e2 h1 h2 h3 st
  subst h1; subst h2; subst h3
  exact ⟨v, (T.setVm vm₁).calling g' mk As.toArray, t, U', L, hT, X', hL, e1, e2, hq, st⟩
/-- not caught here, past rows that name other classes: it goes on to the caller -/
theorem vx_outP {p : Program} {l : Launch} {e : Env} {R : Room} {s : State} {m : MethodId} {args : Array Value} {below : List Frame} {meth : Method} {c : Code} {H : Heap} {locs : List Loc} {cells slots : Nat} {free : Addr → Prop} {ls : Array Slot} {rest : List Value} {Qc : Array Value → State → Outcome → State → Prop} {XC : String → State → State → Prop}
    {pc : Nat} {own E : String} {ce : Cell} {q : Addr} {mc ms : Nat} (hown : s.vm.findClass own = some m.cls) (hlocks : meth.locks = false)
    (hpass : ∀ z ∈ c.exceptionTable.toList, covers z pc = false ∨ (z.catchType ≠ 0 ∧ ∃ nm : String, (Cond.classLink own z.catchType nm).before args s = true ∧ va_Nc E nm s)) (hcell : H[q]? = some ce) (hv : ce.vm = .none) (hcl : s.vm.findClass E = some ce.cls)
    (hx : ∀ t : State, t.heap = H → s.vm.Alike t.vm → XC E s t) (hf : ∀ z ∈ locs, free z.base) (hc : cells ≤ mc) (hs : slots ≤ ms) :
    vx_W p l e R s m args below meth c H locs cells slots (vx_MQ below Qc XC args s mc ms free) (F0 m pc ls rest) q := by
  intro T hT X
  have hpl : e.platform.magicAccessors = ({} : Platform).magicAccessors := by rw [X.admits.platform]
  obtain ⟨vm', hW', X', st⟩ := X.outThrough hlocks q (g := F0 m pc ls rest) rfl rfl rfl (cell := ce) (by rw [hT]; exact hcell) (by rw [hv]; rfl)
    (by obtain ⟨k9, h9, -⟩ := Vm.findClass_spec hcl; exact ⟨k9, h9⟩) (fun z hz => by
      rcases hpass z hz with h | ⟨hz0, nm, hl1, hn1⟩
      · exact Or.inl h
      · obtain ⟨c6, hc6, hcl6⟩ := Cond.classLink_spec hown hl1 e.platform hpl
        obtain ⟨a8, b8, h1, h2, h3⟩ := hn1
        cases Option.some.inj (h1.symm.trans hcl)
        cases Option.some.inj (h2.symm.trans hc6)
        exact Or.inr ⟨hz0, _, hcl6, h3⟩)
  obtain ⟨g₀, hfr⟩ := X'.frames_eq
  have hcell9 : ((T.setVm vm').setFrames (.throwing q :: below)).heap[q]? = some ce := by
    show T.heap[q]? = some ce
    rw [hT]; exact hcell
  have hend : Ended ((T.setVm vm').setFrames (.throwing q :: below)) below (.threw q) := State.frames_setFrames _ (State.cur_lt_of_frames hfr)
  refine ⟨(T.setVm vm').setFrames (.throwing q :: below), ?_, .threw q, X'.here.running, hend, Or.inr ⟨q, rfl, E, ce, locs, hx _ hT (X'.ends _).1.alike, hcell9, hv, hcl, (X'.ends _).1, (X'.ends _).2.mono hc hs, hf⟩⟩
  rw [X.pushThrowing_eq]
  exact st
/-- a thing of a world lies in the heap -/
theorem vx_lt {D : va_G} {cl : List vw_C} {ws : va_W} {H1 : Heap} (h : va_P D cl ws H1) {k : Nat} {q : Nat × va_E} (hk : ws[k]? = some q) : q.1 < H1.size := (h k q hk).lt
end VXS
/-! ===== END ===== -/
/-! ===== BEGIN methods with a table of their own: called by a name, returning or throwing ===== -/
section VXH
/-! vx_backW, vx_callVX, vx_callSX, vx_callVW, vx_runVW, vx_runVX, vx_runSX, vx_ofWH follow the same proofs as their sisters above (Free/Laws.lean, Shelf42/LK1.lean); vx_outP calls Shelf42/NT130.lean (outThrough). -/
section
variable {l : Launch} {R : Room} {p : Program} {e : Env} {below : List Frame} {s : State} {sargs : Array Value} {y : MethodName} {len W9 : Nat}
theorem vx_backW {ws : List Cond} {rm : Room} {Pc : Array Value → State → Prop} {Qc : Array Value → State → Outcome → State → Prop} {XC : String → State → State → Prop} {mc ms : Nat} {free : Addr → Prop} {bytes : ByteArray} {maxL : Nat} {ret : Option FieldType} {hh : List (Nat × Nat × Nat × Nat)}
    (hM : vx_Met l y ws rm Pc Qc XC mc ms free) (hblind : FrameBlind Pc) (hrc : rm.cells = mc) (hrs : rm.slots = ms)
    (hframes : rm.frames + 1 ≤ R.frames) (hlocals : W9 + (maxL + 11) + rm.locals ≤ R.locals)
    (hws : ∀ w ∈ ws, ∀ a' U, s.WarmedH U.vm → w.before a' U = true) (hcode : Cond.codeWith y bytes maxL ret hh ∈ ws) (hinit : ∀ a' U, s.WarmedH U.vm → (Cond.initialized y.cls).before a' U = true) :
    vx_Back l R p e below s sargs y len W9 (PreOf R mc ms Pc) (PostOf Qc mc ms free) (vx_Post XC mc ms free) := by
  intro m meth c A g ig mk a X hg hsize hdg hW hn hp
  have h1 : (headSpec ws rm).pre.before a A.U = true := atoms_intro fun w hw => hws w hw _ _ X.warmed
  have h2 : (Cond.codeWith y bytes maxL ret hh).before a A.U = true := hws _ hcode _ _ X.warmed
  have h3 : (Cond.initialized y.cls).before a A.U = true := hinit _ _ X.warmed
  have h4 : A.cells + (headSpec ws rm).room.cells ≤ R.cells := by rw [show (headSpec ws rm).room.cells = mc from hrc]; exact hp.1
  have h5 : A.slots + (headSpec ws rm).room.slots ≤ R.slots := by rw [show (headSpec ws rm).room.slots = ms from hrs]; exact hp.2.1
  have hPc : Pc a (A.U.calling g mk a) := hblind _ _ _ _ hp.2.2
  obtain ⟨U, Ls, c0, s0⟩ := A
  dsimp only [Pt.U, Pt.locs, Pt.cells, Pt.slots] at h1 h2 h3 h4 h5 X hn hPc ⊢
  obtain ⟨m9, methY, cY, hn9, hmY, hcY, -, hlY, -⟩ := Cond.codeWith_spec h2
  cases Option.some.inj (hn9.symm.trans hn)
  obtain ⟨kY, hkY, -⟩ := className_of_methodNamed hn
  have hinitY : kY.init = .initialized := Cond.initialized_spec (findClass_of_methodNamed hn) hkY h3
  have h : At U g.method c below := by rw [hg]; exact X.here
  have hlocals9 : W9 + (maxL + 11) + (headSpec ws rm).room.locals ≤ R.locals := hlocals
  have happ : (headSpec ws rm).appliesLoose y e.platform (U.calling g mk a) = true :=
    Spec.appliesLoose_calling (g := g) h hdg hn hkY hinitY
      (X.room_calling (g := g) (R' := (headSpec ws rm).room) hsize hmY hcY hframes (by rw [hlY]; omega) h4 h5) h1
  obtain ⟨mid, hmid⟩ := h.above
  have hfr : (U.setTop g).frames = (.java g :: mid) ++ below := by rw [State.frames_setTop' g h.top, hmid]; rfl
  obtain ⟨o, s₂, hsteps, -, hend, hq⟩ := Steps.callFree hM p X.admits X.cas X.clock (acts := []) hfr happ hPc trivial
  have hq' : vx_Q Qc XC mc ms free a (U.calling g mk a) o s₂ := hq
  rw [State.frames_setTop' g h.top] at hend
  obtain ⟨g₀, hg0⟩ := Option.isSome_iff_exists.mp h.top
  obtain ⟨r, hr⟩ := State.topJava?_eq_some.mp hg0
  have hr' : (({ U with heap := s₂.heap, slotsUsed := s₂.slotsUsed } : State).setVm s₂.vm).frames = .java g₀ :: r := hr
  rcases hq' with ⟨hqc, L, hfe, hL⟩ | ⟨q, rfl, E, ce, L, hx, hce, hcv, hcl, hW₂, hsm, hL⟩
  · obtain ⟨⟨v, rfl⟩, hW₂, e2, q2, q3, q4, q5, q6⟩ := id hfe
    have e3 : s₂ = ({ (U.calling g mk a).setFrames s₂.frames with heap := s₂.heap, slotsUsed := s₂.slotsUsed } : State).setVm s₂.vm := by
      have : s₂ = ({ s₂ with vm := (U.calling g mk a).vm } : State).setVm s₂.vm := rfl
      rw [e2] at this
      exact this
    obtain ⟨c₂, i₂, len₂, hc₂, hd₂, hf₂⟩ := hend
    have hW' : U.WarmedH s₂.vm := hW₂
    have hcc : c₂ = c := by
      have h1 : s₂.code? g.method = U.code? g.method := by
        rw [State.code?_eq, State.code?_eq, hW'.alike.method?]
      exact Option.some.inj (hc₂.symm.trans (h1.trans h.code))
    subst hcc
    have hlen : len₂ = len := by rw [hdg] at hd₂; cases hd₂; rfl
    subst hlen
    have hs₂ : s₂ = (({ U with heap := s₂.heap, slotsUsed := s₂.slotsUsed } : State).setVm s₂.vm).setTop { g with pc := g.pc + len₂, stack := v.toList ++ g.stack } := by
      refine e3.trans ?_
      rw [hf₂, State.calling_eq h.top, State.setFrames_setFrames, State.setTop_of_frames _ hr', hr]
      rfl
    have hsame : U.sameButNew ({ U with heap := s₂.heap, slotsUsed := s₂.slotsUsed } : State) L mc ms := by
      refine ⟨?_, q2, q3, q4, q5, q6⟩
      obtain ⟨t, ht, -⟩ := State.frames_cons hr
      show ({ U with heap := s₂.heap, slotsUsed := s₂.slotsUsed } : State) = { U.setFrames U.frames with heap := s₂.heap, slotsUsed := s₂.slotsUsed }
      rw [State.setFrames_self ht]
    subst hg
    refine Or.inl ⟨v, ⟨(({ U with heap := s₂.heap, slotsUsed := s₂.slotsUsed } : State).setVm s₂.vm), Ls ++ L, c0 + mc, s0 + ms⟩,
      ⟨X.admits, X.cas, X.clock, X.frames, X.room, X.hears, X.method, X.code, (X.here.setHeapUsed s₂.heap s₂.slotsUsed).setVm hW'.alike, X.tail, State.WarmedH.trans X.warmed hW', X.limits, X.bytes, X.same.trans (hsame.setVm s.vm)⟩,
      ⟨g, mk, s₂, L, rfl, rfl, hqc, rfl, hL, rfl, rfl⟩, ?_⟩
    show Steps p.tables e below _ ((({ U with heap := s₂.heap, slotsUsed := s₂.slotsUsed } : State).setVm s₂.vm).setTop { g with pc := g.pc + len₂, stack := v.toList ++ g.stack })
    rw [← hs₂]
    exact hsteps
  · obtain ⟨e2, q2, q3, q4, q5, q6⟩ := id hsm
    have e3 : s₂ = ({ (U.calling g mk a).setFrames s₂.frames with heap := s₂.heap, slotsUsed := s₂.slotsUsed } : State).setVm s₂.vm := by
      have : s₂ = ({ s₂ with vm := (U.calling g mk a).vm } : State).setVm s₂.vm := rfl
      rw [e2] at this
      exact this
    have hf₂ : s₂.frames = .throwing q :: .java g :: U.frames.tail := hend
    have hW' : U.WarmedH s₂.vm := hW₂
    have hs₂ : s₂ = ((({ U with heap := s₂.heap, slotsUsed := s₂.slotsUsed } : State).setVm s₂.vm).setTop g).pushFrame (.throwing q) := by
      refine e3.trans ?_
      rw [hf₂, State.calling_eq h.top, State.setFrames_setFrames, State.pushFrame, State.frames_setTop _ hr', State.setTop_of_frames _ hr', State.setFrames_setFrames, hr]
      rfl
    have hsame : U.sameButNew ({ U with heap := s₂.heap, slotsUsed := s₂.slotsUsed } : State) L mc ms := by
      refine ⟨?_, q2, q3, q4, q5, q6⟩
      obtain ⟨t, ht, -⟩ := State.frames_cons hr
      show ({ U with heap := s₂.heap, slotsUsed := s₂.slotsUsed } : State) = { U.setFrames U.frames with heap := s₂.heap, slotsUsed := s₂.slotsUsed }
      rw [State.setFrames_self ht]
    subst hg
    refine Or.inr ⟨q, ⟨(({ U with heap := s₂.heap, slotsUsed := s₂.slotsUsed } : State).setVm s₂.vm), Ls ++ L, c0 + mc, s0 + ms⟩,
      ⟨X.admits, X.cas, X.clock, X.frames, X.room, X.hears, X.method, X.code, (X.here.setHeapUsed s₂.heap s₂.slotsUsed).setVm hW'.alike, X.tail, State.WarmedH.trans X.warmed hW', X.limits, X.bytes, X.same.trans (hsame.setVm s.vm)⟩,
      ⟨g, mk, s₂, L, E, ce, rfl, rfl, hx, hce, hcv, hcl, rfl, hL, rfl, rfl⟩, ?_⟩
    show Steps p.tables e below _ (((({ U with heap := s₂.heap, slotsUsed := s₂.slotsUsed } : State).setVm s₂.vm).setTop g).pushFrame (.throwing q))
    rw [← hs₂]
    exact hsteps
end
variable {p : Program} {l : Launch} {e : Env} {R : Room} {s : State} {m : MethodId} {args : Array Value} {below : List Frame} {meth : Method} {c : Code} {T : State} {H : Heap} {locs : List Loc} {cells slots : Nat}
theorem vx_callVX (X : Stand p l e R s m args below meth c T locs cells slots) (hexec : p.tables.exec = Jvm.exec) {own C : String} {index : Nat} {y : MethodName} {bytes : ByteArray} {maxL : Nat} {ret : Option FieldType} {hh : List (Nat × Nat × Nat × Nat)}
    (hown : s.vm.findClass own = some m.cls) (hlink : (Cond.methodLink own index y).before args s = true) (hinst : (Cond.instanceMethod y).before args s = true) (hsel : (Cond.selects C y y).before args s = true)
    (hcode : (Cond.codeWith y bytes maxL ret hh).before args s = true) (hy : y.cls ≠ "java/lang/invoke/MethodHandle" ∧ y.cls ≠ "java/lang/invoke/VarHandle")
    {W9 : Nat} {Pre : Pt → Array Value → Prop} {Post : Pt → Array Value → Option Value → Pt → Prop} {PostX : Pt → Array Value → Addr → Pt → Prop} (hK : vx_Back l R p e below s args y 3 W9 Pre Post PostX)
    {b : Addr} {cellB : Cell} (hcell : T.heap[b]? = some cellB) (hobj : cellB.vm.isStatics = false) (hcls : s.vm.findClass C = some cellB.cls)
    {g : JFrame} (hg : g.method = m) (hsize : g.locals.size = c.maxLocals) {argsL rest : List Value} (hlen : ∀ sig, parseMethodDescriptor y.desc = some sig → argsL.length = sig.parameters.length)
    (hstack : g.stack = argsL.reverse ++ .ref b :: rest) (hW : 2 * g.monitorRoom + (rest.map fun v => v.category).sum ≤ W9) (hdg : decode c.code g.pc = .ok (.invokevirtual index, 3))
    (hpre : ∀ vm₁, s.WarmedH vm₁ → Pre ⟨T.setVm vm₁, locs, cells, slots⟩ (Value.ref b :: argsL).toArray) :
    (∃ (v : Option Value) (vm₁ : Vm) (B : Pt), s.WarmedH vm₁ ∧ Stand p l e R s m args below meth c B.U B.locs B.cells B.slots ∧ Post ⟨T.setVm vm₁, locs, cells, slots⟩ (Value.ref b :: argsL).toArray v B ∧
      ∀ target, Steps p.tables e below (B.U.setTop { g with pc := g.pc + 3, stack := v.toList ++ rest }) target → Steps p.tables e below (T.setTop g) target) ∨
    (∃ (q : Addr) (vm₁ : Vm) (B : Pt), s.WarmedH vm₁ ∧ Stand p l e R s m args below meth c B.U B.locs B.cells B.slots ∧ PostX ⟨T.setVm vm₁, locs, cells, slots⟩ (Value.ref b :: argsL).toArray q B ∧
      Steps p.tables e below (T.setTop g) ((B.U.setTop { g with stack := rest }).pushFrame (.throwing q))) := by
  obtain ⟨mk, methM, hnamed, hmethM, hstM, habM⟩ := Cond.instanceMethod_spec hinst
  obtain ⟨m8, methM', cM, hn8, hmethM', -, -, -, -, -, -, hsigM⟩ := Cond.codeWith_spec hcode
  cases Option.some.inj (hn8.symm.trans hnamed)
  cases hmethM.symm.trans hmethM'
  obtain ⟨c2, r2, m2, q1, q2, q3, q4, kP, hkP, hkPi⟩ := Cond.selects_spec hsel
  cases hcls.symm.trans q1
  cases (State.methodFound?_of_named hnamed hy).symm.trans q2
  cases hnamed.symm.trans q3
  have hselP : selectMethod e.platform s.vm cellB.cls mk = .method mk := by rw [Launch.admits_selectMethod X.admits]; exact q4
  obtain ⟨vm₁, X₁, hstep₁⟩ := X.invokevirtual hexec hown hlink hnamed hmethM hstM hkP hkPi hy (a := b) (cell := cellB) hcell
    (fun z h => by rw [h] at hobj; cases hobj) hselP hmethM habM hkP hkPi (g := g) hg (argsL := argsL) (rest := rest) (hlen _ hsigM) hstack hdg
  rcases hK m meth c ⟨T.setVm vm₁, locs, cells, slots⟩ { g with stack := rest } (.invokevirtual index) mk (Value.ref b :: argsL).toArray X₁ hg hsize hdg hW (X₁.named hnamed) (hpre vm₁ X₁.warmed) with ⟨v, B, X', hpost, hsteps⟩ | ⟨q, B, X', hpost, hsteps⟩
  · exact Or.inl ⟨v, vm₁, B, X₁.warmed, X', hpost, fun target h => hstep₁ _ fun acts => by rw [doInvoke_state]; exact hsteps.trans h⟩
  · exact Or.inr ⟨q, vm₁, B, X₁.warmed, X', hpost, hstep₁ _ fun acts => by rw [doInvoke_state]; exact hsteps⟩
theorem vx_callSX (X : Stand p l e R s m args below meth c T locs cells slots) (hexec : p.tables.exec = Jvm.exec) {own : String} {index : Nat} {y : MethodName} {bytes : ByteArray} {maxL : Nat} {ret : Option FieldType} {hh : List (Nat × Nat × Nat × Nat)}
    (hown : s.vm.findClass own = some m.cls) (hlink : (Cond.methodLink own index y).before args s = true) (hstat : (Cond.static y).before args s = true) (hinit : (Cond.initialized y.cls).before args s = true)
    (hcode : (Cond.codeWith y bytes maxL ret hh).before args s = true) (hy : y.cls ≠ "java/lang/invoke/MethodHandle" ∧ y.cls ≠ "java/lang/invoke/VarHandle")
    {W9 : Nat} {Pre : Pt → Array Value → Prop} {Post : Pt → Array Value → Option Value → Pt → Prop} {PostX : Pt → Array Value → Addr → Pt → Prop} (hK : vx_Back l R p e below s args y 3 W9 Pre Post PostX)
    {g : JFrame} (hg : g.method = m) (hsize : g.locals.size = c.maxLocals) {argsL rest : List Value} (hlen : ∀ sig, parseMethodDescriptor y.desc = some sig → argsL.length = sig.parameters.length)
    (hstack : g.stack = argsL.reverse ++ rest) (hW : 2 * g.monitorRoom + (rest.map fun v => v.category).sum ≤ W9) (hdg : decode c.code g.pc = .ok (.invokestatic index, 3))
    (hpre : ∀ vm₁, s.WarmedH vm₁ → Pre ⟨T.setVm vm₁, locs, cells, slots⟩ argsL.toArray) :
    (∃ (v : Option Value) (vm₁ : Vm) (B : Pt), s.WarmedH vm₁ ∧ Stand p l e R s m args below meth c B.U B.locs B.cells B.slots ∧ Post ⟨T.setVm vm₁, locs, cells, slots⟩ argsL.toArray v B ∧
      ∀ target, Steps p.tables e below (B.U.setTop { g with pc := g.pc + 3, stack := v.toList ++ rest }) target → Steps p.tables e below (T.setTop g) target) ∨
    (∃ (q : Addr) (vm₁ : Vm) (B : Pt), s.WarmedH vm₁ ∧ Stand p l e R s m args below meth c B.U B.locs B.cells B.slots ∧ PostX ⟨T.setVm vm₁, locs, cells, slots⟩ argsL.toArray q B ∧
      Steps p.tables e below (T.setTop g) ((B.U.setTop { g with stack := rest }).pushFrame (.throwing q))) := by
  obtain ⟨mk, methM, cM, hnamed, hmethM, -, -, -, -, -, -, hsigM⟩ := Cond.codeWith_spec hcode
  have hstatic : methM.isStatic = true := Cond.static_spec hnamed hmethM hstat
  obtain ⟨kP, hkP, -⟩ := className_of_methodNamed hnamed
  have hinitP : kP.init = .initialized := Cond.initialized_spec (findClass_of_methodNamed hnamed) hkP hinit
  obtain ⟨vm₁, X₁, hstep₁⟩ := X.invokestatic hexec hown hlink hnamed hmethM hstatic hkP hinitP hy (g := g) hg (argsL := argsL) (rest := rest) (hlen _ hsigM) hstack hdg
  rcases hK m meth c ⟨T.setVm vm₁, locs, cells, slots⟩ { g with stack := rest } (.invokestatic index) mk argsL.toArray X₁ hg hsize hdg hW (X₁.named hnamed) (hpre vm₁ X₁.warmed) with ⟨v, B, X', hpost, hsteps⟩ | ⟨q, B, X', hpost, hsteps⟩
  · exact Or.inl ⟨v, vm₁, B, X₁.warmed, X', hpost, fun target h => hstep₁ _ fun acts => by rw [doInvoke_state]; exact hsteps.trans h⟩
  · exact Or.inr ⟨q, vm₁, B, X₁.warmed, X', hpost, hstep₁ _ fun acts => by rw [doInvoke_state]; exact hsteps⟩
theorem vx_callVW (X : Stand p l e R s m args below meth c T locs cells slots) (hexec : p.tables.exec = Jvm.exec) {own C : String} {index : Nat} {y : MethodName} {bytes : ByteArray} {maxL : Nat} {ret : Option FieldType} {hh : List (Nat × Nat × Nat × Nat)}
    (hown : s.vm.findClass own = some m.cls) (hlink : (Cond.methodLink own index y).before args s = true) (hinst : (Cond.instanceMethod y).before args s = true) (hsel : (Cond.selects C y y).before args s = true)
    (hcode : (Cond.codeWith y bytes maxL ret hh).before args s = true) (hy : y.cls ≠ "java/lang/invoke/MethodHandle" ∧ y.cls ≠ "java/lang/invoke/VarHandle")
    {W9 : Nat} {Pre : Pt → Array Value → Prop} {Post : Pt → Array Value → Option Value → Pt → Prop} (hK : Back l R p e below s args y 3 W9 Pre Post)
    {b : Addr} {cellB : Cell} (hcell : T.heap[b]? = some cellB) (hobj : cellB.vm.isStatics = false) (hcls : s.vm.findClass C = some cellB.cls)
    {g : JFrame} (hg : g.method = m) (hsize : g.locals.size = c.maxLocals) {argsL rest : List Value} (hlen : ∀ sig, parseMethodDescriptor y.desc = some sig → argsL.length = sig.parameters.length)
    (hstack : g.stack = argsL.reverse ++ .ref b :: rest) (hW : 2 * g.monitorRoom + (rest.map fun v => v.category).sum ≤ W9) (hdg : decode c.code g.pc = .ok (.invokevirtual index, 3))
    (hpre : ∀ vm₁, s.WarmedH vm₁ → Pre ⟨T.setVm vm₁, locs, cells, slots⟩ (Value.ref b :: argsL).toArray) :
    ∃ (v : Option Value) (vm₁ : Vm) (B : Pt), s.WarmedH vm₁ ∧ Stand p l e R s m args below meth c B.U B.locs B.cells B.slots ∧ Post ⟨T.setVm vm₁, locs, cells, slots⟩ (Value.ref b :: argsL).toArray v B ∧
      ∀ target, Steps p.tables e below (B.U.setTop { g with pc := g.pc + 3, stack := v.toList ++ rest }) target → Steps p.tables e below (T.setTop g) target := by
  obtain ⟨mk, methM, hnamed, hmethM, hstM, habM⟩ := Cond.instanceMethod_spec hinst
  obtain ⟨m8, methM', cM, hn8, hmethM', -, -, -, -, -, -, hsigM⟩ := Cond.codeWith_spec hcode
  cases Option.some.inj (hn8.symm.trans hnamed)
  cases hmethM.symm.trans hmethM'
  obtain ⟨c2, r2, m2, q1, q2, q3, q4, kP, hkP, hkPi⟩ := Cond.selects_spec hsel
  cases hcls.symm.trans q1
  cases (State.methodFound?_of_named hnamed hy).symm.trans q2
  cases hnamed.symm.trans q3
  have hselP : selectMethod e.platform s.vm cellB.cls mk = .method mk := by rw [Launch.admits_selectMethod X.admits]; exact q4
  obtain ⟨vm₁, X₁, hstep₁⟩ := X.invokevirtual hexec hown hlink hnamed hmethM hstM hkP hkPi hy (a := b) (cell := cellB) hcell
    (fun z h => by rw [h] at hobj; cases hobj) hselP hmethM habM hkP hkPi (g := g) hg (argsL := argsL) (rest := rest) (hlen _ hsigM) hstack hdg
  obtain ⟨v, B, X', hpost, hsteps⟩ := hK m meth c ⟨T.setVm vm₁, locs, cells, slots⟩ { g with stack := rest } (.invokevirtual index) mk (Value.ref b :: argsL).toArray X₁ hg hsize hdg hW (X₁.named hnamed) (hpre vm₁ X₁.warmed)
  exact ⟨v, vm₁, B, X₁.warmed, X', hpost, fun target h => hstep₁ _ fun acts => by rw [doInvoke_state]; exact hsteps.trans h⟩
abbrev vx_CVW (R : Room) (s : State) (args : Array Value) (own C : String) (index : Nat) (y : MethodName) (bytes : ByteArray) (maxL : Nat) (ret : Option FieldType) (hh : List (Nat × Nat × Nat × Nat)) (ws : List Cond) (rm : Room) (mc ms n : Nat) : Prop :=
  (rm.cells = mc ∧ rm.slots = ms ∧ rm.frames + 1 ≤ R.frames ∧ 8 + (maxL + 11) + rm.locals ≤ R.locals ∧ (∀ w ∈ ws, ∀ (a' : Array Value) (U : State), s.WarmedH U.vm → w.before a' U = true) ∧ Cond.codeWith y bytes maxL ret hh ∈ ws) ∧
  (Cond.codeWith y bytes maxL ret hh).before args s = true ∧ (Cond.initialized y.cls).before args s = true ∧ (y.cls ≠ "java/lang/invoke/MethodHandle" ∧ y.cls ≠ "java/lang/invoke/VarHandle") ∧
  (∀ sig, parseMethodDescriptor y.desc = some sig → n = sig.parameters.length) ∧ (Cond.methodLink own index y).before args s = true ∧ (Cond.instanceMethod y).before args s = true ∧ (Cond.selects C y y).before args s = true
theorem vx_cwVW {own C : String} {index maxL mc ms : Nat} {y : MethodName} {bytes : ByteArray} {ret : Option FieldType} {hh : List (Nat × Nat × Nat × Nat)} {Ts ws ws' : List Cond} {rm : Room} (n : Nat) (ht : ∀ w ∈ Ts, w.before args s = true) (hT : GoodIn Ts (wsV own index C y ws)) (hw : ws = Cond.codeWith y bytes maxL ret hh :: ws') (hrc : rm.cells = mc) (hrs : rm.slots = ms)
    (hd : y.cls = C ∧ y.cls ≠ "java/lang/invoke/MethodHandle" ∧ y.cls ≠ "java/lang/invoke/VarHandle" ∧ (parseMethodDescriptor y.desc).map (fun d => d.parameters.length) = some n) (hR : rm.frames + 1 ≤ R.frames ∧ 8 + (maxL + 11) + rm.locals ≤ R.locals) :
    vx_CVW R s args own C index y bytes maxL ret hh ws rm mc ms n := by
  obtain ⟨hC, hd⟩ := hd
  subst hC
  have ok : ∀ w ∈ wsV own index y.cls y ws, w.before args s = true := fun w h => ht w (hT w h).1
  have hG : GoodIn Ts ws := fun w h => hT w (by unfold wsV; exact List.mem_append_right _ h)
  have hc : Cond.codeWith y bytes maxL ret hh ∈ ws := by rw [hw]; exact List.mem_cons_self
  refine ⟨⟨hrc, hrs, hR.1, hR.2, pay_in ht hG, hc⟩, ht _ (hG _ hc).1, ok _ (by simp [wsV]), ⟨hd.1, hd.2.1⟩, fun sig h => ?_, ok _ (by simp [wsV]), ok _ (by simp [wsV]), ok _ (by simp [wsV])⟩
  have h2 := hd.2.2
  rw [h] at h2
  exact (Option.some.inj h2).symm
theorem vx_runVW {y : MethodName} {bytes cc : ByteArray} {maxL nL mc ms n index : Nat} {ret : Option FieldType} {hh : List (Nat × Nat × Nat × Nat)} {ws : List Cond} {rm : Room} {Pc : Array Value → State → Prop} {Qc : Array Value → State → Outcome → State → Prop} {free : Addr → Prop} {Ts : List Cond} {own C : String} {b : Addr} {As rest : List Value} {g : JFrame}
    (S : CallFix p m c cc nL s args Ts own) (hM : Met l y ws rm Pc Qc mc ms free) (cw : vx_CVW R s args own C index y bytes maxL ret hh ws rm mc ms n) (hp : PreV s H C b Pc As)
    (hg : g.method = m) (hn : As.length = n) (hsize : g.locals.size = nL) (hstack : g.stack = As.reverse ++ .ref b :: rest) (hW : 2 * g.monitorRoom + (rest.map fun v => v.category).sum ≤ 8) (hdg : decode cc g.pc = .ok (.invokevirtual index, 3)) (hf : cells + mc ≤ R.cells ∧ slots + ms ≤ R.slots) :
    va_Run p l e R s m args below meth c H locs cells slots mc ms g rest (Qc (Value.ref b :: As).toArray) free := by
  obtain ⟨⟨hrc, hrs, hfr, hlo, hws, hcw⟩, hcode, hini, hy, hlen, hl, hin, hse⟩ := cw
  have hK : Back l R p e below s args y 3 8 (PreOf R mc ms Pc) (PostOf Qc mc ms free) := va_backW (hh := hh) (bytes := bytes) (maxL := maxL) (ret := ret) hM hp.1 hrc hrs hfr hlo hws hcw (fun a' U hW => word_at hW (Or.inl (by first | rfl | simp [Cond.onTables, Cond.keeps, Cond.steady])) hini)
  obtain ⟨hx, hb, hml, ho, -⟩ := S
  obtain ⟨-, ⟨cellB, hcB, hoB, hclB⟩, hPc⟩ := hp
  intro T hT X
  obtain ⟨v, vm₁, ⟨U', l2, c2, s2⟩, hW₁, X', ⟨g', mk, t, L, e1, e2, hq, h1, hL, h2, h3⟩, st⟩ := vx_callVW X hx (C := C) (hh := hh) (bytes := bytes) (maxL := maxL) (ret := ret) ho hl hin hse hcode hy hK (by rw [hT]; exact hcB) hoB hclB hg (hsize.trans hml.symm) (argsL := As) (rest := rest) (fun sig h => hn.trans (hlen sig h)) hstack hW (by rw [hb]; exact hdg)
    (fun vm₁ hW₁ => ⟨hf.1, hf.2, hPc (T.setVm vm₁) hT hW₁⟩)
  dsimp only [Pt.U, Pt.locs, Pt.cells, Pt.slots] at X' e1 e2 h1 h2 h3 st
  subst h1; subst h2; subst h3
  exact ⟨v, (T.setVm vm₁).calling g' mk (Value.ref b :: As).toArray, t, U', L, hT, X', hL, e1, e2, hq, st⟩
section
variable {y : MethodName} {bytes cc : ByteArray} {maxL nL mc ms n index : Nat} {ret : Option FieldType} {ws : List Cond} {rm : Room} {Pc : Array Value → State → Prop} {Qc : Array Value → State → Outcome → State → Prop} {XC : String → State → State → Prop} {free : Addr → Prop} {Ts : List Cond} {own C : String} {b : Addr} {As rest : List Value} {g : JFrame}
theorem vx_runVX {hh : List (Nat × Nat × Nat × Nat)} (S : CallFix p m c cc nL s args Ts own) (hM : vx_Met l y ws rm Pc Qc XC mc ms free) (cw : vx_CVW R s args own C index y bytes maxL ret hh ws rm mc ms n) (hp : PreV s H C b Pc As)
    (hg : g.method = m) (hn : As.length = n) (hsize : g.locals.size = nL) (hstack : g.stack = As.reverse ++ .ref b :: rest) (hW : 2 * g.monitorRoom + (rest.map fun v => v.category).sum ≤ 8) (hdg : decode cc g.pc = .ok (.invokevirtual index, 3)) (hf : cells + mc ≤ R.cells ∧ slots + ms ≤ R.slots) :
    vx_Run p l e R s m args below meth c H locs cells slots mc ms g rest (Qc (Value.ref b :: As).toArray) XC free := by
  obtain ⟨⟨hrc, hrs, hfr, hlo, hws, hcw⟩, hcode, hini, hy, hlen, hl, hin, hse⟩ := cw
  have hK : vx_Back l R p e below s args y 3 8 (PreOf R mc ms Pc) (PostOf Qc mc ms free) (vx_Post XC mc ms free) := vx_backW (hh := hh) (bytes := bytes) (maxL := maxL) (ret := ret) hM hp.1 hrc hrs hfr hlo hws hcw (fun a' U hW => word_at hW (Or.inl (by first | rfl | simp [Cond.onTables, Cond.keeps, Cond.steady])) hini)
  obtain ⟨hx, hb, hml, ho, -⟩ := S
  obtain ⟨-, ⟨cellB, hcB, hoB, hclB⟩, hPc⟩ := hp
  intro T hT X
  rcases vx_callVX X hx (C := C) (hh := hh) (bytes := bytes) (maxL := maxL) (ret := ret) ho hl hin hse hcode hy hK (by rw [hT]; exact hcB) hoB hclB hg (hsize.trans hml.symm) (argsL := As) (rest := rest) (fun sig h => hn.trans (hlen sig h)) hstack hW (by rw [hb]; exact hdg)
    (fun vm₁ hW₁ => ⟨hf.1, hf.2, hPc (T.setVm vm₁) hT hW₁⟩) with ⟨v, vm₁, ⟨U', l2, c2, s2⟩, hW₁, X', ⟨g', mk, t, L, e1, e2, hq, h1, hL, h2, h3⟩, st⟩ | ⟨q, vm₁, ⟨U', l2, c2, s2⟩, hW₁, X', ⟨g', mk, t, L, E, ce, e1, e2, hq, hce, hcv, hcl, h1, hL, h2, h3⟩, st⟩
  · dsimp only [Pt.U, Pt.locs, Pt.cells, Pt.slots] at X' e1 e2 h1 h2 h3 st
    subst h1; subst h2; subst h3
    exact Or.inl ⟨v, (T.setVm vm₁).calling g' mk (Value.ref b :: As).toArray, t, U', L, hT, X', hL, e1, e2, hq, st⟩
  · dsimp only [Pt.U, Pt.locs, Pt.cells, Pt.slots] at X' e1 e2 h1 h2 h3 st hcl
    subst h1; subst h2; subst h3
    exact Or.inr ⟨q, (T.setVm vm₁).calling g' mk (Value.ref b :: As).toArray, t, U', L, E, ce, hT, X', hL, e1, e2, hq, hce, hcv, vx_cls hW₁ hcl, st⟩
theorem vx_runSX {hh : List (Nat × Nat × Nat × Nat)} (S : CallFix p m c cc nL s args Ts own) (hM : vx_Met l y ws rm Pc Qc XC mc ms free) (cw : vx_CSW R s args own index y bytes maxL ret hh ws rm mc ms n) (hp : PreS s H Pc As)
    (hg : g.method = m) (hn : As.length = n) (hsize : g.locals.size = nL) (hstack : g.stack = As.reverse ++ rest) (hW : 2 * g.monitorRoom + (rest.map fun v => v.category).sum ≤ 8) (hdg : decode cc g.pc = .ok (.invokestatic index, 3)) (hf : cells + mc ≤ R.cells ∧ slots + ms ≤ R.slots) :
    vx_Run p l e R s m args below meth c H locs cells slots mc ms g rest (Qc As.toArray) XC free := by
  obtain ⟨⟨hrc, hrs, hfr, hlo, hws, hcw⟩, hcode, hini, hy, hlen, hl, hstt⟩ := cw
  have hK : vx_Back l R p e below s args y 3 8 (PreOf R mc ms Pc) (PostOf Qc mc ms free) (vx_Post XC mc ms free) := vx_backW (hh := hh) (bytes := bytes) (maxL := maxL) (ret := ret) hM hp.1 hrc hrs hfr hlo hws hcw (fun a' U hW => word_at hW (Or.inl (by first | rfl | simp [Cond.onTables, Cond.keeps, Cond.steady])) hini)
  obtain ⟨hx, hb, hml, ho, -⟩ := S
  intro T hT X
  rcases vx_callSX X hx (hh := hh) (bytes := bytes) (maxL := maxL) (ret := ret) ho hl hstt hini hcode hy hK hg (hsize.trans hml.symm) (argsL := As) (rest := rest) (fun sig h => hn.trans (hlen sig h)) hstack hW (by rw [hb]; exact hdg)
    (fun vm₁ hW₁ => ⟨hf.1, hf.2, hp.2 (T.setVm vm₁) hT hW₁⟩) with ⟨v, vm₁, ⟨U', l2, c2, s2⟩, hW₁, X', ⟨g', mk, t, L, e1, e2, hq, h1, hL, h2, h3⟩, st⟩ | ⟨q, vm₁, ⟨U', l2, c2, s2⟩, hW₁, X', ⟨g', mk, t, L, E, ce, e1, e2, hq, hce, hcv, hcl, h1, hL, h2, h3⟩, st⟩
  · dsimp only [Pt.U, Pt.locs, Pt.cells, Pt.slots] at X' e1 e2 h1 h2 h3 st
    subst h1; subst h2; subst h3
    exact Or.inl ⟨v, (T.setVm vm₁).calling g' mk As.toArray, t, U', L, hT, X', hL, e1, e2, hq, st⟩
  · dsimp only [Pt.U, Pt.locs, Pt.cells, Pt.slots] at X' e1 e2 h1 h2 h3 st hcl
    subst h1; subst h2; subst h3
    exact Or.inr ⟨q, (T.setVm vm₁).calling g' mk As.toArray, t, U', L, E, ce, hT, X', hL, e1, e2, hq, hce, hcv, vx_cls hW₁ hcl, st⟩
end
end VXH
theorem vx_ofWH {l : Launch} {y : MethodName} {ws ws' : List Cond} {rm : Room} {Pc : Array Value → State → Prop} {Qc : Array Value → State → Outcome → State → Prop} {XC : String → State → State → Prop} {mc ms : Nat} {free : Addr → Prop} {cc : ByteArray} {maxL : Nat} {ret : Option FieldType} {hh : List (Nat × Nat × Nat × Nat)}
    (hy : plainName y.cls = true) (hw : ws = Cond.codeWith y cc maxL ret hh :: ws')
    (body : ∀ p e s m args below meth c s₁, BodyLoose p l y (headSpec ws rm) cc maxL ret e s m args below meth c s₁ → c.maxLocals = maxL → Pc args s →
      W p l e (headSpec ws rm).room s m args below meth c s.heap [] 0 0 (vx_MQ below Qc XC args s mc ms free) (entryFrame m args maxL)) : vx_Met l y ws rm Pc Qc XC mc ms free := by
  refine MetFree.of_bodyS (code := cc) (maxLocals := maxL) (ret := ret) hy ?_ ?_
  · intro args s m h hn
    obtain ⟨m9, meth, c, hn9, h1, h2, h3, h4, -, h5, h6, -⟩ := Cond.codeWith_spec (atoms_spec (ws := ws) h _ (by rw [hw]; exact List.mem_cons_self))
    cases hn.symm.trans hn9
    exact ⟨meth, c, h1, h2, h3, h4, h5, h6⟩
  · intro p e s m args below meth c s₁ B hml hP _
    have hh0 : s₁.heap = s.heap := by rw [B.state]; rfl
    obtain ⟨t, a1, o, b1, b2, b3⟩ := body p e s m args below meth c s₁ B hml hP s₁ hh0 (Stand.of_body B)
    exact ⟨t, o, a1, b1, b2, b3⟩
/-! ===== END ===== -/
end
section
/-! ===== BEGIN printed: names, fields, word lists, decode rows ===== -/
def RX0 : String := "Buddyfield$Content"
def TX0 : u_T := fun k => match k with
  | 0 => ("Buddyfield$Content", "file", "I", true)
  | 1 => ("Buddyfield$Content", "blocks", "[I", true)
  | 2 => ("Buddyfield$Content", "exists", "Z", false)
  | 3 => ("Buddyfield$Content", "timesOpen", "I", false)
  | 4 => ("Buddyfield$Content", "reservedPlaces", "I", false)
  | 5 => ("Buddyfield$Content", "keptPlace", "I", false)
  | 6 => ("Buddyfield$Content", "firstKept", "I", false)
  | 7 => ("Buddyfield$Content", "keptBlocks", "I", false)
  | 8 => ("Buddyfield$Content", "isListed", "Z", false)
  | 9 => ("Buddyfield$Content", "isDoomed", "Z", false)
  | _ => ("Buddyfield$Content", "listedSize", "I", false)
def tyX0 : Nat → FieldType := fun k => match k with
  | 0 => .int
  | 1 => .array .int
  | 2 => .boolean
  | 3 => .int
  | 4 => .int
  | 5 => .int
  | 6 => .int
  | 7 => .int
  | 8 => .boolean
  | 9 => .boolean
  | _ => .int
abbrev wsX00 : List Cond := u_ws RX0 TX0 11
theorem nmX0 : ∀ a, a < 11 → ∀ b, b < 11 → a ≠ b → (TX0 a).2.1 ≠ (TX0 b).2.1 := by decide +kernel
theorem tyX0_ok : ∀ k, k < 11 → parseFieldDescriptor (TX0 k).2.2.1 = some (tyX0 k) := by decide +kernel
abbrev cX0_init : ByteArray := prog_2_method_1_code
def yX0_init : MethodName := ⟨RX0, "<init>", "(I)V"⟩
abbrev cX0_begin : ByteArray := prog_2_method_2_code
def yX0_begin : MethodName := ⟨RX0, "begin", "()V"⟩
abbrev cX0_isMapped : ByteArray := prog_2_method_3_code
def yX0_isMapped : MethodName := ⟨RX0, "isMapped", "(I)Z"⟩
abbrev cX0_isReserved : ByteArray := prog_2_method_4_code
def yX0_isReserved : MethodName := ⟨RX0, "isReserved", "(I)Z"⟩
abbrev cX0_endOfReserved : ByteArray := prog_2_method_5_code
def yX0_endOfReserved : MethodName := ⟨RX0, "endOfReserved", "(I)I"⟩
abbrev cX0_emptyPlaces : ByteArray := prog_2_method_6_code
def yX0_emptyPlaces : MethodName := ⟨RX0, "emptyPlaces", "(II)I"⟩
abbrev cX0_reserve : ByteArray := prog_2_method_7_code
def yX0_reserve : MethodName := ⟨RX0, "reserve", "(II)V"⟩
abbrev cX0_dropReserved : ByteArray := prog_2_method_8_code
def yX0_dropReserved : MethodName := ⟨RX0, "dropReserved", "(I)V"⟩
abbrev cX0_map : ByteArray := prog_2_method_9_code
def yX0_map : MethodName := ⟨RX0, "map", "(III)V"⟩
abbrev cX0_keep : ByteArray := prog_2_method_10_code
def yX0_keep : MethodName := ⟨RX0, "keep", "(III)V"⟩
abbrev cX0_isKeptFor : ByteArray := prog_2_method_11_code
def yX0_isKeptFor : MethodName := ⟨RX0, "isKeptFor", "(I)Z"⟩
abbrev cX0_mapKept : ByteArray := prog_2_method_12_code
def yX0_mapKept : MethodName := ⟨RX0, "mapKept", "(II)I"⟩
abbrev cX0_mappedPlaces : ByteArray := prog_2_method_13_code
def yX0_mappedPlaces : MethodName := ⟨RX0, "mappedPlaces", "()I"⟩
abbrev cX0_joinsAhead : ByteArray := prog_2_method_14_code
def yX0_joinsAhead : MethodName := ⟨RX0, "joinsAhead", "(I)Z"⟩
abbrev cX0_beginsExtent : ByteArray := prog_2_method_15_code
def yX0_beginsExtent : MethodName := ⟨RX0, "beginsExtent", "(I)Z"⟩
abbrev cX0_countExtents : ByteArray := prog_2_method_16_code
def yX0_countExtents : MethodName := ⟨RX0, "countExtents", "()I"⟩
abbrev cX0_beginOfExtent : ByteArray := prog_2_method_17_code
def yX0_beginOfExtent : MethodName := ⟨RX0, "beginOfExtent", "(I)I"⟩
abbrev cX0_lengthOfExtent : ByteArray := prog_2_method_18_code
def yX0_lengthOfExtent : MethodName := ⟨RX0, "lengthOfExtent", "(I)I"⟩
def RX1 : String := "Buddyfield$Directory"
def TX1 : u_T := fun k => match k with
  | 0 => ("Buddyfield$Directory", "firstLeaf", "LBuddyfield$Leaf;", true)
  | _ => ("Buddyfield$Directory", "leafCount", "I", false)
def tyX1 : Nat → FieldType := fun k => match k with
  | 0 => .object "Buddyfield$Leaf"
  | _ => .int
abbrev wsX10 : List Cond := u_ws RX1 TX1 2
theorem nmX1 : ∀ a, a < 2 → ∀ b, b < 2 → a ≠ b → (TX1 a).2.1 ≠ (TX1 b).2.1 := by decide +kernel
theorem tyX1_ok : ∀ k, k < 2 → parseFieldDescriptor (TX1 k).2.2.1 = some (tyX1 k) := by decide +kernel
abbrev cX1_init : ByteArray := prog_3_method_1_code
def yX1_init : MethodName := ⟨RX1, "<init>", "()V"⟩
abbrev cX1_isFull : ByteArray := prog_3_method_2_code
def yX1_isFull : MethodName := ⟨RX1, "isFull", "()Z"⟩
abbrev cX1_add : ByteArray := prog_3_method_3_code
def yX1_add : MethodName := ⟨RX1, "add", "(II)V"⟩
abbrev cX1_takeOut : ByteArray := prog_3_method_4_code
def yX1_takeOut : MethodName := ⟨RX1, "takeOut", "(I)V"⟩
abbrev cX1_fileWith : ByteArray := prog_3_method_5_code
def yX1_fileWith : MethodName := ⟨RX1, "fileWith", "(I)I"⟩
abbrev cX1_countLooks : ByteArray := prog_3_method_6_code
def yX1_countLooks : MethodName := ⟨RX1, "countLooks", "(I)I"⟩
abbrev cX1_lastLeafFor : ByteArray := prog_3_method_7_code
def yX1_lastLeafFor : MethodName := ⟨RX1, "lastLeafFor", "(I)LBuddyfield$Leaf;"⟩
abbrev cX1_firstLookedAt : ByteArray := prog_3_method_8_code
def yX1_firstLookedAt : MethodName := ⟨RX1, "firstLookedAt", "(I)LBuddyfield$Leaf;"⟩
abbrev cX1_lastLookedAt : ByteArray := prog_3_method_9_code
def yX1_lastLookedAt : MethodName := ⟨RX1, "lastLookedAt", "(I)LBuddyfield$Leaf;"⟩
def RX2 : String := "Buddyfield$Ground"
def TX2 : u_T := fun k => match k with
  | 0 => ("Buddyfield$Ground", "isTaken", "[Z", true)
  | _ => ("Buddyfield$Ground", "freeBlocks", "I", false)
def tyX2 : Nat → FieldType := fun k => match k with
  | 0 => .array .boolean
  | _ => .int
abbrev wsX20 : List Cond := u_ws RX2 TX2 2
theorem nmX2 : ∀ a, a < 2 → ∀ b, b < 2 → a ≠ b → (TX2 a).2.1 ≠ (TX2 b).2.1 := by decide +kernel
theorem tyX2_ok : ∀ k, k < 2 → parseFieldDescriptor (TX2 k).2.2.1 = some (tyX2 k) := by decide +kernel
abbrev cX2_init : ByteArray := prog_4_method_1_code
def yX2_init : MethodName := ⟨RX2, "<init>", "()V"⟩
abbrev cX2_areFree : ByteArray := prog_4_method_2_code
def yX2_areFree : MethodName := ⟨RX2, "areFree", "(II)Z"⟩
abbrev cX2_take : ByteArray := prog_4_method_3_code
def yX2_take : MethodName := ⟨RX2, "take", "(II)V"⟩
abbrev cX2_release : ByteArray := prog_4_method_4_code
def yX2_release : MethodName := ⟨RX2, "release", "(II)V"⟩
abbrev cX2_mark : ByteArray := prog_4_method_5_code
def yX2_mark : MethodName := ⟨RX2, "mark", "(IIZ)V"⟩
abbrev cX2_find : ByteArray := prog_4_method_6_code
def yX2_find : MethodName := ⟨RX2, "find", "(II)I"⟩
abbrev cX2_firstPiece : ByteArray := prog_4_method_7_code
def yX2_firstPiece : MethodName := ⟨RX2, "firstPiece", "(II)I"⟩
abbrev cX2_countPieces : ByteArray := prog_4_method_8_code
def yX2_countPieces : MethodName := ⟨RX2, "countPieces", "(II)I"⟩
abbrev cX2_isFreePiece : ByteArray := prog_4_method_9_code
def yX2_isFreePiece : MethodName := ⟨RX2, "isFreePiece", "(II)Z"⟩
def RX3 : String := "Buddyfield$Leaf"
def TX3 : u_T := fun k => match k with
  | 0 => ("Buddyfield$Leaf", "low", "I", true)
  | 1 => ("Buddyfield$Leaf", "continued", "Z", true)
  | 2 => ("Buddyfield$Leaf", "names", "[I", true)
  | 3 => ("Buddyfield$Leaf", "files", "[I", true)
  | 4 => ("Buddyfield$Leaf", "count", "I", false)
  | 5 => ("Buddyfield$Leaf", "back", "LBuddyfield$Leaf;", false)
  | _ => ("Buddyfield$Leaf", "next", "LBuddyfield$Leaf;", false)
def tyX3 : Nat → FieldType := fun k => match k with
  | 0 => .int
  | 1 => .boolean
  | 2 => .array .int
  | 3 => .array .int
  | 4 => .int
  | 5 => .object "Buddyfield$Leaf"
  | _ => .object "Buddyfield$Leaf"
abbrev wsX30 : List Cond := u_ws RX3 TX3 7
theorem nmX3 : ∀ a, a < 7 → ∀ b, b < 7 → a ≠ b → (TX3 a).2.1 ≠ (TX3 b).2.1 := by decide +kernel
theorem tyX3_ok : ∀ k, k < 7 → parseFieldDescriptor (TX3 k).2.2.1 = some (tyX3 k) := by decide +kernel
abbrev cX3_init : ByteArray := prog_5_method_1_code
def yX3_init : MethodName := ⟨RX3, "<init>", "(IZ)V"⟩
abbrev cX3_continues : ByteArray := prog_5_method_2_code
def yX3_continues : MethodName := ⟨RX3, "continues", "(I)Z"⟩
abbrev cX3_indexOf : ByteArray := prog_5_method_3_code
def yX3_indexOf : MethodName := ⟨RX3, "indexOf", "(I)I"⟩
abbrev cX3_has : ByteArray := prog_5_method_4_code
def yX3_has : MethodName := ⟨RX3, "has", "(I)Z"⟩
abbrev cX3_fileWith : ByteArray := prog_5_method_5_code
def yX3_fileWith : MethodName := ⟨RX3, "fileWith", "(I)I"⟩
abbrev cX3_insert : ByteArray := prog_5_method_6_code
def yX3_insert : MethodName := ⟨RX3, "insert", "(II)V"⟩
abbrev cX3_rankOf : ByteArray := prog_5_method_7_code
def yX3_rankOf : MethodName := ⟨RX3, "rankOf", "(I)I"⟩
abbrev cX3_takeOut : ByteArray := prog_5_method_8_code
def yX3_takeOut : MethodName := ⟨RX3, "takeOut", "(I)V"⟩
abbrev cX3_split : ByteArray := prog_5_method_9_code
def yX3_split : MethodName := ⟨RX3, "split", "()V"⟩
abbrev cX3_linkBehind : ByteArray := prog_5_method_10_code
def yX3_linkBehind : MethodName := ⟨RX3, "linkBehind", "(LBuddyfield$Leaf;)V"⟩
def RX4 : String := "Buddyfield"
def TX4 : u_T := fun k => match k with
  | 0 => ("Buddyfield", "ground", "LBuddyfield$Ground;", true)
  | 1 => ("Buddyfield", "directory", "LBuddyfield$Directory;", true)
  | 2 => ("Buddyfield", "contents", "[LBuddyfield$Content;", true)
  | 3 => ("Buddyfield", "stepsToCrash", "I", false)
  | _ => ("Buddyfield", "down", "Z", false)
def tyX4 : Nat → FieldType := fun k => match k with
  | 0 => .object "Buddyfield$Ground"
  | 1 => .object "Buddyfield$Directory"
  | 2 => .array (.object "Buddyfield$Content")
  | 3 => .int
  | _ => .boolean
abbrev wsX40 : List Cond := u_ws RX4 TX4 5
theorem nmX4 : ∀ a, a < 5 → ∀ b, b < 5 → a ≠ b → (TX4 a).2.1 ≠ (TX4 b).2.1 := by decide +kernel
theorem tyX4_ok : ∀ k, k < 5 → parseFieldDescriptor (TX4 k).2.2.1 = some (tyX4 k) := by decide +kernel
abbrev cX4_init : ByteArray := prog_1_method_1_code
def yX4_init : MethodName := ⟨RX4, "<init>", "()V"⟩
abbrev cX4_create : ByteArray := prog_1_method_2_code
def yX4_create : MethodName := ⟨RX4, "create", "(I)I"⟩
abbrev cX4_open : ByteArray := prog_1_method_3_code
def yX4_open : MethodName := ⟨RX4, "open", "(I)I"⟩
abbrev cX4_close : ByteArray := prog_1_method_4_code
def yX4_close : MethodName := ⟨RX4, "close", "(I)I"⟩
abbrev cX4_delete : ByteArray := prog_1_method_5_code
def yX4_delete : MethodName := ⟨RX4, "delete", "(I)I"⟩
abbrev cX4_write : ByteArray := prog_1_method_6_code
def yX4_write : MethodName := ⟨RX4, "write", "(III)I"⟩
abbrev cX4_flush : ByteArray := prog_1_method_7_code
def yX4_flush : MethodName := ⟨RX4, "flush", "(I)I"⟩
abbrev cX4_cut : ByteArray := prog_1_method_8_code
def yX4_cut : MethodName := ⟨RX4, "cut", "(II)I"⟩
abbrev cX4_crashBehind : ByteArray := prog_1_method_9_code
def yX4_crashBehind : MethodName := ⟨RX4, "crashBehind", "(I)V"⟩
abbrev cX4_crash : ByteArray := prog_1_method_10_code
def yX4_crash : MethodName := ⟨RX4, "crash", "()V"⟩
abbrev cX4_start : ByteArray := prog_1_method_11_code
def yX4_start : MethodName := ⟨RX4, "start", "()I"⟩
abbrev cX4_isDown : ByteArray := prog_1_method_12_code
def yX4_isDown : MethodName := ⟨RX4, "isDown", "()Z"⟩
abbrev cX4_files : ByteArray := prog_1_method_13_code
def yX4_files : MethodName := ⟨RX4, "files", "()I"⟩
abbrev cX4_listed : ByteArray := prog_1_method_14_code
def yX4_listed : MethodName := ⟨RX4, "listed", "()I"⟩
abbrev cX4_opens : ByteArray := prog_1_method_15_code
def yX4_opens : MethodName := ⟨RX4, "opens", "(I)I"⟩
abbrev cX4_free : ByteArray := prog_1_method_16_code
def yX4_free : MethodName := ⟨RX4, "free", "()I"⟩
abbrev cX4_freeByFiles : ByteArray := prog_1_method_17_code
def yX4_freeByFiles : MethodName := ⟨RX4, "freeByFiles", "()I"⟩
abbrev cX4_reserved : ByteArray := prog_1_method_18_code
def yX4_reserved : MethodName := ⟨RX4, "reserved", "()I"⟩
abbrev cX4_kept : ByteArray := prog_1_method_19_code
def yX4_kept : MethodName := ⟨RX4, "kept", "()I"⟩
abbrev cX4_pieces : ByteArray := prog_1_method_20_code
def yX4_pieces : MethodName := ⟨RX4, "pieces", "(II)I"⟩
abbrev cX4_isFree : ByteArray := prog_1_method_21_code
def yX4_isFree : MethodName := ⟨RX4, "isFree", "(I)Z"⟩
abbrev cX4_blockAt : ByteArray := prog_1_method_22_code
def yX4_blockAt : MethodName := ⟨RX4, "blockAt", "(II)I"⟩
abbrev cX4_extents : ByteArray := prog_1_method_23_code
def yX4_extents : MethodName := ⟨RX4, "extents", "(I)I"⟩
abbrev cX4_extent : ByteArray := prog_1_method_24_code
def yX4_extent : MethodName := ⟨RX4, "extent", "(II)I"⟩
abbrev cX4_average : ByteArray := prog_1_method_25_code
def yX4_average : MethodName := ⟨RX4, "average", "(I)F"⟩
abbrev cX4_fileOf : ByteArray := prog_1_method_26_code
def yX4_fileOf : MethodName := ⟨RX4, "fileOf", "(I)I"⟩
abbrev cX4_leaves : ByteArray := prog_1_method_27_code
def yX4_leaves : MethodName := ⟨RX4, "leaves", "()I"⟩
abbrev cX4_looks : ByteArray := prog_1_method_28_code
def yX4_looks : MethodName := ⟨RX4, "looks", "(I)I"⟩
abbrev cX4_requireRange : ByteArray := prog_1_method_29_code
def yX4_requireRange : MethodName := ⟨RX4, "requireRange", "(III)V"⟩
abbrev cX4_requireName : ByteArray := prog_1_method_30_code
def yX4_requireName : MethodName := ⟨RX4, "requireName", "(I)V"⟩
abbrev cX4_requireUp : ByteArray := prog_1_method_31_code
def yX4_requireUp : MethodName := ⟨RX4, "requireUp", "()V"⟩
abbrev cX4_requireContent : ByteArray := prog_1_method_32_code
def yX4_requireContent : MethodName := ⟨RX4, "requireContent", "(I)LBuddyfield$Content;"⟩
abbrev cX4_requireFileWith : ByteArray := prog_1_method_33_code
def yX4_requireFileWith : MethodName := ⟨RX4, "requireFileWith", "(I)I"⟩
abbrev cX4_lowestUnusedFile : ByteArray := prog_1_method_34_code
def yX4_lowestUnusedFile : MethodName := ⟨RX4, "lowestUnusedFile", "()I"⟩
abbrev cX4_left : ByteArray := prog_1_method_35_code
def yX4_left : MethodName := ⟨RX4, "left", "()I"⟩
abbrev cX4_releaseKept : ByteArray := prog_1_method_36_code
def yX4_releaseKept : MethodName := ⟨RX4, "releaseKept", "(LBuddyfield$Content;)V"⟩
abbrev cX4_releaseAllKept : ByteArray := prog_1_method_37_code
def yX4_releaseAllKept : MethodName := ⟨RX4, "releaseAllKept", "()V"⟩
abbrev cX4_mapRow : ByteArray := prog_1_method_38_code
def yX4_mapRow : MethodName := ⟨RX4, "mapRow", "(LBuddyfield$Content;II)I"⟩
abbrev cX4_mapFound : ByteArray := prog_1_method_39_code
def yX4_mapFound : MethodName := ⟨RX4, "mapFound", "(LBuddyfield$Content;II)I"⟩
abbrev cX4_goalFor : ByteArray := prog_1_method_40_code
def yX4_goalFor : MethodName := ⟨RX4, "goalFor", "(LBuddyfield$Content;I)I"⟩
abbrev cX4_lengthFor : ByteArray := prog_1_method_41_code
def yX4_lengthFor : MethodName := ⟨RX4, "lengthFor", "(I)I"⟩
abbrev cX4_cutTo : ByteArray := prog_1_method_42_code
def yX4_cutTo : MethodName := ⟨RX4, "cutTo", "(LBuddyfield$Content;I)I"⟩
abbrev cX4_step : ByteArray := prog_1_method_43_code
def yX4_step : MethodName := ⟨RX4, "step", "(LBuddyfield$Content;II)V"⟩
abbrev cX4_crashIsDue : ByteArray := prog_1_method_44_code
def yX4_crashIsDue : MethodName := ⟨RX4, "crashIsDue", "()Z"⟩
abbrev cX4_fall : ByteArray := prog_1_method_45_code
def yX4_fall : MethodName := ⟨RX4, "fall", "()V"⟩
abbrev cX4_erase : ByteArray := prog_1_method_46_code
def yX4_erase : MethodName := ⟨RX4, "erase", "(LBuddyfield$Content;)Z"⟩
abbrev cX4_hashOf : ByteArray := prog_1_method_47_code
def yX4_hashOf : MethodName := ⟨RX4, "hashOf", "(I)I"⟩
def RX5 : String := "BuddyfieldModel"
def TX5 : u_T := fun k => match k with
  | 0 => ("BuddyfieldModel", "free", "[Z", true)
  | 1 => ("BuddyfieldModel", "isFile", "[Z", true)
  | 2 => ("BuddyfieldModel", "at", "[I", true)
  | 3 => ("BuddyfieldModel", "opens", "[I", true)
  | 4 => ("BuddyfieldModel", "keptFrom", "[I", true)
  | 5 => ("BuddyfieldModel", "keptMany", "[I", true)
  | 6 => ("BuddyfieldModel", "keptFor", "[I", true)
  | 7 => ("BuddyfieldModel", "cutTo", "[I", true)
  | 8 => ("BuddyfieldModel", "deleted", "[Z", true)
  | 9 => ("BuddyfieldModel", "fileOf", "[I", true)
  | 10 => ("BuddyfieldModel", "low", "[I", true)
  | 11 => ("BuddyfieldModel", "continued", "[Z", true)
  | 12 => ("BuddyfieldModel", "names", "[I", true)
  | 13 => ("BuddyfieldModel", "many", "[I", true)
  | 14 => ("BuddyfieldModel", "leaves", "I", false)
  | 15 => ("BuddyfieldModel", "down", "Z", false)
  | 16 => ("BuddyfieldModel", "crashIn", "I", false)
  | _ => ("BuddyfieldModel", "thrown", "I", false)
def tyX5 : Nat → FieldType := fun k => match k with
  | 0 => .array .boolean
  | 1 => .array .boolean
  | 2 => .array .int
  | 3 => .array .int
  | 4 => .array .int
  | 5 => .array .int
  | 6 => .array .int
  | 7 => .array .int
  | 8 => .array .boolean
  | 9 => .array .int
  | 10 => .array .int
  | 11 => .array .boolean
  | 12 => .array .int
  | 13 => .array .int
  | 14 => .int
  | 15 => .boolean
  | 16 => .int
  | _ => .int
abbrev wsX50 : List Cond := u_ws RX5 TX5 18
theorem nmX5 : ∀ a, a < 18 → ∀ b, b < 18 → a ≠ b → (TX5 a).2.1 ≠ (TX5 b).2.1 := by decide +kernel
theorem tyX5_ok : ∀ k, k < 18 → parseFieldDescriptor (TX5 k).2.2.1 = some (tyX5 k) := by decide +kernel
abbrev cX5_init : ByteArray := prog_7_method_1_code
def yX5_init : MethodName := ⟨RX5, "<init>", "()V"⟩
abbrev cX5_thrown : ByteArray := prog_7_method_2_code
def yX5_thrown : MethodName := ⟨RX5, "thrown", "()I"⟩
abbrev cX5_in : ByteArray := prog_7_method_3_code
def yX5_in : MethodName := ⟨RX5, "in", "(III)Z"⟩
abbrev cX5_asked : ByteArray := prog_7_method_4_code
def yX5_asked : MethodName := ⟨RX5, "asked", "(Z)Z"⟩
abbrev cX5_asked_ : ByteArray := prog_7_method_5_code
def yX5_asked_ : MethodName := ⟨RX5, "asked", "(ZZ)Z"⟩
abbrev cX5_asked__ : ByteArray := prog_7_method_6_code
def yX5_asked__ : MethodName := ⟨RX5, "asked", "(ZZZ)Z"⟩
abbrev cX5_told : ByteArray := prog_7_method_7_code
def yX5_told : MethodName := ⟨RX5, "told", "(I)I"⟩
abbrev cX5_isThere : ByteArray := prog_7_method_8_code
def yX5_isThere : MethodName := ⟨RX5, "isThere", "(I)Z"⟩
abbrev cX5_isName : ByteArray := prog_7_method_9_code
def yX5_isName : MethodName := ⟨RX5, "isName", "(I)Z"⟩
abbrev cX5_freeNow : ByteArray := prog_7_method_10_code
def yX5_freeNow : MethodName := ⟨RX5, "freeNow", "()I"⟩
abbrev cX5_reservedNow : ByteArray := prog_7_method_11_code
def yX5_reservedNow : MethodName := ⟨RX5, "reservedNow", "()I"⟩
abbrev cX5_keptNow : ByteArray := prog_7_method_12_code
def yX5_keptNow : MethodName := ⟨RX5, "keptNow", "()I"⟩
abbrev cX5_left : ByteArray := prog_7_method_13_code
def yX5_left : MethodName := ⟨RX5, "left", "()I"⟩
abbrev cX5_freesKept : ByteArray := prog_7_method_14_code
def yX5_freesKept : MethodName := ⟨RX5, "freesKept", "(I)V"⟩
abbrev cX5_hash : ByteArray := prog_7_method_15_code
def yX5_hash : MethodName := ⟨RX5, "hash", "(I)I"⟩
abbrev cX5_lastLeaf : ByteArray := prog_7_method_16_code
def yX5_lastLeaf : MethodName := ⟨RX5, "lastLeaf", "(I)I"⟩
abbrev cX5_isAhead : ByteArray := prog_7_method_17_code
def yX5_isAhead : MethodName := ⟨RX5, "isAhead", "(II)Z"⟩
abbrev cX5_splits : ByteArray := prog_7_method_18_code
def yX5_splits : MethodName := ⟨RX5, "splits", "(I)V"⟩
abbrev cX5_addsName : ByteArray := prog_7_method_19_code
def yX5_addsName : MethodName := ⟨RX5, "addsName", "(I)V"⟩
abbrev cX5_isIn : ByteArray := prog_7_method_20_code
def yX5_isIn : MethodName := ⟨RX5, "isIn", "(II)Z"⟩
abbrev cX5_begins : ByteArray := prog_7_method_21_code
def yX5_begins : MethodName := ⟨RX5, "begins", "(I)I"⟩
abbrev cX5_goesOn : ByteArray := prog_7_method_22_code
def yX5_goesOn : MethodName := ⟨RX5, "goesOn", "(II)Z"⟩
abbrev cX5_takesOut : ByteArray := prog_7_method_23_code
def yX5_takesOut : MethodName := ⟨RX5, "takesOut", "(I)V"⟩
abbrev cX5_crashes : ByteArray := prog_7_method_24_code
def yX5_crashes : MethodName := ⟨RX5, "crashes", "()V"⟩
abbrev cX5_steps : ByteArray := prog_7_method_25_code
def yX5_steps : MethodName := ⟨RX5, "steps", "(II)Z"⟩
abbrev cX5_cuts : ByteArray := prog_7_method_26_code
def yX5_cuts : MethodName := ⟨RX5, "cuts", "(II)I"⟩
abbrev cX5_ends : ByteArray := prog_7_method_27_code
def yX5_ends : MethodName := ⟨RX5, "ends", "(I)Z"⟩
abbrev cX5_create : ByteArray := prog_7_method_28_code
def yX5_create : MethodName := ⟨RX5, "create", "(I)I"⟩
abbrev cX5_open : ByteArray := prog_7_method_29_code
def yX5_open : MethodName := ⟨RX5, "open", "(I)I"⟩
abbrev cX5_close : ByteArray := prog_7_method_30_code
def yX5_close : MethodName := ⟨RX5, "close", "(I)I"⟩
abbrev cX5_delete : ByteArray := prog_7_method_31_code
def yX5_delete : MethodName := ⟨RX5, "delete", "(I)I"⟩
abbrev cX5_write : ByteArray := prog_7_method_32_code
def yX5_write : MethodName := ⟨RX5, "write", "(III)I"⟩
abbrev cX5_areFree : ByteArray := prog_7_method_33_code
def yX5_areFree : MethodName := ⟨RX5, "areFree", "(II)Z"⟩
abbrev cX5_finds : ByteArray := prog_7_method_34_code
def yX5_finds : MethodName := ⟨RX5, "finds", "(II)I"⟩
abbrev cX5_maps : ByteArray := prog_7_method_35_code
def yX5_maps : MethodName := ⟨RX5, "maps", "(III)I"⟩
abbrev cX5_flush : ByteArray := prog_7_method_36_code
def yX5_flush : MethodName := ⟨RX5, "flush", "(I)I"⟩
abbrev cX5_cut : ByteArray := prog_7_method_37_code
def yX5_cut : MethodName := ⟨RX5, "cut", "(II)I"⟩
abbrev cX5_crashBehind : ByteArray := prog_7_method_38_code
def yX5_crashBehind : MethodName := ⟨RX5, "crashBehind", "(I)V"⟩
abbrev cX5_crash : ByteArray := prog_7_method_39_code
def yX5_crash : MethodName := ⟨RX5, "crash", "()V"⟩
abbrev cX5_start : ByteArray := prog_7_method_40_code
def yX5_start : MethodName := ⟨RX5, "start", "()I"⟩
abbrev cX5_isDown : ByteArray := prog_7_method_41_code
def yX5_isDown : MethodName := ⟨RX5, "isDown", "()Z"⟩
abbrev cX5_files : ByteArray := prog_7_method_42_code
def yX5_files : MethodName := ⟨RX5, "files", "()I"⟩
abbrev cX5_listed : ByteArray := prog_7_method_43_code
def yX5_listed : MethodName := ⟨RX5, "listed", "()I"⟩
abbrev cX5_opens : ByteArray := prog_7_method_44_code
def yX5_opens : MethodName := ⟨RX5, "opens", "(I)I"⟩
abbrev cX5_free : ByteArray := prog_7_method_45_code
def yX5_free : MethodName := ⟨RX5, "free", "()I"⟩
abbrev cX5_freeByFiles : ByteArray := prog_7_method_46_code
def yX5_freeByFiles : MethodName := ⟨RX5, "freeByFiles", "()I"⟩
abbrev cX5_reserved : ByteArray := prog_7_method_47_code
def yX5_reserved : MethodName := ⟨RX5, "reserved", "()I"⟩
abbrev cX5_kept : ByteArray := prog_7_method_48_code
def yX5_kept : MethodName := ⟨RX5, "kept", "()I"⟩
abbrev cX5_pieces : ByteArray := prog_7_method_49_code
def yX5_pieces : MethodName := ⟨RX5, "pieces", "(II)I"⟩
abbrev cX5_isFree : ByteArray := prog_7_method_50_code
def yX5_isFree : MethodName := ⟨RX5, "isFree", "(I)Z"⟩
abbrev cX5_blockAt : ByteArray := prog_7_method_51_code
def yX5_blockAt : MethodName := ⟨RX5, "blockAt", "(II)I"⟩
abbrev cX5_isBegin : ByteArray := prog_7_method_52_code
def yX5_isBegin : MethodName := ⟨RX5, "isBegin", "(II)Z"⟩
abbrev cX5_extentsOf : ByteArray := prog_7_method_53_code
def yX5_extentsOf : MethodName := ⟨RX5, "extentsOf", "(I)I"⟩
abbrev cX5_extents : ByteArray := prog_7_method_54_code
def yX5_extents : MethodName := ⟨RX5, "extents", "(I)I"⟩
abbrev cX5_extent : ByteArray := prog_7_method_55_code
def yX5_extent : MethodName := ⟨RX5, "extent", "(II)I"⟩
abbrev cX5_average : ByteArray := prog_7_method_56_code
def yX5_average : MethodName := ⟨RX5, "average", "(I)F"⟩
abbrev cX5_fileOf : ByteArray := prog_7_method_57_code
def yX5_fileOf : MethodName := ⟨RX5, "fileOf", "(I)I"⟩
abbrev cX5_leaves : ByteArray := prog_7_method_58_code
def yX5_leaves : MethodName := ⟨RX5, "leaves", "()I"⟩
abbrev cX5_looks : ByteArray := prog_7_method_59_code
def yX5_looks : MethodName := ⟨RX5, "looks", "(I)I"⟩
def RJx145de : String := "java/io/Serializable"
def TJx145de : u_T := fun k => match k with
  | _ => ("", "", "", false)
def tyJx145de : Nat → FieldType := fun k => match k with
  | _ => .int
abbrev wsJx145de0 : List Cond := u_ws RJx145de TJx145de 0
theorem nmJx145de : ∀ a, a < 0 → ∀ b, b < 0 → a ≠ b → (TJx145de a).2.1 ≠ (TJx145de b).2.1 := by decide +kernel
theorem tyJx145de_ok : ∀ k, k < 0 → parseFieldDescriptor (TJx145de k).2.2.1 = some (tyJx145de k) := by decide +kernel
def RJ9 : String := "java/lang/Math"
def TJ9 : u_T := fun k => match k with
  | _ => ("", "", "", false)
def tyJ9 : Nat → FieldType := fun k => match k with
  | _ => .int
abbrev wsJ90 : List Cond := u_ws RJ9 TJ9 0
theorem nmJ9 : ∀ a, a < 0 → ∀ b, b < 0 → a ≠ b → (TJ9 a).2.1 ≠ (TJ9 b).2.1 := by decide +kernel
theorem tyJ9_ok : ∀ k, k < 0 → parseFieldDescriptor (TJ9 k).2.2.1 = some (tyJ9 k) := by decide +kernel
abbrev cJ9_min_7cf53 : ByteArray := prog_12_method_69_code
def yJ9_min_7cf53 : MethodName := ⟨RJ9, "min", "(II)I"⟩
def RJ0 : String := "java/lang/String"
def TJ0 : u_T := fun k => match k with
  | _ => ("", "", "", false)
def tyJ0 : Nat → FieldType := fun k => match k with
  | _ => .int
abbrev wsJ00 : List Cond := u_ws RJ0 TJ0 0
theorem nmJ0 : ∀ a, a < 0 → ∀ b, b < 0 → a ≠ b → (TJ0 a).2.1 ≠ (TJ0 b).2.1 := by decide +kernel
theorem tyJ0_ok : ∀ k, k < 0 → parseFieldDescriptor (TJ0 k).2.2.1 = some (tyJ0 k) := by decide +kernel
def RJ7 : String := "java/util/Arrays"
def TJ7 : u_T := fun k => match k with
  | _ => ("", "", "", false)
def tyJ7 : Nat → FieldType := fun k => match k with
  | _ => .int
abbrev wsJ70 : List Cond := u_ws RJ7 TJ7 0
theorem nmJ7 : ∀ a, a < 0 → ∀ b, b < 0 → a ≠ b → (TJ7 a).2.1 ≠ (TJ7 b).2.1 := by decide +kernel
theorem tyJ7_ok : ∀ k, k < 0 → parseFieldDescriptor (TJ7 k).2.2.1 = some (tyJ7 k) := by decide +kernel
abbrev cJ7_fill_53178 : ByteArray := prog_16_method_103_code
def yJ7_fill_53178 : MethodName := ⟨RJ7, "fill", "([II)V"⟩
def RL : String := "BuddyfieldLaw"
abbrev cL_create : ByteArray := method_3_code
def yL_create : MethodName := ⟨RL, "create", "(LBuddyfield;I[J)I"⟩
abbrev cL_open : ByteArray := method_4_code
def yL_open : MethodName := ⟨RL, "open", "(LBuddyfield;I[J)I"⟩
abbrev cL_close : ByteArray := method_5_code
def yL_close : MethodName := ⟨RL, "close", "(LBuddyfield;I[J)I"⟩
abbrev cL_delete : ByteArray := method_6_code
def yL_delete : MethodName := ⟨RL, "delete", "(LBuddyfield;I[J)I"⟩
abbrev cL_write : ByteArray := method_7_code
def yL_write : MethodName := ⟨RL, "write", "(LBuddyfield;III[J)I"⟩
abbrev cL_flush : ByteArray := method_8_code
def yL_flush : MethodName := ⟨RL, "flush", "(LBuddyfield;I[J)I"⟩
abbrev cL_cut : ByteArray := method_9_code
def yL_cut : MethodName := ⟨RL, "cut", "(LBuddyfield;II[J)I"⟩
abbrev cL_crashBehind : ByteArray := method_10_code
def yL_crashBehind : MethodName := ⟨RL, "crashBehind", "(LBuddyfield;I)I"⟩
abbrev cL_crash : ByteArray := method_11_code
def yL_crash : MethodName := ⟨RL, "crash", "(LBuddyfield;)I"⟩
abbrev cL_start : ByteArray := method_12_code
def yL_start : MethodName := ⟨RL, "start", "(LBuddyfield;[J)I"⟩
abbrev cL_opens : ByteArray := method_13_code
def yL_opens : MethodName := ⟨RL, "opens", "(LBuddyfield;I[J)I"⟩
abbrev cL_pieces : ByteArray := method_14_code
def yL_pieces : MethodName := ⟨RL, "pieces", "(LBuddyfield;II[J)I"⟩
abbrev cL_isFree : ByteArray := method_15_code
def yL_isFree : MethodName := ⟨RL, "isFree", "(LBuddyfield;I[J)I"⟩
abbrev cL_blockAt : ByteArray := method_16_code
def yL_blockAt : MethodName := ⟨RL, "blockAt", "(LBuddyfield;II[J)I"⟩
abbrev cL_extents : ByteArray := method_17_code
def yL_extents : MethodName := ⟨RL, "extents", "(LBuddyfield;I[J)I"⟩
abbrev cL_extent : ByteArray := method_18_code
def yL_extent : MethodName := ⟨RL, "extent", "(LBuddyfield;II[J)I"⟩
abbrev cL_average : ByteArray := method_19_code
def yL_average : MethodName := ⟨RL, "average", "(LBuddyfield;I[D)I"⟩
abbrev cL_fileOf : ByteArray := method_20_code
def yL_fileOf : MethodName := ⟨RL, "fileOf", "(LBuddyfield;I[J)I"⟩
abbrev cL_looks : ByteArray := method_21_code
def yL_looks : MethodName := ⟨RL, "looks", "(LBuddyfield;I[J)I"⟩
abbrev cL_law : ByteArray := code
def yL_law : MethodName := ⟨RL, "law", "([I)Z"⟩
def wsJ7_fill_53178 : List Cond := .code yJ7_fill_53178 cJ7_fill_53178 4 none :: ([])
def wsX0_init : List Cond := .code yX0_init cX0_init 2 none :: ([.methodLink RX0 3 objectInit, .instanceMethod objectInit, .code objectInit ⟨#[0xb1]⟩ 1 none, .arrayClass .int, .fieldLink RX0 9 "Buddyfield$Content" "blocks" "[I", .fieldLink RX0 15 "Buddyfield$Content" "exists" "Z", .fieldLink RX0 19 "Buddyfield$Content" "timesOpen" "I", .fieldLink RX0 23 "Buddyfield$Content" "reservedPlaces" "I", .fieldLink RX0 26 "Buddyfield$Content" "keptPlace" "I", .fieldLink RX0 29 "Buddyfield$Content" "firstKept" "I", .fieldLink RX0 32 "Buddyfield$Content" "keptBlocks" "I", .fieldLink RX0 35 "Buddyfield$Content" "isListed" "Z", .fieldLink RX0 38 "Buddyfield$Content" "isDoomed" "Z", .fieldLink RX0 41 "Buddyfield$Content" "listedSize" "I", .fieldLink RX0 44 "Buddyfield$Content" "file" "I", .methodLink RX0 47 yJ7_fill_53178, .static yJ7_fill_53178, .initialized RJ7, .code yJ7_fill_53178 cJ7_fill_53178 4 none] ++ wsX00)
def wsX0_begin : List Cond := .code yX0_begin cX0_begin 1 none :: ([.fieldLink RX0 15 "Buddyfield$Content" "exists" "Z"] ++ wsX00)
def wsX0_isMapped : List Cond := .code yX0_isMapped cX0_isMapped 2 (some .boolean) :: ([.fieldLink RX0 9 "Buddyfield$Content" "blocks" "[I"] ++ wsX00)
def wsX0_isReserved : List Cond := .code yX0_isReserved cX0_isReserved 2 (some .boolean) :: ([.fieldLink RX0 9 "Buddyfield$Content" "blocks" "[I"] ++ wsX00)
def wsX0_endOfReserved : List Cond := .code yX0_endOfReserved cX0_endOfReserved 3 (some .int) :: ([.methodLink RX0 53 yX0_isReserved, .instanceMethod yX0_isReserved, .selects RX0 yX0_isReserved yX0_isReserved, .initialized RX0, .code yX0_isReserved cX0_isReserved 2 (some .boolean), .fieldLink RX0 9 "Buddyfield$Content" "blocks" "[I"] ++ wsX00)
def wsX0_emptyPlaces : List Cond := .code yX0_emptyPlaces cX0_emptyPlaces 5 (some .int) :: ([.fieldLink RX0 9 "Buddyfield$Content" "blocks" "[I"] ++ wsX00)
def wsX0_reserve : List Cond := .code yX0_reserve cX0_reserve 4 none :: ([.fieldLink RX0 9 "Buddyfield$Content" "blocks" "[I", .fieldLink RX0 23 "Buddyfield$Content" "reservedPlaces" "I"] ++ wsX00)
def wsX0_dropReserved : List Cond := .code yX0_dropReserved cX0_dropReserved 3 none :: ([.fieldLink RX0 9 "Buddyfield$Content" "blocks" "[I", .fieldLink RX0 23 "Buddyfield$Content" "reservedPlaces" "I"] ++ wsX00)
def wsX0_map : List Cond := .code yX0_map cX0_map 5 none :: ([.fieldLink RX0 9 "Buddyfield$Content" "blocks" "[I", .fieldLink RX0 23 "Buddyfield$Content" "reservedPlaces" "I"] ++ wsX00)
def wsX0_keep : List Cond := .code yX0_keep cX0_keep 4 none :: ([.fieldLink RX0 26 "Buddyfield$Content" "keptPlace" "I", .fieldLink RX0 29 "Buddyfield$Content" "firstKept" "I", .fieldLink RX0 32 "Buddyfield$Content" "keptBlocks" "I"] ++ wsX00)
def wsX0_isKeptFor : List Cond := .code yX0_isKeptFor cX0_isKeptFor 2 (some .boolean) :: ([.fieldLink RX0 32 "Buddyfield$Content" "keptBlocks" "I", .fieldLink RX0 26 "Buddyfield$Content" "keptPlace" "I"] ++ wsX00)
def wsX0_mapKept : List Cond := .code yX0_mapKept cX0_mapKept 4 (some .int) :: ([.fieldLink RX0 32 "Buddyfield$Content" "keptBlocks" "I", .methodLink RX0 57 Lib.Math.min.name, .static Lib.Math.min.name, .initialized "java/lang/Math", .code Lib.Math.min.name Lib.Math.min.code 2 (some .int), .fieldLink RX0 29 "Buddyfield$Content" "firstKept" "I", .methodLink RX0 63 yX0_map, .instanceMethod yX0_map, .selects RX0 yX0_map yX0_map, .initialized RX0, .code yX0_map cX0_map 5 none, .fieldLink RX0 9 "Buddyfield$Content" "blocks" "[I", .fieldLink RX0 23 "Buddyfield$Content" "reservedPlaces" "I", .methodLink RX0 67 yX0_keep, .instanceMethod yX0_keep, .selects RX0 yX0_keep yX0_keep, .code yX0_keep cX0_keep 4 none, .fieldLink RX0 26 "Buddyfield$Content" "keptPlace" "I"] ++ wsX00)
def wsX0_mappedPlaces : List Cond := .code yX0_mappedPlaces cX0_mappedPlaces 3 (some .int) :: ([.fieldLink RX0 9 "Buddyfield$Content" "blocks" "[I"] ++ wsX00)
def wsX0_joinsAhead : List Cond := .code yX0_joinsAhead cX0_joinsAhead 2 (some .boolean) :: ([.fieldLink RX0 9 "Buddyfield$Content" "blocks" "[I", .methodLink RX0 70 yX0_isMapped, .instanceMethod yX0_isMapped, .selects RX0 yX0_isMapped yX0_isMapped, .initialized RX0, .code yX0_isMapped cX0_isMapped 2 (some .boolean)] ++ wsX00)
def wsX0_beginsExtent : List Cond := .code yX0_beginsExtent cX0_beginsExtent 2 (some .boolean) :: ([.methodLink RX0 70 yX0_isMapped, .instanceMethod yX0_isMapped, .selects RX0 yX0_isMapped yX0_isMapped, .initialized RX0, .code yX0_isMapped cX0_isMapped 2 (some .boolean), .fieldLink RX0 9 "Buddyfield$Content" "blocks" "[I", .methodLink RX0 73 yX0_joinsAhead, .instanceMethod yX0_joinsAhead, .selects RX0 yX0_joinsAhead yX0_joinsAhead, .code yX0_joinsAhead cX0_joinsAhead 2 (some .boolean)] ++ wsX00)
def wsX0_countExtents : List Cond := .code yX0_countExtents cX0_countExtents 3 (some .int) :: ([.methodLink RX0 76 yX0_beginsExtent, .instanceMethod yX0_beginsExtent, .selects RX0 yX0_beginsExtent yX0_beginsExtent, .initialized RX0, .code yX0_beginsExtent cX0_beginsExtent 2 (some .boolean), .methodLink RX0 70 yX0_isMapped, .instanceMethod yX0_isMapped, .selects RX0 yX0_isMapped yX0_isMapped, .code yX0_isMapped cX0_isMapped 2 (some .boolean), .fieldLink RX0 9 "Buddyfield$Content" "blocks" "[I", .methodLink RX0 73 yX0_joinsAhead, .instanceMethod yX0_joinsAhead, .selects RX0 yX0_joinsAhead yX0_joinsAhead, .code yX0_joinsAhead cX0_joinsAhead 2 (some .boolean)] ++ wsX00)
def wsX0_beginOfExtent : List Cond := .code yX0_beginOfExtent cX0_beginOfExtent 4 (some .int) :: ([.methodLink RX0 76 yX0_beginsExtent, .instanceMethod yX0_beginsExtent, .selects RX0 yX0_beginsExtent yX0_beginsExtent, .initialized RX0, .code yX0_beginsExtent cX0_beginsExtent 2 (some .boolean), .methodLink RX0 70 yX0_isMapped, .instanceMethod yX0_isMapped, .selects RX0 yX0_isMapped yX0_isMapped, .code yX0_isMapped cX0_isMapped 2 (some .boolean), .fieldLink RX0 9 "Buddyfield$Content" "blocks" "[I", .methodLink RX0 73 yX0_joinsAhead, .instanceMethod yX0_joinsAhead, .selects RX0 yX0_joinsAhead yX0_joinsAhead, .code yX0_joinsAhead cX0_joinsAhead 2 (some .boolean)] ++ wsX00)
def wsX0_lengthOfExtent : List Cond := .code yX0_lengthOfExtent cX0_lengthOfExtent 3 (some .int) :: ([.methodLink RX0 73 yX0_joinsAhead, .instanceMethod yX0_joinsAhead, .selects RX0 yX0_joinsAhead yX0_joinsAhead, .initialized RX0, .code yX0_joinsAhead cX0_joinsAhead 2 (some .boolean), .fieldLink RX0 9 "Buddyfield$Content" "blocks" "[I", .methodLink RX0 70 yX0_isMapped, .instanceMethod yX0_isMapped, .selects RX0 yX0_isMapped yX0_isMapped, .code yX0_isMapped cX0_isMapped 2 (some .boolean)] ++ wsX00)
def wsX3_init : List Cond := .code yX3_init cX3_init 3 none :: ([.methodLink RX3 3 objectInit, .instanceMethod objectInit, .code objectInit ⟨#[0xb1]⟩ 1 none, .arrayClass .int, .fieldLink RX3 9 "Buddyfield$Leaf" "names" "[I", .fieldLink RX3 15 "Buddyfield$Leaf" "files" "[I", .fieldLink RX3 18 "Buddyfield$Leaf" "count" "I", .fieldLink RX3 22 "Buddyfield$Leaf" "back" "LBuddyfield$Leaf;", .fieldLink RX3 26 "Buddyfield$Leaf" "next" "LBuddyfield$Leaf;", .fieldLink RX3 29 "Buddyfield$Leaf" "low" "I", .fieldLink RX3 32 "Buddyfield$Leaf" "continued" "Z"] ++ wsX30)
def wsX1_init : List Cond := .code yX1_init cX1_init 1 none :: ([.methodLink RX1 3 objectInit, .instanceMethod objectInit, .code objectInit ⟨#[0xb1]⟩ 1 none, .classLink RX1 9 RX3, .instantiable RX3 7, .initialized RX3, .fieldLink RX1 14 "Buddyfield$Directory" "firstLeaf" "LBuddyfield$Leaf;", .fieldLink RX1 20 "Buddyfield$Directory" "leafCount" "I", .instanceMethod yX3_init, .code yX3_init cX3_init 3 none, .methodLink RX3 3 objectInit, .arrayClass .int, .fieldLink RX3 9 "Buddyfield$Leaf" "names" "[I", .fieldLink RX3 15 "Buddyfield$Leaf" "files" "[I", .fieldLink RX3 18 "Buddyfield$Leaf" "count" "I", .fieldLink RX3 22 "Buddyfield$Leaf" "back" "LBuddyfield$Leaf;", .fieldLink RX3 26 "Buddyfield$Leaf" "next" "LBuddyfield$Leaf;", .fieldLink RX3 29 "Buddyfield$Leaf" "low" "I", .fieldLink RX3 32 "Buddyfield$Leaf" "continued" "Z"] ++ wsX30 ++ wsX10)
def wsX1_isFull : List Cond := .code yX1_isFull cX1_isFull 1 (some .boolean) :: ([.fieldLink RX1 20 "Buddyfield$Directory" "leafCount" "I"] ++ wsX10)
def wsX4_hashOf : List Cond := .code yX4_hashOf cX4_hashOf 1 (some .int) :: ([])
def wsX1_lastLeafFor : List Cond := .code yX1_lastLeafFor cX1_lastLeafFor 4 (some (.object "Buddyfield$Leaf")) :: ([.fieldLink RX1 14 "Buddyfield$Directory" "firstLeaf" "LBuddyfield$Leaf;"] ++ wsX10 ++ wsX30)
def wsX3_rankOf : List Cond := .code yX3_rankOf cX3_rankOf 1 (some .int) :: ([.static yX4_hashOf, .initialized RX4, .code yX4_hashOf cX4_hashOf 1 (some .int)])
def wsX3_insert : List Cond := .code yX3_insert cX3_insert 4 none :: ([.fieldLink RX3 18 "Buddyfield$Leaf" "count" "I", .fieldLink RX3 9 "Buddyfield$Leaf" "names" "[I", .fieldLink RX3 15 "Buddyfield$Leaf" "files" "[I", .methodLink RX3 40 yX3_rankOf, .static yX3_rankOf, .initialized RX3, .code yX3_rankOf cX3_rankOf 1 (some .int), .static yX4_hashOf, .initialized RX4, .code yX4_hashOf cX4_hashOf 1 (some .int)] ++ wsX30)
def wsX3_linkBehind : List Cond := .code yX3_linkBehind cX3_linkBehind 2 none :: ([.fieldLink RX3 22 "Buddyfield$Leaf" "back" "LBuddyfield$Leaf;", .fieldLink RX3 26 "Buddyfield$Leaf" "next" "LBuddyfield$Leaf;"] ++ wsX30)
def wsX3_split_r1 : List Cond := [Cond.fieldLink RX3 9 "Buddyfield$Leaf" "names" "[I", Cond.classLink RX3 10 RX3, Cond.instantiable RX3 7, Cond.initialized RX3, Cond.fieldLink RX3 18 "Buddyfield$Leaf" "count" "I", Cond.fieldLink RX3 15 "Buddyfield$Leaf" "files" "[I", Cond.static yX4_hashOf, Cond.initialized RX4, Cond.code yX4_hashOf cX4_hashOf 1 (some .int), Cond.methodLink RX3 46 yX3_init, Cond.instanceMethod yX3_init, Cond.code yX3_init cX3_init 3 none, Cond.methodLink RX3 3 objectInit, Cond.instanceMethod objectInit, Cond.code objectInit ⟨#[0xb1]⟩ 1 none, Cond.arrayClass .int, Cond.fieldLink RX3 22 "Buddyfield$Leaf" "back" "LBuddyfield$Leaf;", Cond.fieldLink RX3 26 "Buddyfield$Leaf" "next" "LBuddyfield$Leaf;", Cond.fieldLink RX3 29 "Buddyfield$Leaf" "low" "I", Cond.fieldLink RX3 32 "Buddyfield$Leaf" "continued" "Z", Cond.methodLink RX3 49 yX3_insert, Cond.instanceMethod yX3_insert, Cond.selects RX3 yX3_insert yX3_insert, Cond.code yX3_insert cX3_insert 4 none]
def wsX3_split_r2 : List Cond := [Cond.methodLink RX3 40 yX3_rankOf, Cond.static yX3_rankOf, Cond.code yX3_rankOf cX3_rankOf 1 (some .int), Cond.methodLink RX3 53 yX3_linkBehind, Cond.instanceMethod yX3_linkBehind, Cond.selects RX3 yX3_linkBehind yX3_linkBehind, Cond.code yX3_linkBehind cX3_linkBehind 2 none]
def wsX3_split : List Cond := .code yX3_split cX3_split 5 none :: ((wsX3_split_r1 ++ wsX3_split_r2) ++ wsX30)
def wsX1_add_r1 : List Cond := [Cond.fieldLink RX1 20 "Buddyfield$Directory" "leafCount" "I", Cond.static yX4_hashOf, Cond.initialized RX4, Cond.code yX4_hashOf cX4_hashOf 1 (some .int), Cond.methodLink RX1 28 yX1_lastLeafFor, Cond.instanceMethod yX1_lastLeafFor, Cond.selects RX1 yX1_lastLeafFor yX1_lastLeafFor, Cond.initialized RX1, Cond.code yX1_lastLeafFor cX1_lastLeafFor 4 (some (.object "Buddyfield$Leaf")), Cond.fieldLink RX1 14 "Buddyfield$Directory" "firstLeaf" "LBuddyfield$Leaf;", Cond.instanceMethod yX3_split, Cond.initialized RX3, Cond.selects RX3 yX3_split yX3_split, Cond.code yX3_split cX3_split 5 none, Cond.fieldLink RX3 9 "Buddyfield$Leaf" "names" "[I", Cond.classLink RX3 10 RX3, Cond.instantiable RX3 7, Cond.fieldLink RX3 18 "Buddyfield$Leaf" "count" "I", Cond.fieldLink RX3 15 "Buddyfield$Leaf" "files" "[I", Cond.methodLink RX3 46 yX3_init, Cond.instanceMethod yX3_init, Cond.code yX3_init cX3_init 3 none, Cond.methodLink RX3 3 objectInit, Cond.instanceMethod objectInit]
def wsX1_add_r2 : List Cond := [Cond.code objectInit ⟨#[0xb1]⟩ 1 none, Cond.arrayClass .int, Cond.fieldLink RX3 22 "Buddyfield$Leaf" "back" "LBuddyfield$Leaf;", Cond.fieldLink RX3 26 "Buddyfield$Leaf" "next" "LBuddyfield$Leaf;", Cond.fieldLink RX3 29 "Buddyfield$Leaf" "low" "I", Cond.fieldLink RX3 32 "Buddyfield$Leaf" "continued" "Z", Cond.methodLink RX3 49 yX3_insert, Cond.instanceMethod yX3_insert, Cond.selects RX3 yX3_insert yX3_insert, Cond.code yX3_insert cX3_insert 4 none, Cond.methodLink RX3 40 yX3_rankOf, Cond.static yX3_rankOf, Cond.code yX3_rankOf cX3_rankOf 1 (some .int), Cond.methodLink RX3 53 yX3_linkBehind, Cond.instanceMethod yX3_linkBehind, Cond.selects RX3 yX3_linkBehind yX3_linkBehind, Cond.code yX3_linkBehind cX3_linkBehind 2 none]
def wsX1_add : List Cond := .code yX1_add cX1_add 4 none :: ((wsX1_add_r1 ++ wsX1_add_r2) ++ wsX30 ++ wsX10)
def wsX3_continues : List Cond := .code yX3_continues cX3_continues 2 (some .boolean) :: ([.fieldLink RX3 32 "Buddyfield$Leaf" "continued" "Z", .fieldLink RX3 29 "Buddyfield$Leaf" "low" "I"] ++ wsX30)
def wsX1_firstLookedAt : List Cond := .code yX1_firstLookedAt cX1_firstLookedAt 4 (some (.object "Buddyfield$Leaf")) :: ([.static yX4_hashOf, .initialized RX4, .code yX4_hashOf cX4_hashOf 1 (some .int), .methodLink RX1 28 yX1_lastLeafFor, .instanceMethod yX1_lastLeafFor, .selects RX1 yX1_lastLeafFor yX1_lastLeafFor, .initialized RX1, .code yX1_lastLeafFor cX1_lastLeafFor 4 (some (.object "Buddyfield$Leaf")), .fieldLink RX1 14 "Buddyfield$Directory" "firstLeaf" "LBuddyfield$Leaf;", .instanceMethod yX3_continues, .initialized RX3, .selects RX3 yX3_continues yX3_continues, .code yX3_continues cX3_continues 2 (some .boolean), .fieldLink RX3 32 "Buddyfield$Leaf" "continued" "Z", .fieldLink RX3 29 "Buddyfield$Leaf" "low" "I"] ++ wsX30 ++ wsX10)
def wsX3_indexOf : List Cond := .code yX3_indexOf cX3_indexOf 3 (some .int) :: ([.fieldLink RX3 18 "Buddyfield$Leaf" "count" "I", .fieldLink RX3 9 "Buddyfield$Leaf" "names" "[I"] ++ wsX30)
def wsX3_has : List Cond := .code yX3_has cX3_has 2 (some .boolean) :: ([.methodLink RX3 36 yX3_indexOf, .instanceMethod yX3_indexOf, .selects RX3 yX3_indexOf yX3_indexOf, .initialized RX3, .code yX3_indexOf cX3_indexOf 3 (some .int), .fieldLink RX3 18 "Buddyfield$Leaf" "count" "I", .fieldLink RX3 9 "Buddyfield$Leaf" "names" "[I"] ++ wsX30)
def wsX1_lastLookedAt_r1 : List Cond := [Cond.static yX4_hashOf, Cond.initialized RX4, Cond.code yX4_hashOf cX4_hashOf 1 (some .int), Cond.methodLink RX1 52 yX1_firstLookedAt, Cond.instanceMethod yX1_firstLookedAt, Cond.selects RX1 yX1_firstLookedAt yX1_firstLookedAt, Cond.initialized RX1, Cond.code yX1_firstLookedAt cX1_firstLookedAt 4 (some (.object "Buddyfield$Leaf")), Cond.methodLink RX1 28 yX1_lastLeafFor, Cond.instanceMethod yX1_lastLeafFor, Cond.selects RX1 yX1_lastLeafFor yX1_lastLeafFor, Cond.code yX1_lastLeafFor cX1_lastLeafFor 4 (some (.object "Buddyfield$Leaf")), Cond.fieldLink RX1 14 "Buddyfield$Directory" "firstLeaf" "LBuddyfield$Leaf;", Cond.instanceMethod yX3_continues, Cond.initialized RX3, Cond.selects RX3 yX3_continues yX3_continues, Cond.code yX3_continues cX3_continues 2 (some .boolean), Cond.fieldLink RX3 32 "Buddyfield$Leaf" "continued" "Z", Cond.fieldLink RX3 29 "Buddyfield$Leaf" "low" "I", Cond.instanceMethod yX3_has, Cond.selects RX3 yX3_has yX3_has, Cond.code yX3_has cX3_has 2 (some .boolean), Cond.methodLink RX3 36 yX3_indexOf, Cond.instanceMethod yX3_indexOf]
def wsX1_lastLookedAt_r2 : List Cond := [Cond.selects RX3 yX3_indexOf yX3_indexOf, Cond.code yX3_indexOf cX3_indexOf 3 (some .int), Cond.fieldLink RX3 18 "Buddyfield$Leaf" "count" "I", Cond.fieldLink RX3 9 "Buddyfield$Leaf" "names" "[I"]
def wsX1_lastLookedAt : List Cond := .code yX1_lastLookedAt cX1_lastLookedAt 4 (some (.object "Buddyfield$Leaf")) :: ((wsX1_lastLookedAt_r1 ++ wsX1_lastLookedAt_r2) ++ wsX30 ++ wsX10)
def wsX3_takeOut : List Cond := .code yX3_takeOut cX3_takeOut 4 none :: ([.fieldLink RX3 18 "Buddyfield$Leaf" "count" "I", .fieldLink RX3 9 "Buddyfield$Leaf" "names" "[I", .fieldLink RX3 15 "Buddyfield$Leaf" "files" "[I", .methodLink RX3 36 yX3_indexOf, .instanceMethod yX3_indexOf, .selects RX3 yX3_indexOf yX3_indexOf, .initialized RX3, .code yX3_indexOf cX3_indexOf 3 (some .int)] ++ wsX30)
def wsX1_takeOut_r1 : List Cond := [Cond.methodLink RX1 42 yX1_lastLookedAt, Cond.instanceMethod yX1_lastLookedAt, Cond.selects RX1 yX1_lastLookedAt yX1_lastLookedAt, Cond.initialized RX1, Cond.code yX1_lastLookedAt cX1_lastLookedAt 4 (some (.object "Buddyfield$Leaf")), Cond.static yX4_hashOf, Cond.initialized RX4, Cond.code yX4_hashOf cX4_hashOf 1 (some .int), Cond.methodLink RX1 52 yX1_firstLookedAt, Cond.instanceMethod yX1_firstLookedAt, Cond.selects RX1 yX1_firstLookedAt yX1_firstLookedAt, Cond.code yX1_firstLookedAt cX1_firstLookedAt 4 (some (.object "Buddyfield$Leaf")), Cond.methodLink RX1 28 yX1_lastLeafFor, Cond.instanceMethod yX1_lastLeafFor, Cond.selects RX1 yX1_lastLeafFor yX1_lastLeafFor, Cond.code yX1_lastLeafFor cX1_lastLeafFor 4 (some (.object "Buddyfield$Leaf")), Cond.fieldLink RX1 14 "Buddyfield$Directory" "firstLeaf" "LBuddyfield$Leaf;", Cond.instanceMethod yX3_continues, Cond.initialized RX3, Cond.selects RX3 yX3_continues yX3_continues, Cond.code yX3_continues cX3_continues 2 (some .boolean), Cond.fieldLink RX3 32 "Buddyfield$Leaf" "continued" "Z", Cond.fieldLink RX3 29 "Buddyfield$Leaf" "low" "I", Cond.instanceMethod yX3_has]
def wsX1_takeOut_r2 : List Cond := [Cond.selects RX3 yX3_has yX3_has, Cond.code yX3_has cX3_has 2 (some .boolean), Cond.methodLink RX3 36 yX3_indexOf, Cond.instanceMethod yX3_indexOf, Cond.selects RX3 yX3_indexOf yX3_indexOf, Cond.code yX3_indexOf cX3_indexOf 3 (some .int), Cond.fieldLink RX3 18 "Buddyfield$Leaf" "count" "I", Cond.fieldLink RX3 9 "Buddyfield$Leaf" "names" "[I", Cond.instanceMethod yX3_takeOut, Cond.selects RX3 yX3_takeOut yX3_takeOut, Cond.code yX3_takeOut cX3_takeOut 4 none, Cond.fieldLink RX3 15 "Buddyfield$Leaf" "files" "[I"]
def wsX1_takeOut : List Cond := .code yX1_takeOut cX1_takeOut 2 none :: ((wsX1_takeOut_r1 ++ wsX1_takeOut_r2) ++ wsX30 ++ wsX10)
def wsX3_fileWith : List Cond := .code yX3_fileWith cX3_fileWith 3 (some .int) :: ([.fieldLink RX3 15 "Buddyfield$Leaf" "files" "[I", .methodLink RX3 36 yX3_indexOf, .instanceMethod yX3_indexOf, .selects RX3 yX3_indexOf yX3_indexOf, .initialized RX3, .code yX3_indexOf cX3_indexOf 3 (some .int), .fieldLink RX3 18 "Buddyfield$Leaf" "count" "I", .fieldLink RX3 9 "Buddyfield$Leaf" "names" "[I"] ++ wsX30)
def wsX1_fileWith_r1 : List Cond := [Cond.methodLink RX1 42 yX1_lastLookedAt, Cond.instanceMethod yX1_lastLookedAt, Cond.selects RX1 yX1_lastLookedAt yX1_lastLookedAt, Cond.initialized RX1, Cond.code yX1_lastLookedAt cX1_lastLookedAt 4 (some (.object "Buddyfield$Leaf")), Cond.static yX4_hashOf, Cond.initialized RX4, Cond.code yX4_hashOf cX4_hashOf 1 (some .int), Cond.methodLink RX1 52 yX1_firstLookedAt, Cond.instanceMethod yX1_firstLookedAt, Cond.selects RX1 yX1_firstLookedAt yX1_firstLookedAt, Cond.code yX1_firstLookedAt cX1_firstLookedAt 4 (some (.object "Buddyfield$Leaf")), Cond.methodLink RX1 28 yX1_lastLeafFor, Cond.instanceMethod yX1_lastLeafFor, Cond.selects RX1 yX1_lastLeafFor yX1_lastLeafFor, Cond.code yX1_lastLeafFor cX1_lastLeafFor 4 (some (.object "Buddyfield$Leaf")), Cond.fieldLink RX1 14 "Buddyfield$Directory" "firstLeaf" "LBuddyfield$Leaf;", Cond.instanceMethod yX3_continues, Cond.initialized RX3, Cond.selects RX3 yX3_continues yX3_continues, Cond.code yX3_continues cX3_continues 2 (some .boolean), Cond.fieldLink RX3 32 "Buddyfield$Leaf" "continued" "Z", Cond.fieldLink RX3 29 "Buddyfield$Leaf" "low" "I", Cond.instanceMethod yX3_has]
def wsX1_fileWith_r2 : List Cond := [Cond.selects RX3 yX3_has yX3_has, Cond.code yX3_has cX3_has 2 (some .boolean), Cond.methodLink RX3 36 yX3_indexOf, Cond.instanceMethod yX3_indexOf, Cond.selects RX3 yX3_indexOf yX3_indexOf, Cond.code yX3_indexOf cX3_indexOf 3 (some .int), Cond.fieldLink RX3 18 "Buddyfield$Leaf" "count" "I", Cond.fieldLink RX3 9 "Buddyfield$Leaf" "names" "[I", Cond.instanceMethod yX3_fileWith, Cond.selects RX3 yX3_fileWith yX3_fileWith, Cond.code yX3_fileWith cX3_fileWith 3 (some .int), Cond.fieldLink RX3 15 "Buddyfield$Leaf" "files" "[I"]
def wsX1_fileWith : List Cond := .code yX1_fileWith cX1_fileWith 2 (some .int) :: ((wsX1_fileWith_r1 ++ wsX1_fileWith_r2) ++ wsX30 ++ wsX10)
def wsX1_countLooks_r1 : List Cond := [Cond.methodLink RX1 42 yX1_lastLookedAt, Cond.instanceMethod yX1_lastLookedAt, Cond.selects RX1 yX1_lastLookedAt yX1_lastLookedAt, Cond.initialized RX1, Cond.code yX1_lastLookedAt cX1_lastLookedAt 4 (some (.object "Buddyfield$Leaf")), Cond.static yX4_hashOf, Cond.initialized RX4, Cond.code yX4_hashOf cX4_hashOf 1 (some .int), Cond.methodLink RX1 52 yX1_firstLookedAt, Cond.instanceMethod yX1_firstLookedAt, Cond.selects RX1 yX1_firstLookedAt yX1_firstLookedAt, Cond.code yX1_firstLookedAt cX1_firstLookedAt 4 (some (.object "Buddyfield$Leaf")), Cond.methodLink RX1 28 yX1_lastLeafFor, Cond.instanceMethod yX1_lastLeafFor, Cond.selects RX1 yX1_lastLeafFor yX1_lastLeafFor, Cond.code yX1_lastLeafFor cX1_lastLeafFor 4 (some (.object "Buddyfield$Leaf")), Cond.fieldLink RX1 14 "Buddyfield$Directory" "firstLeaf" "LBuddyfield$Leaf;", Cond.instanceMethod yX3_continues, Cond.initialized RX3, Cond.selects RX3 yX3_continues yX3_continues, Cond.code yX3_continues cX3_continues 2 (some .boolean), Cond.fieldLink RX3 32 "Buddyfield$Leaf" "continued" "Z", Cond.fieldLink RX3 29 "Buddyfield$Leaf" "low" "I", Cond.instanceMethod yX3_has]
def wsX1_countLooks_r2 : List Cond := [Cond.selects RX3 yX3_has yX3_has, Cond.code yX3_has cX3_has 2 (some .boolean), Cond.methodLink RX3 36 yX3_indexOf, Cond.instanceMethod yX3_indexOf, Cond.selects RX3 yX3_indexOf yX3_indexOf, Cond.code yX3_indexOf cX3_indexOf 3 (some .int), Cond.fieldLink RX3 18 "Buddyfield$Leaf" "count" "I", Cond.fieldLink RX3 9 "Buddyfield$Leaf" "names" "[I"]
def wsX1_countLooks : List Cond := .code yX1_countLooks cX1_countLooks 5 (some .int) :: ((wsX1_countLooks_r1 ++ wsX1_countLooks_r2) ++ wsX30 ++ wsX10)
def wsX2_init : List Cond := .code yX2_init cX2_init 1 none :: ([.methodLink RX2 3 objectInit, .instanceMethod objectInit, .code objectInit ⟨#[0xb1]⟩ 1 none, .arrayClass .boolean, .fieldLink RX2 9 "Buddyfield$Ground" "isTaken" "[Z", .fieldLink RX2 15 "Buddyfield$Ground" "freeBlocks" "I"] ++ wsX20)
def wsX2_areFree : List Cond := .code yX2_areFree cX2_areFree 4 (some .boolean) :: ([.fieldLink RX2 9 "Buddyfield$Ground" "isTaken" "[Z"] ++ wsX20)
def wsX2_mark : List Cond := .code yX2_mark cX2_mark 5 none :: ([.fieldLink RX2 9 "Buddyfield$Ground" "isTaken" "[Z", .fieldLink RX2 15 "Buddyfield$Ground" "freeBlocks" "I"] ++ wsX20)
def wsX2_take : List Cond := .code yX2_take cX2_take 3 none :: ([.methodLink RX2 19 yX2_mark, .instanceMethod yX2_mark, .selects RX2 yX2_mark yX2_mark, .initialized RX2, .code yX2_mark cX2_mark 5 none, .fieldLink RX2 9 "Buddyfield$Ground" "isTaken" "[Z", .fieldLink RX2 15 "Buddyfield$Ground" "freeBlocks" "I"] ++ wsX20)
def wsX2_release : List Cond := .code yX2_release cX2_release 3 none :: ([.methodLink RX2 19 yX2_mark, .instanceMethod yX2_mark, .selects RX2 yX2_mark yX2_mark, .initialized RX2, .code yX2_mark cX2_mark 5 none, .fieldLink RX2 9 "Buddyfield$Ground" "isTaken" "[Z", .fieldLink RX2 15 "Buddyfield$Ground" "freeBlocks" "I"] ++ wsX20)
def wsX2_isFreePiece : List Cond := .code yX2_isFreePiece cX2_isFreePiece 3 (some .boolean) :: ([.methodLink RX2 23 yX2_areFree, .instanceMethod yX2_areFree, .selects RX2 yX2_areFree yX2_areFree, .initialized RX2, .code yX2_areFree cX2_areFree 4 (some .boolean), .fieldLink RX2 9 "Buddyfield$Ground" "isTaken" "[Z"] ++ wsX20)
def wsX2_firstPiece : List Cond := .code yX2_firstPiece cX2_firstPiece 5 (some .int) :: ([.methodLink RX2 31 yX2_isFreePiece, .instanceMethod yX2_isFreePiece, .selects RX2 yX2_isFreePiece yX2_isFreePiece, .initialized RX2, .code yX2_isFreePiece cX2_isFreePiece 3 (some .boolean), .methodLink RX2 23 yX2_areFree, .instanceMethod yX2_areFree, .selects RX2 yX2_areFree yX2_areFree, .code yX2_areFree cX2_areFree 4 (some .boolean), .fieldLink RX2 9 "Buddyfield$Ground" "isTaken" "[Z"] ++ wsX20)
def wsX2_find : List Cond := .code yX2_find cX2_find 7 (some .int) :: ([.methodLink RX2 23 yX2_areFree, .instanceMethod yX2_areFree, .selects RX2 yX2_areFree yX2_areFree, .initialized RX2, .code yX2_areFree cX2_areFree 4 (some .boolean), .fieldLink RX2 9 "Buddyfield$Ground" "isTaken" "[Z", .methodLink RX2 27 yX2_firstPiece, .instanceMethod yX2_firstPiece, .selects RX2 yX2_firstPiece yX2_firstPiece, .code yX2_firstPiece cX2_firstPiece 5 (some .int), .methodLink RX2 31 yX2_isFreePiece, .instanceMethod yX2_isFreePiece, .selects RX2 yX2_isFreePiece yX2_isFreePiece, .code yX2_isFreePiece cX2_isFreePiece 3 (some .boolean)] ++ wsX20)
def wsX2_countPieces : List Cond := .code yX2_countPieces cX2_countPieces 6 (some .int) :: ([.methodLink RX2 31 yX2_isFreePiece, .instanceMethod yX2_isFreePiece, .selects RX2 yX2_isFreePiece yX2_isFreePiece, .initialized RX2, .code yX2_isFreePiece cX2_isFreePiece 3 (some .boolean), .methodLink RX2 23 yX2_areFree, .instanceMethod yX2_areFree, .selects RX2 yX2_areFree yX2_areFree, .code yX2_areFree cX2_areFree 4 (some .boolean), .fieldLink RX2 9 "Buddyfield$Ground" "isTaken" "[Z"] ++ wsX20)
def wsX4_init_r1 : List Cond := [Cond.methodLink RX4 1 objectInit, Cond.instanceMethod objectInit, Cond.code objectInit ⟨#[0xb1]⟩ 1 none, Cond.classLink RX4 7 RX2, Cond.instantiable RX2 2, Cond.initialized RX2, Cond.fieldLink RX4 10 "Buddyfield" "ground" "LBuddyfield$Ground;", Cond.classLink RX4 16 RX1, Cond.instantiable RX1 2, Cond.initialized RX1, Cond.fieldLink RX4 19 "Buddyfield" "directory" "LBuddyfield$Directory;", Cond.classLink RX4 23 RX0, Cond.fieldLink RX4 25 "Buddyfield" "contents" "[LBuddyfield$Content;", Cond.fieldLink RX4 29 "Buddyfield" "stepsToCrash" "I", Cond.fieldLink RX4 33 "Buddyfield" "down" "Z", Cond.instantiable RX0 11, Cond.initialized RX0, Cond.instanceMethod yX2_init, Cond.code yX2_init cX2_init 1 none, Cond.methodLink RX2 3 objectInit, Cond.arrayClass .boolean, Cond.fieldLink RX2 9 "Buddyfield$Ground" "isTaken" "[Z", Cond.fieldLink RX2 15 "Buddyfield$Ground" "freeBlocks" "I", Cond.instanceMethod yX1_init]
def wsX4_init_r2 : List Cond := [Cond.code yX1_init cX1_init 1 none, Cond.methodLink RX1 3 objectInit, Cond.classLink RX1 9 RX3, Cond.instantiable RX3 7, Cond.initialized RX3, Cond.fieldLink RX1 14 "Buddyfield$Directory" "firstLeaf" "LBuddyfield$Leaf;", Cond.fieldLink RX1 20 "Buddyfield$Directory" "leafCount" "I", Cond.instanceMethod yX3_init, Cond.code yX3_init cX3_init 3 none, Cond.methodLink RX3 3 objectInit, Cond.arrayClass .int, Cond.fieldLink RX3 9 "Buddyfield$Leaf" "names" "[I", Cond.fieldLink RX3 15 "Buddyfield$Leaf" "files" "[I", Cond.fieldLink RX3 18 "Buddyfield$Leaf" "count" "I", Cond.fieldLink RX3 22 "Buddyfield$Leaf" "back" "LBuddyfield$Leaf;", Cond.fieldLink RX3 26 "Buddyfield$Leaf" "next" "LBuddyfield$Leaf;", Cond.fieldLink RX3 29 "Buddyfield$Leaf" "low" "I", Cond.fieldLink RX3 32 "Buddyfield$Leaf" "continued" "Z", Cond.instanceMethod yX0_init, Cond.code yX0_init cX0_init 2 none, Cond.methodLink RX0 3 objectInit, Cond.fieldLink RX0 9 "Buddyfield$Content" "blocks" "[I", Cond.fieldLink RX0 15 "Buddyfield$Content" "exists" "Z", Cond.fieldLink RX0 19 "Buddyfield$Content" "timesOpen" "I"]
def wsX4_init_r3 : List Cond := [Cond.fieldLink RX0 23 "Buddyfield$Content" "reservedPlaces" "I", Cond.fieldLink RX0 26 "Buddyfield$Content" "keptPlace" "I", Cond.fieldLink RX0 29 "Buddyfield$Content" "firstKept" "I", Cond.fieldLink RX0 32 "Buddyfield$Content" "keptBlocks" "I", Cond.fieldLink RX0 35 "Buddyfield$Content" "isListed" "Z", Cond.fieldLink RX0 38 "Buddyfield$Content" "isDoomed" "Z", Cond.fieldLink RX0 41 "Buddyfield$Content" "listedSize" "I", Cond.fieldLink RX0 44 "Buddyfield$Content" "file" "I", Cond.methodLink RX0 47 yJ7_fill_53178, Cond.static yJ7_fill_53178, Cond.initialized RJ7, Cond.code yJ7_fill_53178 cJ7_fill_53178 4 none]
def wsX4_init : List Cond := .code yX4_init cX4_init 2 none :: ((wsX4_init_r1 ++ (wsX4_init_r2 ++ wsX4_init_r3)) ++ wsX20 ++ wsX40 ++ wsX10 ++ wsX00 ++ wsX30)
def wsX4_requireRange : List Cond := .code yX4_requireRange cX4_requireRange 3 none :: ([.classLink RX4 195 "java/lang/IllegalArgumentException", .initialized "java/lang/IllegalArgumentException"] ++ (vx_atS RX4 199 "java/lang/IllegalArgumentException" ["java/lang/RuntimeException", "java/lang/Exception"]).filter goodWord)
def wsX4_requireName : List Cond := .code yX4_requireName cX4_requireName 1 none :: ([.methodLink RX4 97 yX4_requireRange, .static yX4_requireRange, .initialized RX4, .code yX4_requireRange cX4_requireRange 3 none, .classLink RX4 195 "java/lang/IllegalArgumentException", .initialized "java/lang/IllegalArgumentException"] ++ (vx_atS RX4 199 "java/lang/IllegalArgumentException" ["java/lang/RuntimeException", "java/lang/Exception"]).filter goodWord)
def wsX4_requireUp : List Cond := .code yX4_requireUp cX4_requireUp 1 none :: ([.classLink RX4 58 "java/lang/IllegalStateException", .initialized "java/lang/IllegalStateException", .fieldLink RX4 33 "Buddyfield" "down" "Z"] ++ wsX40 ++ (vx_atS RX4 62 "java/lang/IllegalStateException" ["java/lang/RuntimeException", "java/lang/Exception"]).filter goodWord)
def wsX4_lowestUnusedFile : List Cond := .code yX4_lowestUnusedFile cX4_lowestUnusedFile 2 (some .int) :: ([.fieldLink RX4 25 "Buddyfield" "contents" "[LBuddyfield$Content;"] ++ wsX40 ++ wsX00)
def wsX4_create_r1 : List Cond := [Cond.classLink RX4 58 "java/lang/IllegalStateException", Cond.initialized "java/lang/IllegalStateException", Cond.fieldLink RX4 19 "Buddyfield" "directory" "LBuddyfield$Directory;", Cond.fieldLink RX4 25 "Buddyfield" "contents" "[LBuddyfield$Content;", Cond.methodLink RX4 40 yX4_requireName, Cond.static yX4_requireName, Cond.initialized RX4, Cond.code yX4_requireName cX4_requireName 1 none, Cond.methodLink RX4 97 yX4_requireRange, Cond.static yX4_requireRange, Cond.code yX4_requireRange cX4_requireRange 3 none, Cond.classLink RX4 195 "java/lang/IllegalArgumentException", Cond.initialized "java/lang/IllegalArgumentException", Cond.methodLink RX4 43 yX4_requireUp, Cond.instanceMethod yX4_requireUp, Cond.selects RX4 yX4_requireUp yX4_requireUp, Cond.code yX4_requireUp cX4_requireUp 1 none, Cond.fieldLink RX4 33 "Buddyfield" "down" "Z", Cond.methodLink RX4 46 yX4_lowestUnusedFile, Cond.instanceMethod yX4_lowestUnusedFile, Cond.selects RX4 yX4_lowestUnusedFile yX4_lowestUnusedFile, Cond.code yX4_lowestUnusedFile cX4_lowestUnusedFile 2 (some .int), Cond.instanceMethod yX1_fileWith, Cond.initialized RX1]
def wsX4_create_r2 : List Cond := [Cond.selects RX1 yX1_fileWith yX1_fileWith, Cond.code yX1_fileWith cX1_fileWith 2 (some .int), Cond.methodLink RX1 42 yX1_lastLookedAt, Cond.instanceMethod yX1_lastLookedAt, Cond.selects RX1 yX1_lastLookedAt yX1_lastLookedAt, Cond.code yX1_lastLookedAt cX1_lastLookedAt 4 (some (.object "Buddyfield$Leaf")), Cond.static yX4_hashOf, Cond.code yX4_hashOf cX4_hashOf 1 (some .int), Cond.methodLink RX1 52 yX1_firstLookedAt, Cond.instanceMethod yX1_firstLookedAt, Cond.selects RX1 yX1_firstLookedAt yX1_firstLookedAt, Cond.code yX1_firstLookedAt cX1_firstLookedAt 4 (some (.object "Buddyfield$Leaf")), Cond.methodLink RX1 28 yX1_lastLeafFor, Cond.instanceMethod yX1_lastLeafFor, Cond.selects RX1 yX1_lastLeafFor yX1_lastLeafFor, Cond.code yX1_lastLeafFor cX1_lastLeafFor 4 (some (.object "Buddyfield$Leaf")), Cond.fieldLink RX1 14 "Buddyfield$Directory" "firstLeaf" "LBuddyfield$Leaf;", Cond.instanceMethod yX3_continues, Cond.initialized RX3, Cond.selects RX3 yX3_continues yX3_continues, Cond.code yX3_continues cX3_continues 2 (some .boolean), Cond.fieldLink RX3 32 "Buddyfield$Leaf" "continued" "Z", Cond.fieldLink RX3 29 "Buddyfield$Leaf" "low" "I", Cond.instanceMethod yX3_has]
def wsX4_create_r3 : List Cond := [Cond.selects RX3 yX3_has yX3_has, Cond.code yX3_has cX3_has 2 (some .boolean), Cond.methodLink RX3 36 yX3_indexOf, Cond.instanceMethod yX3_indexOf, Cond.selects RX3 yX3_indexOf yX3_indexOf, Cond.code yX3_indexOf cX3_indexOf 3 (some .int), Cond.fieldLink RX3 18 "Buddyfield$Leaf" "count" "I", Cond.fieldLink RX3 9 "Buddyfield$Leaf" "names" "[I", Cond.instanceMethod yX3_fileWith, Cond.selects RX3 yX3_fileWith yX3_fileWith, Cond.code yX3_fileWith cX3_fileWith 3 (some .int), Cond.fieldLink RX3 15 "Buddyfield$Leaf" "files" "[I", Cond.instanceMethod yX1_isFull, Cond.selects RX1 yX1_isFull yX1_isFull, Cond.code yX1_isFull cX1_isFull 1 (some .boolean), Cond.fieldLink RX1 20 "Buddyfield$Directory" "leafCount" "I", Cond.instanceMethod yX1_add, Cond.selects RX1 yX1_add yX1_add, Cond.code yX1_add cX1_add 4 none, Cond.instanceMethod yX3_split, Cond.selects RX3 yX3_split yX3_split, Cond.code yX3_split cX3_split 5 none, Cond.classLink RX3 10 RX3, Cond.instantiable RX3 7]
def wsX4_create_r4 : List Cond := [Cond.methodLink RX3 46 yX3_init, Cond.instanceMethod yX3_init, Cond.code yX3_init cX3_init 3 none, Cond.methodLink RX3 3 objectInit, Cond.instanceMethod objectInit, Cond.code objectInit ⟨#[0xb1]⟩ 1 none, Cond.arrayClass .int, Cond.fieldLink RX3 22 "Buddyfield$Leaf" "back" "LBuddyfield$Leaf;", Cond.fieldLink RX3 26 "Buddyfield$Leaf" "next" "LBuddyfield$Leaf;", Cond.methodLink RX3 49 yX3_insert, Cond.instanceMethod yX3_insert, Cond.selects RX3 yX3_insert yX3_insert, Cond.code yX3_insert cX3_insert 4 none, Cond.methodLink RX3 40 yX3_rankOf, Cond.static yX3_rankOf, Cond.code yX3_rankOf cX3_rankOf 1 (some .int), Cond.methodLink RX3 53 yX3_linkBehind, Cond.instanceMethod yX3_linkBehind, Cond.selects RX3 yX3_linkBehind yX3_linkBehind, Cond.code yX3_linkBehind cX3_linkBehind 2 none, Cond.instanceMethod yX0_begin, Cond.initialized RX0, Cond.selects RX0 yX0_begin yX0_begin, Cond.code yX0_begin cX0_begin 1 none]
def wsX4_create_r5 : List Cond := [Cond.fieldLink RX0 15 "Buddyfield$Content" "exists" "Z"]
def wsX4_create : List Cond := .code yX4_create cX4_create 3 (some .int) :: ((wsX4_create_r1 ++ (wsX4_create_r2 ++ (wsX4_create_r3 ++ (wsX4_create_r4 ++ wsX4_create_r5)))) ++ wsX40 ++ wsX00 ++ wsX30 ++ wsX10 ++ (vx_atS RX4 62 "java/lang/IllegalStateException" ["java/lang/RuntimeException", "java/lang/Exception"]).filter goodWord ++ (vx_atS RX4 199 "java/lang/IllegalArgumentException" ["java/lang/RuntimeException", "java/lang/Exception"]).filter goodWord)
def wsX4_requireFileWith_r1 : List Cond := [Cond.classLink RX4 58 "java/lang/IllegalStateException", Cond.initialized "java/lang/IllegalStateException", Cond.fieldLink RX4 19 "Buddyfield" "directory" "LBuddyfield$Directory;", Cond.instanceMethod yX1_fileWith, Cond.initialized RX1, Cond.selects RX1 yX1_fileWith yX1_fileWith, Cond.code yX1_fileWith cX1_fileWith 2 (some .int), Cond.methodLink RX1 42 yX1_lastLookedAt, Cond.instanceMethod yX1_lastLookedAt, Cond.selects RX1 yX1_lastLookedAt yX1_lastLookedAt, Cond.code yX1_lastLookedAt cX1_lastLookedAt 4 (some (.object "Buddyfield$Leaf")), Cond.static yX4_hashOf, Cond.initialized RX4, Cond.code yX4_hashOf cX4_hashOf 1 (some .int), Cond.methodLink RX1 52 yX1_firstLookedAt, Cond.instanceMethod yX1_firstLookedAt, Cond.selects RX1 yX1_firstLookedAt yX1_firstLookedAt, Cond.code yX1_firstLookedAt cX1_firstLookedAt 4 (some (.object "Buddyfield$Leaf")), Cond.methodLink RX1 28 yX1_lastLeafFor, Cond.instanceMethod yX1_lastLeafFor, Cond.selects RX1 yX1_lastLeafFor yX1_lastLeafFor, Cond.code yX1_lastLeafFor cX1_lastLeafFor 4 (some (.object "Buddyfield$Leaf")), Cond.fieldLink RX1 14 "Buddyfield$Directory" "firstLeaf" "LBuddyfield$Leaf;", Cond.instanceMethod yX3_continues]
def wsX4_requireFileWith_r2 : List Cond := [Cond.initialized RX3, Cond.selects RX3 yX3_continues yX3_continues, Cond.code yX3_continues cX3_continues 2 (some .boolean), Cond.fieldLink RX3 32 "Buddyfield$Leaf" "continued" "Z", Cond.fieldLink RX3 29 "Buddyfield$Leaf" "low" "I", Cond.instanceMethod yX3_has, Cond.selects RX3 yX3_has yX3_has, Cond.code yX3_has cX3_has 2 (some .boolean), Cond.methodLink RX3 36 yX3_indexOf, Cond.instanceMethod yX3_indexOf, Cond.selects RX3 yX3_indexOf yX3_indexOf, Cond.code yX3_indexOf cX3_indexOf 3 (some .int), Cond.fieldLink RX3 18 "Buddyfield$Leaf" "count" "I", Cond.fieldLink RX3 9 "Buddyfield$Leaf" "names" "[I", Cond.instanceMethod yX3_fileWith, Cond.selects RX3 yX3_fileWith yX3_fileWith, Cond.code yX3_fileWith cX3_fileWith 3 (some .int), Cond.fieldLink RX3 15 "Buddyfield$Leaf" "files" "[I"]
def wsX4_requireFileWith : List Cond := .code yX4_requireFileWith cX4_requireFileWith 3 (some .int) :: ((wsX4_requireFileWith_r1 ++ wsX4_requireFileWith_r2) ++ wsX40 ++ wsX30 ++ wsX10 ++ (vx_atS RX4 62 "java/lang/IllegalStateException" ["java/lang/RuntimeException", "java/lang/Exception"]).filter goodWord)
def wsX4_open_r1 : List Cond := [Cond.fieldLink RX4 25 "Buddyfield" "contents" "[LBuddyfield$Content;", Cond.methodLink RX4 40 yX4_requireName, Cond.static yX4_requireName, Cond.initialized RX4, Cond.code yX4_requireName cX4_requireName 1 none, Cond.methodLink RX4 97 yX4_requireRange, Cond.static yX4_requireRange, Cond.code yX4_requireRange cX4_requireRange 3 none, Cond.classLink RX4 195 "java/lang/IllegalArgumentException", Cond.initialized "java/lang/IllegalArgumentException", Cond.methodLink RX4 43 yX4_requireUp, Cond.instanceMethod yX4_requireUp, Cond.selects RX4 yX4_requireUp yX4_requireUp, Cond.code yX4_requireUp cX4_requireUp 1 none, Cond.classLink RX4 58 "java/lang/IllegalStateException", Cond.initialized "java/lang/IllegalStateException", Cond.fieldLink RX4 33 "Buddyfield" "down" "Z", Cond.methodLink RX4 72 yX4_requireFileWith, Cond.instanceMethod yX4_requireFileWith, Cond.selects RX4 yX4_requireFileWith yX4_requireFileWith, Cond.code yX4_requireFileWith cX4_requireFileWith 3 (some .int), Cond.fieldLink RX4 19 "Buddyfield" "directory" "LBuddyfield$Directory;", Cond.instanceMethod yX1_fileWith, Cond.initialized RX1]
def wsX4_open_r2 : List Cond := [Cond.selects RX1 yX1_fileWith yX1_fileWith, Cond.code yX1_fileWith cX1_fileWith 2 (some .int), Cond.methodLink RX1 42 yX1_lastLookedAt, Cond.instanceMethod yX1_lastLookedAt, Cond.selects RX1 yX1_lastLookedAt yX1_lastLookedAt, Cond.code yX1_lastLookedAt cX1_lastLookedAt 4 (some (.object "Buddyfield$Leaf")), Cond.static yX4_hashOf, Cond.code yX4_hashOf cX4_hashOf 1 (some .int), Cond.methodLink RX1 52 yX1_firstLookedAt, Cond.instanceMethod yX1_firstLookedAt, Cond.selects RX1 yX1_firstLookedAt yX1_firstLookedAt, Cond.code yX1_firstLookedAt cX1_firstLookedAt 4 (some (.object "Buddyfield$Leaf")), Cond.methodLink RX1 28 yX1_lastLeafFor, Cond.instanceMethod yX1_lastLeafFor, Cond.selects RX1 yX1_lastLeafFor yX1_lastLeafFor, Cond.code yX1_lastLeafFor cX1_lastLeafFor 4 (some (.object "Buddyfield$Leaf")), Cond.fieldLink RX1 14 "Buddyfield$Directory" "firstLeaf" "LBuddyfield$Leaf;", Cond.instanceMethod yX3_continues, Cond.initialized RX3, Cond.selects RX3 yX3_continues yX3_continues, Cond.code yX3_continues cX3_continues 2 (some .boolean), Cond.fieldLink RX3 32 "Buddyfield$Leaf" "continued" "Z", Cond.fieldLink RX3 29 "Buddyfield$Leaf" "low" "I", Cond.instanceMethod yX3_has]
def wsX4_open_r3 : List Cond := [Cond.selects RX3 yX3_has yX3_has, Cond.code yX3_has cX3_has 2 (some .boolean), Cond.methodLink RX3 36 yX3_indexOf, Cond.instanceMethod yX3_indexOf, Cond.selects RX3 yX3_indexOf yX3_indexOf, Cond.code yX3_indexOf cX3_indexOf 3 (some .int), Cond.fieldLink RX3 18 "Buddyfield$Leaf" "count" "I", Cond.fieldLink RX3 9 "Buddyfield$Leaf" "names" "[I", Cond.instanceMethod yX3_fileWith, Cond.selects RX3 yX3_fileWith yX3_fileWith, Cond.code yX3_fileWith cX3_fileWith 3 (some .int), Cond.fieldLink RX3 15 "Buddyfield$Leaf" "files" "[I"]
def wsX4_open : List Cond := .code yX4_open cX4_open 3 (some .int) :: ((wsX4_open_r1 ++ (wsX4_open_r2 ++ wsX4_open_r3)) ++ wsX40 ++ wsX00 ++ wsX30 ++ wsX10 ++ (vx_atS RX4 199 "java/lang/IllegalArgumentException" ["java/lang/RuntimeException", "java/lang/Exception"]).filter goodWord ++ (vx_atS RX4 62 "java/lang/IllegalStateException" ["java/lang/RuntimeException", "java/lang/Exception"]).filter goodWord)
def wsX4_requireContent : List Cond := .code yX4_requireContent cX4_requireContent 2 (some (.object "Buddyfield$Content")) :: ([.classLink RX4 160 "java/lang/IndexOutOfBoundsException", .initialized "java/lang/IndexOutOfBoundsException", .fieldLink RX4 25 "Buddyfield" "contents" "[LBuddyfield$Content;"] ++ wsX40 ++ wsX00 ++ (vx_atS RX4 164 "java/lang/IndexOutOfBoundsException" ["java/lang/RuntimeException", "java/lang/Exception"]).filter goodWord)
def wsX4_releaseKept : List Cond := .code yX4_releaseKept cX4_releaseKept 2 none :: ([.fieldLink RX4 10 "Buddyfield" "ground" "LBuddyfield$Ground;", .instanceMethod yX2_release, .initialized RX2, .selects RX2 yX2_release yX2_release, .code yX2_release cX2_release 3 none, .methodLink RX2 19 yX2_mark, .instanceMethod yX2_mark, .selects RX2 yX2_mark yX2_mark, .code yX2_mark cX2_mark 5 none, .fieldLink RX2 9 "Buddyfield$Ground" "isTaken" "[Z", .fieldLink RX2 15 "Buddyfield$Ground" "freeBlocks" "I"] ++ wsX40 ++ wsX00 ++ wsX20)
def wsX4_step : List Cond := .code yX4_step cX4_step 6 none :: ([.fieldLink RX4 10 "Buddyfield" "ground" "LBuddyfield$Ground;", .instanceMethod yX0_joinsAhead, .initialized RX0, .selects RX0 yX0_joinsAhead yX0_joinsAhead, .code yX0_joinsAhead cX0_joinsAhead 2 (some .boolean), .fieldLink RX0 9 "Buddyfield$Content" "blocks" "[I", .methodLink RX0 70 yX0_isMapped, .instanceMethod yX0_isMapped, .selects RX0 yX0_isMapped yX0_isMapped, .code yX0_isMapped cX0_isMapped 2 (some .boolean), .instanceMethod yX2_release, .initialized RX2, .selects RX2 yX2_release yX2_release, .code yX2_release cX2_release 3 none, .methodLink RX2 19 yX2_mark, .instanceMethod yX2_mark, .selects RX2 yX2_mark yX2_mark, .code yX2_mark cX2_mark 5 none, .fieldLink RX2 9 "Buddyfield$Ground" "isTaken" "[Z", .fieldLink RX2 15 "Buddyfield$Ground" "freeBlocks" "I"] ++ wsX40 ++ wsX00 ++ wsX20)
def wsX4_crashIsDue : List Cond := .code yX4_crashIsDue cX4_crashIsDue 1 (some .boolean) :: ([.fieldLink RX4 29 "Buddyfield" "stepsToCrash" "I"] ++ wsX40)
def wsX4_releaseAllKept : List Cond := .code yX4_releaseAllKept cX4_releaseAllKept 2 none :: ([.fieldLink RX4 25 "Buddyfield" "contents" "[LBuddyfield$Content;", .methodLink RX4 218 yX4_releaseKept, .instanceMethod yX4_releaseKept, .selects RX4 yX4_releaseKept yX4_releaseKept, .initialized RX4, .code yX4_releaseKept cX4_releaseKept 2 none, .fieldLink RX4 10 "Buddyfield" "ground" "LBuddyfield$Ground;", .instanceMethod yX2_release, .initialized RX2, .selects RX2 yX2_release yX2_release, .code yX2_release cX2_release 3 none, .methodLink RX2 19 yX2_mark, .instanceMethod yX2_mark, .selects RX2 yX2_mark yX2_mark, .code yX2_mark cX2_mark 5 none, .fieldLink RX2 9 "Buddyfield$Ground" "isTaken" "[Z", .fieldLink RX2 15 "Buddyfield$Ground" "freeBlocks" "I"] ++ wsX40 ++ wsX00 ++ wsX20)
def wsX4_fall_r1 : List Cond := [Cond.fieldLink RX4 33 "Buddyfield" "down" "Z", Cond.fieldLink RX4 29 "Buddyfield" "stepsToCrash" "I", Cond.fieldLink RX4 25 "Buddyfield" "contents" "[LBuddyfield$Content;", Cond.methodLink RX4 113 yX4_releaseAllKept, Cond.instanceMethod yX4_releaseAllKept, Cond.selects RX4 yX4_releaseAllKept yX4_releaseAllKept, Cond.initialized RX4, Cond.code yX4_releaseAllKept cX4_releaseAllKept 2 none, Cond.methodLink RX4 218 yX4_releaseKept, Cond.instanceMethod yX4_releaseKept, Cond.selects RX4 yX4_releaseKept yX4_releaseKept, Cond.code yX4_releaseKept cX4_releaseKept 2 none, Cond.fieldLink RX4 10 "Buddyfield" "ground" "LBuddyfield$Ground;", Cond.instanceMethod yX2_release, Cond.initialized RX2, Cond.selects RX2 yX2_release yX2_release, Cond.code yX2_release cX2_release 3 none, Cond.methodLink RX2 19 yX2_mark, Cond.instanceMethod yX2_mark, Cond.selects RX2 yX2_mark yX2_mark, Cond.code yX2_mark cX2_mark 5 none, Cond.fieldLink RX2 9 "Buddyfield$Ground" "isTaken" "[Z", Cond.fieldLink RX2 15 "Buddyfield$Ground" "freeBlocks" "I", Cond.instanceMethod yX0_dropReserved]
def wsX4_fall_r2 : List Cond := [Cond.initialized RX0, Cond.selects RX0 yX0_dropReserved yX0_dropReserved, Cond.code yX0_dropReserved cX0_dropReserved 3 none, Cond.fieldLink RX0 9 "Buddyfield$Content" "blocks" "[I", Cond.fieldLink RX0 23 "Buddyfield$Content" "reservedPlaces" "I"]
def wsX4_fall : List Cond := .code yX4_fall cX4_fall 2 none :: ((wsX4_fall_r1 ++ wsX4_fall_r2) ++ wsX40 ++ wsX00 ++ wsX20)
def wsX4_cutTo_r1 : List Cond := [Cond.instanceMethod yX0_dropReserved, Cond.initialized RX0, Cond.selects RX0 yX0_dropReserved yX0_dropReserved, Cond.code yX0_dropReserved cX0_dropReserved 3 none, Cond.fieldLink RX0 9 "Buddyfield$Content" "blocks" "[I", Cond.fieldLink RX0 23 "Buddyfield$Content" "reservedPlaces" "I", Cond.methodLink RX4 218 yX4_releaseKept, Cond.instanceMethod yX4_releaseKept, Cond.selects RX4 yX4_releaseKept yX4_releaseKept, Cond.initialized RX4, Cond.code yX4_releaseKept cX4_releaseKept 2 none, Cond.fieldLink RX4 10 "Buddyfield" "ground" "LBuddyfield$Ground;", Cond.instanceMethod yX2_release, Cond.initialized RX2, Cond.selects RX2 yX2_release yX2_release, Cond.code yX2_release cX2_release 3 none, Cond.methodLink RX2 19 yX2_mark, Cond.instanceMethod yX2_mark, Cond.selects RX2 yX2_mark yX2_mark, Cond.code yX2_mark cX2_mark 5 none, Cond.fieldLink RX2 9 "Buddyfield$Ground" "isTaken" "[Z", Cond.fieldLink RX2 15 "Buddyfield$Ground" "freeBlocks" "I", Cond.instanceMethod yX0_isMapped, Cond.selects RX0 yX0_isMapped yX0_isMapped]
def wsX4_cutTo_r2 : List Cond := [Cond.code yX0_isMapped cX0_isMapped 2 (some .boolean), Cond.methodLink RX4 263 yX4_step, Cond.instanceMethod yX4_step, Cond.selects RX4 yX4_step yX4_step, Cond.code yX4_step cX4_step 6 none, Cond.instanceMethod yX0_joinsAhead, Cond.selects RX0 yX0_joinsAhead yX0_joinsAhead, Cond.code yX0_joinsAhead cX0_joinsAhead 2 (some .boolean), Cond.methodLink RX0 70 yX0_isMapped, Cond.methodLink RX4 267 yX4_crashIsDue, Cond.instanceMethod yX4_crashIsDue, Cond.selects RX4 yX4_crashIsDue yX4_crashIsDue, Cond.code yX4_crashIsDue cX4_crashIsDue 1 (some .boolean), Cond.fieldLink RX4 29 "Buddyfield" "stepsToCrash" "I", Cond.methodLink RX4 134 yX4_fall, Cond.instanceMethod yX4_fall, Cond.selects RX4 yX4_fall yX4_fall, Cond.code yX4_fall cX4_fall 2 none, Cond.fieldLink RX4 33 "Buddyfield" "down" "Z", Cond.fieldLink RX4 25 "Buddyfield" "contents" "[LBuddyfield$Content;", Cond.methodLink RX4 113 yX4_releaseAllKept, Cond.instanceMethod yX4_releaseAllKept, Cond.selects RX4 yX4_releaseAllKept yX4_releaseAllKept, Cond.code yX4_releaseAllKept cX4_releaseAllKept 2 none]
def wsX4_cutTo : List Cond := .code yX4_cutTo cX4_cutTo 5 (some .int) :: ((wsX4_cutTo_r1 ++ wsX4_cutTo_r2) ++ wsX00 ++ wsX40 ++ wsX20)
def wsX4_erase_r1 : List Cond := [Cond.methodLink RX4 130 yX4_cutTo, Cond.instanceMethod yX4_cutTo, Cond.selects RX4 yX4_cutTo yX4_cutTo, Cond.initialized RX4, Cond.code yX4_cutTo cX4_cutTo 5 (some .int), Cond.instanceMethod yX0_dropReserved, Cond.initialized RX0, Cond.selects RX0 yX0_dropReserved yX0_dropReserved, Cond.code yX0_dropReserved cX0_dropReserved 3 none, Cond.fieldLink RX0 9 "Buddyfield$Content" "blocks" "[I", Cond.fieldLink RX0 23 "Buddyfield$Content" "reservedPlaces" "I", Cond.methodLink RX4 218 yX4_releaseKept, Cond.instanceMethod yX4_releaseKept, Cond.selects RX4 yX4_releaseKept yX4_releaseKept, Cond.code yX4_releaseKept cX4_releaseKept 2 none, Cond.fieldLink RX4 10 "Buddyfield" "ground" "LBuddyfield$Ground;", Cond.instanceMethod yX2_release, Cond.initialized RX2, Cond.selects RX2 yX2_release yX2_release, Cond.code yX2_release cX2_release 3 none, Cond.methodLink RX2 19 yX2_mark, Cond.instanceMethod yX2_mark, Cond.selects RX2 yX2_mark yX2_mark, Cond.code yX2_mark cX2_mark 5 none]
def wsX4_erase_r2 : List Cond := [Cond.fieldLink RX2 9 "Buddyfield$Ground" "isTaken" "[Z", Cond.fieldLink RX2 15 "Buddyfield$Ground" "freeBlocks" "I", Cond.instanceMethod yX0_isMapped, Cond.selects RX0 yX0_isMapped yX0_isMapped, Cond.code yX0_isMapped cX0_isMapped 2 (some .boolean), Cond.methodLink RX4 263 yX4_step, Cond.instanceMethod yX4_step, Cond.selects RX4 yX4_step yX4_step, Cond.code yX4_step cX4_step 6 none, Cond.instanceMethod yX0_joinsAhead, Cond.selects RX0 yX0_joinsAhead yX0_joinsAhead, Cond.code yX0_joinsAhead cX0_joinsAhead 2 (some .boolean), Cond.methodLink RX0 70 yX0_isMapped, Cond.methodLink RX4 267 yX4_crashIsDue, Cond.instanceMethod yX4_crashIsDue, Cond.selects RX4 yX4_crashIsDue yX4_crashIsDue, Cond.code yX4_crashIsDue cX4_crashIsDue 1 (some .boolean), Cond.fieldLink RX4 29 "Buddyfield" "stepsToCrash" "I", Cond.methodLink RX4 134 yX4_fall, Cond.instanceMethod yX4_fall, Cond.selects RX4 yX4_fall yX4_fall, Cond.code yX4_fall cX4_fall 2 none, Cond.fieldLink RX4 33 "Buddyfield" "down" "Z", Cond.fieldLink RX4 25 "Buddyfield" "contents" "[LBuddyfield$Content;"]
def wsX4_erase_r3 : List Cond := [Cond.methodLink RX4 113 yX4_releaseAllKept, Cond.instanceMethod yX4_releaseAllKept, Cond.selects RX4 yX4_releaseAllKept yX4_releaseAllKept, Cond.code yX4_releaseAllKept cX4_releaseAllKept 2 none]
def wsX4_erase : List Cond := .code yX4_erase cX4_erase 2 (some .boolean) :: ((wsX4_erase_r1 ++ (wsX4_erase_r2 ++ wsX4_erase_r3)) ++ wsX00 ++ wsX40 ++ wsX20)
def wsX4_close_r1 : List Cond := [Cond.classLink RX4 58 "java/lang/IllegalStateException", Cond.initialized "java/lang/IllegalStateException", Cond.methodLink RX4 78 yX4_requireContent, Cond.instanceMethod yX4_requireContent, Cond.selects RX4 yX4_requireContent yX4_requireContent, Cond.initialized RX4, Cond.code yX4_requireContent cX4_requireContent 2 (some (.object "Buddyfield$Content")), Cond.classLink RX4 160 "java/lang/IndexOutOfBoundsException", Cond.initialized "java/lang/IndexOutOfBoundsException", Cond.fieldLink RX4 25 "Buddyfield" "contents" "[LBuddyfield$Content;", Cond.methodLink RX4 43 yX4_requireUp, Cond.instanceMethod yX4_requireUp, Cond.selects RX4 yX4_requireUp yX4_requireUp, Cond.code yX4_requireUp cX4_requireUp 1 none, Cond.fieldLink RX4 33 "Buddyfield" "down" "Z", Cond.methodLink RX4 87 yX4_erase, Cond.instanceMethod yX4_erase, Cond.selects RX4 yX4_erase yX4_erase, Cond.code yX4_erase cX4_erase 2 (some .boolean), Cond.methodLink RX4 130 yX4_cutTo, Cond.instanceMethod yX4_cutTo, Cond.selects RX4 yX4_cutTo yX4_cutTo, Cond.code yX4_cutTo cX4_cutTo 5 (some .int), Cond.instanceMethod yX0_dropReserved]
def wsX4_close_r2 : List Cond := [Cond.initialized RX0, Cond.selects RX0 yX0_dropReserved yX0_dropReserved, Cond.code yX0_dropReserved cX0_dropReserved 3 none, Cond.fieldLink RX0 9 "Buddyfield$Content" "blocks" "[I", Cond.fieldLink RX0 23 "Buddyfield$Content" "reservedPlaces" "I", Cond.methodLink RX4 218 yX4_releaseKept, Cond.instanceMethod yX4_releaseKept, Cond.selects RX4 yX4_releaseKept yX4_releaseKept, Cond.code yX4_releaseKept cX4_releaseKept 2 none, Cond.fieldLink RX4 10 "Buddyfield" "ground" "LBuddyfield$Ground;", Cond.instanceMethod yX2_release, Cond.initialized RX2, Cond.selects RX2 yX2_release yX2_release, Cond.code yX2_release cX2_release 3 none, Cond.methodLink RX2 19 yX2_mark, Cond.instanceMethod yX2_mark, Cond.selects RX2 yX2_mark yX2_mark, Cond.code yX2_mark cX2_mark 5 none, Cond.fieldLink RX2 9 "Buddyfield$Ground" "isTaken" "[Z", Cond.fieldLink RX2 15 "Buddyfield$Ground" "freeBlocks" "I", Cond.instanceMethod yX0_isMapped, Cond.selects RX0 yX0_isMapped yX0_isMapped, Cond.code yX0_isMapped cX0_isMapped 2 (some .boolean), Cond.methodLink RX4 263 yX4_step]
def wsX4_close_r3 : List Cond := [Cond.instanceMethod yX4_step, Cond.selects RX4 yX4_step yX4_step, Cond.code yX4_step cX4_step 6 none, Cond.instanceMethod yX0_joinsAhead, Cond.selects RX0 yX0_joinsAhead yX0_joinsAhead, Cond.code yX0_joinsAhead cX0_joinsAhead 2 (some .boolean), Cond.methodLink RX0 70 yX0_isMapped, Cond.methodLink RX4 267 yX4_crashIsDue, Cond.instanceMethod yX4_crashIsDue, Cond.selects RX4 yX4_crashIsDue yX4_crashIsDue, Cond.code yX4_crashIsDue cX4_crashIsDue 1 (some .boolean), Cond.fieldLink RX4 29 "Buddyfield" "stepsToCrash" "I", Cond.methodLink RX4 134 yX4_fall, Cond.instanceMethod yX4_fall, Cond.selects RX4 yX4_fall yX4_fall, Cond.code yX4_fall cX4_fall 2 none, Cond.methodLink RX4 113 yX4_releaseAllKept, Cond.instanceMethod yX4_releaseAllKept, Cond.selects RX4 yX4_releaseAllKept yX4_releaseAllKept, Cond.code yX4_releaseAllKept cX4_releaseAllKept 2 none]
def wsX4_close : List Cond := .code yX4_close cX4_close 3 (some .int) :: ((wsX4_close_r1 ++ (wsX4_close_r2 ++ wsX4_close_r3)) ++ wsX00 ++ wsX40 ++ wsX20 ++ (vx_atS RX4 62 "java/lang/IllegalStateException" ["java/lang/RuntimeException", "java/lang/Exception"]).filter goodWord ++ (vx_atS RX4 164 "java/lang/IndexOutOfBoundsException" ["java/lang/RuntimeException", "java/lang/Exception"]).filter goodWord)
def wsX4_delete_r1 : List Cond := [Cond.fieldLink RX4 25 "Buddyfield" "contents" "[LBuddyfield$Content;", Cond.fieldLink RX4 19 "Buddyfield" "directory" "LBuddyfield$Directory;", Cond.methodLink RX4 40 yX4_requireName, Cond.static yX4_requireName, Cond.initialized RX4, Cond.code yX4_requireName cX4_requireName 1 none, Cond.methodLink RX4 97 yX4_requireRange, Cond.static yX4_requireRange, Cond.code yX4_requireRange cX4_requireRange 3 none, Cond.classLink RX4 195 "java/lang/IllegalArgumentException", Cond.initialized "java/lang/IllegalArgumentException", Cond.methodLink RX4 43 yX4_requireUp, Cond.instanceMethod yX4_requireUp, Cond.selects RX4 yX4_requireUp yX4_requireUp, Cond.code yX4_requireUp cX4_requireUp 1 none, Cond.classLink RX4 58 "java/lang/IllegalStateException", Cond.initialized "java/lang/IllegalStateException", Cond.fieldLink RX4 33 "Buddyfield" "down" "Z", Cond.methodLink RX4 72 yX4_requireFileWith, Cond.instanceMethod yX4_requireFileWith, Cond.selects RX4 yX4_requireFileWith yX4_requireFileWith, Cond.code yX4_requireFileWith cX4_requireFileWith 3 (some .int), Cond.instanceMethod yX1_fileWith, Cond.initialized RX1]
def wsX4_delete_r2 : List Cond := [Cond.selects RX1 yX1_fileWith yX1_fileWith, Cond.code yX1_fileWith cX1_fileWith 2 (some .int), Cond.methodLink RX1 42 yX1_lastLookedAt, Cond.instanceMethod yX1_lastLookedAt, Cond.selects RX1 yX1_lastLookedAt yX1_lastLookedAt, Cond.code yX1_lastLookedAt cX1_lastLookedAt 4 (some (.object "Buddyfield$Leaf")), Cond.static yX4_hashOf, Cond.code yX4_hashOf cX4_hashOf 1 (some .int), Cond.methodLink RX1 52 yX1_firstLookedAt, Cond.instanceMethod yX1_firstLookedAt, Cond.selects RX1 yX1_firstLookedAt yX1_firstLookedAt, Cond.code yX1_firstLookedAt cX1_firstLookedAt 4 (some (.object "Buddyfield$Leaf")), Cond.methodLink RX1 28 yX1_lastLeafFor, Cond.instanceMethod yX1_lastLeafFor, Cond.selects RX1 yX1_lastLeafFor yX1_lastLeafFor, Cond.code yX1_lastLeafFor cX1_lastLeafFor 4 (some (.object "Buddyfield$Leaf")), Cond.fieldLink RX1 14 "Buddyfield$Directory" "firstLeaf" "LBuddyfield$Leaf;", Cond.instanceMethod yX3_continues, Cond.initialized RX3, Cond.selects RX3 yX3_continues yX3_continues, Cond.code yX3_continues cX3_continues 2 (some .boolean), Cond.fieldLink RX3 32 "Buddyfield$Leaf" "continued" "Z", Cond.fieldLink RX3 29 "Buddyfield$Leaf" "low" "I", Cond.instanceMethod yX3_has]
def wsX4_delete_r3 : List Cond := [Cond.selects RX3 yX3_has yX3_has, Cond.code yX3_has cX3_has 2 (some .boolean), Cond.methodLink RX3 36 yX3_indexOf, Cond.instanceMethod yX3_indexOf, Cond.selects RX3 yX3_indexOf yX3_indexOf, Cond.code yX3_indexOf cX3_indexOf 3 (some .int), Cond.fieldLink RX3 18 "Buddyfield$Leaf" "count" "I", Cond.fieldLink RX3 9 "Buddyfield$Leaf" "names" "[I", Cond.instanceMethod yX3_fileWith, Cond.selects RX3 yX3_fileWith yX3_fileWith, Cond.code yX3_fileWith cX3_fileWith 3 (some .int), Cond.fieldLink RX3 15 "Buddyfield$Leaf" "files" "[I", Cond.instanceMethod yX1_takeOut, Cond.selects RX1 yX1_takeOut yX1_takeOut, Cond.code yX1_takeOut cX1_takeOut 2 none, Cond.instanceMethod yX3_takeOut, Cond.selects RX3 yX3_takeOut yX3_takeOut, Cond.code yX3_takeOut cX3_takeOut 4 none, Cond.methodLink RX4 87 yX4_erase, Cond.instanceMethod yX4_erase, Cond.selects RX4 yX4_erase yX4_erase, Cond.code yX4_erase cX4_erase 2 (some .boolean), Cond.methodLink RX4 130 yX4_cutTo, Cond.instanceMethod yX4_cutTo]
def wsX4_delete_r4 : List Cond := [Cond.selects RX4 yX4_cutTo yX4_cutTo, Cond.code yX4_cutTo cX4_cutTo 5 (some .int), Cond.instanceMethod yX0_dropReserved, Cond.initialized RX0, Cond.selects RX0 yX0_dropReserved yX0_dropReserved, Cond.code yX0_dropReserved cX0_dropReserved 3 none, Cond.fieldLink RX0 9 "Buddyfield$Content" "blocks" "[I", Cond.fieldLink RX0 23 "Buddyfield$Content" "reservedPlaces" "I", Cond.methodLink RX4 218 yX4_releaseKept, Cond.instanceMethod yX4_releaseKept, Cond.selects RX4 yX4_releaseKept yX4_releaseKept, Cond.code yX4_releaseKept cX4_releaseKept 2 none, Cond.fieldLink RX4 10 "Buddyfield" "ground" "LBuddyfield$Ground;", Cond.instanceMethod yX2_release, Cond.initialized RX2, Cond.selects RX2 yX2_release yX2_release, Cond.code yX2_release cX2_release 3 none, Cond.methodLink RX2 19 yX2_mark, Cond.instanceMethod yX2_mark, Cond.selects RX2 yX2_mark yX2_mark, Cond.code yX2_mark cX2_mark 5 none, Cond.fieldLink RX2 9 "Buddyfield$Ground" "isTaken" "[Z", Cond.fieldLink RX2 15 "Buddyfield$Ground" "freeBlocks" "I", Cond.instanceMethod yX0_isMapped]
def wsX4_delete_r5 : List Cond := [Cond.selects RX0 yX0_isMapped yX0_isMapped, Cond.code yX0_isMapped cX0_isMapped 2 (some .boolean), Cond.methodLink RX4 263 yX4_step, Cond.instanceMethod yX4_step, Cond.selects RX4 yX4_step yX4_step, Cond.code yX4_step cX4_step 6 none, Cond.instanceMethod yX0_joinsAhead, Cond.selects RX0 yX0_joinsAhead yX0_joinsAhead, Cond.code yX0_joinsAhead cX0_joinsAhead 2 (some .boolean), Cond.methodLink RX0 70 yX0_isMapped, Cond.methodLink RX4 267 yX4_crashIsDue, Cond.instanceMethod yX4_crashIsDue, Cond.selects RX4 yX4_crashIsDue yX4_crashIsDue, Cond.code yX4_crashIsDue cX4_crashIsDue 1 (some .boolean), Cond.fieldLink RX4 29 "Buddyfield" "stepsToCrash" "I", Cond.methodLink RX4 134 yX4_fall, Cond.instanceMethod yX4_fall, Cond.selects RX4 yX4_fall yX4_fall, Cond.code yX4_fall cX4_fall 2 none, Cond.methodLink RX4 113 yX4_releaseAllKept, Cond.instanceMethod yX4_releaseAllKept, Cond.selects RX4 yX4_releaseAllKept yX4_releaseAllKept, Cond.code yX4_releaseAllKept cX4_releaseAllKept 2 none]
def wsX4_delete : List Cond := .code yX4_delete cX4_delete 4 (some .int) :: ((wsX4_delete_r1 ++ (wsX4_delete_r2 ++ (wsX4_delete_r3 ++ (wsX4_delete_r4 ++ wsX4_delete_r5)))) ++ wsX40 ++ wsX00 ++ wsX30 ++ wsX10 ++ wsX20 ++ (vx_atS RX4 199 "java/lang/IllegalArgumentException" ["java/lang/RuntimeException", "java/lang/Exception"]).filter goodWord ++ (vx_atS RX4 62 "java/lang/IllegalStateException" ["java/lang/RuntimeException", "java/lang/Exception"]).filter goodWord)
def wsX4_free : List Cond := .code yX4_free cX4_free 1 (some .int) :: ([.fieldLink RX4 10 "Buddyfield" "ground" "LBuddyfield$Ground;"] ++ wsX40 ++ wsX20)
def wsX4_reserved : List Cond := .code yX4_reserved cX4_reserved 3 (some .int) :: ([.fieldLink RX4 25 "Buddyfield" "contents" "[LBuddyfield$Content;"] ++ wsX40 ++ wsX00)
def wsX4_left : List Cond := .code yX4_left cX4_left 1 (some .int) :: ([.methodLink RX4 206 yX4_free, .instanceMethod yX4_free, .selects RX4 yX4_free yX4_free, .initialized RX4, .code yX4_free cX4_free 1 (some .int), .fieldLink RX4 10 "Buddyfield" "ground" "LBuddyfield$Ground;", .methodLink RX4 209 yX4_reserved, .instanceMethod yX4_reserved, .selects RX4 yX4_reserved yX4_reserved, .code yX4_reserved cX4_reserved 3 (some .int), .fieldLink RX4 25 "Buddyfield" "contents" "[LBuddyfield$Content;"] ++ wsX40 ++ wsX20 ++ wsX00)
def wsX4_kept : List Cond := .code yX4_kept cX4_kept 3 (some .int) :: ([.fieldLink RX4 25 "Buddyfield" "contents" "[LBuddyfield$Content;"] ++ wsX40 ++ wsX00)
def wsX4_write_r1 : List Cond := [Cond.classLink RX4 58 "java/lang/IllegalStateException", Cond.initialized "java/lang/IllegalStateException", Cond.methodLink RX4 78 yX4_requireContent, Cond.instanceMethod yX4_requireContent, Cond.selects RX4 yX4_requireContent yX4_requireContent, Cond.initialized RX4, Cond.code yX4_requireContent cX4_requireContent 2 (some (.object "Buddyfield$Content")), Cond.classLink RX4 160 "java/lang/IndexOutOfBoundsException", Cond.initialized "java/lang/IndexOutOfBoundsException", Cond.fieldLink RX4 25 "Buddyfield" "contents" "[LBuddyfield$Content;", Cond.methodLink RX4 97 yX4_requireRange, Cond.static yX4_requireRange, Cond.code yX4_requireRange cX4_requireRange 3 none, Cond.classLink RX4 195 "java/lang/IllegalArgumentException", Cond.initialized "java/lang/IllegalArgumentException", Cond.methodLink RX4 43 yX4_requireUp, Cond.instanceMethod yX4_requireUp, Cond.selects RX4 yX4_requireUp yX4_requireUp, Cond.code yX4_requireUp cX4_requireUp 1 none, Cond.fieldLink RX4 33 "Buddyfield" "down" "Z", Cond.instanceMethod yX0_emptyPlaces, Cond.initialized RX0, Cond.selects RX0 yX0_emptyPlaces yX0_emptyPlaces, Cond.code yX0_emptyPlaces cX0_emptyPlaces 5 (some .int)]
def wsX4_write_r2 : List Cond := [Cond.fieldLink RX0 9 "Buddyfield$Content" "blocks" "[I", Cond.methodLink RX4 105 yX4_left, Cond.instanceMethod yX4_left, Cond.selects RX4 yX4_left yX4_left, Cond.code yX4_left cX4_left 1 (some .int), Cond.methodLink RX4 206 yX4_free, Cond.instanceMethod yX4_free, Cond.selects RX4 yX4_free yX4_free, Cond.code yX4_free cX4_free 1 (some .int), Cond.fieldLink RX4 10 "Buddyfield" "ground" "LBuddyfield$Ground;", Cond.methodLink RX4 209 yX4_reserved, Cond.instanceMethod yX4_reserved, Cond.selects RX4 yX4_reserved yX4_reserved, Cond.code yX4_reserved cX4_reserved 3 (some .int), Cond.methodLink RX4 108 yX4_kept, Cond.instanceMethod yX4_kept, Cond.selects RX4 yX4_kept yX4_kept, Cond.code yX4_kept cX4_kept 3 (some .int), Cond.methodLink RX4 113 yX4_releaseAllKept, Cond.instanceMethod yX4_releaseAllKept, Cond.selects RX4 yX4_releaseAllKept yX4_releaseAllKept, Cond.code yX4_releaseAllKept cX4_releaseAllKept 2 none, Cond.methodLink RX4 218 yX4_releaseKept, Cond.instanceMethod yX4_releaseKept]
def wsX4_write_r3 : List Cond := [Cond.selects RX4 yX4_releaseKept yX4_releaseKept, Cond.code yX4_releaseKept cX4_releaseKept 2 none, Cond.instanceMethod yX2_release, Cond.initialized RX2, Cond.selects RX2 yX2_release yX2_release, Cond.code yX2_release cX2_release 3 none, Cond.methodLink RX2 19 yX2_mark, Cond.instanceMethod yX2_mark, Cond.selects RX2 yX2_mark yX2_mark, Cond.code yX2_mark cX2_mark 5 none, Cond.fieldLink RX2 9 "Buddyfield$Ground" "isTaken" "[Z", Cond.fieldLink RX2 15 "Buddyfield$Ground" "freeBlocks" "I", Cond.instanceMethod yX0_reserve, Cond.selects RX0 yX0_reserve yX0_reserve, Cond.code yX0_reserve cX0_reserve 4 none, Cond.fieldLink RX0 23 "Buddyfield$Content" "reservedPlaces" "I"]
def wsX4_write : List Cond := .code yX4_write cX4_write 6 (some .int) :: ((wsX4_write_r1 ++ (wsX4_write_r2 ++ wsX4_write_r3)) ++ wsX40 ++ wsX00 ++ wsX20 ++ (vx_atS RX4 62 "java/lang/IllegalStateException" ["java/lang/RuntimeException", "java/lang/Exception"]).filter goodWord ++ (vx_atS RX4 164 "java/lang/IndexOutOfBoundsException" ["java/lang/RuntimeException", "java/lang/Exception"]).filter goodWord ++ (vx_atS RX4 199 "java/lang/IllegalArgumentException" ["java/lang/RuntimeException", "java/lang/Exception"]).filter goodWord)
def wsX4_goalFor : List Cond := .code yX4_goalFor cX4_goalFor 4 (some .int) :: ([.instanceMethod yX0_isMapped, .initialized RX0, .selects RX0 yX0_isMapped yX0_isMapped, .code yX0_isMapped cX0_isMapped 2 (some .boolean), .fieldLink RX0 9 "Buddyfield$Content" "blocks" "[I"] ++ wsX00)
def wsX4_lengthFor : List Cond := .code yX4_lengthFor cX4_lengthFor 3 (some .int) :: ([.methodLink RX4 105 yX4_left, .instanceMethod yX4_left, .selects RX4 yX4_left yX4_left, .initialized RX4, .code yX4_left cX4_left 1 (some .int), .methodLink RX4 206 yX4_free, .instanceMethod yX4_free, .selects RX4 yX4_free yX4_free, .code yX4_free cX4_free 1 (some .int), .fieldLink RX4 10 "Buddyfield" "ground" "LBuddyfield$Ground;", .methodLink RX4 209 yX4_reserved, .instanceMethod yX4_reserved, .selects RX4 yX4_reserved yX4_reserved, .code yX4_reserved cX4_reserved 3 (some .int), .fieldLink RX4 25 "Buddyfield" "contents" "[LBuddyfield$Content;"] ++ wsX40 ++ wsX20 ++ wsX00)
def wsX4_mapFound_r1 : List Cond := [Cond.fieldLink RX4 10 "Buddyfield" "ground" "LBuddyfield$Ground;", Cond.methodLink RX4 240 Lib.Math.min.name, Cond.static Lib.Math.min.name, Cond.initialized "java/lang/Math", Cond.code Lib.Math.min.name Lib.Math.min.code 2 (some .int), Cond.methodLink RX4 231 yX4_goalFor, Cond.instanceMethod yX4_goalFor, Cond.selects RX4 yX4_goalFor yX4_goalFor, Cond.initialized RX4, Cond.code yX4_goalFor cX4_goalFor 4 (some .int), Cond.instanceMethod yX0_isMapped, Cond.initialized RX0, Cond.selects RX0 yX0_isMapped yX0_isMapped, Cond.code yX0_isMapped cX0_isMapped 2 (some .boolean), Cond.fieldLink RX0 9 "Buddyfield$Content" "blocks" "[I", Cond.methodLink RX4 234 yX4_lengthFor, Cond.instanceMethod yX4_lengthFor, Cond.selects RX4 yX4_lengthFor yX4_lengthFor, Cond.code yX4_lengthFor cX4_lengthFor 3 (some .int), Cond.methodLink RX4 105 yX4_left, Cond.instanceMethod yX4_left, Cond.selects RX4 yX4_left yX4_left, Cond.code yX4_left cX4_left 1 (some .int), Cond.methodLink RX4 206 yX4_free]
def wsX4_mapFound_r2 : List Cond := [Cond.instanceMethod yX4_free, Cond.selects RX4 yX4_free yX4_free, Cond.code yX4_free cX4_free 1 (some .int), Cond.methodLink RX4 209 yX4_reserved, Cond.instanceMethod yX4_reserved, Cond.selects RX4 yX4_reserved yX4_reserved, Cond.code yX4_reserved cX4_reserved 3 (some .int), Cond.fieldLink RX4 25 "Buddyfield" "contents" "[LBuddyfield$Content;", Cond.instanceMethod yX2_find, Cond.initialized RX2, Cond.selects RX2 yX2_find yX2_find, Cond.code yX2_find cX2_find 7 (some .int), Cond.methodLink RX2 23 yX2_areFree, Cond.instanceMethod yX2_areFree, Cond.selects RX2 yX2_areFree yX2_areFree, Cond.code yX2_areFree cX2_areFree 4 (some .boolean), Cond.fieldLink RX2 9 "Buddyfield$Ground" "isTaken" "[Z", Cond.methodLink RX2 27 yX2_firstPiece, Cond.instanceMethod yX2_firstPiece, Cond.selects RX2 yX2_firstPiece yX2_firstPiece, Cond.code yX2_firstPiece cX2_firstPiece 5 (some .int), Cond.methodLink RX2 31 yX2_isFreePiece, Cond.instanceMethod yX2_isFreePiece, Cond.selects RX2 yX2_isFreePiece yX2_isFreePiece]
def wsX4_mapFound_r3 : List Cond := [Cond.code yX2_isFreePiece cX2_isFreePiece 3 (some .boolean), Cond.instanceMethod yX2_take, Cond.selects RX2 yX2_take yX2_take, Cond.code yX2_take cX2_take 3 none, Cond.methodLink RX2 19 yX2_mark, Cond.instanceMethod yX2_mark, Cond.selects RX2 yX2_mark yX2_mark, Cond.code yX2_mark cX2_mark 5 none, Cond.fieldLink RX2 15 "Buddyfield$Ground" "freeBlocks" "I", Cond.instanceMethod yX0_map, Cond.selects RX0 yX0_map yX0_map, Cond.code yX0_map cX0_map 5 none, Cond.fieldLink RX0 23 "Buddyfield$Content" "reservedPlaces" "I", Cond.methodLink RX4 218 yX4_releaseKept, Cond.instanceMethod yX4_releaseKept, Cond.selects RX4 yX4_releaseKept yX4_releaseKept, Cond.code yX4_releaseKept cX4_releaseKept 2 none, Cond.instanceMethod yX2_release, Cond.selects RX2 yX2_release yX2_release, Cond.code yX2_release cX2_release 3 none, Cond.instanceMethod yX0_keep, Cond.selects RX0 yX0_keep yX0_keep, Cond.code yX0_keep cX0_keep 4 none, Cond.fieldLink RX0 26 "Buddyfield$Content" "keptPlace" "I"]
def wsX4_mapFound_r4 : List Cond := [Cond.fieldLink RX0 29 "Buddyfield$Content" "firstKept" "I", Cond.fieldLink RX0 32 "Buddyfield$Content" "keptBlocks" "I"]
def wsX4_mapFound : List Cond := .code yX4_mapFound cX4_mapFound 8 (some .int) :: ((wsX4_mapFound_r1 ++ (wsX4_mapFound_r2 ++ (wsX4_mapFound_r3 ++ wsX4_mapFound_r4))) ++ wsX40 ++ wsX00 ++ wsX20)
def wsX4_mapRow_r1 : List Cond := [Cond.instanceMethod yX0_isKeptFor, Cond.initialized RX0, Cond.selects RX0 yX0_isKeptFor yX0_isKeptFor, Cond.code yX0_isKeptFor cX0_isKeptFor 2 (some .boolean), Cond.fieldLink RX0 32 "Buddyfield$Content" "keptBlocks" "I", Cond.fieldLink RX0 26 "Buddyfield$Content" "keptPlace" "I", Cond.instanceMethod yX0_mapKept, Cond.selects RX0 yX0_mapKept yX0_mapKept, Cond.code yX0_mapKept cX0_mapKept 4 (some .int), Cond.methodLink RX0 57 Lib.Math.min.name, Cond.static Lib.Math.min.name, Cond.initialized "java/lang/Math", Cond.code Lib.Math.min.name Lib.Math.min.code 2 (some .int), Cond.fieldLink RX0 29 "Buddyfield$Content" "firstKept" "I", Cond.methodLink RX0 63 yX0_map, Cond.instanceMethod yX0_map, Cond.selects RX0 yX0_map yX0_map, Cond.code yX0_map cX0_map 5 none, Cond.fieldLink RX0 9 "Buddyfield$Content" "blocks" "[I", Cond.fieldLink RX0 23 "Buddyfield$Content" "reservedPlaces" "I", Cond.methodLink RX0 67 yX0_keep, Cond.instanceMethod yX0_keep, Cond.selects RX0 yX0_keep yX0_keep, Cond.code yX0_keep cX0_keep 4 none]
def wsX4_mapRow_r2 : List Cond := [Cond.methodLink RX4 228 yX4_mapFound, Cond.instanceMethod yX4_mapFound, Cond.selects RX4 yX4_mapFound yX4_mapFound, Cond.initialized RX4, Cond.code yX4_mapFound cX4_mapFound 8 (some .int), Cond.fieldLink RX4 10 "Buddyfield" "ground" "LBuddyfield$Ground;", Cond.methodLink RX4 240 Lib.Math.min.name, Cond.methodLink RX4 231 yX4_goalFor, Cond.instanceMethod yX4_goalFor, Cond.selects RX4 yX4_goalFor yX4_goalFor, Cond.code yX4_goalFor cX4_goalFor 4 (some .int), Cond.instanceMethod yX0_isMapped, Cond.selects RX0 yX0_isMapped yX0_isMapped, Cond.code yX0_isMapped cX0_isMapped 2 (some .boolean), Cond.methodLink RX4 234 yX4_lengthFor, Cond.instanceMethod yX4_lengthFor, Cond.selects RX4 yX4_lengthFor yX4_lengthFor, Cond.code yX4_lengthFor cX4_lengthFor 3 (some .int), Cond.methodLink RX4 105 yX4_left, Cond.instanceMethod yX4_left, Cond.selects RX4 yX4_left yX4_left, Cond.code yX4_left cX4_left 1 (some .int), Cond.methodLink RX4 206 yX4_free, Cond.instanceMethod yX4_free]
def wsX4_mapRow_r3 : List Cond := [Cond.selects RX4 yX4_free yX4_free, Cond.code yX4_free cX4_free 1 (some .int), Cond.methodLink RX4 209 yX4_reserved, Cond.instanceMethod yX4_reserved, Cond.selects RX4 yX4_reserved yX4_reserved, Cond.code yX4_reserved cX4_reserved 3 (some .int), Cond.fieldLink RX4 25 "Buddyfield" "contents" "[LBuddyfield$Content;", Cond.instanceMethod yX2_find, Cond.initialized RX2, Cond.selects RX2 yX2_find yX2_find, Cond.code yX2_find cX2_find 7 (some .int), Cond.methodLink RX2 23 yX2_areFree, Cond.instanceMethod yX2_areFree, Cond.selects RX2 yX2_areFree yX2_areFree, Cond.code yX2_areFree cX2_areFree 4 (some .boolean), Cond.fieldLink RX2 9 "Buddyfield$Ground" "isTaken" "[Z", Cond.methodLink RX2 27 yX2_firstPiece, Cond.instanceMethod yX2_firstPiece, Cond.selects RX2 yX2_firstPiece yX2_firstPiece, Cond.code yX2_firstPiece cX2_firstPiece 5 (some .int), Cond.methodLink RX2 31 yX2_isFreePiece, Cond.instanceMethod yX2_isFreePiece, Cond.selects RX2 yX2_isFreePiece yX2_isFreePiece, Cond.code yX2_isFreePiece cX2_isFreePiece 3 (some .boolean)]
def wsX4_mapRow_r4 : List Cond := [Cond.instanceMethod yX2_take, Cond.selects RX2 yX2_take yX2_take, Cond.code yX2_take cX2_take 3 none, Cond.methodLink RX2 19 yX2_mark, Cond.instanceMethod yX2_mark, Cond.selects RX2 yX2_mark yX2_mark, Cond.code yX2_mark cX2_mark 5 none, Cond.fieldLink RX2 15 "Buddyfield$Ground" "freeBlocks" "I", Cond.methodLink RX4 218 yX4_releaseKept, Cond.instanceMethod yX4_releaseKept, Cond.selects RX4 yX4_releaseKept yX4_releaseKept, Cond.code yX4_releaseKept cX4_releaseKept 2 none, Cond.instanceMethod yX2_release, Cond.selects RX2 yX2_release yX2_release, Cond.code yX2_release cX2_release 3 none]
def wsX4_mapRow : List Cond := .code yX4_mapRow cX4_mapRow 6 (some .int) :: ((wsX4_mapRow_r1 ++ (wsX4_mapRow_r2 ++ (wsX4_mapRow_r3 ++ wsX4_mapRow_r4))) ++ wsX00 ++ wsX40 ++ wsX20)
def wsX4_flush_r1 : List Cond := [Cond.methodLink RX4 78 yX4_requireContent, Cond.instanceMethod yX4_requireContent, Cond.selects RX4 yX4_requireContent yX4_requireContent, Cond.initialized RX4, Cond.code yX4_requireContent cX4_requireContent 2 (some (.object "Buddyfield$Content")), Cond.classLink RX4 160 "java/lang/IndexOutOfBoundsException", Cond.initialized "java/lang/IndexOutOfBoundsException", Cond.fieldLink RX4 25 "Buddyfield" "contents" "[LBuddyfield$Content;", Cond.methodLink RX4 43 yX4_requireUp, Cond.instanceMethod yX4_requireUp, Cond.selects RX4 yX4_requireUp yX4_requireUp, Cond.code yX4_requireUp cX4_requireUp 1 none, Cond.classLink RX4 58 "java/lang/IllegalStateException", Cond.initialized "java/lang/IllegalStateException", Cond.fieldLink RX4 33 "Buddyfield" "down" "Z", Cond.instanceMethod yX0_isReserved, Cond.initialized RX0, Cond.selects RX0 yX0_isReserved yX0_isReserved, Cond.code yX0_isReserved cX0_isReserved 2 (some .boolean), Cond.fieldLink RX0 9 "Buddyfield$Content" "blocks" "[I", Cond.instanceMethod yX0_endOfReserved, Cond.selects RX0 yX0_endOfReserved yX0_endOfReserved, Cond.code yX0_endOfReserved cX0_endOfReserved 3 (some .int), Cond.methodLink RX0 53 yX0_isReserved]
def wsX4_flush_r2 : List Cond := [Cond.methodLink RX4 126 yX4_mapRow, Cond.instanceMethod yX4_mapRow, Cond.selects RX4 yX4_mapRow yX4_mapRow, Cond.code yX4_mapRow cX4_mapRow 6 (some .int), Cond.instanceMethod yX0_isKeptFor, Cond.selects RX0 yX0_isKeptFor yX0_isKeptFor, Cond.code yX0_isKeptFor cX0_isKeptFor 2 (some .boolean), Cond.fieldLink RX0 32 "Buddyfield$Content" "keptBlocks" "I", Cond.fieldLink RX0 26 "Buddyfield$Content" "keptPlace" "I", Cond.instanceMethod yX0_mapKept, Cond.selects RX0 yX0_mapKept yX0_mapKept, Cond.code yX0_mapKept cX0_mapKept 4 (some .int), Cond.methodLink RX0 57 Lib.Math.min.name, Cond.static Lib.Math.min.name, Cond.initialized "java/lang/Math", Cond.code Lib.Math.min.name Lib.Math.min.code 2 (some .int), Cond.fieldLink RX0 29 "Buddyfield$Content" "firstKept" "I", Cond.methodLink RX0 63 yX0_map, Cond.instanceMethod yX0_map, Cond.selects RX0 yX0_map yX0_map, Cond.code yX0_map cX0_map 5 none, Cond.fieldLink RX0 23 "Buddyfield$Content" "reservedPlaces" "I", Cond.methodLink RX0 67 yX0_keep, Cond.instanceMethod yX0_keep]
def wsX4_flush_r3 : List Cond := [Cond.selects RX0 yX0_keep yX0_keep, Cond.code yX0_keep cX0_keep 4 none, Cond.methodLink RX4 228 yX4_mapFound, Cond.instanceMethod yX4_mapFound, Cond.selects RX4 yX4_mapFound yX4_mapFound, Cond.code yX4_mapFound cX4_mapFound 8 (some .int), Cond.fieldLink RX4 10 "Buddyfield" "ground" "LBuddyfield$Ground;", Cond.methodLink RX4 240 Lib.Math.min.name, Cond.methodLink RX4 231 yX4_goalFor, Cond.instanceMethod yX4_goalFor, Cond.selects RX4 yX4_goalFor yX4_goalFor, Cond.code yX4_goalFor cX4_goalFor 4 (some .int), Cond.instanceMethod yX0_isMapped, Cond.selects RX0 yX0_isMapped yX0_isMapped, Cond.code yX0_isMapped cX0_isMapped 2 (some .boolean), Cond.methodLink RX4 234 yX4_lengthFor, Cond.instanceMethod yX4_lengthFor, Cond.selects RX4 yX4_lengthFor yX4_lengthFor, Cond.code yX4_lengthFor cX4_lengthFor 3 (some .int), Cond.methodLink RX4 105 yX4_left, Cond.instanceMethod yX4_left, Cond.selects RX4 yX4_left yX4_left, Cond.code yX4_left cX4_left 1 (some .int), Cond.methodLink RX4 206 yX4_free]
def wsX4_flush_r4 : List Cond := [Cond.instanceMethod yX4_free, Cond.selects RX4 yX4_free yX4_free, Cond.code yX4_free cX4_free 1 (some .int), Cond.methodLink RX4 209 yX4_reserved, Cond.instanceMethod yX4_reserved, Cond.selects RX4 yX4_reserved yX4_reserved, Cond.code yX4_reserved cX4_reserved 3 (some .int), Cond.instanceMethod yX2_find, Cond.initialized RX2, Cond.selects RX2 yX2_find yX2_find, Cond.code yX2_find cX2_find 7 (some .int), Cond.methodLink RX2 23 yX2_areFree, Cond.instanceMethod yX2_areFree, Cond.selects RX2 yX2_areFree yX2_areFree, Cond.code yX2_areFree cX2_areFree 4 (some .boolean), Cond.fieldLink RX2 9 "Buddyfield$Ground" "isTaken" "[Z", Cond.methodLink RX2 27 yX2_firstPiece, Cond.instanceMethod yX2_firstPiece, Cond.selects RX2 yX2_firstPiece yX2_firstPiece, Cond.code yX2_firstPiece cX2_firstPiece 5 (some .int), Cond.methodLink RX2 31 yX2_isFreePiece, Cond.instanceMethod yX2_isFreePiece, Cond.selects RX2 yX2_isFreePiece yX2_isFreePiece, Cond.code yX2_isFreePiece cX2_isFreePiece 3 (some .boolean)]
def wsX4_flush_r5 : List Cond := [Cond.instanceMethod yX2_take, Cond.selects RX2 yX2_take yX2_take, Cond.code yX2_take cX2_take 3 none, Cond.methodLink RX2 19 yX2_mark, Cond.instanceMethod yX2_mark, Cond.selects RX2 yX2_mark yX2_mark, Cond.code yX2_mark cX2_mark 5 none, Cond.fieldLink RX2 15 "Buddyfield$Ground" "freeBlocks" "I", Cond.methodLink RX4 218 yX4_releaseKept, Cond.instanceMethod yX4_releaseKept, Cond.selects RX4 yX4_releaseKept yX4_releaseKept, Cond.code yX4_releaseKept cX4_releaseKept 2 none, Cond.instanceMethod yX2_release, Cond.selects RX2 yX2_release yX2_release, Cond.code yX2_release cX2_release 3 none]
def wsX4_flush : List Cond := .code yX4_flush cX4_flush 5 (some .int) :: ((wsX4_flush_r1 ++ (wsX4_flush_r2 ++ (wsX4_flush_r3 ++ (wsX4_flush_r4 ++ wsX4_flush_r5)))) ++ wsX40 ++ wsX00 ++ wsX20 ++ (vx_atS RX4 164 "java/lang/IndexOutOfBoundsException" ["java/lang/RuntimeException", "java/lang/Exception"]).filter goodWord ++ (vx_atS RX4 62 "java/lang/IllegalStateException" ["java/lang/RuntimeException", "java/lang/Exception"]).filter goodWord)
def wsX4_cut_r1 : List Cond := [Cond.methodLink RX4 78 yX4_requireContent, Cond.instanceMethod yX4_requireContent, Cond.selects RX4 yX4_requireContent yX4_requireContent, Cond.initialized RX4, Cond.code yX4_requireContent cX4_requireContent 2 (some (.object "Buddyfield$Content")), Cond.classLink RX4 160 "java/lang/IndexOutOfBoundsException", Cond.initialized "java/lang/IndexOutOfBoundsException", Cond.fieldLink RX4 25 "Buddyfield" "contents" "[LBuddyfield$Content;", Cond.methodLink RX4 97 yX4_requireRange, Cond.static yX4_requireRange, Cond.code yX4_requireRange cX4_requireRange 3 none, Cond.classLink RX4 195 "java/lang/IllegalArgumentException", Cond.initialized "java/lang/IllegalArgumentException", Cond.methodLink RX4 43 yX4_requireUp, Cond.instanceMethod yX4_requireUp, Cond.selects RX4 yX4_requireUp yX4_requireUp, Cond.code yX4_requireUp cX4_requireUp 1 none, Cond.classLink RX4 58 "java/lang/IllegalStateException", Cond.initialized "java/lang/IllegalStateException", Cond.fieldLink RX4 33 "Buddyfield" "down" "Z", Cond.methodLink RX4 130 yX4_cutTo, Cond.instanceMethod yX4_cutTo, Cond.selects RX4 yX4_cutTo yX4_cutTo, Cond.code yX4_cutTo cX4_cutTo 5 (some .int)]
def wsX4_cut_r2 : List Cond := [Cond.instanceMethod yX0_dropReserved, Cond.initialized RX0, Cond.selects RX0 yX0_dropReserved yX0_dropReserved, Cond.code yX0_dropReserved cX0_dropReserved 3 none, Cond.fieldLink RX0 9 "Buddyfield$Content" "blocks" "[I", Cond.fieldLink RX0 23 "Buddyfield$Content" "reservedPlaces" "I", Cond.methodLink RX4 218 yX4_releaseKept, Cond.instanceMethod yX4_releaseKept, Cond.selects RX4 yX4_releaseKept yX4_releaseKept, Cond.code yX4_releaseKept cX4_releaseKept 2 none, Cond.fieldLink RX4 10 "Buddyfield" "ground" "LBuddyfield$Ground;", Cond.instanceMethod yX2_release, Cond.initialized RX2, Cond.selects RX2 yX2_release yX2_release, Cond.code yX2_release cX2_release 3 none, Cond.methodLink RX2 19 yX2_mark, Cond.instanceMethod yX2_mark, Cond.selects RX2 yX2_mark yX2_mark, Cond.code yX2_mark cX2_mark 5 none, Cond.fieldLink RX2 9 "Buddyfield$Ground" "isTaken" "[Z", Cond.fieldLink RX2 15 "Buddyfield$Ground" "freeBlocks" "I", Cond.instanceMethod yX0_isMapped, Cond.selects RX0 yX0_isMapped yX0_isMapped, Cond.code yX0_isMapped cX0_isMapped 2 (some .boolean)]
def wsX4_cut_r3 : List Cond := [Cond.methodLink RX4 263 yX4_step, Cond.instanceMethod yX4_step, Cond.selects RX4 yX4_step yX4_step, Cond.code yX4_step cX4_step 6 none, Cond.instanceMethod yX0_joinsAhead, Cond.selects RX0 yX0_joinsAhead yX0_joinsAhead, Cond.code yX0_joinsAhead cX0_joinsAhead 2 (some .boolean), Cond.methodLink RX0 70 yX0_isMapped, Cond.methodLink RX4 267 yX4_crashIsDue, Cond.instanceMethod yX4_crashIsDue, Cond.selects RX4 yX4_crashIsDue yX4_crashIsDue, Cond.code yX4_crashIsDue cX4_crashIsDue 1 (some .boolean), Cond.fieldLink RX4 29 "Buddyfield" "stepsToCrash" "I", Cond.methodLink RX4 134 yX4_fall, Cond.instanceMethod yX4_fall, Cond.selects RX4 yX4_fall yX4_fall, Cond.code yX4_fall cX4_fall 2 none, Cond.methodLink RX4 113 yX4_releaseAllKept, Cond.instanceMethod yX4_releaseAllKept, Cond.selects RX4 yX4_releaseAllKept yX4_releaseAllKept, Cond.code yX4_releaseAllKept cX4_releaseAllKept 2 none]
def wsX4_cut : List Cond := .code yX4_cut cX4_cut 4 (some .int) :: ((wsX4_cut_r1 ++ (wsX4_cut_r2 ++ wsX4_cut_r3)) ++ wsX40 ++ wsX00 ++ wsX20 ++ (vx_atS RX4 164 "java/lang/IndexOutOfBoundsException" ["java/lang/RuntimeException", "java/lang/Exception"]).filter goodWord ++ (vx_atS RX4 199 "java/lang/IllegalArgumentException" ["java/lang/RuntimeException", "java/lang/Exception"]).filter goodWord ++ (vx_atS RX4 62 "java/lang/IllegalStateException" ["java/lang/RuntimeException", "java/lang/Exception"]).filter goodWord)
def wsX4_crashBehind : List Cond := .code yX4_crashBehind cX4_crashBehind 2 none :: ([.fieldLink RX4 29 "Buddyfield" "stepsToCrash" "I", .methodLink RX4 97 yX4_requireRange, .static yX4_requireRange, .initialized RX4, .code yX4_requireRange cX4_requireRange 3 none, .classLink RX4 195 "java/lang/IllegalArgumentException", .initialized "java/lang/IllegalArgumentException", .methodLink RX4 43 yX4_requireUp, .instanceMethod yX4_requireUp, .selects RX4 yX4_requireUp yX4_requireUp, .code yX4_requireUp cX4_requireUp 1 none, .classLink RX4 58 "java/lang/IllegalStateException", .initialized "java/lang/IllegalStateException", .fieldLink RX4 33 "Buddyfield" "down" "Z"] ++ wsX40 ++ (vx_atS RX4 199 "java/lang/IllegalArgumentException" ["java/lang/RuntimeException", "java/lang/Exception"]).filter goodWord ++ (vx_atS RX4 62 "java/lang/IllegalStateException" ["java/lang/RuntimeException", "java/lang/Exception"]).filter goodWord)
def wsX4_crash_r1 : List Cond := [Cond.methodLink RX4 43 yX4_requireUp, Cond.instanceMethod yX4_requireUp, Cond.selects RX4 yX4_requireUp yX4_requireUp, Cond.initialized RX4, Cond.code yX4_requireUp cX4_requireUp 1 none, Cond.classLink RX4 58 "java/lang/IllegalStateException", Cond.initialized "java/lang/IllegalStateException", Cond.fieldLink RX4 33 "Buddyfield" "down" "Z", Cond.methodLink RX4 134 yX4_fall, Cond.instanceMethod yX4_fall, Cond.selects RX4 yX4_fall yX4_fall, Cond.code yX4_fall cX4_fall 2 none, Cond.fieldLink RX4 29 "Buddyfield" "stepsToCrash" "I", Cond.fieldLink RX4 25 "Buddyfield" "contents" "[LBuddyfield$Content;", Cond.methodLink RX4 113 yX4_releaseAllKept, Cond.instanceMethod yX4_releaseAllKept, Cond.selects RX4 yX4_releaseAllKept yX4_releaseAllKept, Cond.code yX4_releaseAllKept cX4_releaseAllKept 2 none, Cond.methodLink RX4 218 yX4_releaseKept, Cond.instanceMethod yX4_releaseKept, Cond.selects RX4 yX4_releaseKept yX4_releaseKept, Cond.code yX4_releaseKept cX4_releaseKept 2 none, Cond.fieldLink RX4 10 "Buddyfield" "ground" "LBuddyfield$Ground;", Cond.instanceMethod yX2_release]
def wsX4_crash_r2 : List Cond := [Cond.initialized RX2, Cond.selects RX2 yX2_release yX2_release, Cond.code yX2_release cX2_release 3 none, Cond.methodLink RX2 19 yX2_mark, Cond.instanceMethod yX2_mark, Cond.selects RX2 yX2_mark yX2_mark, Cond.code yX2_mark cX2_mark 5 none, Cond.fieldLink RX2 9 "Buddyfield$Ground" "isTaken" "[Z", Cond.fieldLink RX2 15 "Buddyfield$Ground" "freeBlocks" "I", Cond.instanceMethod yX0_dropReserved, Cond.initialized RX0, Cond.selects RX0 yX0_dropReserved yX0_dropReserved, Cond.code yX0_dropReserved cX0_dropReserved 3 none, Cond.fieldLink RX0 9 "Buddyfield$Content" "blocks" "[I", Cond.fieldLink RX0 23 "Buddyfield$Content" "reservedPlaces" "I"]
def wsX4_crash : List Cond := .code yX4_crash cX4_crash 1 none :: ((wsX4_crash_r1 ++ wsX4_crash_r2) ++ wsX40 ++ wsX00 ++ wsX20 ++ (vx_atS RX4 62 "java/lang/IllegalStateException" ["java/lang/RuntimeException", "java/lang/Exception"]).filter goodWord)
def wsX4_listed : List Cond := .code yX4_listed cX4_listed 3 (some .int) :: ([.fieldLink RX4 25 "Buddyfield" "contents" "[LBuddyfield$Content;"] ++ wsX40 ++ wsX00)
def wsX4_start_r1 : List Cond := [Cond.classLink RX4 58 "java/lang/IllegalStateException", Cond.initialized "java/lang/IllegalStateException", Cond.fieldLink RX4 33 "Buddyfield" "down" "Z", Cond.fieldLink RX4 25 "Buddyfield" "contents" "[LBuddyfield$Content;", Cond.methodLink RX4 139 yX4_listed, Cond.instanceMethod yX4_listed, Cond.selects RX4 yX4_listed yX4_listed, Cond.initialized RX4, Cond.code yX4_listed cX4_listed 3 (some .int), Cond.methodLink RX4 87 yX4_erase, Cond.instanceMethod yX4_erase, Cond.selects RX4 yX4_erase yX4_erase, Cond.code yX4_erase cX4_erase 2 (some .boolean), Cond.methodLink RX4 130 yX4_cutTo, Cond.instanceMethod yX4_cutTo, Cond.selects RX4 yX4_cutTo yX4_cutTo, Cond.code yX4_cutTo cX4_cutTo 5 (some .int), Cond.instanceMethod yX0_dropReserved, Cond.initialized RX0, Cond.selects RX0 yX0_dropReserved yX0_dropReserved, Cond.code yX0_dropReserved cX0_dropReserved 3 none, Cond.fieldLink RX0 9 "Buddyfield$Content" "blocks" "[I", Cond.fieldLink RX0 23 "Buddyfield$Content" "reservedPlaces" "I", Cond.methodLink RX4 218 yX4_releaseKept]
def wsX4_start_r2 : List Cond := [Cond.instanceMethod yX4_releaseKept, Cond.selects RX4 yX4_releaseKept yX4_releaseKept, Cond.code yX4_releaseKept cX4_releaseKept 2 none, Cond.fieldLink RX4 10 "Buddyfield" "ground" "LBuddyfield$Ground;", Cond.instanceMethod yX2_release, Cond.initialized RX2, Cond.selects RX2 yX2_release yX2_release, Cond.code yX2_release cX2_release 3 none, Cond.methodLink RX2 19 yX2_mark, Cond.instanceMethod yX2_mark, Cond.selects RX2 yX2_mark yX2_mark, Cond.code yX2_mark cX2_mark 5 none, Cond.fieldLink RX2 9 "Buddyfield$Ground" "isTaken" "[Z", Cond.fieldLink RX2 15 "Buddyfield$Ground" "freeBlocks" "I", Cond.instanceMethod yX0_isMapped, Cond.selects RX0 yX0_isMapped yX0_isMapped, Cond.code yX0_isMapped cX0_isMapped 2 (some .boolean), Cond.methodLink RX4 263 yX4_step, Cond.instanceMethod yX4_step, Cond.selects RX4 yX4_step yX4_step, Cond.code yX4_step cX4_step 6 none, Cond.instanceMethod yX0_joinsAhead, Cond.selects RX0 yX0_joinsAhead yX0_joinsAhead, Cond.code yX0_joinsAhead cX0_joinsAhead 2 (some .boolean)]
def wsX4_start_r3 : List Cond := [Cond.methodLink RX0 70 yX0_isMapped, Cond.methodLink RX4 267 yX4_crashIsDue, Cond.instanceMethod yX4_crashIsDue, Cond.selects RX4 yX4_crashIsDue yX4_crashIsDue, Cond.code yX4_crashIsDue cX4_crashIsDue 1 (some .boolean), Cond.fieldLink RX4 29 "Buddyfield" "stepsToCrash" "I", Cond.methodLink RX4 134 yX4_fall, Cond.instanceMethod yX4_fall, Cond.selects RX4 yX4_fall yX4_fall, Cond.code yX4_fall cX4_fall 2 none, Cond.methodLink RX4 113 yX4_releaseAllKept, Cond.instanceMethod yX4_releaseAllKept, Cond.selects RX4 yX4_releaseAllKept yX4_releaseAllKept, Cond.code yX4_releaseAllKept cX4_releaseAllKept 2 none]
def wsX4_start : List Cond := .code yX4_start cX4_start 4 (some .int) :: ((wsX4_start_r1 ++ (wsX4_start_r2 ++ wsX4_start_r3)) ++ wsX40 ++ wsX00 ++ wsX20 ++ (vx_atS RX4 62 "java/lang/IllegalStateException" ["java/lang/RuntimeException", "java/lang/Exception"]).filter goodWord)
def wsX4_isDown : List Cond := .code yX4_isDown cX4_isDown 1 (some .boolean) :: ([.fieldLink RX4 33 "Buddyfield" "down" "Z"] ++ wsX40)
def wsX4_files : List Cond := .code yX4_files cX4_files 3 (some .int) :: ([.fieldLink RX4 25 "Buddyfield" "contents" "[LBuddyfield$Content;"] ++ wsX40 ++ wsX00)
def wsX4_opens : List Cond := .code yX4_opens cX4_opens 2 (some .int) :: ([.methodLink RX4 78 yX4_requireContent, .instanceMethod yX4_requireContent, .selects RX4 yX4_requireContent yX4_requireContent, .initialized RX4, .code yX4_requireContent cX4_requireContent 2 (some (.object "Buddyfield$Content")), .classLink RX4 160 "java/lang/IndexOutOfBoundsException", .initialized "java/lang/IndexOutOfBoundsException", .fieldLink RX4 25 "Buddyfield" "contents" "[LBuddyfield$Content;"] ++ wsX00 ++ wsX40 ++ (vx_atS RX4 164 "java/lang/IndexOutOfBoundsException" ["java/lang/RuntimeException", "java/lang/Exception"]).filter goodWord)
def wsX4_freeByFiles : List Cond := .code yX4_freeByFiles cX4_freeByFiles 3 (some .int) :: ([.fieldLink RX4 25 "Buddyfield" "contents" "[LBuddyfield$Content;", .instanceMethod yX0_mappedPlaces, .initialized RX0, .selects RX0 yX0_mappedPlaces yX0_mappedPlaces, .code yX0_mappedPlaces cX0_mappedPlaces 3 (some .int), .fieldLink RX0 9 "Buddyfield$Content" "blocks" "[I"] ++ wsX40 ++ wsX00)
def wsX4_pieces : List Cond := .code yX4_pieces cX4_pieces 3 (some .int) :: ([.classLink RX4 160 "java/lang/IndexOutOfBoundsException", .initialized "java/lang/IndexOutOfBoundsException", .fieldLink RX4 10 "Buddyfield" "ground" "LBuddyfield$Ground;", .methodLink RX4 97 yX4_requireRange, .static yX4_requireRange, .initialized RX4, .code yX4_requireRange cX4_requireRange 3 none, .classLink RX4 195 "java/lang/IllegalArgumentException", .initialized "java/lang/IllegalArgumentException", .instanceMethod yX2_countPieces, .initialized RX2, .selects RX2 yX2_countPieces yX2_countPieces, .code yX2_countPieces cX2_countPieces 6 (some .int), .methodLink RX2 31 yX2_isFreePiece, .instanceMethod yX2_isFreePiece, .selects RX2 yX2_isFreePiece yX2_isFreePiece, .code yX2_isFreePiece cX2_isFreePiece 3 (some .boolean), .methodLink RX2 23 yX2_areFree, .instanceMethod yX2_areFree, .selects RX2 yX2_areFree yX2_areFree, .code yX2_areFree cX2_areFree 4 (some .boolean), .fieldLink RX2 9 "Buddyfield$Ground" "isTaken" "[Z"] ++ wsX40 ++ wsX20 ++ (vx_atS RX4 164 "java/lang/IndexOutOfBoundsException" ["java/lang/RuntimeException", "java/lang/Exception"]).filter goodWord ++ (vx_atS RX4 199 "java/lang/IllegalArgumentException" ["java/lang/RuntimeException", "java/lang/Exception"]).filter goodWord)
def wsX4_isFree : List Cond := .code yX4_isFree cX4_isFree 2 (some .boolean) :: ([.classLink RX4 160 "java/lang/IndexOutOfBoundsException", .initialized "java/lang/IndexOutOfBoundsException", .fieldLink RX4 10 "Buddyfield" "ground" "LBuddyfield$Ground;", .instanceMethod yX2_areFree, .initialized RX2, .selects RX2 yX2_areFree yX2_areFree, .code yX2_areFree cX2_areFree 4 (some .boolean), .fieldLink RX2 9 "Buddyfield$Ground" "isTaken" "[Z"] ++ wsX40 ++ wsX20 ++ (vx_atS RX4 164 "java/lang/IndexOutOfBoundsException" ["java/lang/RuntimeException", "java/lang/Exception"]).filter goodWord)
def wsX4_blockAt : List Cond := .code yX4_blockAt cX4_blockAt 4 (some .int) :: ([.methodLink RX4 78 yX4_requireContent, .instanceMethod yX4_requireContent, .selects RX4 yX4_requireContent yX4_requireContent, .initialized RX4, .code yX4_requireContent cX4_requireContent 2 (some (.object "Buddyfield$Content")), .classLink RX4 160 "java/lang/IndexOutOfBoundsException", .initialized "java/lang/IndexOutOfBoundsException", .fieldLink RX4 25 "Buddyfield" "contents" "[LBuddyfield$Content;", .methodLink RX4 97 yX4_requireRange, .static yX4_requireRange, .code yX4_requireRange cX4_requireRange 3 none, .classLink RX4 195 "java/lang/IllegalArgumentException", .initialized "java/lang/IllegalArgumentException"] ++ wsX00 ++ wsX40 ++ (vx_atS RX4 164 "java/lang/IndexOutOfBoundsException" ["java/lang/RuntimeException", "java/lang/Exception"]).filter goodWord ++ (vx_atS RX4 199 "java/lang/IllegalArgumentException" ["java/lang/RuntimeException", "java/lang/Exception"]).filter goodWord)
def wsX4_extents_r1 : List Cond := [Cond.methodLink RX4 78 yX4_requireContent, Cond.instanceMethod yX4_requireContent, Cond.selects RX4 yX4_requireContent yX4_requireContent, Cond.initialized RX4, Cond.code yX4_requireContent cX4_requireContent 2 (some (.object "Buddyfield$Content")), Cond.classLink RX4 160 "java/lang/IndexOutOfBoundsException", Cond.initialized "java/lang/IndexOutOfBoundsException", Cond.fieldLink RX4 25 "Buddyfield" "contents" "[LBuddyfield$Content;", Cond.instanceMethod yX0_countExtents, Cond.initialized RX0, Cond.selects RX0 yX0_countExtents yX0_countExtents, Cond.code yX0_countExtents cX0_countExtents 3 (some .int), Cond.methodLink RX0 76 yX0_beginsExtent, Cond.instanceMethod yX0_beginsExtent, Cond.selects RX0 yX0_beginsExtent yX0_beginsExtent, Cond.code yX0_beginsExtent cX0_beginsExtent 2 (some .boolean), Cond.methodLink RX0 70 yX0_isMapped, Cond.instanceMethod yX0_isMapped, Cond.selects RX0 yX0_isMapped yX0_isMapped, Cond.code yX0_isMapped cX0_isMapped 2 (some .boolean), Cond.fieldLink RX0 9 "Buddyfield$Content" "blocks" "[I", Cond.methodLink RX0 73 yX0_joinsAhead, Cond.instanceMethod yX0_joinsAhead, Cond.selects RX0 yX0_joinsAhead yX0_joinsAhead]
def wsX4_extents_r2 : List Cond := [Cond.code yX0_joinsAhead cX0_joinsAhead 2 (some .boolean)]
def wsX4_extents : List Cond := .code yX4_extents cX4_extents 2 (some .int) :: ((wsX4_extents_r1 ++ wsX4_extents_r2) ++ wsX40 ++ wsX00 ++ (vx_atS RX4 164 "java/lang/IndexOutOfBoundsException" ["java/lang/RuntimeException", "java/lang/Exception"]).filter goodWord)
def wsX4_extent_r1 : List Cond := [Cond.classLink RX4 160 "java/lang/IndexOutOfBoundsException", Cond.initialized "java/lang/IndexOutOfBoundsException", Cond.methodLink RX4 78 yX4_requireContent, Cond.instanceMethod yX4_requireContent, Cond.selects RX4 yX4_requireContent yX4_requireContent, Cond.initialized RX4, Cond.code yX4_requireContent cX4_requireContent 2 (some (.object "Buddyfield$Content")), Cond.fieldLink RX4 25 "Buddyfield" "contents" "[LBuddyfield$Content;", Cond.instanceMethod yX0_beginOfExtent, Cond.initialized RX0, Cond.selects RX0 yX0_beginOfExtent yX0_beginOfExtent, Cond.code yX0_beginOfExtent cX0_beginOfExtent 4 (some .int), Cond.methodLink RX0 76 yX0_beginsExtent, Cond.instanceMethod yX0_beginsExtent, Cond.selects RX0 yX0_beginsExtent yX0_beginsExtent, Cond.code yX0_beginsExtent cX0_beginsExtent 2 (some .boolean), Cond.methodLink RX0 70 yX0_isMapped, Cond.instanceMethod yX0_isMapped, Cond.selects RX0 yX0_isMapped yX0_isMapped, Cond.code yX0_isMapped cX0_isMapped 2 (some .boolean), Cond.fieldLink RX0 9 "Buddyfield$Content" "blocks" "[I", Cond.methodLink RX0 73 yX0_joinsAhead, Cond.instanceMethod yX0_joinsAhead, Cond.selects RX0 yX0_joinsAhead yX0_joinsAhead]
def wsX4_extent_r2 : List Cond := [Cond.code yX0_joinsAhead cX0_joinsAhead 2 (some .boolean), Cond.instanceMethod yX0_lengthOfExtent, Cond.selects RX0 yX0_lengthOfExtent yX0_lengthOfExtent, Cond.code yX0_lengthOfExtent cX0_lengthOfExtent 3 (some .int)]
def wsX4_extent : List Cond := .code yX4_extent cX4_extent 5 (some .int) :: ((wsX4_extent_r1 ++ wsX4_extent_r2) ++ wsX00 ++ wsX40 ++ (vx_atS RX4 164 "java/lang/IndexOutOfBoundsException" ["java/lang/RuntimeException", "java/lang/Exception"]).filter goodWord)
def wsX4_average_r1 : List Cond := [Cond.methodLink RX4 78 yX4_requireContent, Cond.instanceMethod yX4_requireContent, Cond.selects RX4 yX4_requireContent yX4_requireContent, Cond.initialized RX4, Cond.code yX4_requireContent cX4_requireContent 2 (some (.object "Buddyfield$Content")), Cond.classLink RX4 160 "java/lang/IndexOutOfBoundsException", Cond.initialized "java/lang/IndexOutOfBoundsException", Cond.fieldLink RX4 25 "Buddyfield" "contents" "[LBuddyfield$Content;", Cond.instanceMethod yX0_countExtents, Cond.initialized RX0, Cond.selects RX0 yX0_countExtents yX0_countExtents, Cond.code yX0_countExtents cX0_countExtents 3 (some .int), Cond.methodLink RX0 76 yX0_beginsExtent, Cond.instanceMethod yX0_beginsExtent, Cond.selects RX0 yX0_beginsExtent yX0_beginsExtent, Cond.code yX0_beginsExtent cX0_beginsExtent 2 (some .boolean), Cond.methodLink RX0 70 yX0_isMapped, Cond.instanceMethod yX0_isMapped, Cond.selects RX0 yX0_isMapped yX0_isMapped, Cond.code yX0_isMapped cX0_isMapped 2 (some .boolean), Cond.fieldLink RX0 9 "Buddyfield$Content" "blocks" "[I", Cond.methodLink RX0 73 yX0_joinsAhead, Cond.instanceMethod yX0_joinsAhead, Cond.selects RX0 yX0_joinsAhead yX0_joinsAhead]
def wsX4_average_r2 : List Cond := [Cond.code yX0_joinsAhead cX0_joinsAhead 2 (some .boolean), Cond.instanceMethod yX0_mappedPlaces, Cond.selects RX0 yX0_mappedPlaces yX0_mappedPlaces, Cond.code yX0_mappedPlaces cX0_mappedPlaces 3 (some .int)]
def wsX4_average : List Cond := .code yX4_average cX4_average 4 (some .float) :: ((wsX4_average_r1 ++ wsX4_average_r2) ++ wsX40 ++ wsX00 ++ (vx_atS RX4 164 "java/lang/IndexOutOfBoundsException" ["java/lang/RuntimeException", "java/lang/Exception"]).filter goodWord)
def wsX4_fileOf_r1 : List Cond := [Cond.fieldLink RX4 19 "Buddyfield" "directory" "LBuddyfield$Directory;", Cond.methodLink RX4 40 yX4_requireName, Cond.static yX4_requireName, Cond.initialized RX4, Cond.code yX4_requireName cX4_requireName 1 none, Cond.methodLink RX4 97 yX4_requireRange, Cond.static yX4_requireRange, Cond.code yX4_requireRange cX4_requireRange 3 none, Cond.classLink RX4 195 "java/lang/IllegalArgumentException", Cond.initialized "java/lang/IllegalArgumentException", Cond.instanceMethod yX1_fileWith, Cond.initialized RX1, Cond.selects RX1 yX1_fileWith yX1_fileWith, Cond.code yX1_fileWith cX1_fileWith 2 (some .int), Cond.methodLink RX1 42 yX1_lastLookedAt, Cond.instanceMethod yX1_lastLookedAt, Cond.selects RX1 yX1_lastLookedAt yX1_lastLookedAt, Cond.code yX1_lastLookedAt cX1_lastLookedAt 4 (some (.object "Buddyfield$Leaf")), Cond.static yX4_hashOf, Cond.code yX4_hashOf cX4_hashOf 1 (some .int), Cond.methodLink RX1 52 yX1_firstLookedAt, Cond.instanceMethod yX1_firstLookedAt, Cond.selects RX1 yX1_firstLookedAt yX1_firstLookedAt, Cond.code yX1_firstLookedAt cX1_firstLookedAt 4 (some (.object "Buddyfield$Leaf"))]
def wsX4_fileOf_r2 : List Cond := [Cond.methodLink RX1 28 yX1_lastLeafFor, Cond.instanceMethod yX1_lastLeafFor, Cond.selects RX1 yX1_lastLeafFor yX1_lastLeafFor, Cond.code yX1_lastLeafFor cX1_lastLeafFor 4 (some (.object "Buddyfield$Leaf")), Cond.fieldLink RX1 14 "Buddyfield$Directory" "firstLeaf" "LBuddyfield$Leaf;", Cond.instanceMethod yX3_continues, Cond.initialized RX3, Cond.selects RX3 yX3_continues yX3_continues, Cond.code yX3_continues cX3_continues 2 (some .boolean), Cond.fieldLink RX3 32 "Buddyfield$Leaf" "continued" "Z", Cond.fieldLink RX3 29 "Buddyfield$Leaf" "low" "I", Cond.instanceMethod yX3_has, Cond.selects RX3 yX3_has yX3_has, Cond.code yX3_has cX3_has 2 (some .boolean), Cond.methodLink RX3 36 yX3_indexOf, Cond.instanceMethod yX3_indexOf, Cond.selects RX3 yX3_indexOf yX3_indexOf, Cond.code yX3_indexOf cX3_indexOf 3 (some .int), Cond.fieldLink RX3 18 "Buddyfield$Leaf" "count" "I", Cond.fieldLink RX3 9 "Buddyfield$Leaf" "names" "[I", Cond.instanceMethod yX3_fileWith, Cond.selects RX3 yX3_fileWith yX3_fileWith, Cond.code yX3_fileWith cX3_fileWith 3 (some .int), Cond.fieldLink RX3 15 "Buddyfield$Leaf" "files" "[I"]
def wsX4_fileOf : List Cond := .code yX4_fileOf cX4_fileOf 2 (some .int) :: ((wsX4_fileOf_r1 ++ wsX4_fileOf_r2) ++ wsX40 ++ wsX30 ++ wsX10 ++ (vx_atS RX4 199 "java/lang/IllegalArgumentException" ["java/lang/RuntimeException", "java/lang/Exception"]).filter goodWord)
def wsX4_leaves : List Cond := .code yX4_leaves cX4_leaves 1 (some .int) :: ([.fieldLink RX4 19 "Buddyfield" "directory" "LBuddyfield$Directory;"] ++ wsX40 ++ wsX10)
def wsX4_looks_r1 : List Cond := [Cond.fieldLink RX4 19 "Buddyfield" "directory" "LBuddyfield$Directory;", Cond.methodLink RX4 40 yX4_requireName, Cond.static yX4_requireName, Cond.initialized RX4, Cond.code yX4_requireName cX4_requireName 1 none, Cond.methodLink RX4 97 yX4_requireRange, Cond.static yX4_requireRange, Cond.code yX4_requireRange cX4_requireRange 3 none, Cond.classLink RX4 195 "java/lang/IllegalArgumentException", Cond.initialized "java/lang/IllegalArgumentException", Cond.instanceMethod yX1_countLooks, Cond.initialized RX1, Cond.selects RX1 yX1_countLooks yX1_countLooks, Cond.code yX1_countLooks cX1_countLooks 5 (some .int), Cond.methodLink RX1 42 yX1_lastLookedAt, Cond.instanceMethod yX1_lastLookedAt, Cond.selects RX1 yX1_lastLookedAt yX1_lastLookedAt, Cond.code yX1_lastLookedAt cX1_lastLookedAt 4 (some (.object "Buddyfield$Leaf")), Cond.static yX4_hashOf, Cond.code yX4_hashOf cX4_hashOf 1 (some .int), Cond.methodLink RX1 52 yX1_firstLookedAt, Cond.instanceMethod yX1_firstLookedAt, Cond.selects RX1 yX1_firstLookedAt yX1_firstLookedAt, Cond.code yX1_firstLookedAt cX1_firstLookedAt 4 (some (.object "Buddyfield$Leaf"))]
def wsX4_looks_r2 : List Cond := [Cond.methodLink RX1 28 yX1_lastLeafFor, Cond.instanceMethod yX1_lastLeafFor, Cond.selects RX1 yX1_lastLeafFor yX1_lastLeafFor, Cond.code yX1_lastLeafFor cX1_lastLeafFor 4 (some (.object "Buddyfield$Leaf")), Cond.fieldLink RX1 14 "Buddyfield$Directory" "firstLeaf" "LBuddyfield$Leaf;", Cond.instanceMethod yX3_continues, Cond.initialized RX3, Cond.selects RX3 yX3_continues yX3_continues, Cond.code yX3_continues cX3_continues 2 (some .boolean), Cond.fieldLink RX3 32 "Buddyfield$Leaf" "continued" "Z", Cond.fieldLink RX3 29 "Buddyfield$Leaf" "low" "I", Cond.instanceMethod yX3_has, Cond.selects RX3 yX3_has yX3_has, Cond.code yX3_has cX3_has 2 (some .boolean), Cond.methodLink RX3 36 yX3_indexOf, Cond.instanceMethod yX3_indexOf, Cond.selects RX3 yX3_indexOf yX3_indexOf, Cond.code yX3_indexOf cX3_indexOf 3 (some .int), Cond.fieldLink RX3 18 "Buddyfield$Leaf" "count" "I", Cond.fieldLink RX3 9 "Buddyfield$Leaf" "names" "[I"]
def wsX4_looks : List Cond := .code yX4_looks cX4_looks 2 (some .int) :: ((wsX4_looks_r1 ++ wsX4_looks_r2) ++ wsX40 ++ wsX30 ++ wsX10 ++ (vx_atS RX4 199 "java/lang/IllegalArgumentException" ["java/lang/RuntimeException", "java/lang/Exception"]).filter goodWord)
def wsX5_init : List Cond := .code yX5_init cX5_init 2 none :: ([.methodLink RX5 1 objectInit, .instanceMethod objectInit, .code objectInit ⟨#[0xb1]⟩ 1 none, .arrayClass .boolean, .fieldLink RX5 7 "BuddyfieldModel" "free" "[Z", .fieldLink RX5 13 "BuddyfieldModel" "isFile" "[Z", .arrayClass .int, .fieldLink RX5 16 "BuddyfieldModel" "at" "[I", .fieldLink RX5 20 "BuddyfieldModel" "opens" "[I", .fieldLink RX5 23 "BuddyfieldModel" "keptFrom" "[I", .fieldLink RX5 26 "BuddyfieldModel" "keptMany" "[I", .fieldLink RX5 29 "BuddyfieldModel" "keptFor" "[I", .fieldLink RX5 32 "BuddyfieldModel" "cutTo" "[I", .fieldLink RX5 35 "BuddyfieldModel" "deleted" "[Z", .fieldLink RX5 38 "BuddyfieldModel" "fileOf" "[I", .fieldLink RX5 41 "BuddyfieldModel" "low" "[I", .fieldLink RX5 44 "BuddyfieldModel" "continued" "[Z", .fieldLink RX5 47 "BuddyfieldModel" "names" "[I", .fieldLink RX5 50 "BuddyfieldModel" "many" "[I", .fieldLink RX5 53 "BuddyfieldModel" "leaves" "I"] ++ wsX50)
def wsX5_thrown : List Cond := .code yX5_thrown cX5_thrown 1 (some .int) :: ([.fieldLink RX5 57 "BuddyfieldModel" "thrown" "I"] ++ wsX50)
def wsX5_in : List Cond := .code yX5_in cX5_in 3 (some .boolean) :: ([])
def wsX5_asked : List Cond := .code yX5_asked cX5_asked 2 (some .boolean) :: ([.fieldLink RX5 57 "BuddyfieldModel" "thrown" "I"] ++ wsX50)
def wsX5_asked_ : List Cond := .code yX5_asked_ cX5_asked_ 3 (some .boolean) :: ([.fieldLink RX5 57 "BuddyfieldModel" "thrown" "I"] ++ wsX50)
def wsX5_asked__ : List Cond := .code yX5_asked__ cX5_asked__ 4 (some .boolean) :: ([.fieldLink RX5 57 "BuddyfieldModel" "thrown" "I"] ++ wsX50)
def wsX5_told : List Cond := .code yX5_told cX5_told 2 (some .int) :: ([.fieldLink RX5 57 "BuddyfieldModel" "thrown" "I"] ++ wsX50)
def wsX5_isThere : List Cond := .code yX5_isThere cX5_isThere 2 (some .boolean) :: ([.fieldLink RX5 13 "BuddyfieldModel" "isFile" "[Z", .methodLink RX5 60 yX5_in, .static yX5_in, .initialized RX5, .code yX5_in cX5_in 3 (some .boolean)] ++ wsX50)
def wsX5_isName : List Cond := .code yX5_isName cX5_isName 1 (some .boolean) :: ([.methodLink RX5 60 yX5_in, .static yX5_in, .initialized RX5, .code yX5_in cX5_in 3 (some .boolean)])
def wsX5_freeNow : List Cond := .code yX5_freeNow cX5_freeNow 3 (some .int) :: ([.fieldLink RX5 7 "BuddyfieldModel" "free" "[Z"] ++ wsX50)
def wsX5_reservedNow : List Cond := .code yX5_reservedNow cX5_reservedNow 3 (some .int) :: ([.fieldLink RX5 16 "BuddyfieldModel" "at" "[I"] ++ wsX50)
def wsX5_keptNow : List Cond := .code yX5_keptNow cX5_keptNow 3 (some .int) :: ([.fieldLink RX5 26 "BuddyfieldModel" "keptMany" "[I"] ++ wsX50)
def wsX5_left : List Cond := .code yX5_left cX5_left 1 (some .int) :: ([.methodLink RX5 64 yX5_freeNow, .instanceMethod yX5_freeNow, .selects RX5 yX5_freeNow yX5_freeNow, .initialized RX5, .code yX5_freeNow cX5_freeNow 3 (some .int), .fieldLink RX5 7 "BuddyfieldModel" "free" "[Z", .methodLink RX5 68 yX5_reservedNow, .instanceMethod yX5_reservedNow, .selects RX5 yX5_reservedNow yX5_reservedNow, .code yX5_reservedNow cX5_reservedNow 3 (some .int), .fieldLink RX5 16 "BuddyfieldModel" "at" "[I"] ++ wsX50)
def wsX5_freesKept : List Cond := .code yX5_freesKept cX5_freesKept 3 none :: ([.fieldLink RX5 26 "BuddyfieldModel" "keptMany" "[I", .fieldLink RX5 7 "BuddyfieldModel" "free" "[Z", .fieldLink RX5 23 "BuddyfieldModel" "keptFrom" "[I"] ++ wsX50)
def wsX5_hash : List Cond := .code yX5_hash cX5_hash 1 (some .int) :: ([])
def wsX5_lastLeaf : List Cond := .code yX5_lastLeaf cX5_lastLeaf 3 (some .int) :: ([.fieldLink RX5 53 "BuddyfieldModel" "leaves" "I", .fieldLink RX5 41 "BuddyfieldModel" "low" "[I"] ++ wsX50)
def wsX5_isAhead : List Cond := .code yX5_isAhead cX5_isAhead 2 (some .boolean) :: ([.methodLink RX5 71 yX5_hash, .static yX5_hash, .initialized RX5, .code yX5_hash cX5_hash 1 (some .int)])
def wsX5_splits : List Cond := .code yX5_splits cX5_splits 6 none :: ([.fieldLink RX5 53 "BuddyfieldModel" "leaves" "I", .fieldLink RX5 41 "BuddyfieldModel" "low" "[I", .fieldLink RX5 44 "BuddyfieldModel" "continued" "[Z", .fieldLink RX5 50 "BuddyfieldModel" "many" "[I", .fieldLink RX5 47 "BuddyfieldModel" "names" "[I", .methodLink RX5 75 yX5_isAhead, .static yX5_isAhead, .initialized RX5, .code yX5_isAhead cX5_isAhead 2 (some .boolean), .methodLink RX5 71 yX5_hash, .static yX5_hash, .code yX5_hash cX5_hash 1 (some .int)] ++ wsX50)
def wsX5_addsName : List Cond := .code yX5_addsName cX5_addsName 3 none :: ([.fieldLink RX5 50 "BuddyfieldModel" "many" "[I", .fieldLink RX5 47 "BuddyfieldModel" "names" "[I", .methodLink RX5 71 yX5_hash, .static yX5_hash, .initialized RX5, .code yX5_hash cX5_hash 1 (some .int), .methodLink RX5 79 yX5_lastLeaf, .instanceMethod yX5_lastLeaf, .selects RX5 yX5_lastLeaf yX5_lastLeaf, .code yX5_lastLeaf cX5_lastLeaf 3 (some .int), .fieldLink RX5 53 "BuddyfieldModel" "leaves" "I", .fieldLink RX5 41 "BuddyfieldModel" "low" "[I", .methodLink RX5 82 yX5_splits, .instanceMethod yX5_splits, .selects RX5 yX5_splits yX5_splits, .code yX5_splits cX5_splits 6 none, .fieldLink RX5 44 "BuddyfieldModel" "continued" "[Z", .methodLink RX5 75 yX5_isAhead, .static yX5_isAhead, .code yX5_isAhead cX5_isAhead 2 (some .boolean)] ++ wsX50)
def wsX5_isIn : List Cond := .code yX5_isIn cX5_isIn 5 (some .boolean) :: ([.fieldLink RX5 50 "BuddyfieldModel" "many" "[I", .fieldLink RX5 47 "BuddyfieldModel" "names" "[I"] ++ wsX50)
def wsX5_begins : List Cond := .code yX5_begins cX5_begins 3 (some .int) :: ([.fieldLink RX5 44 "BuddyfieldModel" "continued" "[Z", .fieldLink RX5 41 "BuddyfieldModel" "low" "[I", .methodLink RX5 71 yX5_hash, .static yX5_hash, .initialized RX5, .code yX5_hash cX5_hash 1 (some .int), .methodLink RX5 79 yX5_lastLeaf, .instanceMethod yX5_lastLeaf, .selects RX5 yX5_lastLeaf yX5_lastLeaf, .code yX5_lastLeaf cX5_lastLeaf 3 (some .int), .fieldLink RX5 53 "BuddyfieldModel" "leaves" "I"] ++ wsX50)
def wsX5_goesOn : List Cond := .code yX5_goesOn cX5_goesOn 3 (some .boolean) :: ([.fieldLink RX5 53 "BuddyfieldModel" "leaves" "I", .fieldLink RX5 44 "BuddyfieldModel" "continued" "[Z", .fieldLink RX5 41 "BuddyfieldModel" "low" "[I", .methodLink RX5 86 yX5_isIn, .instanceMethod yX5_isIn, .selects RX5 yX5_isIn yX5_isIn, .initialized RX5, .code yX5_isIn cX5_isIn 5 (some .boolean), .fieldLink RX5 50 "BuddyfieldModel" "many" "[I", .fieldLink RX5 47 "BuddyfieldModel" "names" "[I", .methodLink RX5 71 yX5_hash, .static yX5_hash, .code yX5_hash cX5_hash 1 (some .int)] ++ wsX50)
def wsX5_takesOut_r1 : List Cond := [Cond.fieldLink RX5 47 "BuddyfieldModel" "names" "[I", Cond.fieldLink RX5 50 "BuddyfieldModel" "many" "[I", Cond.fieldLink RX5 38 "BuddyfieldModel" "fileOf" "[I", Cond.methodLink RX5 89 yX5_begins, Cond.instanceMethod yX5_begins, Cond.selects RX5 yX5_begins yX5_begins, Cond.initialized RX5, Cond.code yX5_begins cX5_begins 3 (some .int), Cond.fieldLink RX5 44 "BuddyfieldModel" "continued" "[Z", Cond.fieldLink RX5 41 "BuddyfieldModel" "low" "[I", Cond.methodLink RX5 71 yX5_hash, Cond.static yX5_hash, Cond.code yX5_hash cX5_hash 1 (some .int), Cond.methodLink RX5 79 yX5_lastLeaf, Cond.instanceMethod yX5_lastLeaf, Cond.selects RX5 yX5_lastLeaf yX5_lastLeaf, Cond.code yX5_lastLeaf cX5_lastLeaf 3 (some .int), Cond.fieldLink RX5 53 "BuddyfieldModel" "leaves" "I", Cond.methodLink RX5 92 yX5_goesOn, Cond.instanceMethod yX5_goesOn, Cond.selects RX5 yX5_goesOn yX5_goesOn, Cond.code yX5_goesOn cX5_goesOn 3 (some .boolean), Cond.methodLink RX5 86 yX5_isIn, Cond.instanceMethod yX5_isIn]
def wsX5_takesOut_r2 : List Cond := [Cond.selects RX5 yX5_isIn yX5_isIn, Cond.code yX5_isIn cX5_isIn 5 (some .boolean)]
def wsX5_takesOut : List Cond := .code yX5_takesOut cX5_takesOut 4 none :: ((wsX5_takesOut_r1 ++ wsX5_takesOut_r2) ++ wsX50)
def wsX5_crashes : List Cond := .code yX5_crashes cX5_crashes 2 none :: ([.fieldLink RX5 16 "BuddyfieldModel" "at" "[I", .fieldLink RX5 20 "BuddyfieldModel" "opens" "[I", .fieldLink RX5 98 "BuddyfieldModel" "down" "Z", .fieldLink RX5 102 "BuddyfieldModel" "crashIn" "I", .methodLink RX5 95 yX5_freesKept, .instanceMethod yX5_freesKept, .selects RX5 yX5_freesKept yX5_freesKept, .initialized RX5, .code yX5_freesKept cX5_freesKept 3 none, .fieldLink RX5 26 "BuddyfieldModel" "keptMany" "[I", .fieldLink RX5 7 "BuddyfieldModel" "free" "[Z", .fieldLink RX5 23 "BuddyfieldModel" "keptFrom" "[I"] ++ wsX50)
def wsX5_steps : List Cond := .code yX5_steps cX5_steps 6 (some .boolean) :: ([.fieldLink RX5 16 "BuddyfieldModel" "at" "[I", .fieldLink RX5 7 "BuddyfieldModel" "free" "[Z"] ++ wsX50)
def wsX5_cuts : List Cond := .code yX5_cuts cX5_cuts 4 (some .int) :: ([.fieldLink RX5 16 "BuddyfieldModel" "at" "[I", .fieldLink RX5 102 "BuddyfieldModel" "crashIn" "I", .fieldLink RX5 32 "BuddyfieldModel" "cutTo" "[I", .methodLink RX5 95 yX5_freesKept, .instanceMethod yX5_freesKept, .selects RX5 yX5_freesKept yX5_freesKept, .initialized RX5, .code yX5_freesKept cX5_freesKept 3 none, .fieldLink RX5 26 "BuddyfieldModel" "keptMany" "[I", .fieldLink RX5 7 "BuddyfieldModel" "free" "[Z", .fieldLink RX5 23 "BuddyfieldModel" "keptFrom" "[I", .methodLink RX5 105 yX5_steps, .instanceMethod yX5_steps, .selects RX5 yX5_steps yX5_steps, .code yX5_steps cX5_steps 6 (some .boolean), .methodLink RX5 108 yX5_crashes, .instanceMethod yX5_crashes, .selects RX5 yX5_crashes yX5_crashes, .code yX5_crashes cX5_crashes 2 none, .fieldLink RX5 20 "BuddyfieldModel" "opens" "[I", .fieldLink RX5 98 "BuddyfieldModel" "down" "Z"] ++ wsX50)
def wsX5_ends_r1 : List Cond := [Cond.fieldLink RX5 13 "BuddyfieldModel" "isFile" "[Z", Cond.fieldLink RX5 35 "BuddyfieldModel" "deleted" "[Z", Cond.methodLink RX5 111 yX5_cuts, Cond.instanceMethod yX5_cuts, Cond.selects RX5 yX5_cuts yX5_cuts, Cond.initialized RX5, Cond.code yX5_cuts cX5_cuts 4 (some .int), Cond.fieldLink RX5 16 "BuddyfieldModel" "at" "[I", Cond.fieldLink RX5 102 "BuddyfieldModel" "crashIn" "I", Cond.fieldLink RX5 32 "BuddyfieldModel" "cutTo" "[I", Cond.methodLink RX5 95 yX5_freesKept, Cond.instanceMethod yX5_freesKept, Cond.selects RX5 yX5_freesKept yX5_freesKept, Cond.code yX5_freesKept cX5_freesKept 3 none, Cond.fieldLink RX5 26 "BuddyfieldModel" "keptMany" "[I", Cond.fieldLink RX5 7 "BuddyfieldModel" "free" "[Z", Cond.fieldLink RX5 23 "BuddyfieldModel" "keptFrom" "[I", Cond.methodLink RX5 105 yX5_steps, Cond.instanceMethod yX5_steps, Cond.selects RX5 yX5_steps yX5_steps, Cond.code yX5_steps cX5_steps 6 (some .boolean), Cond.methodLink RX5 108 yX5_crashes, Cond.instanceMethod yX5_crashes, Cond.selects RX5 yX5_crashes yX5_crashes]
def wsX5_ends_r2 : List Cond := [Cond.code yX5_crashes cX5_crashes 2 none, Cond.fieldLink RX5 20 "BuddyfieldModel" "opens" "[I", Cond.fieldLink RX5 98 "BuddyfieldModel" "down" "Z"]
def wsX5_ends : List Cond := .code yX5_ends cX5_ends 2 (some .boolean) :: ((wsX5_ends_r1 ++ wsX5_ends_r2) ++ wsX50)
def wsX5_create_r1 : List Cond := [Cond.fieldLink RX5 13 "BuddyfieldModel" "isFile" "[Z", Cond.fieldLink RX5 98 "BuddyfieldModel" "down" "Z", Cond.fieldLink RX5 38 "BuddyfieldModel" "fileOf" "[I", Cond.methodLink RX5 115 yX5_isName, Cond.static yX5_isName, Cond.initialized RX5, Cond.code yX5_isName cX5_isName 1 (some .boolean), Cond.methodLink RX5 60 yX5_in, Cond.static yX5_in, Cond.code yX5_in cX5_in 3 (some .boolean), Cond.methodLink RX5 119 yX5_asked_, Cond.instanceMethod yX5_asked_, Cond.selects RX5 yX5_asked_ yX5_asked_, Cond.code yX5_asked_ cX5_asked_ 3 (some .boolean), Cond.fieldLink RX5 57 "BuddyfieldModel" "thrown" "I", Cond.methodLink RX5 123 yX5_addsName, Cond.instanceMethod yX5_addsName, Cond.selects RX5 yX5_addsName yX5_addsName, Cond.code yX5_addsName cX5_addsName 3 none, Cond.fieldLink RX5 50 "BuddyfieldModel" "many" "[I", Cond.fieldLink RX5 47 "BuddyfieldModel" "names" "[I", Cond.methodLink RX5 71 yX5_hash, Cond.static yX5_hash, Cond.code yX5_hash cX5_hash 1 (some .int)]
def wsX5_create_r2 : List Cond := [Cond.methodLink RX5 79 yX5_lastLeaf, Cond.instanceMethod yX5_lastLeaf, Cond.selects RX5 yX5_lastLeaf yX5_lastLeaf, Cond.code yX5_lastLeaf cX5_lastLeaf 3 (some .int), Cond.fieldLink RX5 53 "BuddyfieldModel" "leaves" "I", Cond.fieldLink RX5 41 "BuddyfieldModel" "low" "[I", Cond.methodLink RX5 82 yX5_splits, Cond.instanceMethod yX5_splits, Cond.selects RX5 yX5_splits yX5_splits, Cond.code yX5_splits cX5_splits 6 none, Cond.fieldLink RX5 44 "BuddyfieldModel" "continued" "[Z", Cond.methodLink RX5 75 yX5_isAhead, Cond.static yX5_isAhead, Cond.code yX5_isAhead cX5_isAhead 2 (some .boolean)]
def wsX5_create : List Cond := .code yX5_create cX5_create 4 (some .int) :: ((wsX5_create_r1 ++ wsX5_create_r2) ++ wsX50)
def wsX5_open : List Cond := .code yX5_open cX5_open 3 (some .int) :: ([.fieldLink RX5 98 "BuddyfieldModel" "down" "Z", .fieldLink RX5 38 "BuddyfieldModel" "fileOf" "[I", .fieldLink RX5 20 "BuddyfieldModel" "opens" "[I", .methodLink RX5 115 yX5_isName, .static yX5_isName, .initialized RX5, .code yX5_isName cX5_isName 1 (some .boolean), .methodLink RX5 60 yX5_in, .static yX5_in, .code yX5_in cX5_in 3 (some .boolean), .methodLink RX5 119 yX5_asked_, .instanceMethod yX5_asked_, .selects RX5 yX5_asked_ yX5_asked_, .code yX5_asked_ cX5_asked_ 3 (some .boolean), .fieldLink RX5 57 "BuddyfieldModel" "thrown" "I"] ++ wsX50)
def wsX5_close_r1 : List Cond := [Cond.fieldLink RX5 98 "BuddyfieldModel" "down" "Z", Cond.fieldLink RX5 20 "BuddyfieldModel" "opens" "[I", Cond.fieldLink RX5 35 "BuddyfieldModel" "deleted" "[Z", Cond.methodLink RX5 126 yX5_isThere, Cond.instanceMethod yX5_isThere, Cond.selects RX5 yX5_isThere yX5_isThere, Cond.initialized RX5, Cond.code yX5_isThere cX5_isThere 2 (some .boolean), Cond.fieldLink RX5 13 "BuddyfieldModel" "isFile" "[Z", Cond.methodLink RX5 60 yX5_in, Cond.static yX5_in, Cond.code yX5_in cX5_in 3 (some .boolean), Cond.methodLink RX5 119 yX5_asked_, Cond.instanceMethod yX5_asked_, Cond.selects RX5 yX5_asked_ yX5_asked_, Cond.code yX5_asked_ cX5_asked_ 3 (some .boolean), Cond.fieldLink RX5 57 "BuddyfieldModel" "thrown" "I", Cond.methodLink RX5 129 yX5_ends, Cond.instanceMethod yX5_ends, Cond.selects RX5 yX5_ends yX5_ends, Cond.code yX5_ends cX5_ends 2 (some .boolean), Cond.methodLink RX5 111 yX5_cuts, Cond.instanceMethod yX5_cuts, Cond.selects RX5 yX5_cuts yX5_cuts]
def wsX5_close_r2 : List Cond := [Cond.code yX5_cuts cX5_cuts 4 (some .int), Cond.fieldLink RX5 16 "BuddyfieldModel" "at" "[I", Cond.fieldLink RX5 102 "BuddyfieldModel" "crashIn" "I", Cond.fieldLink RX5 32 "BuddyfieldModel" "cutTo" "[I", Cond.methodLink RX5 95 yX5_freesKept, Cond.instanceMethod yX5_freesKept, Cond.selects RX5 yX5_freesKept yX5_freesKept, Cond.code yX5_freesKept cX5_freesKept 3 none, Cond.fieldLink RX5 26 "BuddyfieldModel" "keptMany" "[I", Cond.fieldLink RX5 7 "BuddyfieldModel" "free" "[Z", Cond.fieldLink RX5 23 "BuddyfieldModel" "keptFrom" "[I", Cond.methodLink RX5 105 yX5_steps, Cond.instanceMethod yX5_steps, Cond.selects RX5 yX5_steps yX5_steps, Cond.code yX5_steps cX5_steps 6 (some .boolean), Cond.methodLink RX5 108 yX5_crashes, Cond.instanceMethod yX5_crashes, Cond.selects RX5 yX5_crashes yX5_crashes, Cond.code yX5_crashes cX5_crashes 2 none]
def wsX5_close : List Cond := .code yX5_close cX5_close 3 (some .int) :: ((wsX5_close_r1 ++ wsX5_close_r2) ++ wsX50)
def wsX5_delete_r1 : List Cond := [Cond.fieldLink RX5 98 "BuddyfieldModel" "down" "Z", Cond.fieldLink RX5 38 "BuddyfieldModel" "fileOf" "[I", Cond.fieldLink RX5 35 "BuddyfieldModel" "deleted" "[Z", Cond.fieldLink RX5 20 "BuddyfieldModel" "opens" "[I", Cond.methodLink RX5 115 yX5_isName, Cond.static yX5_isName, Cond.initialized RX5, Cond.code yX5_isName cX5_isName 1 (some .boolean), Cond.methodLink RX5 60 yX5_in, Cond.static yX5_in, Cond.code yX5_in cX5_in 3 (some .boolean), Cond.methodLink RX5 119 yX5_asked_, Cond.instanceMethod yX5_asked_, Cond.selects RX5 yX5_asked_ yX5_asked_, Cond.code yX5_asked_ cX5_asked_ 3 (some .boolean), Cond.fieldLink RX5 57 "BuddyfieldModel" "thrown" "I", Cond.methodLink RX5 132 yX5_takesOut, Cond.instanceMethod yX5_takesOut, Cond.selects RX5 yX5_takesOut yX5_takesOut, Cond.code yX5_takesOut cX5_takesOut 4 none, Cond.fieldLink RX5 47 "BuddyfieldModel" "names" "[I", Cond.fieldLink RX5 50 "BuddyfieldModel" "many" "[I", Cond.methodLink RX5 89 yX5_begins, Cond.instanceMethod yX5_begins]
def wsX5_delete_r2 : List Cond := [Cond.selects RX5 yX5_begins yX5_begins, Cond.code yX5_begins cX5_begins 3 (some .int), Cond.fieldLink RX5 44 "BuddyfieldModel" "continued" "[Z", Cond.fieldLink RX5 41 "BuddyfieldModel" "low" "[I", Cond.methodLink RX5 71 yX5_hash, Cond.static yX5_hash, Cond.code yX5_hash cX5_hash 1 (some .int), Cond.methodLink RX5 79 yX5_lastLeaf, Cond.instanceMethod yX5_lastLeaf, Cond.selects RX5 yX5_lastLeaf yX5_lastLeaf, Cond.code yX5_lastLeaf cX5_lastLeaf 3 (some .int), Cond.fieldLink RX5 53 "BuddyfieldModel" "leaves" "I", Cond.methodLink RX5 92 yX5_goesOn, Cond.instanceMethod yX5_goesOn, Cond.selects RX5 yX5_goesOn yX5_goesOn, Cond.code yX5_goesOn cX5_goesOn 3 (some .boolean), Cond.methodLink RX5 86 yX5_isIn, Cond.instanceMethod yX5_isIn, Cond.selects RX5 yX5_isIn yX5_isIn, Cond.code yX5_isIn cX5_isIn 5 (some .boolean), Cond.methodLink RX5 129 yX5_ends, Cond.instanceMethod yX5_ends, Cond.selects RX5 yX5_ends yX5_ends, Cond.code yX5_ends cX5_ends 2 (some .boolean)]
def wsX5_delete_r3 : List Cond := [Cond.fieldLink RX5 13 "BuddyfieldModel" "isFile" "[Z", Cond.methodLink RX5 111 yX5_cuts, Cond.instanceMethod yX5_cuts, Cond.selects RX5 yX5_cuts yX5_cuts, Cond.code yX5_cuts cX5_cuts 4 (some .int), Cond.fieldLink RX5 16 "BuddyfieldModel" "at" "[I", Cond.fieldLink RX5 102 "BuddyfieldModel" "crashIn" "I", Cond.fieldLink RX5 32 "BuddyfieldModel" "cutTo" "[I", Cond.methodLink RX5 95 yX5_freesKept, Cond.instanceMethod yX5_freesKept, Cond.selects RX5 yX5_freesKept yX5_freesKept, Cond.code yX5_freesKept cX5_freesKept 3 none, Cond.fieldLink RX5 26 "BuddyfieldModel" "keptMany" "[I", Cond.fieldLink RX5 7 "BuddyfieldModel" "free" "[Z", Cond.fieldLink RX5 23 "BuddyfieldModel" "keptFrom" "[I", Cond.methodLink RX5 105 yX5_steps, Cond.instanceMethod yX5_steps, Cond.selects RX5 yX5_steps yX5_steps, Cond.code yX5_steps cX5_steps 6 (some .boolean), Cond.methodLink RX5 108 yX5_crashes, Cond.instanceMethod yX5_crashes, Cond.selects RX5 yX5_crashes yX5_crashes, Cond.code yX5_crashes cX5_crashes 2 none]
def wsX5_delete : List Cond := .code yX5_delete cX5_delete 4 (some .int) :: ((wsX5_delete_r1 ++ (wsX5_delete_r2 ++ wsX5_delete_r3)) ++ wsX50)
def wsX5_write_r1 : List Cond := [Cond.fieldLink RX5 16 "BuddyfieldModel" "at" "[I", Cond.fieldLink RX5 98 "BuddyfieldModel" "down" "Z", Cond.methodLink RX5 126 yX5_isThere, Cond.instanceMethod yX5_isThere, Cond.selects RX5 yX5_isThere yX5_isThere, Cond.initialized RX5, Cond.code yX5_isThere cX5_isThere 2 (some .boolean), Cond.fieldLink RX5 13 "BuddyfieldModel" "isFile" "[Z", Cond.methodLink RX5 60 yX5_in, Cond.static yX5_in, Cond.code yX5_in cX5_in 3 (some .boolean), Cond.methodLink RX5 135 yX5_left, Cond.instanceMethod yX5_left, Cond.selects RX5 yX5_left yX5_left, Cond.code yX5_left cX5_left 1 (some .int), Cond.methodLink RX5 64 yX5_freeNow, Cond.instanceMethod yX5_freeNow, Cond.selects RX5 yX5_freeNow yX5_freeNow, Cond.code yX5_freeNow cX5_freeNow 3 (some .int), Cond.fieldLink RX5 7 "BuddyfieldModel" "free" "[Z", Cond.methodLink RX5 68 yX5_reservedNow, Cond.instanceMethod yX5_reservedNow, Cond.selects RX5 yX5_reservedNow yX5_reservedNow, Cond.code yX5_reservedNow cX5_reservedNow 3 (some .int)]
def wsX5_write_r2 : List Cond := [Cond.methodLink RX5 138 yX5_keptNow, Cond.instanceMethod yX5_keptNow, Cond.selects RX5 yX5_keptNow yX5_keptNow, Cond.code yX5_keptNow cX5_keptNow 3 (some .int), Cond.fieldLink RX5 26 "BuddyfieldModel" "keptMany" "[I", Cond.methodLink RX5 141 yX5_asked__, Cond.instanceMethod yX5_asked__, Cond.selects RX5 yX5_asked__ yX5_asked__, Cond.code yX5_asked__ cX5_asked__ 4 (some .boolean), Cond.fieldLink RX5 57 "BuddyfieldModel" "thrown" "I", Cond.methodLink RX5 95 yX5_freesKept, Cond.instanceMethod yX5_freesKept, Cond.selects RX5 yX5_freesKept yX5_freesKept, Cond.code yX5_freesKept cX5_freesKept 3 none, Cond.fieldLink RX5 23 "BuddyfieldModel" "keptFrom" "[I"]
def wsX5_write : List Cond := .code yX5_write cX5_write 8 (some .int) :: ((wsX5_write_r1 ++ wsX5_write_r2) ++ wsX50)
def wsX5_areFree : List Cond := .code yX5_areFree cX5_areFree 5 (some .boolean) :: ([.fieldLink RX5 7 "BuddyfieldModel" "free" "[Z"] ++ wsX50)
def wsX5_finds : List Cond := .code yX5_finds cX5_finds 6 (some .int) :: ([.methodLink RX5 144 yX5_areFree, .instanceMethod yX5_areFree, .selects RX5 yX5_areFree yX5_areFree, .initialized RX5, .code yX5_areFree cX5_areFree 5 (some .boolean), .fieldLink RX5 7 "BuddyfieldModel" "free" "[Z"] ++ wsX50)
def wsX5_maps_r1 : List Cond := [Cond.fieldLink RX5 26 "BuddyfieldModel" "keptMany" "[I", Cond.fieldLink RX5 29 "BuddyfieldModel" "keptFor" "[I", Cond.fieldLink RX5 16 "BuddyfieldModel" "at" "[I", Cond.fieldLink RX5 23 "BuddyfieldModel" "keptFrom" "[I", Cond.fieldLink RX5 7 "BuddyfieldModel" "free" "[Z", Cond.methodLink RX5 135 yX5_left, Cond.instanceMethod yX5_left, Cond.selects RX5 yX5_left yX5_left, Cond.initialized RX5, Cond.code yX5_left cX5_left 1 (some .int), Cond.methodLink RX5 64 yX5_freeNow, Cond.instanceMethod yX5_freeNow, Cond.selects RX5 yX5_freeNow yX5_freeNow, Cond.code yX5_freeNow cX5_freeNow 3 (some .int), Cond.methodLink RX5 68 yX5_reservedNow, Cond.instanceMethod yX5_reservedNow, Cond.selects RX5 yX5_reservedNow yX5_reservedNow, Cond.code yX5_reservedNow cX5_reservedNow 3 (some .int), Cond.methodLink RX5 147 yX5_finds, Cond.instanceMethod yX5_finds, Cond.selects RX5 yX5_finds yX5_finds, Cond.code yX5_finds cX5_finds 6 (some .int), Cond.methodLink RX5 144 yX5_areFree, Cond.instanceMethod yX5_areFree]
def wsX5_maps_r2 : List Cond := [Cond.selects RX5 yX5_areFree yX5_areFree, Cond.code yX5_areFree cX5_areFree 5 (some .boolean), Cond.methodLink RX5 95 yX5_freesKept, Cond.instanceMethod yX5_freesKept, Cond.selects RX5 yX5_freesKept yX5_freesKept, Cond.code yX5_freesKept cX5_freesKept 3 none]
def wsX5_maps : List Cond := .code yX5_maps cX5_maps 10 (some .int) :: ((wsX5_maps_r1 ++ wsX5_maps_r2) ++ wsX50)
def wsX5_flush_r1 : List Cond := [Cond.fieldLink RX5 98 "BuddyfieldModel" "down" "Z", Cond.fieldLink RX5 16 "BuddyfieldModel" "at" "[I", Cond.methodLink RX5 126 yX5_isThere, Cond.instanceMethod yX5_isThere, Cond.selects RX5 yX5_isThere yX5_isThere, Cond.initialized RX5, Cond.code yX5_isThere cX5_isThere 2 (some .boolean), Cond.fieldLink RX5 13 "BuddyfieldModel" "isFile" "[Z", Cond.methodLink RX5 60 yX5_in, Cond.static yX5_in, Cond.code yX5_in cX5_in 3 (some .boolean), Cond.methodLink RX5 119 yX5_asked_, Cond.instanceMethod yX5_asked_, Cond.selects RX5 yX5_asked_ yX5_asked_, Cond.code yX5_asked_ cX5_asked_ 3 (some .boolean), Cond.fieldLink RX5 57 "BuddyfieldModel" "thrown" "I", Cond.methodLink RX5 150 yX5_maps, Cond.instanceMethod yX5_maps, Cond.selects RX5 yX5_maps yX5_maps, Cond.code yX5_maps cX5_maps 10 (some .int), Cond.fieldLink RX5 26 "BuddyfieldModel" "keptMany" "[I", Cond.fieldLink RX5 29 "BuddyfieldModel" "keptFor" "[I", Cond.fieldLink RX5 23 "BuddyfieldModel" "keptFrom" "[I", Cond.fieldLink RX5 7 "BuddyfieldModel" "free" "[Z"]
def wsX5_flush_r2 : List Cond := [Cond.methodLink RX5 135 yX5_left, Cond.instanceMethod yX5_left, Cond.selects RX5 yX5_left yX5_left, Cond.code yX5_left cX5_left 1 (some .int), Cond.methodLink RX5 64 yX5_freeNow, Cond.instanceMethod yX5_freeNow, Cond.selects RX5 yX5_freeNow yX5_freeNow, Cond.code yX5_freeNow cX5_freeNow 3 (some .int), Cond.methodLink RX5 68 yX5_reservedNow, Cond.instanceMethod yX5_reservedNow, Cond.selects RX5 yX5_reservedNow yX5_reservedNow, Cond.code yX5_reservedNow cX5_reservedNow 3 (some .int), Cond.methodLink RX5 147 yX5_finds, Cond.instanceMethod yX5_finds, Cond.selects RX5 yX5_finds yX5_finds, Cond.code yX5_finds cX5_finds 6 (some .int), Cond.methodLink RX5 144 yX5_areFree, Cond.instanceMethod yX5_areFree, Cond.selects RX5 yX5_areFree yX5_areFree, Cond.code yX5_areFree cX5_areFree 5 (some .boolean), Cond.methodLink RX5 95 yX5_freesKept, Cond.instanceMethod yX5_freesKept, Cond.selects RX5 yX5_freesKept yX5_freesKept, Cond.code yX5_freesKept cX5_freesKept 3 none]
def wsX5_flush : List Cond := .code yX5_flush cX5_flush 7 (some .int) :: ((wsX5_flush_r1 ++ wsX5_flush_r2) ++ wsX50)
def wsX5_cut_r1 : List Cond := [Cond.fieldLink RX5 98 "BuddyfieldModel" "down" "Z", Cond.fieldLink RX5 32 "BuddyfieldModel" "cutTo" "[I", Cond.methodLink RX5 126 yX5_isThere, Cond.instanceMethod yX5_isThere, Cond.selects RX5 yX5_isThere yX5_isThere, Cond.initialized RX5, Cond.code yX5_isThere cX5_isThere 2 (some .boolean), Cond.fieldLink RX5 13 "BuddyfieldModel" "isFile" "[Z", Cond.methodLink RX5 60 yX5_in, Cond.static yX5_in, Cond.code yX5_in cX5_in 3 (some .boolean), Cond.methodLink RX5 141 yX5_asked__, Cond.instanceMethod yX5_asked__, Cond.selects RX5 yX5_asked__ yX5_asked__, Cond.code yX5_asked__ cX5_asked__ 4 (some .boolean), Cond.fieldLink RX5 57 "BuddyfieldModel" "thrown" "I", Cond.methodLink RX5 111 yX5_cuts, Cond.instanceMethod yX5_cuts, Cond.selects RX5 yX5_cuts yX5_cuts, Cond.code yX5_cuts cX5_cuts 4 (some .int), Cond.fieldLink RX5 16 "BuddyfieldModel" "at" "[I", Cond.fieldLink RX5 102 "BuddyfieldModel" "crashIn" "I", Cond.methodLink RX5 95 yX5_freesKept, Cond.instanceMethod yX5_freesKept]
def wsX5_cut_r2 : List Cond := [Cond.selects RX5 yX5_freesKept yX5_freesKept, Cond.code yX5_freesKept cX5_freesKept 3 none, Cond.fieldLink RX5 26 "BuddyfieldModel" "keptMany" "[I", Cond.fieldLink RX5 7 "BuddyfieldModel" "free" "[Z", Cond.fieldLink RX5 23 "BuddyfieldModel" "keptFrom" "[I", Cond.methodLink RX5 105 yX5_steps, Cond.instanceMethod yX5_steps, Cond.selects RX5 yX5_steps yX5_steps, Cond.code yX5_steps cX5_steps 6 (some .boolean), Cond.methodLink RX5 108 yX5_crashes, Cond.instanceMethod yX5_crashes, Cond.selects RX5 yX5_crashes yX5_crashes, Cond.code yX5_crashes cX5_crashes 2 none, Cond.fieldLink RX5 20 "BuddyfieldModel" "opens" "[I"]
def wsX5_cut : List Cond := .code yX5_cut cX5_cut 4 (some .int) :: ((wsX5_cut_r1 ++ wsX5_cut_r2) ++ wsX50)
def wsX5_crashBehind : List Cond := .code yX5_crashBehind cX5_crashBehind 2 none :: ([.fieldLink RX5 98 "BuddyfieldModel" "down" "Z", .fieldLink RX5 102 "BuddyfieldModel" "crashIn" "I", .methodLink RX5 60 yX5_in, .static yX5_in, .initialized RX5, .code yX5_in cX5_in 3 (some .boolean), .methodLink RX5 119 yX5_asked_, .instanceMethod yX5_asked_, .selects RX5 yX5_asked_ yX5_asked_, .code yX5_asked_ cX5_asked_ 3 (some .boolean), .fieldLink RX5 57 "BuddyfieldModel" "thrown" "I"] ++ wsX50)
def wsX5_crash : List Cond := .code yX5_crash cX5_crash 1 none :: ([.fieldLink RX5 98 "BuddyfieldModel" "down" "Z", .methodLink RX5 154 yX5_asked, .instanceMethod yX5_asked, .selects RX5 yX5_asked yX5_asked, .initialized RX5, .code yX5_asked cX5_asked 2 (some .boolean), .fieldLink RX5 57 "BuddyfieldModel" "thrown" "I", .methodLink RX5 108 yX5_crashes, .instanceMethod yX5_crashes, .selects RX5 yX5_crashes yX5_crashes, .code yX5_crashes cX5_crashes 2 none, .fieldLink RX5 16 "BuddyfieldModel" "at" "[I", .fieldLink RX5 20 "BuddyfieldModel" "opens" "[I", .fieldLink RX5 102 "BuddyfieldModel" "crashIn" "I", .methodLink RX5 95 yX5_freesKept, .instanceMethod yX5_freesKept, .selects RX5 yX5_freesKept yX5_freesKept, .code yX5_freesKept cX5_freesKept 3 none, .fieldLink RX5 26 "BuddyfieldModel" "keptMany" "[I", .fieldLink RX5 7 "BuddyfieldModel" "free" "[Z", .fieldLink RX5 23 "BuddyfieldModel" "keptFrom" "[I"] ++ wsX50)
def wsX5_start_r1 : List Cond := [Cond.fieldLink RX5 98 "BuddyfieldModel" "down" "Z", Cond.fieldLink RX5 35 "BuddyfieldModel" "deleted" "[Z", Cond.fieldLink RX5 32 "BuddyfieldModel" "cutTo" "[I", Cond.methodLink RX5 154 yX5_asked, Cond.instanceMethod yX5_asked, Cond.selects RX5 yX5_asked yX5_asked, Cond.initialized RX5, Cond.code yX5_asked cX5_asked 2 (some .boolean), Cond.fieldLink RX5 57 "BuddyfieldModel" "thrown" "I", Cond.methodLink RX5 129 yX5_ends, Cond.instanceMethod yX5_ends, Cond.selects RX5 yX5_ends yX5_ends, Cond.code yX5_ends cX5_ends 2 (some .boolean), Cond.fieldLink RX5 13 "BuddyfieldModel" "isFile" "[Z", Cond.methodLink RX5 111 yX5_cuts, Cond.instanceMethod yX5_cuts, Cond.selects RX5 yX5_cuts yX5_cuts, Cond.code yX5_cuts cX5_cuts 4 (some .int), Cond.fieldLink RX5 16 "BuddyfieldModel" "at" "[I", Cond.fieldLink RX5 102 "BuddyfieldModel" "crashIn" "I", Cond.methodLink RX5 95 yX5_freesKept, Cond.instanceMethod yX5_freesKept, Cond.selects RX5 yX5_freesKept yX5_freesKept, Cond.code yX5_freesKept cX5_freesKept 3 none]
def wsX5_start_r2 : List Cond := [Cond.fieldLink RX5 26 "BuddyfieldModel" "keptMany" "[I", Cond.fieldLink RX5 7 "BuddyfieldModel" "free" "[Z", Cond.fieldLink RX5 23 "BuddyfieldModel" "keptFrom" "[I", Cond.methodLink RX5 105 yX5_steps, Cond.instanceMethod yX5_steps, Cond.selects RX5 yX5_steps yX5_steps, Cond.code yX5_steps cX5_steps 6 (some .boolean), Cond.methodLink RX5 108 yX5_crashes, Cond.instanceMethod yX5_crashes, Cond.selects RX5 yX5_crashes yX5_crashes, Cond.code yX5_crashes cX5_crashes 2 none, Cond.fieldLink RX5 20 "BuddyfieldModel" "opens" "[I"]
def wsX5_start : List Cond := .code yX5_start cX5_start 3 (some .int) :: ((wsX5_start_r1 ++ wsX5_start_r2) ++ wsX50)
def wsX5_isDown : List Cond := .code yX5_isDown cX5_isDown 1 (some .boolean) :: ([.fieldLink RX5 57 "BuddyfieldModel" "thrown" "I", .fieldLink RX5 98 "BuddyfieldModel" "down" "Z"] ++ wsX50)
def wsX5_files : List Cond := .code yX5_files cX5_files 3 (some .int) :: ([.fieldLink RX5 13 "BuddyfieldModel" "isFile" "[Z", .methodLink RX5 157 yX5_told, .instanceMethod yX5_told, .selects RX5 yX5_told yX5_told, .initialized RX5, .code yX5_told cX5_told 2 (some .int), .fieldLink RX5 57 "BuddyfieldModel" "thrown" "I"] ++ wsX50)
def wsX5_listed : List Cond := .code yX5_listed cX5_listed 3 (some .int) :: ([.fieldLink RX5 35 "BuddyfieldModel" "deleted" "[Z", .fieldLink RX5 32 "BuddyfieldModel" "cutTo" "[I", .methodLink RX5 157 yX5_told, .instanceMethod yX5_told, .selects RX5 yX5_told yX5_told, .initialized RX5, .code yX5_told cX5_told 2 (some .int), .fieldLink RX5 57 "BuddyfieldModel" "thrown" "I"] ++ wsX50)
def wsX5_opens : List Cond := .code yX5_opens cX5_opens 2 (some .int) :: ([.fieldLink RX5 20 "BuddyfieldModel" "opens" "[I", .methodLink RX5 126 yX5_isThere, .instanceMethod yX5_isThere, .selects RX5 yX5_isThere yX5_isThere, .initialized RX5, .code yX5_isThere cX5_isThere 2 (some .boolean), .fieldLink RX5 13 "BuddyfieldModel" "isFile" "[Z", .methodLink RX5 60 yX5_in, .static yX5_in, .code yX5_in cX5_in 3 (some .boolean), .methodLink RX5 154 yX5_asked, .instanceMethod yX5_asked, .selects RX5 yX5_asked yX5_asked, .code yX5_asked cX5_asked 2 (some .boolean), .fieldLink RX5 57 "BuddyfieldModel" "thrown" "I"] ++ wsX50)
def wsX5_free : List Cond := .code yX5_free cX5_free 1 (some .int) :: ([.methodLink RX5 64 yX5_freeNow, .instanceMethod yX5_freeNow, .selects RX5 yX5_freeNow yX5_freeNow, .initialized RX5, .code yX5_freeNow cX5_freeNow 3 (some .int), .fieldLink RX5 7 "BuddyfieldModel" "free" "[Z", .methodLink RX5 157 yX5_told, .instanceMethod yX5_told, .selects RX5 yX5_told yX5_told, .code yX5_told cX5_told 2 (some .int), .fieldLink RX5 57 "BuddyfieldModel" "thrown" "I"] ++ wsX50)
def wsX5_freeByFiles : List Cond := .code yX5_freeByFiles cX5_freeByFiles 3 (some .int) :: ([.fieldLink RX5 16 "BuddyfieldModel" "at" "[I", .methodLink RX5 138 yX5_keptNow, .instanceMethod yX5_keptNow, .selects RX5 yX5_keptNow yX5_keptNow, .initialized RX5, .code yX5_keptNow cX5_keptNow 3 (some .int), .fieldLink RX5 26 "BuddyfieldModel" "keptMany" "[I", .methodLink RX5 157 yX5_told, .instanceMethod yX5_told, .selects RX5 yX5_told yX5_told, .code yX5_told cX5_told 2 (some .int), .fieldLink RX5 57 "BuddyfieldModel" "thrown" "I"] ++ wsX50)
def wsX5_reserved : List Cond := .code yX5_reserved cX5_reserved 1 (some .int) :: ([.methodLink RX5 68 yX5_reservedNow, .instanceMethod yX5_reservedNow, .selects RX5 yX5_reservedNow yX5_reservedNow, .initialized RX5, .code yX5_reservedNow cX5_reservedNow 3 (some .int), .fieldLink RX5 16 "BuddyfieldModel" "at" "[I", .methodLink RX5 157 yX5_told, .instanceMethod yX5_told, .selects RX5 yX5_told yX5_told, .code yX5_told cX5_told 2 (some .int), .fieldLink RX5 57 "BuddyfieldModel" "thrown" "I"] ++ wsX50)
def wsX5_kept : List Cond := .code yX5_kept cX5_kept 1 (some .int) :: ([.methodLink RX5 138 yX5_keptNow, .instanceMethod yX5_keptNow, .selects RX5 yX5_keptNow yX5_keptNow, .initialized RX5, .code yX5_keptNow cX5_keptNow 3 (some .int), .fieldLink RX5 26 "BuddyfieldModel" "keptMany" "[I", .methodLink RX5 157 yX5_told, .instanceMethod yX5_told, .selects RX5 yX5_told yX5_told, .code yX5_told cX5_told 2 (some .int), .fieldLink RX5 57 "BuddyfieldModel" "thrown" "I"] ++ wsX50)
def wsX5_pieces : List Cond := .code yX5_pieces cX5_pieces 6 (some .int) :: ([.methodLink RX5 60 yX5_in, .static yX5_in, .initialized RX5, .code yX5_in cX5_in 3 (some .boolean), .methodLink RX5 119 yX5_asked_, .instanceMethod yX5_asked_, .selects RX5 yX5_asked_ yX5_asked_, .code yX5_asked_ cX5_asked_ 3 (some .boolean), .fieldLink RX5 57 "BuddyfieldModel" "thrown" "I", .methodLink RX5 144 yX5_areFree, .instanceMethod yX5_areFree, .selects RX5 yX5_areFree yX5_areFree, .code yX5_areFree cX5_areFree 5 (some .boolean), .fieldLink RX5 7 "BuddyfieldModel" "free" "[Z"] ++ wsX50)
def wsX5_isFree : List Cond := .code yX5_isFree cX5_isFree 2 (some .boolean) :: ([.fieldLink RX5 7 "BuddyfieldModel" "free" "[Z", .methodLink RX5 60 yX5_in, .static yX5_in, .initialized RX5, .code yX5_in cX5_in 3 (some .boolean), .methodLink RX5 154 yX5_asked, .instanceMethod yX5_asked, .selects RX5 yX5_asked yX5_asked, .code yX5_asked cX5_asked 2 (some .boolean), .fieldLink RX5 57 "BuddyfieldModel" "thrown" "I"] ++ wsX50)
def wsX5_blockAt : List Cond := .code yX5_blockAt cX5_blockAt 3 (some .int) :: ([.fieldLink RX5 16 "BuddyfieldModel" "at" "[I", .methodLink RX5 126 yX5_isThere, .instanceMethod yX5_isThere, .selects RX5 yX5_isThere yX5_isThere, .initialized RX5, .code yX5_isThere cX5_isThere 2 (some .boolean), .fieldLink RX5 13 "BuddyfieldModel" "isFile" "[Z", .methodLink RX5 60 yX5_in, .static yX5_in, .code yX5_in cX5_in 3 (some .boolean), .methodLink RX5 119 yX5_asked_, .instanceMethod yX5_asked_, .selects RX5 yX5_asked_ yX5_asked_, .code yX5_asked_ cX5_asked_ 3 (some .boolean), .fieldLink RX5 57 "BuddyfieldModel" "thrown" "I"] ++ wsX50)
def wsX5_isBegin : List Cond := .code yX5_isBegin cX5_isBegin 4 (some .boolean) :: ([.fieldLink RX5 16 "BuddyfieldModel" "at" "[I"] ++ wsX50)
def wsX5_extentsOf : List Cond := .code yX5_extentsOf cX5_extentsOf 4 (some .int) :: ([.methodLink RX5 160 yX5_isBegin, .instanceMethod yX5_isBegin, .selects RX5 yX5_isBegin yX5_isBegin, .initialized RX5, .code yX5_isBegin cX5_isBegin 4 (some .boolean), .fieldLink RX5 16 "BuddyfieldModel" "at" "[I"] ++ wsX50)
def wsX5_extents : List Cond := .code yX5_extents cX5_extents 2 (some .int) :: ([.methodLink RX5 126 yX5_isThere, .instanceMethod yX5_isThere, .selects RX5 yX5_isThere yX5_isThere, .initialized RX5, .code yX5_isThere cX5_isThere 2 (some .boolean), .fieldLink RX5 13 "BuddyfieldModel" "isFile" "[Z", .methodLink RX5 60 yX5_in, .static yX5_in, .code yX5_in cX5_in 3 (some .boolean), .methodLink RX5 154 yX5_asked, .instanceMethod yX5_asked, .selects RX5 yX5_asked yX5_asked, .code yX5_asked cX5_asked 2 (some .boolean), .fieldLink RX5 57 "BuddyfieldModel" "thrown" "I", .methodLink RX5 163 yX5_extentsOf, .instanceMethod yX5_extentsOf, .selects RX5 yX5_extentsOf yX5_extentsOf, .code yX5_extentsOf cX5_extentsOf 4 (some .int), .methodLink RX5 160 yX5_isBegin, .instanceMethod yX5_isBegin, .selects RX5 yX5_isBegin yX5_isBegin, .code yX5_isBegin cX5_isBegin 4 (some .boolean), .fieldLink RX5 16 "BuddyfieldModel" "at" "[I"] ++ wsX50)
def wsX5_extent : List Cond := .code yX5_extent cX5_extent 6 (some .int) :: ([.fieldLink RX5 16 "BuddyfieldModel" "at" "[I", .methodLink RX5 126 yX5_isThere, .instanceMethod yX5_isThere, .selects RX5 yX5_isThere yX5_isThere, .initialized RX5, .code yX5_isThere cX5_isThere 2 (some .boolean), .fieldLink RX5 13 "BuddyfieldModel" "isFile" "[Z", .methodLink RX5 60 yX5_in, .static yX5_in, .code yX5_in cX5_in 3 (some .boolean), .methodLink RX5 163 yX5_extentsOf, .instanceMethod yX5_extentsOf, .selects RX5 yX5_extentsOf yX5_extentsOf, .code yX5_extentsOf cX5_extentsOf 4 (some .int), .methodLink RX5 160 yX5_isBegin, .instanceMethod yX5_isBegin, .selects RX5 yX5_isBegin yX5_isBegin, .code yX5_isBegin cX5_isBegin 4 (some .boolean), .methodLink RX5 154 yX5_asked, .instanceMethod yX5_asked, .selects RX5 yX5_asked yX5_asked, .code yX5_asked cX5_asked 2 (some .boolean), .fieldLink RX5 57 "BuddyfieldModel" "thrown" "I"] ++ wsX50)
def wsX5_average : List Cond := .code yX5_average cX5_average 4 (some .float) :: ([.fieldLink RX5 16 "BuddyfieldModel" "at" "[I", .methodLink RX5 126 yX5_isThere, .instanceMethod yX5_isThere, .selects RX5 yX5_isThere yX5_isThere, .initialized RX5, .code yX5_isThere cX5_isThere 2 (some .boolean), .fieldLink RX5 13 "BuddyfieldModel" "isFile" "[Z", .methodLink RX5 60 yX5_in, .static yX5_in, .code yX5_in cX5_in 3 (some .boolean), .methodLink RX5 154 yX5_asked, .instanceMethod yX5_asked, .selects RX5 yX5_asked yX5_asked, .code yX5_asked cX5_asked 2 (some .boolean), .fieldLink RX5 57 "BuddyfieldModel" "thrown" "I", .methodLink RX5 163 yX5_extentsOf, .instanceMethod yX5_extentsOf, .selects RX5 yX5_extentsOf yX5_extentsOf, .code yX5_extentsOf cX5_extentsOf 4 (some .int), .methodLink RX5 160 yX5_isBegin, .instanceMethod yX5_isBegin, .selects RX5 yX5_isBegin yX5_isBegin, .code yX5_isBegin cX5_isBegin 4 (some .boolean)] ++ wsX50)
def wsX5_fileOf : List Cond := .code yX5_fileOf cX5_fileOf 2 (some .int) :: ([.fieldLink RX5 38 "BuddyfieldModel" "fileOf" "[I", .methodLink RX5 115 yX5_isName, .static yX5_isName, .initialized RX5, .code yX5_isName cX5_isName 1 (some .boolean), .methodLink RX5 60 yX5_in, .static yX5_in, .code yX5_in cX5_in 3 (some .boolean), .methodLink RX5 154 yX5_asked, .instanceMethod yX5_asked, .selects RX5 yX5_asked yX5_asked, .code yX5_asked cX5_asked 2 (some .boolean), .fieldLink RX5 57 "BuddyfieldModel" "thrown" "I"] ++ wsX50)
def wsX5_leaves : List Cond := .code yX5_leaves cX5_leaves 1 (some .int) :: ([.fieldLink RX5 53 "BuddyfieldModel" "leaves" "I", .methodLink RX5 157 yX5_told, .instanceMethod yX5_told, .selects RX5 yX5_told yX5_told, .initialized RX5, .code yX5_told cX5_told 2 (some .int), .fieldLink RX5 57 "BuddyfieldModel" "thrown" "I"] ++ wsX50)
def wsX5_looks_r1 : List Cond := [Cond.methodLink RX5 115 yX5_isName, Cond.static yX5_isName, Cond.initialized RX5, Cond.code yX5_isName cX5_isName 1 (some .boolean), Cond.methodLink RX5 60 yX5_in, Cond.static yX5_in, Cond.code yX5_in cX5_in 3 (some .boolean), Cond.methodLink RX5 154 yX5_asked, Cond.instanceMethod yX5_asked, Cond.selects RX5 yX5_asked yX5_asked, Cond.code yX5_asked cX5_asked 2 (some .boolean), Cond.fieldLink RX5 57 "BuddyfieldModel" "thrown" "I", Cond.methodLink RX5 89 yX5_begins, Cond.instanceMethod yX5_begins, Cond.selects RX5 yX5_begins yX5_begins, Cond.code yX5_begins cX5_begins 3 (some .int), Cond.fieldLink RX5 44 "BuddyfieldModel" "continued" "[Z", Cond.fieldLink RX5 41 "BuddyfieldModel" "low" "[I", Cond.methodLink RX5 71 yX5_hash, Cond.static yX5_hash, Cond.code yX5_hash cX5_hash 1 (some .int), Cond.methodLink RX5 79 yX5_lastLeaf, Cond.instanceMethod yX5_lastLeaf, Cond.selects RX5 yX5_lastLeaf yX5_lastLeaf]
def wsX5_looks_r2 : List Cond := [Cond.code yX5_lastLeaf cX5_lastLeaf 3 (some .int), Cond.fieldLink RX5 53 "BuddyfieldModel" "leaves" "I", Cond.methodLink RX5 92 yX5_goesOn, Cond.instanceMethod yX5_goesOn, Cond.selects RX5 yX5_goesOn yX5_goesOn, Cond.code yX5_goesOn cX5_goesOn 3 (some .boolean), Cond.methodLink RX5 86 yX5_isIn, Cond.instanceMethod yX5_isIn, Cond.selects RX5 yX5_isIn yX5_isIn, Cond.code yX5_isIn cX5_isIn 5 (some .boolean), Cond.fieldLink RX5 50 "BuddyfieldModel" "many" "[I", Cond.fieldLink RX5 47 "BuddyfieldModel" "names" "[I"]
def wsX5_looks : List Cond := .code yX5_looks cX5_looks 4 (some .int) :: ((wsX5_looks_r1 ++ wsX5_looks_r2) ++ wsX50)
def wsJ9_min_7cf53 : List Cond := .code yJ9_min_7cf53 cJ9_min_7cf53 2 (some .int) :: ([])
def wsL_create_r1 : List Cond := [Cond.classLink RL 13 "java/lang/IllegalArgumentException", Cond.classLink RL 15 "java/lang/IllegalStateException", Cond.methodLink RL 7 yX4_create, Cond.instanceMethod yX4_create, Cond.selects RX4 yX4_create yX4_create, Cond.initialized RX4, Cond.code yX4_create cX4_create 3 (some .int), Cond.classLink RX4 58 "java/lang/IllegalStateException", Cond.initialized "java/lang/IllegalStateException", Cond.fieldLink RX4 19 "Buddyfield" "directory" "LBuddyfield$Directory;", Cond.fieldLink RX4 25 "Buddyfield" "contents" "[LBuddyfield$Content;", Cond.methodLink RX4 40 yX4_requireName, Cond.static yX4_requireName, Cond.code yX4_requireName cX4_requireName 1 none, Cond.methodLink RX4 97 yX4_requireRange, Cond.static yX4_requireRange, Cond.code yX4_requireRange cX4_requireRange 3 none, Cond.classLink RX4 195 "java/lang/IllegalArgumentException", Cond.initialized "java/lang/IllegalArgumentException", Cond.methodLink RX4 43 yX4_requireUp, Cond.instanceMethod yX4_requireUp, Cond.selects RX4 yX4_requireUp yX4_requireUp, Cond.code yX4_requireUp cX4_requireUp 1 none, Cond.fieldLink RX4 33 "Buddyfield" "down" "Z"]
def wsL_create_r2 : List Cond := [Cond.methodLink RX4 46 yX4_lowestUnusedFile, Cond.instanceMethod yX4_lowestUnusedFile, Cond.selects RX4 yX4_lowestUnusedFile yX4_lowestUnusedFile, Cond.code yX4_lowestUnusedFile cX4_lowestUnusedFile 2 (some .int), Cond.instanceMethod yX1_fileWith, Cond.initialized RX1, Cond.selects RX1 yX1_fileWith yX1_fileWith, Cond.code yX1_fileWith cX1_fileWith 2 (some .int), Cond.methodLink RX1 42 yX1_lastLookedAt, Cond.instanceMethod yX1_lastLookedAt, Cond.selects RX1 yX1_lastLookedAt yX1_lastLookedAt, Cond.code yX1_lastLookedAt cX1_lastLookedAt 4 (some (.object "Buddyfield$Leaf")), Cond.static yX4_hashOf, Cond.code yX4_hashOf cX4_hashOf 1 (some .int), Cond.methodLink RX1 52 yX1_firstLookedAt, Cond.instanceMethod yX1_firstLookedAt, Cond.selects RX1 yX1_firstLookedAt yX1_firstLookedAt, Cond.code yX1_firstLookedAt cX1_firstLookedAt 4 (some (.object "Buddyfield$Leaf")), Cond.methodLink RX1 28 yX1_lastLeafFor, Cond.instanceMethod yX1_lastLeafFor, Cond.selects RX1 yX1_lastLeafFor yX1_lastLeafFor, Cond.code yX1_lastLeafFor cX1_lastLeafFor 4 (some (.object "Buddyfield$Leaf")), Cond.fieldLink RX1 14 "Buddyfield$Directory" "firstLeaf" "LBuddyfield$Leaf;", Cond.instanceMethod yX3_continues]
def wsL_create_r3 : List Cond := [Cond.initialized RX3, Cond.selects RX3 yX3_continues yX3_continues, Cond.code yX3_continues cX3_continues 2 (some .boolean), Cond.fieldLink RX3 32 "Buddyfield$Leaf" "continued" "Z", Cond.fieldLink RX3 29 "Buddyfield$Leaf" "low" "I", Cond.instanceMethod yX3_has, Cond.selects RX3 yX3_has yX3_has, Cond.code yX3_has cX3_has 2 (some .boolean), Cond.methodLink RX3 36 yX3_indexOf, Cond.instanceMethod yX3_indexOf, Cond.selects RX3 yX3_indexOf yX3_indexOf, Cond.code yX3_indexOf cX3_indexOf 3 (some .int), Cond.fieldLink RX3 18 "Buddyfield$Leaf" "count" "I", Cond.fieldLink RX3 9 "Buddyfield$Leaf" "names" "[I", Cond.instanceMethod yX3_fileWith, Cond.selects RX3 yX3_fileWith yX3_fileWith, Cond.code yX3_fileWith cX3_fileWith 3 (some .int), Cond.fieldLink RX3 15 "Buddyfield$Leaf" "files" "[I", Cond.instanceMethod yX1_isFull, Cond.selects RX1 yX1_isFull yX1_isFull, Cond.code yX1_isFull cX1_isFull 1 (some .boolean), Cond.fieldLink RX1 20 "Buddyfield$Directory" "leafCount" "I", Cond.instanceMethod yX1_add, Cond.selects RX1 yX1_add yX1_add]
def wsL_create_r4 : List Cond := [Cond.code yX1_add cX1_add 4 none, Cond.instanceMethod yX3_split, Cond.selects RX3 yX3_split yX3_split, Cond.code yX3_split cX3_split 5 none, Cond.classLink RX3 10 RX3, Cond.instantiable RX3 7, Cond.methodLink RX3 46 yX3_init, Cond.instanceMethod yX3_init, Cond.code yX3_init cX3_init 3 none, Cond.methodLink RX3 3 objectInit, Cond.instanceMethod objectInit, Cond.code objectInit ⟨#[0xb1]⟩ 1 none, Cond.arrayClass .int, Cond.fieldLink RX3 22 "Buddyfield$Leaf" "back" "LBuddyfield$Leaf;", Cond.fieldLink RX3 26 "Buddyfield$Leaf" "next" "LBuddyfield$Leaf;", Cond.methodLink RX3 49 yX3_insert, Cond.instanceMethod yX3_insert, Cond.selects RX3 yX3_insert yX3_insert, Cond.code yX3_insert cX3_insert 4 none, Cond.methodLink RX3 40 yX3_rankOf, Cond.static yX3_rankOf, Cond.code yX3_rankOf cX3_rankOf 1 (some .int), Cond.methodLink RX3 53 yX3_linkBehind, Cond.instanceMethod yX3_linkBehind]
def wsL_create_r5 : List Cond := [Cond.selects RX3 yX3_linkBehind yX3_linkBehind, Cond.code yX3_linkBehind cX3_linkBehind 2 none, Cond.instanceMethod yX0_begin, Cond.initialized RX0, Cond.selects RX0 yX0_begin yX0_begin, Cond.code yX0_begin cX0_begin 1 none, Cond.fieldLink RX0 15 "Buddyfield$Content" "exists" "Z"]
def wsL_create : List Cond := .codeWith yL_create cL_create 4 (some .int) [(0, 9, 12, 13), (0, 9, 15, 15)] :: ((wsL_create_r1 ++ (wsL_create_r2 ++ (wsL_create_r3 ++ (wsL_create_r4 ++ wsL_create_r5)))) ++ wsX40 ++ wsX00 ++ wsX30 ++ wsX10 ++ (vx_atS RX4 62 "java/lang/IllegalStateException" ["java/lang/RuntimeException", "java/lang/Exception"]).filter goodWord ++ (vx_atS RX4 199 "java/lang/IllegalArgumentException" ["java/lang/RuntimeException", "java/lang/Exception"]).filter goodWord)
def wsL_open_r1 : List Cond := [Cond.classLink RL 13 "java/lang/IllegalArgumentException", Cond.classLink RL 15 "java/lang/IllegalStateException", Cond.methodLink RL 17 yX4_open, Cond.instanceMethod yX4_open, Cond.selects RX4 yX4_open yX4_open, Cond.initialized RX4, Cond.code yX4_open cX4_open 3 (some .int), Cond.fieldLink RX4 25 "Buddyfield" "contents" "[LBuddyfield$Content;", Cond.methodLink RX4 40 yX4_requireName, Cond.static yX4_requireName, Cond.code yX4_requireName cX4_requireName 1 none, Cond.methodLink RX4 97 yX4_requireRange, Cond.static yX4_requireRange, Cond.code yX4_requireRange cX4_requireRange 3 none, Cond.classLink RX4 195 "java/lang/IllegalArgumentException", Cond.initialized "java/lang/IllegalArgumentException", Cond.methodLink RX4 43 yX4_requireUp, Cond.instanceMethod yX4_requireUp, Cond.selects RX4 yX4_requireUp yX4_requireUp, Cond.code yX4_requireUp cX4_requireUp 1 none, Cond.classLink RX4 58 "java/lang/IllegalStateException", Cond.initialized "java/lang/IllegalStateException", Cond.fieldLink RX4 33 "Buddyfield" "down" "Z", Cond.methodLink RX4 72 yX4_requireFileWith]
def wsL_open_r2 : List Cond := [Cond.instanceMethod yX4_requireFileWith, Cond.selects RX4 yX4_requireFileWith yX4_requireFileWith, Cond.code yX4_requireFileWith cX4_requireFileWith 3 (some .int), Cond.fieldLink RX4 19 "Buddyfield" "directory" "LBuddyfield$Directory;", Cond.instanceMethod yX1_fileWith, Cond.initialized RX1, Cond.selects RX1 yX1_fileWith yX1_fileWith, Cond.code yX1_fileWith cX1_fileWith 2 (some .int), Cond.methodLink RX1 42 yX1_lastLookedAt, Cond.instanceMethod yX1_lastLookedAt, Cond.selects RX1 yX1_lastLookedAt yX1_lastLookedAt, Cond.code yX1_lastLookedAt cX1_lastLookedAt 4 (some (.object "Buddyfield$Leaf")), Cond.static yX4_hashOf, Cond.code yX4_hashOf cX4_hashOf 1 (some .int), Cond.methodLink RX1 52 yX1_firstLookedAt, Cond.instanceMethod yX1_firstLookedAt, Cond.selects RX1 yX1_firstLookedAt yX1_firstLookedAt, Cond.code yX1_firstLookedAt cX1_firstLookedAt 4 (some (.object "Buddyfield$Leaf")), Cond.methodLink RX1 28 yX1_lastLeafFor, Cond.instanceMethod yX1_lastLeafFor, Cond.selects RX1 yX1_lastLeafFor yX1_lastLeafFor, Cond.code yX1_lastLeafFor cX1_lastLeafFor 4 (some (.object "Buddyfield$Leaf")), Cond.fieldLink RX1 14 "Buddyfield$Directory" "firstLeaf" "LBuddyfield$Leaf;", Cond.instanceMethod yX3_continues]
def wsL_open_r3 : List Cond := [Cond.initialized RX3, Cond.selects RX3 yX3_continues yX3_continues, Cond.code yX3_continues cX3_continues 2 (some .boolean), Cond.fieldLink RX3 32 "Buddyfield$Leaf" "continued" "Z", Cond.fieldLink RX3 29 "Buddyfield$Leaf" "low" "I", Cond.instanceMethod yX3_has, Cond.selects RX3 yX3_has yX3_has, Cond.code yX3_has cX3_has 2 (some .boolean), Cond.methodLink RX3 36 yX3_indexOf, Cond.instanceMethod yX3_indexOf, Cond.selects RX3 yX3_indexOf yX3_indexOf, Cond.code yX3_indexOf cX3_indexOf 3 (some .int), Cond.fieldLink RX3 18 "Buddyfield$Leaf" "count" "I", Cond.fieldLink RX3 9 "Buddyfield$Leaf" "names" "[I", Cond.instanceMethod yX3_fileWith, Cond.selects RX3 yX3_fileWith yX3_fileWith, Cond.code yX3_fileWith cX3_fileWith 3 (some .int), Cond.fieldLink RX3 15 "Buddyfield$Leaf" "files" "[I"]
def wsL_open : List Cond := .codeWith yL_open cL_open 4 (some .int) [(0, 9, 12, 13), (0, 9, 15, 15)] :: ((wsL_open_r1 ++ (wsL_open_r2 ++ wsL_open_r3)) ++ wsX40 ++ wsX00 ++ wsX30 ++ wsX10 ++ (vx_atS RX4 199 "java/lang/IllegalArgumentException" ["java/lang/RuntimeException", "java/lang/Exception"]).filter goodWord ++ (vx_atS RX4 62 "java/lang/IllegalStateException" ["java/lang/RuntimeException", "java/lang/Exception"]).filter goodWord)
def wsL_close_r1 : List Cond := [Cond.classLink RL 23 "java/lang/IndexOutOfBoundsException", Cond.classLink RL 15 "java/lang/IllegalStateException", Cond.methodLink RL 20 yX4_close, Cond.instanceMethod yX4_close, Cond.selects RX4 yX4_close yX4_close, Cond.initialized RX4, Cond.code yX4_close cX4_close 3 (some .int), Cond.classLink RX4 58 "java/lang/IllegalStateException", Cond.initialized "java/lang/IllegalStateException", Cond.methodLink RX4 78 yX4_requireContent, Cond.instanceMethod yX4_requireContent, Cond.selects RX4 yX4_requireContent yX4_requireContent, Cond.code yX4_requireContent cX4_requireContent 2 (some (.object "Buddyfield$Content")), Cond.classLink RX4 160 "java/lang/IndexOutOfBoundsException", Cond.initialized "java/lang/IndexOutOfBoundsException", Cond.fieldLink RX4 25 "Buddyfield" "contents" "[LBuddyfield$Content;", Cond.methodLink RX4 43 yX4_requireUp, Cond.instanceMethod yX4_requireUp, Cond.selects RX4 yX4_requireUp yX4_requireUp, Cond.code yX4_requireUp cX4_requireUp 1 none, Cond.fieldLink RX4 33 "Buddyfield" "down" "Z", Cond.methodLink RX4 87 yX4_erase, Cond.instanceMethod yX4_erase, Cond.selects RX4 yX4_erase yX4_erase]
def wsL_close_r2 : List Cond := [Cond.code yX4_erase cX4_erase 2 (some .boolean), Cond.methodLink RX4 130 yX4_cutTo, Cond.instanceMethod yX4_cutTo, Cond.selects RX4 yX4_cutTo yX4_cutTo, Cond.code yX4_cutTo cX4_cutTo 5 (some .int), Cond.instanceMethod yX0_dropReserved, Cond.initialized RX0, Cond.selects RX0 yX0_dropReserved yX0_dropReserved, Cond.code yX0_dropReserved cX0_dropReserved 3 none, Cond.fieldLink RX0 9 "Buddyfield$Content" "blocks" "[I", Cond.fieldLink RX0 23 "Buddyfield$Content" "reservedPlaces" "I", Cond.methodLink RX4 218 yX4_releaseKept, Cond.instanceMethod yX4_releaseKept, Cond.selects RX4 yX4_releaseKept yX4_releaseKept, Cond.code yX4_releaseKept cX4_releaseKept 2 none, Cond.fieldLink RX4 10 "Buddyfield" "ground" "LBuddyfield$Ground;", Cond.instanceMethod yX2_release, Cond.initialized RX2, Cond.selects RX2 yX2_release yX2_release, Cond.code yX2_release cX2_release 3 none, Cond.methodLink RX2 19 yX2_mark, Cond.instanceMethod yX2_mark, Cond.selects RX2 yX2_mark yX2_mark, Cond.code yX2_mark cX2_mark 5 none]
def wsL_close_r3 : List Cond := [Cond.fieldLink RX2 9 "Buddyfield$Ground" "isTaken" "[Z", Cond.fieldLink RX2 15 "Buddyfield$Ground" "freeBlocks" "I", Cond.instanceMethod yX0_isMapped, Cond.selects RX0 yX0_isMapped yX0_isMapped, Cond.code yX0_isMapped cX0_isMapped 2 (some .boolean), Cond.methodLink RX4 263 yX4_step, Cond.instanceMethod yX4_step, Cond.selects RX4 yX4_step yX4_step, Cond.code yX4_step cX4_step 6 none, Cond.instanceMethod yX0_joinsAhead, Cond.selects RX0 yX0_joinsAhead yX0_joinsAhead, Cond.code yX0_joinsAhead cX0_joinsAhead 2 (some .boolean), Cond.methodLink RX0 70 yX0_isMapped, Cond.methodLink RX4 267 yX4_crashIsDue, Cond.instanceMethod yX4_crashIsDue, Cond.selects RX4 yX4_crashIsDue yX4_crashIsDue, Cond.code yX4_crashIsDue cX4_crashIsDue 1 (some .boolean), Cond.fieldLink RX4 29 "Buddyfield" "stepsToCrash" "I", Cond.methodLink RX4 134 yX4_fall, Cond.instanceMethod yX4_fall, Cond.selects RX4 yX4_fall yX4_fall, Cond.code yX4_fall cX4_fall 2 none, Cond.methodLink RX4 113 yX4_releaseAllKept, Cond.instanceMethod yX4_releaseAllKept]
def wsL_close_r4 : List Cond := [Cond.selects RX4 yX4_releaseAllKept yX4_releaseAllKept, Cond.code yX4_releaseAllKept cX4_releaseAllKept 2 none]
def wsL_close : List Cond := .codeWith yL_close cL_close 4 (some .int) [(0, 9, 12, 23), (0, 9, 15, 15)] :: ((wsL_close_r1 ++ (wsL_close_r2 ++ (wsL_close_r3 ++ wsL_close_r4))) ++ wsX00 ++ wsX40 ++ wsX20 ++ (vx_atS RX4 62 "java/lang/IllegalStateException" ["java/lang/RuntimeException", "java/lang/Exception"]).filter goodWord ++ (vx_atS RX4 164 "java/lang/IndexOutOfBoundsException" ["java/lang/RuntimeException", "java/lang/Exception"]).filter goodWord)
def wsL_delete_r1 : List Cond := [Cond.classLink RL 13 "java/lang/IllegalArgumentException", Cond.classLink RL 15 "java/lang/IllegalStateException", Cond.methodLink RL 25 yX4_delete, Cond.instanceMethod yX4_delete, Cond.selects RX4 yX4_delete yX4_delete, Cond.initialized RX4, Cond.code yX4_delete cX4_delete 4 (some .int), Cond.fieldLink RX4 25 "Buddyfield" "contents" "[LBuddyfield$Content;", Cond.fieldLink RX4 19 "Buddyfield" "directory" "LBuddyfield$Directory;", Cond.methodLink RX4 40 yX4_requireName, Cond.static yX4_requireName, Cond.code yX4_requireName cX4_requireName 1 none, Cond.methodLink RX4 97 yX4_requireRange, Cond.static yX4_requireRange, Cond.code yX4_requireRange cX4_requireRange 3 none, Cond.classLink RX4 195 "java/lang/IllegalArgumentException", Cond.initialized "java/lang/IllegalArgumentException", Cond.methodLink RX4 43 yX4_requireUp, Cond.instanceMethod yX4_requireUp, Cond.selects RX4 yX4_requireUp yX4_requireUp, Cond.code yX4_requireUp cX4_requireUp 1 none, Cond.classLink RX4 58 "java/lang/IllegalStateException", Cond.initialized "java/lang/IllegalStateException", Cond.fieldLink RX4 33 "Buddyfield" "down" "Z"]
def wsL_delete_r2 : List Cond := [Cond.methodLink RX4 72 yX4_requireFileWith, Cond.instanceMethod yX4_requireFileWith, Cond.selects RX4 yX4_requireFileWith yX4_requireFileWith, Cond.code yX4_requireFileWith cX4_requireFileWith 3 (some .int), Cond.instanceMethod yX1_fileWith, Cond.initialized RX1, Cond.selects RX1 yX1_fileWith yX1_fileWith, Cond.code yX1_fileWith cX1_fileWith 2 (some .int), Cond.methodLink RX1 42 yX1_lastLookedAt, Cond.instanceMethod yX1_lastLookedAt, Cond.selects RX1 yX1_lastLookedAt yX1_lastLookedAt, Cond.code yX1_lastLookedAt cX1_lastLookedAt 4 (some (.object "Buddyfield$Leaf")), Cond.static yX4_hashOf, Cond.code yX4_hashOf cX4_hashOf 1 (some .int), Cond.methodLink RX1 52 yX1_firstLookedAt, Cond.instanceMethod yX1_firstLookedAt, Cond.selects RX1 yX1_firstLookedAt yX1_firstLookedAt, Cond.code yX1_firstLookedAt cX1_firstLookedAt 4 (some (.object "Buddyfield$Leaf")), Cond.methodLink RX1 28 yX1_lastLeafFor, Cond.instanceMethod yX1_lastLeafFor, Cond.selects RX1 yX1_lastLeafFor yX1_lastLeafFor, Cond.code yX1_lastLeafFor cX1_lastLeafFor 4 (some (.object "Buddyfield$Leaf")), Cond.fieldLink RX1 14 "Buddyfield$Directory" "firstLeaf" "LBuddyfield$Leaf;", Cond.instanceMethod yX3_continues]
def wsL_delete_r3 : List Cond := [Cond.initialized RX3, Cond.selects RX3 yX3_continues yX3_continues, Cond.code yX3_continues cX3_continues 2 (some .boolean), Cond.fieldLink RX3 32 "Buddyfield$Leaf" "continued" "Z", Cond.fieldLink RX3 29 "Buddyfield$Leaf" "low" "I", Cond.instanceMethod yX3_has, Cond.selects RX3 yX3_has yX3_has, Cond.code yX3_has cX3_has 2 (some .boolean), Cond.methodLink RX3 36 yX3_indexOf, Cond.instanceMethod yX3_indexOf, Cond.selects RX3 yX3_indexOf yX3_indexOf, Cond.code yX3_indexOf cX3_indexOf 3 (some .int), Cond.fieldLink RX3 18 "Buddyfield$Leaf" "count" "I", Cond.fieldLink RX3 9 "Buddyfield$Leaf" "names" "[I", Cond.instanceMethod yX3_fileWith, Cond.selects RX3 yX3_fileWith yX3_fileWith, Cond.code yX3_fileWith cX3_fileWith 3 (some .int), Cond.fieldLink RX3 15 "Buddyfield$Leaf" "files" "[I", Cond.instanceMethod yX1_takeOut, Cond.selects RX1 yX1_takeOut yX1_takeOut, Cond.code yX1_takeOut cX1_takeOut 2 none, Cond.instanceMethod yX3_takeOut, Cond.selects RX3 yX3_takeOut yX3_takeOut, Cond.code yX3_takeOut cX3_takeOut 4 none]
def wsL_delete_r4 : List Cond := [Cond.methodLink RX4 87 yX4_erase, Cond.instanceMethod yX4_erase, Cond.selects RX4 yX4_erase yX4_erase, Cond.code yX4_erase cX4_erase 2 (some .boolean), Cond.methodLink RX4 130 yX4_cutTo, Cond.instanceMethod yX4_cutTo, Cond.selects RX4 yX4_cutTo yX4_cutTo, Cond.code yX4_cutTo cX4_cutTo 5 (some .int), Cond.instanceMethod yX0_dropReserved, Cond.initialized RX0, Cond.selects RX0 yX0_dropReserved yX0_dropReserved, Cond.code yX0_dropReserved cX0_dropReserved 3 none, Cond.fieldLink RX0 9 "Buddyfield$Content" "blocks" "[I", Cond.fieldLink RX0 23 "Buddyfield$Content" "reservedPlaces" "I", Cond.methodLink RX4 218 yX4_releaseKept, Cond.instanceMethod yX4_releaseKept, Cond.selects RX4 yX4_releaseKept yX4_releaseKept, Cond.code yX4_releaseKept cX4_releaseKept 2 none, Cond.fieldLink RX4 10 "Buddyfield" "ground" "LBuddyfield$Ground;", Cond.instanceMethod yX2_release, Cond.initialized RX2, Cond.selects RX2 yX2_release yX2_release, Cond.code yX2_release cX2_release 3 none, Cond.methodLink RX2 19 yX2_mark]
def wsL_delete_r5 : List Cond := [Cond.instanceMethod yX2_mark, Cond.selects RX2 yX2_mark yX2_mark, Cond.code yX2_mark cX2_mark 5 none, Cond.fieldLink RX2 9 "Buddyfield$Ground" "isTaken" "[Z", Cond.fieldLink RX2 15 "Buddyfield$Ground" "freeBlocks" "I", Cond.instanceMethod yX0_isMapped, Cond.selects RX0 yX0_isMapped yX0_isMapped, Cond.code yX0_isMapped cX0_isMapped 2 (some .boolean), Cond.methodLink RX4 263 yX4_step, Cond.instanceMethod yX4_step, Cond.selects RX4 yX4_step yX4_step, Cond.code yX4_step cX4_step 6 none, Cond.instanceMethod yX0_joinsAhead, Cond.selects RX0 yX0_joinsAhead yX0_joinsAhead, Cond.code yX0_joinsAhead cX0_joinsAhead 2 (some .boolean), Cond.methodLink RX0 70 yX0_isMapped, Cond.methodLink RX4 267 yX4_crashIsDue, Cond.instanceMethod yX4_crashIsDue, Cond.selects RX4 yX4_crashIsDue yX4_crashIsDue, Cond.code yX4_crashIsDue cX4_crashIsDue 1 (some .boolean), Cond.fieldLink RX4 29 "Buddyfield" "stepsToCrash" "I", Cond.methodLink RX4 134 yX4_fall, Cond.instanceMethod yX4_fall, Cond.selects RX4 yX4_fall yX4_fall]
def wsL_delete_r6 : List Cond := [Cond.code yX4_fall cX4_fall 2 none, Cond.methodLink RX4 113 yX4_releaseAllKept, Cond.instanceMethod yX4_releaseAllKept, Cond.selects RX4 yX4_releaseAllKept yX4_releaseAllKept, Cond.code yX4_releaseAllKept cX4_releaseAllKept 2 none]
def wsL_delete : List Cond := .codeWith yL_delete cL_delete 4 (some .int) [(0, 9, 12, 13), (0, 9, 15, 15)] :: ((wsL_delete_r1 ++ (wsL_delete_r2 ++ (wsL_delete_r3 ++ (wsL_delete_r4 ++ (wsL_delete_r5 ++ wsL_delete_r6))))) ++ wsX40 ++ wsX00 ++ wsX30 ++ wsX10 ++ wsX20 ++ (vx_atS RX4 199 "java/lang/IllegalArgumentException" ["java/lang/RuntimeException", "java/lang/Exception"]).filter goodWord ++ (vx_atS RX4 62 "java/lang/IllegalStateException" ["java/lang/RuntimeException", "java/lang/Exception"]).filter goodWord)
def wsL_write_r1 : List Cond := [Cond.classLink RL 23 "java/lang/IndexOutOfBoundsException", Cond.classLink RL 13 "java/lang/IllegalArgumentException", Cond.classLink RL 15 "java/lang/IllegalStateException", Cond.methodLink RL 28 yX4_write, Cond.instanceMethod yX4_write, Cond.selects RX4 yX4_write yX4_write, Cond.initialized RX4, Cond.code yX4_write cX4_write 6 (some .int), Cond.classLink RX4 58 "java/lang/IllegalStateException", Cond.initialized "java/lang/IllegalStateException", Cond.methodLink RX4 78 yX4_requireContent, Cond.instanceMethod yX4_requireContent, Cond.selects RX4 yX4_requireContent yX4_requireContent, Cond.code yX4_requireContent cX4_requireContent 2 (some (.object "Buddyfield$Content")), Cond.classLink RX4 160 "java/lang/IndexOutOfBoundsException", Cond.initialized "java/lang/IndexOutOfBoundsException", Cond.fieldLink RX4 25 "Buddyfield" "contents" "[LBuddyfield$Content;", Cond.methodLink RX4 97 yX4_requireRange, Cond.static yX4_requireRange, Cond.code yX4_requireRange cX4_requireRange 3 none, Cond.classLink RX4 195 "java/lang/IllegalArgumentException", Cond.initialized "java/lang/IllegalArgumentException", Cond.methodLink RX4 43 yX4_requireUp, Cond.instanceMethod yX4_requireUp]
def wsL_write_r2 : List Cond := [Cond.selects RX4 yX4_requireUp yX4_requireUp, Cond.code yX4_requireUp cX4_requireUp 1 none, Cond.fieldLink RX4 33 "Buddyfield" "down" "Z", Cond.instanceMethod yX0_emptyPlaces, Cond.initialized RX0, Cond.selects RX0 yX0_emptyPlaces yX0_emptyPlaces, Cond.code yX0_emptyPlaces cX0_emptyPlaces 5 (some .int), Cond.fieldLink RX0 9 "Buddyfield$Content" "blocks" "[I", Cond.methodLink RX4 105 yX4_left, Cond.instanceMethod yX4_left, Cond.selects RX4 yX4_left yX4_left, Cond.code yX4_left cX4_left 1 (some .int), Cond.methodLink RX4 206 yX4_free, Cond.instanceMethod yX4_free, Cond.selects RX4 yX4_free yX4_free, Cond.code yX4_free cX4_free 1 (some .int), Cond.fieldLink RX4 10 "Buddyfield" "ground" "LBuddyfield$Ground;", Cond.methodLink RX4 209 yX4_reserved, Cond.instanceMethod yX4_reserved, Cond.selects RX4 yX4_reserved yX4_reserved, Cond.code yX4_reserved cX4_reserved 3 (some .int), Cond.methodLink RX4 108 yX4_kept, Cond.instanceMethod yX4_kept, Cond.selects RX4 yX4_kept yX4_kept]
def wsL_write_r3 : List Cond := [Cond.code yX4_kept cX4_kept 3 (some .int), Cond.methodLink RX4 113 yX4_releaseAllKept, Cond.instanceMethod yX4_releaseAllKept, Cond.selects RX4 yX4_releaseAllKept yX4_releaseAllKept, Cond.code yX4_releaseAllKept cX4_releaseAllKept 2 none, Cond.methodLink RX4 218 yX4_releaseKept, Cond.instanceMethod yX4_releaseKept, Cond.selects RX4 yX4_releaseKept yX4_releaseKept, Cond.code yX4_releaseKept cX4_releaseKept 2 none, Cond.instanceMethod yX2_release, Cond.initialized RX2, Cond.selects RX2 yX2_release yX2_release, Cond.code yX2_release cX2_release 3 none, Cond.methodLink RX2 19 yX2_mark, Cond.instanceMethod yX2_mark, Cond.selects RX2 yX2_mark yX2_mark, Cond.code yX2_mark cX2_mark 5 none, Cond.fieldLink RX2 9 "Buddyfield$Ground" "isTaken" "[Z", Cond.fieldLink RX2 15 "Buddyfield$Ground" "freeBlocks" "I", Cond.instanceMethod yX0_reserve, Cond.selects RX0 yX0_reserve yX0_reserve, Cond.code yX0_reserve cX0_reserve 4 none, Cond.fieldLink RX0 23 "Buddyfield$Content" "reservedPlaces" "I"]
def wsL_write : List Cond := .codeWith yL_write cL_write 6 (some .int) [(0, 12, 15, 23), (0, 12, 19, 13), (0, 12, 23, 15)] :: ((wsL_write_r1 ++ (wsL_write_r2 ++ wsL_write_r3)) ++ wsX40 ++ wsX00 ++ wsX20 ++ (vx_atS RX4 62 "java/lang/IllegalStateException" ["java/lang/RuntimeException", "java/lang/Exception"]).filter goodWord ++ (vx_atS RX4 164 "java/lang/IndexOutOfBoundsException" ["java/lang/RuntimeException", "java/lang/Exception"]).filter goodWord ++ (vx_atS RX4 199 "java/lang/IllegalArgumentException" ["java/lang/RuntimeException", "java/lang/Exception"]).filter goodWord)
def wsL_flush_r1 : List Cond := [Cond.classLink RL 23 "java/lang/IndexOutOfBoundsException", Cond.classLink RL 15 "java/lang/IllegalStateException", Cond.methodLink RL 32 yX4_flush, Cond.instanceMethod yX4_flush, Cond.selects RX4 yX4_flush yX4_flush, Cond.initialized RX4, Cond.code yX4_flush cX4_flush 5 (some .int), Cond.methodLink RX4 78 yX4_requireContent, Cond.instanceMethod yX4_requireContent, Cond.selects RX4 yX4_requireContent yX4_requireContent, Cond.code yX4_requireContent cX4_requireContent 2 (some (.object "Buddyfield$Content")), Cond.classLink RX4 160 "java/lang/IndexOutOfBoundsException", Cond.initialized "java/lang/IndexOutOfBoundsException", Cond.fieldLink RX4 25 "Buddyfield" "contents" "[LBuddyfield$Content;", Cond.methodLink RX4 43 yX4_requireUp, Cond.instanceMethod yX4_requireUp, Cond.selects RX4 yX4_requireUp yX4_requireUp, Cond.code yX4_requireUp cX4_requireUp 1 none, Cond.classLink RX4 58 "java/lang/IllegalStateException", Cond.initialized "java/lang/IllegalStateException", Cond.fieldLink RX4 33 "Buddyfield" "down" "Z", Cond.instanceMethod yX0_isReserved, Cond.initialized RX0, Cond.selects RX0 yX0_isReserved yX0_isReserved]
def wsL_flush_r2 : List Cond := [Cond.code yX0_isReserved cX0_isReserved 2 (some .boolean), Cond.fieldLink RX0 9 "Buddyfield$Content" "blocks" "[I", Cond.instanceMethod yX0_endOfReserved, Cond.selects RX0 yX0_endOfReserved yX0_endOfReserved, Cond.code yX0_endOfReserved cX0_endOfReserved 3 (some .int), Cond.methodLink RX0 53 yX0_isReserved, Cond.methodLink RX4 126 yX4_mapRow, Cond.instanceMethod yX4_mapRow, Cond.selects RX4 yX4_mapRow yX4_mapRow, Cond.code yX4_mapRow cX4_mapRow 6 (some .int), Cond.instanceMethod yX0_isKeptFor, Cond.selects RX0 yX0_isKeptFor yX0_isKeptFor, Cond.code yX0_isKeptFor cX0_isKeptFor 2 (some .boolean), Cond.fieldLink RX0 32 "Buddyfield$Content" "keptBlocks" "I", Cond.fieldLink RX0 26 "Buddyfield$Content" "keptPlace" "I", Cond.instanceMethod yX0_mapKept, Cond.selects RX0 yX0_mapKept yX0_mapKept, Cond.code yX0_mapKept cX0_mapKept 4 (some .int), Cond.methodLink RX0 57 Lib.Math.min.name, Cond.static Lib.Math.min.name, Cond.initialized "java/lang/Math", Cond.code Lib.Math.min.name Lib.Math.min.code 2 (some .int), Cond.fieldLink RX0 29 "Buddyfield$Content" "firstKept" "I", Cond.methodLink RX0 63 yX0_map]
def wsL_flush_r3 : List Cond := [Cond.instanceMethod yX0_map, Cond.selects RX0 yX0_map yX0_map, Cond.code yX0_map cX0_map 5 none, Cond.fieldLink RX0 23 "Buddyfield$Content" "reservedPlaces" "I", Cond.methodLink RX0 67 yX0_keep, Cond.instanceMethod yX0_keep, Cond.selects RX0 yX0_keep yX0_keep, Cond.code yX0_keep cX0_keep 4 none, Cond.methodLink RX4 228 yX4_mapFound, Cond.instanceMethod yX4_mapFound, Cond.selects RX4 yX4_mapFound yX4_mapFound, Cond.code yX4_mapFound cX4_mapFound 8 (some .int), Cond.fieldLink RX4 10 "Buddyfield" "ground" "LBuddyfield$Ground;", Cond.methodLink RX4 240 Lib.Math.min.name, Cond.methodLink RX4 231 yX4_goalFor, Cond.instanceMethod yX4_goalFor, Cond.selects RX4 yX4_goalFor yX4_goalFor, Cond.code yX4_goalFor cX4_goalFor 4 (some .int), Cond.instanceMethod yX0_isMapped, Cond.selects RX0 yX0_isMapped yX0_isMapped, Cond.code yX0_isMapped cX0_isMapped 2 (some .boolean), Cond.methodLink RX4 234 yX4_lengthFor, Cond.instanceMethod yX4_lengthFor, Cond.selects RX4 yX4_lengthFor yX4_lengthFor]
def wsL_flush_r4 : List Cond := [Cond.code yX4_lengthFor cX4_lengthFor 3 (some .int), Cond.methodLink RX4 105 yX4_left, Cond.instanceMethod yX4_left, Cond.selects RX4 yX4_left yX4_left, Cond.code yX4_left cX4_left 1 (some .int), Cond.methodLink RX4 206 yX4_free, Cond.instanceMethod yX4_free, Cond.selects RX4 yX4_free yX4_free, Cond.code yX4_free cX4_free 1 (some .int), Cond.methodLink RX4 209 yX4_reserved, Cond.instanceMethod yX4_reserved, Cond.selects RX4 yX4_reserved yX4_reserved, Cond.code yX4_reserved cX4_reserved 3 (some .int), Cond.instanceMethod yX2_find, Cond.initialized RX2, Cond.selects RX2 yX2_find yX2_find, Cond.code yX2_find cX2_find 7 (some .int), Cond.methodLink RX2 23 yX2_areFree, Cond.instanceMethod yX2_areFree, Cond.selects RX2 yX2_areFree yX2_areFree, Cond.code yX2_areFree cX2_areFree 4 (some .boolean), Cond.fieldLink RX2 9 "Buddyfield$Ground" "isTaken" "[Z", Cond.methodLink RX2 27 yX2_firstPiece, Cond.instanceMethod yX2_firstPiece]
def wsL_flush_r5 : List Cond := [Cond.selects RX2 yX2_firstPiece yX2_firstPiece, Cond.code yX2_firstPiece cX2_firstPiece 5 (some .int), Cond.methodLink RX2 31 yX2_isFreePiece, Cond.instanceMethod yX2_isFreePiece, Cond.selects RX2 yX2_isFreePiece yX2_isFreePiece, Cond.code yX2_isFreePiece cX2_isFreePiece 3 (some .boolean), Cond.instanceMethod yX2_take, Cond.selects RX2 yX2_take yX2_take, Cond.code yX2_take cX2_take 3 none, Cond.methodLink RX2 19 yX2_mark, Cond.instanceMethod yX2_mark, Cond.selects RX2 yX2_mark yX2_mark, Cond.code yX2_mark cX2_mark 5 none, Cond.fieldLink RX2 15 "Buddyfield$Ground" "freeBlocks" "I", Cond.methodLink RX4 218 yX4_releaseKept, Cond.instanceMethod yX4_releaseKept, Cond.selects RX4 yX4_releaseKept yX4_releaseKept, Cond.code yX4_releaseKept cX4_releaseKept 2 none, Cond.instanceMethod yX2_release, Cond.selects RX2 yX2_release yX2_release, Cond.code yX2_release cX2_release 3 none]
def wsL_flush : List Cond := .codeWith yL_flush cL_flush 4 (some .int) [(0, 9, 12, 23), (0, 9, 15, 15)] :: ((wsL_flush_r1 ++ (wsL_flush_r2 ++ (wsL_flush_r3 ++ (wsL_flush_r4 ++ wsL_flush_r5)))) ++ wsX40 ++ wsX00 ++ wsX20 ++ (vx_atS RX4 164 "java/lang/IndexOutOfBoundsException" ["java/lang/RuntimeException", "java/lang/Exception"]).filter goodWord ++ (vx_atS RX4 62 "java/lang/IllegalStateException" ["java/lang/RuntimeException", "java/lang/Exception"]).filter goodWord)
def wsL_cut_r1 : List Cond := [Cond.classLink RL 23 "java/lang/IndexOutOfBoundsException", Cond.classLink RL 13 "java/lang/IllegalArgumentException", Cond.classLink RL 15 "java/lang/IllegalStateException", Cond.methodLink RL 35 yX4_cut, Cond.instanceMethod yX4_cut, Cond.selects RX4 yX4_cut yX4_cut, Cond.initialized RX4, Cond.code yX4_cut cX4_cut 4 (some .int), Cond.methodLink RX4 78 yX4_requireContent, Cond.instanceMethod yX4_requireContent, Cond.selects RX4 yX4_requireContent yX4_requireContent, Cond.code yX4_requireContent cX4_requireContent 2 (some (.object "Buddyfield$Content")), Cond.classLink RX4 160 "java/lang/IndexOutOfBoundsException", Cond.initialized "java/lang/IndexOutOfBoundsException", Cond.fieldLink RX4 25 "Buddyfield" "contents" "[LBuddyfield$Content;", Cond.methodLink RX4 97 yX4_requireRange, Cond.static yX4_requireRange, Cond.code yX4_requireRange cX4_requireRange 3 none, Cond.classLink RX4 195 "java/lang/IllegalArgumentException", Cond.initialized "java/lang/IllegalArgumentException", Cond.methodLink RX4 43 yX4_requireUp, Cond.instanceMethod yX4_requireUp, Cond.selects RX4 yX4_requireUp yX4_requireUp, Cond.code yX4_requireUp cX4_requireUp 1 none]
def wsL_cut_r2 : List Cond := [Cond.classLink RX4 58 "java/lang/IllegalStateException", Cond.initialized "java/lang/IllegalStateException", Cond.fieldLink RX4 33 "Buddyfield" "down" "Z", Cond.methodLink RX4 130 yX4_cutTo, Cond.instanceMethod yX4_cutTo, Cond.selects RX4 yX4_cutTo yX4_cutTo, Cond.code yX4_cutTo cX4_cutTo 5 (some .int), Cond.instanceMethod yX0_dropReserved, Cond.initialized RX0, Cond.selects RX0 yX0_dropReserved yX0_dropReserved, Cond.code yX0_dropReserved cX0_dropReserved 3 none, Cond.fieldLink RX0 9 "Buddyfield$Content" "blocks" "[I", Cond.fieldLink RX0 23 "Buddyfield$Content" "reservedPlaces" "I", Cond.methodLink RX4 218 yX4_releaseKept, Cond.instanceMethod yX4_releaseKept, Cond.selects RX4 yX4_releaseKept yX4_releaseKept, Cond.code yX4_releaseKept cX4_releaseKept 2 none, Cond.fieldLink RX4 10 "Buddyfield" "ground" "LBuddyfield$Ground;", Cond.instanceMethod yX2_release, Cond.initialized RX2, Cond.selects RX2 yX2_release yX2_release, Cond.code yX2_release cX2_release 3 none, Cond.methodLink RX2 19 yX2_mark, Cond.instanceMethod yX2_mark]
def wsL_cut_r3 : List Cond := [Cond.selects RX2 yX2_mark yX2_mark, Cond.code yX2_mark cX2_mark 5 none, Cond.fieldLink RX2 9 "Buddyfield$Ground" "isTaken" "[Z", Cond.fieldLink RX2 15 "Buddyfield$Ground" "freeBlocks" "I", Cond.instanceMethod yX0_isMapped, Cond.selects RX0 yX0_isMapped yX0_isMapped, Cond.code yX0_isMapped cX0_isMapped 2 (some .boolean), Cond.methodLink RX4 263 yX4_step, Cond.instanceMethod yX4_step, Cond.selects RX4 yX4_step yX4_step, Cond.code yX4_step cX4_step 6 none, Cond.instanceMethod yX0_joinsAhead, Cond.selects RX0 yX0_joinsAhead yX0_joinsAhead, Cond.code yX0_joinsAhead cX0_joinsAhead 2 (some .boolean), Cond.methodLink RX0 70 yX0_isMapped, Cond.methodLink RX4 267 yX4_crashIsDue, Cond.instanceMethod yX4_crashIsDue, Cond.selects RX4 yX4_crashIsDue yX4_crashIsDue, Cond.code yX4_crashIsDue cX4_crashIsDue 1 (some .boolean), Cond.fieldLink RX4 29 "Buddyfield" "stepsToCrash" "I", Cond.methodLink RX4 134 yX4_fall, Cond.instanceMethod yX4_fall, Cond.selects RX4 yX4_fall yX4_fall, Cond.code yX4_fall cX4_fall 2 none]
def wsL_cut_r4 : List Cond := [Cond.methodLink RX4 113 yX4_releaseAllKept, Cond.instanceMethod yX4_releaseAllKept, Cond.selects RX4 yX4_releaseAllKept yX4_releaseAllKept, Cond.code yX4_releaseAllKept cX4_releaseAllKept 2 none]
def wsL_cut : List Cond := .codeWith yL_cut cL_cut 5 (some .int) [(0, 10, 13, 23), (0, 10, 17, 13), (0, 10, 21, 15)] :: ((wsL_cut_r1 ++ (wsL_cut_r2 ++ (wsL_cut_r3 ++ wsL_cut_r4))) ++ wsX40 ++ wsX00 ++ wsX20 ++ (vx_atS RX4 164 "java/lang/IndexOutOfBoundsException" ["java/lang/RuntimeException", "java/lang/Exception"]).filter goodWord ++ (vx_atS RX4 199 "java/lang/IllegalArgumentException" ["java/lang/RuntimeException", "java/lang/Exception"]).filter goodWord ++ (vx_atS RX4 62 "java/lang/IllegalStateException" ["java/lang/RuntimeException", "java/lang/Exception"]).filter goodWord)
def wsL_crashBehind : List Cond := .codeWith yL_crashBehind cL_crashBehind 3 (some .int) [(0, 5, 8, 13), (0, 5, 11, 15)] :: ([.classLink RL 13 "java/lang/IllegalArgumentException", .classLink RL 15 "java/lang/IllegalStateException", .methodLink RL 39 yX4_crashBehind, .instanceMethod yX4_crashBehind, .selects RX4 yX4_crashBehind yX4_crashBehind, .initialized RX4, .code yX4_crashBehind cX4_crashBehind 2 none, .fieldLink RX4 29 "Buddyfield" "stepsToCrash" "I", .methodLink RX4 97 yX4_requireRange, .static yX4_requireRange, .code yX4_requireRange cX4_requireRange 3 none, .classLink RX4 195 "java/lang/IllegalArgumentException", .initialized "java/lang/IllegalArgumentException", .methodLink RX4 43 yX4_requireUp, .instanceMethod yX4_requireUp, .selects RX4 yX4_requireUp yX4_requireUp, .code yX4_requireUp cX4_requireUp 1 none, .classLink RX4 58 "java/lang/IllegalStateException", .initialized "java/lang/IllegalStateException", .fieldLink RX4 33 "Buddyfield" "down" "Z"] ++ wsX40 ++ (vx_atS RX4 199 "java/lang/IllegalArgumentException" ["java/lang/RuntimeException", "java/lang/Exception"]).filter goodWord ++ (vx_atS RX4 62 "java/lang/IllegalStateException" ["java/lang/RuntimeException", "java/lang/Exception"]).filter goodWord)
def wsL_crash_r1 : List Cond := [Cond.classLink RL 15 "java/lang/IllegalStateException", Cond.methodLink RL 43 yX4_crash, Cond.instanceMethod yX4_crash, Cond.selects RX4 yX4_crash yX4_crash, Cond.initialized RX4, Cond.code yX4_crash cX4_crash 1 none, Cond.methodLink RX4 43 yX4_requireUp, Cond.instanceMethod yX4_requireUp, Cond.selects RX4 yX4_requireUp yX4_requireUp, Cond.code yX4_requireUp cX4_requireUp 1 none, Cond.classLink RX4 58 "java/lang/IllegalStateException", Cond.initialized "java/lang/IllegalStateException", Cond.fieldLink RX4 33 "Buddyfield" "down" "Z", Cond.methodLink RX4 134 yX4_fall, Cond.instanceMethod yX4_fall, Cond.selects RX4 yX4_fall yX4_fall, Cond.code yX4_fall cX4_fall 2 none, Cond.fieldLink RX4 29 "Buddyfield" "stepsToCrash" "I", Cond.fieldLink RX4 25 "Buddyfield" "contents" "[LBuddyfield$Content;", Cond.methodLink RX4 113 yX4_releaseAllKept, Cond.instanceMethod yX4_releaseAllKept, Cond.selects RX4 yX4_releaseAllKept yX4_releaseAllKept, Cond.code yX4_releaseAllKept cX4_releaseAllKept 2 none, Cond.methodLink RX4 218 yX4_releaseKept]
def wsL_crash_r2 : List Cond := [Cond.instanceMethod yX4_releaseKept, Cond.selects RX4 yX4_releaseKept yX4_releaseKept, Cond.code yX4_releaseKept cX4_releaseKept 2 none, Cond.fieldLink RX4 10 "Buddyfield" "ground" "LBuddyfield$Ground;", Cond.instanceMethod yX2_release, Cond.initialized RX2, Cond.selects RX2 yX2_release yX2_release, Cond.code yX2_release cX2_release 3 none, Cond.methodLink RX2 19 yX2_mark, Cond.instanceMethod yX2_mark, Cond.selects RX2 yX2_mark yX2_mark, Cond.code yX2_mark cX2_mark 5 none, Cond.fieldLink RX2 9 "Buddyfield$Ground" "isTaken" "[Z", Cond.fieldLink RX2 15 "Buddyfield$Ground" "freeBlocks" "I", Cond.instanceMethod yX0_dropReserved, Cond.initialized RX0, Cond.selects RX0 yX0_dropReserved yX0_dropReserved, Cond.code yX0_dropReserved cX0_dropReserved 3 none, Cond.fieldLink RX0 9 "Buddyfield$Content" "blocks" "[I", Cond.fieldLink RX0 23 "Buddyfield$Content" "reservedPlaces" "I"]
def wsL_crash : List Cond := .codeWith yL_crash cL_crash 2 (some .int) [(0, 4, 7, 15)] :: ((wsL_crash_r1 ++ wsL_crash_r2) ++ wsX40 ++ wsX00 ++ wsX20 ++ (vx_atS RX4 62 "java/lang/IllegalStateException" ["java/lang/RuntimeException", "java/lang/Exception"]).filter goodWord)
def wsL_start_r1 : List Cond := [Cond.classLink RL 15 "java/lang/IllegalStateException", Cond.methodLink RL 46 yX4_start, Cond.instanceMethod yX4_start, Cond.selects RX4 yX4_start yX4_start, Cond.initialized RX4, Cond.code yX4_start cX4_start 4 (some .int), Cond.classLink RX4 58 "java/lang/IllegalStateException", Cond.initialized "java/lang/IllegalStateException", Cond.fieldLink RX4 33 "Buddyfield" "down" "Z", Cond.fieldLink RX4 25 "Buddyfield" "contents" "[LBuddyfield$Content;", Cond.methodLink RX4 139 yX4_listed, Cond.instanceMethod yX4_listed, Cond.selects RX4 yX4_listed yX4_listed, Cond.code yX4_listed cX4_listed 3 (some .int), Cond.methodLink RX4 87 yX4_erase, Cond.instanceMethod yX4_erase, Cond.selects RX4 yX4_erase yX4_erase, Cond.code yX4_erase cX4_erase 2 (some .boolean), Cond.methodLink RX4 130 yX4_cutTo, Cond.instanceMethod yX4_cutTo, Cond.selects RX4 yX4_cutTo yX4_cutTo, Cond.code yX4_cutTo cX4_cutTo 5 (some .int), Cond.instanceMethod yX0_dropReserved, Cond.initialized RX0]
def wsL_start_r2 : List Cond := [Cond.selects RX0 yX0_dropReserved yX0_dropReserved, Cond.code yX0_dropReserved cX0_dropReserved 3 none, Cond.fieldLink RX0 9 "Buddyfield$Content" "blocks" "[I", Cond.fieldLink RX0 23 "Buddyfield$Content" "reservedPlaces" "I", Cond.methodLink RX4 218 yX4_releaseKept, Cond.instanceMethod yX4_releaseKept, Cond.selects RX4 yX4_releaseKept yX4_releaseKept, Cond.code yX4_releaseKept cX4_releaseKept 2 none, Cond.fieldLink RX4 10 "Buddyfield" "ground" "LBuddyfield$Ground;", Cond.instanceMethod yX2_release, Cond.initialized RX2, Cond.selects RX2 yX2_release yX2_release, Cond.code yX2_release cX2_release 3 none, Cond.methodLink RX2 19 yX2_mark, Cond.instanceMethod yX2_mark, Cond.selects RX2 yX2_mark yX2_mark, Cond.code yX2_mark cX2_mark 5 none, Cond.fieldLink RX2 9 "Buddyfield$Ground" "isTaken" "[Z", Cond.fieldLink RX2 15 "Buddyfield$Ground" "freeBlocks" "I", Cond.instanceMethod yX0_isMapped, Cond.selects RX0 yX0_isMapped yX0_isMapped, Cond.code yX0_isMapped cX0_isMapped 2 (some .boolean), Cond.methodLink RX4 263 yX4_step, Cond.instanceMethod yX4_step]
def wsL_start_r3 : List Cond := [Cond.selects RX4 yX4_step yX4_step, Cond.code yX4_step cX4_step 6 none, Cond.instanceMethod yX0_joinsAhead, Cond.selects RX0 yX0_joinsAhead yX0_joinsAhead, Cond.code yX0_joinsAhead cX0_joinsAhead 2 (some .boolean), Cond.methodLink RX0 70 yX0_isMapped, Cond.methodLink RX4 267 yX4_crashIsDue, Cond.instanceMethod yX4_crashIsDue, Cond.selects RX4 yX4_crashIsDue yX4_crashIsDue, Cond.code yX4_crashIsDue cX4_crashIsDue 1 (some .boolean), Cond.fieldLink RX4 29 "Buddyfield" "stepsToCrash" "I", Cond.methodLink RX4 134 yX4_fall, Cond.instanceMethod yX4_fall, Cond.selects RX4 yX4_fall yX4_fall, Cond.code yX4_fall cX4_fall 2 none, Cond.methodLink RX4 113 yX4_releaseAllKept, Cond.instanceMethod yX4_releaseAllKept, Cond.selects RX4 yX4_releaseAllKept yX4_releaseAllKept, Cond.code yX4_releaseAllKept cX4_releaseAllKept 2 none]
def wsL_start : List Cond := .codeWith yL_start cL_start 3 (some .int) [(0, 8, 11, 15)] :: ((wsL_start_r1 ++ (wsL_start_r2 ++ wsL_start_r3)) ++ wsX40 ++ wsX00 ++ wsX20 ++ (vx_atS RX4 62 "java/lang/IllegalStateException" ["java/lang/RuntimeException", "java/lang/Exception"]).filter goodWord)
def wsL_opens : List Cond := .codeWith yL_opens cL_opens 4 (some .int) [(0, 9, 12, 23)] :: ([.classLink RL 23 "java/lang/IndexOutOfBoundsException", .methodLink RL 50 yX4_opens, .instanceMethod yX4_opens, .selects RX4 yX4_opens yX4_opens, .initialized RX4, .code yX4_opens cX4_opens 2 (some .int), .methodLink RX4 78 yX4_requireContent, .instanceMethod yX4_requireContent, .selects RX4 yX4_requireContent yX4_requireContent, .code yX4_requireContent cX4_requireContent 2 (some (.object "Buddyfield$Content")), .classLink RX4 160 "java/lang/IndexOutOfBoundsException", .initialized "java/lang/IndexOutOfBoundsException", .fieldLink RX4 25 "Buddyfield" "contents" "[LBuddyfield$Content;"] ++ wsX00 ++ wsX40 ++ (vx_atS RX4 164 "java/lang/IndexOutOfBoundsException" ["java/lang/RuntimeException", "java/lang/Exception"]).filter goodWord)
def wsL_pieces_r1 : List Cond := [Cond.classLink RL 23 "java/lang/IndexOutOfBoundsException", Cond.classLink RL 13 "java/lang/IllegalArgumentException", Cond.methodLink RL 53 yX4_pieces, Cond.instanceMethod yX4_pieces, Cond.selects RX4 yX4_pieces yX4_pieces, Cond.initialized RX4, Cond.code yX4_pieces cX4_pieces 3 (some .int), Cond.classLink RX4 160 "java/lang/IndexOutOfBoundsException", Cond.initialized "java/lang/IndexOutOfBoundsException", Cond.fieldLink RX4 10 "Buddyfield" "ground" "LBuddyfield$Ground;", Cond.methodLink RX4 97 yX4_requireRange, Cond.static yX4_requireRange, Cond.code yX4_requireRange cX4_requireRange 3 none, Cond.classLink RX4 195 "java/lang/IllegalArgumentException", Cond.initialized "java/lang/IllegalArgumentException", Cond.instanceMethod yX2_countPieces, Cond.initialized RX2, Cond.selects RX2 yX2_countPieces yX2_countPieces, Cond.code yX2_countPieces cX2_countPieces 6 (some .int), Cond.methodLink RX2 31 yX2_isFreePiece, Cond.instanceMethod yX2_isFreePiece, Cond.selects RX2 yX2_isFreePiece yX2_isFreePiece, Cond.code yX2_isFreePiece cX2_isFreePiece 3 (some .boolean), Cond.methodLink RX2 23 yX2_areFree]
def wsL_pieces_r2 : List Cond := [Cond.instanceMethod yX2_areFree, Cond.selects RX2 yX2_areFree yX2_areFree, Cond.code yX2_areFree cX2_areFree 4 (some .boolean), Cond.fieldLink RX2 9 "Buddyfield$Ground" "isTaken" "[Z"]
def wsL_pieces : List Cond := .codeWith yL_pieces cL_pieces 5 (some .int) [(0, 10, 13, 23), (0, 10, 17, 13)] :: ((wsL_pieces_r1 ++ wsL_pieces_r2) ++ wsX40 ++ wsX20 ++ (vx_atS RX4 164 "java/lang/IndexOutOfBoundsException" ["java/lang/RuntimeException", "java/lang/Exception"]).filter goodWord ++ (vx_atS RX4 199 "java/lang/IllegalArgumentException" ["java/lang/RuntimeException", "java/lang/Exception"]).filter goodWord)
def wsL_isFree : List Cond := .codeWith yL_isFree cL_isFree 4 (some .int) [(0, 16, 19, 23)] :: ([.classLink RL 23 "java/lang/IndexOutOfBoundsException", .methodLink RL 56 yX4_isFree, .instanceMethod yX4_isFree, .selects RX4 yX4_isFree yX4_isFree, .initialized RX4, .code yX4_isFree cX4_isFree 2 (some .boolean), .classLink RX4 160 "java/lang/IndexOutOfBoundsException", .initialized "java/lang/IndexOutOfBoundsException", .fieldLink RX4 10 "Buddyfield" "ground" "LBuddyfield$Ground;", .instanceMethod yX2_areFree, .initialized RX2, .selects RX2 yX2_areFree yX2_areFree, .code yX2_areFree cX2_areFree 4 (some .boolean), .fieldLink RX2 9 "Buddyfield$Ground" "isTaken" "[Z"] ++ wsX40 ++ wsX20 ++ (vx_atS RX4 164 "java/lang/IndexOutOfBoundsException" ["java/lang/RuntimeException", "java/lang/Exception"]).filter goodWord)
def wsL_blockAt : List Cond := .codeWith yL_blockAt cL_blockAt 5 (some .int) [(0, 10, 13, 23), (0, 10, 17, 13)] :: ([.classLink RL 23 "java/lang/IndexOutOfBoundsException", .classLink RL 13 "java/lang/IllegalArgumentException", .methodLink RL 60 yX4_blockAt, .instanceMethod yX4_blockAt, .selects RX4 yX4_blockAt yX4_blockAt, .initialized RX4, .code yX4_blockAt cX4_blockAt 4 (some .int), .methodLink RX4 78 yX4_requireContent, .instanceMethod yX4_requireContent, .selects RX4 yX4_requireContent yX4_requireContent, .code yX4_requireContent cX4_requireContent 2 (some (.object "Buddyfield$Content")), .classLink RX4 160 "java/lang/IndexOutOfBoundsException", .initialized "java/lang/IndexOutOfBoundsException", .fieldLink RX4 25 "Buddyfield" "contents" "[LBuddyfield$Content;", .methodLink RX4 97 yX4_requireRange, .static yX4_requireRange, .code yX4_requireRange cX4_requireRange 3 none, .classLink RX4 195 "java/lang/IllegalArgumentException", .initialized "java/lang/IllegalArgumentException"] ++ wsX00 ++ wsX40 ++ (vx_atS RX4 164 "java/lang/IndexOutOfBoundsException" ["java/lang/RuntimeException", "java/lang/Exception"]).filter goodWord ++ (vx_atS RX4 199 "java/lang/IllegalArgumentException" ["java/lang/RuntimeException", "java/lang/Exception"]).filter goodWord)
def wsL_extents_r1 : List Cond := [Cond.classLink RL 23 "java/lang/IndexOutOfBoundsException", Cond.methodLink RL 63 yX4_extents, Cond.instanceMethod yX4_extents, Cond.selects RX4 yX4_extents yX4_extents, Cond.initialized RX4, Cond.code yX4_extents cX4_extents 2 (some .int), Cond.methodLink RX4 78 yX4_requireContent, Cond.instanceMethod yX4_requireContent, Cond.selects RX4 yX4_requireContent yX4_requireContent, Cond.code yX4_requireContent cX4_requireContent 2 (some (.object "Buddyfield$Content")), Cond.classLink RX4 160 "java/lang/IndexOutOfBoundsException", Cond.initialized "java/lang/IndexOutOfBoundsException", Cond.fieldLink RX4 25 "Buddyfield" "contents" "[LBuddyfield$Content;", Cond.instanceMethod yX0_countExtents, Cond.initialized RX0, Cond.selects RX0 yX0_countExtents yX0_countExtents, Cond.code yX0_countExtents cX0_countExtents 3 (some .int), Cond.methodLink RX0 76 yX0_beginsExtent, Cond.instanceMethod yX0_beginsExtent, Cond.selects RX0 yX0_beginsExtent yX0_beginsExtent, Cond.code yX0_beginsExtent cX0_beginsExtent 2 (some .boolean), Cond.methodLink RX0 70 yX0_isMapped, Cond.instanceMethod yX0_isMapped, Cond.selects RX0 yX0_isMapped yX0_isMapped]
def wsL_extents_r2 : List Cond := [Cond.code yX0_isMapped cX0_isMapped 2 (some .boolean), Cond.fieldLink RX0 9 "Buddyfield$Content" "blocks" "[I", Cond.methodLink RX0 73 yX0_joinsAhead, Cond.instanceMethod yX0_joinsAhead, Cond.selects RX0 yX0_joinsAhead yX0_joinsAhead, Cond.code yX0_joinsAhead cX0_joinsAhead 2 (some .boolean)]
def wsL_extents : List Cond := .codeWith yL_extents cL_extents 4 (some .int) [(0, 9, 12, 23)] :: ((wsL_extents_r1 ++ wsL_extents_r2) ++ wsX40 ++ wsX00 ++ (vx_atS RX4 164 "java/lang/IndexOutOfBoundsException" ["java/lang/RuntimeException", "java/lang/Exception"]).filter goodWord)
def wsL_extent_r1 : List Cond := [Cond.classLink RL 23 "java/lang/IndexOutOfBoundsException", Cond.methodLink RL 66 yX4_extent, Cond.instanceMethod yX4_extent, Cond.selects RX4 yX4_extent yX4_extent, Cond.initialized RX4, Cond.code yX4_extent cX4_extent 5 (some .int), Cond.classLink RX4 160 "java/lang/IndexOutOfBoundsException", Cond.initialized "java/lang/IndexOutOfBoundsException", Cond.methodLink RX4 78 yX4_requireContent, Cond.instanceMethod yX4_requireContent, Cond.selects RX4 yX4_requireContent yX4_requireContent, Cond.code yX4_requireContent cX4_requireContent 2 (some (.object "Buddyfield$Content")), Cond.fieldLink RX4 25 "Buddyfield" "contents" "[LBuddyfield$Content;", Cond.instanceMethod yX0_beginOfExtent, Cond.initialized RX0, Cond.selects RX0 yX0_beginOfExtent yX0_beginOfExtent, Cond.code yX0_beginOfExtent cX0_beginOfExtent 4 (some .int), Cond.methodLink RX0 76 yX0_beginsExtent, Cond.instanceMethod yX0_beginsExtent, Cond.selects RX0 yX0_beginsExtent yX0_beginsExtent, Cond.code yX0_beginsExtent cX0_beginsExtent 2 (some .boolean), Cond.methodLink RX0 70 yX0_isMapped, Cond.instanceMethod yX0_isMapped, Cond.selects RX0 yX0_isMapped yX0_isMapped]
def wsL_extent_r2 : List Cond := [Cond.code yX0_isMapped cX0_isMapped 2 (some .boolean), Cond.fieldLink RX0 9 "Buddyfield$Content" "blocks" "[I", Cond.methodLink RX0 73 yX0_joinsAhead, Cond.instanceMethod yX0_joinsAhead, Cond.selects RX0 yX0_joinsAhead yX0_joinsAhead, Cond.code yX0_joinsAhead cX0_joinsAhead 2 (some .boolean), Cond.instanceMethod yX0_lengthOfExtent, Cond.selects RX0 yX0_lengthOfExtent yX0_lengthOfExtent, Cond.code yX0_lengthOfExtent cX0_lengthOfExtent 3 (some .int)]
def wsL_extent : List Cond := .codeWith yL_extent cL_extent 5 (some .int) [(0, 10, 13, 23)] :: ((wsL_extent_r1 ++ wsL_extent_r2) ++ wsX00 ++ wsX40 ++ (vx_atS RX4 164 "java/lang/IndexOutOfBoundsException" ["java/lang/RuntimeException", "java/lang/Exception"]).filter goodWord)
def wsL_average_r1 : List Cond := [Cond.classLink RL 23 "java/lang/IndexOutOfBoundsException", Cond.methodLink RL 69 yX4_average, Cond.instanceMethod yX4_average, Cond.selects RX4 yX4_average yX4_average, Cond.initialized RX4, Cond.code yX4_average cX4_average 4 (some .float), Cond.methodLink RX4 78 yX4_requireContent, Cond.instanceMethod yX4_requireContent, Cond.selects RX4 yX4_requireContent yX4_requireContent, Cond.code yX4_requireContent cX4_requireContent 2 (some (.object "Buddyfield$Content")), Cond.classLink RX4 160 "java/lang/IndexOutOfBoundsException", Cond.initialized "java/lang/IndexOutOfBoundsException", Cond.fieldLink RX4 25 "Buddyfield" "contents" "[LBuddyfield$Content;", Cond.instanceMethod yX0_countExtents, Cond.initialized RX0, Cond.selects RX0 yX0_countExtents yX0_countExtents, Cond.code yX0_countExtents cX0_countExtents 3 (some .int), Cond.methodLink RX0 76 yX0_beginsExtent, Cond.instanceMethod yX0_beginsExtent, Cond.selects RX0 yX0_beginsExtent yX0_beginsExtent, Cond.code yX0_beginsExtent cX0_beginsExtent 2 (some .boolean), Cond.methodLink RX0 70 yX0_isMapped, Cond.instanceMethod yX0_isMapped, Cond.selects RX0 yX0_isMapped yX0_isMapped]
def wsL_average_r2 : List Cond := [Cond.code yX0_isMapped cX0_isMapped 2 (some .boolean), Cond.fieldLink RX0 9 "Buddyfield$Content" "blocks" "[I", Cond.methodLink RX0 73 yX0_joinsAhead, Cond.instanceMethod yX0_joinsAhead, Cond.selects RX0 yX0_joinsAhead yX0_joinsAhead, Cond.code yX0_joinsAhead cX0_joinsAhead 2 (some .boolean), Cond.instanceMethod yX0_mappedPlaces, Cond.selects RX0 yX0_mappedPlaces yX0_mappedPlaces, Cond.code yX0_mappedPlaces cX0_mappedPlaces 3 (some .int)]
def wsL_average : List Cond := .codeWith yL_average cL_average 4 (some .int) [(0, 9, 12, 23)] :: ((wsL_average_r1 ++ wsL_average_r2) ++ wsX40 ++ wsX00 ++ (vx_atS RX4 164 "java/lang/IndexOutOfBoundsException" ["java/lang/RuntimeException", "java/lang/Exception"]).filter goodWord)
def wsL_fileOf_r1 : List Cond := [Cond.classLink RL 13 "java/lang/IllegalArgumentException", Cond.methodLink RL 73 yX4_fileOf, Cond.instanceMethod yX4_fileOf, Cond.selects RX4 yX4_fileOf yX4_fileOf, Cond.initialized RX4, Cond.code yX4_fileOf cX4_fileOf 2 (some .int), Cond.fieldLink RX4 19 "Buddyfield" "directory" "LBuddyfield$Directory;", Cond.methodLink RX4 40 yX4_requireName, Cond.static yX4_requireName, Cond.code yX4_requireName cX4_requireName 1 none, Cond.methodLink RX4 97 yX4_requireRange, Cond.static yX4_requireRange, Cond.code yX4_requireRange cX4_requireRange 3 none, Cond.classLink RX4 195 "java/lang/IllegalArgumentException", Cond.initialized "java/lang/IllegalArgumentException", Cond.instanceMethod yX1_fileWith, Cond.initialized RX1, Cond.selects RX1 yX1_fileWith yX1_fileWith, Cond.code yX1_fileWith cX1_fileWith 2 (some .int), Cond.methodLink RX1 42 yX1_lastLookedAt, Cond.instanceMethod yX1_lastLookedAt, Cond.selects RX1 yX1_lastLookedAt yX1_lastLookedAt, Cond.code yX1_lastLookedAt cX1_lastLookedAt 4 (some (.object "Buddyfield$Leaf")), Cond.static yX4_hashOf]
def wsL_fileOf_r2 : List Cond := [Cond.code yX4_hashOf cX4_hashOf 1 (some .int), Cond.methodLink RX1 52 yX1_firstLookedAt, Cond.instanceMethod yX1_firstLookedAt, Cond.selects RX1 yX1_firstLookedAt yX1_firstLookedAt, Cond.code yX1_firstLookedAt cX1_firstLookedAt 4 (some (.object "Buddyfield$Leaf")), Cond.methodLink RX1 28 yX1_lastLeafFor, Cond.instanceMethod yX1_lastLeafFor, Cond.selects RX1 yX1_lastLeafFor yX1_lastLeafFor, Cond.code yX1_lastLeafFor cX1_lastLeafFor 4 (some (.object "Buddyfield$Leaf")), Cond.fieldLink RX1 14 "Buddyfield$Directory" "firstLeaf" "LBuddyfield$Leaf;", Cond.instanceMethod yX3_continues, Cond.initialized RX3, Cond.selects RX3 yX3_continues yX3_continues, Cond.code yX3_continues cX3_continues 2 (some .boolean), Cond.fieldLink RX3 32 "Buddyfield$Leaf" "continued" "Z", Cond.fieldLink RX3 29 "Buddyfield$Leaf" "low" "I", Cond.instanceMethod yX3_has, Cond.selects RX3 yX3_has yX3_has, Cond.code yX3_has cX3_has 2 (some .boolean), Cond.methodLink RX3 36 yX3_indexOf, Cond.instanceMethod yX3_indexOf, Cond.selects RX3 yX3_indexOf yX3_indexOf, Cond.code yX3_indexOf cX3_indexOf 3 (some .int), Cond.fieldLink RX3 18 "Buddyfield$Leaf" "count" "I"]
def wsL_fileOf_r3 : List Cond := [Cond.fieldLink RX3 9 "Buddyfield$Leaf" "names" "[I", Cond.instanceMethod yX3_fileWith, Cond.selects RX3 yX3_fileWith yX3_fileWith, Cond.code yX3_fileWith cX3_fileWith 3 (some .int), Cond.fieldLink RX3 15 "Buddyfield$Leaf" "files" "[I"]
def wsL_fileOf : List Cond := .codeWith yL_fileOf cL_fileOf 4 (some .int) [(0, 9, 12, 13)] :: ((wsL_fileOf_r1 ++ (wsL_fileOf_r2 ++ wsL_fileOf_r3)) ++ wsX40 ++ wsX30 ++ wsX10 ++ (vx_atS RX4 199 "java/lang/IllegalArgumentException" ["java/lang/RuntimeException", "java/lang/Exception"]).filter goodWord)
def wsL_looks_r1 : List Cond := [Cond.classLink RL 13 "java/lang/IllegalArgumentException", Cond.methodLink RL 76 yX4_looks, Cond.instanceMethod yX4_looks, Cond.selects RX4 yX4_looks yX4_looks, Cond.initialized RX4, Cond.code yX4_looks cX4_looks 2 (some .int), Cond.fieldLink RX4 19 "Buddyfield" "directory" "LBuddyfield$Directory;", Cond.methodLink RX4 40 yX4_requireName, Cond.static yX4_requireName, Cond.code yX4_requireName cX4_requireName 1 none, Cond.methodLink RX4 97 yX4_requireRange, Cond.static yX4_requireRange, Cond.code yX4_requireRange cX4_requireRange 3 none, Cond.classLink RX4 195 "java/lang/IllegalArgumentException", Cond.initialized "java/lang/IllegalArgumentException", Cond.instanceMethod yX1_countLooks, Cond.initialized RX1, Cond.selects RX1 yX1_countLooks yX1_countLooks, Cond.code yX1_countLooks cX1_countLooks 5 (some .int), Cond.methodLink RX1 42 yX1_lastLookedAt, Cond.instanceMethod yX1_lastLookedAt, Cond.selects RX1 yX1_lastLookedAt yX1_lastLookedAt, Cond.code yX1_lastLookedAt cX1_lastLookedAt 4 (some (.object "Buddyfield$Leaf")), Cond.static yX4_hashOf]
def wsL_looks_r2 : List Cond := [Cond.code yX4_hashOf cX4_hashOf 1 (some .int), Cond.methodLink RX1 52 yX1_firstLookedAt, Cond.instanceMethod yX1_firstLookedAt, Cond.selects RX1 yX1_firstLookedAt yX1_firstLookedAt, Cond.code yX1_firstLookedAt cX1_firstLookedAt 4 (some (.object "Buddyfield$Leaf")), Cond.methodLink RX1 28 yX1_lastLeafFor, Cond.instanceMethod yX1_lastLeafFor, Cond.selects RX1 yX1_lastLeafFor yX1_lastLeafFor, Cond.code yX1_lastLeafFor cX1_lastLeafFor 4 (some (.object "Buddyfield$Leaf")), Cond.fieldLink RX1 14 "Buddyfield$Directory" "firstLeaf" "LBuddyfield$Leaf;", Cond.instanceMethod yX3_continues, Cond.initialized RX3, Cond.selects RX3 yX3_continues yX3_continues, Cond.code yX3_continues cX3_continues 2 (some .boolean), Cond.fieldLink RX3 32 "Buddyfield$Leaf" "continued" "Z", Cond.fieldLink RX3 29 "Buddyfield$Leaf" "low" "I", Cond.instanceMethod yX3_has, Cond.selects RX3 yX3_has yX3_has, Cond.code yX3_has cX3_has 2 (some .boolean), Cond.methodLink RX3 36 yX3_indexOf, Cond.instanceMethod yX3_indexOf, Cond.selects RX3 yX3_indexOf yX3_indexOf, Cond.code yX3_indexOf cX3_indexOf 3 (some .int), Cond.fieldLink RX3 18 "Buddyfield$Leaf" "count" "I"]
def wsL_looks_r3 : List Cond := [Cond.fieldLink RX3 9 "Buddyfield$Leaf" "names" "[I"]
def wsL_looks : List Cond := .codeWith yL_looks cL_looks 4 (some .int) [(0, 9, 12, 13)] :: ((wsL_looks_r1 ++ (wsL_looks_r2 ++ wsL_looks_r3)) ++ wsX40 ++ wsX30 ++ wsX10 ++ (vx_atS RX4 199 "java/lang/IllegalArgumentException" ["java/lang/RuntimeException", "java/lang/Exception"]).filter goodWord)
def wsL_law0_r1 : List Cond := [Cond.classLink RL 8 RX4, Cond.instantiable RX4 5, Cond.initialized RX4, Cond.classLink RL 80 RX5, Cond.instantiable RX5 18, Cond.initialized RX5, Cond.arrayClass .long, Cond.arrayClass .double, Cond.methodLink RL 79 yX4_init, Cond.instanceMethod yX4_init, Cond.code yX4_init cX4_init 2 none, Cond.methodLink RX4 1 objectInit, Cond.instanceMethod objectInit, Cond.code objectInit ⟨#[0xb1]⟩ 1 none, Cond.classLink RX4 7 RX2, Cond.instantiable RX2 2, Cond.initialized RX2, Cond.fieldLink RX4 10 "Buddyfield" "ground" "LBuddyfield$Ground;", Cond.classLink RX4 16 RX1, Cond.instantiable RX1 2, Cond.initialized RX1, Cond.fieldLink RX4 19 "Buddyfield" "directory" "LBuddyfield$Directory;", Cond.classLink RX4 23 RX0, Cond.fieldLink RX4 25 "Buddyfield" "contents" "[LBuddyfield$Content;"]
def wsL_law0_r2 : List Cond := [Cond.fieldLink RX4 29 "Buddyfield" "stepsToCrash" "I", Cond.fieldLink RX4 33 "Buddyfield" "down" "Z", Cond.instantiable RX0 11, Cond.initialized RX0, Cond.instanceMethod yX2_init, Cond.code yX2_init cX2_init 1 none, Cond.methodLink RX2 3 objectInit, Cond.arrayClass .boolean, Cond.fieldLink RX2 9 "Buddyfield$Ground" "isTaken" "[Z", Cond.fieldLink RX2 15 "Buddyfield$Ground" "freeBlocks" "I", Cond.instanceMethod yX1_init, Cond.code yX1_init cX1_init 1 none, Cond.methodLink RX1 3 objectInit, Cond.classLink RX1 9 RX3, Cond.instantiable RX3 7, Cond.initialized RX3, Cond.fieldLink RX1 14 "Buddyfield$Directory" "firstLeaf" "LBuddyfield$Leaf;", Cond.fieldLink RX1 20 "Buddyfield$Directory" "leafCount" "I", Cond.instanceMethod yX3_init, Cond.code yX3_init cX3_init 3 none, Cond.methodLink RX3 3 objectInit, Cond.arrayClass .int, Cond.fieldLink RX3 9 "Buddyfield$Leaf" "names" "[I", Cond.fieldLink RX3 15 "Buddyfield$Leaf" "files" "[I"]
def wsL_law0_r3 : List Cond := [Cond.fieldLink RX3 18 "Buddyfield$Leaf" "count" "I", Cond.fieldLink RX3 22 "Buddyfield$Leaf" "back" "LBuddyfield$Leaf;", Cond.fieldLink RX3 26 "Buddyfield$Leaf" "next" "LBuddyfield$Leaf;", Cond.fieldLink RX3 29 "Buddyfield$Leaf" "low" "I", Cond.fieldLink RX3 32 "Buddyfield$Leaf" "continued" "Z", Cond.instanceMethod yX0_init, Cond.code yX0_init cX0_init 2 none, Cond.methodLink RX0 3 objectInit, Cond.fieldLink RX0 9 "Buddyfield$Content" "blocks" "[I", Cond.fieldLink RX0 15 "Buddyfield$Content" "exists" "Z", Cond.fieldLink RX0 19 "Buddyfield$Content" "timesOpen" "I", Cond.fieldLink RX0 23 "Buddyfield$Content" "reservedPlaces" "I", Cond.fieldLink RX0 26 "Buddyfield$Content" "keptPlace" "I", Cond.fieldLink RX0 29 "Buddyfield$Content" "firstKept" "I", Cond.fieldLink RX0 32 "Buddyfield$Content" "keptBlocks" "I", Cond.fieldLink RX0 35 "Buddyfield$Content" "isListed" "Z", Cond.fieldLink RX0 38 "Buddyfield$Content" "isDoomed" "Z", Cond.fieldLink RX0 41 "Buddyfield$Content" "listedSize" "I", Cond.fieldLink RX0 44 "Buddyfield$Content" "file" "I", Cond.methodLink RX0 47 yJ7_fill_53178, Cond.static yJ7_fill_53178, Cond.initialized RJ7, Cond.code yJ7_fill_53178 cJ7_fill_53178 4 none, Cond.methodLink RL 82 yX5_init]
def wsL_law0_r4 : List Cond := [Cond.instanceMethod yX5_init, Cond.code yX5_init cX5_init 2 none, Cond.methodLink RX5 1 objectInit, Cond.fieldLink RX5 7 "BuddyfieldModel" "free" "[Z", Cond.fieldLink RX5 13 "BuddyfieldModel" "isFile" "[Z", Cond.fieldLink RX5 16 "BuddyfieldModel" "at" "[I", Cond.fieldLink RX5 20 "BuddyfieldModel" "opens" "[I", Cond.fieldLink RX5 23 "BuddyfieldModel" "keptFrom" "[I", Cond.fieldLink RX5 26 "BuddyfieldModel" "keptMany" "[I", Cond.fieldLink RX5 29 "BuddyfieldModel" "keptFor" "[I", Cond.fieldLink RX5 32 "BuddyfieldModel" "cutTo" "[I", Cond.fieldLink RX5 35 "BuddyfieldModel" "deleted" "[Z", Cond.fieldLink RX5 38 "BuddyfieldModel" "fileOf" "[I", Cond.fieldLink RX5 41 "BuddyfieldModel" "low" "[I", Cond.fieldLink RX5 44 "BuddyfieldModel" "continued" "[Z", Cond.fieldLink RX5 47 "BuddyfieldModel" "names" "[I", Cond.fieldLink RX5 50 "BuddyfieldModel" "many" "[I", Cond.fieldLink RX5 53 "BuddyfieldModel" "leaves" "I", Cond.methodLink RL 83 yL_create, Cond.static yL_create, Cond.initialized RL, Cond.codeWith yL_create cL_create 4 (some .int) [(0, 9, 12, 13), (0, 9, 15, 15)], Cond.classLink RL 13 "java/lang/IllegalArgumentException", Cond.classLink RL 15 "java/lang/IllegalStateException"]
def wsL_law0_r5 : List Cond := [Cond.methodLink RL 7 yX4_create, Cond.instanceMethod yX4_create, Cond.selects RX4 yX4_create yX4_create, Cond.code yX4_create cX4_create 3 (some .int), Cond.classLink RX4 58 "java/lang/IllegalStateException", Cond.initialized "java/lang/IllegalStateException", Cond.methodLink RX4 40 yX4_requireName, Cond.static yX4_requireName, Cond.code yX4_requireName cX4_requireName 1 none, Cond.methodLink RX4 97 yX4_requireRange, Cond.static yX4_requireRange, Cond.code yX4_requireRange cX4_requireRange 3 none, Cond.classLink RX4 195 "java/lang/IllegalArgumentException", Cond.initialized "java/lang/IllegalArgumentException", Cond.methodLink RX4 43 yX4_requireUp, Cond.instanceMethod yX4_requireUp, Cond.selects RX4 yX4_requireUp yX4_requireUp, Cond.code yX4_requireUp cX4_requireUp 1 none, Cond.methodLink RX4 46 yX4_lowestUnusedFile, Cond.instanceMethod yX4_lowestUnusedFile, Cond.selects RX4 yX4_lowestUnusedFile yX4_lowestUnusedFile, Cond.code yX4_lowestUnusedFile cX4_lowestUnusedFile 2 (some .int), Cond.instanceMethod yX1_fileWith, Cond.selects RX1 yX1_fileWith yX1_fileWith]
def wsL_law0_r6 : List Cond := [Cond.code yX1_fileWith cX1_fileWith 2 (some .int), Cond.methodLink RX1 42 yX1_lastLookedAt, Cond.instanceMethod yX1_lastLookedAt, Cond.selects RX1 yX1_lastLookedAt yX1_lastLookedAt, Cond.code yX1_lastLookedAt cX1_lastLookedAt 4 (some (.object "Buddyfield$Leaf")), Cond.static yX4_hashOf, Cond.code yX4_hashOf cX4_hashOf 1 (some .int), Cond.methodLink RX1 52 yX1_firstLookedAt, Cond.instanceMethod yX1_firstLookedAt, Cond.selects RX1 yX1_firstLookedAt yX1_firstLookedAt, Cond.code yX1_firstLookedAt cX1_firstLookedAt 4 (some (.object "Buddyfield$Leaf")), Cond.methodLink RX1 28 yX1_lastLeafFor, Cond.instanceMethod yX1_lastLeafFor, Cond.selects RX1 yX1_lastLeafFor yX1_lastLeafFor, Cond.code yX1_lastLeafFor cX1_lastLeafFor 4 (some (.object "Buddyfield$Leaf")), Cond.instanceMethod yX3_continues, Cond.selects RX3 yX3_continues yX3_continues, Cond.code yX3_continues cX3_continues 2 (some .boolean), Cond.instanceMethod yX3_has, Cond.selects RX3 yX3_has yX3_has, Cond.code yX3_has cX3_has 2 (some .boolean), Cond.methodLink RX3 36 yX3_indexOf, Cond.instanceMethod yX3_indexOf, Cond.selects RX3 yX3_indexOf yX3_indexOf]
def wsL_law0_r7 : List Cond := [Cond.code yX3_indexOf cX3_indexOf 3 (some .int), Cond.instanceMethod yX3_fileWith, Cond.selects RX3 yX3_fileWith yX3_fileWith, Cond.code yX3_fileWith cX3_fileWith 3 (some .int), Cond.instanceMethod yX1_isFull, Cond.selects RX1 yX1_isFull yX1_isFull, Cond.code yX1_isFull cX1_isFull 1 (some .boolean), Cond.instanceMethod yX1_add, Cond.selects RX1 yX1_add yX1_add, Cond.code yX1_add cX1_add 4 none, Cond.instanceMethod yX3_split, Cond.selects RX3 yX3_split yX3_split, Cond.code yX3_split cX3_split 5 none, Cond.classLink RX3 10 RX3, Cond.methodLink RX3 46 yX3_init, Cond.methodLink RX3 49 yX3_insert, Cond.instanceMethod yX3_insert, Cond.selects RX3 yX3_insert yX3_insert, Cond.code yX3_insert cX3_insert 4 none, Cond.methodLink RX3 40 yX3_rankOf, Cond.static yX3_rankOf, Cond.code yX3_rankOf cX3_rankOf 1 (some .int), Cond.methodLink RX3 53 yX3_linkBehind, Cond.instanceMethod yX3_linkBehind]
def wsL_law0_r8 : List Cond := [Cond.selects RX3 yX3_linkBehind yX3_linkBehind, Cond.code yX3_linkBehind cX3_linkBehind 2 none, Cond.instanceMethod yX0_begin, Cond.selects RX0 yX0_begin yX0_begin, Cond.code yX0_begin cX0_begin 1 none, Cond.methodLink RL 88 yX5_create, Cond.instanceMethod yX5_create, Cond.selects RX5 yX5_create yX5_create, Cond.code yX5_create cX5_create 4 (some .int), Cond.fieldLink RX5 98 "BuddyfieldModel" "down" "Z", Cond.methodLink RX5 115 yX5_isName, Cond.static yX5_isName, Cond.code yX5_isName cX5_isName 1 (some .boolean), Cond.methodLink RX5 60 yX5_in, Cond.static yX5_in, Cond.code yX5_in cX5_in 3 (some .boolean), Cond.methodLink RX5 119 yX5_asked_, Cond.instanceMethod yX5_asked_, Cond.selects RX5 yX5_asked_ yX5_asked_, Cond.code yX5_asked_ cX5_asked_ 3 (some .boolean), Cond.fieldLink RX5 57 "BuddyfieldModel" "thrown" "I", Cond.methodLink RX5 123 yX5_addsName, Cond.instanceMethod yX5_addsName, Cond.selects RX5 yX5_addsName yX5_addsName]
def wsL_law0_r9 : List Cond := [Cond.code yX5_addsName cX5_addsName 3 none, Cond.methodLink RX5 71 yX5_hash, Cond.static yX5_hash, Cond.code yX5_hash cX5_hash 1 (some .int), Cond.methodLink RX5 79 yX5_lastLeaf, Cond.instanceMethod yX5_lastLeaf, Cond.selects RX5 yX5_lastLeaf yX5_lastLeaf, Cond.code yX5_lastLeaf cX5_lastLeaf 3 (some .int), Cond.methodLink RX5 82 yX5_splits, Cond.instanceMethod yX5_splits, Cond.selects RX5 yX5_splits yX5_splits, Cond.code yX5_splits cX5_splits 6 none, Cond.methodLink RX5 75 yX5_isAhead, Cond.static yX5_isAhead, Cond.code yX5_isAhead cX5_isAhead 2 (some .boolean), Cond.methodLink RL 89 yX5_thrown, Cond.instanceMethod yX5_thrown, Cond.selects RX5 yX5_thrown yX5_thrown, Cond.code yX5_thrown cX5_thrown 1 (some .int), Cond.methodLink RL 92 yL_open, Cond.static yL_open, Cond.codeWith yL_open cL_open 4 (some .int) [(0, 9, 12, 13), (0, 9, 15, 15)], Cond.methodLink RL 17 yX4_open, Cond.instanceMethod yX4_open]
def wsL_law0_r10 : List Cond := [Cond.selects RX4 yX4_open yX4_open, Cond.code yX4_open cX4_open 3 (some .int), Cond.methodLink RX4 72 yX4_requireFileWith, Cond.instanceMethod yX4_requireFileWith, Cond.selects RX4 yX4_requireFileWith yX4_requireFileWith, Cond.code yX4_requireFileWith cX4_requireFileWith 3 (some .int), Cond.methodLink RL 94 yX5_open, Cond.instanceMethod yX5_open, Cond.selects RX5 yX5_open yX5_open, Cond.code yX5_open cX5_open 3 (some .int), Cond.methodLink RL 95 yL_close, Cond.static yL_close, Cond.codeWith yL_close cL_close 4 (some .int) [(0, 9, 12, 23), (0, 9, 15, 15)], Cond.classLink RL 23 "java/lang/IndexOutOfBoundsException", Cond.methodLink RL 20 yX4_close, Cond.instanceMethod yX4_close, Cond.selects RX4 yX4_close yX4_close, Cond.code yX4_close cX4_close 3 (some .int), Cond.methodLink RX4 78 yX4_requireContent, Cond.instanceMethod yX4_requireContent, Cond.selects RX4 yX4_requireContent yX4_requireContent, Cond.code yX4_requireContent cX4_requireContent 2 (some (.object "Buddyfield$Content")), Cond.classLink RX4 160 "java/lang/IndexOutOfBoundsException", Cond.initialized "java/lang/IndexOutOfBoundsException"]
def wsL_law0_r11 : List Cond := [Cond.methodLink RX4 87 yX4_erase, Cond.instanceMethod yX4_erase, Cond.selects RX4 yX4_erase yX4_erase, Cond.code yX4_erase cX4_erase 2 (some .boolean), Cond.methodLink RX4 130 yX4_cutTo, Cond.instanceMethod yX4_cutTo, Cond.selects RX4 yX4_cutTo yX4_cutTo, Cond.code yX4_cutTo cX4_cutTo 5 (some .int), Cond.instanceMethod yX0_dropReserved, Cond.selects RX0 yX0_dropReserved yX0_dropReserved, Cond.code yX0_dropReserved cX0_dropReserved 3 none, Cond.methodLink RX4 218 yX4_releaseKept, Cond.instanceMethod yX4_releaseKept, Cond.selects RX4 yX4_releaseKept yX4_releaseKept, Cond.code yX4_releaseKept cX4_releaseKept 2 none, Cond.instanceMethod yX2_release, Cond.selects RX2 yX2_release yX2_release, Cond.code yX2_release cX2_release 3 none, Cond.methodLink RX2 19 yX2_mark, Cond.instanceMethod yX2_mark, Cond.selects RX2 yX2_mark yX2_mark, Cond.code yX2_mark cX2_mark 5 none, Cond.instanceMethod yX0_isMapped, Cond.selects RX0 yX0_isMapped yX0_isMapped]
def wsL_law0_r12 : List Cond := [Cond.code yX0_isMapped cX0_isMapped 2 (some .boolean), Cond.methodLink RX4 263 yX4_step, Cond.instanceMethod yX4_step, Cond.selects RX4 yX4_step yX4_step, Cond.code yX4_step cX4_step 6 none, Cond.instanceMethod yX0_joinsAhead, Cond.selects RX0 yX0_joinsAhead yX0_joinsAhead, Cond.code yX0_joinsAhead cX0_joinsAhead 2 (some .boolean), Cond.methodLink RX0 70 yX0_isMapped, Cond.methodLink RX4 267 yX4_crashIsDue, Cond.instanceMethod yX4_crashIsDue, Cond.selects RX4 yX4_crashIsDue yX4_crashIsDue, Cond.code yX4_crashIsDue cX4_crashIsDue 1 (some .boolean), Cond.methodLink RX4 134 yX4_fall, Cond.instanceMethod yX4_fall, Cond.selects RX4 yX4_fall yX4_fall, Cond.code yX4_fall cX4_fall 2 none, Cond.methodLink RX4 113 yX4_releaseAllKept, Cond.instanceMethod yX4_releaseAllKept, Cond.selects RX4 yX4_releaseAllKept yX4_releaseAllKept, Cond.code yX4_releaseAllKept cX4_releaseAllKept 2 none, Cond.methodLink RL 97 yX5_close, Cond.instanceMethod yX5_close, Cond.selects RX5 yX5_close yX5_close]
def wsL_law0_r13 : List Cond := [Cond.code yX5_close cX5_close 3 (some .int), Cond.methodLink RX5 126 yX5_isThere, Cond.instanceMethod yX5_isThere, Cond.selects RX5 yX5_isThere yX5_isThere, Cond.code yX5_isThere cX5_isThere 2 (some .boolean), Cond.methodLink RX5 129 yX5_ends, Cond.instanceMethod yX5_ends, Cond.selects RX5 yX5_ends yX5_ends, Cond.code yX5_ends cX5_ends 2 (some .boolean), Cond.methodLink RX5 111 yX5_cuts, Cond.instanceMethod yX5_cuts, Cond.selects RX5 yX5_cuts yX5_cuts, Cond.code yX5_cuts cX5_cuts 4 (some .int), Cond.fieldLink RX5 102 "BuddyfieldModel" "crashIn" "I", Cond.methodLink RX5 95 yX5_freesKept, Cond.instanceMethod yX5_freesKept, Cond.selects RX5 yX5_freesKept yX5_freesKept, Cond.code yX5_freesKept cX5_freesKept 3 none, Cond.methodLink RX5 105 yX5_steps, Cond.instanceMethod yX5_steps, Cond.selects RX5 yX5_steps yX5_steps, Cond.code yX5_steps cX5_steps 6 (some .boolean), Cond.methodLink RX5 108 yX5_crashes, Cond.instanceMethod yX5_crashes]
def wsL_law0_r14 : List Cond := [Cond.selects RX5 yX5_crashes yX5_crashes, Cond.code yX5_crashes cX5_crashes 2 none, Cond.methodLink RL 98 yL_delete, Cond.static yL_delete, Cond.codeWith yL_delete cL_delete 4 (some .int) [(0, 9, 12, 13), (0, 9, 15, 15)], Cond.methodLink RL 25 yX4_delete, Cond.instanceMethod yX4_delete, Cond.selects RX4 yX4_delete yX4_delete, Cond.code yX4_delete cX4_delete 4 (some .int), Cond.instanceMethod yX1_takeOut, Cond.selects RX1 yX1_takeOut yX1_takeOut, Cond.code yX1_takeOut cX1_takeOut 2 none, Cond.instanceMethod yX3_takeOut, Cond.selects RX3 yX3_takeOut yX3_takeOut, Cond.code yX3_takeOut cX3_takeOut 4 none, Cond.methodLink RL 100 yX5_delete, Cond.instanceMethod yX5_delete, Cond.selects RX5 yX5_delete yX5_delete, Cond.code yX5_delete cX5_delete 4 (some .int), Cond.methodLink RX5 132 yX5_takesOut, Cond.instanceMethod yX5_takesOut, Cond.selects RX5 yX5_takesOut yX5_takesOut, Cond.code yX5_takesOut cX5_takesOut 4 none, Cond.methodLink RX5 89 yX5_begins]
def wsL_law0_r15 : List Cond := [Cond.instanceMethod yX5_begins, Cond.selects RX5 yX5_begins yX5_begins, Cond.code yX5_begins cX5_begins 3 (some .int), Cond.methodLink RX5 92 yX5_goesOn, Cond.instanceMethod yX5_goesOn, Cond.selects RX5 yX5_goesOn yX5_goesOn, Cond.code yX5_goesOn cX5_goesOn 3 (some .boolean), Cond.methodLink RX5 86 yX5_isIn, Cond.instanceMethod yX5_isIn, Cond.selects RX5 yX5_isIn yX5_isIn, Cond.code yX5_isIn cX5_isIn 5 (some .boolean), Cond.methodLink RL 101 yL_write, Cond.static yL_write, Cond.codeWith yL_write cL_write 6 (some .int) [(0, 12, 15, 23), (0, 12, 19, 13), (0, 12, 23, 15)], Cond.methodLink RL 28 yX4_write, Cond.instanceMethod yX4_write, Cond.selects RX4 yX4_write yX4_write, Cond.code yX4_write cX4_write 6 (some .int), Cond.instanceMethod yX0_emptyPlaces, Cond.selects RX0 yX0_emptyPlaces yX0_emptyPlaces, Cond.code yX0_emptyPlaces cX0_emptyPlaces 5 (some .int), Cond.methodLink RX4 105 yX4_left, Cond.instanceMethod yX4_left, Cond.selects RX4 yX4_left yX4_left]
def wsL_law0_r16 : List Cond := [Cond.code yX4_left cX4_left 1 (some .int), Cond.methodLink RX4 206 yX4_free, Cond.instanceMethod yX4_free, Cond.selects RX4 yX4_free yX4_free, Cond.code yX4_free cX4_free 1 (some .int), Cond.methodLink RX4 209 yX4_reserved, Cond.instanceMethod yX4_reserved, Cond.selects RX4 yX4_reserved yX4_reserved, Cond.code yX4_reserved cX4_reserved 3 (some .int), Cond.methodLink RX4 108 yX4_kept, Cond.instanceMethod yX4_kept, Cond.selects RX4 yX4_kept yX4_kept, Cond.code yX4_kept cX4_kept 3 (some .int), Cond.instanceMethod yX0_reserve, Cond.selects RX0 yX0_reserve yX0_reserve, Cond.code yX0_reserve cX0_reserve 4 none, Cond.methodLink RL 104 yX5_write, Cond.instanceMethod yX5_write, Cond.selects RX5 yX5_write yX5_write, Cond.code yX5_write cX5_write 8 (some .int), Cond.methodLink RX5 135 yX5_left, Cond.instanceMethod yX5_left, Cond.selects RX5 yX5_left yX5_left, Cond.code yX5_left cX5_left 1 (some .int)]
def wsL_law0_r17 : List Cond := [Cond.methodLink RX5 64 yX5_freeNow, Cond.instanceMethod yX5_freeNow, Cond.selects RX5 yX5_freeNow yX5_freeNow, Cond.code yX5_freeNow cX5_freeNow 3 (some .int), Cond.methodLink RX5 68 yX5_reservedNow, Cond.instanceMethod yX5_reservedNow, Cond.selects RX5 yX5_reservedNow yX5_reservedNow, Cond.code yX5_reservedNow cX5_reservedNow 3 (some .int), Cond.methodLink RX5 138 yX5_keptNow, Cond.instanceMethod yX5_keptNow, Cond.selects RX5 yX5_keptNow yX5_keptNow, Cond.code yX5_keptNow cX5_keptNow 3 (some .int), Cond.methodLink RX5 141 yX5_asked__, Cond.instanceMethod yX5_asked__, Cond.selects RX5 yX5_asked__ yX5_asked__, Cond.code yX5_asked__ cX5_asked__ 4 (some .boolean), Cond.methodLink RL 105 yL_flush, Cond.static yL_flush, Cond.codeWith yL_flush cL_flush 4 (some .int) [(0, 9, 12, 23), (0, 9, 15, 15)], Cond.methodLink RL 32 yX4_flush, Cond.instanceMethod yX4_flush, Cond.selects RX4 yX4_flush yX4_flush, Cond.code yX4_flush cX4_flush 5 (some .int), Cond.instanceMethod yX0_isReserved]
def wsL_law0_r18 : List Cond := [Cond.selects RX0 yX0_isReserved yX0_isReserved, Cond.code yX0_isReserved cX0_isReserved 2 (some .boolean), Cond.instanceMethod yX0_endOfReserved, Cond.selects RX0 yX0_endOfReserved yX0_endOfReserved, Cond.code yX0_endOfReserved cX0_endOfReserved 3 (some .int), Cond.methodLink RX0 53 yX0_isReserved, Cond.methodLink RX4 126 yX4_mapRow, Cond.instanceMethod yX4_mapRow, Cond.selects RX4 yX4_mapRow yX4_mapRow, Cond.code yX4_mapRow cX4_mapRow 6 (some .int), Cond.instanceMethod yX0_isKeptFor, Cond.selects RX0 yX0_isKeptFor yX0_isKeptFor, Cond.code yX0_isKeptFor cX0_isKeptFor 2 (some .boolean), Cond.instanceMethod yX0_mapKept, Cond.selects RX0 yX0_mapKept yX0_mapKept, Cond.code yX0_mapKept cX0_mapKept 4 (some .int), Cond.methodLink RX0 57 Lib.Math.min.name, Cond.static Lib.Math.min.name, Cond.initialized "java/lang/Math", Cond.code Lib.Math.min.name Lib.Math.min.code 2 (some .int), Cond.methodLink RX0 63 yX0_map, Cond.instanceMethod yX0_map, Cond.selects RX0 yX0_map yX0_map, Cond.code yX0_map cX0_map 5 none]
def wsL_law0_r19 : List Cond := [Cond.methodLink RX0 67 yX0_keep, Cond.instanceMethod yX0_keep, Cond.selects RX0 yX0_keep yX0_keep, Cond.code yX0_keep cX0_keep 4 none, Cond.methodLink RX4 228 yX4_mapFound, Cond.instanceMethod yX4_mapFound, Cond.selects RX4 yX4_mapFound yX4_mapFound, Cond.code yX4_mapFound cX4_mapFound 8 (some .int), Cond.methodLink RX4 240 Lib.Math.min.name, Cond.methodLink RX4 231 yX4_goalFor, Cond.instanceMethod yX4_goalFor, Cond.selects RX4 yX4_goalFor yX4_goalFor, Cond.code yX4_goalFor cX4_goalFor 4 (some .int), Cond.methodLink RX4 234 yX4_lengthFor, Cond.instanceMethod yX4_lengthFor, Cond.selects RX4 yX4_lengthFor yX4_lengthFor, Cond.code yX4_lengthFor cX4_lengthFor 3 (some .int), Cond.instanceMethod yX2_find, Cond.selects RX2 yX2_find yX2_find, Cond.code yX2_find cX2_find 7 (some .int), Cond.methodLink RX2 23 yX2_areFree, Cond.instanceMethod yX2_areFree, Cond.selects RX2 yX2_areFree yX2_areFree, Cond.code yX2_areFree cX2_areFree 4 (some .boolean)]
def wsL_law0_r20 : List Cond := [Cond.methodLink RX2 27 yX2_firstPiece, Cond.instanceMethod yX2_firstPiece, Cond.selects RX2 yX2_firstPiece yX2_firstPiece, Cond.code yX2_firstPiece cX2_firstPiece 5 (some .int), Cond.methodLink RX2 31 yX2_isFreePiece, Cond.instanceMethod yX2_isFreePiece, Cond.selects RX2 yX2_isFreePiece yX2_isFreePiece, Cond.code yX2_isFreePiece cX2_isFreePiece 3 (some .boolean), Cond.instanceMethod yX2_take, Cond.selects RX2 yX2_take yX2_take, Cond.code yX2_take cX2_take 3 none, Cond.methodLink RL 107 yX5_flush, Cond.instanceMethod yX5_flush, Cond.selects RX5 yX5_flush yX5_flush, Cond.code yX5_flush cX5_flush 7 (some .int), Cond.methodLink RX5 150 yX5_maps, Cond.instanceMethod yX5_maps, Cond.selects RX5 yX5_maps yX5_maps, Cond.code yX5_maps cX5_maps 10 (some .int), Cond.methodLink RX5 147 yX5_finds, Cond.instanceMethod yX5_finds, Cond.selects RX5 yX5_finds yX5_finds, Cond.code yX5_finds cX5_finds 6 (some .int), Cond.methodLink RX5 144 yX5_areFree]
def wsL_law0_r21 : List Cond := [Cond.instanceMethod yX5_areFree, Cond.selects RX5 yX5_areFree yX5_areFree, Cond.code yX5_areFree cX5_areFree 5 (some .boolean), Cond.methodLink RL 108 yL_cut, Cond.static yL_cut, Cond.codeWith yL_cut cL_cut 5 (some .int) [(0, 10, 13, 23), (0, 10, 17, 13), (0, 10, 21, 15)], Cond.methodLink RL 35 yX4_cut, Cond.instanceMethod yX4_cut, Cond.selects RX4 yX4_cut yX4_cut, Cond.code yX4_cut cX4_cut 4 (some .int), Cond.methodLink RL 111 yX5_cut, Cond.instanceMethod yX5_cut, Cond.selects RX5 yX5_cut yX5_cut, Cond.code yX5_cut cX5_cut 4 (some .int), Cond.methodLink RL 112 yL_crashBehind, Cond.static yL_crashBehind, Cond.codeWith yL_crashBehind cL_crashBehind 3 (some .int) [(0, 5, 8, 13), (0, 5, 11, 15)], Cond.methodLink RL 39 yX4_crashBehind, Cond.instanceMethod yX4_crashBehind, Cond.selects RX4 yX4_crashBehind yX4_crashBehind, Cond.code yX4_crashBehind cX4_crashBehind 2 none, Cond.methodLink RL 115 yX5_crashBehind, Cond.instanceMethod yX5_crashBehind, Cond.selects RX5 yX5_crashBehind yX5_crashBehind]
def wsL_law0_r22 : List Cond := [Cond.code yX5_crashBehind cX5_crashBehind 2 none, Cond.methodLink RL 116 yL_crash, Cond.static yL_crash, Cond.codeWith yL_crash cL_crash 2 (some .int) [(0, 4, 7, 15)], Cond.methodLink RL 43 yX4_crash, Cond.instanceMethod yX4_crash, Cond.selects RX4 yX4_crash yX4_crash, Cond.code yX4_crash cX4_crash 1 none, Cond.methodLink RL 119 yX5_crash, Cond.instanceMethod yX5_crash, Cond.selects RX5 yX5_crash yX5_crash, Cond.code yX5_crash cX5_crash 1 none, Cond.methodLink RX5 154 yX5_asked, Cond.instanceMethod yX5_asked, Cond.selects RX5 yX5_asked yX5_asked, Cond.code yX5_asked cX5_asked 2 (some .boolean), Cond.methodLink RL 120 yL_start, Cond.static yL_start, Cond.codeWith yL_start cL_start 3 (some .int) [(0, 8, 11, 15)], Cond.methodLink RL 46 yX4_start, Cond.instanceMethod yX4_start, Cond.selects RX4 yX4_start yX4_start, Cond.code yX4_start cX4_start 4 (some .int), Cond.methodLink RX4 139 yX4_listed]
def wsL_law0_r23 : List Cond := [Cond.instanceMethod yX4_listed, Cond.selects RX4 yX4_listed yX4_listed, Cond.code yX4_listed cX4_listed 3 (some .int), Cond.methodLink RL 123 yX5_start, Cond.instanceMethod yX5_start, Cond.selects RX5 yX5_start yX5_start, Cond.code yX5_start cX5_start 3 (some .int), Cond.methodLink RL 124 yX4_isDown, Cond.instanceMethod yX4_isDown, Cond.selects RX4 yX4_isDown yX4_isDown, Cond.code yX4_isDown cX4_isDown 1 (some .boolean), Cond.methodLink RL 128 yX5_isDown, Cond.instanceMethod yX5_isDown, Cond.selects RX5 yX5_isDown yX5_isDown, Cond.code yX5_isDown cX5_isDown 1 (some .boolean), Cond.methodLink RL 129 yX4_files, Cond.instanceMethod yX4_files, Cond.selects RX4 yX4_files yX4_files, Cond.code yX4_files cX4_files 3 (some .int), Cond.methodLink RL 132 yX5_files, Cond.instanceMethod yX5_files, Cond.selects RX5 yX5_files yX5_files, Cond.code yX5_files cX5_files 3 (some .int), Cond.methodLink RX5 157 yX5_told]
def wsL_law0_r24 : List Cond := [Cond.instanceMethod yX5_told, Cond.selects RX5 yX5_told yX5_told, Cond.code yX5_told cX5_told 2 (some .int), Cond.methodLink RL 133 yX4_listed, Cond.methodLink RL 136 yX5_listed, Cond.instanceMethod yX5_listed, Cond.selects RX5 yX5_listed yX5_listed, Cond.code yX5_listed cX5_listed 3 (some .int), Cond.methodLink RL 137 yL_opens, Cond.static yL_opens, Cond.codeWith yL_opens cL_opens 4 (some .int) [(0, 9, 12, 23)], Cond.methodLink RL 50 yX4_opens, Cond.instanceMethod yX4_opens, Cond.selects RX4 yX4_opens yX4_opens, Cond.code yX4_opens cX4_opens 2 (some .int), Cond.methodLink RL 139 yX5_opens, Cond.instanceMethod yX5_opens, Cond.selects RX5 yX5_opens yX5_opens, Cond.code yX5_opens cX5_opens 2 (some .int), Cond.methodLink RL 140 yX4_free, Cond.methodLink RL 143 yX5_free, Cond.instanceMethod yX5_free, Cond.selects RX5 yX5_free yX5_free, Cond.code yX5_free cX5_free 1 (some .int)]
def wsL_law0_r25 : List Cond := [Cond.methodLink RL 144 yX4_freeByFiles, Cond.instanceMethod yX4_freeByFiles, Cond.selects RX4 yX4_freeByFiles yX4_freeByFiles, Cond.code yX4_freeByFiles cX4_freeByFiles 3 (some .int), Cond.instanceMethod yX0_mappedPlaces, Cond.selects RX0 yX0_mappedPlaces yX0_mappedPlaces, Cond.code yX0_mappedPlaces cX0_mappedPlaces 3 (some .int), Cond.methodLink RL 147 yX5_freeByFiles, Cond.instanceMethod yX5_freeByFiles, Cond.selects RX5 yX5_freeByFiles yX5_freeByFiles, Cond.code yX5_freeByFiles cX5_freeByFiles 3 (some .int), Cond.methodLink RL 148 yX4_reserved, Cond.methodLink RL 151 yX5_reserved, Cond.instanceMethod yX5_reserved, Cond.selects RX5 yX5_reserved yX5_reserved, Cond.code yX5_reserved cX5_reserved 1 (some .int), Cond.methodLink RL 152 yX4_kept, Cond.methodLink RL 155 yX5_kept, Cond.instanceMethod yX5_kept, Cond.selects RX5 yX5_kept yX5_kept, Cond.code yX5_kept cX5_kept 1 (some .int), Cond.methodLink RL 156 yL_pieces, Cond.static yL_pieces, Cond.codeWith yL_pieces cL_pieces 5 (some .int) [(0, 10, 13, 23), (0, 10, 17, 13)]]
def wsL_law0_r26 : List Cond := [Cond.methodLink RL 53 yX4_pieces, Cond.instanceMethod yX4_pieces, Cond.selects RX4 yX4_pieces yX4_pieces, Cond.code yX4_pieces cX4_pieces 3 (some .int), Cond.instanceMethod yX2_countPieces, Cond.selects RX2 yX2_countPieces yX2_countPieces, Cond.code yX2_countPieces cX2_countPieces 6 (some .int), Cond.methodLink RL 158 yX5_pieces, Cond.instanceMethod yX5_pieces, Cond.selects RX5 yX5_pieces yX5_pieces, Cond.code yX5_pieces cX5_pieces 6 (some .int), Cond.methodLink RL 159 yL_isFree, Cond.static yL_isFree, Cond.codeWith yL_isFree cL_isFree 4 (some .int) [(0, 16, 19, 23)], Cond.methodLink RL 56 yX4_isFree, Cond.instanceMethod yX4_isFree, Cond.selects RX4 yX4_isFree yX4_isFree, Cond.code yX4_isFree cX4_isFree 2 (some .boolean), Cond.methodLink RL 161 yX5_isFree, Cond.instanceMethod yX5_isFree, Cond.selects RX5 yX5_isFree yX5_isFree, Cond.code yX5_isFree cX5_isFree 2 (some .boolean), Cond.methodLink RL 162 yL_blockAt, Cond.static yL_blockAt]
def wsL_law0_r27 : List Cond := [Cond.codeWith yL_blockAt cL_blockAt 5 (some .int) [(0, 10, 13, 23), (0, 10, 17, 13)], Cond.methodLink RL 60 yX4_blockAt, Cond.instanceMethod yX4_blockAt, Cond.selects RX4 yX4_blockAt yX4_blockAt, Cond.code yX4_blockAt cX4_blockAt 4 (some .int), Cond.methodLink RL 164 yX5_blockAt, Cond.instanceMethod yX5_blockAt, Cond.selects RX5 yX5_blockAt yX5_blockAt, Cond.code yX5_blockAt cX5_blockAt 3 (some .int), Cond.methodLink RL 165 yL_extents, Cond.static yL_extents, Cond.codeWith yL_extents cL_extents 4 (some .int) [(0, 9, 12, 23)], Cond.methodLink RL 63 yX4_extents, Cond.instanceMethod yX4_extents, Cond.selects RX4 yX4_extents yX4_extents, Cond.code yX4_extents cX4_extents 2 (some .int), Cond.instanceMethod yX0_countExtents, Cond.selects RX0 yX0_countExtents yX0_countExtents, Cond.code yX0_countExtents cX0_countExtents 3 (some .int), Cond.methodLink RX0 76 yX0_beginsExtent, Cond.instanceMethod yX0_beginsExtent, Cond.selects RX0 yX0_beginsExtent yX0_beginsExtent, Cond.code yX0_beginsExtent cX0_beginsExtent 2 (some .boolean), Cond.methodLink RX0 73 yX0_joinsAhead]
def wsL_law0_r28 : List Cond := [Cond.methodLink RL 167 yX5_extents, Cond.instanceMethod yX5_extents, Cond.selects RX5 yX5_extents yX5_extents, Cond.code yX5_extents cX5_extents 2 (some .int), Cond.methodLink RX5 163 yX5_extentsOf, Cond.instanceMethod yX5_extentsOf, Cond.selects RX5 yX5_extentsOf yX5_extentsOf, Cond.code yX5_extentsOf cX5_extentsOf 4 (some .int), Cond.methodLink RX5 160 yX5_isBegin, Cond.instanceMethod yX5_isBegin, Cond.selects RX5 yX5_isBegin yX5_isBegin, Cond.code yX5_isBegin cX5_isBegin 4 (some .boolean), Cond.methodLink RL 168 yL_extent, Cond.static yL_extent, Cond.codeWith yL_extent cL_extent 5 (some .int) [(0, 10, 13, 23)], Cond.methodLink RL 66 yX4_extent, Cond.instanceMethod yX4_extent, Cond.selects RX4 yX4_extent yX4_extent, Cond.code yX4_extent cX4_extent 5 (some .int), Cond.instanceMethod yX0_beginOfExtent, Cond.selects RX0 yX0_beginOfExtent yX0_beginOfExtent, Cond.code yX0_beginOfExtent cX0_beginOfExtent 4 (some .int), Cond.instanceMethod yX0_lengthOfExtent, Cond.selects RX0 yX0_lengthOfExtent yX0_lengthOfExtent]
def wsL_law0_r29 : List Cond := [Cond.code yX0_lengthOfExtent cX0_lengthOfExtent 3 (some .int), Cond.methodLink RL 170 yX5_extent, Cond.instanceMethod yX5_extent, Cond.selects RX5 yX5_extent yX5_extent, Cond.code yX5_extent cX5_extent 6 (some .int), Cond.methodLink RL 171 yL_average, Cond.static yL_average, Cond.codeWith yL_average cL_average 4 (some .int) [(0, 9, 12, 23)], Cond.methodLink RL 69 yX4_average, Cond.instanceMethod yX4_average, Cond.selects RX4 yX4_average yX4_average, Cond.code yX4_average cX4_average 4 (some .float), Cond.methodLink RL 174 yX5_average, Cond.instanceMethod yX5_average, Cond.selects RX5 yX5_average yX5_average, Cond.code yX5_average cX5_average 4 (some .float), Cond.methodLink RL 175 yL_fileOf, Cond.static yL_fileOf, Cond.codeWith yL_fileOf cL_fileOf 4 (some .int) [(0, 9, 12, 13)], Cond.methodLink RL 73 yX4_fileOf, Cond.instanceMethod yX4_fileOf, Cond.selects RX4 yX4_fileOf yX4_fileOf, Cond.code yX4_fileOf cX4_fileOf 2 (some .int), Cond.methodLink RL 177 yX5_fileOf]
def wsL_law0_r30 : List Cond := [Cond.instanceMethod yX5_fileOf, Cond.selects RX5 yX5_fileOf yX5_fileOf, Cond.code yX5_fileOf cX5_fileOf 2 (some .int), Cond.methodLink RL 178 yX4_leaves, Cond.instanceMethod yX4_leaves, Cond.selects RX4 yX4_leaves yX4_leaves, Cond.code yX4_leaves cX4_leaves 1 (some .int), Cond.methodLink RL 181 yX5_leaves, Cond.instanceMethod yX5_leaves, Cond.selects RX5 yX5_leaves yX5_leaves, Cond.code yX5_leaves cX5_leaves 1 (some .int), Cond.methodLink RL 182 yL_looks, Cond.static yL_looks, Cond.codeWith yL_looks cL_looks 4 (some .int) [(0, 9, 12, 13)], Cond.methodLink RL 76 yX4_looks, Cond.instanceMethod yX4_looks, Cond.selects RX4 yX4_looks yX4_looks, Cond.code yX4_looks cX4_looks 2 (some .int), Cond.instanceMethod yX1_countLooks, Cond.selects RX1 yX1_countLooks yX1_countLooks, Cond.code yX1_countLooks cX1_countLooks 5 (some .int), Cond.methodLink RL 184 yX5_looks, Cond.instanceMethod yX5_looks, Cond.selects RX5 yX5_looks yX5_looks]
def wsL_law0_r31 : List Cond := [Cond.code yX5_looks cX5_looks 4 (some .int)]
def wsL_law0 : List Cond := (wsL_law0_r1 ++ (wsL_law0_r2 ++ (wsL_law0_r3 ++ (wsL_law0_r4 ++ (wsL_law0_r5 ++ (wsL_law0_r6 ++ (wsL_law0_r7 ++ (wsL_law0_r8 ++ (wsL_law0_r9 ++ (wsL_law0_r10 ++ (wsL_law0_r11 ++ (wsL_law0_r12 ++ (wsL_law0_r13 ++ (wsL_law0_r14 ++ (wsL_law0_r15 ++ (wsL_law0_r16 ++ (wsL_law0_r17 ++ (wsL_law0_r18 ++ (wsL_law0_r19 ++ (wsL_law0_r20 ++ (wsL_law0_r21 ++ (wsL_law0_r22 ++ (wsL_law0_r23 ++ (wsL_law0_r24 ++ (wsL_law0_r25 ++ (wsL_law0_r26 ++ (wsL_law0_r27 ++ (wsL_law0_r28 ++ (wsL_law0_r29 ++ (wsL_law0_r30 ++ wsL_law0_r31)))))))))))))))))))))))))))))) ++ wsX40 ++ wsX50 ++ wsX20 ++ wsX10 ++ wsX00 ++ wsX30 ++ ([] : List Cond)
def wsL_law : List Cond := wsL_law0 ++ (vx_atS RX4 62 "java/lang/IllegalStateException" ["java/lang/RuntimeException", "java/lang/Exception"]).filter goodWord ++ (vx_atS RX4 199 "java/lang/IllegalArgumentException" ["java/lang/RuntimeException", "java/lang/Exception"]).filter goodWord ++ (vx_atS RX4 164 "java/lang/IndexOutOfBoundsException" ["java/lang/RuntimeException", "java/lang/Exception"]).filter goodWord
set_option maxRecDepth 20000 in
theorem wsL_law0_r1_in : ∀ w ∈ wsL_law0_r1, w ∈ lw_tbl := fun w h => (goodIn_p wsL_law0_r1 [103, 106] (by decide +kernel) (by decide +kernel) w h).1
set_option maxRecDepth 20000 in
theorem wsL_law0_r2_in : ∀ w ∈ wsL_law0_r2, w ∈ lw_tbl := fun w h => (goodIn_p wsL_law0_r2 [111, 126, 132] (by decide +kernel) (by decide +kernel) w h).1
set_option maxRecDepth 20000 in
theorem wsL_law0_r3_in : ∀ w ∈ wsL_law0_r3, w ∈ lw_tbl := fun w h => (goodIn_p wsL_law0_r3 [174, 178] (by decide +kernel) (by decide +kernel) w h).1
set_option maxRecDepth 20000 in
theorem wsL_law0_r4_in : ∀ w ∈ wsL_law0_r4, w ∈ lw_tbl := fun w h => (goodIn_p wsL_law0_r4 [777] (by decide +kernel) (by decide +kernel) w h).1
set_option maxRecDepth 20000 in
theorem wsL_law0_r5_in : ∀ w ∈ wsL_law0_r5, w ∈ lw_tbl := fun w h => (goodIn_p wsL_law0_r5 [283, 286, 289, 361, 381] (by decide +kernel) (by decide +kernel) w h).1
set_option maxRecDepth 20000 in
theorem wsL_law0_r6_in : ∀ w ∈ wsL_law0_r6, w ∈ lw_tbl := fun w h => (goodIn_p wsL_law0_r6 [385, 389, 392, 396, 400, 404, 408] (by decide +kernel) (by decide +kernel) w h).1
set_option maxRecDepth 20000 in
theorem wsL_law0_r7_in : ∀ w ∈ wsL_law0_r7, w ∈ lw_tbl := fun w h => (goodIn_p wsL_law0_r7 [412, 416, 420, 425, 429, 436, 439] (by decide +kernel) (by decide +kernel) w h).1
set_option maxRecDepth 20000 in
theorem wsL_law0_r8_in : ∀ w ∈ wsL_law0_r8, w ∈ lw_tbl := fun w h => (goodIn_p wsL_law0_r8 [443, 448, 841, 844, 847, 851] (by decide +kernel) (by decide +kernel) w h).1
set_option maxRecDepth 20000 in
theorem wsL_law0_r9_in : ∀ w ∈ wsL_law0_r9, w ∈ lw_tbl := fun w h => (goodIn_p wsL_law0_r9 [855, 858, 862, 866, 869, 837] (by decide +kernel) (by decide +kernel) w h).1
set_option maxRecDepth 20000 in
theorem wsL_law0_r10_in : ∀ w ∈ wsL_law0_r10, w ∈ lw_tbl := fun w h => (goodIn_p wsL_law0_r10 [455, 459, 873, 468, 472] (by decide +kernel) (by decide +kernel) w h).1
set_option maxRecDepth 20000 in
theorem wsL_law0_r11_in : ∀ w ∈ wsL_law0_r11, w ∈ lw_tbl := fun w h => (goodIn_p wsL_law0_r11 [493, 497, 501, 505, 509, 513] (by decide +kernel) (by decide +kernel) w h).1
set_option maxRecDepth 20000 in
theorem wsL_law0_r12_in : ∀ w ∈ wsL_law0_r12, w ∈ lw_tbl := fun w h => (goodIn_p wsL_law0_r12 [517, 521, 525, 530, 534, 538] (by decide +kernel) (by decide +kernel) w h).1
set_option maxRecDepth 20000 in
theorem wsL_law0_r13_in : ∀ w ∈ wsL_law0_r13, w ∈ lw_tbl := fun w h => (goodIn_p wsL_law0_r13 [877, 881, 885, 889, 893, 897] (by decide +kernel) (by decide +kernel) w h).1
set_option maxRecDepth 20000 in
theorem wsL_law0_r14_in : ∀ w ∈ wsL_law0_r14, w ∈ lw_tbl := fun w h => (goodIn_p wsL_law0_r14 [901, 545, 549, 553, 905, 909] (by decide +kernel) (by decide +kernel) w h).1
set_option maxRecDepth 20000 in
theorem wsL_law0_r15_in : ∀ w ∈ wsL_law0_r15, w ∈ lw_tbl := fun w h => (goodIn_p wsL_law0_r15 [913, 917, 921, 560, 564] (by decide +kernel) (by decide +kernel) w h).1
set_option maxRecDepth 20000 in
theorem wsL_law0_r16_in : ∀ w ∈ wsL_law0_r16, w ∈ lw_tbl := fun w h => (goodIn_p wsL_law0_r16 [568, 254, 266, 270, 576, 925, 929] (by decide +kernel) (by decide +kernel) w h).1
set_option maxRecDepth 20000 in
theorem wsL_law0_r17_in : ∀ w ∈ wsL_law0_r17, w ∈ lw_tbl := fun w h => (goodIn_p wsL_law0_r17 [933, 937, 941, 945, 583] (by decide +kernel) (by decide +kernel) w h).1
set_option maxRecDepth 20000 in
theorem wsL_law0_r18_in : ∀ w ∈ wsL_law0_r18, w ∈ lw_tbl := fun w h => (goodIn_p wsL_law0_r18 [587, 591, 596, 600, 604, 607, 611] (by decide +kernel) (by decide +kernel) w h).1
set_option maxRecDepth 20000 in
theorem wsL_law0_r19_in : ∀ w ∈ wsL_law0_r19, w ∈ lw_tbl := fun w h => (goodIn_p wsL_law0_r19 [615, 619, 623, 627, 631, 635] (by decide +kernel) (by decide +kernel) w h).1
set_option maxRecDepth 20000 in
theorem wsL_law0_r20_in : ∀ w ∈ wsL_law0_r20, w ∈ lw_tbl := fun w h => (goodIn_p wsL_law0_r20 [639, 643, 648, 949, 953, 957] (by decide +kernel) (by decide +kernel) w h).1
set_option maxRecDepth 20000 in
theorem wsL_law0_r21_in : ∀ w ∈ wsL_law0_r21, w ∈ lw_tbl := fun w h => (goodIn_p wsL_law0_r21 [961, 657, 965, 664] (by decide +kernel) (by decide +kernel) w h).1
set_option maxRecDepth 20000 in
theorem wsL_law0_r22_in : ∀ w ∈ wsL_law0_r22, w ∈ lw_tbl := fun w h => (goodIn_p wsL_law0_r22 [969, 671, 973, 977, 678] (by decide +kernel) (by decide +kernel) w h).1
set_option maxRecDepth 20000 in
theorem wsL_law0_r23_in : ∀ w ∈ wsL_law0_r23, w ∈ lw_tbl := fun w h => (goodIn_p wsL_law0_r23 [250, 981, 242, 985, 246, 989] (by decide +kernel) (by decide +kernel) w h).1
set_option maxRecDepth 20000 in
theorem wsL_law0_r24_in : ∀ w ∈ wsL_law0_r24, w ∈ lw_tbl := fun w h => (goodIn_p wsL_law0_r24 [993, 997, 687, 1001, 1005] (by decide +kernel) (by decide +kernel) w h).1
set_option maxRecDepth 20000 in
theorem wsL_law0_r25_in : ∀ w ∈ wsL_law0_r25, w ∈ lw_tbl := fun w h => (goodIn_p wsL_law0_r25 [258, 262, 1009, 1013, 1017] (by decide +kernel) (by decide +kernel) w h).1
set_option maxRecDepth 20000 in
theorem wsL_law0_r26_in : ∀ w ∈ wsL_law0_r26, w ∈ lw_tbl := fun w h => (goodIn_p wsL_law0_r26 [694, 699, 1021, 706, 1025] (by decide +kernel) (by decide +kernel) w h).1
set_option maxRecDepth 20000 in
theorem wsL_law0_r27_in : ∀ w ∈ wsL_law0_r27, w ∈ lw_tbl := fun w h => (goodIn_p wsL_law0_r27 [715, 1029, 722, 726, 730] (by decide +kernel) (by decide +kernel) w h).1
set_option maxRecDepth 20000 in
theorem wsL_law0_r28_in : ∀ w ∈ wsL_law0_r28, w ∈ lw_tbl := fun w h => (goodIn_p wsL_law0_r28 [1033, 1037, 1041, 738, 742] (by decide +kernel) (by decide +kernel) w h).1
set_option maxRecDepth 20000 in
theorem wsL_law0_r29_in : ∀ w ∈ wsL_law0_r29, w ∈ lw_tbl := fun w h => (goodIn_p wsL_law0_r29 [747, 1045, 754, 1049, 761] (by decide +kernel) (by decide +kernel) w h).1
set_option maxRecDepth 20000 in
theorem wsL_law0_r30_in : ∀ w ∈ wsL_law0_r30, w ∈ lw_tbl := fun w h => (goodIn_p wsL_law0_r30 [1053, 274, 1057, 768, 772] (by decide +kernel) (by decide +kernel) w h).1
set_option maxRecDepth 20000 in
theorem wsL_law0_r31_in : ∀ w ∈ wsL_law0_r31, w ∈ lw_tbl := fun w h => (goodIn_p wsL_law0_r31 [1061] (by decide +kernel) (by decide +kernel) w h).1
end
section
set_option maxRecDepth 20000 in
theorem wsL_law_in0 : ∀ w ∈ wsL_law0, w ∈ lw_tbl := by
  unfold wsL_law0
  exact List.forall_mem_append.mpr ⟨List.forall_mem_append.mpr ⟨List.forall_mem_append.mpr ⟨List.forall_mem_append.mpr ⟨List.forall_mem_append.mpr ⟨List.forall_mem_append.mpr ⟨List.forall_mem_append.mpr ⟨List.forall_mem_append.mpr ⟨wsL_law0_r1_in, List.forall_mem_append.mpr ⟨wsL_law0_r2_in, List.forall_mem_append.mpr ⟨wsL_law0_r3_in, List.forall_mem_append.mpr ⟨wsL_law0_r4_in, List.forall_mem_append.mpr ⟨wsL_law0_r5_in, List.forall_mem_append.mpr ⟨wsL_law0_r6_in, List.forall_mem_append.mpr ⟨wsL_law0_r7_in, List.forall_mem_append.mpr ⟨wsL_law0_r8_in, List.forall_mem_append.mpr ⟨wsL_law0_r9_in, List.forall_mem_append.mpr ⟨wsL_law0_r10_in, List.forall_mem_append.mpr ⟨wsL_law0_r11_in, List.forall_mem_append.mpr ⟨wsL_law0_r12_in, List.forall_mem_append.mpr ⟨wsL_law0_r13_in, List.forall_mem_append.mpr ⟨wsL_law0_r14_in, List.forall_mem_append.mpr ⟨wsL_law0_r15_in, List.forall_mem_append.mpr ⟨wsL_law0_r16_in, List.forall_mem_append.mpr ⟨wsL_law0_r17_in, List.forall_mem_append.mpr ⟨wsL_law0_r18_in, List.forall_mem_append.mpr ⟨wsL_law0_r19_in, List.forall_mem_append.mpr ⟨wsL_law0_r20_in, List.forall_mem_append.mpr ⟨wsL_law0_r21_in, List.forall_mem_append.mpr ⟨wsL_law0_r22_in, List.forall_mem_append.mpr ⟨wsL_law0_r23_in, List.forall_mem_append.mpr ⟨wsL_law0_r24_in, List.forall_mem_append.mpr ⟨wsL_law0_r25_in, List.forall_mem_append.mpr ⟨wsL_law0_r26_in, List.forall_mem_append.mpr ⟨wsL_law0_r27_in, List.forall_mem_append.mpr ⟨wsL_law0_r28_in, List.forall_mem_append.mpr ⟨wsL_law0_r29_in, List.forall_mem_append.mpr ⟨wsL_law0_r30_in, wsL_law0_r31_in⟩⟩⟩⟩⟩⟩⟩⟩⟩⟩⟩⟩⟩⟩⟩⟩⟩⟩⟩⟩⟩⟩⟩⟩⟩⟩⟩⟩⟩⟩, (by decide +kernel : ∀ w ∈ wsX40, w ∈ lw_tbl)⟩, (by decide +kernel : ∀ w ∈ wsX50, w ∈ lw_tbl)⟩, (by decide +kernel : ∀ w ∈ wsX20, w ∈ lw_tbl)⟩, (by decide +kernel : ∀ w ∈ wsX10, w ∈ lw_tbl)⟩, (by decide +kernel : ∀ w ∈ wsX00, w ∈ lw_tbl)⟩, (by decide +kernel : ∀ w ∈ wsX30, w ∈ lw_tbl)⟩, fun _ h => nomatch h⟩
theorem wsL_law_x0 : ∀ w ∈ (vx_atS RX4 62 "java/lang/IllegalStateException" ["java/lang/RuntimeException", "java/lang/Exception"]).filter goodWord, w ∈ lw_tbl := by decide +kernel
theorem wsL_law_x1 : ∀ w ∈ (vx_atS RX4 199 "java/lang/IllegalArgumentException" ["java/lang/RuntimeException", "java/lang/Exception"]).filter goodWord, w ∈ lw_tbl := by decide +kernel
theorem wsL_law_x2 : ∀ w ∈ (vx_atS RX4 164 "java/lang/IndexOutOfBoundsException" ["java/lang/RuntimeException", "java/lang/Exception"]).filter goodWord, w ∈ lw_tbl := by decide +kernel
theorem wsL_law_in : ∀ w ∈ wsL_law, w ∈ lw_tbl := fun w h => (List.mem_append.mp h).elim (fun h => (List.mem_append.mp h).elim (fun h => (List.mem_append.mp h).elim (fun h => wsL_law_in0 w h) (fun h => wsL_law_x0 w h)) (fun h => wsL_law_x1 w h)) (fun h => wsL_law_x2 w h)
theorem inlX0 : ∀ w ∈ wsX00, w ∈ wsL_law := fun _ h => List.mem_append_left _ (List.mem_append_left _ (List.mem_append_left _ (List.mem_append_left _ (List.mem_append_left _ (List.mem_append_right _ h)))))
theorem inX0 : ∀ w ∈ wsX00, w ∈ lw_tbl := fun w h => wsL_law_in w (inlX0 w h)
theorem inlX1 : ∀ w ∈ wsX10, w ∈ wsL_law := fun _ h => List.mem_append_left _ (List.mem_append_left _ (List.mem_append_left _ (List.mem_append_left _ (List.mem_append_left _ (List.mem_append_left _ (List.mem_append_right _ h))))))
theorem inX1 : ∀ w ∈ wsX10, w ∈ lw_tbl := fun w h => wsL_law_in w (inlX1 w h)
theorem inlX2 : ∀ w ∈ wsX20, w ∈ wsL_law := fun _ h => List.mem_append_left _ (List.mem_append_left _ (List.mem_append_left _ (List.mem_append_left _ (List.mem_append_left _ (List.mem_append_left _ (List.mem_append_left _ (List.mem_append_right _ h)))))))
theorem inX2 : ∀ w ∈ wsX20, w ∈ lw_tbl := fun w h => wsL_law_in w (inlX2 w h)
theorem inlX3 : ∀ w ∈ wsX30, w ∈ wsL_law := fun _ h => List.mem_append_left _ (List.mem_append_left _ (List.mem_append_left _ (List.mem_append_left _ (List.mem_append_right _ h))))
theorem inX3 : ∀ w ∈ wsX30, w ∈ lw_tbl := fun w h => wsL_law_in w (inlX3 w h)
theorem inlX4 : ∀ w ∈ wsX40, w ∈ wsL_law := fun _ h => List.mem_append_left _ (List.mem_append_left _ (List.mem_append_left _ (List.mem_append_left _ (List.mem_append_left _ (List.mem_append_left _ (List.mem_append_left _ (List.mem_append_left _ (List.mem_append_left _ (List.mem_append_right _ h)))))))))
theorem inX4 : ∀ w ∈ wsX40, w ∈ lw_tbl := fun w h => wsL_law_in w (inlX4 w h)
theorem inlX5 : ∀ w ∈ wsX50, w ∈ wsL_law := fun _ h => List.mem_append_left _ (List.mem_append_left _ (List.mem_append_left _ (List.mem_append_left _ (List.mem_append_left _ (List.mem_append_left _ (List.mem_append_left _ (List.mem_append_left _ (List.mem_append_right _ h))))))))
theorem inX5 : ∀ w ∈ wsX50, w ∈ lw_tbl := fun w h => wsL_law_in w (inlX5 w h)
theorem inJx145de : ∀ w ∈ wsJx145de0, w ∈ lw_tbl := by decide +kernel
theorem inJ9 : ∀ w ∈ wsJ90, w ∈ lw_tbl := by decide +kernel
theorem inJ0 : ∀ w ∈ wsJ00, w ∈ lw_tbl := by decide +kernel
theorem inJ7 : ∀ w ∈ wsJ70, w ∈ lw_tbl := by decide +kernel
end
section
set_option maxRecDepth 20000 in
theorem ggX0_init_J7_fill_53178 : GoodIn wsX0_init wsJ7_fill_53178 := goodIn_r _ [19] (by decide +kernel) (by decide +kernel)
set_option maxRecDepth 20000 in
theorem gX0_init_J7_fill_53178 : GoodIn wsX0_init (va_wsS RX0 47 yJ7_fill_53178 wsJ7_fill_53178) := goodIn_app (goodIn_of _ (by decide +kernel)) ggX0_init_J7_fill_53178
theorem dX0_init_0 : decode cX0_init 0 = .ok (.aload_n 0, 1) := by decide +kernel
theorem dX0_init_1 : decode cX0_init 1 = .ok (.invokespecial 3, 3) := by decide +kernel
theorem dX0_init_4 : decode cX0_init 4 = .ok (.aload_n 0, 1) := by decide +kernel
theorem dX0_init_5 : decode cX0_init 5 = .ok (.bipush 64, 2) := by decide +kernel
theorem dX0_init_7 : decode cX0_init 7 = .ok (.newarray .int, 2) := by decide +kernel
theorem dX0_init_9 : decode cX0_init 9 = .ok (.putfield 9, 3) := by decide +kernel
theorem dX0_init_12 : decode cX0_init 12 = .ok (.aload_n 0, 1) := by decide +kernel
theorem dX0_init_13 : decode cX0_init 13 = .ok (.iconst 0, 1) := by decide +kernel
theorem dX0_init_14 : decode cX0_init 14 = .ok (.putfield 15, 3) := by decide +kernel
theorem dX0_init_17 : decode cX0_init 17 = .ok (.aload_n 0, 1) := by decide +kernel
theorem dX0_init_18 : decode cX0_init 18 = .ok (.iconst 0, 1) := by decide +kernel
theorem dX0_init_19 : decode cX0_init 19 = .ok (.putfield 19, 3) := by decide +kernel
theorem dX0_init_22 : decode cX0_init 22 = .ok (.aload_n 0, 1) := by decide +kernel
theorem dX0_init_23 : decode cX0_init 23 = .ok (.iconst 0, 1) := by decide +kernel
theorem dX0_init_24 : decode cX0_init 24 = .ok (.putfield 23, 3) := by decide +kernel
theorem dX0_init_27 : decode cX0_init 27 = .ok (.aload_n 0, 1) := by decide +kernel
theorem dX0_init_28 : decode cX0_init 28 = .ok (.iconst 0, 1) := by decide +kernel
theorem dX0_init_29 : decode cX0_init 29 = .ok (.putfield 26, 3) := by decide +kernel
theorem dX0_init_32 : decode cX0_init 32 = .ok (.aload_n 0, 1) := by decide +kernel
theorem dX0_init_33 : decode cX0_init 33 = .ok (.iconst 0, 1) := by decide +kernel
theorem dX0_init_34 : decode cX0_init 34 = .ok (.putfield 29, 3) := by decide +kernel
theorem dX0_init_37 : decode cX0_init 37 = .ok (.aload_n 0, 1) := by decide +kernel
theorem dX0_init_38 : decode cX0_init 38 = .ok (.iconst 0, 1) := by decide +kernel
theorem dX0_init_39 : decode cX0_init 39 = .ok (.putfield 32, 3) := by decide +kernel
theorem dX0_init_42 : decode cX0_init 42 = .ok (.aload_n 0, 1) := by decide +kernel
theorem dX0_init_43 : decode cX0_init 43 = .ok (.iconst 0, 1) := by decide +kernel
theorem dX0_init_44 : decode cX0_init 44 = .ok (.putfield 35, 3) := by decide +kernel
theorem dX0_init_47 : decode cX0_init 47 = .ok (.aload_n 0, 1) := by decide +kernel
theorem dX0_init_48 : decode cX0_init 48 = .ok (.iconst 0, 1) := by decide +kernel
theorem dX0_init_49 : decode cX0_init 49 = .ok (.putfield 38, 3) := by decide +kernel
theorem dX0_init_52 : decode cX0_init 52 = .ok (.aload_n 0, 1) := by decide +kernel
theorem dX0_init_53 : decode cX0_init 53 = .ok (.iconst 0, 1) := by decide +kernel
theorem dX0_init_54 : decode cX0_init 54 = .ok (.putfield 41, 3) := by decide +kernel
theorem dX0_init_57 : decode cX0_init 57 = .ok (.aload_n 0, 1) := by decide +kernel
theorem dX0_init_58 : decode cX0_init 58 = .ok (.iload_n 1, 1) := by decide +kernel
theorem dX0_init_59 : decode cX0_init 59 = .ok (.putfield 44, 3) := by decide +kernel
theorem dX0_init_62 : decode cX0_init 62 = .ok (.aload_n 0, 1) := by decide +kernel
theorem dX0_init_63 : decode cX0_init 63 = .ok (.getfield 9, 3) := by decide +kernel
theorem dX0_init_66 : decode cX0_init 66 = .ok (.iconst (-1), 1) := by decide +kernel
theorem dX0_init_67 : decode cX0_init 67 = .ok (.invokestatic 47, 3) := by decide +kernel
theorem dX0_init_70 : decode cX0_init 70 = .ok (.return_, 1) := by decide +kernel
theorem dX0_begin_0 : decode cX0_begin 0 = .ok (.aload_n 0, 1) := by decide +kernel
theorem dX0_begin_1 : decode cX0_begin 1 = .ok (.iconst 1, 1) := by decide +kernel
theorem dX0_begin_2 : decode cX0_begin 2 = .ok (.putfield 15, 3) := by decide +kernel
theorem dX0_begin_5 : decode cX0_begin 5 = .ok (.return_, 1) := by decide +kernel
theorem dX0_isMapped_0 : decode cX0_isMapped 0 = .ok (.iload_n 1, 1) := by decide +kernel
theorem dX0_isMapped_1 : decode cX0_isMapped 1 = .ok (.ifCond .lt 22, 3) := by decide +kernel
theorem dX0_isMapped_4 : decode cX0_isMapped 4 = .ok (.iload_n 1, 1) := by decide +kernel
theorem dX0_isMapped_5 : decode cX0_isMapped 5 = .ok (.bipush 64, 2) := by decide +kernel
theorem dX0_isMapped_7 : decode cX0_isMapped 7 = .ok (.if_icmp .ge 16, 3) := by decide +kernel
theorem dX0_isMapped_10 : decode cX0_isMapped 10 = .ok (.aload_n 0, 1) := by decide +kernel
theorem dX0_isMapped_11 : decode cX0_isMapped 11 = .ok (.getfield 9, 3) := by decide +kernel
theorem dX0_isMapped_14 : decode cX0_isMapped 14 = .ok (.iload_n 1, 1) := by decide +kernel
theorem dX0_isMapped_15 : decode cX0_isMapped 15 = .ok (.iaload, 1) := by decide +kernel
theorem dX0_isMapped_16 : decode cX0_isMapped 16 = .ok (.ifCond .lt 7, 3) := by decide +kernel
theorem dX0_isMapped_19 : decode cX0_isMapped 19 = .ok (.iconst 1, 1) := by decide +kernel
theorem dX0_isMapped_20 : decode cX0_isMapped 20 = .ok (.goto 4, 3) := by decide +kernel
theorem dX0_isMapped_23 : decode cX0_isMapped 23 = .ok (.iconst 0, 1) := by decide +kernel
theorem dX0_isMapped_24 : decode cX0_isMapped 24 = .ok (.ireturn, 1) := by decide +kernel
theorem dX0_isReserved_0 : decode cX0_isReserved 0 = .ok (.iload_n 1, 1) := by decide +kernel
theorem dX0_isReserved_1 : decode cX0_isReserved 1 = .ok (.ifCond .lt 24, 3) := by decide +kernel
theorem dX0_isReserved_4 : decode cX0_isReserved 4 = .ok (.iload_n 1, 1) := by decide +kernel
theorem dX0_isReserved_5 : decode cX0_isReserved 5 = .ok (.bipush 64, 2) := by decide +kernel
theorem dX0_isReserved_7 : decode cX0_isReserved 7 = .ok (.if_icmp .ge 18, 3) := by decide +kernel
theorem dX0_isReserved_10 : decode cX0_isReserved 10 = .ok (.aload_n 0, 1) := by decide +kernel
theorem dX0_isReserved_11 : decode cX0_isReserved 11 = .ok (.getfield 9, 3) := by decide +kernel
theorem dX0_isReserved_14 : decode cX0_isReserved 14 = .ok (.iload_n 1, 1) := by decide +kernel
theorem dX0_isReserved_15 : decode cX0_isReserved 15 = .ok (.iaload, 1) := by decide +kernel
theorem dX0_isReserved_16 : decode cX0_isReserved 16 = .ok (.bipush (-2), 2) := by decide +kernel
theorem dX0_isReserved_18 : decode cX0_isReserved 18 = .ok (.if_icmp .ne 7, 3) := by decide +kernel
theorem dX0_isReserved_21 : decode cX0_isReserved 21 = .ok (.iconst 1, 1) := by decide +kernel
theorem dX0_isReserved_22 : decode cX0_isReserved 22 = .ok (.goto 4, 3) := by decide +kernel
theorem dX0_isReserved_25 : decode cX0_isReserved 25 = .ok (.iconst 0, 1) := by decide +kernel
theorem dX0_isReserved_26 : decode cX0_isReserved 26 = .ok (.ireturn, 1) := by decide +kernel
set_option maxRecDepth 20000 in
theorem ggX0_endOfReserved_X0_isReserved : GoodIn wsX0_endOfReserved wsX0_isReserved := goodIn_r _ [5, 6, 7, 8, 9, 10, 11, 12, 13, 14, 15, 16, 17] (by decide +kernel) (by decide +kernel)
set_option maxRecDepth 20000 in
theorem gX0_endOfReserved_X0_isReserved : GoodIn wsX0_endOfReserved (wsV RX0 53 RX0 yX0_isReserved wsX0_isReserved) := goodIn_app (goodIn_of _ (by decide +kernel)) ggX0_endOfReserved_X0_isReserved
theorem dX0_endOfReserved_0 : decode cX0_endOfReserved 0 = .ok (.iload_n 1, 1) := by decide +kernel
theorem dX0_endOfReserved_1 : decode cX0_endOfReserved 1 = .ok (.istore_n 2, 1) := by decide +kernel
theorem dX0_endOfReserved_2 : decode cX0_endOfReserved 2 = .ok (.iload_n 2, 1) := by decide +kernel
theorem dX0_endOfReserved_3 : decode cX0_endOfReserved 3 = .ok (.bipush 64, 2) := by decide +kernel
theorem dX0_endOfReserved_5 : decode cX0_endOfReserved 5 = .ok (.if_icmp .ge 17, 3) := by decide +kernel
theorem dX0_endOfReserved_8 : decode cX0_endOfReserved 8 = .ok (.aload_n 0, 1) := by decide +kernel
theorem dX0_endOfReserved_9 : decode cX0_endOfReserved 9 = .ok (.iload_n 2, 1) := by decide +kernel
theorem dX0_endOfReserved_10 : decode cX0_endOfReserved 10 = .ok (.invokevirtual 53, 3) := by decide +kernel
theorem dX0_endOfReserved_13 : decode cX0_endOfReserved 13 = .ok (.ifCond .eq 9, 3) := by decide +kernel
theorem dX0_endOfReserved_16 : decode cX0_endOfReserved 16 = .ok (.iinc 2 1, 3) := by decide +kernel
theorem dX0_endOfReserved_19 : decode cX0_endOfReserved 19 = .ok (.goto (-17), 3) := by decide +kernel
theorem dX0_endOfReserved_22 : decode cX0_endOfReserved 22 = .ok (.iload_n 2, 1) := by decide +kernel
theorem dX0_endOfReserved_23 : decode cX0_endOfReserved 23 = .ok (.ireturn, 1) := by decide +kernel
theorem dX0_emptyPlaces_0 : decode cX0_emptyPlaces 0 = .ok (.iconst 0, 1) := by decide +kernel
theorem dX0_emptyPlaces_1 : decode cX0_emptyPlaces 1 = .ok (.istore_n 3, 1) := by decide +kernel
theorem dX0_emptyPlaces_2 : decode cX0_emptyPlaces 2 = .ok (.iload_n 1, 1) := by decide +kernel
theorem dX0_emptyPlaces_3 : decode cX0_emptyPlaces 3 = .ok (.istore 4, 2) := by decide +kernel
theorem dX0_emptyPlaces_5 : decode cX0_emptyPlaces 5 = .ok (.iload 4, 2) := by decide +kernel
theorem dX0_emptyPlaces_7 : decode cX0_emptyPlaces 7 = .ok (.iload_n 2, 1) := by decide +kernel
theorem dX0_emptyPlaces_8 : decode cX0_emptyPlaces 8 = .ok (.if_icmp .ge 35, 3) := by decide +kernel
theorem dX0_emptyPlaces_11 : decode cX0_emptyPlaces 11 = .ok (.iload 4, 2) := by decide +kernel
theorem dX0_emptyPlaces_13 : decode cX0_emptyPlaces 13 = .ok (.bipush 64, 2) := by decide +kernel
theorem dX0_emptyPlaces_15 : decode cX0_emptyPlaces 15 = .ok (.if_icmp .ge 28, 3) := by decide +kernel
theorem dX0_emptyPlaces_18 : decode cX0_emptyPlaces 18 = .ok (.iload_n 3, 1) := by decide +kernel
theorem dX0_emptyPlaces_19 : decode cX0_emptyPlaces 19 = .ok (.aload_n 0, 1) := by decide +kernel
theorem dX0_emptyPlaces_20 : decode cX0_emptyPlaces 20 = .ok (.getfield 9, 3) := by decide +kernel
theorem dX0_emptyPlaces_23 : decode cX0_emptyPlaces 23 = .ok (.iload 4, 2) := by decide +kernel
theorem dX0_emptyPlaces_25 : decode cX0_emptyPlaces 25 = .ok (.iaload, 1) := by decide +kernel
theorem dX0_emptyPlaces_26 : decode cX0_emptyPlaces 26 = .ok (.iconst (-1), 1) := by decide +kernel
theorem dX0_emptyPlaces_27 : decode cX0_emptyPlaces 27 = .ok (.if_icmp .ne 7, 3) := by decide +kernel
theorem dX0_emptyPlaces_30 : decode cX0_emptyPlaces 30 = .ok (.iconst 1, 1) := by decide +kernel
theorem dX0_emptyPlaces_31 : decode cX0_emptyPlaces 31 = .ok (.goto 4, 3) := by decide +kernel
theorem dX0_emptyPlaces_34 : decode cX0_emptyPlaces 34 = .ok (.iconst 0, 1) := by decide +kernel
theorem dX0_emptyPlaces_35 : decode cX0_emptyPlaces 35 = .ok (.iadd, 1) := by decide +kernel
theorem dX0_emptyPlaces_36 : decode cX0_emptyPlaces 36 = .ok (.istore_n 3, 1) := by decide +kernel
theorem dX0_emptyPlaces_37 : decode cX0_emptyPlaces 37 = .ok (.iinc 4 1, 3) := by decide +kernel
theorem dX0_emptyPlaces_40 : decode cX0_emptyPlaces 40 = .ok (.goto (-35), 3) := by decide +kernel
theorem dX0_emptyPlaces_43 : decode cX0_emptyPlaces 43 = .ok (.iload_n 3, 1) := by decide +kernel
theorem dX0_emptyPlaces_44 : decode cX0_emptyPlaces 44 = .ok (.ireturn, 1) := by decide +kernel
theorem dX0_reserve_0 : decode cX0_reserve 0 = .ok (.iload_n 1, 1) := by decide +kernel
theorem dX0_reserve_1 : decode cX0_reserve 1 = .ok (.istore_n 3, 1) := by decide +kernel
theorem dX0_reserve_2 : decode cX0_reserve 2 = .ok (.iload_n 3, 1) := by decide +kernel
theorem dX0_reserve_3 : decode cX0_reserve 3 = .ok (.iload_n 2, 1) := by decide +kernel
theorem dX0_reserve_4 : decode cX0_reserve 4 = .ok (.if_icmp .ge 43, 3) := by decide +kernel
theorem dX0_reserve_7 : decode cX0_reserve 7 = .ok (.iload_n 3, 1) := by decide +kernel
theorem dX0_reserve_8 : decode cX0_reserve 8 = .ok (.bipush 64, 2) := by decide +kernel
theorem dX0_reserve_10 : decode cX0_reserve 10 = .ok (.if_icmp .ge 37, 3) := by decide +kernel
theorem dX0_reserve_13 : decode cX0_reserve 13 = .ok (.aload_n 0, 1) := by decide +kernel
theorem dX0_reserve_14 : decode cX0_reserve 14 = .ok (.getfield 9, 3) := by decide +kernel
theorem dX0_reserve_17 : decode cX0_reserve 17 = .ok (.iload_n 3, 1) := by decide +kernel
theorem dX0_reserve_18 : decode cX0_reserve 18 = .ok (.iaload, 1) := by decide +kernel
theorem dX0_reserve_19 : decode cX0_reserve 19 = .ok (.iconst (-1), 1) := by decide +kernel
theorem dX0_reserve_20 : decode cX0_reserve 20 = .ok (.if_icmp .ne 21, 3) := by decide +kernel
theorem dX0_reserve_23 : decode cX0_reserve 23 = .ok (.aload_n 0, 1) := by decide +kernel
theorem dX0_reserve_24 : decode cX0_reserve 24 = .ok (.getfield 9, 3) := by decide +kernel
theorem dX0_reserve_27 : decode cX0_reserve 27 = .ok (.iload_n 3, 1) := by decide +kernel
theorem dX0_reserve_28 : decode cX0_reserve 28 = .ok (.bipush (-2), 2) := by decide +kernel
theorem dX0_reserve_30 : decode cX0_reserve 30 = .ok (.iastore, 1) := by decide +kernel
theorem dX0_reserve_31 : decode cX0_reserve 31 = .ok (.aload_n 0, 1) := by decide +kernel
theorem dX0_reserve_32 : decode cX0_reserve 32 = .ok (.dup, 1) := by decide +kernel
theorem dX0_reserve_33 : decode cX0_reserve 33 = .ok (.getfield 23, 3) := by decide +kernel
theorem dX0_reserve_36 : decode cX0_reserve 36 = .ok (.iconst 1, 1) := by decide +kernel
theorem dX0_reserve_37 : decode cX0_reserve 37 = .ok (.iadd, 1) := by decide +kernel
theorem dX0_reserve_38 : decode cX0_reserve 38 = .ok (.putfield 23, 3) := by decide +kernel
theorem dX0_reserve_41 : decode cX0_reserve 41 = .ok (.iinc 3 1, 3) := by decide +kernel
theorem dX0_reserve_44 : decode cX0_reserve 44 = .ok (.goto (-42), 3) := by decide +kernel
theorem dX0_reserve_47 : decode cX0_reserve 47 = .ok (.return_, 1) := by decide +kernel
theorem dX0_dropReserved_0 : decode cX0_dropReserved 0 = .ok (.iload_n 1, 1) := by decide +kernel
theorem dX0_dropReserved_1 : decode cX0_dropReserved 1 = .ok (.istore_n 2, 1) := by decide +kernel
theorem dX0_dropReserved_2 : decode cX0_dropReserved 2 = .ok (.iload_n 2, 1) := by decide +kernel
theorem dX0_dropReserved_3 : decode cX0_dropReserved 3 = .ok (.bipush 64, 2) := by decide +kernel
theorem dX0_dropReserved_5 : decode cX0_dropReserved 5 = .ok (.if_icmp .ge 37, 3) := by decide +kernel
theorem dX0_dropReserved_8 : decode cX0_dropReserved 8 = .ok (.aload_n 0, 1) := by decide +kernel
theorem dX0_dropReserved_9 : decode cX0_dropReserved 9 = .ok (.getfield 9, 3) := by decide +kernel
theorem dX0_dropReserved_12 : decode cX0_dropReserved 12 = .ok (.iload_n 2, 1) := by decide +kernel
theorem dX0_dropReserved_13 : decode cX0_dropReserved 13 = .ok (.iaload, 1) := by decide +kernel
theorem dX0_dropReserved_14 : decode cX0_dropReserved 14 = .ok (.bipush (-2), 2) := by decide +kernel
theorem dX0_dropReserved_16 : decode cX0_dropReserved 16 = .ok (.if_icmp .ne 20, 3) := by decide +kernel
theorem dX0_dropReserved_19 : decode cX0_dropReserved 19 = .ok (.aload_n 0, 1) := by decide +kernel
theorem dX0_dropReserved_20 : decode cX0_dropReserved 20 = .ok (.getfield 9, 3) := by decide +kernel
theorem dX0_dropReserved_23 : decode cX0_dropReserved 23 = .ok (.iload_n 2, 1) := by decide +kernel
theorem dX0_dropReserved_24 : decode cX0_dropReserved 24 = .ok (.iconst (-1), 1) := by decide +kernel
theorem dX0_dropReserved_25 : decode cX0_dropReserved 25 = .ok (.iastore, 1) := by decide +kernel
theorem dX0_dropReserved_26 : decode cX0_dropReserved 26 = .ok (.aload_n 0, 1) := by decide +kernel
theorem dX0_dropReserved_27 : decode cX0_dropReserved 27 = .ok (.dup, 1) := by decide +kernel
theorem dX0_dropReserved_28 : decode cX0_dropReserved 28 = .ok (.getfield 23, 3) := by decide +kernel
theorem dX0_dropReserved_31 : decode cX0_dropReserved 31 = .ok (.iconst 1, 1) := by decide +kernel
theorem dX0_dropReserved_32 : decode cX0_dropReserved 32 = .ok (.isub, 1) := by decide +kernel
theorem dX0_dropReserved_33 : decode cX0_dropReserved 33 = .ok (.putfield 23, 3) := by decide +kernel
theorem dX0_dropReserved_36 : decode cX0_dropReserved 36 = .ok (.iinc 2 1, 3) := by decide +kernel
theorem dX0_dropReserved_39 : decode cX0_dropReserved 39 = .ok (.goto (-37), 3) := by decide +kernel
theorem dX0_dropReserved_42 : decode cX0_dropReserved 42 = .ok (.return_, 1) := by decide +kernel
theorem dX0_map_0 : decode cX0_map 0 = .ok (.iconst 0, 1) := by decide +kernel
theorem dX0_map_1 : decode cX0_map 1 = .ok (.istore 4, 2) := by decide +kernel
theorem dX0_map_3 : decode cX0_map 3 = .ok (.iload 4, 2) := by decide +kernel
theorem dX0_map_5 : decode cX0_map 5 = .ok (.iload_n 3, 1) := by decide +kernel
theorem dX0_map_6 : decode cX0_map 6 = .ok (.if_icmp .ge 41, 3) := by decide +kernel
theorem dX0_map_9 : decode cX0_map 9 = .ok (.iload_n 1, 1) := by decide +kernel
theorem dX0_map_10 : decode cX0_map 10 = .ok (.iload 4, 2) := by decide +kernel
theorem dX0_map_12 : decode cX0_map 12 = .ok (.iadd, 1) := by decide +kernel
theorem dX0_map_13 : decode cX0_map 13 = .ok (.bipush 64, 2) := by decide +kernel
theorem dX0_map_15 : decode cX0_map 15 = .ok (.if_icmp .ge 32, 3) := by decide +kernel
theorem dX0_map_18 : decode cX0_map 18 = .ok (.aload_n 0, 1) := by decide +kernel
theorem dX0_map_19 : decode cX0_map 19 = .ok (.getfield 9, 3) := by decide +kernel
theorem dX0_map_22 : decode cX0_map 22 = .ok (.iload_n 1, 1) := by decide +kernel
theorem dX0_map_23 : decode cX0_map 23 = .ok (.iload 4, 2) := by decide +kernel
theorem dX0_map_25 : decode cX0_map 25 = .ok (.iadd, 1) := by decide +kernel
theorem dX0_map_26 : decode cX0_map 26 = .ok (.iload_n 2, 1) := by decide +kernel
theorem dX0_map_27 : decode cX0_map 27 = .ok (.iload 4, 2) := by decide +kernel
theorem dX0_map_29 : decode cX0_map 29 = .ok (.iadd, 1) := by decide +kernel
theorem dX0_map_30 : decode cX0_map 30 = .ok (.iastore, 1) := by decide +kernel
theorem dX0_map_31 : decode cX0_map 31 = .ok (.aload_n 0, 1) := by decide +kernel
theorem dX0_map_32 : decode cX0_map 32 = .ok (.dup, 1) := by decide +kernel
theorem dX0_map_33 : decode cX0_map 33 = .ok (.getfield 23, 3) := by decide +kernel
theorem dX0_map_36 : decode cX0_map 36 = .ok (.iconst 1, 1) := by decide +kernel
theorem dX0_map_37 : decode cX0_map 37 = .ok (.isub, 1) := by decide +kernel
theorem dX0_map_38 : decode cX0_map 38 = .ok (.putfield 23, 3) := by decide +kernel
theorem dX0_map_41 : decode cX0_map 41 = .ok (.iinc 4 1, 3) := by decide +kernel
theorem dX0_map_44 : decode cX0_map 44 = .ok (.goto (-41), 3) := by decide +kernel
theorem dX0_map_47 : decode cX0_map 47 = .ok (.return_, 1) := by decide +kernel
theorem dX0_keep_0 : decode cX0_keep 0 = .ok (.aload_n 0, 1) := by decide +kernel
theorem dX0_keep_1 : decode cX0_keep 1 = .ok (.iload_n 1, 1) := by decide +kernel
theorem dX0_keep_2 : decode cX0_keep 2 = .ok (.putfield 26, 3) := by decide +kernel
theorem dX0_keep_5 : decode cX0_keep 5 = .ok (.aload_n 0, 1) := by decide +kernel
theorem dX0_keep_6 : decode cX0_keep 6 = .ok (.iload_n 2, 1) := by decide +kernel
theorem dX0_keep_7 : decode cX0_keep 7 = .ok (.putfield 29, 3) := by decide +kernel
theorem dX0_keep_10 : decode cX0_keep 10 = .ok (.aload_n 0, 1) := by decide +kernel
theorem dX0_keep_11 : decode cX0_keep 11 = .ok (.iload_n 3, 1) := by decide +kernel
theorem dX0_keep_12 : decode cX0_keep 12 = .ok (.putfield 32, 3) := by decide +kernel
theorem dX0_keep_15 : decode cX0_keep 15 = .ok (.return_, 1) := by decide +kernel
theorem dX0_isKeptFor_0 : decode cX0_isKeptFor 0 = .ok (.aload_n 0, 1) := by decide +kernel
theorem dX0_isKeptFor_1 : decode cX0_isKeptFor 1 = .ok (.getfield 32, 3) := by decide +kernel
theorem dX0_isKeptFor_4 : decode cX0_isKeptFor 4 = .ok (.ifCond .le 15, 3) := by decide +kernel
theorem dX0_isKeptFor_7 : decode cX0_isKeptFor 7 = .ok (.aload_n 0, 1) := by decide +kernel
theorem dX0_isKeptFor_8 : decode cX0_isKeptFor 8 = .ok (.getfield 26, 3) := by decide +kernel
theorem dX0_isKeptFor_11 : decode cX0_isKeptFor 11 = .ok (.iload_n 1, 1) := by decide +kernel
theorem dX0_isKeptFor_12 : decode cX0_isKeptFor 12 = .ok (.if_icmp .ne 7, 3) := by decide +kernel
theorem dX0_isKeptFor_15 : decode cX0_isKeptFor 15 = .ok (.iconst 1, 1) := by decide +kernel
theorem dX0_isKeptFor_16 : decode cX0_isKeptFor 16 = .ok (.goto 4, 3) := by decide +kernel
theorem dX0_isKeptFor_19 : decode cX0_isKeptFor 19 = .ok (.iconst 0, 1) := by decide +kernel
theorem dX0_isKeptFor_20 : decode cX0_isKeptFor 20 = .ok (.ireturn, 1) := by decide +kernel
set_option maxRecDepth 20000 in
theorem ggX0_mapKept_X0_map : GoodIn wsX0_mapKept wsX0_map := goodIn_r _ [11, 12, 13, 19, 20, 21, 22, 23, 24, 25, 26, 27, 28, 29] (by decide +kernel) (by decide +kernel)
set_option maxRecDepth 20000 in
theorem gX0_mapKept_X0_map : GoodIn wsX0_mapKept (wsV RX0 63 RX0 yX0_map wsX0_map) := goodIn_app (goodIn_of _ (by decide +kernel)) ggX0_mapKept_X0_map
set_option maxRecDepth 20000 in
theorem ggX0_mapKept_X0_keep : GoodIn wsX0_mapKept wsX0_keep := goodIn_r _ [17, 18, 6, 1, 19, 20, 21, 22, 23, 24, 25, 26, 27, 28, 29] (by decide +kernel) (by decide +kernel)
set_option maxRecDepth 20000 in
theorem gX0_mapKept_X0_keep : GoodIn wsX0_mapKept (wsV RX0 67 RX0 yX0_keep wsX0_keep) := goodIn_app (goodIn_of _ (by decide +kernel)) ggX0_mapKept_X0_keep
theorem dX0_mapKept_0 : decode cX0_mapKept 0 = .ok (.aload_n 0, 1) := by decide +kernel
theorem dX0_mapKept_1 : decode cX0_mapKept 1 = .ok (.getfield 32, 3) := by decide +kernel
theorem dX0_mapKept_4 : decode cX0_mapKept 4 = .ok (.iload_n 2, 1) := by decide +kernel
theorem dX0_mapKept_5 : decode cX0_mapKept 5 = .ok (.invokestatic 57, 3) := by decide +kernel
theorem dX0_mapKept_8 : decode cX0_mapKept 8 = .ok (.istore_n 3, 1) := by decide +kernel
theorem dX0_mapKept_9 : decode cX0_mapKept 9 = .ok (.aload_n 0, 1) := by decide +kernel
theorem dX0_mapKept_10 : decode cX0_mapKept 10 = .ok (.iload_n 1, 1) := by decide +kernel
theorem dX0_mapKept_11 : decode cX0_mapKept 11 = .ok (.aload_n 0, 1) := by decide +kernel
theorem dX0_mapKept_12 : decode cX0_mapKept 12 = .ok (.getfield 29, 3) := by decide +kernel
theorem dX0_mapKept_15 : decode cX0_mapKept 15 = .ok (.iload_n 3, 1) := by decide +kernel
theorem dX0_mapKept_16 : decode cX0_mapKept 16 = .ok (.invokevirtual 63, 3) := by decide +kernel
theorem dX0_mapKept_19 : decode cX0_mapKept 19 = .ok (.aload_n 0, 1) := by decide +kernel
theorem dX0_mapKept_20 : decode cX0_mapKept 20 = .ok (.iload_n 1, 1) := by decide +kernel
theorem dX0_mapKept_21 : decode cX0_mapKept 21 = .ok (.iload_n 3, 1) := by decide +kernel
theorem dX0_mapKept_22 : decode cX0_mapKept 22 = .ok (.iadd, 1) := by decide +kernel
theorem dX0_mapKept_23 : decode cX0_mapKept 23 = .ok (.aload_n 0, 1) := by decide +kernel
theorem dX0_mapKept_24 : decode cX0_mapKept 24 = .ok (.getfield 29, 3) := by decide +kernel
theorem dX0_mapKept_27 : decode cX0_mapKept 27 = .ok (.iload_n 3, 1) := by decide +kernel
theorem dX0_mapKept_28 : decode cX0_mapKept 28 = .ok (.iadd, 1) := by decide +kernel
theorem dX0_mapKept_29 : decode cX0_mapKept 29 = .ok (.aload_n 0, 1) := by decide +kernel
theorem dX0_mapKept_30 : decode cX0_mapKept 30 = .ok (.getfield 32, 3) := by decide +kernel
theorem dX0_mapKept_33 : decode cX0_mapKept 33 = .ok (.iload_n 3, 1) := by decide +kernel
theorem dX0_mapKept_34 : decode cX0_mapKept 34 = .ok (.isub, 1) := by decide +kernel
theorem dX0_mapKept_35 : decode cX0_mapKept 35 = .ok (.invokevirtual 67, 3) := by decide +kernel
theorem dX0_mapKept_38 : decode cX0_mapKept 38 = .ok (.iload_n 3, 1) := by decide +kernel
theorem dX0_mapKept_39 : decode cX0_mapKept 39 = .ok (.ireturn, 1) := by decide +kernel
theorem dX0_mappedPlaces_0 : decode cX0_mappedPlaces 0 = .ok (.iconst 0, 1) := by decide +kernel
theorem dX0_mappedPlaces_1 : decode cX0_mappedPlaces 1 = .ok (.istore_n 1, 1) := by decide +kernel
theorem dX0_mappedPlaces_2 : decode cX0_mappedPlaces 2 = .ok (.iconst 0, 1) := by decide +kernel
theorem dX0_mappedPlaces_3 : decode cX0_mappedPlaces 3 = .ok (.istore_n 2, 1) := by decide +kernel
theorem dX0_mappedPlaces_4 : decode cX0_mappedPlaces 4 = .ok (.iload_n 2, 1) := by decide +kernel
theorem dX0_mappedPlaces_5 : decode cX0_mappedPlaces 5 = .ok (.bipush 64, 2) := by decide +kernel
theorem dX0_mappedPlaces_7 : decode cX0_mappedPlaces 7 = .ok (.if_icmp .ge 26, 3) := by decide +kernel
theorem dX0_mappedPlaces_10 : decode cX0_mappedPlaces 10 = .ok (.iload_n 1, 1) := by decide +kernel
theorem dX0_mappedPlaces_11 : decode cX0_mappedPlaces 11 = .ok (.aload_n 0, 1) := by decide +kernel
theorem dX0_mappedPlaces_12 : decode cX0_mappedPlaces 12 = .ok (.getfield 9, 3) := by decide +kernel
theorem dX0_mappedPlaces_15 : decode cX0_mappedPlaces 15 = .ok (.iload_n 2, 1) := by decide +kernel
theorem dX0_mappedPlaces_16 : decode cX0_mappedPlaces 16 = .ok (.iaload, 1) := by decide +kernel
theorem dX0_mappedPlaces_17 : decode cX0_mappedPlaces 17 = .ok (.ifCond .lt 7, 3) := by decide +kernel
theorem dX0_mappedPlaces_20 : decode cX0_mappedPlaces 20 = .ok (.iconst 1, 1) := by decide +kernel
theorem dX0_mappedPlaces_21 : decode cX0_mappedPlaces 21 = .ok (.goto 4, 3) := by decide +kernel
theorem dX0_mappedPlaces_24 : decode cX0_mappedPlaces 24 = .ok (.iconst 0, 1) := by decide +kernel
theorem dX0_mappedPlaces_25 : decode cX0_mappedPlaces 25 = .ok (.iadd, 1) := by decide +kernel
theorem dX0_mappedPlaces_26 : decode cX0_mappedPlaces 26 = .ok (.istore_n 1, 1) := by decide +kernel
theorem dX0_mappedPlaces_27 : decode cX0_mappedPlaces 27 = .ok (.iinc 2 1, 3) := by decide +kernel
theorem dX0_mappedPlaces_30 : decode cX0_mappedPlaces 30 = .ok (.goto (-26), 3) := by decide +kernel
theorem dX0_mappedPlaces_33 : decode cX0_mappedPlaces 33 = .ok (.iload_n 1, 1) := by decide +kernel
theorem dX0_mappedPlaces_34 : decode cX0_mappedPlaces 34 = .ok (.ireturn, 1) := by decide +kernel
set_option maxRecDepth 20000 in
theorem ggX0_joinsAhead_X0_isMapped : GoodIn wsX0_joinsAhead wsX0_isMapped := goodIn_r _ [6, 1, 7, 8, 9, 10, 11, 12, 13, 14, 15, 16, 17] (by decide +kernel) (by decide +kernel)
set_option maxRecDepth 20000 in
theorem gX0_joinsAhead_X0_isMapped : GoodIn wsX0_joinsAhead (wsV RX0 70 RX0 yX0_isMapped wsX0_isMapped) := goodIn_app (goodIn_of _ (by decide +kernel)) ggX0_joinsAhead_X0_isMapped
theorem dX0_joinsAhead_0 : decode cX0_joinsAhead 0 = .ok (.aload_n 0, 1) := by decide +kernel
theorem dX0_joinsAhead_1 : decode cX0_joinsAhead 1 = .ok (.iload_n 1, 1) := by decide +kernel
theorem dX0_joinsAhead_2 : decode cX0_joinsAhead 2 = .ok (.invokevirtual 70, 3) := by decide +kernel
theorem dX0_joinsAhead_5 : decode cX0_joinsAhead 5 = .ok (.ifCond .eq 36, 3) := by decide +kernel
theorem dX0_joinsAhead_8 : decode cX0_joinsAhead 8 = .ok (.aload_n 0, 1) := by decide +kernel
theorem dX0_joinsAhead_9 : decode cX0_joinsAhead 9 = .ok (.iload_n 1, 1) := by decide +kernel
theorem dX0_joinsAhead_10 : decode cX0_joinsAhead 10 = .ok (.iconst 1, 1) := by decide +kernel
theorem dX0_joinsAhead_11 : decode cX0_joinsAhead 11 = .ok (.isub, 1) := by decide +kernel
theorem dX0_joinsAhead_12 : decode cX0_joinsAhead 12 = .ok (.invokevirtual 70, 3) := by decide +kernel
theorem dX0_joinsAhead_15 : decode cX0_joinsAhead 15 = .ok (.ifCond .eq 26, 3) := by decide +kernel
theorem dX0_joinsAhead_18 : decode cX0_joinsAhead 18 = .ok (.aload_n 0, 1) := by decide +kernel
theorem dX0_joinsAhead_19 : decode cX0_joinsAhead 19 = .ok (.getfield 9, 3) := by decide +kernel
theorem dX0_joinsAhead_22 : decode cX0_joinsAhead 22 = .ok (.iload_n 1, 1) := by decide +kernel
theorem dX0_joinsAhead_23 : decode cX0_joinsAhead 23 = .ok (.iaload, 1) := by decide +kernel
theorem dX0_joinsAhead_24 : decode cX0_joinsAhead 24 = .ok (.aload_n 0, 1) := by decide +kernel
theorem dX0_joinsAhead_25 : decode cX0_joinsAhead 25 = .ok (.getfield 9, 3) := by decide +kernel
theorem dX0_joinsAhead_28 : decode cX0_joinsAhead 28 = .ok (.iload_n 1, 1) := by decide +kernel
theorem dX0_joinsAhead_29 : decode cX0_joinsAhead 29 = .ok (.iconst 1, 1) := by decide +kernel
theorem dX0_joinsAhead_30 : decode cX0_joinsAhead 30 = .ok (.isub, 1) := by decide +kernel
theorem dX0_joinsAhead_31 : decode cX0_joinsAhead 31 = .ok (.iaload, 1) := by decide +kernel
theorem dX0_joinsAhead_32 : decode cX0_joinsAhead 32 = .ok (.iconst 1, 1) := by decide +kernel
theorem dX0_joinsAhead_33 : decode cX0_joinsAhead 33 = .ok (.iadd, 1) := by decide +kernel
theorem dX0_joinsAhead_34 : decode cX0_joinsAhead 34 = .ok (.if_icmp .ne 7, 3) := by decide +kernel
theorem dX0_joinsAhead_37 : decode cX0_joinsAhead 37 = .ok (.iconst 1, 1) := by decide +kernel
theorem dX0_joinsAhead_38 : decode cX0_joinsAhead 38 = .ok (.goto 4, 3) := by decide +kernel
theorem dX0_joinsAhead_41 : decode cX0_joinsAhead 41 = .ok (.iconst 0, 1) := by decide +kernel
theorem dX0_joinsAhead_42 : decode cX0_joinsAhead 42 = .ok (.ireturn, 1) := by decide +kernel
set_option maxRecDepth 20000 in
theorem ggX0_beginsExtent_X0_isMapped : GoodIn wsX0_beginsExtent wsX0_isMapped := goodIn_r _ [5, 6, 11, 12, 13, 14, 15, 16, 17, 18, 19, 20, 21] (by decide +kernel) (by decide +kernel)
set_option maxRecDepth 20000 in
theorem gX0_beginsExtent_X0_isMapped : GoodIn wsX0_beginsExtent (wsV RX0 70 RX0 yX0_isMapped wsX0_isMapped) := goodIn_app (goodIn_of _ (by decide +kernel)) ggX0_beginsExtent_X0_isMapped
set_option maxRecDepth 20000 in
theorem ggX0_beginsExtent_X0_joinsAhead : GoodIn wsX0_beginsExtent wsX0_joinsAhead := goodIn_r _ [10, 6, 1, 2, 3, 4, 5, 11, 12, 13, 14, 15, 16, 17, 18, 19, 20, 21] (by decide +kernel) (by decide +kernel)
set_option maxRecDepth 20000 in
theorem gX0_beginsExtent_X0_joinsAhead : GoodIn wsX0_beginsExtent (wsV RX0 73 RX0 yX0_joinsAhead wsX0_joinsAhead) := goodIn_app (goodIn_of _ (by decide +kernel)) ggX0_beginsExtent_X0_joinsAhead
theorem dX0_beginsExtent_0 : decode cX0_beginsExtent 0 = .ok (.aload_n 0, 1) := by decide +kernel
theorem dX0_beginsExtent_1 : decode cX0_beginsExtent 1 = .ok (.iload_n 1, 1) := by decide +kernel
theorem dX0_beginsExtent_2 : decode cX0_beginsExtent 2 = .ok (.invokevirtual 70, 3) := by decide +kernel
theorem dX0_beginsExtent_5 : decode cX0_beginsExtent 5 = .ok (.ifCond .eq 15, 3) := by decide +kernel
theorem dX0_beginsExtent_8 : decode cX0_beginsExtent 8 = .ok (.aload_n 0, 1) := by decide +kernel
theorem dX0_beginsExtent_9 : decode cX0_beginsExtent 9 = .ok (.iload_n 1, 1) := by decide +kernel
theorem dX0_beginsExtent_10 : decode cX0_beginsExtent 10 = .ok (.invokevirtual 73, 3) := by decide +kernel
theorem dX0_beginsExtent_13 : decode cX0_beginsExtent 13 = .ok (.ifCond .ne 7, 3) := by decide +kernel
theorem dX0_beginsExtent_16 : decode cX0_beginsExtent 16 = .ok (.iconst 1, 1) := by decide +kernel
theorem dX0_beginsExtent_17 : decode cX0_beginsExtent 17 = .ok (.goto 4, 3) := by decide +kernel
theorem dX0_beginsExtent_20 : decode cX0_beginsExtent 20 = .ok (.iconst 0, 1) := by decide +kernel
theorem dX0_beginsExtent_21 : decode cX0_beginsExtent 21 = .ok (.ireturn, 1) := by decide +kernel
set_option maxRecDepth 20000 in
theorem ggX0_countExtents_X0_beginsExtent : GoodIn wsX0_countExtents wsX0_beginsExtent := goodIn_r _ [5, 6, 7, 8, 4, 9, 10, 11, 12, 13, 14, 15, 16, 17, 18, 19, 20, 21, 22, 23, 24, 25] (by decide +kernel) (by decide +kernel)
set_option maxRecDepth 20000 in
theorem gX0_countExtents_X0_beginsExtent : GoodIn wsX0_countExtents (wsV RX0 76 RX0 yX0_beginsExtent wsX0_beginsExtent) := goodIn_app (goodIn_of _ (by decide +kernel)) ggX0_countExtents_X0_beginsExtent
theorem dX0_countExtents_0 : decode cX0_countExtents 0 = .ok (.iconst 0, 1) := by decide +kernel
theorem dX0_countExtents_1 : decode cX0_countExtents 1 = .ok (.istore_n 1, 1) := by decide +kernel
theorem dX0_countExtents_2 : decode cX0_countExtents 2 = .ok (.iconst 0, 1) := by decide +kernel
theorem dX0_countExtents_3 : decode cX0_countExtents 3 = .ok (.istore_n 2, 1) := by decide +kernel
theorem dX0_countExtents_4 : decode cX0_countExtents 4 = .ok (.iload_n 2, 1) := by decide +kernel
theorem dX0_countExtents_5 : decode cX0_countExtents 5 = .ok (.bipush 64, 2) := by decide +kernel
theorem dX0_countExtents_7 : decode cX0_countExtents 7 = .ok (.if_icmp .ge 25, 3) := by decide +kernel
theorem dX0_countExtents_10 : decode cX0_countExtents 10 = .ok (.iload_n 1, 1) := by decide +kernel
theorem dX0_countExtents_11 : decode cX0_countExtents 11 = .ok (.aload_n 0, 1) := by decide +kernel
theorem dX0_countExtents_12 : decode cX0_countExtents 12 = .ok (.iload_n 2, 1) := by decide +kernel
theorem dX0_countExtents_13 : decode cX0_countExtents 13 = .ok (.invokevirtual 76, 3) := by decide +kernel
theorem dX0_countExtents_16 : decode cX0_countExtents 16 = .ok (.ifCond .eq 7, 3) := by decide +kernel
theorem dX0_countExtents_19 : decode cX0_countExtents 19 = .ok (.iconst 1, 1) := by decide +kernel
theorem dX0_countExtents_20 : decode cX0_countExtents 20 = .ok (.goto 4, 3) := by decide +kernel
theorem dX0_countExtents_23 : decode cX0_countExtents 23 = .ok (.iconst 0, 1) := by decide +kernel
theorem dX0_countExtents_24 : decode cX0_countExtents 24 = .ok (.iadd, 1) := by decide +kernel
theorem dX0_countExtents_25 : decode cX0_countExtents 25 = .ok (.istore_n 1, 1) := by decide +kernel
theorem dX0_countExtents_26 : decode cX0_countExtents 26 = .ok (.iinc 2 1, 3) := by decide +kernel
theorem dX0_countExtents_29 : decode cX0_countExtents 29 = .ok (.goto (-25), 3) := by decide +kernel
theorem dX0_countExtents_32 : decode cX0_countExtents 32 = .ok (.iload_n 1, 1) := by decide +kernel
theorem dX0_countExtents_33 : decode cX0_countExtents 33 = .ok (.ireturn, 1) := by decide +kernel
set_option maxRecDepth 20000 in
theorem ggX0_beginOfExtent_X0_beginsExtent : GoodIn wsX0_beginOfExtent wsX0_beginsExtent := goodIn_r _ [5, 6, 7, 8, 4, 9, 10, 11, 12, 13, 14, 15, 16, 17, 18, 19, 20, 21, 22, 23, 24, 25] (by decide +kernel) (by decide +kernel)
set_option maxRecDepth 20000 in
theorem gX0_beginOfExtent_X0_beginsExtent : GoodIn wsX0_beginOfExtent (wsV RX0 76 RX0 yX0_beginsExtent wsX0_beginsExtent) := goodIn_app (goodIn_of _ (by decide +kernel)) ggX0_beginOfExtent_X0_beginsExtent
theorem dX0_beginOfExtent_0 : decode cX0_beginOfExtent 0 = .ok (.iconst 0, 1) := by decide +kernel
theorem dX0_beginOfExtent_1 : decode cX0_beginOfExtent 1 = .ok (.istore_n 2, 1) := by decide +kernel
theorem dX0_beginOfExtent_2 : decode cX0_beginOfExtent 2 = .ok (.iconst 0, 1) := by decide +kernel
theorem dX0_beginOfExtent_3 : decode cX0_beginOfExtent 3 = .ok (.istore_n 3, 1) := by decide +kernel
theorem dX0_beginOfExtent_4 : decode cX0_beginOfExtent 4 = .ok (.iload_n 3, 1) := by decide +kernel
theorem dX0_beginOfExtent_5 : decode cX0_beginOfExtent 5 = .ok (.bipush 64, 2) := by decide +kernel
theorem dX0_beginOfExtent_7 : decode cX0_beginOfExtent 7 = .ok (.if_icmp .ge 27, 3) := by decide +kernel
theorem dX0_beginOfExtent_10 : decode cX0_beginOfExtent 10 = .ok (.aload_n 0, 1) := by decide +kernel
theorem dX0_beginOfExtent_11 : decode cX0_beginOfExtent 11 = .ok (.iload_n 3, 1) := by decide +kernel
theorem dX0_beginOfExtent_12 : decode cX0_beginOfExtent 12 = .ok (.invokevirtual 76, 3) := by decide +kernel
theorem dX0_beginOfExtent_15 : decode cX0_beginOfExtent 15 = .ok (.ifCond .eq 13, 3) := by decide +kernel
theorem dX0_beginOfExtent_18 : decode cX0_beginOfExtent 18 = .ok (.iload_n 2, 1) := by decide +kernel
theorem dX0_beginOfExtent_19 : decode cX0_beginOfExtent 19 = .ok (.iload_n 1, 1) := by decide +kernel
theorem dX0_beginOfExtent_20 : decode cX0_beginOfExtent 20 = .ok (.if_icmp .ne 5, 3) := by decide +kernel
theorem dX0_beginOfExtent_23 : decode cX0_beginOfExtent 23 = .ok (.iload_n 3, 1) := by decide +kernel
theorem dX0_beginOfExtent_24 : decode cX0_beginOfExtent 24 = .ok (.ireturn, 1) := by decide +kernel
theorem dX0_beginOfExtent_25 : decode cX0_beginOfExtent 25 = .ok (.iinc 2 1, 3) := by decide +kernel
theorem dX0_beginOfExtent_28 : decode cX0_beginOfExtent 28 = .ok (.iinc 3 1, 3) := by decide +kernel
theorem dX0_beginOfExtent_31 : decode cX0_beginOfExtent 31 = .ok (.goto (-27), 3) := by decide +kernel
theorem dX0_beginOfExtent_34 : decode cX0_beginOfExtent 34 = .ok (.iconst (-1), 1) := by decide +kernel
theorem dX0_beginOfExtent_35 : decode cX0_beginOfExtent 35 = .ok (.ireturn, 1) := by decide +kernel
set_option maxRecDepth 20000 in
theorem ggX0_lengthOfExtent_X0_joinsAhead : GoodIn wsX0_lengthOfExtent wsX0_joinsAhead := goodIn_r _ [5, 6, 7, 8, 9, 4, 10, 11, 12, 13, 14, 15, 16, 17, 18, 19, 20, 21] (by decide +kernel) (by decide +kernel)
set_option maxRecDepth 20000 in
theorem gX0_lengthOfExtent_X0_joinsAhead : GoodIn wsX0_lengthOfExtent (wsV RX0 73 RX0 yX0_joinsAhead wsX0_joinsAhead) := goodIn_app (goodIn_of _ (by decide +kernel)) ggX0_lengthOfExtent_X0_joinsAhead
theorem dX0_lengthOfExtent_0 : decode cX0_lengthOfExtent 0 = .ok (.iload_n 1, 1) := by decide +kernel
theorem dX0_lengthOfExtent_1 : decode cX0_lengthOfExtent 1 = .ok (.iconst 1, 1) := by decide +kernel
theorem dX0_lengthOfExtent_2 : decode cX0_lengthOfExtent 2 = .ok (.iadd, 1) := by decide +kernel
theorem dX0_lengthOfExtent_3 : decode cX0_lengthOfExtent 3 = .ok (.istore_n 2, 1) := by decide +kernel
theorem dX0_lengthOfExtent_4 : decode cX0_lengthOfExtent 4 = .ok (.iload_n 2, 1) := by decide +kernel
theorem dX0_lengthOfExtent_5 : decode cX0_lengthOfExtent 5 = .ok (.bipush 64, 2) := by decide +kernel
theorem dX0_lengthOfExtent_7 : decode cX0_lengthOfExtent 7 = .ok (.if_icmp .ge 17, 3) := by decide +kernel
theorem dX0_lengthOfExtent_10 : decode cX0_lengthOfExtent 10 = .ok (.aload_n 0, 1) := by decide +kernel
theorem dX0_lengthOfExtent_11 : decode cX0_lengthOfExtent 11 = .ok (.iload_n 2, 1) := by decide +kernel
theorem dX0_lengthOfExtent_12 : decode cX0_lengthOfExtent 12 = .ok (.invokevirtual 73, 3) := by decide +kernel
theorem dX0_lengthOfExtent_15 : decode cX0_lengthOfExtent 15 = .ok (.ifCond .eq 9, 3) := by decide +kernel
theorem dX0_lengthOfExtent_18 : decode cX0_lengthOfExtent 18 = .ok (.iinc 2 1, 3) := by decide +kernel
theorem dX0_lengthOfExtent_21 : decode cX0_lengthOfExtent 21 = .ok (.goto (-17), 3) := by decide +kernel
theorem dX0_lengthOfExtent_24 : decode cX0_lengthOfExtent 24 = .ok (.iload_n 2, 1) := by decide +kernel
theorem dX0_lengthOfExtent_25 : decode cX0_lengthOfExtent 25 = .ok (.iload_n 1, 1) := by decide +kernel
theorem dX0_lengthOfExtent_26 : decode cX0_lengthOfExtent 26 = .ok (.isub, 1) := by decide +kernel
theorem dX0_lengthOfExtent_27 : decode cX0_lengthOfExtent 27 = .ok (.ireturn, 1) := by decide +kernel
set_option maxRecDepth 20000 in
theorem ggX1_init_X3_init : GoodIn wsX1_init wsX3_init := goodIn_r _ [10, 11, 2, 3, 12, 13, 14, 15, 16, 17, 18, 19, 20, 21, 22, 23, 24, 25, 26] (by decide +kernel) (by decide +kernel)
set_option maxRecDepth 20000 in
theorem gX1_init_X3_init_n11 : GoodIn wsX1_init (wsX3_init) := ggX1_init_X3_init
theorem dX1_init_0 : decode cX1_init 0 = .ok (.aload_n 0, 1) := by decide +kernel
theorem dX1_init_1 : decode cX1_init 1 = .ok (.invokespecial 3, 3) := by decide +kernel
theorem dX1_init_4 : decode cX1_init 4 = .ok (.aload_n 0, 1) := by decide +kernel
theorem dX1_init_5 : decode cX1_init 5 = .ok (.new 9, 3) := by decide +kernel
theorem dX1_init_8 : decode cX1_init 8 = .ok (.dup, 1) := by decide +kernel
theorem dX1_init_9 : decode cX1_init 9 = .ok (.iconst 0, 1) := by decide +kernel
theorem dX1_init_10 : decode cX1_init 10 = .ok (.iconst 0, 1) := by decide +kernel
theorem dX1_init_11 : decode cX1_init 11 = .ok (.invokespecial 11, 3) := by decide +kernel
theorem dX1_init_14 : decode cX1_init 14 = .ok (.putfield 14, 3) := by decide +kernel
theorem dX1_init_17 : decode cX1_init 17 = .ok (.aload_n 0, 1) := by decide +kernel
theorem dX1_init_18 : decode cX1_init 18 = .ok (.iconst 1, 1) := by decide +kernel
theorem dX1_init_19 : decode cX1_init 19 = .ok (.putfield 20, 3) := by decide +kernel
theorem dX1_init_22 : decode cX1_init 22 = .ok (.return_, 1) := by decide +kernel
theorem dX1_isFull_0 : decode cX1_isFull 0 = .ok (.aload_n 0, 1) := by decide +kernel
theorem dX1_isFull_1 : decode cX1_isFull 1 = .ok (.getfield 20, 3) := by decide +kernel
theorem dX1_isFull_4 : decode cX1_isFull 4 = .ok (.sipush 512, 3) := by decide +kernel
theorem dX1_isFull_7 : decode cX1_isFull 7 = .ok (.if_icmp .lt 7, 3) := by decide +kernel
theorem dX1_isFull_10 : decode cX1_isFull 10 = .ok (.iconst 1, 1) := by decide +kernel
theorem dX1_isFull_11 : decode cX1_isFull 11 = .ok (.goto 4, 3) := by decide +kernel
theorem dX1_isFull_14 : decode cX1_isFull 14 = .ok (.iconst 0, 1) := by decide +kernel
theorem dX1_isFull_15 : decode cX1_isFull 15 = .ok (.ireturn, 1) := by decide +kernel
set_option maxRecDepth 20000 in
theorem ggX1_add_X4_hashOf : GoodIn wsX1_add wsX4_hashOf := goodIn_r _ [4] (by decide +kernel) (by decide +kernel)
set_option maxRecDepth 20000 in
theorem gX1_add_X4_hashOf_n24 : GoodIn wsX1_add (wsX4_hashOf) := ggX1_add_X4_hashOf
set_option maxRecDepth 20000 in
theorem ggX1_add_X1_lastLeafFor : GoodIn wsX1_add wsX1_lastLeafFor := goodIn_r _ [9, 10, 49, 50, 42, 43, 44, 45, 46, 47, 48] (by decide +kernel) (by decide +kernel)
set_option maxRecDepth 20000 in
theorem gX1_add_X1_lastLeafFor : GoodIn wsX1_add (wsV RX1 28 RX1 yX1_lastLeafFor wsX1_lastLeafFor) := goodIn_app (goodIn_of _ (by decide +kernel)) ggX1_add_X1_lastLeafFor
set_option maxRecDepth 20000 in
theorem ggX1_add_X3_split : GoodIn wsX1_add wsX3_split := goodIn_r _ [14, 15, 16, 17, 12, 18, 19, 2, 3, 4, 20, 21, 22, 23, 24, 25, 26, 27, 28, 29, 30, 31, 32, 33, 34, 35, 36, 37, 38, 39, 40, 41, 42, 43, 44, 45, 46, 47, 48] (by decide +kernel) (by decide +kernel)
set_option maxRecDepth 20000 in
theorem gX1_add_X3_split_n35 : GoodIn wsX1_add (wsX3_split) := ggX1_add_X3_split
set_option maxRecDepth 20000 in
theorem ggX1_add_X3_insert : GoodIn wsX1_add wsX3_insert := goodIn_r _ [34, 18, 15, 19, 35, 36, 12, 37, 2, 3, 4, 42, 43, 44, 45, 46, 47, 48] (by decide +kernel) (by decide +kernel)
set_option maxRecDepth 20000 in
theorem gX1_add_X3_insert_n38 : GoodIn wsX1_add (wsX3_insert) := ggX1_add_X3_insert
theorem dX1_add_0 : decode cX1_add 0 = .ok (.aload_n 0, 1) := by decide +kernel
theorem dX1_add_1 : decode cX1_add 1 = .ok (.iload_n 1, 1) := by decide +kernel
theorem dX1_add_2 : decode cX1_add 2 = .ok (.invokestatic 24, 3) := by decide +kernel
theorem dX1_add_5 : decode cX1_add 5 = .ok (.invokevirtual 28, 3) := by decide +kernel
theorem dX1_add_8 : decode cX1_add 8 = .ok (.astore_n 3, 1) := by decide +kernel
theorem dX1_add_9 : decode cX1_add 9 = .ok (.aload_n 3, 1) := by decide +kernel
theorem dX1_add_10 : decode cX1_add 10 = .ok (.getfield 32, 3) := by decide +kernel
theorem dX1_add_13 : decode cX1_add 13 = .ok (.iconst 4, 1) := by decide +kernel
theorem dX1_add_14 : decode cX1_add 14 = .ok (.if_icmp .ne 26, 3) := by decide +kernel
theorem dX1_add_17 : decode cX1_add 17 = .ok (.aload_n 3, 1) := by decide +kernel
theorem dX1_add_18 : decode cX1_add 18 = .ok (.invokevirtual 35, 3) := by decide +kernel
theorem dX1_add_21 : decode cX1_add 21 = .ok (.aload_n 0, 1) := by decide +kernel
theorem dX1_add_22 : decode cX1_add 22 = .ok (.dup, 1) := by decide +kernel
theorem dX1_add_23 : decode cX1_add 23 = .ok (.getfield 20, 3) := by decide +kernel
theorem dX1_add_26 : decode cX1_add 26 = .ok (.iconst 1, 1) := by decide +kernel
theorem dX1_add_27 : decode cX1_add 27 = .ok (.iadd, 1) := by decide +kernel
theorem dX1_add_28 : decode cX1_add 28 = .ok (.putfield 20, 3) := by decide +kernel
theorem dX1_add_31 : decode cX1_add 31 = .ok (.aload_n 0, 1) := by decide +kernel
theorem dX1_add_32 : decode cX1_add 32 = .ok (.iload_n 1, 1) := by decide +kernel
theorem dX1_add_33 : decode cX1_add 33 = .ok (.invokestatic 24, 3) := by decide +kernel
theorem dX1_add_36 : decode cX1_add 36 = .ok (.invokevirtual 28, 3) := by decide +kernel
theorem dX1_add_39 : decode cX1_add 39 = .ok (.astore_n 3, 1) := by decide +kernel
theorem dX1_add_40 : decode cX1_add 40 = .ok (.aload_n 3, 1) := by decide +kernel
theorem dX1_add_41 : decode cX1_add 41 = .ok (.iload_n 1, 1) := by decide +kernel
theorem dX1_add_42 : decode cX1_add 42 = .ok (.iload_n 2, 1) := by decide +kernel
theorem dX1_add_43 : decode cX1_add 43 = .ok (.invokevirtual 38, 3) := by decide +kernel
theorem dX1_add_46 : decode cX1_add 46 = .ok (.return_, 1) := by decide +kernel
set_option maxRecDepth 20000 in
theorem ggX1_takeOut_X1_lastLookedAt : GoodIn wsX1_takeOut wsX1_lastLookedAt := goodIn_r _ [5, 6, 7, 8, 9, 10, 11, 4, 12, 13, 14, 15, 16, 17, 18, 19, 20, 21, 22, 23, 24, 25, 26, 27, 28, 29, 30, 31, 32, 37, 38, 39, 40, 41, 42, 43, 44, 45] (by decide +kernel) (by decide +kernel)
set_option maxRecDepth 20000 in
theorem gX1_takeOut_X1_lastLookedAt : GoodIn wsX1_takeOut (wsV RX1 42 RX1 yX1_lastLookedAt wsX1_lastLookedAt) := goodIn_app (goodIn_of _ (by decide +kernel)) ggX1_takeOut_X1_lastLookedAt
set_option maxRecDepth 20000 in
theorem ggX1_takeOut_X3_takeOut : GoodIn wsX1_takeOut wsX3_takeOut := goodIn_r _ [35, 31, 32, 36, 27, 28, 29, 19, 30, 37, 38, 39, 40, 41, 42, 43] (by decide +kernel) (by decide +kernel)
set_option maxRecDepth 20000 in
theorem gX1_takeOut_X3_takeOut_n45 : GoodIn wsX1_takeOut (wsX3_takeOut) := ggX1_takeOut_X3_takeOut
theorem dX1_takeOut_0 : decode cX1_takeOut 0 = .ok (.aload_n 0, 1) := by decide +kernel
theorem dX1_takeOut_1 : decode cX1_takeOut 1 = .ok (.iload_n 1, 1) := by decide +kernel
theorem dX1_takeOut_2 : decode cX1_takeOut 2 = .ok (.invokevirtual 42, 3) := by decide +kernel
theorem dX1_takeOut_5 : decode cX1_takeOut 5 = .ok (.iload_n 1, 1) := by decide +kernel
theorem dX1_takeOut_6 : decode cX1_takeOut 6 = .ok (.invokevirtual 45, 3) := by decide +kernel
theorem dX1_takeOut_9 : decode cX1_takeOut 9 = .ok (.return_, 1) := by decide +kernel
set_option maxRecDepth 20000 in
theorem ggX1_fileWith_X1_lastLookedAt : GoodIn wsX1_fileWith wsX1_lastLookedAt := goodIn_r _ [5, 6, 7, 8, 9, 10, 11, 4, 12, 13, 14, 15, 16, 17, 18, 19, 20, 21, 22, 23, 24, 25, 26, 27, 28, 29, 30, 31, 32, 37, 38, 39, 40, 41, 42, 43, 44, 45] (by decide +kernel) (by decide +kernel)
set_option maxRecDepth 20000 in
theorem gX1_fileWith_X1_lastLookedAt : GoodIn wsX1_fileWith (wsV RX1 42 RX1 yX1_lastLookedAt wsX1_lastLookedAt) := goodIn_app (goodIn_of _ (by decide +kernel)) ggX1_fileWith_X1_lastLookedAt
set_option maxRecDepth 20000 in
theorem ggX1_fileWith_X3_fileWith : GoodIn wsX1_fileWith wsX3_fileWith := goodIn_r _ [35, 36, 27, 28, 29, 19, 30, 31, 32, 37, 38, 39, 40, 41, 42, 43] (by decide +kernel) (by decide +kernel)
set_option maxRecDepth 20000 in
theorem gX1_fileWith_X3_fileWith_n49 : GoodIn wsX1_fileWith (wsX3_fileWith) := ggX1_fileWith_X3_fileWith
theorem dX1_fileWith_0 : decode cX1_fileWith 0 = .ok (.aload_n 0, 1) := by decide +kernel
theorem dX1_fileWith_1 : decode cX1_fileWith 1 = .ok (.iload_n 1, 1) := by decide +kernel
theorem dX1_fileWith_2 : decode cX1_fileWith 2 = .ok (.invokevirtual 42, 3) := by decide +kernel
theorem dX1_fileWith_5 : decode cX1_fileWith 5 = .ok (.iload_n 1, 1) := by decide +kernel
theorem dX1_fileWith_6 : decode cX1_fileWith 6 = .ok (.invokevirtual 49, 3) := by decide +kernel
theorem dX1_fileWith_9 : decode cX1_fileWith 9 = .ok (.ireturn, 1) := by decide +kernel
set_option maxRecDepth 20000 in
theorem ggX1_countLooks_X1_lastLookedAt : GoodIn wsX1_countLooks wsX1_lastLookedAt := goodIn_r _ [5, 6, 7, 8, 9, 10, 11, 4, 12, 13, 14, 15, 16, 17, 18, 19, 20, 21, 22, 23, 24, 25, 26, 27, 28, 29, 30, 31, 32, 33, 34, 35, 36, 37, 38, 39, 40, 41] (by decide +kernel) (by decide +kernel)
set_option maxRecDepth 20000 in
theorem gX1_countLooks_X1_lastLookedAt : GoodIn wsX1_countLooks (wsV RX1 42 RX1 yX1_lastLookedAt wsX1_lastLookedAt) := goodIn_app (goodIn_of _ (by decide +kernel)) ggX1_countLooks_X1_lastLookedAt
set_option maxRecDepth 20000 in
theorem ggX1_countLooks_X1_firstLookedAt : GoodIn wsX1_countLooks wsX1_firstLookedAt := goodIn_r _ [12, 6, 7, 8, 13, 14, 15, 4, 16, 17, 18, 19, 20, 21, 22, 23, 33, 34, 35, 36, 37, 38, 39, 40, 41] (by decide +kernel) (by decide +kernel)
set_option maxRecDepth 20000 in
theorem gX1_countLooks_X1_firstLookedAt : GoodIn wsX1_countLooks (wsV RX1 52 RX1 yX1_firstLookedAt wsX1_firstLookedAt) := goodIn_app (goodIn_of _ (by decide +kernel)) ggX1_countLooks_X1_firstLookedAt
theorem dX1_countLooks_0 : decode cX1_countLooks 0 = .ok (.aload_n 0, 1) := by decide +kernel
theorem dX1_countLooks_1 : decode cX1_countLooks 1 = .ok (.iload_n 1, 1) := by decide +kernel
theorem dX1_countLooks_2 : decode cX1_countLooks 2 = .ok (.invokevirtual 42, 3) := by decide +kernel
theorem dX1_countLooks_5 : decode cX1_countLooks 5 = .ok (.astore_n 2, 1) := by decide +kernel
theorem dX1_countLooks_6 : decode cX1_countLooks 6 = .ok (.iconst 1, 1) := by decide +kernel
theorem dX1_countLooks_7 : decode cX1_countLooks 7 = .ok (.istore_n 3, 1) := by decide +kernel
theorem dX1_countLooks_8 : decode cX1_countLooks 8 = .ok (.aload_n 0, 1) := by decide +kernel
theorem dX1_countLooks_9 : decode cX1_countLooks 9 = .ok (.iload_n 1, 1) := by decide +kernel
theorem dX1_countLooks_10 : decode cX1_countLooks 10 = .ok (.invokevirtual 52, 3) := by decide +kernel
theorem dX1_countLooks_13 : decode cX1_countLooks 13 = .ok (.astore 4, 2) := by decide +kernel
theorem dX1_countLooks_15 : decode cX1_countLooks 15 = .ok (.aload 4, 2) := by decide +kernel
theorem dX1_countLooks_17 : decode cX1_countLooks 17 = .ok (.ifnull 22, 3) := by decide +kernel
theorem dX1_countLooks_20 : decode cX1_countLooks 20 = .ok (.aload 4, 2) := by decide +kernel
theorem dX1_countLooks_22 : decode cX1_countLooks 22 = .ok (.aload_n 2, 1) := by decide +kernel
theorem dX1_countLooks_23 : decode cX1_countLooks 23 = .ok (.if_acmp .eq 16, 3) := by decide +kernel
theorem dX1_countLooks_26 : decode cX1_countLooks 26 = .ok (.iinc 3 1, 3) := by decide +kernel
theorem dX1_countLooks_29 : decode cX1_countLooks 29 = .ok (.aload 4, 2) := by decide +kernel
theorem dX1_countLooks_31 : decode cX1_countLooks 31 = .ok (.getfield 55, 3) := by decide +kernel
theorem dX1_countLooks_34 : decode cX1_countLooks 34 = .ok (.astore 4, 2) := by decide +kernel
theorem dX1_countLooks_36 : decode cX1_countLooks 36 = .ok (.goto (-21), 3) := by decide +kernel
theorem dX1_countLooks_39 : decode cX1_countLooks 39 = .ok (.iload_n 3, 1) := by decide +kernel
theorem dX1_countLooks_40 : decode cX1_countLooks 40 = .ok (.ireturn, 1) := by decide +kernel
theorem dX1_lastLeafFor_0 : decode cX1_lastLeafFor 0 = .ok (.aload_n 0, 1) := by decide +kernel
theorem dX1_lastLeafFor_1 : decode cX1_lastLeafFor 1 = .ok (.getfield 14, 3) := by decide +kernel
theorem dX1_lastLeafFor_4 : decode cX1_lastLeafFor 4 = .ok (.astore_n 2, 1) := by decide +kernel
theorem dX1_lastLeafFor_5 : decode cX1_lastLeafFor 5 = .ok (.aload_n 0, 1) := by decide +kernel
theorem dX1_lastLeafFor_6 : decode cX1_lastLeafFor 6 = .ok (.getfield 14, 3) := by decide +kernel
theorem dX1_lastLeafFor_9 : decode cX1_lastLeafFor 9 = .ok (.astore_n 3, 1) := by decide +kernel
theorem dX1_lastLeafFor_10 : decode cX1_lastLeafFor 10 = .ok (.aload_n 3, 1) := by decide +kernel
theorem dX1_lastLeafFor_11 : decode cX1_lastLeafFor 11 = .ok (.ifnull 21, 3) := by decide +kernel
theorem dX1_lastLeafFor_14 : decode cX1_lastLeafFor 14 = .ok (.aload_n 3, 1) := by decide +kernel
theorem dX1_lastLeafFor_15 : decode cX1_lastLeafFor 15 = .ok (.getfield 58, 3) := by decide +kernel
theorem dX1_lastLeafFor_18 : decode cX1_lastLeafFor 18 = .ok (.iload_n 1, 1) := by decide +kernel
theorem dX1_lastLeafFor_19 : decode cX1_lastLeafFor 19 = .ok (.if_icmp .gt 5, 3) := by decide +kernel
theorem dX1_lastLeafFor_22 : decode cX1_lastLeafFor 22 = .ok (.aload_n 3, 1) := by decide +kernel
theorem dX1_lastLeafFor_23 : decode cX1_lastLeafFor 23 = .ok (.astore_n 2, 1) := by decide +kernel
theorem dX1_lastLeafFor_24 : decode cX1_lastLeafFor 24 = .ok (.aload_n 3, 1) := by decide +kernel
theorem dX1_lastLeafFor_25 : decode cX1_lastLeafFor 25 = .ok (.getfield 55, 3) := by decide +kernel
theorem dX1_lastLeafFor_28 : decode cX1_lastLeafFor 28 = .ok (.astore_n 3, 1) := by decide +kernel
theorem dX1_lastLeafFor_29 : decode cX1_lastLeafFor 29 = .ok (.goto (-19), 3) := by decide +kernel
theorem dX1_lastLeafFor_32 : decode cX1_lastLeafFor 32 = .ok (.aload_n 2, 1) := by decide +kernel
theorem dX1_lastLeafFor_33 : decode cX1_lastLeafFor 33 = .ok (.areturn, 1) := by decide +kernel
set_option maxRecDepth 20000 in
theorem ggX1_firstLookedAt_X4_hashOf : GoodIn wsX1_firstLookedAt wsX4_hashOf := goodIn_r _ [3] (by decide +kernel) (by decide +kernel)
set_option maxRecDepth 20000 in
theorem gX1_firstLookedAt_X4_hashOf_n24 : GoodIn wsX1_firstLookedAt (wsX4_hashOf) := ggX1_firstLookedAt_X4_hashOf
set_option maxRecDepth 20000 in
theorem ggX1_firstLookedAt_X1_lastLeafFor : GoodIn wsX1_firstLookedAt wsX1_lastLeafFor := goodIn_r _ [8, 9, 23, 24, 16, 17, 18, 19, 20, 21, 22] (by decide +kernel) (by decide +kernel)
set_option maxRecDepth 20000 in
theorem gX1_firstLookedAt_X1_lastLeafFor : GoodIn wsX1_firstLookedAt (wsV RX1 28 RX1 yX1_lastLeafFor wsX1_lastLeafFor) := goodIn_app (goodIn_of _ (by decide +kernel)) ggX1_firstLookedAt_X1_lastLeafFor
set_option maxRecDepth 20000 in
theorem ggX1_firstLookedAt_X3_continues : GoodIn wsX1_firstLookedAt wsX3_continues := goodIn_r _ [13, 14, 15, 16, 17, 18, 19, 20, 21, 22] (by decide +kernel) (by decide +kernel)
set_option maxRecDepth 20000 in
theorem gX1_firstLookedAt_X3_continues_n61 : GoodIn wsX1_firstLookedAt (wsX3_continues) := ggX1_firstLookedAt_X3_continues
theorem dX1_firstLookedAt_0 : decode cX1_firstLookedAt 0 = .ok (.iload_n 1, 1) := by decide +kernel
theorem dX1_firstLookedAt_1 : decode cX1_firstLookedAt 1 = .ok (.invokestatic 24, 3) := by decide +kernel
theorem dX1_firstLookedAt_4 : decode cX1_firstLookedAt 4 = .ok (.istore_n 2, 1) := by decide +kernel
theorem dX1_firstLookedAt_5 : decode cX1_firstLookedAt 5 = .ok (.aload_n 0, 1) := by decide +kernel
theorem dX1_firstLookedAt_6 : decode cX1_firstLookedAt 6 = .ok (.iload_n 2, 1) := by decide +kernel
theorem dX1_firstLookedAt_7 : decode cX1_firstLookedAt 7 = .ok (.invokevirtual 28, 3) := by decide +kernel
theorem dX1_firstLookedAt_10 : decode cX1_firstLookedAt 10 = .ok (.astore_n 3, 1) := by decide +kernel
theorem dX1_firstLookedAt_11 : decode cX1_firstLookedAt 11 = .ok (.aload_n 3, 1) := by decide +kernel
theorem dX1_firstLookedAt_12 : decode cX1_firstLookedAt 12 = .ok (.iload_n 2, 1) := by decide +kernel
theorem dX1_firstLookedAt_13 : decode cX1_firstLookedAt 13 = .ok (.invokevirtual 61, 3) := by decide +kernel
theorem dX1_firstLookedAt_16 : decode cX1_firstLookedAt 16 = .ok (.ifCond .eq 18, 3) := by decide +kernel
theorem dX1_firstLookedAt_19 : decode cX1_firstLookedAt 19 = .ok (.aload_n 3, 1) := by decide +kernel
theorem dX1_firstLookedAt_20 : decode cX1_firstLookedAt 20 = .ok (.getfield 65, 3) := by decide +kernel
theorem dX1_firstLookedAt_23 : decode cX1_firstLookedAt 23 = .ok (.ifnull 11, 3) := by decide +kernel
theorem dX1_firstLookedAt_26 : decode cX1_firstLookedAt 26 = .ok (.aload_n 3, 1) := by decide +kernel
theorem dX1_firstLookedAt_27 : decode cX1_firstLookedAt 27 = .ok (.getfield 65, 3) := by decide +kernel
theorem dX1_firstLookedAt_30 : decode cX1_firstLookedAt 30 = .ok (.astore_n 3, 1) := by decide +kernel
theorem dX1_firstLookedAt_31 : decode cX1_firstLookedAt 31 = .ok (.goto (-20), 3) := by decide +kernel
theorem dX1_firstLookedAt_34 : decode cX1_firstLookedAt 34 = .ok (.aload_n 3, 1) := by decide +kernel
theorem dX1_firstLookedAt_35 : decode cX1_firstLookedAt 35 = .ok (.areturn, 1) := by decide +kernel
set_option maxRecDepth 20000 in
theorem ggX1_lastLookedAt_X4_hashOf : GoodIn wsX1_lastLookedAt wsX4_hashOf := goodIn_r _ [3] (by decide +kernel) (by decide +kernel)
set_option maxRecDepth 20000 in
theorem gX1_lastLookedAt_X4_hashOf_n24 : GoodIn wsX1_lastLookedAt (wsX4_hashOf) := ggX1_lastLookedAt_X4_hashOf
set_option maxRecDepth 20000 in
theorem ggX1_lastLookedAt_X1_firstLookedAt : GoodIn wsX1_lastLookedAt wsX1_firstLookedAt := goodIn_r _ [8, 1, 2, 3, 9, 10, 11, 7, 12, 13, 14, 15, 16, 17, 18, 19, 29, 30, 31, 32, 33, 34, 35, 36, 37] (by decide +kernel) (by decide +kernel)
set_option maxRecDepth 20000 in
theorem gX1_lastLookedAt_X1_firstLookedAt : GoodIn wsX1_lastLookedAt (wsV RX1 52 RX1 yX1_firstLookedAt wsX1_firstLookedAt) := goodIn_app (goodIn_of _ (by decide +kernel)) ggX1_lastLookedAt_X1_firstLookedAt
set_option maxRecDepth 20000 in
theorem ggX1_lastLookedAt_X3_has : GoodIn wsX1_lastLookedAt wsX3_has := goodIn_r _ [22, 23, 24, 25, 15, 26, 27, 28, 29, 30, 31, 32, 33, 34, 35] (by decide +kernel) (by decide +kernel)
set_option maxRecDepth 20000 in
theorem gX1_lastLookedAt_X3_has_n68 : GoodIn wsX1_lastLookedAt (wsX3_has) := ggX1_lastLookedAt_X3_has
set_option maxRecDepth 20000 in
theorem ggX1_lastLookedAt_X3_continues : GoodIn wsX1_lastLookedAt wsX3_continues := goodIn_r _ [17, 18, 19, 29, 30, 31, 32, 33, 34, 35] (by decide +kernel) (by decide +kernel)
set_option maxRecDepth 20000 in
theorem gX1_lastLookedAt_X3_continues_n61 : GoodIn wsX1_lastLookedAt (wsX3_continues) := ggX1_lastLookedAt_X3_continues
theorem dX1_lastLookedAt_0 : decode cX1_lastLookedAt 0 = .ok (.iload_n 1, 1) := by decide +kernel
theorem dX1_lastLookedAt_1 : decode cX1_lastLookedAt 1 = .ok (.invokestatic 24, 3) := by decide +kernel
theorem dX1_lastLookedAt_4 : decode cX1_lastLookedAt 4 = .ok (.istore_n 2, 1) := by decide +kernel
theorem dX1_lastLookedAt_5 : decode cX1_lastLookedAt 5 = .ok (.aload_n 0, 1) := by decide +kernel
theorem dX1_lastLookedAt_6 : decode cX1_lastLookedAt 6 = .ok (.iload_n 1, 1) := by decide +kernel
theorem dX1_lastLookedAt_7 : decode cX1_lastLookedAt 7 = .ok (.invokevirtual 52, 3) := by decide +kernel
theorem dX1_lastLookedAt_10 : decode cX1_lastLookedAt 10 = .ok (.astore_n 3, 1) := by decide +kernel
theorem dX1_lastLookedAt_11 : decode cX1_lastLookedAt 11 = .ok (.aload_n 3, 1) := by decide +kernel
theorem dX1_lastLookedAt_12 : decode cX1_lastLookedAt 12 = .ok (.iload_n 1, 1) := by decide +kernel
theorem dX1_lastLookedAt_13 : decode cX1_lastLookedAt 13 = .ok (.invokevirtual 68, 3) := by decide +kernel
theorem dX1_lastLookedAt_16 : decode cX1_lastLookedAt 16 = .ok (.ifCond .ne 29, 3) := by decide +kernel
theorem dX1_lastLookedAt_19 : decode cX1_lastLookedAt 19 = .ok (.aload_n 3, 1) := by decide +kernel
theorem dX1_lastLookedAt_20 : decode cX1_lastLookedAt 20 = .ok (.getfield 55, 3) := by decide +kernel
theorem dX1_lastLookedAt_23 : decode cX1_lastLookedAt 23 = .ok (.ifnull 22, 3) := by decide +kernel
theorem dX1_lastLookedAt_26 : decode cX1_lastLookedAt 26 = .ok (.aload_n 3, 1) := by decide +kernel
theorem dX1_lastLookedAt_27 : decode cX1_lastLookedAt 27 = .ok (.getfield 55, 3) := by decide +kernel
theorem dX1_lastLookedAt_30 : decode cX1_lastLookedAt 30 = .ok (.iload_n 2, 1) := by decide +kernel
theorem dX1_lastLookedAt_31 : decode cX1_lastLookedAt 31 = .ok (.invokevirtual 61, 3) := by decide +kernel
theorem dX1_lastLookedAt_34 : decode cX1_lastLookedAt 34 = .ok (.ifCond .eq 11, 3) := by decide +kernel
theorem dX1_lastLookedAt_37 : decode cX1_lastLookedAt 37 = .ok (.aload_n 3, 1) := by decide +kernel
theorem dX1_lastLookedAt_38 : decode cX1_lastLookedAt 38 = .ok (.getfield 55, 3) := by decide +kernel
theorem dX1_lastLookedAt_41 : decode cX1_lastLookedAt 41 = .ok (.astore_n 3, 1) := by decide +kernel
theorem dX1_lastLookedAt_42 : decode cX1_lastLookedAt 42 = .ok (.goto (-31), 3) := by decide +kernel
theorem dX1_lastLookedAt_45 : decode cX1_lastLookedAt 45 = .ok (.aload_n 3, 1) := by decide +kernel
theorem dX1_lastLookedAt_46 : decode cX1_lastLookedAt 46 = .ok (.areturn, 1) := by decide +kernel
theorem dX2_init_0 : decode cX2_init 0 = .ok (.aload_n 0, 1) := by decide +kernel
theorem dX2_init_1 : decode cX2_init 1 = .ok (.invokespecial 3, 3) := by decide +kernel
theorem dX2_init_4 : decode cX2_init 4 = .ok (.aload_n 0, 1) := by decide +kernel
theorem dX2_init_5 : decode cX2_init 5 = .ok (.sipush 128, 3) := by decide +kernel
theorem dX2_init_8 : decode cX2_init 8 = .ok (.newarray .boolean, 2) := by decide +kernel
theorem dX2_init_10 : decode cX2_init 10 = .ok (.putfield 9, 3) := by decide +kernel
theorem dX2_init_13 : decode cX2_init 13 = .ok (.aload_n 0, 1) := by decide +kernel
theorem dX2_init_14 : decode cX2_init 14 = .ok (.sipush 128, 3) := by decide +kernel
theorem dX2_init_17 : decode cX2_init 17 = .ok (.putfield 15, 3) := by decide +kernel
theorem dX2_init_20 : decode cX2_init 20 = .ok (.return_, 1) := by decide +kernel
theorem dX2_areFree_0 : decode cX2_areFree 0 = .ok (.iload_n 1, 1) := by decide +kernel
theorem dX2_areFree_1 : decode cX2_areFree 1 = .ok (.ifCond .lt 12, 3) := by decide +kernel
theorem dX2_areFree_4 : decode cX2_areFree 4 = .ok (.iload_n 2, 1) := by decide +kernel
theorem dX2_areFree_5 : decode cX2_areFree 5 = .ok (.sipush 128, 3) := by decide +kernel
theorem dX2_areFree_8 : decode cX2_areFree 8 = .ok (.iload_n 1, 1) := by decide +kernel
theorem dX2_areFree_9 : decode cX2_areFree 9 = .ok (.isub, 1) := by decide +kernel
theorem dX2_areFree_10 : decode cX2_areFree 10 = .ok (.if_icmp .le 5, 3) := by decide +kernel
theorem dX2_areFree_13 : decode cX2_areFree 13 = .ok (.iconst 0, 1) := by decide +kernel
theorem dX2_areFree_14 : decode cX2_areFree 14 = .ok (.ireturn, 1) := by decide +kernel
theorem dX2_areFree_15 : decode cX2_areFree 15 = .ok (.iload_n 1, 1) := by decide +kernel
theorem dX2_areFree_16 : decode cX2_areFree 16 = .ok (.istore_n 3, 1) := by decide +kernel
theorem dX2_areFree_17 : decode cX2_areFree 17 = .ok (.iload_n 3, 1) := by decide +kernel
theorem dX2_areFree_18 : decode cX2_areFree 18 = .ok (.iload_n 1, 1) := by decide +kernel
theorem dX2_areFree_19 : decode cX2_areFree 19 = .ok (.iload_n 2, 1) := by decide +kernel
theorem dX2_areFree_20 : decode cX2_areFree 20 = .ok (.iadd, 1) := by decide +kernel
theorem dX2_areFree_21 : decode cX2_areFree 21 = .ok (.if_icmp .ge 20, 3) := by decide +kernel
theorem dX2_areFree_24 : decode cX2_areFree 24 = .ok (.aload_n 0, 1) := by decide +kernel
theorem dX2_areFree_25 : decode cX2_areFree 25 = .ok (.getfield 9, 3) := by decide +kernel
theorem dX2_areFree_28 : decode cX2_areFree 28 = .ok (.iload_n 3, 1) := by decide +kernel
theorem dX2_areFree_29 : decode cX2_areFree 29 = .ok (.baload, 1) := by decide +kernel
theorem dX2_areFree_30 : decode cX2_areFree 30 = .ok (.ifCond .eq 5, 3) := by decide +kernel
theorem dX2_areFree_33 : decode cX2_areFree 33 = .ok (.iconst 0, 1) := by decide +kernel
theorem dX2_areFree_34 : decode cX2_areFree 34 = .ok (.ireturn, 1) := by decide +kernel
theorem dX2_areFree_35 : decode cX2_areFree 35 = .ok (.iinc 3 1, 3) := by decide +kernel
theorem dX2_areFree_38 : decode cX2_areFree 38 = .ok (.goto (-21), 3) := by decide +kernel
theorem dX2_areFree_41 : decode cX2_areFree 41 = .ok (.iconst 1, 1) := by decide +kernel
theorem dX2_areFree_42 : decode cX2_areFree 42 = .ok (.ireturn, 1) := by decide +kernel
set_option maxRecDepth 20000 in
theorem ggX2_take_X2_mark : GoodIn wsX2_take wsX2_mark := goodIn_r _ [5, 6, 7, 8, 9] (by decide +kernel) (by decide +kernel)
set_option maxRecDepth 20000 in
theorem gX2_take_X2_mark : GoodIn wsX2_take (wsV RX2 19 RX2 yX2_mark wsX2_mark) := goodIn_app (goodIn_of _ (by decide +kernel)) ggX2_take_X2_mark
theorem dX2_take_0 : decode cX2_take 0 = .ok (.aload_n 0, 1) := by decide +kernel
theorem dX2_take_1 : decode cX2_take 1 = .ok (.iload_n 1, 1) := by decide +kernel
theorem dX2_take_2 : decode cX2_take 2 = .ok (.iload_n 2, 1) := by decide +kernel
theorem dX2_take_3 : decode cX2_take 3 = .ok (.iconst 1, 1) := by decide +kernel
theorem dX2_take_4 : decode cX2_take 4 = .ok (.invokevirtual 19, 3) := by decide +kernel
theorem dX2_take_7 : decode cX2_take 7 = .ok (.return_, 1) := by decide +kernel
set_option maxRecDepth 20000 in
theorem ggX2_release_X2_mark : GoodIn wsX2_release wsX2_mark := goodIn_r _ [5, 6, 7, 8, 9] (by decide +kernel) (by decide +kernel)
set_option maxRecDepth 20000 in
theorem gX2_release_X2_mark : GoodIn wsX2_release (wsV RX2 19 RX2 yX2_mark wsX2_mark) := goodIn_app (goodIn_of _ (by decide +kernel)) ggX2_release_X2_mark
theorem dX2_release_0 : decode cX2_release 0 = .ok (.aload_n 0, 1) := by decide +kernel
theorem dX2_release_1 : decode cX2_release 1 = .ok (.iload_n 1, 1) := by decide +kernel
theorem dX2_release_2 : decode cX2_release 2 = .ok (.iload_n 2, 1) := by decide +kernel
theorem dX2_release_3 : decode cX2_release 3 = .ok (.iconst 0, 1) := by decide +kernel
theorem dX2_release_4 : decode cX2_release 4 = .ok (.invokevirtual 19, 3) := by decide +kernel
theorem dX2_release_7 : decode cX2_release 7 = .ok (.return_, 1) := by decide +kernel
theorem dX2_mark_0 : decode cX2_mark 0 = .ok (.iload_n 1, 1) := by decide +kernel
theorem dX2_mark_1 : decode cX2_mark 1 = .ok (.ifCond .lt 12, 3) := by decide +kernel
theorem dX2_mark_4 : decode cX2_mark 4 = .ok (.iload_n 2, 1) := by decide +kernel
theorem dX2_mark_5 : decode cX2_mark 5 = .ok (.sipush 128, 3) := by decide +kernel
theorem dX2_mark_8 : decode cX2_mark 8 = .ok (.iload_n 1, 1) := by decide +kernel
theorem dX2_mark_9 : decode cX2_mark 9 = .ok (.isub, 1) := by decide +kernel
theorem dX2_mark_10 : decode cX2_mark 10 = .ok (.if_icmp .le 4, 3) := by decide +kernel
theorem dX2_mark_13 : decode cX2_mark 13 = .ok (.return_, 1) := by decide +kernel
theorem dX2_mark_14 : decode cX2_mark 14 = .ok (.iload_n 1, 1) := by decide +kernel
theorem dX2_mark_15 : decode cX2_mark 15 = .ok (.istore 4, 2) := by decide +kernel
theorem dX2_mark_17 : decode cX2_mark 17 = .ok (.iload 4, 2) := by decide +kernel
theorem dX2_mark_19 : decode cX2_mark 19 = .ok (.iload_n 1, 1) := by decide +kernel
theorem dX2_mark_20 : decode cX2_mark 20 = .ok (.iload_n 2, 1) := by decide +kernel
theorem dX2_mark_21 : decode cX2_mark 21 = .ok (.iadd, 1) := by decide +kernel
theorem dX2_mark_22 : decode cX2_mark 22 = .ok (.if_icmp .ge 46, 3) := by decide +kernel
theorem dX2_mark_25 : decode cX2_mark 25 = .ok (.aload_n 0, 1) := by decide +kernel
theorem dX2_mark_26 : decode cX2_mark 26 = .ok (.getfield 9, 3) := by decide +kernel
theorem dX2_mark_29 : decode cX2_mark 29 = .ok (.iload 4, 2) := by decide +kernel
theorem dX2_mark_31 : decode cX2_mark 31 = .ok (.baload, 1) := by decide +kernel
theorem dX2_mark_32 : decode cX2_mark 32 = .ok (.iload_n 3, 1) := by decide +kernel
theorem dX2_mark_33 : decode cX2_mark 33 = .ok (.if_icmp .eq 29, 3) := by decide +kernel
theorem dX2_mark_36 : decode cX2_mark 36 = .ok (.aload_n 0, 1) := by decide +kernel
theorem dX2_mark_37 : decode cX2_mark 37 = .ok (.getfield 9, 3) := by decide +kernel
theorem dX2_mark_40 : decode cX2_mark 40 = .ok (.iload 4, 2) := by decide +kernel
theorem dX2_mark_42 : decode cX2_mark 42 = .ok (.iload_n 3, 1) := by decide +kernel
theorem dX2_mark_43 : decode cX2_mark 43 = .ok (.bastore, 1) := by decide +kernel
theorem dX2_mark_44 : decode cX2_mark 44 = .ok (.aload_n 0, 1) := by decide +kernel
theorem dX2_mark_45 : decode cX2_mark 45 = .ok (.dup, 1) := by decide +kernel
theorem dX2_mark_46 : decode cX2_mark 46 = .ok (.getfield 15, 3) := by decide +kernel
theorem dX2_mark_49 : decode cX2_mark 49 = .ok (.iload_n 3, 1) := by decide +kernel
theorem dX2_mark_50 : decode cX2_mark 50 = .ok (.ifCond .eq 7, 3) := by decide +kernel
theorem dX2_mark_53 : decode cX2_mark 53 = .ok (.iconst (-1), 1) := by decide +kernel
theorem dX2_mark_54 : decode cX2_mark 54 = .ok (.goto 4, 3) := by decide +kernel
theorem dX2_mark_57 : decode cX2_mark 57 = .ok (.iconst 1, 1) := by decide +kernel
theorem dX2_mark_58 : decode cX2_mark 58 = .ok (.iadd, 1) := by decide +kernel
theorem dX2_mark_59 : decode cX2_mark 59 = .ok (.putfield 15, 3) := by decide +kernel
theorem dX2_mark_62 : decode cX2_mark 62 = .ok (.iinc 4 1, 3) := by decide +kernel
theorem dX2_mark_65 : decode cX2_mark 65 = .ok (.goto (-48), 3) := by decide +kernel
theorem dX2_mark_68 : decode cX2_mark 68 = .ok (.return_, 1) := by decide +kernel
set_option maxRecDepth 20000 in
theorem ggX2_find_X2_areFree : GoodIn wsX2_find wsX2_areFree := goodIn_r _ [5, 6, 15, 16] (by decide +kernel) (by decide +kernel)
set_option maxRecDepth 20000 in
theorem gX2_find_X2_areFree : GoodIn wsX2_find (wsV RX2 23 RX2 yX2_areFree wsX2_areFree) := goodIn_app (goodIn_of _ (by decide +kernel)) ggX2_find_X2_areFree
set_option maxRecDepth 20000 in
theorem ggX2_find_X2_firstPiece : GoodIn wsX2_find wsX2_firstPiece := goodIn_r _ [10, 11, 12, 13, 4, 14, 1, 2, 3, 5, 6, 15, 16] (by decide +kernel) (by decide +kernel)
set_option maxRecDepth 20000 in
theorem gX2_find_X2_firstPiece : GoodIn wsX2_find (wsV RX2 27 RX2 yX2_firstPiece wsX2_firstPiece) := goodIn_app (goodIn_of _ (by decide +kernel)) ggX2_find_X2_firstPiece
theorem dX2_find_0 : decode cX2_find 0 = .ok (.iload_n 1, 1) := by decide +kernel
theorem dX2_find_1 : decode cX2_find 1 = .ok (.bipush 32, 2) := by decide +kernel
theorem dX2_find_3 : decode cX2_find 3 = .ok (.idiv, 1) := by decide +kernel
theorem dX2_find_4 : decode cX2_find 4 = .ok (.istore_n 3, 1) := by decide +kernel
theorem dX2_find_5 : decode cX2_find 5 = .ok (.iload_n 1, 1) := by decide +kernel
theorem dX2_find_6 : decode cX2_find 6 = .ok (.bipush 32, 2) := by decide +kernel
theorem dX2_find_8 : decode cX2_find 8 = .ok (.irem, 1) := by decide +kernel
theorem dX2_find_9 : decode cX2_find 9 = .ok (.iload_n 2, 1) := by decide +kernel
theorem dX2_find_10 : decode cX2_find 10 = .ok (.iadd, 1) := by decide +kernel
theorem dX2_find_11 : decode cX2_find 11 = .ok (.bipush 32, 2) := by decide +kernel
theorem dX2_find_13 : decode cX2_find 13 = .ok (.if_icmp .gt 7, 3) := by decide +kernel
theorem dX2_find_16 : decode cX2_find 16 = .ok (.iconst 1, 1) := by decide +kernel
theorem dX2_find_17 : decode cX2_find 17 = .ok (.goto 4, 3) := by decide +kernel
theorem dX2_find_20 : decode cX2_find 20 = .ok (.iconst 0, 1) := by decide +kernel
theorem dX2_find_21 : decode cX2_find 21 = .ok (.istore 4, 2) := by decide +kernel
theorem dX2_find_23 : decode cX2_find 23 = .ok (.iload 4, 2) := by decide +kernel
theorem dX2_find_25 : decode cX2_find 25 = .ok (.ifCond .eq 14, 3) := by decide +kernel
theorem dX2_find_28 : decode cX2_find 28 = .ok (.aload_n 0, 1) := by decide +kernel
theorem dX2_find_29 : decode cX2_find 29 = .ok (.iload_n 1, 1) := by decide +kernel
theorem dX2_find_30 : decode cX2_find 30 = .ok (.iload_n 2, 1) := by decide +kernel
theorem dX2_find_31 : decode cX2_find 31 = .ok (.invokevirtual 23, 3) := by decide +kernel
theorem dX2_find_34 : decode cX2_find 34 = .ok (.ifCond .eq 5, 3) := by decide +kernel
theorem dX2_find_37 : decode cX2_find 37 = .ok (.iload_n 1, 1) := by decide +kernel
theorem dX2_find_38 : decode cX2_find 38 = .ok (.ireturn, 1) := by decide +kernel
theorem dX2_find_39 : decode cX2_find 39 = .ok (.iconst 0, 1) := by decide +kernel
theorem dX2_find_40 : decode cX2_find 40 = .ok (.istore 5, 2) := by decide +kernel
theorem dX2_find_42 : decode cX2_find 42 = .ok (.iload 5, 2) := by decide +kernel
theorem dX2_find_44 : decode cX2_find 44 = .ok (.iconst 4, 1) := by decide +kernel
theorem dX2_find_45 : decode cX2_find 45 = .ok (.if_icmp .ge 31, 3) := by decide +kernel
theorem dX2_find_48 : decode cX2_find 48 = .ok (.aload_n 0, 1) := by decide +kernel
theorem dX2_find_49 : decode cX2_find 49 = .ok (.iload_n 3, 1) := by decide +kernel
theorem dX2_find_50 : decode cX2_find 50 = .ok (.iload 5, 2) := by decide +kernel
theorem dX2_find_52 : decode cX2_find 52 = .ok (.iadd, 1) := by decide +kernel
theorem dX2_find_53 : decode cX2_find 53 = .ok (.iconst 4, 1) := by decide +kernel
theorem dX2_find_54 : decode cX2_find 54 = .ok (.irem, 1) := by decide +kernel
theorem dX2_find_55 : decode cX2_find 55 = .ok (.iload_n 2, 1) := by decide +kernel
theorem dX2_find_56 : decode cX2_find 56 = .ok (.invokevirtual 27, 3) := by decide +kernel
theorem dX2_find_59 : decode cX2_find 59 = .ok (.istore 6, 2) := by decide +kernel
theorem dX2_find_61 : decode cX2_find 61 = .ok (.iload 6, 2) := by decide +kernel
theorem dX2_find_63 : decode cX2_find 63 = .ok (.iconst (-1), 1) := by decide +kernel
theorem dX2_find_64 : decode cX2_find 64 = .ok (.if_icmp .eq 6, 3) := by decide +kernel
theorem dX2_find_67 : decode cX2_find 67 = .ok (.iload 6, 2) := by decide +kernel
theorem dX2_find_69 : decode cX2_find 69 = .ok (.ireturn, 1) := by decide +kernel
theorem dX2_find_70 : decode cX2_find 70 = .ok (.iinc 5 1, 3) := by decide +kernel
theorem dX2_find_73 : decode cX2_find 73 = .ok (.goto (-31), 3) := by decide +kernel
theorem dX2_find_76 : decode cX2_find 76 = .ok (.iconst (-1), 1) := by decide +kernel
theorem dX2_find_77 : decode cX2_find 77 = .ok (.ireturn, 1) := by decide +kernel
set_option maxRecDepth 20000 in
theorem ggX2_firstPiece_X2_isFreePiece : GoodIn wsX2_firstPiece wsX2_isFreePiece := goodIn_r _ [5, 6, 7, 8, 4, 9, 10, 11, 12] (by decide +kernel) (by decide +kernel)
set_option maxRecDepth 20000 in
theorem gX2_firstPiece_X2_isFreePiece : GoodIn wsX2_firstPiece (wsV RX2 31 RX2 yX2_isFreePiece wsX2_isFreePiece) := goodIn_app (goodIn_of _ (by decide +kernel)) ggX2_firstPiece_X2_isFreePiece
theorem dX2_firstPiece_0 : decode cX2_firstPiece 0 = .ok (.iload_n 1, 1) := by decide +kernel
theorem dX2_firstPiece_1 : decode cX2_firstPiece 1 = .ok (.bipush 32, 2) := by decide +kernel
theorem dX2_firstPiece_3 : decode cX2_firstPiece 3 = .ok (.imul, 1) := by decide +kernel
theorem dX2_firstPiece_4 : decode cX2_firstPiece 4 = .ok (.istore_n 3, 1) := by decide +kernel
theorem dX2_firstPiece_5 : decode cX2_firstPiece 5 = .ok (.iload_n 3, 1) := by decide +kernel
theorem dX2_firstPiece_6 : decode cX2_firstPiece 6 = .ok (.istore 4, 2) := by decide +kernel
theorem dX2_firstPiece_8 : decode cX2_firstPiece 8 = .ok (.iload 4, 2) := by decide +kernel
theorem dX2_firstPiece_10 : decode cX2_firstPiece 10 = .ok (.iload_n 3, 1) := by decide +kernel
theorem dX2_firstPiece_11 : decode cX2_firstPiece 11 = .ok (.bipush 32, 2) := by decide +kernel
theorem dX2_firstPiece_13 : decode cX2_firstPiece 13 = .ok (.iadd, 1) := by decide +kernel
theorem dX2_firstPiece_14 : decode cX2_firstPiece 14 = .ok (.if_icmp .ge 22, 3) := by decide +kernel
theorem dX2_firstPiece_17 : decode cX2_firstPiece 17 = .ok (.aload_n 0, 1) := by decide +kernel
theorem dX2_firstPiece_18 : decode cX2_firstPiece 18 = .ok (.iload 4, 2) := by decide +kernel
theorem dX2_firstPiece_20 : decode cX2_firstPiece 20 = .ok (.iload_n 2, 1) := by decide +kernel
theorem dX2_firstPiece_21 : decode cX2_firstPiece 21 = .ok (.invokevirtual 31, 3) := by decide +kernel
theorem dX2_firstPiece_24 : decode cX2_firstPiece 24 = .ok (.ifCond .eq 6, 3) := by decide +kernel
theorem dX2_firstPiece_27 : decode cX2_firstPiece 27 = .ok (.iload 4, 2) := by decide +kernel
theorem dX2_firstPiece_29 : decode cX2_firstPiece 29 = .ok (.ireturn, 1) := by decide +kernel
theorem dX2_firstPiece_30 : decode cX2_firstPiece 30 = .ok (.iinc 4 1, 3) := by decide +kernel
theorem dX2_firstPiece_33 : decode cX2_firstPiece 33 = .ok (.goto (-25), 3) := by decide +kernel
theorem dX2_firstPiece_36 : decode cX2_firstPiece 36 = .ok (.iconst (-1), 1) := by decide +kernel
theorem dX2_firstPiece_37 : decode cX2_firstPiece 37 = .ok (.ireturn, 1) := by decide +kernel
set_option maxRecDepth 20000 in
theorem ggX2_countPieces_X2_isFreePiece : GoodIn wsX2_countPieces wsX2_isFreePiece := goodIn_r _ [5, 6, 7, 8, 4, 9, 10, 11, 12] (by decide +kernel) (by decide +kernel)
set_option maxRecDepth 20000 in
theorem gX2_countPieces_X2_isFreePiece : GoodIn wsX2_countPieces (wsV RX2 31 RX2 yX2_isFreePiece wsX2_isFreePiece) := goodIn_app (goodIn_of _ (by decide +kernel)) ggX2_countPieces_X2_isFreePiece
theorem dX2_countPieces_0 : decode cX2_countPieces 0 = .ok (.iload_n 1, 1) := by decide +kernel
theorem dX2_countPieces_1 : decode cX2_countPieces 1 = .ok (.bipush 32, 2) := by decide +kernel
theorem dX2_countPieces_3 : decode cX2_countPieces 3 = .ok (.imul, 1) := by decide +kernel
theorem dX2_countPieces_4 : decode cX2_countPieces 4 = .ok (.istore_n 3, 1) := by decide +kernel
theorem dX2_countPieces_5 : decode cX2_countPieces 5 = .ok (.iconst 0, 1) := by decide +kernel
theorem dX2_countPieces_6 : decode cX2_countPieces 6 = .ok (.istore 4, 2) := by decide +kernel
theorem dX2_countPieces_8 : decode cX2_countPieces 8 = .ok (.iload_n 3, 1) := by decide +kernel
theorem dX2_countPieces_9 : decode cX2_countPieces 9 = .ok (.istore 5, 2) := by decide +kernel
theorem dX2_countPieces_11 : decode cX2_countPieces 11 = .ok (.iload 5, 2) := by decide +kernel
theorem dX2_countPieces_13 : decode cX2_countPieces 13 = .ok (.iload_n 3, 1) := by decide +kernel
theorem dX2_countPieces_14 : decode cX2_countPieces 14 = .ok (.bipush 32, 2) := by decide +kernel
theorem dX2_countPieces_16 : decode cX2_countPieces 16 = .ok (.iadd, 1) := by decide +kernel
theorem dX2_countPieces_17 : decode cX2_countPieces 17 = .ok (.if_icmp .ge 29, 3) := by decide +kernel
theorem dX2_countPieces_20 : decode cX2_countPieces 20 = .ok (.iload 4, 2) := by decide +kernel
theorem dX2_countPieces_22 : decode cX2_countPieces 22 = .ok (.aload_n 0, 1) := by decide +kernel
theorem dX2_countPieces_23 : decode cX2_countPieces 23 = .ok (.iload 5, 2) := by decide +kernel
theorem dX2_countPieces_25 : decode cX2_countPieces 25 = .ok (.iload_n 2, 1) := by decide +kernel
theorem dX2_countPieces_26 : decode cX2_countPieces 26 = .ok (.invokevirtual 31, 3) := by decide +kernel
theorem dX2_countPieces_29 : decode cX2_countPieces 29 = .ok (.ifCond .eq 7, 3) := by decide +kernel
theorem dX2_countPieces_32 : decode cX2_countPieces 32 = .ok (.iconst 1, 1) := by decide +kernel
theorem dX2_countPieces_33 : decode cX2_countPieces 33 = .ok (.goto 4, 3) := by decide +kernel
theorem dX2_countPieces_36 : decode cX2_countPieces 36 = .ok (.iconst 0, 1) := by decide +kernel
theorem dX2_countPieces_37 : decode cX2_countPieces 37 = .ok (.iadd, 1) := by decide +kernel
theorem dX2_countPieces_38 : decode cX2_countPieces 38 = .ok (.istore 4, 2) := by decide +kernel
theorem dX2_countPieces_40 : decode cX2_countPieces 40 = .ok (.iinc 5 1, 3) := by decide +kernel
theorem dX2_countPieces_43 : decode cX2_countPieces 43 = .ok (.goto (-32), 3) := by decide +kernel
theorem dX2_countPieces_46 : decode cX2_countPieces 46 = .ok (.iload 4, 2) := by decide +kernel
theorem dX2_countPieces_48 : decode cX2_countPieces 48 = .ok (.ireturn, 1) := by decide +kernel
set_option maxRecDepth 20000 in
theorem ggX2_isFreePiece_X2_areFree : GoodIn wsX2_isFreePiece wsX2_areFree := goodIn_r _ [5, 6, 7, 8] (by decide +kernel) (by decide +kernel)
set_option maxRecDepth 20000 in
theorem gX2_isFreePiece_X2_areFree : GoodIn wsX2_isFreePiece (wsV RX2 23 RX2 yX2_areFree wsX2_areFree) := goodIn_app (goodIn_of _ (by decide +kernel)) ggX2_isFreePiece_X2_areFree
theorem dX2_isFreePiece_0 : decode cX2_isFreePiece 0 = .ok (.iload_n 1, 1) := by decide +kernel
theorem dX2_isFreePiece_1 : decode cX2_isFreePiece 1 = .ok (.iload_n 2, 1) := by decide +kernel
theorem dX2_isFreePiece_2 : decode cX2_isFreePiece 2 = .ok (.iconst 1, 1) := by decide +kernel
theorem dX2_isFreePiece_3 : decode cX2_isFreePiece 3 = .ok (.isub, 1) := by decide +kernel
theorem dX2_isFreePiece_4 : decode cX2_isFreePiece 4 = .ok (.iand, 1) := by decide +kernel
theorem dX2_isFreePiece_5 : decode cX2_isFreePiece 5 = .ok (.ifCond .ne 16, 3) := by decide +kernel
theorem dX2_isFreePiece_8 : decode cX2_isFreePiece 8 = .ok (.aload_n 0, 1) := by decide +kernel
theorem dX2_isFreePiece_9 : decode cX2_isFreePiece 9 = .ok (.iload_n 1, 1) := by decide +kernel
theorem dX2_isFreePiece_10 : decode cX2_isFreePiece 10 = .ok (.iload_n 2, 1) := by decide +kernel
theorem dX2_isFreePiece_11 : decode cX2_isFreePiece 11 = .ok (.invokevirtual 23, 3) := by decide +kernel
theorem dX2_isFreePiece_14 : decode cX2_isFreePiece 14 = .ok (.ifCond .eq 7, 3) := by decide +kernel
theorem dX2_isFreePiece_17 : decode cX2_isFreePiece 17 = .ok (.iconst 1, 1) := by decide +kernel
theorem dX2_isFreePiece_18 : decode cX2_isFreePiece 18 = .ok (.goto 4, 3) := by decide +kernel
theorem dX2_isFreePiece_21 : decode cX2_isFreePiece 21 = .ok (.iconst 0, 1) := by decide +kernel
theorem dX2_isFreePiece_22 : decode cX2_isFreePiece 22 = .ok (.ireturn, 1) := by decide +kernel
theorem dX3_init_0 : decode cX3_init 0 = .ok (.aload_n 0, 1) := by decide +kernel
theorem dX3_init_1 : decode cX3_init 1 = .ok (.invokespecial 3, 3) := by decide +kernel
theorem dX3_init_4 : decode cX3_init 4 = .ok (.aload_n 0, 1) := by decide +kernel
theorem dX3_init_5 : decode cX3_init 5 = .ok (.iconst 4, 1) := by decide +kernel
theorem dX3_init_6 : decode cX3_init 6 = .ok (.newarray .int, 2) := by decide +kernel
theorem dX3_init_8 : decode cX3_init 8 = .ok (.putfield 9, 3) := by decide +kernel
theorem dX3_init_11 : decode cX3_init 11 = .ok (.aload_n 0, 1) := by decide +kernel
theorem dX3_init_12 : decode cX3_init 12 = .ok (.iconst 4, 1) := by decide +kernel
theorem dX3_init_13 : decode cX3_init 13 = .ok (.newarray .int, 2) := by decide +kernel
theorem dX3_init_15 : decode cX3_init 15 = .ok (.putfield 15, 3) := by decide +kernel
theorem dX3_init_18 : decode cX3_init 18 = .ok (.aload_n 0, 1) := by decide +kernel
theorem dX3_init_19 : decode cX3_init 19 = .ok (.iconst 0, 1) := by decide +kernel
theorem dX3_init_20 : decode cX3_init 20 = .ok (.putfield 18, 3) := by decide +kernel
theorem dX3_init_23 : decode cX3_init 23 = .ok (.aload_n 0, 1) := by decide +kernel
theorem dX3_init_24 : decode cX3_init 24 = .ok (.aconst_null, 1) := by decide +kernel
theorem dX3_init_25 : decode cX3_init 25 = .ok (.putfield 22, 3) := by decide +kernel
theorem dX3_init_28 : decode cX3_init 28 = .ok (.aload_n 0, 1) := by decide +kernel
theorem dX3_init_29 : decode cX3_init 29 = .ok (.aconst_null, 1) := by decide +kernel
theorem dX3_init_30 : decode cX3_init 30 = .ok (.putfield 26, 3) := by decide +kernel
theorem dX3_init_33 : decode cX3_init 33 = .ok (.aload_n 0, 1) := by decide +kernel
theorem dX3_init_34 : decode cX3_init 34 = .ok (.iload_n 1, 1) := by decide +kernel
theorem dX3_init_35 : decode cX3_init 35 = .ok (.putfield 29, 3) := by decide +kernel
theorem dX3_init_38 : decode cX3_init 38 = .ok (.aload_n 0, 1) := by decide +kernel
theorem dX3_init_39 : decode cX3_init 39 = .ok (.iload_n 2, 1) := by decide +kernel
theorem dX3_init_40 : decode cX3_init 40 = .ok (.putfield 32, 3) := by decide +kernel
theorem dX3_init_43 : decode cX3_init 43 = .ok (.return_, 1) := by decide +kernel
theorem dX3_continues_0 : decode cX3_continues 0 = .ok (.aload_n 0, 1) := by decide +kernel
theorem dX3_continues_1 : decode cX3_continues 1 = .ok (.getfield 32, 3) := by decide +kernel
theorem dX3_continues_4 : decode cX3_continues 4 = .ok (.ifCond .eq 15, 3) := by decide +kernel
theorem dX3_continues_7 : decode cX3_continues 7 = .ok (.aload_n 0, 1) := by decide +kernel
theorem dX3_continues_8 : decode cX3_continues 8 = .ok (.getfield 29, 3) := by decide +kernel
theorem dX3_continues_11 : decode cX3_continues 11 = .ok (.iload_n 1, 1) := by decide +kernel
theorem dX3_continues_12 : decode cX3_continues 12 = .ok (.if_icmp .ne 7, 3) := by decide +kernel
theorem dX3_continues_15 : decode cX3_continues 15 = .ok (.iconst 1, 1) := by decide +kernel
theorem dX3_continues_16 : decode cX3_continues 16 = .ok (.goto 4, 3) := by decide +kernel
theorem dX3_continues_19 : decode cX3_continues 19 = .ok (.iconst 0, 1) := by decide +kernel
theorem dX3_continues_20 : decode cX3_continues 20 = .ok (.ireturn, 1) := by decide +kernel
theorem dX3_indexOf_0 : decode cX3_indexOf 0 = .ok (.iconst 0, 1) := by decide +kernel
theorem dX3_indexOf_1 : decode cX3_indexOf 1 = .ok (.istore_n 2, 1) := by decide +kernel
theorem dX3_indexOf_2 : decode cX3_indexOf 2 = .ok (.iload_n 2, 1) := by decide +kernel
theorem dX3_indexOf_3 : decode cX3_indexOf 3 = .ok (.aload_n 0, 1) := by decide +kernel
theorem dX3_indexOf_4 : decode cX3_indexOf 4 = .ok (.getfield 18, 3) := by decide +kernel
theorem dX3_indexOf_7 : decode cX3_indexOf 7 = .ok (.if_icmp .ge 26, 3) := by decide +kernel
theorem dX3_indexOf_10 : decode cX3_indexOf 10 = .ok (.iload_n 2, 1) := by decide +kernel
theorem dX3_indexOf_11 : decode cX3_indexOf 11 = .ok (.iconst 4, 1) := by decide +kernel
theorem dX3_indexOf_12 : decode cX3_indexOf 12 = .ok (.if_icmp .ge 21, 3) := by decide +kernel
theorem dX3_indexOf_15 : decode cX3_indexOf 15 = .ok (.aload_n 0, 1) := by decide +kernel
theorem dX3_indexOf_16 : decode cX3_indexOf 16 = .ok (.getfield 9, 3) := by decide +kernel
theorem dX3_indexOf_19 : decode cX3_indexOf 19 = .ok (.iload_n 2, 1) := by decide +kernel
theorem dX3_indexOf_20 : decode cX3_indexOf 20 = .ok (.iaload, 1) := by decide +kernel
theorem dX3_indexOf_21 : decode cX3_indexOf 21 = .ok (.iload_n 1, 1) := by decide +kernel
theorem dX3_indexOf_22 : decode cX3_indexOf 22 = .ok (.if_icmp .ne 5, 3) := by decide +kernel
theorem dX3_indexOf_25 : decode cX3_indexOf 25 = .ok (.iload_n 2, 1) := by decide +kernel
theorem dX3_indexOf_26 : decode cX3_indexOf 26 = .ok (.ireturn, 1) := by decide +kernel
theorem dX3_indexOf_27 : decode cX3_indexOf 27 = .ok (.iinc 2 1, 3) := by decide +kernel
theorem dX3_indexOf_30 : decode cX3_indexOf 30 = .ok (.goto (-28), 3) := by decide +kernel
theorem dX3_indexOf_33 : decode cX3_indexOf 33 = .ok (.iconst (-1), 1) := by decide +kernel
theorem dX3_indexOf_34 : decode cX3_indexOf 34 = .ok (.ireturn, 1) := by decide +kernel
set_option maxRecDepth 20000 in
theorem ggX3_has_X3_indexOf : GoodIn wsX3_has wsX3_indexOf := goodIn_r _ [5, 6, 7, 8, 9, 10, 11, 12, 13, 14] (by decide +kernel) (by decide +kernel)
set_option maxRecDepth 20000 in
theorem gX3_has_X3_indexOf : GoodIn wsX3_has (wsV RX3 36 RX3 yX3_indexOf wsX3_indexOf) := goodIn_app (goodIn_of _ (by decide +kernel)) ggX3_has_X3_indexOf
theorem dX3_has_0 : decode cX3_has 0 = .ok (.aload_n 0, 1) := by decide +kernel
theorem dX3_has_1 : decode cX3_has 1 = .ok (.iload_n 1, 1) := by decide +kernel
theorem dX3_has_2 : decode cX3_has 2 = .ok (.invokevirtual 36, 3) := by decide +kernel
theorem dX3_has_5 : decode cX3_has 5 = .ok (.iconst (-1), 1) := by decide +kernel
theorem dX3_has_6 : decode cX3_has 6 = .ok (.if_icmp .eq 7, 3) := by decide +kernel
theorem dX3_has_9 : decode cX3_has 9 = .ok (.iconst 1, 1) := by decide +kernel
theorem dX3_has_10 : decode cX3_has 10 = .ok (.goto 4, 3) := by decide +kernel
theorem dX3_has_13 : decode cX3_has 13 = .ok (.iconst 0, 1) := by decide +kernel
theorem dX3_has_14 : decode cX3_has 14 = .ok (.ireturn, 1) := by decide +kernel
set_option maxRecDepth 20000 in
theorem ggX3_fileWith_X3_indexOf : GoodIn wsX3_fileWith wsX3_indexOf := goodIn_r _ [6, 7, 8, 9, 10, 11, 12, 13, 14, 15] (by decide +kernel) (by decide +kernel)
set_option maxRecDepth 20000 in
theorem gX3_fileWith_X3_indexOf : GoodIn wsX3_fileWith (wsV RX3 36 RX3 yX3_indexOf wsX3_indexOf) := goodIn_app (goodIn_of _ (by decide +kernel)) ggX3_fileWith_X3_indexOf
theorem dX3_fileWith_0 : decode cX3_fileWith 0 = .ok (.aload_n 0, 1) := by decide +kernel
theorem dX3_fileWith_1 : decode cX3_fileWith 1 = .ok (.iload_n 1, 1) := by decide +kernel
theorem dX3_fileWith_2 : decode cX3_fileWith 2 = .ok (.invokevirtual 36, 3) := by decide +kernel
theorem dX3_fileWith_5 : decode cX3_fileWith 5 = .ok (.istore_n 2, 1) := by decide +kernel
theorem dX3_fileWith_6 : decode cX3_fileWith 6 = .ok (.iload_n 2, 1) := by decide +kernel
theorem dX3_fileWith_7 : decode cX3_fileWith 7 = .ok (.ifCond .ge 7, 3) := by decide +kernel
theorem dX3_fileWith_10 : decode cX3_fileWith 10 = .ok (.iconst (-1), 1) := by decide +kernel
theorem dX3_fileWith_11 : decode cX3_fileWith 11 = .ok (.goto 9, 3) := by decide +kernel
theorem dX3_fileWith_14 : decode cX3_fileWith 14 = .ok (.aload_n 0, 1) := by decide +kernel
theorem dX3_fileWith_15 : decode cX3_fileWith 15 = .ok (.getfield 15, 3) := by decide +kernel
theorem dX3_fileWith_18 : decode cX3_fileWith 18 = .ok (.iload_n 2, 1) := by decide +kernel
theorem dX3_fileWith_19 : decode cX3_fileWith 19 = .ok (.iaload, 1) := by decide +kernel
theorem dX3_fileWith_20 : decode cX3_fileWith 20 = .ok (.ireturn, 1) := by decide +kernel
set_option maxRecDepth 20000 in
theorem ggX3_insert_X3_rankOf : GoodIn wsX3_insert wsX3_rankOf := goodIn_r _ [7, 8, 9, 10] (by decide +kernel) (by decide +kernel)
set_option maxRecDepth 20000 in
theorem gX3_insert_X3_rankOf : GoodIn wsX3_insert (va_wsS RX3 40 yX3_rankOf wsX3_rankOf) := goodIn_app (goodIn_of _ (by decide +kernel)) ggX3_insert_X3_rankOf
theorem dX3_insert_0 : decode cX3_insert 0 = .ok (.aload_n 0, 1) := by decide +kernel
theorem dX3_insert_1 : decode cX3_insert 1 = .ok (.getfield 18, 3) := by decide +kernel
theorem dX3_insert_4 : decode cX3_insert 4 = .ok (.iconst 4, 1) := by decide +kernel
theorem dX3_insert_5 : decode cX3_insert 5 = .ok (.if_icmp .lt 4, 3) := by decide +kernel
theorem dX3_insert_8 : decode cX3_insert 8 = .ok (.return_, 1) := by decide +kernel
theorem dX3_insert_9 : decode cX3_insert 9 = .ok (.aload_n 0, 1) := by decide +kernel
theorem dX3_insert_10 : decode cX3_insert 10 = .ok (.getfield 18, 3) := by decide +kernel
theorem dX3_insert_13 : decode cX3_insert 13 = .ok (.istore_n 3, 1) := by decide +kernel
theorem dX3_insert_14 : decode cX3_insert 14 = .ok (.iload_n 3, 1) := by decide +kernel
theorem dX3_insert_15 : decode cX3_insert 15 = .ok (.ifCond .le 55, 3) := by decide +kernel
theorem dX3_insert_18 : decode cX3_insert 18 = .ok (.aload_n 0, 1) := by decide +kernel
theorem dX3_insert_19 : decode cX3_insert 19 = .ok (.getfield 9, 3) := by decide +kernel
theorem dX3_insert_22 : decode cX3_insert 22 = .ok (.iload_n 3, 1) := by decide +kernel
theorem dX3_insert_23 : decode cX3_insert 23 = .ok (.iconst 1, 1) := by decide +kernel
theorem dX3_insert_24 : decode cX3_insert 24 = .ok (.isub, 1) := by decide +kernel
theorem dX3_insert_25 : decode cX3_insert 25 = .ok (.iaload, 1) := by decide +kernel
theorem dX3_insert_26 : decode cX3_insert 26 = .ok (.invokestatic 40, 3) := by decide +kernel
theorem dX3_insert_29 : decode cX3_insert 29 = .ok (.iload_n 1, 1) := by decide +kernel
theorem dX3_insert_30 : decode cX3_insert 30 = .ok (.invokestatic 40, 3) := by decide +kernel
theorem dX3_insert_33 : decode cX3_insert 33 = .ok (.if_icmp .le 37, 3) := by decide +kernel
theorem dX3_insert_36 : decode cX3_insert 36 = .ok (.aload_n 0, 1) := by decide +kernel
theorem dX3_insert_37 : decode cX3_insert 37 = .ok (.getfield 9, 3) := by decide +kernel
theorem dX3_insert_40 : decode cX3_insert 40 = .ok (.iload_n 3, 1) := by decide +kernel
theorem dX3_insert_41 : decode cX3_insert 41 = .ok (.aload_n 0, 1) := by decide +kernel
theorem dX3_insert_42 : decode cX3_insert 42 = .ok (.getfield 9, 3) := by decide +kernel
theorem dX3_insert_45 : decode cX3_insert 45 = .ok (.iload_n 3, 1) := by decide +kernel
theorem dX3_insert_46 : decode cX3_insert 46 = .ok (.iconst 1, 1) := by decide +kernel
theorem dX3_insert_47 : decode cX3_insert 47 = .ok (.isub, 1) := by decide +kernel
theorem dX3_insert_48 : decode cX3_insert 48 = .ok (.iaload, 1) := by decide +kernel
theorem dX3_insert_49 : decode cX3_insert 49 = .ok (.iastore, 1) := by decide +kernel
theorem dX3_insert_50 : decode cX3_insert 50 = .ok (.aload_n 0, 1) := by decide +kernel
theorem dX3_insert_51 : decode cX3_insert 51 = .ok (.getfield 15, 3) := by decide +kernel
theorem dX3_insert_54 : decode cX3_insert 54 = .ok (.iload_n 3, 1) := by decide +kernel
theorem dX3_insert_55 : decode cX3_insert 55 = .ok (.aload_n 0, 1) := by decide +kernel
theorem dX3_insert_56 : decode cX3_insert 56 = .ok (.getfield 15, 3) := by decide +kernel
theorem dX3_insert_59 : decode cX3_insert 59 = .ok (.iload_n 3, 1) := by decide +kernel
theorem dX3_insert_60 : decode cX3_insert 60 = .ok (.iconst 1, 1) := by decide +kernel
theorem dX3_insert_61 : decode cX3_insert 61 = .ok (.isub, 1) := by decide +kernel
theorem dX3_insert_62 : decode cX3_insert 62 = .ok (.iaload, 1) := by decide +kernel
theorem dX3_insert_63 : decode cX3_insert 63 = .ok (.iastore, 1) := by decide +kernel
theorem dX3_insert_64 : decode cX3_insert 64 = .ok (.iinc 3 (-1), 3) := by decide +kernel
theorem dX3_insert_67 : decode cX3_insert 67 = .ok (.goto (-53), 3) := by decide +kernel
theorem dX3_insert_70 : decode cX3_insert 70 = .ok (.aload_n 0, 1) := by decide +kernel
theorem dX3_insert_71 : decode cX3_insert 71 = .ok (.getfield 9, 3) := by decide +kernel
theorem dX3_insert_74 : decode cX3_insert 74 = .ok (.iload_n 3, 1) := by decide +kernel
theorem dX3_insert_75 : decode cX3_insert 75 = .ok (.iload_n 1, 1) := by decide +kernel
theorem dX3_insert_76 : decode cX3_insert 76 = .ok (.iastore, 1) := by decide +kernel
theorem dX3_insert_77 : decode cX3_insert 77 = .ok (.aload_n 0, 1) := by decide +kernel
theorem dX3_insert_78 : decode cX3_insert 78 = .ok (.getfield 15, 3) := by decide +kernel
theorem dX3_insert_81 : decode cX3_insert 81 = .ok (.iload_n 3, 1) := by decide +kernel
theorem dX3_insert_82 : decode cX3_insert 82 = .ok (.iload_n 2, 1) := by decide +kernel
theorem dX3_insert_83 : decode cX3_insert 83 = .ok (.iastore, 1) := by decide +kernel
theorem dX3_insert_84 : decode cX3_insert 84 = .ok (.aload_n 0, 1) := by decide +kernel
theorem dX3_insert_85 : decode cX3_insert 85 = .ok (.dup, 1) := by decide +kernel
theorem dX3_insert_86 : decode cX3_insert 86 = .ok (.getfield 18, 3) := by decide +kernel
theorem dX3_insert_89 : decode cX3_insert 89 = .ok (.iconst 1, 1) := by decide +kernel
theorem dX3_insert_90 : decode cX3_insert 90 = .ok (.iadd, 1) := by decide +kernel
theorem dX3_insert_91 : decode cX3_insert 91 = .ok (.putfield 18, 3) := by decide +kernel
theorem dX3_insert_94 : decode cX3_insert 94 = .ok (.return_, 1) := by decide +kernel
set_option maxRecDepth 20000 in
theorem ggX3_rankOf_X4_hashOf : GoodIn wsX3_rankOf wsX4_hashOf := goodIn_r _ [3] (by decide +kernel) (by decide +kernel)
set_option maxRecDepth 20000 in
theorem gX3_rankOf_X4_hashOf_n43 : GoodIn wsX3_rankOf (wsX4_hashOf) := ggX3_rankOf_X4_hashOf
theorem dX3_rankOf_0 : decode cX3_rankOf 0 = .ok (.iload_n 0, 1) := by decide +kernel
theorem dX3_rankOf_1 : decode cX3_rankOf 1 = .ok (.invokestatic 43, 3) := by decide +kernel
theorem dX3_rankOf_4 : decode cX3_rankOf 4 = .ok (.sipush 1000, 3) := by decide +kernel
theorem dX3_rankOf_7 : decode cX3_rankOf 7 = .ok (.imul, 1) := by decide +kernel
theorem dX3_rankOf_8 : decode cX3_rankOf 8 = .ok (.iload_n 0, 1) := by decide +kernel
theorem dX3_rankOf_9 : decode cX3_rankOf 9 = .ok (.iadd, 1) := by decide +kernel
theorem dX3_rankOf_10 : decode cX3_rankOf 10 = .ok (.ireturn, 1) := by decide +kernel
set_option maxRecDepth 20000 in
theorem ggX3_takeOut_X3_indexOf : GoodIn wsX3_takeOut wsX3_indexOf := goodIn_r _ [8, 1, 2, 9, 10, 11, 12, 13, 14, 15] (by decide +kernel) (by decide +kernel)
set_option maxRecDepth 20000 in
theorem gX3_takeOut_X3_indexOf : GoodIn wsX3_takeOut (wsV RX3 36 RX3 yX3_indexOf wsX3_indexOf) := goodIn_app (goodIn_of _ (by decide +kernel)) ggX3_takeOut_X3_indexOf
theorem dX3_takeOut_0 : decode cX3_takeOut 0 = .ok (.aload_n 0, 1) := by decide +kernel
theorem dX3_takeOut_1 : decode cX3_takeOut 1 = .ok (.iload_n 1, 1) := by decide +kernel
theorem dX3_takeOut_2 : decode cX3_takeOut 2 = .ok (.invokevirtual 36, 3) := by decide +kernel
theorem dX3_takeOut_5 : decode cX3_takeOut 5 = .ok (.istore_n 2, 1) := by decide +kernel
theorem dX3_takeOut_6 : decode cX3_takeOut 6 = .ok (.iload_n 2, 1) := by decide +kernel
theorem dX3_takeOut_7 : decode cX3_takeOut 7 = .ok (.ifCond .ge 4, 3) := by decide +kernel
theorem dX3_takeOut_10 : decode cX3_takeOut 10 = .ok (.return_, 1) := by decide +kernel
theorem dX3_takeOut_11 : decode cX3_takeOut 11 = .ok (.aload_n 0, 1) := by decide +kernel
theorem dX3_takeOut_12 : decode cX3_takeOut 12 = .ok (.dup, 1) := by decide +kernel
theorem dX3_takeOut_13 : decode cX3_takeOut 13 = .ok (.getfield 18, 3) := by decide +kernel
theorem dX3_takeOut_16 : decode cX3_takeOut 16 = .ok (.iconst 1, 1) := by decide +kernel
theorem dX3_takeOut_17 : decode cX3_takeOut 17 = .ok (.isub, 1) := by decide +kernel
theorem dX3_takeOut_18 : decode cX3_takeOut 18 = .ok (.putfield 18, 3) := by decide +kernel
theorem dX3_takeOut_21 : decode cX3_takeOut 21 = .ok (.iload_n 2, 1) := by decide +kernel
theorem dX3_takeOut_22 : decode cX3_takeOut 22 = .ok (.istore_n 3, 1) := by decide +kernel
theorem dX3_takeOut_23 : decode cX3_takeOut 23 = .ok (.iload_n 3, 1) := by decide +kernel
theorem dX3_takeOut_24 : decode cX3_takeOut 24 = .ok (.aload_n 0, 1) := by decide +kernel
theorem dX3_takeOut_25 : decode cX3_takeOut 25 = .ok (.getfield 18, 3) := by decide +kernel
theorem dX3_takeOut_28 : decode cX3_takeOut 28 = .ok (.if_icmp .ge 37, 3) := by decide +kernel
theorem dX3_takeOut_31 : decode cX3_takeOut 31 = .ok (.aload_n 0, 1) := by decide +kernel
theorem dX3_takeOut_32 : decode cX3_takeOut 32 = .ok (.getfield 9, 3) := by decide +kernel
theorem dX3_takeOut_35 : decode cX3_takeOut 35 = .ok (.iload_n 3, 1) := by decide +kernel
theorem dX3_takeOut_36 : decode cX3_takeOut 36 = .ok (.aload_n 0, 1) := by decide +kernel
theorem dX3_takeOut_37 : decode cX3_takeOut 37 = .ok (.getfield 9, 3) := by decide +kernel
theorem dX3_takeOut_40 : decode cX3_takeOut 40 = .ok (.iload_n 3, 1) := by decide +kernel
theorem dX3_takeOut_41 : decode cX3_takeOut 41 = .ok (.iconst 1, 1) := by decide +kernel
theorem dX3_takeOut_42 : decode cX3_takeOut 42 = .ok (.iadd, 1) := by decide +kernel
theorem dX3_takeOut_43 : decode cX3_takeOut 43 = .ok (.iaload, 1) := by decide +kernel
theorem dX3_takeOut_44 : decode cX3_takeOut 44 = .ok (.iastore, 1) := by decide +kernel
theorem dX3_takeOut_45 : decode cX3_takeOut 45 = .ok (.aload_n 0, 1) := by decide +kernel
theorem dX3_takeOut_46 : decode cX3_takeOut 46 = .ok (.getfield 15, 3) := by decide +kernel
theorem dX3_takeOut_49 : decode cX3_takeOut 49 = .ok (.iload_n 3, 1) := by decide +kernel
theorem dX3_takeOut_50 : decode cX3_takeOut 50 = .ok (.aload_n 0, 1) := by decide +kernel
theorem dX3_takeOut_51 : decode cX3_takeOut 51 = .ok (.getfield 15, 3) := by decide +kernel
theorem dX3_takeOut_54 : decode cX3_takeOut 54 = .ok (.iload_n 3, 1) := by decide +kernel
theorem dX3_takeOut_55 : decode cX3_takeOut 55 = .ok (.iconst 1, 1) := by decide +kernel
theorem dX3_takeOut_56 : decode cX3_takeOut 56 = .ok (.iadd, 1) := by decide +kernel
theorem dX3_takeOut_57 : decode cX3_takeOut 57 = .ok (.iaload, 1) := by decide +kernel
theorem dX3_takeOut_58 : decode cX3_takeOut 58 = .ok (.iastore, 1) := by decide +kernel
theorem dX3_takeOut_59 : decode cX3_takeOut 59 = .ok (.iinc 3 1, 3) := by decide +kernel
theorem dX3_takeOut_62 : decode cX3_takeOut 62 = .ok (.goto (-39), 3) := by decide +kernel
theorem dX3_takeOut_65 : decode cX3_takeOut 65 = .ok (.return_, 1) := by decide +kernel
set_option maxRecDepth 20000 in
theorem ggX3_split_X4_hashOf : GoodIn wsX3_split wsX4_hashOf := goodIn_r _ [9] (by decide +kernel) (by decide +kernel)
set_option maxRecDepth 20000 in
theorem gX3_split_X4_hashOf_n43 : GoodIn wsX3_split (wsX4_hashOf) := ggX3_split_X4_hashOf
set_option maxRecDepth 20000 in
theorem ggX3_split_X3_init : GoodIn wsX3_split wsX3_init := goodIn_r _ [12, 13, 14, 15, 16, 1, 6, 5, 17, 18, 19, 20, 32, 33, 34, 35, 36, 37, 38] (by decide +kernel) (by decide +kernel)
set_option maxRecDepth 20000 in
theorem gX3_split_X3_init : GoodIn wsX3_split (wsX3_init) := ggX3_split_X3_init
set_option maxRecDepth 20000 in
theorem ggX3_split_X3_insert : GoodIn wsX3_split wsX3_insert := goodIn_r _ [24, 5, 1, 6, 25, 26, 4, 27, 7, 8, 9, 32, 33, 34, 35, 36, 37, 38] (by decide +kernel) (by decide +kernel)
set_option maxRecDepth 20000 in
theorem gX3_split_X3_insert : GoodIn wsX3_split (wsV RX3 49 RX3 yX3_insert wsX3_insert) := goodIn_app (goodIn_of _ (by decide +kernel)) ggX3_split_X3_insert
set_option maxRecDepth 20000 in
theorem ggX3_split_X3_linkBehind : GoodIn wsX3_split wsX3_linkBehind := goodIn_r _ [31, 17, 18, 32, 33, 34, 35, 36, 37, 38] (by decide +kernel) (by decide +kernel)
set_option maxRecDepth 20000 in
theorem gX3_split_X3_linkBehind : GoodIn wsX3_split (wsV RX3 53 RX3 yX3_linkBehind wsX3_linkBehind) := goodIn_app (goodIn_of _ (by decide +kernel)) ggX3_split_X3_linkBehind
theorem dX3_split_0 : decode cX3_split 0 = .ok (.aload_n 0, 1) := by decide +kernel
theorem dX3_split_1 : decode cX3_split 1 = .ok (.getfield 9, 3) := by decide +kernel
theorem dX3_split_4 : decode cX3_split 4 = .ok (.iconst 2, 1) := by decide +kernel
theorem dX3_split_5 : decode cX3_split 5 = .ok (.iaload, 1) := by decide +kernel
theorem dX3_split_6 : decode cX3_split 6 = .ok (.invokestatic 43, 3) := by decide +kernel
theorem dX3_split_9 : decode cX3_split 9 = .ok (.istore_n 1, 1) := by decide +kernel
theorem dX3_split_10 : decode cX3_split 10 = .ok (.iload_n 1, 1) := by decide +kernel
theorem dX3_split_11 : decode cX3_split 11 = .ok (.aload_n 0, 1) := by decide +kernel
theorem dX3_split_12 : decode cX3_split 12 = .ok (.getfield 9, 3) := by decide +kernel
theorem dX3_split_15 : decode cX3_split 15 = .ok (.iconst 1, 1) := by decide +kernel
theorem dX3_split_16 : decode cX3_split 16 = .ok (.iaload, 1) := by decide +kernel
theorem dX3_split_17 : decode cX3_split 17 = .ok (.invokestatic 43, 3) := by decide +kernel
theorem dX3_split_20 : decode cX3_split 20 = .ok (.if_icmp .ne 7, 3) := by decide +kernel
theorem dX3_split_23 : decode cX3_split 23 = .ok (.iconst 1, 1) := by decide +kernel
theorem dX3_split_24 : decode cX3_split 24 = .ok (.goto 4, 3) := by decide +kernel
theorem dX3_split_27 : decode cX3_split 27 = .ok (.iconst 0, 1) := by decide +kernel
theorem dX3_split_28 : decode cX3_split 28 = .ok (.istore_n 2, 1) := by decide +kernel
theorem dX3_split_29 : decode cX3_split 29 = .ok (.new 10, 3) := by decide +kernel
theorem dX3_split_32 : decode cX3_split 32 = .ok (.dup, 1) := by decide +kernel
theorem dX3_split_33 : decode cX3_split 33 = .ok (.iload_n 1, 1) := by decide +kernel
theorem dX3_split_34 : decode cX3_split 34 = .ok (.iload_n 2, 1) := by decide +kernel
theorem dX3_split_35 : decode cX3_split 35 = .ok (.invokespecial 46, 3) := by decide +kernel
theorem dX3_split_38 : decode cX3_split 38 = .ok (.astore_n 3, 1) := by decide +kernel
theorem dX3_split_39 : decode cX3_split 39 = .ok (.iconst 2, 1) := by decide +kernel
theorem dX3_split_40 : decode cX3_split 40 = .ok (.istore 4, 2) := by decide +kernel
theorem dX3_split_42 : decode cX3_split 42 = .ok (.iload 4, 2) := by decide +kernel
theorem dX3_split_44 : decode cX3_split 44 = .ok (.aload_n 0, 1) := by decide +kernel
theorem dX3_split_45 : decode cX3_split 45 = .ok (.getfield 18, 3) := by decide +kernel
theorem dX3_split_48 : decode cX3_split 48 = .ok (.if_icmp .ge 33, 3) := by decide +kernel
theorem dX3_split_51 : decode cX3_split 51 = .ok (.iload 4, 2) := by decide +kernel
theorem dX3_split_53 : decode cX3_split 53 = .ok (.iconst 4, 1) := by decide +kernel
theorem dX3_split_54 : decode cX3_split 54 = .ok (.if_icmp .ge 27, 3) := by decide +kernel
theorem dX3_split_57 : decode cX3_split 57 = .ok (.aload_n 3, 1) := by decide +kernel
theorem dX3_split_58 : decode cX3_split 58 = .ok (.aload_n 0, 1) := by decide +kernel
theorem dX3_split_59 : decode cX3_split 59 = .ok (.getfield 9, 3) := by decide +kernel
theorem dX3_split_62 : decode cX3_split 62 = .ok (.iload 4, 2) := by decide +kernel
theorem dX3_split_64 : decode cX3_split 64 = .ok (.iaload, 1) := by decide +kernel
theorem dX3_split_65 : decode cX3_split 65 = .ok (.aload_n 0, 1) := by decide +kernel
theorem dX3_split_66 : decode cX3_split 66 = .ok (.getfield 15, 3) := by decide +kernel
theorem dX3_split_69 : decode cX3_split 69 = .ok (.iload 4, 2) := by decide +kernel
theorem dX3_split_71 : decode cX3_split 71 = .ok (.iaload, 1) := by decide +kernel
theorem dX3_split_72 : decode cX3_split 72 = .ok (.invokevirtual 49, 3) := by decide +kernel
theorem dX3_split_75 : decode cX3_split 75 = .ok (.iinc 4 1, 3) := by decide +kernel
theorem dX3_split_78 : decode cX3_split 78 = .ok (.goto (-36), 3) := by decide +kernel
theorem dX3_split_81 : decode cX3_split 81 = .ok (.aload_n 0, 1) := by decide +kernel
theorem dX3_split_82 : decode cX3_split 82 = .ok (.iconst 2, 1) := by decide +kernel
theorem dX3_split_83 : decode cX3_split 83 = .ok (.putfield 18, 3) := by decide +kernel
theorem dX3_split_86 : decode cX3_split 86 = .ok (.aload_n 0, 1) := by decide +kernel
theorem dX3_split_87 : decode cX3_split 87 = .ok (.aload_n 3, 1) := by decide +kernel
theorem dX3_split_88 : decode cX3_split 88 = .ok (.invokevirtual 53, 3) := by decide +kernel
theorem dX3_split_91 : decode cX3_split 91 = .ok (.return_, 1) := by decide +kernel
theorem dX3_linkBehind_0 : decode cX3_linkBehind 0 = .ok (.aload_n 1, 1) := by decide +kernel
theorem dX3_linkBehind_1 : decode cX3_linkBehind 1 = .ok (.aload_n 0, 1) := by decide +kernel
theorem dX3_linkBehind_2 : decode cX3_linkBehind 2 = .ok (.putfield 22, 3) := by decide +kernel
theorem dX3_linkBehind_5 : decode cX3_linkBehind 5 = .ok (.aload_n 1, 1) := by decide +kernel
theorem dX3_linkBehind_6 : decode cX3_linkBehind 6 = .ok (.aload_n 0, 1) := by decide +kernel
theorem dX3_linkBehind_7 : decode cX3_linkBehind 7 = .ok (.getfield 26, 3) := by decide +kernel
theorem dX3_linkBehind_10 : decode cX3_linkBehind 10 = .ok (.putfield 26, 3) := by decide +kernel
theorem dX3_linkBehind_13 : decode cX3_linkBehind 13 = .ok (.aload_n 0, 1) := by decide +kernel
theorem dX3_linkBehind_14 : decode cX3_linkBehind 14 = .ok (.getfield 26, 3) := by decide +kernel
theorem dX3_linkBehind_17 : decode cX3_linkBehind 17 = .ok (.ifnull 11, 3) := by decide +kernel
theorem dX3_linkBehind_20 : decode cX3_linkBehind 20 = .ok (.aload_n 0, 1) := by decide +kernel
theorem dX3_linkBehind_21 : decode cX3_linkBehind 21 = .ok (.getfield 26, 3) := by decide +kernel
theorem dX3_linkBehind_24 : decode cX3_linkBehind 24 = .ok (.aload_n 1, 1) := by decide +kernel
theorem dX3_linkBehind_25 : decode cX3_linkBehind 25 = .ok (.putfield 22, 3) := by decide +kernel
theorem dX3_linkBehind_28 : decode cX3_linkBehind 28 = .ok (.aload_n 0, 1) := by decide +kernel
theorem dX3_linkBehind_29 : decode cX3_linkBehind 29 = .ok (.aload_n 1, 1) := by decide +kernel
theorem dX3_linkBehind_30 : decode cX3_linkBehind 30 = .ok (.putfield 26, 3) := by decide +kernel
theorem dX3_linkBehind_33 : decode cX3_linkBehind 33 = .ok (.return_, 1) := by decide +kernel
end
section
set_option maxRecDepth 20000 in
theorem ggX4_init_X2_init : GoodIn wsX4_init wsX2_init := goodIn_r _ [19, 20, 2, 3, 21, 22, 23, 61, 62] (by decide +kernel) (by decide +kernel)
set_option maxRecDepth 20000 in
theorem gX4_init_X2_init_n9 : GoodIn wsX4_init (wsX2_init) := ggX4_init_X2_init
set_option maxRecDepth 20000 in
theorem ggX4_init_X1_init : GoodIn wsX4_init wsX1_init := goodIn_r _ [25, 26, 2, 3, 27, 28, 29, 30, 31, 32, 33, 34, 35, 36, 37, 38, 39, 40, 41, 42, 81, 82, 83, 84, 85, 86, 87, 68, 69] (by decide +kernel) (by decide +kernel)
set_option maxRecDepth 20000 in
theorem gX4_init_X1_init_n18 : GoodIn wsX4_init (wsX1_init) := ggX4_init_X1_init
set_option maxRecDepth 20000 in
theorem ggX4_init_X0_init : GoodIn wsX4_init wsX0_init := goodIn_r _ [44, 45, 2, 3, 35, 46, 47, 48, 49, 50, 51, 52, 53, 54, 55, 56, 57, 58, 59, 60, 70, 71, 72, 73, 74, 75, 76, 77, 78, 79, 80] (by decide +kernel) (by decide +kernel)
set_option maxRecDepth 20000 in
theorem gX4_init_X0_init_n37 : GoodIn wsX4_init (wsX0_init) := ggX4_init_X0_init
theorem dX4_init_0 : decode cX4_init 0 = .ok (.aload_n 0, 1) := by decide +kernel
theorem dX4_init_1 : decode cX4_init 1 = .ok (.invokespecial 1, 3) := by decide +kernel
theorem dX4_init_4 : decode cX4_init 4 = .ok (.aload_n 0, 1) := by decide +kernel
theorem dX4_init_5 : decode cX4_init 5 = .ok (.new 7, 3) := by decide +kernel
theorem dX4_init_8 : decode cX4_init 8 = .ok (.dup, 1) := by decide +kernel
theorem dX4_init_9 : decode cX4_init 9 = .ok (.invokespecial 9, 3) := by decide +kernel
theorem dX4_init_12 : decode cX4_init 12 = .ok (.putfield 10, 3) := by decide +kernel
theorem dX4_init_15 : decode cX4_init 15 = .ok (.aload_n 0, 1) := by decide +kernel
theorem dX4_init_16 : decode cX4_init 16 = .ok (.new 16, 3) := by decide +kernel
theorem dX4_init_19 : decode cX4_init 19 = .ok (.dup, 1) := by decide +kernel
theorem dX4_init_20 : decode cX4_init 20 = .ok (.invokespecial 18, 3) := by decide +kernel
theorem dX4_init_23 : decode cX4_init 23 = .ok (.putfield 19, 3) := by decide +kernel
theorem dX4_init_26 : decode cX4_init 26 = .ok (.aload_n 0, 1) := by decide +kernel
theorem dX4_init_27 : decode cX4_init 27 = .ok (.bipush 16, 2) := by decide +kernel
theorem dX4_init_29 : decode cX4_init 29 = .ok (.anewarray 23, 3) := by decide +kernel
theorem dX4_init_32 : decode cX4_init 32 = .ok (.putfield 25, 3) := by decide +kernel
theorem dX4_init_35 : decode cX4_init 35 = .ok (.aload_n 0, 1) := by decide +kernel
theorem dX4_init_36 : decode cX4_init 36 = .ok (.iconst (-1), 1) := by decide +kernel
theorem dX4_init_37 : decode cX4_init 37 = .ok (.putfield 29, 3) := by decide +kernel
theorem dX4_init_40 : decode cX4_init 40 = .ok (.aload_n 0, 1) := by decide +kernel
theorem dX4_init_41 : decode cX4_init 41 = .ok (.iconst 0, 1) := by decide +kernel
theorem dX4_init_42 : decode cX4_init 42 = .ok (.putfield 33, 3) := by decide +kernel
theorem dX4_init_45 : decode cX4_init 45 = .ok (.iconst 0, 1) := by decide +kernel
theorem dX4_init_46 : decode cX4_init 46 = .ok (.istore_n 1, 1) := by decide +kernel
theorem dX4_init_47 : decode cX4_init 47 = .ok (.iload_n 1, 1) := by decide +kernel
theorem dX4_init_48 : decode cX4_init 48 = .ok (.bipush 16, 2) := by decide +kernel
theorem dX4_init_50 : decode cX4_init 50 = .ok (.if_icmp .ge 23, 3) := by decide +kernel
theorem dX4_init_53 : decode cX4_init 53 = .ok (.aload_n 0, 1) := by decide +kernel
theorem dX4_init_54 : decode cX4_init 54 = .ok (.getfield 25, 3) := by decide +kernel
theorem dX4_init_57 : decode cX4_init 57 = .ok (.iload_n 1, 1) := by decide +kernel
theorem dX4_init_58 : decode cX4_init 58 = .ok (.new 23, 3) := by decide +kernel
theorem dX4_init_61 : decode cX4_init 61 = .ok (.dup, 1) := by decide +kernel
theorem dX4_init_62 : decode cX4_init 62 = .ok (.iload_n 1, 1) := by decide +kernel
theorem dX4_init_63 : decode cX4_init 63 = .ok (.invokespecial 37, 3) := by decide +kernel
theorem dX4_init_66 : decode cX4_init 66 = .ok (.aastore, 1) := by decide +kernel
theorem dX4_init_67 : decode cX4_init 67 = .ok (.iinc 1 1, 3) := by decide +kernel
theorem dX4_init_70 : decode cX4_init 70 = .ok (.goto (-23), 3) := by decide +kernel
theorem dX4_init_73 : decode cX4_init 73 = .ok (.return_, 1) := by decide +kernel
set_option maxRecDepth 20000 in
theorem ggX4_create_X4_requireName : GoodIn wsX4_create wsX4_requireName := goodIn_ca (goodIn_r _ [8, 9, 10, 7, 11, 12, 13] (by decide +kernel) (by decide +kernel)) (goodIn_sub (fun _ h => List.mem_cons_of_mem _ (List.mem_append_right _ h)) (by decide +kernel))
set_option maxRecDepth 20000 in
theorem gX4_create_X4_requireName : GoodIn wsX4_create (va_wsS RX4 40 yX4_requireName wsX4_requireName) := goodIn_app (goodIn_of _ (by decide +kernel)) ggX4_create_X4_requireName
set_option maxRecDepth 20000 in
theorem ggX4_create_X4_requireUp : GoodIn wsX4_create wsX4_requireUp := goodIn_ca (goodIn_r _ [17, 1, 2, 18, 98, 99, 100, 101, 102] (by decide +kernel) (by decide +kernel)) (goodIn_sub (fun _ h => List.mem_cons_of_mem _ (List.mem_append_left _ (List.mem_append_right _ h))) (by decide +kernel))
set_option maxRecDepth 20000 in
theorem gX4_create_X4_requireUp : GoodIn wsX4_create (wsV RX4 43 RX4 yX4_requireUp wsX4_requireUp) := goodIn_app (goodIn_of _ (by decide +kernel)) ggX4_create_X4_requireUp
set_option maxRecDepth 20000 in
theorem ggX4_create_X4_lowestUnusedFile : GoodIn wsX4_create wsX4_lowestUnusedFile := goodIn_r _ [22, 4, 98, 99, 100, 101, 102, 103, 104, 105, 106, 107, 108, 109, 110, 111, 112, 113] (by decide +kernel) (by decide +kernel)
set_option maxRecDepth 20000 in
theorem gX4_create_X4_lowestUnusedFile : GoodIn wsX4_create (wsV RX4 46 RX4 yX4_lowestUnusedFile wsX4_lowestUnusedFile) := goodIn_app (goodIn_of _ (by decide +kernel)) ggX4_create_X4_lowestUnusedFile
set_option maxRecDepth 20000 in
theorem ggX4_create_X1_fileWith : GoodIn wsX4_create wsX1_fileWith := goodIn_r _ [26, 27, 28, 29, 24, 30, 31, 7, 32, 33, 34, 35, 36, 37, 38, 39, 40, 41, 42, 43, 44, 45, 46, 47, 48, 49, 50, 51, 52, 53, 54, 55, 56, 57, 58, 59, 60, 114, 115, 116, 117, 118, 119, 120, 121, 122] (by decide +kernel) (by decide +kernel)
set_option maxRecDepth 20000 in
theorem gX4_create_X1_fileWith_n50 : GoodIn wsX4_create (wsX1_fileWith) := ggX4_create_X1_fileWith
set_option maxRecDepth 20000 in
theorem ggX4_create_X1_isFull : GoodIn wsX4_create wsX1_isFull := goodIn_r _ [63, 64, 121, 122] (by decide +kernel) (by decide +kernel)
set_option maxRecDepth 20000 in
theorem gX4_create_X1_isFull_n54 : GoodIn wsX4_create (wsX1_isFull) := ggX4_create_X1_isFull
set_option maxRecDepth 20000 in
theorem ggX4_create_X1_add : GoodIn wsX4_create wsX1_add := goodIn_r _ [67, 64, 31, 7, 32, 37, 38, 39, 24, 40, 41, 68, 43, 69, 70, 56, 71, 72, 55, 60, 73, 74, 75, 76, 77, 78, 79, 80, 81, 47, 46, 82, 83, 84, 85, 86, 87, 88, 89, 90, 91, 92, 114, 115, 116, 117, 118, 119, 120, 121, 122] (by decide +kernel) (by decide +kernel)
set_option maxRecDepth 20000 in
theorem gX4_create_X1_add_n65 : GoodIn wsX4_create (wsX1_add) := ggX4_create_X1_add
set_option maxRecDepth 20000 in
theorem ggX4_create_X0_begin : GoodIn wsX4_create wsX0_begin := goodIn_r _ [96, 97, 103, 104, 105, 106, 107, 108, 109, 110, 111, 112, 113] (by decide +kernel) (by decide +kernel)
set_option maxRecDepth 20000 in
theorem gX4_create_X0_begin_n69 : GoodIn wsX4_create (wsX0_begin) := ggX4_create_X0_begin
theorem dX4_create_0 : decode cX4_create 0 = .ok (.iload_n 1, 1) := by decide +kernel
theorem dX4_create_1 : decode cX4_create 1 = .ok (.invokestatic 40, 3) := by decide +kernel
theorem dX4_create_4 : decode cX4_create 4 = .ok (.aload_n 0, 1) := by decide +kernel
theorem dX4_create_5 : decode cX4_create 5 = .ok (.invokevirtual 43, 3) := by decide +kernel
theorem dX4_create_8 : decode cX4_create 8 = .ok (.aload_n 0, 1) := by decide +kernel
theorem dX4_create_9 : decode cX4_create 9 = .ok (.invokevirtual 46, 3) := by decide +kernel
theorem dX4_create_12 : decode cX4_create 12 = .ok (.istore_n 2, 1) := by decide +kernel
theorem dX4_create_13 : decode cX4_create 13 = .ok (.iload_n 2, 1) := by decide +kernel
theorem dX4_create_14 : decode cX4_create 14 = .ok (.iconst (-1), 1) := by decide +kernel
theorem dX4_create_15 : decode cX4_create 15 = .ok (.if_icmp .eq 25, 3) := by decide +kernel
theorem dX4_create_18 : decode cX4_create 18 = .ok (.aload_n 0, 1) := by decide +kernel
theorem dX4_create_19 : decode cX4_create 19 = .ok (.getfield 19, 3) := by decide +kernel
theorem dX4_create_22 : decode cX4_create 22 = .ok (.iload_n 1, 1) := by decide +kernel
theorem dX4_create_23 : decode cX4_create 23 = .ok (.invokevirtual 50, 3) := by decide +kernel
theorem dX4_create_26 : decode cX4_create 26 = .ok (.iconst (-1), 1) := by decide +kernel
theorem dX4_create_27 : decode cX4_create 27 = .ok (.if_icmp .ne 13, 3) := by decide +kernel
theorem dX4_create_30 : decode cX4_create 30 = .ok (.aload_n 0, 1) := by decide +kernel
theorem dX4_create_31 : decode cX4_create 31 = .ok (.getfield 19, 3) := by decide +kernel
theorem dX4_create_34 : decode cX4_create 34 = .ok (.invokevirtual 54, 3) := by decide +kernel
theorem dX4_create_37 : decode cX4_create 37 = .ok (.ifCond .eq 13, 3) := by decide +kernel
theorem dX4_create_40 : decode cX4_create 40 = .ok (.new 58, 3) := by decide +kernel
theorem dX4_create_43 : decode cX4_create 43 = .ok (.dup, 1) := by decide +kernel
theorem dX4_create_44 : decode cX4_create 44 = .ok (.ldc 60, 2) := by decide +kernel
theorem dX4_create_46 : decode cX4_create 46 = .ok (.invokespecial 62, 3) := by decide +kernel
theorem dX4_create_49 : decode cX4_create 49 = .ok (.athrow, 1) := by decide +kernel
theorem dX4_create_50 : decode cX4_create 50 = .ok (.aload_n 0, 1) := by decide +kernel
theorem dX4_create_51 : decode cX4_create 51 = .ok (.getfield 19, 3) := by decide +kernel
theorem dX4_create_54 : decode cX4_create 54 = .ok (.iload_n 1, 1) := by decide +kernel
theorem dX4_create_55 : decode cX4_create 55 = .ok (.iload_n 2, 1) := by decide +kernel
theorem dX4_create_56 : decode cX4_create 56 = .ok (.invokevirtual 65, 3) := by decide +kernel
theorem dX4_create_59 : decode cX4_create 59 = .ok (.aload_n 0, 1) := by decide +kernel
theorem dX4_create_60 : decode cX4_create 60 = .ok (.getfield 25, 3) := by decide +kernel
theorem dX4_create_63 : decode cX4_create 63 = .ok (.iload_n 2, 1) := by decide +kernel
theorem dX4_create_64 : decode cX4_create 64 = .ok (.aaload, 1) := by decide +kernel
theorem dX4_create_65 : decode cX4_create 65 = .ok (.invokevirtual 69, 3) := by decide +kernel
theorem dX4_create_68 : decode cX4_create 68 = .ok (.iload_n 2, 1) := by decide +kernel
theorem dX4_create_69 : decode cX4_create 69 = .ok (.ireturn, 1) := by decide +kernel
set_option maxRecDepth 20000 in
theorem ggX4_open_X4_requireName : GoodIn wsX4_open wsX4_requireName := goodIn_ca (goodIn_r _ [5, 6, 7, 4, 8, 9, 10] (by decide +kernel) (by decide +kernel)) (goodIn_sub (fun _ h => List.mem_cons_of_mem _ (List.mem_append_left _ (List.mem_append_right _ h))) (by decide +kernel))
set_option maxRecDepth 20000 in
theorem gX4_open_X4_requireName : GoodIn wsX4_open (va_wsS RX4 40 yX4_requireName wsX4_requireName) := goodIn_app (goodIn_of _ (by decide +kernel)) ggX4_open_X4_requireName
set_option maxRecDepth 20000 in
theorem ggX4_open_X4_requireUp : GoodIn wsX4_open wsX4_requireUp := goodIn_ca (goodIn_r _ [14, 15, 16, 17, 61, 62, 63, 64, 65] (by decide +kernel) (by decide +kernel)) (goodIn_sub (fun _ h => List.mem_cons_of_mem _ (List.mem_append_right _ h)) (by decide +kernel))
set_option maxRecDepth 20000 in
theorem gX4_open_X4_requireUp : GoodIn wsX4_open (wsV RX4 43 RX4 yX4_requireUp wsX4_requireUp) := goodIn_app (goodIn_of _ (by decide +kernel)) ggX4_open_X4_requireUp
set_option maxRecDepth 20000 in
theorem ggX4_open_X4_requireFileWith : GoodIn wsX4_open wsX4_requireFileWith := goodIn_ca (goodIn_r _ [21, 15, 16, 22, 23, 24, 25, 26, 27, 28, 29, 30, 31, 4, 32, 33, 34, 35, 36, 37, 38, 39, 40, 41, 42, 43, 44, 45, 46, 47, 48, 49, 50, 51, 52, 53, 54, 55, 56, 57, 58, 59, 60, 61, 62, 63, 64, 65, 77, 78, 79, 80, 81, 82, 83, 84, 85] (by decide +kernel) (by decide +kernel)) (goodIn_sub (fun _ h => List.mem_cons_of_mem _ (List.mem_append_right _ h)) (by decide +kernel))
set_option maxRecDepth 20000 in
theorem gX4_open_X4_requireFileWith : GoodIn wsX4_open (wsV RX4 72 RX4 yX4_requireFileWith wsX4_requireFileWith) := goodIn_app (goodIn_of _ (by decide +kernel)) ggX4_open_X4_requireFileWith
theorem dX4_open_0 : decode cX4_open 0 = .ok (.iload_n 1, 1) := by decide +kernel
theorem dX4_open_1 : decode cX4_open 1 = .ok (.invokestatic 40, 3) := by decide +kernel
theorem dX4_open_4 : decode cX4_open 4 = .ok (.aload_n 0, 1) := by decide +kernel
theorem dX4_open_5 : decode cX4_open 5 = .ok (.invokevirtual 43, 3) := by decide +kernel
theorem dX4_open_8 : decode cX4_open 8 = .ok (.aload_n 0, 1) := by decide +kernel
theorem dX4_open_9 : decode cX4_open 9 = .ok (.iload_n 1, 1) := by decide +kernel
theorem dX4_open_10 : decode cX4_open 10 = .ok (.invokevirtual 72, 3) := by decide +kernel
theorem dX4_open_13 : decode cX4_open 13 = .ok (.istore_n 2, 1) := by decide +kernel
theorem dX4_open_14 : decode cX4_open 14 = .ok (.aload_n 0, 1) := by decide +kernel
theorem dX4_open_15 : decode cX4_open 15 = .ok (.getfield 25, 3) := by decide +kernel
theorem dX4_open_18 : decode cX4_open 18 = .ok (.iload_n 2, 1) := by decide +kernel
theorem dX4_open_19 : decode cX4_open 19 = .ok (.aaload, 1) := by decide +kernel
theorem dX4_open_20 : decode cX4_open 20 = .ok (.dup, 1) := by decide +kernel
theorem dX4_open_21 : decode cX4_open 21 = .ok (.getfield 75, 3) := by decide +kernel
theorem dX4_open_24 : decode cX4_open 24 = .ok (.iconst 1, 1) := by decide +kernel
theorem dX4_open_25 : decode cX4_open 25 = .ok (.iadd, 1) := by decide +kernel
theorem dX4_open_26 : decode cX4_open 26 = .ok (.putfield 75, 3) := by decide +kernel
theorem dX4_open_29 : decode cX4_open 29 = .ok (.iload_n 2, 1) := by decide +kernel
theorem dX4_open_30 : decode cX4_open 30 = .ok (.ireturn, 1) := by decide +kernel
set_option maxRecDepth 20000 in
theorem ggX4_close_X4_requireContent : GoodIn wsX4_close wsX4_requireContent := goodIn_ca (goodIn_r _ [7, 8, 9, 10, 80, 81, 82, 83, 84, 69, 70, 71, 72, 73, 74, 75, 76, 77, 78, 79] (by decide +kernel) (by decide +kernel)) (goodIn_sub (fun _ h => List.mem_cons_of_mem _ (List.mem_append_right _ h)) (by decide +kernel))
set_option maxRecDepth 20000 in
theorem gX4_close_X4_requireContent : GoodIn wsX4_close (wsV RX4 78 RX4 yX4_requireContent wsX4_requireContent) := goodIn_app (goodIn_of _ (by decide +kernel)) ggX4_close_X4_requireContent
set_option maxRecDepth 20000 in
theorem ggX4_close_X4_requireUp : GoodIn wsX4_close wsX4_requireUp := goodIn_ca (goodIn_r _ [14, 1, 2, 15, 80, 81, 82, 83, 84] (by decide +kernel) (by decide +kernel)) (goodIn_sub (fun _ h => List.mem_cons_of_mem _ (List.mem_append_left _ (List.mem_append_right _ h))) (by decide +kernel))
set_option maxRecDepth 20000 in
theorem gX4_close_X4_requireUp : GoodIn wsX4_close (wsV RX4 43 RX4 yX4_requireUp wsX4_requireUp) := goodIn_app (goodIn_of _ (by decide +kernel)) ggX4_close_X4_requireUp
set_option maxRecDepth 20000 in
theorem ggX4_close_X4_erase : GoodIn wsX4_close wsX4_erase := goodIn_r _ [19, 20, 21, 22, 6, 23, 24, 25, 26, 27, 28, 29, 30, 31, 32, 33, 34, 35, 36, 37, 38, 39, 40, 41, 42, 43, 44, 45, 46, 47, 48, 49, 50, 51, 52, 53, 54, 55, 56, 57, 58, 59, 60, 61, 62, 63, 64, 15, 10, 65, 66, 67, 68, 69, 70, 71, 72, 73, 74, 75, 76, 77, 78, 79, 80, 81, 82, 83, 84, 85, 86] (by decide +kernel) (by decide +kernel)
set_option maxRecDepth 20000 in
theorem gX4_close_X4_erase : GoodIn wsX4_close (wsV RX4 87 RX4 yX4_erase wsX4_erase) := goodIn_app (goodIn_of _ (by decide +kernel)) ggX4_close_X4_erase
theorem dX4_close_0 : decode cX4_close 0 = .ok (.aload_n 0, 1) := by decide +kernel
theorem dX4_close_1 : decode cX4_close 1 = .ok (.iload_n 1, 1) := by decide +kernel
theorem dX4_close_2 : decode cX4_close 2 = .ok (.invokevirtual 78, 3) := by decide +kernel
theorem dX4_close_5 : decode cX4_close 5 = .ok (.astore_n 2, 1) := by decide +kernel
theorem dX4_close_6 : decode cX4_close 6 = .ok (.aload_n 0, 1) := by decide +kernel
theorem dX4_close_7 : decode cX4_close 7 = .ok (.invokevirtual 43, 3) := by decide +kernel
theorem dX4_close_10 : decode cX4_close 10 = .ok (.aload_n 2, 1) := by decide +kernel
theorem dX4_close_11 : decode cX4_close 11 = .ok (.getfield 75, 3) := by decide +kernel
theorem dX4_close_14 : decode cX4_close 14 = .ok (.ifCond .ne 13, 3) := by decide +kernel
theorem dX4_close_17 : decode cX4_close 17 = .ok (.new 58, 3) := by decide +kernel
theorem dX4_close_20 : decode cX4_close 20 = .ok (.dup, 1) := by decide +kernel
theorem dX4_close_21 : decode cX4_close 21 = .ok (.ldc 82, 2) := by decide +kernel
theorem dX4_close_23 : decode cX4_close 23 = .ok (.invokespecial 62, 3) := by decide +kernel
theorem dX4_close_26 : decode cX4_close 26 = .ok (.athrow, 1) := by decide +kernel
theorem dX4_close_27 : decode cX4_close 27 = .ok (.aload_n 2, 1) := by decide +kernel
theorem dX4_close_28 : decode cX4_close 28 = .ok (.dup, 1) := by decide +kernel
theorem dX4_close_29 : decode cX4_close 29 = .ok (.getfield 75, 3) := by decide +kernel
theorem dX4_close_32 : decode cX4_close 32 = .ok (.iconst 1, 1) := by decide +kernel
theorem dX4_close_33 : decode cX4_close 33 = .ok (.isub, 1) := by decide +kernel
theorem dX4_close_34 : decode cX4_close 34 = .ok (.putfield 75, 3) := by decide +kernel
theorem dX4_close_37 : decode cX4_close 37 = .ok (.aload_n 2, 1) := by decide +kernel
theorem dX4_close_38 : decode cX4_close 38 = .ok (.getfield 84, 3) := by decide +kernel
theorem dX4_close_41 : decode cX4_close 41 = .ok (.ifCond .eq 20, 3) := by decide +kernel
theorem dX4_close_44 : decode cX4_close 44 = .ok (.aload_n 2, 1) := by decide +kernel
theorem dX4_close_45 : decode cX4_close 45 = .ok (.getfield 75, 3) := by decide +kernel
theorem dX4_close_48 : decode cX4_close 48 = .ok (.ifCond .ne 13, 3) := by decide +kernel
theorem dX4_close_51 : decode cX4_close 51 = .ok (.aload_n 0, 1) := by decide +kernel
theorem dX4_close_52 : decode cX4_close 52 = .ok (.aload_n 2, 1) := by decide +kernel
theorem dX4_close_53 : decode cX4_close 53 = .ok (.invokevirtual 87, 3) := by decide +kernel
theorem dX4_close_56 : decode cX4_close 56 = .ok (.ifCond .ne 5, 3) := by decide +kernel
theorem dX4_close_59 : decode cX4_close 59 = .ok (.iconst (-1), 1) := by decide +kernel
theorem dX4_close_60 : decode cX4_close 60 = .ok (.ireturn, 1) := by decide +kernel
theorem dX4_close_61 : decode cX4_close 61 = .ok (.aload_n 2, 1) := by decide +kernel
theorem dX4_close_62 : decode cX4_close 62 = .ok (.getfield 75, 3) := by decide +kernel
theorem dX4_close_65 : decode cX4_close 65 = .ok (.ireturn, 1) := by decide +kernel
set_option maxRecDepth 20000 in
theorem ggX4_delete_X4_requireName : GoodIn wsX4_delete wsX4_requireName := goodIn_ca (goodIn_r _ [6, 7, 8, 5, 9, 10, 11] (by decide +kernel) (by decide +kernel)) (goodIn_sub (fun _ h => List.mem_cons_of_mem _ (List.mem_append_left _ (List.mem_append_right _ h))) (by decide +kernel))
set_option maxRecDepth 20000 in
theorem gX4_delete_X4_requireName : GoodIn wsX4_delete (va_wsS RX4 40 yX4_requireName wsX4_requireName) := goodIn_app (goodIn_of _ (by decide +kernel)) ggX4_delete_X4_requireName
set_option maxRecDepth 20000 in
theorem ggX4_delete_X4_requireUp : GoodIn wsX4_delete wsX4_requireUp := goodIn_ca (goodIn_r _ [15, 16, 17, 18, 120, 121, 122, 123, 124] (by decide +kernel) (by decide +kernel)) (goodIn_sub (fun _ h => List.mem_cons_of_mem _ (List.mem_append_right _ h)) (by decide +kernel))
set_option maxRecDepth 20000 in
theorem gX4_delete_X4_requireUp : GoodIn wsX4_delete (wsV RX4 43 RX4 yX4_requireUp wsX4_requireUp) := goodIn_app (goodIn_of _ (by decide +kernel)) ggX4_delete_X4_requireUp
set_option maxRecDepth 20000 in
theorem ggX4_delete_X4_requireFileWith : GoodIn wsX4_delete wsX4_requireFileWith := goodIn_ca (goodIn_r _ [22, 16, 17, 2, 23, 24, 25, 26, 27, 28, 29, 30, 31, 5, 32, 33, 34, 35, 36, 37, 38, 39, 40, 41, 42, 43, 44, 45, 46, 47, 48, 49, 50, 51, 52, 53, 54, 55, 56, 57, 58, 59, 60, 120, 121, 122, 123, 124, 136, 137, 138, 139, 140, 141, 142, 143, 144] (by decide +kernel) (by decide +kernel)) (goodIn_sub (fun _ h => List.mem_cons_of_mem _ (List.mem_append_right _ h)) (by decide +kernel))
set_option maxRecDepth 20000 in
theorem gX4_delete_X4_requireFileWith : GoodIn wsX4_delete (wsV RX4 72 RX4 yX4_requireFileWith wsX4_requireFileWith) := goodIn_app (goodIn_of _ (by decide +kernel)) ggX4_delete_X4_requireFileWith
set_option maxRecDepth 20000 in
theorem ggX4_delete_X1_takeOut : GoodIn wsX4_delete wsX1_takeOut := goodIn_r _ [63, 27, 28, 29, 24, 30, 31, 5, 32, 33, 34, 35, 36, 37, 38, 39, 40, 41, 42, 43, 44, 45, 46, 47, 48, 49, 50, 51, 52, 53, 54, 55, 56, 64, 65, 66, 60, 136, 137, 138, 139, 140, 141, 142, 143, 144] (by decide +kernel) (by decide +kernel)
set_option maxRecDepth 20000 in
theorem gX4_delete_X1_takeOut_n91 : GoodIn wsX4_delete (wsX1_takeOut) := ggX4_delete_X1_takeOut
set_option maxRecDepth 20000 in
theorem ggX4_delete_X4_erase : GoodIn wsX4_delete wsX4_erase := goodIn_r _ [70, 71, 72, 73, 5, 74, 75, 76, 77, 78, 79, 80, 81, 82, 83, 84, 85, 86, 87, 88, 89, 90, 91, 92, 93, 94, 95, 96, 97, 98, 99, 100, 101, 102, 103, 104, 105, 106, 107, 108, 109, 110, 111, 112, 113, 114, 115, 18, 1, 116, 117, 118, 119, 125, 126, 127, 128, 129, 130, 131, 132, 133, 134, 135, 120, 121, 122, 123, 124, 145, 146] (by decide +kernel) (by decide +kernel)
set_option maxRecDepth 20000 in
theorem gX4_delete_X4_erase : GoodIn wsX4_delete (wsV RX4 87 RX4 yX4_erase wsX4_erase) := goodIn_app (goodIn_of _ (by decide +kernel)) ggX4_delete_X4_erase
theorem dX4_delete_0 : decode cX4_delete 0 = .ok (.iload_n 1, 1) := by decide +kernel
theorem dX4_delete_1 : decode cX4_delete 1 = .ok (.invokestatic 40, 3) := by decide +kernel
theorem dX4_delete_4 : decode cX4_delete 4 = .ok (.aload_n 0, 1) := by decide +kernel
theorem dX4_delete_5 : decode cX4_delete 5 = .ok (.invokevirtual 43, 3) := by decide +kernel
theorem dX4_delete_8 : decode cX4_delete 8 = .ok (.aload_n 0, 1) := by decide +kernel
theorem dX4_delete_9 : decode cX4_delete 9 = .ok (.iload_n 1, 1) := by decide +kernel
theorem dX4_delete_10 : decode cX4_delete 10 = .ok (.invokevirtual 72, 3) := by decide +kernel
theorem dX4_delete_13 : decode cX4_delete 13 = .ok (.istore_n 2, 1) := by decide +kernel
theorem dX4_delete_14 : decode cX4_delete 14 = .ok (.aload_n 0, 1) := by decide +kernel
theorem dX4_delete_15 : decode cX4_delete 15 = .ok (.getfield 25, 3) := by decide +kernel
theorem dX4_delete_18 : decode cX4_delete 18 = .ok (.iload_n 2, 1) := by decide +kernel
theorem dX4_delete_19 : decode cX4_delete 19 = .ok (.aaload, 1) := by decide +kernel
theorem dX4_delete_20 : decode cX4_delete 20 = .ok (.astore_n 3, 1) := by decide +kernel
theorem dX4_delete_21 : decode cX4_delete 21 = .ok (.aload_n 0, 1) := by decide +kernel
theorem dX4_delete_22 : decode cX4_delete 22 = .ok (.getfield 19, 3) := by decide +kernel
theorem dX4_delete_25 : decode cX4_delete 25 = .ok (.iload_n 1, 1) := by decide +kernel
theorem dX4_delete_26 : decode cX4_delete 26 = .ok (.invokevirtual 91, 3) := by decide +kernel
theorem dX4_delete_29 : decode cX4_delete 29 = .ok (.aload_n 3, 1) := by decide +kernel
theorem dX4_delete_30 : decode cX4_delete 30 = .ok (.iconst 1, 1) := by decide +kernel
theorem dX4_delete_31 : decode cX4_delete 31 = .ok (.putfield 94, 3) := by decide +kernel
theorem dX4_delete_34 : decode cX4_delete 34 = .ok (.aload_n 3, 1) := by decide +kernel
theorem dX4_delete_35 : decode cX4_delete 35 = .ok (.iconst 1, 1) := by decide +kernel
theorem dX4_delete_36 : decode cX4_delete 36 = .ok (.putfield 84, 3) := by decide +kernel
theorem dX4_delete_39 : decode cX4_delete 39 = .ok (.aload_n 3, 1) := by decide +kernel
theorem dX4_delete_40 : decode cX4_delete 40 = .ok (.getfield 75, 3) := by decide +kernel
theorem dX4_delete_43 : decode cX4_delete 43 = .ok (.ifCond .ne 13, 3) := by decide +kernel
theorem dX4_delete_46 : decode cX4_delete 46 = .ok (.aload_n 0, 1) := by decide +kernel
theorem dX4_delete_47 : decode cX4_delete 47 = .ok (.aload_n 3, 1) := by decide +kernel
theorem dX4_delete_48 : decode cX4_delete 48 = .ok (.invokevirtual 87, 3) := by decide +kernel
theorem dX4_delete_51 : decode cX4_delete 51 = .ok (.ifCond .ne 5, 3) := by decide +kernel
theorem dX4_delete_54 : decode cX4_delete 54 = .ok (.iconst (-1), 1) := by decide +kernel
theorem dX4_delete_55 : decode cX4_delete 55 = .ok (.ireturn, 1) := by decide +kernel
theorem dX4_delete_56 : decode cX4_delete 56 = .ok (.iload_n 2, 1) := by decide +kernel
theorem dX4_delete_57 : decode cX4_delete 57 = .ok (.ireturn, 1) := by decide +kernel
set_option maxRecDepth 20000 in
theorem ggX4_write_X4_requireContent : GoodIn wsX4_write wsX4_requireContent := goodIn_ca (goodIn_r _ [7, 8, 9, 10, 65, 66, 67, 68, 69, 70, 71, 72, 73, 74, 75, 76, 77, 78, 79, 80] (by decide +kernel) (by decide +kernel)) (goodIn_sub (fun _ h => List.mem_cons_of_mem _ (List.mem_append_left _ (List.mem_append_right _ h))) (by decide +kernel))
set_option maxRecDepth 20000 in
theorem gX4_write_X4_requireContent : GoodIn wsX4_write (wsV RX4 78 RX4 yX4_requireContent wsX4_requireContent) := goodIn_app (goodIn_of _ (by decide +kernel)) ggX4_write_X4_requireContent
set_option maxRecDepth 20000 in
theorem ggX4_write_X4_requireRange : GoodIn wsX4_write wsX4_requireRange := goodIn_ca (goodIn_r _ [13, 14, 15] (by decide +kernel) (by decide +kernel)) (goodIn_sub (fun _ h => List.mem_cons_of_mem _ (List.mem_append_right _ h)) (by decide +kernel))
set_option maxRecDepth 20000 in
theorem gX4_write_X4_requireRange : GoodIn wsX4_write (va_wsS RX4 97 yX4_requireRange wsX4_requireRange) := goodIn_app (goodIn_of _ (by decide +kernel)) ggX4_write_X4_requireRange
set_option maxRecDepth 20000 in
theorem ggX4_write_X4_requireUp : GoodIn wsX4_write wsX4_requireUp := goodIn_ca (goodIn_r _ [19, 1, 2, 20, 65, 66, 67, 68, 69] (by decide +kernel) (by decide +kernel)) (goodIn_sub (fun _ h => List.mem_cons_of_mem _ (List.mem_append_left _ (List.mem_append_left _ (List.mem_append_right _ h)))) (by decide +kernel))
set_option maxRecDepth 20000 in
theorem gX4_write_X4_requireUp : GoodIn wsX4_write (wsV RX4 43 RX4 yX4_requireUp wsX4_requireUp) := goodIn_app (goodIn_of _ (by decide +kernel)) ggX4_write_X4_requireUp
set_option maxRecDepth 20000 in
theorem ggX4_write_X0_emptyPlaces : GoodIn wsX4_write wsX0_emptyPlaces := goodIn_r _ [24, 25, 70, 71, 72, 73, 74, 75, 76, 77, 78, 79, 80] (by decide +kernel) (by decide +kernel)
set_option maxRecDepth 20000 in
theorem gX4_write_X0_emptyPlaces_n101 : GoodIn wsX4_write (wsX0_emptyPlaces) := ggX4_write_X0_emptyPlaces
set_option maxRecDepth 20000 in
theorem ggX4_write_X4_left : GoodIn wsX4_write wsX4_left := goodIn_r _ [29, 30, 31, 32, 6, 33, 34, 35, 36, 37, 38, 10, 65, 66, 67, 68, 69, 81, 82, 70, 71, 72, 73, 74, 75, 76, 77, 78, 79, 80] (by decide +kernel) (by decide +kernel)
set_option maxRecDepth 20000 in
theorem gX4_write_X4_left : GoodIn wsX4_write (wsV RX4 105 RX4 yX4_left wsX4_left) := goodIn_app (goodIn_of _ (by decide +kernel)) ggX4_write_X4_left
set_option maxRecDepth 20000 in
theorem ggX4_write_X4_kept : GoodIn wsX4_write wsX4_kept := goodIn_r _ [42, 10, 65, 66, 67, 68, 69, 70, 71, 72, 73, 74, 75, 76, 77, 78, 79, 80] (by decide +kernel) (by decide +kernel)
set_option maxRecDepth 20000 in
theorem gX4_write_X4_kept : GoodIn wsX4_write (wsV RX4 108 RX4 yX4_kept wsX4_kept) := goodIn_app (goodIn_of _ (by decide +kernel)) ggX4_write_X4_kept
set_option maxRecDepth 20000 in
theorem ggX4_write_X4_releaseAllKept : GoodIn wsX4_write wsX4_releaseAllKept := goodIn_r _ [46, 10, 47, 48, 49, 6, 50, 34, 51, 52, 53, 54, 55, 56, 57, 58, 59, 60, 65, 66, 67, 68, 69, 70, 71, 72, 73, 74, 75, 76, 77, 78, 79, 80, 81, 82] (by decide +kernel) (by decide +kernel)
set_option maxRecDepth 20000 in
theorem gX4_write_X4_releaseAllKept : GoodIn wsX4_write (wsV RX4 113 RX4 yX4_releaseAllKept wsX4_releaseAllKept) := goodIn_app (goodIn_of _ (by decide +kernel)) ggX4_write_X4_releaseAllKept
set_option maxRecDepth 20000 in
theorem ggX4_write_X0_reserve : GoodIn wsX4_write wsX0_reserve := goodIn_r _ [63, 25, 64, 70, 71, 72, 73, 74, 75, 76, 77, 78, 79, 80] (by decide +kernel) (by decide +kernel)
set_option maxRecDepth 20000 in
theorem gX4_write_X0_reserve_n116 : GoodIn wsX4_write (wsX0_reserve) := ggX4_write_X0_reserve
theorem dX4_write_0 : decode cX4_write 0 = .ok (.aload_n 0, 1) := by decide +kernel
theorem dX4_write_1 : decode cX4_write 1 = .ok (.iload_n 1, 1) := by decide +kernel
theorem dX4_write_2 : decode cX4_write 2 = .ok (.invokevirtual 78, 3) := by decide +kernel
theorem dX4_write_5 : decode cX4_write 5 = .ok (.astore 4, 2) := by decide +kernel
theorem dX4_write_7 : decode cX4_write 7 = .ok (.iload_n 2, 1) := by decide +kernel
theorem dX4_write_8 : decode cX4_write 8 = .ok (.iconst 0, 1) := by decide +kernel
theorem dX4_write_9 : decode cX4_write 9 = .ok (.bipush 63, 2) := by decide +kernel
theorem dX4_write_11 : decode cX4_write 11 = .ok (.invokestatic 97, 3) := by decide +kernel
theorem dX4_write_14 : decode cX4_write 14 = .ok (.iload_n 3, 1) := by decide +kernel
theorem dX4_write_15 : decode cX4_write 15 = .ok (.iconst 1, 1) := by decide +kernel
theorem dX4_write_16 : decode cX4_write 16 = .ok (.bipush 64, 2) := by decide +kernel
theorem dX4_write_18 : decode cX4_write 18 = .ok (.iload_n 2, 1) := by decide +kernel
theorem dX4_write_19 : decode cX4_write 19 = .ok (.isub, 1) := by decide +kernel
theorem dX4_write_20 : decode cX4_write 20 = .ok (.invokestatic 97, 3) := by decide +kernel
theorem dX4_write_23 : decode cX4_write 23 = .ok (.aload_n 0, 1) := by decide +kernel
theorem dX4_write_24 : decode cX4_write 24 = .ok (.invokevirtual 43, 3) := by decide +kernel
theorem dX4_write_27 : decode cX4_write 27 = .ok (.aload 4, 2) := by decide +kernel
theorem dX4_write_29 : decode cX4_write 29 = .ok (.iload_n 2, 1) := by decide +kernel
theorem dX4_write_30 : decode cX4_write 30 = .ok (.iload_n 2, 1) := by decide +kernel
theorem dX4_write_31 : decode cX4_write 31 = .ok (.iload_n 3, 1) := by decide +kernel
theorem dX4_write_32 : decode cX4_write 32 = .ok (.iadd, 1) := by decide +kernel
theorem dX4_write_33 : decode cX4_write 33 = .ok (.invokevirtual 101, 3) := by decide +kernel
theorem dX4_write_36 : decode cX4_write 36 = .ok (.istore 5, 2) := by decide +kernel
theorem dX4_write_38 : decode cX4_write 38 = .ok (.iload 5, 2) := by decide +kernel
theorem dX4_write_40 : decode cX4_write 40 = .ok (.aload_n 0, 1) := by decide +kernel
theorem dX4_write_41 : decode cX4_write 41 = .ok (.invokevirtual 105, 3) := by decide +kernel
theorem dX4_write_44 : decode cX4_write 44 = .ok (.if_icmp .le 31, 3) := by decide +kernel
theorem dX4_write_47 : decode cX4_write 47 = .ok (.iload 5, 2) := by decide +kernel
theorem dX4_write_49 : decode cX4_write 49 = .ok (.aload_n 0, 1) := by decide +kernel
theorem dX4_write_50 : decode cX4_write 50 = .ok (.invokevirtual 105, 3) := by decide +kernel
theorem dX4_write_53 : decode cX4_write 53 = .ok (.aload_n 0, 1) := by decide +kernel
theorem dX4_write_54 : decode cX4_write 54 = .ok (.invokevirtual 108, 3) := by decide +kernel
theorem dX4_write_57 : decode cX4_write 57 = .ok (.iadd, 1) := by decide +kernel
theorem dX4_write_58 : decode cX4_write 58 = .ok (.if_icmp .le 13, 3) := by decide +kernel
theorem dX4_write_61 : decode cX4_write 61 = .ok (.new 58, 3) := by decide +kernel
theorem dX4_write_64 : decode cX4_write 64 = .ok (.dup, 1) := by decide +kernel
theorem dX4_write_65 : decode cX4_write 65 = .ok (.ldc 111, 2) := by decide +kernel
theorem dX4_write_67 : decode cX4_write 67 = .ok (.invokespecial 62, 3) := by decide +kernel
theorem dX4_write_70 : decode cX4_write 70 = .ok (.athrow, 1) := by decide +kernel
theorem dX4_write_71 : decode cX4_write 71 = .ok (.aload_n 0, 1) := by decide +kernel
theorem dX4_write_72 : decode cX4_write 72 = .ok (.invokevirtual 113, 3) := by decide +kernel
theorem dX4_write_75 : decode cX4_write 75 = .ok (.aload 4, 2) := by decide +kernel
theorem dX4_write_77 : decode cX4_write 77 = .ok (.iload_n 2, 1) := by decide +kernel
theorem dX4_write_78 : decode cX4_write 78 = .ok (.iload_n 2, 1) := by decide +kernel
theorem dX4_write_79 : decode cX4_write 79 = .ok (.iload_n 3, 1) := by decide +kernel
theorem dX4_write_80 : decode cX4_write 80 = .ok (.iadd, 1) := by decide +kernel
theorem dX4_write_81 : decode cX4_write 81 = .ok (.invokevirtual 116, 3) := by decide +kernel
theorem dX4_write_84 : decode cX4_write 84 = .ok (.iload 5, 2) := by decide +kernel
theorem dX4_write_86 : decode cX4_write 86 = .ok (.ireturn, 1) := by decide +kernel
set_option maxRecDepth 20000 in
theorem ggX4_flush_X4_requireContent : GoodIn wsX4_flush wsX4_requireContent := goodIn_ca (goodIn_r _ [5, 6, 7, 8, 112, 113, 114, 115, 116, 117, 118, 119, 120, 121, 122, 123, 124, 125, 126, 127] (by decide +kernel) (by decide +kernel)) (goodIn_sub (fun _ h => List.mem_cons_of_mem _ (List.mem_append_left _ (List.mem_append_right _ h))) (by decide +kernel))
set_option maxRecDepth 20000 in
theorem gX4_flush_X4_requireContent : GoodIn wsX4_flush (wsV RX4 78 RX4 yX4_requireContent wsX4_requireContent) := goodIn_app (goodIn_of _ (by decide +kernel)) ggX4_flush_X4_requireContent
set_option maxRecDepth 20000 in
theorem ggX4_flush_X4_requireUp : GoodIn wsX4_flush wsX4_requireUp := goodIn_ca (goodIn_r _ [12, 13, 14, 15, 112, 113, 114, 115, 116] (by decide +kernel) (by decide +kernel)) (goodIn_sub (fun _ h => List.mem_cons_of_mem _ (List.mem_append_right _ h)) (by decide +kernel))
set_option maxRecDepth 20000 in
theorem gX4_flush_X4_requireUp : GoodIn wsX4_flush (wsV RX4 43 RX4 yX4_requireUp wsX4_requireUp) := goodIn_app (goodIn_of _ (by decide +kernel)) ggX4_flush_X4_requireUp
set_option maxRecDepth 20000 in
theorem ggX4_flush_X0_isReserved : GoodIn wsX4_flush wsX0_isReserved := goodIn_r _ [19, 20, 117, 118, 119, 120, 121, 122, 123, 124, 125, 126, 127] (by decide +kernel) (by decide +kernel)
set_option maxRecDepth 20000 in
theorem gX4_flush_X0_isReserved_n119 : GoodIn wsX4_flush (wsX0_isReserved) := ggX4_flush_X0_isReserved
set_option maxRecDepth 20000 in
theorem ggX4_flush_X0_endOfReserved : GoodIn wsX4_flush wsX0_endOfReserved := goodIn_r _ [23, 24, 16, 18, 17, 19, 20, 117, 118, 119, 120, 121, 122, 123, 124, 125, 126, 127] (by decide +kernel) (by decide +kernel)
set_option maxRecDepth 20000 in
theorem gX4_flush_X0_endOfReserved_n123 : GoodIn wsX4_flush (wsX0_endOfReserved) := ggX4_flush_X0_endOfReserved
set_option maxRecDepth 20000 in
theorem ggX4_flush_X4_mapRow : GoodIn wsX4_flush wsX4_mapRow := goodIn_r _ [28, 29, 17, 30, 31, 32, 33, 34, 35, 36, 37, 38, 39, 40, 41, 42, 43, 44, 45, 20, 46, 47, 48, 49, 50, 51, 52, 53, 4, 54, 55, 56, 57, 58, 59, 60, 61, 62, 63, 64, 65, 66, 67, 68, 69, 70, 71, 72, 73, 74, 75, 76, 77, 78, 79, 8, 80, 81, 82, 83, 84, 85, 86, 87, 88, 89, 90, 91, 92, 93, 94, 95, 96, 97, 98, 99, 100, 101, 102, 103, 104, 105, 106, 107, 108, 109, 110, 111, 117, 118, 119, 120, 121, 122, 123, 124, 125, 126, 127, 112, 113, 114, 115, 116, 128, 129] (by decide +kernel) (by decide +kernel)
set_option maxRecDepth 20000 in
theorem gX4_flush_X4_mapRow : GoodIn wsX4_flush (wsV RX4 126 RX4 yX4_mapRow wsX4_mapRow) := goodIn_app (goodIn_of _ (by decide +kernel)) ggX4_flush_X4_mapRow
theorem dX4_flush_0 : decode cX4_flush 0 = .ok (.aload_n 0, 1) := by decide +kernel
theorem dX4_flush_1 : decode cX4_flush 1 = .ok (.iload_n 1, 1) := by decide +kernel
theorem dX4_flush_2 : decode cX4_flush 2 = .ok (.invokevirtual 78, 3) := by decide +kernel
theorem dX4_flush_5 : decode cX4_flush 5 = .ok (.astore_n 2, 1) := by decide +kernel
theorem dX4_flush_6 : decode cX4_flush 6 = .ok (.aload_n 0, 1) := by decide +kernel
theorem dX4_flush_7 : decode cX4_flush 7 = .ok (.invokevirtual 43, 3) := by decide +kernel
theorem dX4_flush_10 : decode cX4_flush 10 = .ok (.iconst 0, 1) := by decide +kernel
theorem dX4_flush_11 : decode cX4_flush 11 = .ok (.istore_n 3, 1) := by decide +kernel
theorem dX4_flush_12 : decode cX4_flush 12 = .ok (.iconst 0, 1) := by decide +kernel
theorem dX4_flush_13 : decode cX4_flush 13 = .ok (.istore 4, 2) := by decide +kernel
theorem dX4_flush_15 : decode cX4_flush 15 = .ok (.iload 4, 2) := by decide +kernel
theorem dX4_flush_17 : decode cX4_flush 17 = .ok (.bipush 64, 2) := by decide +kernel
theorem dX4_flush_19 : decode cX4_flush 19 = .ok (.if_icmp .ge 34, 3) := by decide +kernel
theorem dX4_flush_22 : decode cX4_flush 22 = .ok (.aload_n 2, 1) := by decide +kernel
theorem dX4_flush_23 : decode cX4_flush 23 = .ok (.iload 4, 2) := by decide +kernel
theorem dX4_flush_25 : decode cX4_flush 25 = .ok (.invokevirtual 119, 3) := by decide +kernel
theorem dX4_flush_28 : decode cX4_flush 28 = .ok (.ifCond .eq 19, 3) := by decide +kernel
theorem dX4_flush_31 : decode cX4_flush 31 = .ok (.iload_n 3, 1) := by decide +kernel
theorem dX4_flush_32 : decode cX4_flush 32 = .ok (.aload_n 0, 1) := by decide +kernel
theorem dX4_flush_33 : decode cX4_flush 33 = .ok (.aload_n 2, 1) := by decide +kernel
theorem dX4_flush_34 : decode cX4_flush 34 = .ok (.iload 4, 2) := by decide +kernel
theorem dX4_flush_36 : decode cX4_flush 36 = .ok (.aload_n 2, 1) := by decide +kernel
theorem dX4_flush_37 : decode cX4_flush 37 = .ok (.iload 4, 2) := by decide +kernel
theorem dX4_flush_39 : decode cX4_flush 39 = .ok (.invokevirtual 123, 3) := by decide +kernel
theorem dX4_flush_42 : decode cX4_flush 42 = .ok (.invokevirtual 126, 3) := by decide +kernel
theorem dX4_flush_45 : decode cX4_flush 45 = .ok (.iadd, 1) := by decide +kernel
theorem dX4_flush_46 : decode cX4_flush 46 = .ok (.istore_n 3, 1) := by decide +kernel
theorem dX4_flush_47 : decode cX4_flush 47 = .ok (.iinc 4 1, 3) := by decide +kernel
theorem dX4_flush_50 : decode cX4_flush 50 = .ok (.goto (-35), 3) := by decide +kernel
theorem dX4_flush_53 : decode cX4_flush 53 = .ok (.iload_n 3, 1) := by decide +kernel
theorem dX4_flush_54 : decode cX4_flush 54 = .ok (.ireturn, 1) := by decide +kernel
set_option maxRecDepth 20000 in
theorem ggX4_cut_X4_requireContent : GoodIn wsX4_cut wsX4_requireContent := goodIn_ca (goodIn_r _ [5, 6, 7, 8, 70, 71, 72, 73, 74, 75, 76, 77, 78, 79, 80, 81, 82, 83, 84, 85] (by decide +kernel) (by decide +kernel)) (goodIn_sub (fun _ h => List.mem_cons_of_mem _ (List.mem_append_left _ (List.mem_append_left _ (List.mem_append_right _ h)))) (by decide +kernel))
set_option maxRecDepth 20000 in
theorem gX4_cut_X4_requireContent : GoodIn wsX4_cut (wsV RX4 78 RX4 yX4_requireContent wsX4_requireContent) := goodIn_app (goodIn_of _ (by decide +kernel)) ggX4_cut_X4_requireContent
set_option maxRecDepth 20000 in
theorem ggX4_cut_X4_requireRange : GoodIn wsX4_cut wsX4_requireRange := goodIn_ca (goodIn_r _ [11, 12, 13] (by decide +kernel) (by decide +kernel)) (goodIn_sub (fun _ h => List.mem_cons_of_mem _ (List.mem_append_left _ (List.mem_append_right _ h))) (by decide +kernel))
set_option maxRecDepth 20000 in
theorem gX4_cut_X4_requireRange : GoodIn wsX4_cut (va_wsS RX4 97 yX4_requireRange wsX4_requireRange) := goodIn_app (goodIn_of _ (by decide +kernel)) ggX4_cut_X4_requireRange
set_option maxRecDepth 20000 in
theorem ggX4_cut_X4_requireUp : GoodIn wsX4_cut wsX4_requireUp := goodIn_ca (goodIn_r _ [17, 18, 19, 20, 70, 71, 72, 73, 74] (by decide +kernel) (by decide +kernel)) (goodIn_sub (fun _ h => List.mem_cons_of_mem _ (List.mem_append_right _ h)) (by decide +kernel))
set_option maxRecDepth 20000 in
theorem gX4_cut_X4_requireUp : GoodIn wsX4_cut (wsV RX4 43 RX4 yX4_requireUp wsX4_requireUp) := goodIn_app (goodIn_of _ (by decide +kernel)) ggX4_cut_X4_requireUp
set_option maxRecDepth 20000 in
theorem ggX4_cut_X4_cutTo : GoodIn wsX4_cut wsX4_cutTo := goodIn_r _ [24, 25, 26, 27, 28, 29, 30, 31, 32, 33, 4, 34, 35, 36, 37, 38, 39, 40, 41, 42, 43, 44, 45, 46, 47, 48, 49, 50, 51, 52, 53, 54, 55, 56, 57, 58, 59, 60, 61, 62, 63, 64, 65, 20, 8, 66, 67, 68, 69, 75, 76, 77, 78, 79, 80, 81, 82, 83, 84, 85, 70, 71, 72, 73, 74, 86, 87] (by decide +kernel) (by decide +kernel)
set_option maxRecDepth 20000 in
theorem gX4_cut_X4_cutTo : GoodIn wsX4_cut (wsV RX4 130 RX4 yX4_cutTo wsX4_cutTo) := goodIn_app (goodIn_of _ (by decide +kernel)) ggX4_cut_X4_cutTo
theorem dX4_cut_0 : decode cX4_cut 0 = .ok (.aload_n 0, 1) := by decide +kernel
theorem dX4_cut_1 : decode cX4_cut 1 = .ok (.iload_n 1, 1) := by decide +kernel
theorem dX4_cut_2 : decode cX4_cut 2 = .ok (.invokevirtual 78, 3) := by decide +kernel
theorem dX4_cut_5 : decode cX4_cut 5 = .ok (.astore_n 3, 1) := by decide +kernel
theorem dX4_cut_6 : decode cX4_cut 6 = .ok (.iload_n 2, 1) := by decide +kernel
theorem dX4_cut_7 : decode cX4_cut 7 = .ok (.iconst 0, 1) := by decide +kernel
theorem dX4_cut_8 : decode cX4_cut 8 = .ok (.bipush 64, 2) := by decide +kernel
theorem dX4_cut_10 : decode cX4_cut 10 = .ok (.invokestatic 97, 3) := by decide +kernel
theorem dX4_cut_13 : decode cX4_cut 13 = .ok (.aload_n 0, 1) := by decide +kernel
theorem dX4_cut_14 : decode cX4_cut 14 = .ok (.invokevirtual 43, 3) := by decide +kernel
theorem dX4_cut_17 : decode cX4_cut 17 = .ok (.aload_n 0, 1) := by decide +kernel
theorem dX4_cut_18 : decode cX4_cut 18 = .ok (.aload_n 3, 1) := by decide +kernel
theorem dX4_cut_19 : decode cX4_cut 19 = .ok (.iload_n 2, 1) := by decide +kernel
theorem dX4_cut_20 : decode cX4_cut 20 = .ok (.invokevirtual 130, 3) := by decide +kernel
theorem dX4_cut_23 : decode cX4_cut 23 = .ok (.ireturn, 1) := by decide +kernel
set_option maxRecDepth 20000 in
theorem ggX4_crashBehind_X4_requireRange : GoodIn wsX4_crashBehind wsX4_requireRange := goodIn_ca (goodIn_r _ [5, 6, 7] (by decide +kernel) (by decide +kernel)) (goodIn_sub (fun _ h => List.mem_cons_of_mem _ (List.mem_append_left _ (List.mem_append_right _ h))) (by decide +kernel))
set_option maxRecDepth 20000 in
theorem gX4_crashBehind_X4_requireRange : GoodIn wsX4_crashBehind (va_wsS RX4 97 yX4_requireRange wsX4_requireRange) := goodIn_app (goodIn_of _ (by decide +kernel)) ggX4_crashBehind_X4_requireRange
set_option maxRecDepth 20000 in
theorem ggX4_crashBehind_X4_requireUp : GoodIn wsX4_crashBehind wsX4_requireUp := goodIn_ca (goodIn_r _ [11, 12, 13, 14, 15, 16, 17, 18, 19] (by decide +kernel) (by decide +kernel)) (goodIn_sub (fun _ h => List.mem_cons_of_mem _ (List.mem_append_right _ h)) (by decide +kernel))
set_option maxRecDepth 20000 in
theorem gX4_crashBehind_X4_requireUp : GoodIn wsX4_crashBehind (wsV RX4 43 RX4 yX4_requireUp wsX4_requireUp) := goodIn_app (goodIn_of _ (by decide +kernel)) ggX4_crashBehind_X4_requireUp
theorem dX4_crashBehind_0 : decode cX4_crashBehind 0 = .ok (.iload_n 1, 1) := by decide +kernel
theorem dX4_crashBehind_1 : decode cX4_crashBehind 1 = .ok (.iconst (-1), 1) := by decide +kernel
theorem dX4_crashBehind_2 : decode cX4_crashBehind 2 = .ok (.if_icmp .eq 10, 3) := by decide +kernel
theorem dX4_crashBehind_5 : decode cX4_crashBehind 5 = .ok (.iload_n 1, 1) := by decide +kernel
theorem dX4_crashBehind_6 : decode cX4_crashBehind 6 = .ok (.iconst 1, 1) := by decide +kernel
theorem dX4_crashBehind_7 : decode cX4_crashBehind 7 = .ok (.bipush 50, 2) := by decide +kernel
theorem dX4_crashBehind_9 : decode cX4_crashBehind 9 = .ok (.invokestatic 97, 3) := by decide +kernel
theorem dX4_crashBehind_12 : decode cX4_crashBehind 12 = .ok (.aload_n 0, 1) := by decide +kernel
theorem dX4_crashBehind_13 : decode cX4_crashBehind 13 = .ok (.invokevirtual 43, 3) := by decide +kernel
theorem dX4_crashBehind_16 : decode cX4_crashBehind 16 = .ok (.aload_n 0, 1) := by decide +kernel
theorem dX4_crashBehind_17 : decode cX4_crashBehind 17 = .ok (.iload_n 1, 1) := by decide +kernel
theorem dX4_crashBehind_18 : decode cX4_crashBehind 18 = .ok (.putfield 29, 3) := by decide +kernel
theorem dX4_crashBehind_21 : decode cX4_crashBehind 21 = .ok (.return_, 1) := by decide +kernel
set_option maxRecDepth 20000 in
theorem ggX4_crash_X4_requireUp : GoodIn wsX4_crash wsX4_requireUp := goodIn_ca (goodIn_r _ [5, 6, 7, 8, 40, 41, 42, 43, 44] (by decide +kernel) (by decide +kernel)) (goodIn_sub (fun _ h => List.mem_cons_of_mem _ (List.mem_append_right _ h)) (by decide +kernel))
set_option maxRecDepth 20000 in
theorem gX4_crash_X4_requireUp : GoodIn wsX4_crash (wsV RX4 43 RX4 yX4_requireUp wsX4_requireUp) := goodIn_app (goodIn_of _ (by decide +kernel)) ggX4_crash_X4_requireUp
set_option maxRecDepth 20000 in
theorem ggX4_crash_X4_fall : GoodIn wsX4_crash wsX4_fall := goodIn_r _ [12, 8, 13, 14, 15, 16, 17, 4, 18, 19, 20, 21, 22, 23, 24, 25, 26, 27, 28, 29, 30, 31, 32, 33, 34, 35, 36, 37, 38, 39, 40, 41, 42, 43, 44, 45, 46, 47, 48, 49, 50, 51, 52, 53, 54, 55, 56, 57] (by decide +kernel) (by decide +kernel)
set_option maxRecDepth 20000 in
theorem gX4_crash_X4_fall : GoodIn wsX4_crash (wsV RX4 134 RX4 yX4_fall wsX4_fall) := goodIn_app (goodIn_of _ (by decide +kernel)) ggX4_crash_X4_fall
theorem dX4_crash_0 : decode cX4_crash 0 = .ok (.aload_n 0, 1) := by decide +kernel
theorem dX4_crash_1 : decode cX4_crash 1 = .ok (.invokevirtual 43, 3) := by decide +kernel
theorem dX4_crash_4 : decode cX4_crash 4 = .ok (.aload_n 0, 1) := by decide +kernel
theorem dX4_crash_5 : decode cX4_crash 5 = .ok (.invokevirtual 134, 3) := by decide +kernel
theorem dX4_crash_8 : decode cX4_crash 8 = .ok (.return_, 1) := by decide +kernel
set_option maxRecDepth 20000 in
theorem ggX4_start_X4_listed : GoodIn wsX4_start wsX4_listed := goodIn_r _ [9, 4, 63, 64, 65, 66, 67, 68, 69, 70, 71, 72, 73, 74, 75, 76, 77, 78] (by decide +kernel) (by decide +kernel)
set_option maxRecDepth 20000 in
theorem gX4_start_X4_listed : GoodIn wsX4_start (wsV RX4 139 RX4 yX4_listed wsX4_listed) := goodIn_app (goodIn_of _ (by decide +kernel)) ggX4_start_X4_listed
set_option maxRecDepth 20000 in
theorem ggX4_start_X4_erase : GoodIn wsX4_start wsX4_erase := goodIn_r _ [13, 14, 15, 16, 8, 17, 18, 19, 20, 21, 22, 23, 24, 25, 26, 27, 28, 29, 30, 31, 32, 33, 34, 35, 36, 37, 38, 39, 40, 41, 42, 43, 44, 45, 46, 47, 48, 49, 50, 51, 52, 53, 54, 55, 56, 57, 58, 3, 4, 59, 60, 61, 62, 68, 69, 70, 71, 72, 73, 74, 75, 76, 77, 78, 63, 64, 65, 66, 67, 79, 80] (by decide +kernel) (by decide +kernel)
set_option maxRecDepth 20000 in
theorem gX4_start_X4_erase : GoodIn wsX4_start (wsV RX4 87 RX4 yX4_erase wsX4_erase) := goodIn_app (goodIn_of _ (by decide +kernel)) ggX4_start_X4_erase
set_option maxRecDepth 20000 in
theorem ggX4_start_X4_cutTo : GoodIn wsX4_start wsX4_cutTo := goodIn_r _ [17, 18, 19, 20, 21, 22, 23, 24, 25, 26, 8, 27, 28, 29, 30, 31, 32, 33, 34, 35, 36, 37, 38, 39, 40, 41, 42, 43, 44, 45, 46, 47, 48, 49, 50, 51, 52, 53, 54, 55, 56, 57, 58, 3, 4, 59, 60, 61, 62, 68, 69, 70, 71, 72, 73, 74, 75, 76, 77, 78, 63, 64, 65, 66, 67, 79, 80] (by decide +kernel) (by decide +kernel)
set_option maxRecDepth 20000 in
theorem gX4_start_X4_cutTo : GoodIn wsX4_start (wsV RX4 130 RX4 yX4_cutTo wsX4_cutTo) := goodIn_app (goodIn_of _ (by decide +kernel)) ggX4_start_X4_cutTo
theorem dX4_start_0 : decode cX4_start 0 = .ok (.aload_n 0, 1) := by decide +kernel
theorem dX4_start_1 : decode cX4_start 1 = .ok (.getfield 33, 3) := by decide +kernel
theorem dX4_start_4 : decode cX4_start 4 = .ok (.ifCond .ne 13, 3) := by decide +kernel
theorem dX4_start_7 : decode cX4_start 7 = .ok (.new 58, 3) := by decide +kernel
theorem dX4_start_10 : decode cX4_start 10 = .ok (.dup, 1) := by decide +kernel
theorem dX4_start_11 : decode cX4_start 11 = .ok (.ldc 137, 2) := by decide +kernel
theorem dX4_start_13 : decode cX4_start 13 = .ok (.invokespecial 62, 3) := by decide +kernel
theorem dX4_start_16 : decode cX4_start 16 = .ok (.athrow, 1) := by decide +kernel
theorem dX4_start_17 : decode cX4_start 17 = .ok (.aload_n 0, 1) := by decide +kernel
theorem dX4_start_18 : decode cX4_start 18 = .ok (.iconst 0, 1) := by decide +kernel
theorem dX4_start_19 : decode cX4_start 19 = .ok (.putfield 33, 3) := by decide +kernel
theorem dX4_start_22 : decode cX4_start 22 = .ok (.aload_n 0, 1) := by decide +kernel
theorem dX4_start_23 : decode cX4_start 23 = .ok (.invokevirtual 139, 3) := by decide +kernel
theorem dX4_start_26 : decode cX4_start 26 = .ok (.istore_n 1, 1) := by decide +kernel
theorem dX4_start_27 : decode cX4_start 27 = .ok (.iconst 0, 1) := by decide +kernel
theorem dX4_start_28 : decode cX4_start 28 = .ok (.istore_n 2, 1) := by decide +kernel
theorem dX4_start_29 : decode cX4_start 29 = .ok (.iload_n 2, 1) := by decide +kernel
theorem dX4_start_30 : decode cX4_start 30 = .ok (.bipush 16, 2) := by decide +kernel
theorem dX4_start_32 : decode cX4_start 32 = .ok (.if_icmp .ge 49, 3) := by decide +kernel
theorem dX4_start_35 : decode cX4_start 35 = .ok (.aload_n 0, 1) := by decide +kernel
theorem dX4_start_36 : decode cX4_start 36 = .ok (.getfield 25, 3) := by decide +kernel
theorem dX4_start_39 : decode cX4_start 39 = .ok (.iload_n 2, 1) := by decide +kernel
theorem dX4_start_40 : decode cX4_start 40 = .ok (.aaload, 1) := by decide +kernel
theorem dX4_start_41 : decode cX4_start 41 = .ok (.astore_n 3, 1) := by decide +kernel
theorem dX4_start_42 : decode cX4_start 42 = .ok (.aload_n 3, 1) := by decide +kernel
theorem dX4_start_43 : decode cX4_start 43 = .ok (.getfield 84, 3) := by decide +kernel
theorem dX4_start_46 : decode cX4_start 46 = .ok (.ifCond .eq 12, 3) := by decide +kernel
theorem dX4_start_49 : decode cX4_start 49 = .ok (.aload_n 0, 1) := by decide +kernel
theorem dX4_start_50 : decode cX4_start 50 = .ok (.aload_n 3, 1) := by decide +kernel
theorem dX4_start_51 : decode cX4_start 51 = .ok (.invokevirtual 87, 3) := by decide +kernel
theorem dX4_start_54 : decode cX4_start 54 = .ok (.pop, 1) := by decide +kernel
theorem dX4_start_55 : decode cX4_start 55 = .ok (.goto 20, 3) := by decide +kernel
theorem dX4_start_58 : decode cX4_start 58 = .ok (.aload_n 3, 1) := by decide +kernel
theorem dX4_start_59 : decode cX4_start 59 = .ok (.getfield 94, 3) := by decide +kernel
theorem dX4_start_62 : decode cX4_start 62 = .ok (.ifCond .eq 13, 3) := by decide +kernel
theorem dX4_start_65 : decode cX4_start 65 = .ok (.aload_n 0, 1) := by decide +kernel
theorem dX4_start_66 : decode cX4_start 66 = .ok (.aload_n 3, 1) := by decide +kernel
theorem dX4_start_67 : decode cX4_start 67 = .ok (.aload_n 3, 1) := by decide +kernel
theorem dX4_start_68 : decode cX4_start 68 = .ok (.getfield 142, 3) := by decide +kernel
theorem dX4_start_71 : decode cX4_start 71 = .ok (.invokevirtual 130, 3) := by decide +kernel
theorem dX4_start_74 : decode cX4_start 74 = .ok (.pop, 1) := by decide +kernel
theorem dX4_start_75 : decode cX4_start 75 = .ok (.iinc 2 1, 3) := by decide +kernel
theorem dX4_start_78 : decode cX4_start 78 = .ok (.goto (-49), 3) := by decide +kernel
theorem dX4_start_81 : decode cX4_start 81 = .ok (.iload_n 1, 1) := by decide +kernel
theorem dX4_start_82 : decode cX4_start 82 = .ok (.ireturn, 1) := by decide +kernel
theorem dX4_isDown_0 : decode cX4_isDown 0 = .ok (.aload_n 0, 1) := by decide +kernel
theorem dX4_isDown_1 : decode cX4_isDown 1 = .ok (.getfield 33, 3) := by decide +kernel
theorem dX4_isDown_4 : decode cX4_isDown 4 = .ok (.ireturn, 1) := by decide +kernel
theorem dX4_files_0 : decode cX4_files 0 = .ok (.iconst 0, 1) := by decide +kernel
theorem dX4_files_1 : decode cX4_files 1 = .ok (.istore_n 1, 1) := by decide +kernel
theorem dX4_files_2 : decode cX4_files 2 = .ok (.iconst 0, 1) := by decide +kernel
theorem dX4_files_3 : decode cX4_files 3 = .ok (.istore_n 2, 1) := by decide +kernel
theorem dX4_files_4 : decode cX4_files 4 = .ok (.iload_n 2, 1) := by decide +kernel
theorem dX4_files_5 : decode cX4_files 5 = .ok (.bipush 16, 2) := by decide +kernel
theorem dX4_files_7 : decode cX4_files 7 = .ok (.if_icmp .ge 29, 3) := by decide +kernel
theorem dX4_files_10 : decode cX4_files 10 = .ok (.iload_n 1, 1) := by decide +kernel
theorem dX4_files_11 : decode cX4_files 11 = .ok (.aload_n 0, 1) := by decide +kernel
theorem dX4_files_12 : decode cX4_files 12 = .ok (.getfield 25, 3) := by decide +kernel
theorem dX4_files_15 : decode cX4_files 15 = .ok (.iload_n 2, 1) := by decide +kernel
theorem dX4_files_16 : decode cX4_files 16 = .ok (.aaload, 1) := by decide +kernel
theorem dX4_files_17 : decode cX4_files 17 = .ok (.getfield 145, 3) := by decide +kernel
theorem dX4_files_20 : decode cX4_files 20 = .ok (.ifCond .eq 7, 3) := by decide +kernel
theorem dX4_files_23 : decode cX4_files 23 = .ok (.iconst 1, 1) := by decide +kernel
theorem dX4_files_24 : decode cX4_files 24 = .ok (.goto 4, 3) := by decide +kernel
theorem dX4_files_27 : decode cX4_files 27 = .ok (.iconst 0, 1) := by decide +kernel
theorem dX4_files_28 : decode cX4_files 28 = .ok (.iadd, 1) := by decide +kernel
theorem dX4_files_29 : decode cX4_files 29 = .ok (.istore_n 1, 1) := by decide +kernel
theorem dX4_files_30 : decode cX4_files 30 = .ok (.iinc 2 1, 3) := by decide +kernel
theorem dX4_files_33 : decode cX4_files 33 = .ok (.goto (-29), 3) := by decide +kernel
theorem dX4_files_36 : decode cX4_files 36 = .ok (.iload_n 1, 1) := by decide +kernel
theorem dX4_files_37 : decode cX4_files 37 = .ok (.ireturn, 1) := by decide +kernel
theorem dX4_listed_0 : decode cX4_listed 0 = .ok (.iconst 0, 1) := by decide +kernel
theorem dX4_listed_1 : decode cX4_listed 1 = .ok (.istore_n 1, 1) := by decide +kernel
theorem dX4_listed_2 : decode cX4_listed 2 = .ok (.iconst 0, 1) := by decide +kernel
theorem dX4_listed_3 : decode cX4_listed 3 = .ok (.istore_n 2, 1) := by decide +kernel
theorem dX4_listed_4 : decode cX4_listed 4 = .ok (.iload_n 2, 1) := by decide +kernel
theorem dX4_listed_5 : decode cX4_listed 5 = .ok (.bipush 16, 2) := by decide +kernel
theorem dX4_listed_7 : decode cX4_listed 7 = .ok (.if_icmp .ge 29, 3) := by decide +kernel
theorem dX4_listed_10 : decode cX4_listed 10 = .ok (.iload_n 1, 1) := by decide +kernel
theorem dX4_listed_11 : decode cX4_listed 11 = .ok (.aload_n 0, 1) := by decide +kernel
theorem dX4_listed_12 : decode cX4_listed 12 = .ok (.getfield 25, 3) := by decide +kernel
theorem dX4_listed_15 : decode cX4_listed 15 = .ok (.iload_n 2, 1) := by decide +kernel
theorem dX4_listed_16 : decode cX4_listed 16 = .ok (.aaload, 1) := by decide +kernel
theorem dX4_listed_17 : decode cX4_listed 17 = .ok (.getfield 94, 3) := by decide +kernel
theorem dX4_listed_20 : decode cX4_listed 20 = .ok (.ifCond .eq 7, 3) := by decide +kernel
theorem dX4_listed_23 : decode cX4_listed 23 = .ok (.iconst 1, 1) := by decide +kernel
theorem dX4_listed_24 : decode cX4_listed 24 = .ok (.goto 4, 3) := by decide +kernel
theorem dX4_listed_27 : decode cX4_listed 27 = .ok (.iconst 0, 1) := by decide +kernel
theorem dX4_listed_28 : decode cX4_listed 28 = .ok (.iadd, 1) := by decide +kernel
theorem dX4_listed_29 : decode cX4_listed 29 = .ok (.istore_n 1, 1) := by decide +kernel
theorem dX4_listed_30 : decode cX4_listed 30 = .ok (.iinc 2 1, 3) := by decide +kernel
theorem dX4_listed_33 : decode cX4_listed 33 = .ok (.goto (-29), 3) := by decide +kernel
theorem dX4_listed_36 : decode cX4_listed 36 = .ok (.iload_n 1, 1) := by decide +kernel
theorem dX4_listed_37 : decode cX4_listed 37 = .ok (.ireturn, 1) := by decide +kernel
set_option maxRecDepth 20000 in
theorem ggX4_opens_X4_requireContent : GoodIn wsX4_opens wsX4_requireContent := goodIn_ca (goodIn_r _ [5, 6, 7, 8, 20, 21, 22, 23, 24, 9, 10, 11, 12, 13, 14, 15, 16, 17, 18, 19] (by decide +kernel) (by decide +kernel)) (goodIn_sub (fun _ h => List.mem_cons_of_mem _ (List.mem_append_right _ h)) (by decide +kernel))
set_option maxRecDepth 20000 in
theorem gX4_opens_X4_requireContent : GoodIn wsX4_opens (wsV RX4 78 RX4 yX4_requireContent wsX4_requireContent) := goodIn_app (goodIn_of _ (by decide +kernel)) ggX4_opens_X4_requireContent
theorem dX4_opens_0 : decode cX4_opens 0 = .ok (.aload_n 0, 1) := by decide +kernel
theorem dX4_opens_1 : decode cX4_opens 1 = .ok (.iload_n 1, 1) := by decide +kernel
theorem dX4_opens_2 : decode cX4_opens 2 = .ok (.invokevirtual 78, 3) := by decide +kernel
theorem dX4_opens_5 : decode cX4_opens 5 = .ok (.getfield 75, 3) := by decide +kernel
theorem dX4_opens_8 : decode cX4_opens 8 = .ok (.ireturn, 1) := by decide +kernel
theorem dX4_free_0 : decode cX4_free 0 = .ok (.aload_n 0, 1) := by decide +kernel
theorem dX4_free_1 : decode cX4_free 1 = .ok (.getfield 10, 3) := by decide +kernel
theorem dX4_free_4 : decode cX4_free 4 = .ok (.getfield 148, 3) := by decide +kernel
theorem dX4_free_7 : decode cX4_free 7 = .ok (.ireturn, 1) := by decide +kernel
set_option maxRecDepth 20000 in
theorem ggX4_freeByFiles_X0_mappedPlaces : GoodIn wsX4_freeByFiles wsX0_mappedPlaces := goodIn_r _ [5, 6, 12, 13, 14, 15, 16, 17, 18, 19, 20, 21, 22] (by decide +kernel) (by decide +kernel)
set_option maxRecDepth 20000 in
theorem gX4_freeByFiles_X0_mappedPlaces_n151 : GoodIn wsX4_freeByFiles (wsX0_mappedPlaces) := ggX4_freeByFiles_X0_mappedPlaces
theorem dX4_freeByFiles_0 : decode cX4_freeByFiles 0 = .ok (.sipush 128, 3) := by decide +kernel
theorem dX4_freeByFiles_3 : decode cX4_freeByFiles 3 = .ok (.istore_n 1, 1) := by decide +kernel
theorem dX4_freeByFiles_4 : decode cX4_freeByFiles 4 = .ok (.iconst 0, 1) := by decide +kernel
theorem dX4_freeByFiles_5 : decode cX4_freeByFiles 5 = .ok (.istore_n 2, 1) := by decide +kernel
theorem dX4_freeByFiles_6 : decode cX4_freeByFiles 6 = .ok (.iload_n 2, 1) := by decide +kernel
theorem dX4_freeByFiles_7 : decode cX4_freeByFiles 7 = .ok (.bipush 16, 2) := by decide +kernel
theorem dX4_freeByFiles_9 : decode cX4_freeByFiles 9 = .ok (.if_icmp .ge 31, 3) := by decide +kernel
theorem dX4_freeByFiles_12 : decode cX4_freeByFiles 12 = .ok (.iload_n 1, 1) := by decide +kernel
theorem dX4_freeByFiles_13 : decode cX4_freeByFiles 13 = .ok (.aload_n 0, 1) := by decide +kernel
theorem dX4_freeByFiles_14 : decode cX4_freeByFiles 14 = .ok (.getfield 25, 3) := by decide +kernel
theorem dX4_freeByFiles_17 : decode cX4_freeByFiles 17 = .ok (.iload_n 2, 1) := by decide +kernel
theorem dX4_freeByFiles_18 : decode cX4_freeByFiles 18 = .ok (.aaload, 1) := by decide +kernel
theorem dX4_freeByFiles_19 : decode cX4_freeByFiles 19 = .ok (.invokevirtual 151, 3) := by decide +kernel
theorem dX4_freeByFiles_22 : decode cX4_freeByFiles 22 = .ok (.aload_n 0, 1) := by decide +kernel
theorem dX4_freeByFiles_23 : decode cX4_freeByFiles 23 = .ok (.getfield 25, 3) := by decide +kernel
theorem dX4_freeByFiles_26 : decode cX4_freeByFiles 26 = .ok (.iload_n 2, 1) := by decide +kernel
theorem dX4_freeByFiles_27 : decode cX4_freeByFiles 27 = .ok (.aaload, 1) := by decide +kernel
theorem dX4_freeByFiles_28 : decode cX4_freeByFiles 28 = .ok (.getfield 154, 3) := by decide +kernel
theorem dX4_freeByFiles_31 : decode cX4_freeByFiles 31 = .ok (.iadd, 1) := by decide +kernel
theorem dX4_freeByFiles_32 : decode cX4_freeByFiles 32 = .ok (.isub, 1) := by decide +kernel
theorem dX4_freeByFiles_33 : decode cX4_freeByFiles 33 = .ok (.istore_n 1, 1) := by decide +kernel
theorem dX4_freeByFiles_34 : decode cX4_freeByFiles 34 = .ok (.iinc 2 1, 3) := by decide +kernel
theorem dX4_freeByFiles_37 : decode cX4_freeByFiles 37 = .ok (.goto (-31), 3) := by decide +kernel
theorem dX4_freeByFiles_40 : decode cX4_freeByFiles 40 = .ok (.iload_n 1, 1) := by decide +kernel
theorem dX4_freeByFiles_41 : decode cX4_freeByFiles 41 = .ok (.ireturn, 1) := by decide +kernel
theorem dX4_reserved_0 : decode cX4_reserved 0 = .ok (.iconst 0, 1) := by decide +kernel
theorem dX4_reserved_1 : decode cX4_reserved 1 = .ok (.istore_n 1, 1) := by decide +kernel
theorem dX4_reserved_2 : decode cX4_reserved 2 = .ok (.iconst 0, 1) := by decide +kernel
theorem dX4_reserved_3 : decode cX4_reserved 3 = .ok (.istore_n 2, 1) := by decide +kernel
theorem dX4_reserved_4 : decode cX4_reserved 4 = .ok (.iload_n 2, 1) := by decide +kernel
theorem dX4_reserved_5 : decode cX4_reserved 5 = .ok (.bipush 16, 2) := by decide +kernel
theorem dX4_reserved_7 : decode cX4_reserved 7 = .ok (.if_icmp .ge 21, 3) := by decide +kernel
theorem dX4_reserved_10 : decode cX4_reserved 10 = .ok (.iload_n 1, 1) := by decide +kernel
theorem dX4_reserved_11 : decode cX4_reserved 11 = .ok (.aload_n 0, 1) := by decide +kernel
theorem dX4_reserved_12 : decode cX4_reserved 12 = .ok (.getfield 25, 3) := by decide +kernel
theorem dX4_reserved_15 : decode cX4_reserved 15 = .ok (.iload_n 2, 1) := by decide +kernel
theorem dX4_reserved_16 : decode cX4_reserved 16 = .ok (.aaload, 1) := by decide +kernel
theorem dX4_reserved_17 : decode cX4_reserved 17 = .ok (.getfield 157, 3) := by decide +kernel
theorem dX4_reserved_20 : decode cX4_reserved 20 = .ok (.iadd, 1) := by decide +kernel
theorem dX4_reserved_21 : decode cX4_reserved 21 = .ok (.istore_n 1, 1) := by decide +kernel
theorem dX4_reserved_22 : decode cX4_reserved 22 = .ok (.iinc 2 1, 3) := by decide +kernel
theorem dX4_reserved_25 : decode cX4_reserved 25 = .ok (.goto (-21), 3) := by decide +kernel
theorem dX4_reserved_28 : decode cX4_reserved 28 = .ok (.iload_n 1, 1) := by decide +kernel
theorem dX4_reserved_29 : decode cX4_reserved 29 = .ok (.ireturn, 1) := by decide +kernel
theorem dX4_kept_0 : decode cX4_kept 0 = .ok (.iconst 0, 1) := by decide +kernel
theorem dX4_kept_1 : decode cX4_kept 1 = .ok (.istore_n 1, 1) := by decide +kernel
theorem dX4_kept_2 : decode cX4_kept 2 = .ok (.iconst 0, 1) := by decide +kernel
theorem dX4_kept_3 : decode cX4_kept 3 = .ok (.istore_n 2, 1) := by decide +kernel
theorem dX4_kept_4 : decode cX4_kept 4 = .ok (.iload_n 2, 1) := by decide +kernel
theorem dX4_kept_5 : decode cX4_kept 5 = .ok (.bipush 16, 2) := by decide +kernel
theorem dX4_kept_7 : decode cX4_kept 7 = .ok (.if_icmp .ge 21, 3) := by decide +kernel
theorem dX4_kept_10 : decode cX4_kept 10 = .ok (.iload_n 1, 1) := by decide +kernel
theorem dX4_kept_11 : decode cX4_kept 11 = .ok (.aload_n 0, 1) := by decide +kernel
theorem dX4_kept_12 : decode cX4_kept 12 = .ok (.getfield 25, 3) := by decide +kernel
theorem dX4_kept_15 : decode cX4_kept 15 = .ok (.iload_n 2, 1) := by decide +kernel
theorem dX4_kept_16 : decode cX4_kept 16 = .ok (.aaload, 1) := by decide +kernel
theorem dX4_kept_17 : decode cX4_kept 17 = .ok (.getfield 154, 3) := by decide +kernel
theorem dX4_kept_20 : decode cX4_kept 20 = .ok (.iadd, 1) := by decide +kernel
theorem dX4_kept_21 : decode cX4_kept 21 = .ok (.istore_n 1, 1) := by decide +kernel
theorem dX4_kept_22 : decode cX4_kept 22 = .ok (.iinc 2 1, 3) := by decide +kernel
theorem dX4_kept_25 : decode cX4_kept 25 = .ok (.goto (-21), 3) := by decide +kernel
theorem dX4_kept_28 : decode cX4_kept 28 = .ok (.iload_n 1, 1) := by decide +kernel
theorem dX4_kept_29 : decode cX4_kept 29 = .ok (.ireturn, 1) := by decide +kernel
set_option maxRecDepth 20000 in
theorem ggX4_pieces_X4_requireRange : GoodIn wsX4_pieces wsX4_requireRange := goodIn_ca (goodIn_r _ [7, 8, 9] (by decide +kernel) (by decide +kernel)) (goodIn_sub (fun _ h => List.mem_cons_of_mem _ (List.mem_append_right _ h)) (by decide +kernel))
set_option maxRecDepth 20000 in
theorem gX4_pieces_X4_requireRange : GoodIn wsX4_pieces (va_wsS RX4 97 yX4_requireRange wsX4_requireRange) := goodIn_app (goodIn_of _ (by decide +kernel)) ggX4_pieces_X4_requireRange
set_option maxRecDepth 20000 in
theorem ggX4_pieces_X2_countPieces : GoodIn wsX4_pieces wsX2_countPieces := goodIn_r _ [13, 14, 15, 16, 11, 17, 18, 19, 20, 21, 22, 28, 29] (by decide +kernel) (by decide +kernel)
set_option maxRecDepth 20000 in
theorem gX4_pieces_X2_countPieces_n165 : GoodIn wsX4_pieces (wsX2_countPieces) := ggX4_pieces_X2_countPieces
theorem dX4_pieces_0 : decode cX4_pieces 0 = .ok (.iload_n 1, 1) := by decide +kernel
theorem dX4_pieces_1 : decode cX4_pieces 1 = .ok (.ifCond .lt 8, 3) := by decide +kernel
theorem dX4_pieces_4 : decode cX4_pieces 4 = .ok (.iload_n 1, 1) := by decide +kernel
theorem dX4_pieces_5 : decode cX4_pieces 5 = .ok (.iconst 4, 1) := by decide +kernel
theorem dX4_pieces_6 : decode cX4_pieces 6 = .ok (.if_icmp .lt 13, 3) := by decide +kernel
theorem dX4_pieces_9 : decode cX4_pieces 9 = .ok (.new 160, 3) := by decide +kernel
theorem dX4_pieces_12 : decode cX4_pieces 12 = .ok (.dup, 1) := by decide +kernel
theorem dX4_pieces_13 : decode cX4_pieces 13 = .ok (.ldc 162, 2) := by decide +kernel
theorem dX4_pieces_15 : decode cX4_pieces 15 = .ok (.invokespecial 164, 3) := by decide +kernel
theorem dX4_pieces_18 : decode cX4_pieces 18 = .ok (.athrow, 1) := by decide +kernel
theorem dX4_pieces_19 : decode cX4_pieces 19 = .ok (.iload_n 2, 1) := by decide +kernel
theorem dX4_pieces_20 : decode cX4_pieces 20 = .ok (.iconst 0, 1) := by decide +kernel
theorem dX4_pieces_21 : decode cX4_pieces 21 = .ok (.iconst 5, 1) := by decide +kernel
theorem dX4_pieces_22 : decode cX4_pieces 22 = .ok (.invokestatic 97, 3) := by decide +kernel
theorem dX4_pieces_25 : decode cX4_pieces 25 = .ok (.aload_n 0, 1) := by decide +kernel
theorem dX4_pieces_26 : decode cX4_pieces 26 = .ok (.getfield 10, 3) := by decide +kernel
theorem dX4_pieces_29 : decode cX4_pieces 29 = .ok (.iload_n 1, 1) := by decide +kernel
theorem dX4_pieces_30 : decode cX4_pieces 30 = .ok (.iconst 1, 1) := by decide +kernel
theorem dX4_pieces_31 : decode cX4_pieces 31 = .ok (.iload_n 2, 1) := by decide +kernel
theorem dX4_pieces_32 : decode cX4_pieces 32 = .ok (.ishl, 1) := by decide +kernel
theorem dX4_pieces_33 : decode cX4_pieces 33 = .ok (.invokevirtual 165, 3) := by decide +kernel
theorem dX4_pieces_36 : decode cX4_pieces 36 = .ok (.ireturn, 1) := by decide +kernel
set_option maxRecDepth 20000 in
theorem ggX4_isFree_X2_areFree : GoodIn wsX4_isFree wsX2_areFree := goodIn_r _ [7, 8, 14, 15] (by decide +kernel) (by decide +kernel)
set_option maxRecDepth 20000 in
theorem gX4_isFree_X2_areFree_n170 : GoodIn wsX4_isFree (wsX2_areFree) := ggX4_isFree_X2_areFree
theorem dX4_isFree_0 : decode cX4_isFree 0 = .ok (.iload_n 1, 1) := by decide +kernel
theorem dX4_isFree_1 : decode cX4_isFree 1 = .ok (.ifCond .lt 10, 3) := by decide +kernel
theorem dX4_isFree_4 : decode cX4_isFree 4 = .ok (.iload_n 1, 1) := by decide +kernel
theorem dX4_isFree_5 : decode cX4_isFree 5 = .ok (.sipush 128, 3) := by decide +kernel
theorem dX4_isFree_8 : decode cX4_isFree 8 = .ok (.if_icmp .lt 13, 3) := by decide +kernel
theorem dX4_isFree_11 : decode cX4_isFree 11 = .ok (.new 160, 3) := by decide +kernel
theorem dX4_isFree_14 : decode cX4_isFree 14 = .ok (.dup, 1) := by decide +kernel
theorem dX4_isFree_15 : decode cX4_isFree 15 = .ok (.ldc 168, 2) := by decide +kernel
theorem dX4_isFree_17 : decode cX4_isFree 17 = .ok (.invokespecial 164, 3) := by decide +kernel
theorem dX4_isFree_20 : decode cX4_isFree 20 = .ok (.athrow, 1) := by decide +kernel
theorem dX4_isFree_21 : decode cX4_isFree 21 = .ok (.aload_n 0, 1) := by decide +kernel
theorem dX4_isFree_22 : decode cX4_isFree 22 = .ok (.getfield 10, 3) := by decide +kernel
theorem dX4_isFree_25 : decode cX4_isFree 25 = .ok (.iload_n 1, 1) := by decide +kernel
theorem dX4_isFree_26 : decode cX4_isFree 26 = .ok (.iconst 1, 1) := by decide +kernel
theorem dX4_isFree_27 : decode cX4_isFree 27 = .ok (.invokevirtual 170, 3) := by decide +kernel
theorem dX4_isFree_30 : decode cX4_isFree 30 = .ok (.ireturn, 1) := by decide +kernel
set_option maxRecDepth 20000 in
theorem ggX4_blockAt_X4_requireContent : GoodIn wsX4_blockAt wsX4_requireContent := goodIn_ca (goodIn_r _ [5, 6, 7, 8, 25, 26, 27, 28, 29, 14, 15, 16, 17, 18, 19, 20, 21, 22, 23, 24] (by decide +kernel) (by decide +kernel)) (goodIn_sub (fun _ h => List.mem_cons_of_mem _ (List.mem_append_left _ (List.mem_append_right _ h))) (by decide +kernel))
set_option maxRecDepth 20000 in
theorem gX4_blockAt_X4_requireContent : GoodIn wsX4_blockAt (wsV RX4 78 RX4 yX4_requireContent wsX4_requireContent) := goodIn_app (goodIn_of _ (by decide +kernel)) ggX4_blockAt_X4_requireContent
set_option maxRecDepth 20000 in
theorem ggX4_blockAt_X4_requireRange : GoodIn wsX4_blockAt wsX4_requireRange := goodIn_ca (goodIn_r _ [11, 12, 13] (by decide +kernel) (by decide +kernel)) (goodIn_sub (fun _ h => List.mem_cons_of_mem _ (List.mem_append_right _ h)) (by decide +kernel))
set_option maxRecDepth 20000 in
theorem gX4_blockAt_X4_requireRange : GoodIn wsX4_blockAt (va_wsS RX4 97 yX4_requireRange wsX4_requireRange) := goodIn_app (goodIn_of _ (by decide +kernel)) ggX4_blockAt_X4_requireRange
theorem dX4_blockAt_0 : decode cX4_blockAt 0 = .ok (.aload_n 0, 1) := by decide +kernel
theorem dX4_blockAt_1 : decode cX4_blockAt 1 = .ok (.iload_n 1, 1) := by decide +kernel
theorem dX4_blockAt_2 : decode cX4_blockAt 2 = .ok (.invokevirtual 78, 3) := by decide +kernel
theorem dX4_blockAt_5 : decode cX4_blockAt 5 = .ok (.astore_n 3, 1) := by decide +kernel
theorem dX4_blockAt_6 : decode cX4_blockAt 6 = .ok (.iload_n 2, 1) := by decide +kernel
theorem dX4_blockAt_7 : decode cX4_blockAt 7 = .ok (.iconst 0, 1) := by decide +kernel
theorem dX4_blockAt_8 : decode cX4_blockAt 8 = .ok (.bipush 63, 2) := by decide +kernel
theorem dX4_blockAt_10 : decode cX4_blockAt 10 = .ok (.invokestatic 97, 3) := by decide +kernel
theorem dX4_blockAt_13 : decode cX4_blockAt 13 = .ok (.aload_n 3, 1) := by decide +kernel
theorem dX4_blockAt_14 : decode cX4_blockAt 14 = .ok (.getfield 174, 3) := by decide +kernel
theorem dX4_blockAt_17 : decode cX4_blockAt 17 = .ok (.iload_n 2, 1) := by decide +kernel
theorem dX4_blockAt_18 : decode cX4_blockAt 18 = .ok (.iaload, 1) := by decide +kernel
theorem dX4_blockAt_19 : decode cX4_blockAt 19 = .ok (.ireturn, 1) := by decide +kernel
set_option maxRecDepth 20000 in
theorem ggX4_extents_X4_requireContent : GoodIn wsX4_extents wsX4_requireContent := goodIn_ca (goodIn_r _ [5, 6, 7, 8, 26, 27, 28, 29, 30, 31, 32, 33, 34, 35, 36, 37, 38, 39, 40, 41] (by decide +kernel) (by decide +kernel)) (goodIn_sub (fun _ h => List.mem_cons_of_mem _ (List.mem_append_right _ h)) (by decide +kernel))
set_option maxRecDepth 20000 in
theorem gX4_extents_X4_requireContent : GoodIn wsX4_extents (wsV RX4 78 RX4 yX4_requireContent wsX4_requireContent) := goodIn_app (goodIn_of _ (by decide +kernel)) ggX4_extents_X4_requireContent
set_option maxRecDepth 20000 in
theorem ggX4_extents_X0_countExtents : GoodIn wsX4_extents wsX0_countExtents := goodIn_r _ [12, 13, 14, 15, 10, 16, 17, 18, 19, 20, 21, 22, 23, 24, 25, 31, 32, 33, 34, 35, 36, 37, 38, 39, 40, 41] (by decide +kernel) (by decide +kernel)
set_option maxRecDepth 20000 in
theorem gX4_extents_X0_countExtents_n178 : GoodIn wsX4_extents (wsX0_countExtents) := ggX4_extents_X0_countExtents
theorem dX4_extents_0 : decode cX4_extents 0 = .ok (.aload_n 0, 1) := by decide +kernel
theorem dX4_extents_1 : decode cX4_extents 1 = .ok (.iload_n 1, 1) := by decide +kernel
theorem dX4_extents_2 : decode cX4_extents 2 = .ok (.invokevirtual 78, 3) := by decide +kernel
theorem dX4_extents_5 : decode cX4_extents 5 = .ok (.invokevirtual 178, 3) := by decide +kernel
theorem dX4_extents_8 : decode cX4_extents 8 = .ok (.ireturn, 1) := by decide +kernel
set_option maxRecDepth 20000 in
theorem ggX4_extent_X4_requireContent : GoodIn wsX4_extent wsX4_requireContent := goodIn_ca (goodIn_r _ [7, 1, 2, 8, 40, 41, 42, 43, 44, 29, 30, 31, 32, 33, 34, 35, 36, 37, 38, 39] (by decide +kernel) (by decide +kernel)) (goodIn_sub (fun _ h => List.mem_cons_of_mem _ (List.mem_append_right _ h)) (by decide +kernel))
set_option maxRecDepth 20000 in
theorem gX4_extent_X4_requireContent : GoodIn wsX4_extent (wsV RX4 78 RX4 yX4_requireContent wsX4_requireContent) := goodIn_app (goodIn_of _ (by decide +kernel)) ggX4_extent_X4_requireContent
set_option maxRecDepth 20000 in
theorem ggX4_extent_X0_beginOfExtent : GoodIn wsX4_extent wsX0_beginOfExtent := goodIn_r _ [12, 13, 14, 15, 10, 16, 17, 18, 19, 20, 21, 22, 23, 24, 25, 29, 30, 31, 32, 33, 34, 35, 36, 37, 38, 39] (by decide +kernel) (by decide +kernel)
set_option maxRecDepth 20000 in
theorem gX4_extent_X0_beginOfExtent_n181 : GoodIn wsX4_extent (wsX0_beginOfExtent) := ggX4_extent_X0_beginOfExtent
set_option maxRecDepth 20000 in
theorem ggX4_extent_X0_lengthOfExtent : GoodIn wsX4_extent wsX0_lengthOfExtent := goodIn_r _ [28, 22, 23, 24, 10, 25, 21, 17, 18, 19, 20, 29, 30, 31, 32, 33, 34, 35, 36, 37, 38, 39] (by decide +kernel) (by decide +kernel)
set_option maxRecDepth 20000 in
theorem gX4_extent_X0_lengthOfExtent_n186 : GoodIn wsX4_extent (wsX0_lengthOfExtent) := ggX4_extent_X0_lengthOfExtent
theorem dX4_extent_0 : decode cX4_extent 0 = .ok (.aload_n 0, 1) := by decide +kernel
theorem dX4_extent_1 : decode cX4_extent 1 = .ok (.iload_n 1, 1) := by decide +kernel
theorem dX4_extent_2 : decode cX4_extent 2 = .ok (.invokevirtual 78, 3) := by decide +kernel
theorem dX4_extent_5 : decode cX4_extent 5 = .ok (.astore_n 3, 1) := by decide +kernel
theorem dX4_extent_6 : decode cX4_extent 6 = .ok (.aload_n 3, 1) := by decide +kernel
theorem dX4_extent_7 : decode cX4_extent 7 = .ok (.iload_n 2, 1) := by decide +kernel
theorem dX4_extent_8 : decode cX4_extent 8 = .ok (.invokevirtual 181, 3) := by decide +kernel
theorem dX4_extent_11 : decode cX4_extent 11 = .ok (.istore 4, 2) := by decide +kernel
theorem dX4_extent_13 : decode cX4_extent 13 = .ok (.iload 4, 2) := by decide +kernel
theorem dX4_extent_15 : decode cX4_extent 15 = .ok (.ifCond .lt 10, 3) := by decide +kernel
theorem dX4_extent_18 : decode cX4_extent 18 = .ok (.iload 4, 2) := by decide +kernel
theorem dX4_extent_20 : decode cX4_extent 20 = .ok (.bipush 64, 2) := by decide +kernel
theorem dX4_extent_22 : decode cX4_extent 22 = .ok (.if_icmp .lt 13, 3) := by decide +kernel
theorem dX4_extent_25 : decode cX4_extent 25 = .ok (.new 160, 3) := by decide +kernel
theorem dX4_extent_28 : decode cX4_extent 28 = .ok (.dup, 1) := by decide +kernel
theorem dX4_extent_29 : decode cX4_extent 29 = .ok (.ldc 184, 2) := by decide +kernel
theorem dX4_extent_31 : decode cX4_extent 31 = .ok (.invokespecial 164, 3) := by decide +kernel
theorem dX4_extent_34 : decode cX4_extent 34 = .ok (.athrow, 1) := by decide +kernel
theorem dX4_extent_35 : decode cX4_extent 35 = .ok (.sipush 10000, 3) := by decide +kernel
theorem dX4_extent_38 : decode cX4_extent 38 = .ok (.iload 4, 2) := by decide +kernel
theorem dX4_extent_40 : decode cX4_extent 40 = .ok (.imul, 1) := by decide +kernel
theorem dX4_extent_41 : decode cX4_extent 41 = .ok (.bipush 100, 2) := by decide +kernel
theorem dX4_extent_43 : decode cX4_extent 43 = .ok (.aload_n 3, 1) := by decide +kernel
theorem dX4_extent_44 : decode cX4_extent 44 = .ok (.iload 4, 2) := by decide +kernel
theorem dX4_extent_46 : decode cX4_extent 46 = .ok (.invokevirtual 186, 3) := by decide +kernel
theorem dX4_extent_49 : decode cX4_extent 49 = .ok (.imul, 1) := by decide +kernel
theorem dX4_extent_50 : decode cX4_extent 50 = .ok (.iadd, 1) := by decide +kernel
theorem dX4_extent_51 : decode cX4_extent 51 = .ok (.aload_n 3, 1) := by decide +kernel
theorem dX4_extent_52 : decode cX4_extent 52 = .ok (.getfield 174, 3) := by decide +kernel
theorem dX4_extent_55 : decode cX4_extent 55 = .ok (.iload 4, 2) := by decide +kernel
theorem dX4_extent_57 : decode cX4_extent 57 = .ok (.iaload, 1) := by decide +kernel
theorem dX4_extent_58 : decode cX4_extent 58 = .ok (.bipush 100, 2) := by decide +kernel
theorem dX4_extent_60 : decode cX4_extent 60 = .ok (.irem, 1) := by decide +kernel
theorem dX4_extent_61 : decode cX4_extent 61 = .ok (.iadd, 1) := by decide +kernel
theorem dX4_extent_62 : decode cX4_extent 62 = .ok (.ireturn, 1) := by decide +kernel
set_option maxRecDepth 20000 in
theorem ggX4_average_X4_requireContent : GoodIn wsX4_average wsX4_requireContent := goodIn_ca (goodIn_r _ [5, 6, 7, 8, 29, 30, 31, 32, 33, 34, 35, 36, 37, 38, 39, 40, 41, 42, 43, 44] (by decide +kernel) (by decide +kernel)) (goodIn_sub (fun _ h => List.mem_cons_of_mem _ (List.mem_append_right _ h)) (by decide +kernel))
set_option maxRecDepth 20000 in
theorem gX4_average_X4_requireContent : GoodIn wsX4_average (wsV RX4 78 RX4 yX4_requireContent wsX4_requireContent) := goodIn_app (goodIn_of _ (by decide +kernel)) ggX4_average_X4_requireContent
set_option maxRecDepth 20000 in
theorem ggX4_average_X0_countExtents : GoodIn wsX4_average wsX0_countExtents := goodIn_r _ [12, 13, 14, 15, 10, 16, 17, 18, 19, 20, 21, 22, 23, 24, 25, 34, 35, 36, 37, 38, 39, 40, 41, 42, 43, 44] (by decide +kernel) (by decide +kernel)
set_option maxRecDepth 20000 in
theorem gX4_average_X0_countExtents_n178 : GoodIn wsX4_average (wsX0_countExtents) := ggX4_average_X0_countExtents
set_option maxRecDepth 20000 in
theorem ggX4_average_X0_mappedPlaces : GoodIn wsX4_average wsX0_mappedPlaces := goodIn_r _ [28, 21, 34, 35, 36, 37, 38, 39, 40, 41, 42, 43, 44] (by decide +kernel) (by decide +kernel)
set_option maxRecDepth 20000 in
theorem gX4_average_X0_mappedPlaces_n151 : GoodIn wsX4_average (wsX0_mappedPlaces) := ggX4_average_X0_mappedPlaces
theorem dX4_average_0 : decode cX4_average 0 = .ok (.aload_n 0, 1) := by decide +kernel
theorem dX4_average_1 : decode cX4_average 1 = .ok (.iload_n 1, 1) := by decide +kernel
theorem dX4_average_2 : decode cX4_average 2 = .ok (.invokevirtual 78, 3) := by decide +kernel
theorem dX4_average_5 : decode cX4_average 5 = .ok (.astore_n 2, 1) := by decide +kernel
theorem dX4_average_6 : decode cX4_average 6 = .ok (.aload_n 2, 1) := by decide +kernel
theorem dX4_average_7 : decode cX4_average 7 = .ok (.invokevirtual 178, 3) := by decide +kernel
theorem dX4_average_10 : decode cX4_average 10 = .ok (.istore_n 3, 1) := by decide +kernel
theorem dX4_average_11 : decode cX4_average 11 = .ok (.iload_n 3, 1) := by decide +kernel
theorem dX4_average_12 : decode cX4_average 12 = .ok (.ifCond .ne 7, 3) := by decide +kernel
theorem dX4_average_15 : decode cX4_average 15 = .ok (.fconst 0, 1) := by decide +kernel
theorem dX4_average_16 : decode cX4_average 16 = .ok (.goto 11, 3) := by decide +kernel
theorem dX4_average_19 : decode cX4_average 19 = .ok (.aload_n 2, 1) := by decide +kernel
theorem dX4_average_20 : decode cX4_average 20 = .ok (.invokevirtual 151, 3) := by decide +kernel
theorem dX4_average_23 : decode cX4_average 23 = .ok (.i2f, 1) := by decide +kernel
theorem dX4_average_24 : decode cX4_average 24 = .ok (.iload_n 3, 1) := by decide +kernel
theorem dX4_average_25 : decode cX4_average 25 = .ok (.i2f, 1) := by decide +kernel
theorem dX4_average_26 : decode cX4_average 26 = .ok (.fdiv, 1) := by decide +kernel
theorem dX4_average_27 : decode cX4_average 27 = .ok (.freturn, 1) := by decide +kernel
set_option maxRecDepth 20000 in
theorem ggX4_fileOf_X4_requireName : GoodIn wsX4_fileOf wsX4_requireName := goodIn_ca (goodIn_r _ [5, 6, 7, 4, 8, 9, 10] (by decide +kernel) (by decide +kernel)) (goodIn_sub (fun _ h => List.mem_cons_of_mem _ (List.mem_append_right _ h)) (by decide +kernel))
set_option maxRecDepth 20000 in
theorem gX4_fileOf_X4_requireName : GoodIn wsX4_fileOf (va_wsS RX4 40 yX4_requireName wsX4_requireName) := goodIn_app (goodIn_of _ (by decide +kernel)) ggX4_fileOf_X4_requireName
set_option maxRecDepth 20000 in
theorem ggX4_fileOf_X1_fileWith : GoodIn wsX4_fileOf wsX1_fileWith := goodIn_r _ [14, 15, 16, 17, 12, 18, 19, 4, 20, 21, 22, 23, 24, 25, 26, 27, 28, 29, 30, 31, 32, 33, 34, 35, 36, 37, 38, 39, 40, 41, 42, 43, 44, 45, 46, 47, 48, 54, 55, 56, 57, 58, 59, 60, 61, 62] (by decide +kernel) (by decide +kernel)
set_option maxRecDepth 20000 in
theorem gX4_fileOf_X1_fileWith_n50 : GoodIn wsX4_fileOf (wsX1_fileWith) := ggX4_fileOf_X1_fileWith
theorem dX4_fileOf_0 : decode cX4_fileOf 0 = .ok (.iload_n 1, 1) := by decide +kernel
theorem dX4_fileOf_1 : decode cX4_fileOf 1 = .ok (.invokestatic 40, 3) := by decide +kernel
theorem dX4_fileOf_4 : decode cX4_fileOf 4 = .ok (.aload_n 0, 1) := by decide +kernel
theorem dX4_fileOf_5 : decode cX4_fileOf 5 = .ok (.getfield 19, 3) := by decide +kernel
theorem dX4_fileOf_8 : decode cX4_fileOf 8 = .ok (.iload_n 1, 1) := by decide +kernel
theorem dX4_fileOf_9 : decode cX4_fileOf 9 = .ok (.invokevirtual 50, 3) := by decide +kernel
theorem dX4_fileOf_12 : decode cX4_fileOf 12 = .ok (.ireturn, 1) := by decide +kernel
theorem dX4_leaves_0 : decode cX4_leaves 0 = .ok (.aload_n 0, 1) := by decide +kernel
theorem dX4_leaves_1 : decode cX4_leaves 1 = .ok (.getfield 19, 3) := by decide +kernel
theorem dX4_leaves_4 : decode cX4_leaves 4 = .ok (.getfield 189, 3) := by decide +kernel
theorem dX4_leaves_7 : decode cX4_leaves 7 = .ok (.ireturn, 1) := by decide +kernel
set_option maxRecDepth 20000 in
theorem ggX4_looks_X4_requireName : GoodIn wsX4_looks wsX4_requireName := goodIn_ca (goodIn_r _ [5, 6, 7, 4, 8, 9, 10] (by decide +kernel) (by decide +kernel)) (goodIn_sub (fun _ h => List.mem_cons_of_mem _ (List.mem_append_right _ h)) (by decide +kernel))
set_option maxRecDepth 20000 in
theorem gX4_looks_X4_requireName : GoodIn wsX4_looks (va_wsS RX4 40 yX4_requireName wsX4_requireName) := goodIn_app (goodIn_of _ (by decide +kernel)) ggX4_looks_X4_requireName
set_option maxRecDepth 20000 in
theorem ggX4_looks_X1_countLooks : GoodIn wsX4_looks wsX1_countLooks := goodIn_r _ [14, 15, 16, 17, 12, 18, 19, 4, 20, 21, 22, 23, 24, 25, 26, 27, 28, 29, 30, 31, 32, 33, 34, 35, 36, 37, 38, 39, 40, 41, 42, 43, 44, 50, 51, 52, 53, 54, 55, 56, 57, 58] (by decide +kernel) (by decide +kernel)
set_option maxRecDepth 20000 in
theorem gX4_looks_X1_countLooks_n192 : GoodIn wsX4_looks (wsX1_countLooks) := ggX4_looks_X1_countLooks
theorem dX4_looks_0 : decode cX4_looks 0 = .ok (.iload_n 1, 1) := by decide +kernel
theorem dX4_looks_1 : decode cX4_looks 1 = .ok (.invokestatic 40, 3) := by decide +kernel
theorem dX4_looks_4 : decode cX4_looks 4 = .ok (.aload_n 0, 1) := by decide +kernel
theorem dX4_looks_5 : decode cX4_looks 5 = .ok (.getfield 19, 3) := by decide +kernel
theorem dX4_looks_8 : decode cX4_looks 8 = .ok (.iload_n 1, 1) := by decide +kernel
theorem dX4_looks_9 : decode cX4_looks 9 = .ok (.invokevirtual 192, 3) := by decide +kernel
theorem dX4_looks_12 : decode cX4_looks 12 = .ok (.ireturn, 1) := by decide +kernel
theorem dX4_requireRange_0 : decode cX4_requireRange 0 = .ok (.iload_n 0, 1) := by decide +kernel
theorem dX4_requireRange_1 : decode cX4_requireRange 1 = .ok (.iload_n 1, 1) := by decide +kernel
theorem dX4_requireRange_2 : decode cX4_requireRange 2 = .ok (.if_icmp .lt 8, 3) := by decide +kernel
theorem dX4_requireRange_5 : decode cX4_requireRange 5 = .ok (.iload_n 0, 1) := by decide +kernel
theorem dX4_requireRange_6 : decode cX4_requireRange 6 = .ok (.iload_n 2, 1) := by decide +kernel
theorem dX4_requireRange_7 : decode cX4_requireRange 7 = .ok (.if_icmp .le 13, 3) := by decide +kernel
theorem dX4_requireRange_10 : decode cX4_requireRange 10 = .ok (.new 195, 3) := by decide +kernel
theorem dX4_requireRange_13 : decode cX4_requireRange 13 = .ok (.dup, 1) := by decide +kernel
theorem dX4_requireRange_14 : decode cX4_requireRange 14 = .ok (.ldc 197, 2) := by decide +kernel
theorem dX4_requireRange_16 : decode cX4_requireRange 16 = .ok (.invokespecial 199, 3) := by decide +kernel
theorem dX4_requireRange_19 : decode cX4_requireRange 19 = .ok (.athrow, 1) := by decide +kernel
theorem dX4_requireRange_20 : decode cX4_requireRange 20 = .ok (.return_, 1) := by decide +kernel
set_option maxRecDepth 20000 in
theorem ggX4_requireName_X4_requireRange : GoodIn wsX4_requireName wsX4_requireRange := goodIn_ca (goodIn_r _ [4, 5, 6] (by decide +kernel) (by decide +kernel)) (goodIn_sub (fun _ h => List.mem_cons_of_mem _ (List.mem_append_right _ h)) (by decide +kernel))
set_option maxRecDepth 20000 in
theorem gX4_requireName_X4_requireRange : GoodIn wsX4_requireName (va_wsS RX4 97 yX4_requireRange wsX4_requireRange) := goodIn_app (goodIn_of _ (by decide +kernel)) ggX4_requireName_X4_requireRange
theorem dX4_requireName_0 : decode cX4_requireName 0 = .ok (.iload_n 0, 1) := by decide +kernel
theorem dX4_requireName_1 : decode cX4_requireName 1 = .ok (.iconst 0, 1) := by decide +kernel
theorem dX4_requireName_2 : decode cX4_requireName 2 = .ok (.sipush 999, 3) := by decide +kernel
theorem dX4_requireName_5 : decode cX4_requireName 5 = .ok (.invokestatic 97, 3) := by decide +kernel
theorem dX4_requireName_8 : decode cX4_requireName 8 = .ok (.return_, 1) := by decide +kernel
theorem dX4_requireUp_0 : decode cX4_requireUp 0 = .ok (.aload_n 0, 1) := by decide +kernel
theorem dX4_requireUp_1 : decode cX4_requireUp 1 = .ok (.getfield 33, 3) := by decide +kernel
theorem dX4_requireUp_4 : decode cX4_requireUp 4 = .ok (.ifCond .eq 13, 3) := by decide +kernel
theorem dX4_requireUp_7 : decode cX4_requireUp 7 = .ok (.new 58, 3) := by decide +kernel
theorem dX4_requireUp_10 : decode cX4_requireUp 10 = .ok (.dup, 1) := by decide +kernel
theorem dX4_requireUp_11 : decode cX4_requireUp 11 = .ok (.ldc 200, 2) := by decide +kernel
theorem dX4_requireUp_13 : decode cX4_requireUp 13 = .ok (.invokespecial 62, 3) := by decide +kernel
theorem dX4_requireUp_16 : decode cX4_requireUp 16 = .ok (.athrow, 1) := by decide +kernel
theorem dX4_requireUp_17 : decode cX4_requireUp 17 = .ok (.return_, 1) := by decide +kernel
theorem dX4_requireContent_0 : decode cX4_requireContent 0 = .ok (.iload_n 1, 1) := by decide +kernel
theorem dX4_requireContent_1 : decode cX4_requireContent 1 = .ok (.ifCond .lt 21, 3) := by decide +kernel
theorem dX4_requireContent_4 : decode cX4_requireContent 4 = .ok (.iload_n 1, 1) := by decide +kernel
theorem dX4_requireContent_5 : decode cX4_requireContent 5 = .ok (.bipush 16, 2) := by decide +kernel
theorem dX4_requireContent_7 : decode cX4_requireContent 7 = .ok (.if_icmp .ge 15, 3) := by decide +kernel
theorem dX4_requireContent_10 : decode cX4_requireContent 10 = .ok (.aload_n 0, 1) := by decide +kernel
theorem dX4_requireContent_11 : decode cX4_requireContent 11 = .ok (.getfield 25, 3) := by decide +kernel
theorem dX4_requireContent_14 : decode cX4_requireContent 14 = .ok (.iload_n 1, 1) := by decide +kernel
theorem dX4_requireContent_15 : decode cX4_requireContent 15 = .ok (.aaload, 1) := by decide +kernel
theorem dX4_requireContent_16 : decode cX4_requireContent 16 = .ok (.getfield 145, 3) := by decide +kernel
theorem dX4_requireContent_19 : decode cX4_requireContent 19 = .ok (.ifCond .ne 13, 3) := by decide +kernel
theorem dX4_requireContent_22 : decode cX4_requireContent 22 = .ok (.new 160, 3) := by decide +kernel
theorem dX4_requireContent_25 : decode cX4_requireContent 25 = .ok (.dup, 1) := by decide +kernel
theorem dX4_requireContent_26 : decode cX4_requireContent 26 = .ok (.ldc 202, 2) := by decide +kernel
theorem dX4_requireContent_28 : decode cX4_requireContent 28 = .ok (.invokespecial 164, 3) := by decide +kernel
theorem dX4_requireContent_31 : decode cX4_requireContent 31 = .ok (.athrow, 1) := by decide +kernel
theorem dX4_requireContent_32 : decode cX4_requireContent 32 = .ok (.aload_n 0, 1) := by decide +kernel
theorem dX4_requireContent_33 : decode cX4_requireContent 33 = .ok (.getfield 25, 3) := by decide +kernel
theorem dX4_requireContent_36 : decode cX4_requireContent 36 = .ok (.iload_n 1, 1) := by decide +kernel
theorem dX4_requireContent_37 : decode cX4_requireContent 37 = .ok (.aaload, 1) := by decide +kernel
theorem dX4_requireContent_38 : decode cX4_requireContent 38 = .ok (.areturn, 1) := by decide +kernel
set_option maxRecDepth 20000 in
theorem ggX4_requireFileWith_X1_fileWith : GoodIn wsX4_requireFileWith wsX1_fileWith := goodIn_r _ [7, 8, 9, 10, 5, 11, 12, 13, 14, 15, 16, 17, 18, 19, 20, 21, 22, 23, 24, 25, 26, 27, 28, 29, 30, 31, 32, 33, 34, 35, 36, 37, 38, 39, 40, 41, 42, 48, 49, 50, 51, 52, 53, 54, 55, 56] (by decide +kernel) (by decide +kernel)
set_option maxRecDepth 20000 in
theorem gX4_requireFileWith_X1_fileWith_n50 : GoodIn wsX4_requireFileWith (wsX1_fileWith) := ggX4_requireFileWith_X1_fileWith
theorem dX4_requireFileWith_0 : decode cX4_requireFileWith 0 = .ok (.aload_n 0, 1) := by decide +kernel
theorem dX4_requireFileWith_1 : decode cX4_requireFileWith 1 = .ok (.getfield 19, 3) := by decide +kernel
theorem dX4_requireFileWith_4 : decode cX4_requireFileWith 4 = .ok (.iload_n 1, 1) := by decide +kernel
theorem dX4_requireFileWith_5 : decode cX4_requireFileWith 5 = .ok (.invokevirtual 50, 3) := by decide +kernel
theorem dX4_requireFileWith_8 : decode cX4_requireFileWith 8 = .ok (.istore_n 2, 1) := by decide +kernel
theorem dX4_requireFileWith_9 : decode cX4_requireFileWith 9 = .ok (.iload_n 2, 1) := by decide +kernel
theorem dX4_requireFileWith_10 : decode cX4_requireFileWith 10 = .ok (.ifCond .lt 9, 3) := by decide +kernel
theorem dX4_requireFileWith_13 : decode cX4_requireFileWith 13 = .ok (.iload_n 2, 1) := by decide +kernel
theorem dX4_requireFileWith_14 : decode cX4_requireFileWith 14 = .ok (.bipush 16, 2) := by decide +kernel
theorem dX4_requireFileWith_16 : decode cX4_requireFileWith 16 = .ok (.if_icmp .lt 13, 3) := by decide +kernel
theorem dX4_requireFileWith_19 : decode cX4_requireFileWith 19 = .ok (.new 58, 3) := by decide +kernel
theorem dX4_requireFileWith_22 : decode cX4_requireFileWith 22 = .ok (.dup, 1) := by decide +kernel
theorem dX4_requireFileWith_23 : decode cX4_requireFileWith 23 = .ok (.ldc 204, 2) := by decide +kernel
theorem dX4_requireFileWith_25 : decode cX4_requireFileWith 25 = .ok (.invokespecial 62, 3) := by decide +kernel
theorem dX4_requireFileWith_28 : decode cX4_requireFileWith 28 = .ok (.athrow, 1) := by decide +kernel
theorem dX4_requireFileWith_29 : decode cX4_requireFileWith 29 = .ok (.iload_n 2, 1) := by decide +kernel
theorem dX4_requireFileWith_30 : decode cX4_requireFileWith 30 = .ok (.ireturn, 1) := by decide +kernel
theorem dX4_lowestUnusedFile_0 : decode cX4_lowestUnusedFile 0 = .ok (.iconst 0, 1) := by decide +kernel
theorem dX4_lowestUnusedFile_1 : decode cX4_lowestUnusedFile 1 = .ok (.istore_n 1, 1) := by decide +kernel
theorem dX4_lowestUnusedFile_2 : decode cX4_lowestUnusedFile 2 = .ok (.iload_n 1, 1) := by decide +kernel
theorem dX4_lowestUnusedFile_3 : decode cX4_lowestUnusedFile 3 = .ok (.bipush 16, 2) := by decide +kernel
theorem dX4_lowestUnusedFile_5 : decode cX4_lowestUnusedFile 5 = .ok (.if_icmp .ge 23, 3) := by decide +kernel
theorem dX4_lowestUnusedFile_8 : decode cX4_lowestUnusedFile 8 = .ok (.aload_n 0, 1) := by decide +kernel
theorem dX4_lowestUnusedFile_9 : decode cX4_lowestUnusedFile 9 = .ok (.getfield 25, 3) := by decide +kernel
theorem dX4_lowestUnusedFile_12 : decode cX4_lowestUnusedFile 12 = .ok (.iload_n 1, 1) := by decide +kernel
theorem dX4_lowestUnusedFile_13 : decode cX4_lowestUnusedFile 13 = .ok (.aaload, 1) := by decide +kernel
theorem dX4_lowestUnusedFile_14 : decode cX4_lowestUnusedFile 14 = .ok (.getfield 145, 3) := by decide +kernel
theorem dX4_lowestUnusedFile_17 : decode cX4_lowestUnusedFile 17 = .ok (.ifCond .ne 5, 3) := by decide +kernel
theorem dX4_lowestUnusedFile_20 : decode cX4_lowestUnusedFile 20 = .ok (.iload_n 1, 1) := by decide +kernel
theorem dX4_lowestUnusedFile_21 : decode cX4_lowestUnusedFile 21 = .ok (.ireturn, 1) := by decide +kernel
theorem dX4_lowestUnusedFile_22 : decode cX4_lowestUnusedFile 22 = .ok (.iinc 1 1, 3) := by decide +kernel
theorem dX4_lowestUnusedFile_25 : decode cX4_lowestUnusedFile 25 = .ok (.goto (-23), 3) := by decide +kernel
theorem dX4_lowestUnusedFile_28 : decode cX4_lowestUnusedFile 28 = .ok (.iconst (-1), 1) := by decide +kernel
theorem dX4_lowestUnusedFile_29 : decode cX4_lowestUnusedFile 29 = .ok (.ireturn, 1) := by decide +kernel
set_option maxRecDepth 20000 in
theorem ggX4_left_X4_free : GoodIn wsX4_left wsX4_free := goodIn_r _ [5, 6, 12, 13, 14, 15, 16, 17, 18] (by decide +kernel) (by decide +kernel)
set_option maxRecDepth 20000 in
theorem gX4_left_X4_free : GoodIn wsX4_left (wsV RX4 206 RX4 yX4_free wsX4_free) := goodIn_app (goodIn_of _ (by decide +kernel)) ggX4_left_X4_free
set_option maxRecDepth 20000 in
theorem ggX4_left_X4_reserved : GoodIn wsX4_left wsX4_reserved := goodIn_r _ [10, 11, 12, 13, 14, 15, 16, 19, 20, 21, 22, 23, 24, 25, 26, 27, 28, 29] (by decide +kernel) (by decide +kernel)
set_option maxRecDepth 20000 in
theorem gX4_left_X4_reserved : GoodIn wsX4_left (wsV RX4 209 RX4 yX4_reserved wsX4_reserved) := goodIn_app (goodIn_of _ (by decide +kernel)) ggX4_left_X4_reserved
theorem dX4_left_0 : decode cX4_left 0 = .ok (.aload_n 0, 1) := by decide +kernel
theorem dX4_left_1 : decode cX4_left 1 = .ok (.invokevirtual 206, 3) := by decide +kernel
theorem dX4_left_4 : decode cX4_left 4 = .ok (.aload_n 0, 1) := by decide +kernel
theorem dX4_left_5 : decode cX4_left 5 = .ok (.invokevirtual 209, 3) := by decide +kernel
theorem dX4_left_8 : decode cX4_left 8 = .ok (.isub, 1) := by decide +kernel
theorem dX4_left_9 : decode cX4_left 9 = .ok (.ireturn, 1) := by decide +kernel
set_option maxRecDepth 20000 in
theorem ggX4_releaseKept_X2_release : GoodIn wsX4_releaseKept wsX2_release := goodIn_r _ [5, 6, 7, 8, 3, 9, 10, 11, 28, 29] (by decide +kernel) (by decide +kernel)
set_option maxRecDepth 20000 in
theorem gX4_releaseKept_X2_release_n215 : GoodIn wsX4_releaseKept (wsX2_release) := ggX4_releaseKept_X2_release
theorem dX4_releaseKept_0 : decode cX4_releaseKept 0 = .ok (.aload_n 0, 1) := by decide +kernel
theorem dX4_releaseKept_1 : decode cX4_releaseKept 1 = .ok (.getfield 10, 3) := by decide +kernel
theorem dX4_releaseKept_4 : decode cX4_releaseKept 4 = .ok (.aload_n 1, 1) := by decide +kernel
theorem dX4_releaseKept_5 : decode cX4_releaseKept 5 = .ok (.getfield 212, 3) := by decide +kernel
theorem dX4_releaseKept_8 : decode cX4_releaseKept 8 = .ok (.aload_n 1, 1) := by decide +kernel
theorem dX4_releaseKept_9 : decode cX4_releaseKept 9 = .ok (.getfield 154, 3) := by decide +kernel
theorem dX4_releaseKept_12 : decode cX4_releaseKept 12 = .ok (.invokevirtual 215, 3) := by decide +kernel
theorem dX4_releaseKept_15 : decode cX4_releaseKept 15 = .ok (.aload_n 1, 1) := by decide +kernel
theorem dX4_releaseKept_16 : decode cX4_releaseKept 16 = .ok (.iconst 0, 1) := by decide +kernel
theorem dX4_releaseKept_17 : decode cX4_releaseKept 17 = .ok (.putfield 154, 3) := by decide +kernel
theorem dX4_releaseKept_20 : decode cX4_releaseKept 20 = .ok (.return_, 1) := by decide +kernel
set_option maxRecDepth 20000 in
theorem ggX4_releaseAllKept_X4_releaseKept : GoodIn wsX4_releaseAllKept wsX4_releaseKept := goodIn_r _ [6, 7, 8, 9, 10, 11, 12, 13, 14, 15, 16, 17, 18, 19, 20, 21, 22, 23, 24, 25, 26, 27, 28, 29, 30, 31, 32, 33, 34, 35] (by decide +kernel) (by decide +kernel)
set_option maxRecDepth 20000 in
theorem gX4_releaseAllKept_X4_releaseKept : GoodIn wsX4_releaseAllKept (wsV RX4 218 RX4 yX4_releaseKept wsX4_releaseKept) := goodIn_app (goodIn_of _ (by decide +kernel)) ggX4_releaseAllKept_X4_releaseKept
theorem dX4_releaseAllKept_0 : decode cX4_releaseAllKept 0 = .ok (.iconst 0, 1) := by decide +kernel
theorem dX4_releaseAllKept_1 : decode cX4_releaseAllKept 1 = .ok (.istore_n 1, 1) := by decide +kernel
theorem dX4_releaseAllKept_2 : decode cX4_releaseAllKept 2 = .ok (.iload_n 1, 1) := by decide +kernel
theorem dX4_releaseAllKept_3 : decode cX4_releaseAllKept 3 = .ok (.bipush 16, 2) := by decide +kernel
theorem dX4_releaseAllKept_5 : decode cX4_releaseAllKept 5 = .ok (.if_icmp .ge 19, 3) := by decide +kernel
theorem dX4_releaseAllKept_8 : decode cX4_releaseAllKept 8 = .ok (.aload_n 0, 1) := by decide +kernel
theorem dX4_releaseAllKept_9 : decode cX4_releaseAllKept 9 = .ok (.aload_n 0, 1) := by decide +kernel
theorem dX4_releaseAllKept_10 : decode cX4_releaseAllKept 10 = .ok (.getfield 25, 3) := by decide +kernel
theorem dX4_releaseAllKept_13 : decode cX4_releaseAllKept 13 = .ok (.iload_n 1, 1) := by decide +kernel
theorem dX4_releaseAllKept_14 : decode cX4_releaseAllKept 14 = .ok (.aaload, 1) := by decide +kernel
theorem dX4_releaseAllKept_15 : decode cX4_releaseAllKept 15 = .ok (.invokevirtual 218, 3) := by decide +kernel
theorem dX4_releaseAllKept_18 : decode cX4_releaseAllKept 18 = .ok (.iinc 1 1, 3) := by decide +kernel
theorem dX4_releaseAllKept_21 : decode cX4_releaseAllKept 21 = .ok (.goto (-19), 3) := by decide +kernel
theorem dX4_releaseAllKept_24 : decode cX4_releaseAllKept 24 = .ok (.return_, 1) := by decide +kernel
set_option maxRecDepth 20000 in
theorem ggX4_mapRow_X0_isKeptFor : GoodIn wsX4_mapRow wsX0_isKeptFor := goodIn_r _ [4, 5, 6, 88, 89, 90, 91, 92, 93, 94, 95, 96, 97, 98] (by decide +kernel) (by decide +kernel)
set_option maxRecDepth 20000 in
theorem gX4_mapRow_X0_isKeptFor_n222 : GoodIn wsX4_mapRow (wsX0_isKeptFor) := ggX4_mapRow_X0_isKeptFor
set_option maxRecDepth 20000 in
theorem ggX4_mapRow_X0_mapKept : GoodIn wsX4_mapRow wsX0_mapKept := goodIn_r _ [9, 5, 10, 11, 12, 13, 14, 15, 16, 17, 2, 18, 19, 20, 21, 22, 23, 24, 6, 88, 89, 90, 91, 92, 93, 94, 95, 96, 97, 98] (by decide +kernel) (by decide +kernel)
set_option maxRecDepth 20000 in
theorem gX4_mapRow_X0_mapKept_n225 : GoodIn wsX4_mapRow (wsX0_mapKept) := ggX4_mapRow_X0_mapKept
set_option maxRecDepth 20000 in
theorem ggX4_mapRow_X4_mapFound : GoodIn wsX4_mapRow wsX4_mapFound := goodIn_r _ [29, 30, 31, 11, 12, 13, 32, 33, 34, 28, 35, 36, 2, 37, 38, 19, 39, 40, 41, 42, 43, 44, 45, 46, 47, 48, 49, 50, 51, 52, 53, 54, 55, 56, 57, 58, 59, 60, 61, 62, 63, 64, 65, 66, 67, 68, 69, 70, 71, 72, 73, 74, 75, 76, 77, 78, 79, 80, 16, 17, 18, 20, 81, 82, 83, 84, 85, 86, 87, 22, 23, 24, 6, 14, 5, 99, 100, 101, 102, 103, 88, 89, 90, 91, 92, 93, 94, 95, 96, 97, 98, 104, 105] (by decide +kernel) (by decide +kernel)
set_option maxRecDepth 20000 in
theorem gX4_mapRow_X4_mapFound : GoodIn wsX4_mapRow (wsV RX4 228 RX4 yX4_mapFound wsX4_mapFound) := goodIn_app (goodIn_of _ (by decide +kernel)) ggX4_mapRow_X4_mapFound
theorem dX4_mapRow_0 : decode cX4_mapRow 0 = .ok (.iload_n 2, 1) := by decide +kernel
theorem dX4_mapRow_1 : decode cX4_mapRow 1 = .ok (.istore 4, 2) := by decide +kernel
theorem dX4_mapRow_3 : decode cX4_mapRow 3 = .ok (.iconst 0, 1) := by decide +kernel
theorem dX4_mapRow_4 : decode cX4_mapRow 4 = .ok (.istore 5, 2) := by decide +kernel
theorem dX4_mapRow_6 : decode cX4_mapRow 6 = .ok (.iload 5, 2) := by decide +kernel
theorem dX4_mapRow_8 : decode cX4_mapRow 8 = .ok (.bipush 64, 2) := by decide +kernel
theorem dX4_mapRow_10 : decode cX4_mapRow 10 = .ok (.if_icmp .ge 58, 3) := by decide +kernel
theorem dX4_mapRow_13 : decode cX4_mapRow 13 = .ok (.iload 4, 2) := by decide +kernel
theorem dX4_mapRow_15 : decode cX4_mapRow 15 = .ok (.iload_n 3, 1) := by decide +kernel
theorem dX4_mapRow_16 : decode cX4_mapRow 16 = .ok (.if_icmp .ge 52, 3) := by decide +kernel
theorem dX4_mapRow_19 : decode cX4_mapRow 19 = .ok (.aload_n 1, 1) := by decide +kernel
theorem dX4_mapRow_20 : decode cX4_mapRow 20 = .ok (.iload 4, 2) := by decide +kernel
theorem dX4_mapRow_22 : decode cX4_mapRow 22 = .ok (.invokevirtual 222, 3) := by decide +kernel
theorem dX4_mapRow_25 : decode cX4_mapRow 25 = .ok (.ifCond .eq 21, 3) := by decide +kernel
theorem dX4_mapRow_28 : decode cX4_mapRow 28 = .ok (.iload 4, 2) := by decide +kernel
theorem dX4_mapRow_30 : decode cX4_mapRow 30 = .ok (.aload_n 1, 1) := by decide +kernel
theorem dX4_mapRow_31 : decode cX4_mapRow 31 = .ok (.iload 4, 2) := by decide +kernel
theorem dX4_mapRow_33 : decode cX4_mapRow 33 = .ok (.iload_n 3, 1) := by decide +kernel
theorem dX4_mapRow_34 : decode cX4_mapRow 34 = .ok (.iload 4, 2) := by decide +kernel
theorem dX4_mapRow_36 : decode cX4_mapRow 36 = .ok (.isub, 1) := by decide +kernel
theorem dX4_mapRow_37 : decode cX4_mapRow 37 = .ok (.invokevirtual 225, 3) := by decide +kernel
theorem dX4_mapRow_40 : decode cX4_mapRow 40 = .ok (.iadd, 1) := by decide +kernel
theorem dX4_mapRow_41 : decode cX4_mapRow 41 = .ok (.istore 4, 2) := by decide +kernel
theorem dX4_mapRow_43 : decode cX4_mapRow 43 = .ok (.goto 19, 3) := by decide +kernel
theorem dX4_mapRow_46 : decode cX4_mapRow 46 = .ok (.iload 4, 2) := by decide +kernel
theorem dX4_mapRow_48 : decode cX4_mapRow 48 = .ok (.aload_n 0, 1) := by decide +kernel
theorem dX4_mapRow_49 : decode cX4_mapRow 49 = .ok (.aload_n 1, 1) := by decide +kernel
theorem dX4_mapRow_50 : decode cX4_mapRow 50 = .ok (.iload 4, 2) := by decide +kernel
theorem dX4_mapRow_52 : decode cX4_mapRow 52 = .ok (.iload_n 3, 1) := by decide +kernel
theorem dX4_mapRow_53 : decode cX4_mapRow 53 = .ok (.iload 4, 2) := by decide +kernel
theorem dX4_mapRow_55 : decode cX4_mapRow 55 = .ok (.isub, 1) := by decide +kernel
theorem dX4_mapRow_56 : decode cX4_mapRow 56 = .ok (.invokevirtual 228, 3) := by decide +kernel
theorem dX4_mapRow_59 : decode cX4_mapRow 59 = .ok (.iadd, 1) := by decide +kernel
theorem dX4_mapRow_60 : decode cX4_mapRow 60 = .ok (.istore 4, 2) := by decide +kernel
theorem dX4_mapRow_62 : decode cX4_mapRow 62 = .ok (.iinc 5 1, 3) := by decide +kernel
theorem dX4_mapRow_65 : decode cX4_mapRow 65 = .ok (.goto (-59), 3) := by decide +kernel
theorem dX4_mapRow_68 : decode cX4_mapRow 68 = .ok (.iload 4, 2) := by decide +kernel
theorem dX4_mapRow_70 : decode cX4_mapRow 70 = .ok (.iload_n 2, 1) := by decide +kernel
theorem dX4_mapRow_71 : decode cX4_mapRow 71 = .ok (.isub, 1) := by decide +kernel
theorem dX4_mapRow_72 : decode cX4_mapRow 72 = .ok (.ireturn, 1) := by decide +kernel
set_option maxRecDepth 20000 in
theorem ggX4_mapFound_X4_goalFor : GoodIn wsX4_mapFound wsX4_goalFor := goodIn_r _ [10, 11, 12, 13, 14, 15, 80, 81, 82, 83, 84, 85, 86, 87, 88, 89, 90] (by decide +kernel) (by decide +kernel)
set_option maxRecDepth 20000 in
theorem gX4_mapFound_X4_goalFor : GoodIn wsX4_mapFound (wsV RX4 231 RX4 yX4_goalFor wsX4_goalFor) := goodIn_app (goodIn_of _ (by decide +kernel)) ggX4_mapFound_X4_goalFor
set_option maxRecDepth 20000 in
theorem ggX4_mapFound_X4_lengthFor : GoodIn wsX4_mapFound wsX4_lengthFor := goodIn_r _ [19, 20, 21, 22, 9, 23, 24, 25, 26, 27, 1, 28, 29, 30, 31, 32, 75, 76, 77, 78, 79, 91, 92, 80, 81, 82, 83, 84, 85, 86, 87, 88, 89, 90] (by decide +kernel) (by decide +kernel)
set_option maxRecDepth 20000 in
theorem gX4_mapFound_X4_lengthFor : GoodIn wsX4_mapFound (wsV RX4 234 RX4 yX4_lengthFor wsX4_lengthFor) := goodIn_app (goodIn_of _ (by decide +kernel)) ggX4_mapFound_X4_lengthFor
set_option maxRecDepth 20000 in
theorem ggX4_mapFound_X2_find : GoodIn wsX4_mapFound wsX2_find := goodIn_r _ [36, 37, 38, 39, 34, 40, 41, 42, 43, 44, 45, 46, 47, 48, 49, 91, 92] (by decide +kernel) (by decide +kernel)
set_option maxRecDepth 20000 in
theorem gX4_mapFound_X2_find_n237 : GoodIn wsX4_mapFound (wsX2_find) := ggX4_mapFound_X2_find
set_option maxRecDepth 20000 in
theorem ggX4_mapFound_X2_take : GoodIn wsX4_mapFound wsX2_take := goodIn_r _ [52, 53, 54, 55, 34, 56, 41, 57, 91, 92] (by decide +kernel) (by decide +kernel)
set_option maxRecDepth 20000 in
theorem gX4_mapFound_X2_take_n245 : GoodIn wsX4_mapFound (wsX2_take) := ggX4_mapFound_X2_take
set_option maxRecDepth 20000 in
theorem ggX4_mapFound_X0_map : GoodIn wsX4_mapFound wsX0_map := goodIn_r _ [60, 15, 61, 80, 81, 82, 83, 84, 85, 86, 87, 88, 89, 90] (by decide +kernel) (by decide +kernel)
set_option maxRecDepth 20000 in
theorem gX4_mapFound_X0_map_n248 : GoodIn wsX4_mapFound (wsX0_map) := ggX4_mapFound_X0_map
set_option maxRecDepth 20000 in
theorem ggX4_mapFound_X4_releaseKept : GoodIn wsX4_mapFound wsX4_releaseKept := goodIn_r _ [65, 1, 66, 34, 67, 68, 53, 54, 55, 56, 41, 57, 75, 76, 77, 78, 79, 80, 81, 82, 83, 84, 85, 86, 87, 88, 89, 90, 91, 92] (by decide +kernel) (by decide +kernel)
set_option maxRecDepth 20000 in
theorem gX4_mapFound_X4_releaseKept : GoodIn wsX4_mapFound (wsV RX4 218 RX4 yX4_releaseKept wsX4_releaseKept) := goodIn_app (goodIn_of _ (by decide +kernel)) ggX4_mapFound_X4_releaseKept
set_option maxRecDepth 20000 in
theorem ggX4_mapFound_X0_keep : GoodIn wsX4_mapFound wsX0_keep := goodIn_r _ [71, 72, 73, 74, 80, 81, 82, 83, 84, 85, 86, 87, 88, 89, 90] (by decide +kernel) (by decide +kernel)
set_option maxRecDepth 20000 in
theorem gX4_mapFound_X0_keep_n251 : GoodIn wsX4_mapFound (wsX0_keep) := ggX4_mapFound_X0_keep
theorem dX4_mapFound_0 : decode cX4_mapFound 0 = .ok (.aload_n 0, 1) := by decide +kernel
theorem dX4_mapFound_1 : decode cX4_mapFound 1 = .ok (.aload_n 1, 1) := by decide +kernel
theorem dX4_mapFound_2 : decode cX4_mapFound 2 = .ok (.iload_n 2, 1) := by decide +kernel
theorem dX4_mapFound_3 : decode cX4_mapFound 3 = .ok (.invokevirtual 231, 3) := by decide +kernel
theorem dX4_mapFound_6 : decode cX4_mapFound 6 = .ok (.istore 4, 2) := by decide +kernel
theorem dX4_mapFound_8 : decode cX4_mapFound 8 = .ok (.aload_n 0, 1) := by decide +kernel
theorem dX4_mapFound_9 : decode cX4_mapFound 9 = .ok (.iload_n 3, 1) := by decide +kernel
theorem dX4_mapFound_10 : decode cX4_mapFound 10 = .ok (.invokevirtual 234, 3) := by decide +kernel
theorem dX4_mapFound_13 : decode cX4_mapFound 13 = .ok (.istore 5, 2) := by decide +kernel
theorem dX4_mapFound_15 : decode cX4_mapFound 15 = .ok (.aload_n 0, 1) := by decide +kernel
theorem dX4_mapFound_16 : decode cX4_mapFound 16 = .ok (.getfield 10, 3) := by decide +kernel
theorem dX4_mapFound_19 : decode cX4_mapFound 19 = .ok (.iload 4, 2) := by decide +kernel
theorem dX4_mapFound_21 : decode cX4_mapFound 21 = .ok (.iload 5, 2) := by decide +kernel
theorem dX4_mapFound_23 : decode cX4_mapFound 23 = .ok (.invokevirtual 237, 3) := by decide +kernel
theorem dX4_mapFound_26 : decode cX4_mapFound 26 = .ok (.istore 6, 2) := by decide +kernel
theorem dX4_mapFound_28 : decode cX4_mapFound 28 = .ok (.iload 6, 2) := by decide +kernel
theorem dX4_mapFound_30 : decode cX4_mapFound 30 = .ok (.iconst (-1), 1) := by decide +kernel
theorem dX4_mapFound_31 : decode cX4_mapFound 31 = .ok (.if_icmp .ne 31, 3) := by decide +kernel
theorem dX4_mapFound_34 : decode cX4_mapFound 34 = .ok (.iload 5, 2) := by decide +kernel
theorem dX4_mapFound_36 : decode cX4_mapFound 36 = .ok (.iconst 1, 1) := by decide +kernel
theorem dX4_mapFound_37 : decode cX4_mapFound 37 = .ok (.if_icmp .le 25, 3) := by decide +kernel
theorem dX4_mapFound_40 : decode cX4_mapFound 40 = .ok (.iload 5, 2) := by decide +kernel
theorem dX4_mapFound_42 : decode cX4_mapFound 42 = .ok (.iconst 2, 1) := by decide +kernel
theorem dX4_mapFound_43 : decode cX4_mapFound 43 = .ok (.idiv, 1) := by decide +kernel
theorem dX4_mapFound_44 : decode cX4_mapFound 44 = .ok (.istore 5, 2) := by decide +kernel
theorem dX4_mapFound_46 : decode cX4_mapFound 46 = .ok (.aload_n 0, 1) := by decide +kernel
theorem dX4_mapFound_47 : decode cX4_mapFound 47 = .ok (.getfield 10, 3) := by decide +kernel
theorem dX4_mapFound_50 : decode cX4_mapFound 50 = .ok (.iload 4, 2) := by decide +kernel
theorem dX4_mapFound_52 : decode cX4_mapFound 52 = .ok (.iload 5, 2) := by decide +kernel
theorem dX4_mapFound_54 : decode cX4_mapFound 54 = .ok (.invokevirtual 237, 3) := by decide +kernel
theorem dX4_mapFound_57 : decode cX4_mapFound 57 = .ok (.istore 6, 2) := by decide +kernel
theorem dX4_mapFound_59 : decode cX4_mapFound 59 = .ok (.goto (-31), 3) := by decide +kernel
theorem dX4_mapFound_62 : decode cX4_mapFound 62 = .ok (.iload 6, 2) := by decide +kernel
theorem dX4_mapFound_64 : decode cX4_mapFound 64 = .ok (.iconst (-1), 1) := by decide +kernel
theorem dX4_mapFound_65 : decode cX4_mapFound 65 = .ok (.if_icmp .ne 5, 3) := by decide +kernel
theorem dX4_mapFound_68 : decode cX4_mapFound 68 = .ok (.iconst 0, 1) := by decide +kernel
theorem dX4_mapFound_69 : decode cX4_mapFound 69 = .ok (.ireturn, 1) := by decide +kernel
theorem dX4_mapFound_70 : decode cX4_mapFound 70 = .ok (.iload 5, 2) := by decide +kernel
theorem dX4_mapFound_72 : decode cX4_mapFound 72 = .ok (.iload_n 3, 1) := by decide +kernel
theorem dX4_mapFound_73 : decode cX4_mapFound 73 = .ok (.invokestatic 240, 3) := by decide +kernel
theorem dX4_mapFound_76 : decode cX4_mapFound 76 = .ok (.istore 7, 2) := by decide +kernel
theorem dX4_mapFound_78 : decode cX4_mapFound 78 = .ok (.aload_n 0, 1) := by decide +kernel
theorem dX4_mapFound_79 : decode cX4_mapFound 79 = .ok (.getfield 10, 3) := by decide +kernel
theorem dX4_mapFound_82 : decode cX4_mapFound 82 = .ok (.iload 6, 2) := by decide +kernel
theorem dX4_mapFound_84 : decode cX4_mapFound 84 = .ok (.iload 5, 2) := by decide +kernel
theorem dX4_mapFound_86 : decode cX4_mapFound 86 = .ok (.invokevirtual 245, 3) := by decide +kernel
theorem dX4_mapFound_89 : decode cX4_mapFound 89 = .ok (.aload_n 1, 1) := by decide +kernel
theorem dX4_mapFound_90 : decode cX4_mapFound 90 = .ok (.iload_n 2, 1) := by decide +kernel
theorem dX4_mapFound_91 : decode cX4_mapFound 91 = .ok (.iload 6, 2) := by decide +kernel
theorem dX4_mapFound_93 : decode cX4_mapFound 93 = .ok (.iload 7, 2) := by decide +kernel
theorem dX4_mapFound_95 : decode cX4_mapFound 95 = .ok (.invokevirtual 248, 3) := by decide +kernel
theorem dX4_mapFound_98 : decode cX4_mapFound 98 = .ok (.iload 5, 2) := by decide +kernel
theorem dX4_mapFound_100 : decode cX4_mapFound 100 = .ok (.iload 7, 2) := by decide +kernel
theorem dX4_mapFound_102 : decode cX4_mapFound 102 = .ok (.if_icmp .le 26, 3) := by decide +kernel
theorem dX4_mapFound_105 : decode cX4_mapFound 105 = .ok (.aload_n 0, 1) := by decide +kernel
theorem dX4_mapFound_106 : decode cX4_mapFound 106 = .ok (.aload_n 1, 1) := by decide +kernel
theorem dX4_mapFound_107 : decode cX4_mapFound 107 = .ok (.invokevirtual 218, 3) := by decide +kernel
theorem dX4_mapFound_110 : decode cX4_mapFound 110 = .ok (.aload_n 1, 1) := by decide +kernel
theorem dX4_mapFound_111 : decode cX4_mapFound 111 = .ok (.iload_n 2, 1) := by decide +kernel
theorem dX4_mapFound_112 : decode cX4_mapFound 112 = .ok (.iload 7, 2) := by decide +kernel
theorem dX4_mapFound_114 : decode cX4_mapFound 114 = .ok (.iadd, 1) := by decide +kernel
theorem dX4_mapFound_115 : decode cX4_mapFound 115 = .ok (.iload 6, 2) := by decide +kernel
theorem dX4_mapFound_117 : decode cX4_mapFound 117 = .ok (.iload 7, 2) := by decide +kernel
theorem dX4_mapFound_119 : decode cX4_mapFound 119 = .ok (.iadd, 1) := by decide +kernel
theorem dX4_mapFound_120 : decode cX4_mapFound 120 = .ok (.iload 5, 2) := by decide +kernel
theorem dX4_mapFound_122 : decode cX4_mapFound 122 = .ok (.iload 7, 2) := by decide +kernel
theorem dX4_mapFound_124 : decode cX4_mapFound 124 = .ok (.isub, 1) := by decide +kernel
theorem dX4_mapFound_125 : decode cX4_mapFound 125 = .ok (.invokevirtual 251, 3) := by decide +kernel
theorem dX4_mapFound_128 : decode cX4_mapFound 128 = .ok (.iload 7, 2) := by decide +kernel
theorem dX4_mapFound_130 : decode cX4_mapFound 130 = .ok (.ireturn, 1) := by decide +kernel
set_option maxRecDepth 20000 in
theorem ggX4_goalFor_X0_isMapped : GoodIn wsX4_goalFor wsX0_isMapped := goodIn_r _ [4, 5, 6, 7, 8, 9, 10, 11, 12, 13, 14, 15, 16] (by decide +kernel) (by decide +kernel)
set_option maxRecDepth 20000 in
theorem gX4_goalFor_X0_isMapped_n254 : GoodIn wsX4_goalFor (wsX0_isMapped) := ggX4_goalFor_X0_isMapped
theorem dX4_goalFor_0 : decode cX4_goalFor 0 = .ok (.aload_n 1, 1) := by decide +kernel
theorem dX4_goalFor_1 : decode cX4_goalFor 1 = .ok (.iload_n 2, 1) := by decide +kernel
theorem dX4_goalFor_2 : decode cX4_goalFor 2 = .ok (.iconst 1, 1) := by decide +kernel
theorem dX4_goalFor_3 : decode cX4_goalFor 3 = .ok (.isub, 1) := by decide +kernel
theorem dX4_goalFor_4 : decode cX4_goalFor 4 = .ok (.invokevirtual 254, 3) := by decide +kernel
theorem dX4_goalFor_7 : decode cX4_goalFor 7 = .ok (.ifCond .eq 23, 3) := by decide +kernel
theorem dX4_goalFor_10 : decode cX4_goalFor 10 = .ok (.aload_n 1, 1) := by decide +kernel
theorem dX4_goalFor_11 : decode cX4_goalFor 11 = .ok (.getfield 174, 3) := by decide +kernel
theorem dX4_goalFor_14 : decode cX4_goalFor 14 = .ok (.iload_n 2, 1) := by decide +kernel
theorem dX4_goalFor_15 : decode cX4_goalFor 15 = .ok (.iconst 1, 1) := by decide +kernel
theorem dX4_goalFor_16 : decode cX4_goalFor 16 = .ok (.isub, 1) := by decide +kernel
theorem dX4_goalFor_17 : decode cX4_goalFor 17 = .ok (.iaload, 1) := by decide +kernel
theorem dX4_goalFor_18 : decode cX4_goalFor 18 = .ok (.iconst 1, 1) := by decide +kernel
theorem dX4_goalFor_19 : decode cX4_goalFor 19 = .ok (.iadd, 1) := by decide +kernel
theorem dX4_goalFor_20 : decode cX4_goalFor 20 = .ok (.istore_n 3, 1) := by decide +kernel
theorem dX4_goalFor_21 : decode cX4_goalFor 21 = .ok (.iload_n 3, 1) := by decide +kernel
theorem dX4_goalFor_22 : decode cX4_goalFor 22 = .ok (.sipush 128, 3) := by decide +kernel
theorem dX4_goalFor_25 : decode cX4_goalFor 25 = .ok (.if_icmp .ge 5, 3) := by decide +kernel
theorem dX4_goalFor_28 : decode cX4_goalFor 28 = .ok (.iload_n 3, 1) := by decide +kernel
theorem dX4_goalFor_29 : decode cX4_goalFor 29 = .ok (.ireturn, 1) := by decide +kernel
theorem dX4_goalFor_30 : decode cX4_goalFor 30 = .ok (.aload_n 1, 1) := by decide +kernel
theorem dX4_goalFor_31 : decode cX4_goalFor 31 = .ok (.getfield 257, 3) := by decide +kernel
theorem dX4_goalFor_34 : decode cX4_goalFor 34 = .ok (.iconst 4, 1) := by decide +kernel
theorem dX4_goalFor_35 : decode cX4_goalFor 35 = .ok (.irem, 1) := by decide +kernel
theorem dX4_goalFor_36 : decode cX4_goalFor 36 = .ok (.bipush 32, 2) := by decide +kernel
theorem dX4_goalFor_38 : decode cX4_goalFor 38 = .ok (.imul, 1) := by decide +kernel
theorem dX4_goalFor_39 : decode cX4_goalFor 39 = .ok (.ireturn, 1) := by decide +kernel
set_option maxRecDepth 20000 in
theorem ggX4_lengthFor_X4_left : GoodIn wsX4_lengthFor wsX4_left := goodIn_r _ [5, 6, 7, 8, 4, 9, 10, 11, 12, 13, 14, 15, 16, 17, 18, 19, 20, 21, 22, 23, 24, 25, 26, 27, 28, 29, 30, 31, 32, 33] (by decide +kernel) (by decide +kernel)
set_option maxRecDepth 20000 in
theorem gX4_lengthFor_X4_left : GoodIn wsX4_lengthFor (wsV RX4 105 RX4 yX4_left wsX4_left) := goodIn_app (goodIn_of _ (by decide +kernel)) ggX4_lengthFor_X4_left
theorem dX4_lengthFor_0 : decode cX4_lengthFor 0 = .ok (.iconst 1, 1) := by decide +kernel
theorem dX4_lengthFor_1 : decode cX4_lengthFor 1 = .ok (.istore_n 2, 1) := by decide +kernel
theorem dX4_lengthFor_2 : decode cX4_lengthFor 2 = .ok (.iload_n 2, 1) := by decide +kernel
theorem dX4_lengthFor_3 : decode cX4_lengthFor 3 = .ok (.iload_n 1, 1) := by decide +kernel
theorem dX4_lengthFor_4 : decode cX4_lengthFor 4 = .ok (.if_icmp .ge 16, 3) := by decide +kernel
theorem dX4_lengthFor_7 : decode cX4_lengthFor 7 = .ok (.iload_n 2, 1) := by decide +kernel
theorem dX4_lengthFor_8 : decode cX4_lengthFor 8 = .ok (.bipush 16, 2) := by decide +kernel
theorem dX4_lengthFor_10 : decode cX4_lengthFor 10 = .ok (.if_icmp .ge 10, 3) := by decide +kernel
theorem dX4_lengthFor_13 : decode cX4_lengthFor 13 = .ok (.iload_n 2, 1) := by decide +kernel
theorem dX4_lengthFor_14 : decode cX4_lengthFor 14 = .ok (.iconst 2, 1) := by decide +kernel
theorem dX4_lengthFor_15 : decode cX4_lengthFor 15 = .ok (.imul, 1) := by decide +kernel
theorem dX4_lengthFor_16 : decode cX4_lengthFor 16 = .ok (.istore_n 2, 1) := by decide +kernel
theorem dX4_lengthFor_17 : decode cX4_lengthFor 17 = .ok (.goto (-15), 3) := by decide +kernel
theorem dX4_lengthFor_20 : decode cX4_lengthFor 20 = .ok (.iload_n 2, 1) := by decide +kernel
theorem dX4_lengthFor_21 : decode cX4_lengthFor 21 = .ok (.iload_n 1, 1) := by decide +kernel
theorem dX4_lengthFor_22 : decode cX4_lengthFor 22 = .ok (.isub, 1) := by decide +kernel
theorem dX4_lengthFor_23 : decode cX4_lengthFor 23 = .ok (.aload_n 0, 1) := by decide +kernel
theorem dX4_lengthFor_24 : decode cX4_lengthFor 24 = .ok (.invokevirtual 105, 3) := by decide +kernel
theorem dX4_lengthFor_27 : decode cX4_lengthFor 27 = .ok (.if_icmp .le 9, 3) := by decide +kernel
theorem dX4_lengthFor_30 : decode cX4_lengthFor 30 = .ok (.iload_n 2, 1) := by decide +kernel
theorem dX4_lengthFor_31 : decode cX4_lengthFor 31 = .ok (.iconst 2, 1) := by decide +kernel
theorem dX4_lengthFor_32 : decode cX4_lengthFor 32 = .ok (.idiv, 1) := by decide +kernel
theorem dX4_lengthFor_33 : decode cX4_lengthFor 33 = .ok (.goto 4, 3) := by decide +kernel
theorem dX4_lengthFor_36 : decode cX4_lengthFor 36 = .ok (.iload_n 2, 1) := by decide +kernel
theorem dX4_lengthFor_37 : decode cX4_lengthFor 37 = .ok (.ireturn, 1) := by decide +kernel
set_option maxRecDepth 20000 in
theorem ggX4_cutTo_X0_dropReserved : GoodIn wsX4_cutTo wsX0_dropReserved := goodIn_r _ [4, 5, 6, 49, 50, 51, 52, 53, 54, 55, 56, 57, 58, 59] (by decide +kernel) (by decide +kernel)
set_option maxRecDepth 20000 in
theorem gX4_cutTo_X0_dropReserved_n260 : GoodIn wsX4_cutTo (wsX0_dropReserved) := ggX4_cutTo_X0_dropReserved
set_option maxRecDepth 20000 in
theorem ggX4_cutTo_X4_releaseKept : GoodIn wsX4_cutTo wsX4_releaseKept := goodIn_r _ [11, 12, 13, 14, 15, 16, 17, 18, 19, 20, 21, 22, 60, 61, 62, 63, 64, 49, 50, 51, 52, 53, 54, 55, 56, 57, 58, 59, 65, 66] (by decide +kernel) (by decide +kernel)
set_option maxRecDepth 20000 in
theorem gX4_cutTo_X4_releaseKept : GoodIn wsX4_cutTo (wsV RX4 218 RX4 yX4_releaseKept wsX4_releaseKept) := goodIn_app (goodIn_of _ (by decide +kernel)) ggX4_cutTo_X4_releaseKept
set_option maxRecDepth 20000 in
theorem ggX4_cutTo_X0_isMapped : GoodIn wsX4_cutTo wsX0_isMapped := goodIn_r _ [25, 5, 49, 50, 51, 52, 53, 54, 55, 56, 57, 58, 59] (by decide +kernel) (by decide +kernel)
set_option maxRecDepth 20000 in
theorem gX4_cutTo_X0_isMapped_n254 : GoodIn wsX4_cutTo (wsX0_isMapped) := ggX4_cutTo_X0_isMapped
set_option maxRecDepth 20000 in
theorem ggX4_cutTo_X4_step : GoodIn wsX4_cutTo wsX4_step := goodIn_r _ [29, 12, 30, 2, 31, 32, 5, 33, 23, 24, 25, 13, 14, 15, 16, 17, 18, 19, 20, 21, 22, 60, 61, 62, 63, 64, 49, 50, 51, 52, 53, 54, 55, 56, 57, 58, 59, 65, 66] (by decide +kernel) (by decide +kernel)
set_option maxRecDepth 20000 in
theorem gX4_cutTo_X4_step : GoodIn wsX4_cutTo (wsV RX4 263 RX4 yX4_step wsX4_step) := goodIn_app (goodIn_of _ (by decide +kernel)) ggX4_cutTo_X4_step
set_option maxRecDepth 20000 in
theorem ggX4_cutTo_X4_crashIsDue : GoodIn wsX4_cutTo wsX4_crashIsDue := goodIn_r _ [37, 38, 60, 61, 62, 63, 64] (by decide +kernel) (by decide +kernel)
set_option maxRecDepth 20000 in
theorem gX4_cutTo_X4_crashIsDue : GoodIn wsX4_cutTo (wsV RX4 267 RX4 yX4_crashIsDue wsX4_crashIsDue) := goodIn_app (goodIn_of _ (by decide +kernel)) ggX4_cutTo_X4_crashIsDue
set_option maxRecDepth 20000 in
theorem ggX4_cutTo_X4_fall : GoodIn wsX4_cutTo wsX4_fall := goodIn_r _ [42, 43, 38, 44, 45, 46, 47, 10, 48, 7, 8, 9, 11, 12, 13, 14, 15, 16, 17, 18, 19, 20, 21, 22, 1, 2, 3, 4, 5, 6, 60, 61, 62, 63, 64, 49, 50, 51, 52, 53, 54, 55, 56, 57, 58, 59, 65, 66] (by decide +kernel) (by decide +kernel)
set_option maxRecDepth 20000 in
theorem gX4_cutTo_X4_fall : GoodIn wsX4_cutTo (wsV RX4 134 RX4 yX4_fall wsX4_fall) := goodIn_app (goodIn_of _ (by decide +kernel)) ggX4_cutTo_X4_fall
theorem dX4_cutTo_0 : decode cX4_cutTo 0 = .ok (.aload_n 1, 1) := by decide +kernel
theorem dX4_cutTo_1 : decode cX4_cutTo 1 = .ok (.iconst 1, 1) := by decide +kernel
theorem dX4_cutTo_2 : decode cX4_cutTo 2 = .ok (.putfield 94, 3) := by decide +kernel
theorem dX4_cutTo_5 : decode cX4_cutTo 5 = .ok (.aload_n 1, 1) := by decide +kernel
theorem dX4_cutTo_6 : decode cX4_cutTo 6 = .ok (.iload_n 2, 1) := by decide +kernel
theorem dX4_cutTo_7 : decode cX4_cutTo 7 = .ok (.putfield 142, 3) := by decide +kernel
theorem dX4_cutTo_10 : decode cX4_cutTo 10 = .ok (.aload_n 1, 1) := by decide +kernel
theorem dX4_cutTo_11 : decode cX4_cutTo 11 = .ok (.iload_n 2, 1) := by decide +kernel
theorem dX4_cutTo_12 : decode cX4_cutTo 12 = .ok (.invokevirtual 260, 3) := by decide +kernel
theorem dX4_cutTo_15 : decode cX4_cutTo 15 = .ok (.aload_n 0, 1) := by decide +kernel
theorem dX4_cutTo_16 : decode cX4_cutTo 16 = .ok (.aload_n 1, 1) := by decide +kernel
theorem dX4_cutTo_17 : decode cX4_cutTo 17 = .ok (.invokevirtual 218, 3) := by decide +kernel
theorem dX4_cutTo_20 : decode cX4_cutTo 20 = .ok (.iconst 0, 1) := by decide +kernel
theorem dX4_cutTo_21 : decode cX4_cutTo 21 = .ok (.istore_n 3, 1) := by decide +kernel
theorem dX4_cutTo_22 : decode cX4_cutTo 22 = .ok (.bipush 63, 2) := by decide +kernel
theorem dX4_cutTo_24 : decode cX4_cutTo 24 = .ok (.istore 4, 2) := by decide +kernel
theorem dX4_cutTo_26 : decode cX4_cutTo 26 = .ok (.iload 4, 2) := by decide +kernel
theorem dX4_cutTo_28 : decode cX4_cutTo 28 = .ok (.iload_n 2, 1) := by decide +kernel
theorem dX4_cutTo_29 : decode cX4_cutTo 29 = .ok (.if_icmp .lt 42, 3) := by decide +kernel
theorem dX4_cutTo_32 : decode cX4_cutTo 32 = .ok (.aload_n 1, 1) := by decide +kernel
theorem dX4_cutTo_33 : decode cX4_cutTo 33 = .ok (.iload 4, 2) := by decide +kernel
theorem dX4_cutTo_35 : decode cX4_cutTo 35 = .ok (.invokevirtual 254, 3) := by decide +kernel
theorem dX4_cutTo_38 : decode cX4_cutTo 38 = .ok (.ifCond .eq 27, 3) := by decide +kernel
theorem dX4_cutTo_41 : decode cX4_cutTo 41 = .ok (.aload_n 0, 1) := by decide +kernel
theorem dX4_cutTo_42 : decode cX4_cutTo 42 = .ok (.aload_n 1, 1) := by decide +kernel
theorem dX4_cutTo_43 : decode cX4_cutTo 43 = .ok (.iload 4, 2) := by decide +kernel
theorem dX4_cutTo_45 : decode cX4_cutTo 45 = .ok (.iload_n 2, 1) := by decide +kernel
theorem dX4_cutTo_46 : decode cX4_cutTo 46 = .ok (.invokevirtual 263, 3) := by decide +kernel
theorem dX4_cutTo_49 : decode cX4_cutTo 49 = .ok (.iinc 3 1, 3) := by decide +kernel
theorem dX4_cutTo_52 : decode cX4_cutTo 52 = .ok (.aload_n 0, 1) := by decide +kernel
theorem dX4_cutTo_53 : decode cX4_cutTo 53 = .ok (.invokevirtual 267, 3) := by decide +kernel
theorem dX4_cutTo_56 : decode cX4_cutTo 56 = .ok (.ifCond .eq 9, 3) := by decide +kernel
theorem dX4_cutTo_59 : decode cX4_cutTo 59 = .ok (.aload_n 0, 1) := by decide +kernel
theorem dX4_cutTo_60 : decode cX4_cutTo 60 = .ok (.invokevirtual 134, 3) := by decide +kernel
theorem dX4_cutTo_63 : decode cX4_cutTo 63 = .ok (.iconst (-1), 1) := by decide +kernel
theorem dX4_cutTo_64 : decode cX4_cutTo 64 = .ok (.ireturn, 1) := by decide +kernel
theorem dX4_cutTo_65 : decode cX4_cutTo 65 = .ok (.iinc 4 (-1), 3) := by decide +kernel
theorem dX4_cutTo_68 : decode cX4_cutTo 68 = .ok (.goto (-42), 3) := by decide +kernel
theorem dX4_cutTo_71 : decode cX4_cutTo 71 = .ok (.aload_n 1, 1) := by decide +kernel
theorem dX4_cutTo_72 : decode cX4_cutTo 72 = .ok (.aload_n 1, 1) := by decide +kernel
theorem dX4_cutTo_73 : decode cX4_cutTo 73 = .ok (.getfield 84, 3) := by decide +kernel
theorem dX4_cutTo_76 : decode cX4_cutTo 76 = .ok (.putfield 94, 3) := by decide +kernel
theorem dX4_cutTo_79 : decode cX4_cutTo 79 = .ok (.iload_n 3, 1) := by decide +kernel
theorem dX4_cutTo_80 : decode cX4_cutTo 80 = .ok (.ireturn, 1) := by decide +kernel
set_option maxRecDepth 20000 in
theorem ggX4_step_X0_joinsAhead : GoodIn wsX4_step wsX0_joinsAhead := goodIn_r _ [5, 6, 7, 8, 9, 3, 10, 26, 27, 28, 29, 30, 31, 32, 33, 34, 35, 36] (by decide +kernel) (by decide +kernel)
set_option maxRecDepth 20000 in
theorem gX4_step_X0_joinsAhead_n270 : GoodIn wsX4_step (wsX0_joinsAhead) := ggX4_step_X0_joinsAhead
set_option maxRecDepth 20000 in
theorem ggX4_step_X2_release : GoodIn wsX4_step wsX2_release := goodIn_r _ [14, 15, 16, 17, 12, 18, 19, 20, 37, 38] (by decide +kernel) (by decide +kernel)
set_option maxRecDepth 20000 in
theorem gX4_step_X2_release_n215 : GoodIn wsX4_step (wsX2_release) := ggX4_step_X2_release
theorem dX4_step_0 : decode cX4_step 0 = .ok (.iload_n 2, 1) := by decide +kernel
theorem dX4_step_1 : decode cX4_step 1 = .ok (.istore 4, 2) := by decide +kernel
theorem dX4_step_3 : decode cX4_step 3 = .ok (.iload 4, 2) := by decide +kernel
theorem dX4_step_5 : decode cX4_step 5 = .ok (.iload_n 3, 1) := by decide +kernel
theorem dX4_step_6 : decode cX4_step 6 = .ok (.if_icmp .le 26, 3) := by decide +kernel
theorem dX4_step_9 : decode cX4_step 9 = .ok (.iload_n 2, 1) := by decide +kernel
theorem dX4_step_10 : decode cX4_step 10 = .ok (.iload 4, 2) := by decide +kernel
theorem dX4_step_12 : decode cX4_step 12 = .ok (.isub, 1) := by decide +kernel
theorem dX4_step_13 : decode cX4_step 13 = .ok (.iconst 3, 1) := by decide +kernel
theorem dX4_step_14 : decode cX4_step 14 = .ok (.if_icmp .ge 18, 3) := by decide +kernel
theorem dX4_step_17 : decode cX4_step 17 = .ok (.aload_n 1, 1) := by decide +kernel
theorem dX4_step_18 : decode cX4_step 18 = .ok (.iload 4, 2) := by decide +kernel
theorem dX4_step_20 : decode cX4_step 20 = .ok (.invokevirtual 270, 3) := by decide +kernel
theorem dX4_step_23 : decode cX4_step 23 = .ok (.ifCond .eq 9, 3) := by decide +kernel
theorem dX4_step_26 : decode cX4_step 26 = .ok (.iinc 4 (-1), 3) := by decide +kernel
theorem dX4_step_29 : decode cX4_step 29 = .ok (.goto (-26), 3) := by decide +kernel
theorem dX4_step_32 : decode cX4_step 32 = .ok (.iload 4, 2) := by decide +kernel
theorem dX4_step_34 : decode cX4_step 34 = .ok (.istore 5, 2) := by decide +kernel
theorem dX4_step_36 : decode cX4_step 36 = .ok (.iload 5, 2) := by decide +kernel
theorem dX4_step_38 : decode cX4_step 38 = .ok (.iload_n 2, 1) := by decide +kernel
theorem dX4_step_39 : decode cX4_step 39 = .ok (.if_icmp .gt 32, 3) := by decide +kernel
theorem dX4_step_42 : decode cX4_step 42 = .ok (.aload_n 0, 1) := by decide +kernel
theorem dX4_step_43 : decode cX4_step 43 = .ok (.getfield 10, 3) := by decide +kernel
theorem dX4_step_46 : decode cX4_step 46 = .ok (.aload_n 1, 1) := by decide +kernel
theorem dX4_step_47 : decode cX4_step 47 = .ok (.getfield 174, 3) := by decide +kernel
theorem dX4_step_50 : decode cX4_step 50 = .ok (.iload 5, 2) := by decide +kernel
theorem dX4_step_52 : decode cX4_step 52 = .ok (.iaload, 1) := by decide +kernel
theorem dX4_step_53 : decode cX4_step 53 = .ok (.iconst 1, 1) := by decide +kernel
theorem dX4_step_54 : decode cX4_step 54 = .ok (.invokevirtual 215, 3) := by decide +kernel
theorem dX4_step_57 : decode cX4_step 57 = .ok (.aload_n 1, 1) := by decide +kernel
theorem dX4_step_58 : decode cX4_step 58 = .ok (.getfield 174, 3) := by decide +kernel
theorem dX4_step_61 : decode cX4_step 61 = .ok (.iload 5, 2) := by decide +kernel
theorem dX4_step_63 : decode cX4_step 63 = .ok (.iconst (-1), 1) := by decide +kernel
theorem dX4_step_64 : decode cX4_step 64 = .ok (.iastore, 1) := by decide +kernel
theorem dX4_step_65 : decode cX4_step 65 = .ok (.iinc 5 1, 3) := by decide +kernel
theorem dX4_step_68 : decode cX4_step 68 = .ok (.goto (-32), 3) := by decide +kernel
theorem dX4_step_71 : decode cX4_step 71 = .ok (.return_, 1) := by decide +kernel
theorem dX4_crashIsDue_0 : decode cX4_crashIsDue 0 = .ok (.aload_n 0, 1) := by decide +kernel
theorem dX4_crashIsDue_1 : decode cX4_crashIsDue 1 = .ok (.getfield 29, 3) := by decide +kernel
theorem dX4_crashIsDue_4 : decode cX4_crashIsDue 4 = .ok (.iconst (-1), 1) := by decide +kernel
theorem dX4_crashIsDue_5 : decode cX4_crashIsDue 5 = .ok (.if_icmp .ne 5, 3) := by decide +kernel
theorem dX4_crashIsDue_8 : decode cX4_crashIsDue 8 = .ok (.iconst 0, 1) := by decide +kernel
theorem dX4_crashIsDue_9 : decode cX4_crashIsDue 9 = .ok (.ireturn, 1) := by decide +kernel
theorem dX4_crashIsDue_10 : decode cX4_crashIsDue 10 = .ok (.aload_n 0, 1) := by decide +kernel
theorem dX4_crashIsDue_11 : decode cX4_crashIsDue 11 = .ok (.dup, 1) := by decide +kernel
theorem dX4_crashIsDue_12 : decode cX4_crashIsDue 12 = .ok (.getfield 29, 3) := by decide +kernel
theorem dX4_crashIsDue_15 : decode cX4_crashIsDue 15 = .ok (.iconst 1, 1) := by decide +kernel
theorem dX4_crashIsDue_16 : decode cX4_crashIsDue 16 = .ok (.isub, 1) := by decide +kernel
theorem dX4_crashIsDue_17 : decode cX4_crashIsDue 17 = .ok (.putfield 29, 3) := by decide +kernel
theorem dX4_crashIsDue_20 : decode cX4_crashIsDue 20 = .ok (.aload_n 0, 1) := by decide +kernel
theorem dX4_crashIsDue_21 : decode cX4_crashIsDue 21 = .ok (.getfield 29, 3) := by decide +kernel
theorem dX4_crashIsDue_24 : decode cX4_crashIsDue 24 = .ok (.ifCond .ne 7, 3) := by decide +kernel
theorem dX4_crashIsDue_27 : decode cX4_crashIsDue 27 = .ok (.iconst 1, 1) := by decide +kernel
theorem dX4_crashIsDue_28 : decode cX4_crashIsDue 28 = .ok (.goto 4, 3) := by decide +kernel
theorem dX4_crashIsDue_31 : decode cX4_crashIsDue 31 = .ok (.iconst 0, 1) := by decide +kernel
theorem dX4_crashIsDue_32 : decode cX4_crashIsDue 32 = .ok (.ireturn, 1) := by decide +kernel
set_option maxRecDepth 20000 in
theorem ggX4_fall_X4_releaseAllKept : GoodIn wsX4_fall wsX4_releaseAllKept := goodIn_r _ [8, 3, 9, 10, 11, 7, 12, 13, 14, 15, 16, 17, 18, 19, 20, 21, 22, 23, 30, 31, 32, 33, 34, 35, 36, 37, 38, 39, 40, 41, 42, 43, 44, 45, 46, 47] (by decide +kernel) (by decide +kernel)
set_option maxRecDepth 20000 in
theorem gX4_fall_X4_releaseAllKept : GoodIn wsX4_fall (wsV RX4 113 RX4 yX4_releaseAllKept wsX4_releaseAllKept) := goodIn_app (goodIn_of _ (by decide +kernel)) ggX4_fall_X4_releaseAllKept
set_option maxRecDepth 20000 in
theorem ggX4_fall_X0_dropReserved : GoodIn wsX4_fall wsX0_dropReserved := goodIn_r _ [27, 28, 29, 35, 36, 37, 38, 39, 40, 41, 42, 43, 44, 45] (by decide +kernel) (by decide +kernel)
set_option maxRecDepth 20000 in
theorem gX4_fall_X0_dropReserved_n260 : GoodIn wsX4_fall (wsX0_dropReserved) := ggX4_fall_X0_dropReserved
theorem dX4_fall_0 : decode cX4_fall 0 = .ok (.aload_n 0, 1) := by decide +kernel
theorem dX4_fall_1 : decode cX4_fall 1 = .ok (.iconst 1, 1) := by decide +kernel
theorem dX4_fall_2 : decode cX4_fall 2 = .ok (.putfield 33, 3) := by decide +kernel
theorem dX4_fall_5 : decode cX4_fall 5 = .ok (.aload_n 0, 1) := by decide +kernel
theorem dX4_fall_6 : decode cX4_fall 6 = .ok (.iconst (-1), 1) := by decide +kernel
theorem dX4_fall_7 : decode cX4_fall 7 = .ok (.putfield 29, 3) := by decide +kernel
theorem dX4_fall_10 : decode cX4_fall 10 = .ok (.aload_n 0, 1) := by decide +kernel
theorem dX4_fall_11 : decode cX4_fall 11 = .ok (.invokevirtual 113, 3) := by decide +kernel
theorem dX4_fall_14 : decode cX4_fall 14 = .ok (.iconst 0, 1) := by decide +kernel
theorem dX4_fall_15 : decode cX4_fall 15 = .ok (.istore_n 1, 1) := by decide +kernel
theorem dX4_fall_16 : decode cX4_fall 16 = .ok (.iload_n 1, 1) := by decide +kernel
theorem dX4_fall_17 : decode cX4_fall 17 = .ok (.bipush 16, 2) := by decide +kernel
theorem dX4_fall_19 : decode cX4_fall 19 = .ok (.if_icmp .ge 29, 3) := by decide +kernel
theorem dX4_fall_22 : decode cX4_fall 22 = .ok (.aload_n 0, 1) := by decide +kernel
theorem dX4_fall_23 : decode cX4_fall 23 = .ok (.getfield 25, 3) := by decide +kernel
theorem dX4_fall_26 : decode cX4_fall 26 = .ok (.iload_n 1, 1) := by decide +kernel
theorem dX4_fall_27 : decode cX4_fall 27 = .ok (.aaload, 1) := by decide +kernel
theorem dX4_fall_28 : decode cX4_fall 28 = .ok (.iconst 0, 1) := by decide +kernel
theorem dX4_fall_29 : decode cX4_fall 29 = .ok (.invokevirtual 260, 3) := by decide +kernel
theorem dX4_fall_32 : decode cX4_fall 32 = .ok (.aload_n 0, 1) := by decide +kernel
theorem dX4_fall_33 : decode cX4_fall 33 = .ok (.getfield 25, 3) := by decide +kernel
theorem dX4_fall_36 : decode cX4_fall 36 = .ok (.iload_n 1, 1) := by decide +kernel
theorem dX4_fall_37 : decode cX4_fall 37 = .ok (.aaload, 1) := by decide +kernel
theorem dX4_fall_38 : decode cX4_fall 38 = .ok (.iconst 0, 1) := by decide +kernel
theorem dX4_fall_39 : decode cX4_fall 39 = .ok (.putfield 75, 3) := by decide +kernel
theorem dX4_fall_42 : decode cX4_fall 42 = .ok (.iinc 1 1, 3) := by decide +kernel
theorem dX4_fall_45 : decode cX4_fall 45 = .ok (.goto (-29), 3) := by decide +kernel
theorem dX4_fall_48 : decode cX4_fall 48 = .ok (.return_, 1) := by decide +kernel
set_option maxRecDepth 20000 in
theorem ggX4_erase_X4_cutTo : GoodIn wsX4_erase wsX4_cutTo := goodIn_r _ [5, 6, 7, 8, 9, 10, 11, 12, 13, 14, 4, 15, 16, 17, 18, 19, 20, 21, 22, 23, 24, 25, 26, 27, 28, 29, 30, 31, 32, 33, 34, 35, 36, 37, 38, 39, 40, 41, 42, 43, 44, 45, 46, 47, 48, 49, 50, 51, 52, 53, 54, 55, 56, 57, 58, 59, 60, 61, 62, 63, 64, 65, 66, 67, 68, 69, 70] (by decide +kernel) (by decide +kernel)
set_option maxRecDepth 20000 in
theorem gX4_erase_X4_cutTo : GoodIn wsX4_erase (wsV RX4 130 RX4 yX4_cutTo wsX4_cutTo) := goodIn_app (goodIn_of _ (by decide +kernel)) ggX4_erase_X4_cutTo
theorem dX4_erase_0 : decode cX4_erase 0 = .ok (.aload_n 0, 1) := by decide +kernel
theorem dX4_erase_1 : decode cX4_erase 1 = .ok (.aload_n 1, 1) := by decide +kernel
theorem dX4_erase_2 : decode cX4_erase 2 = .ok (.iconst 0, 1) := by decide +kernel
theorem dX4_erase_3 : decode cX4_erase 3 = .ok (.invokevirtual 130, 3) := by decide +kernel
theorem dX4_erase_6 : decode cX4_erase 6 = .ok (.iconst (-1), 1) := by decide +kernel
theorem dX4_erase_7 : decode cX4_erase 7 = .ok (.if_icmp .ne 5, 3) := by decide +kernel
theorem dX4_erase_10 : decode cX4_erase 10 = .ok (.iconst 0, 1) := by decide +kernel
theorem dX4_erase_11 : decode cX4_erase 11 = .ok (.ireturn, 1) := by decide +kernel
theorem dX4_erase_12 : decode cX4_erase 12 = .ok (.aload_n 1, 1) := by decide +kernel
theorem dX4_erase_13 : decode cX4_erase 13 = .ok (.iconst 0, 1) := by decide +kernel
theorem dX4_erase_14 : decode cX4_erase 14 = .ok (.putfield 145, 3) := by decide +kernel
theorem dX4_erase_17 : decode cX4_erase 17 = .ok (.aload_n 1, 1) := by decide +kernel
theorem dX4_erase_18 : decode cX4_erase 18 = .ok (.iconst 0, 1) := by decide +kernel
theorem dX4_erase_19 : decode cX4_erase 19 = .ok (.putfield 94, 3) := by decide +kernel
theorem dX4_erase_22 : decode cX4_erase 22 = .ok (.aload_n 1, 1) := by decide +kernel
theorem dX4_erase_23 : decode cX4_erase 23 = .ok (.iconst 0, 1) := by decide +kernel
theorem dX4_erase_24 : decode cX4_erase 24 = .ok (.putfield 84, 3) := by decide +kernel
theorem dX4_erase_27 : decode cX4_erase 27 = .ok (.iconst 1, 1) := by decide +kernel
theorem dX4_erase_28 : decode cX4_erase 28 = .ok (.ireturn, 1) := by decide +kernel
theorem dX4_hashOf_0 : decode cX4_hashOf 0 = .ok (.iconst 5, 1) := by decide +kernel
theorem dX4_hashOf_1 : decode cX4_hashOf 1 = .ok (.iload_n 0, 1) := by decide +kernel
theorem dX4_hashOf_2 : decode cX4_hashOf 2 = .ok (.imul, 1) := by decide +kernel
theorem dX4_hashOf_3 : decode cX4_hashOf 3 = .ok (.bipush 16, 2) := by decide +kernel
theorem dX4_hashOf_5 : decode cX4_hashOf 5 = .ok (.irem, 1) := by decide +kernel
end
section
theorem dX4_hashOf_6 : decode cX4_hashOf 6 = .ok (.ireturn, 1) := by decide +kernel
theorem dX5_init_0 : decode cX5_init 0 = .ok (.aload_n 0, 1) := by decide +kernel
theorem dX5_init_1 : decode cX5_init 1 = .ok (.invokespecial 1, 3) := by decide +kernel
theorem dX5_init_4 : decode cX5_init 4 = .ok (.aload_n 0, 1) := by decide +kernel
theorem dX5_init_5 : decode cX5_init 5 = .ok (.sipush 128, 3) := by decide +kernel
theorem dX5_init_8 : decode cX5_init 8 = .ok (.newarray .boolean, 2) := by decide +kernel
theorem dX5_init_10 : decode cX5_init 10 = .ok (.putfield 7, 3) := by decide +kernel
theorem dX5_init_13 : decode cX5_init 13 = .ok (.aload_n 0, 1) := by decide +kernel
theorem dX5_init_14 : decode cX5_init 14 = .ok (.bipush 16, 2) := by decide +kernel
theorem dX5_init_16 : decode cX5_init 16 = .ok (.newarray .boolean, 2) := by decide +kernel
theorem dX5_init_18 : decode cX5_init 18 = .ok (.putfield 13, 3) := by decide +kernel
theorem dX5_init_21 : decode cX5_init 21 = .ok (.aload_n 0, 1) := by decide +kernel
theorem dX5_init_22 : decode cX5_init 22 = .ok (.sipush 1024, 3) := by decide +kernel
theorem dX5_init_25 : decode cX5_init 25 = .ok (.newarray .int, 2) := by decide +kernel
theorem dX5_init_27 : decode cX5_init 27 = .ok (.putfield 16, 3) := by decide +kernel
theorem dX5_init_30 : decode cX5_init 30 = .ok (.aload_n 0, 1) := by decide +kernel
theorem dX5_init_31 : decode cX5_init 31 = .ok (.bipush 16, 2) := by decide +kernel
theorem dX5_init_33 : decode cX5_init 33 = .ok (.newarray .int, 2) := by decide +kernel
theorem dX5_init_35 : decode cX5_init 35 = .ok (.putfield 20, 3) := by decide +kernel
theorem dX5_init_38 : decode cX5_init 38 = .ok (.aload_n 0, 1) := by decide +kernel
theorem dX5_init_39 : decode cX5_init 39 = .ok (.bipush 16, 2) := by decide +kernel
theorem dX5_init_41 : decode cX5_init 41 = .ok (.newarray .int, 2) := by decide +kernel
theorem dX5_init_43 : decode cX5_init 43 = .ok (.putfield 23, 3) := by decide +kernel
theorem dX5_init_46 : decode cX5_init 46 = .ok (.aload_n 0, 1) := by decide +kernel
theorem dX5_init_47 : decode cX5_init 47 = .ok (.bipush 16, 2) := by decide +kernel
theorem dX5_init_49 : decode cX5_init 49 = .ok (.newarray .int, 2) := by decide +kernel
theorem dX5_init_51 : decode cX5_init 51 = .ok (.putfield 26, 3) := by decide +kernel
theorem dX5_init_54 : decode cX5_init 54 = .ok (.aload_n 0, 1) := by decide +kernel
theorem dX5_init_55 : decode cX5_init 55 = .ok (.bipush 16, 2) := by decide +kernel
theorem dX5_init_57 : decode cX5_init 57 = .ok (.newarray .int, 2) := by decide +kernel
theorem dX5_init_59 : decode cX5_init 59 = .ok (.putfield 29, 3) := by decide +kernel
theorem dX5_init_62 : decode cX5_init 62 = .ok (.aload_n 0, 1) := by decide +kernel
theorem dX5_init_63 : decode cX5_init 63 = .ok (.bipush 16, 2) := by decide +kernel
theorem dX5_init_65 : decode cX5_init 65 = .ok (.newarray .int, 2) := by decide +kernel
theorem dX5_init_67 : decode cX5_init 67 = .ok (.putfield 32, 3) := by decide +kernel
theorem dX5_init_70 : decode cX5_init 70 = .ok (.aload_n 0, 1) := by decide +kernel
theorem dX5_init_71 : decode cX5_init 71 = .ok (.bipush 16, 2) := by decide +kernel
theorem dX5_init_73 : decode cX5_init 73 = .ok (.newarray .boolean, 2) := by decide +kernel
theorem dX5_init_75 : decode cX5_init 75 = .ok (.putfield 35, 3) := by decide +kernel
theorem dX5_init_78 : decode cX5_init 78 = .ok (.aload_n 0, 1) := by decide +kernel
theorem dX5_init_79 : decode cX5_init 79 = .ok (.sipush 1000, 3) := by decide +kernel
theorem dX5_init_82 : decode cX5_init 82 = .ok (.newarray .int, 2) := by decide +kernel
theorem dX5_init_84 : decode cX5_init 84 = .ok (.putfield 38, 3) := by decide +kernel
theorem dX5_init_87 : decode cX5_init 87 = .ok (.aload_n 0, 1) := by decide +kernel
theorem dX5_init_88 : decode cX5_init 88 = .ok (.sipush 300, 3) := by decide +kernel
theorem dX5_init_91 : decode cX5_init 91 = .ok (.newarray .int, 2) := by decide +kernel
theorem dX5_init_93 : decode cX5_init 93 = .ok (.putfield 41, 3) := by decide +kernel
theorem dX5_init_96 : decode cX5_init 96 = .ok (.aload_n 0, 1) := by decide +kernel
theorem dX5_init_97 : decode cX5_init 97 = .ok (.sipush 300, 3) := by decide +kernel
theorem dX5_init_100 : decode cX5_init 100 = .ok (.newarray .boolean, 2) := by decide +kernel
theorem dX5_init_102 : decode cX5_init 102 = .ok (.putfield 44, 3) := by decide +kernel
theorem dX5_init_105 : decode cX5_init 105 = .ok (.aload_n 0, 1) := by decide +kernel
theorem dX5_init_106 : decode cX5_init 106 = .ok (.sipush 1200, 3) := by decide +kernel
theorem dX5_init_109 : decode cX5_init 109 = .ok (.newarray .int, 2) := by decide +kernel
theorem dX5_init_111 : decode cX5_init 111 = .ok (.putfield 47, 3) := by decide +kernel
theorem dX5_init_114 : decode cX5_init 114 = .ok (.aload_n 0, 1) := by decide +kernel
theorem dX5_init_115 : decode cX5_init 115 = .ok (.sipush 300, 3) := by decide +kernel
theorem dX5_init_118 : decode cX5_init 118 = .ok (.newarray .int, 2) := by decide +kernel
theorem dX5_init_120 : decode cX5_init 120 = .ok (.putfield 50, 3) := by decide +kernel
theorem dX5_init_123 : decode cX5_init 123 = .ok (.aload_n 0, 1) := by decide +kernel
theorem dX5_init_124 : decode cX5_init 124 = .ok (.iconst 1, 1) := by decide +kernel
theorem dX5_init_125 : decode cX5_init 125 = .ok (.putfield 53, 3) := by decide +kernel
theorem dX5_init_128 : decode cX5_init 128 = .ok (.iconst 0, 1) := by decide +kernel
theorem dX5_init_129 : decode cX5_init 129 = .ok (.istore_n 1, 1) := by decide +kernel
theorem dX5_init_130 : decode cX5_init 130 = .ok (.iload_n 1, 1) := by decide +kernel
theorem dX5_init_131 : decode cX5_init 131 = .ok (.sipush 128, 3) := by decide +kernel
theorem dX5_init_134 : decode cX5_init 134 = .ok (.if_icmp .ge 16, 3) := by decide +kernel
theorem dX5_init_137 : decode cX5_init 137 = .ok (.aload_n 0, 1) := by decide +kernel
theorem dX5_init_138 : decode cX5_init 138 = .ok (.getfield 7, 3) := by decide +kernel
theorem dX5_init_141 : decode cX5_init 141 = .ok (.iload_n 1, 1) := by decide +kernel
theorem dX5_init_142 : decode cX5_init 142 = .ok (.iconst 1, 1) := by decide +kernel
theorem dX5_init_143 : decode cX5_init 143 = .ok (.bastore, 1) := by decide +kernel
theorem dX5_init_144 : decode cX5_init 144 = .ok (.iinc 1 1, 3) := by decide +kernel
theorem dX5_init_147 : decode cX5_init 147 = .ok (.goto (-17), 3) := by decide +kernel
theorem dX5_init_150 : decode cX5_init 150 = .ok (.iconst 0, 1) := by decide +kernel
theorem dX5_init_151 : decode cX5_init 151 = .ok (.istore_n 1, 1) := by decide +kernel
theorem dX5_init_152 : decode cX5_init 152 = .ok (.iload_n 1, 1) := by decide +kernel
theorem dX5_init_153 : decode cX5_init 153 = .ok (.sipush 1024, 3) := by decide +kernel
theorem dX5_init_156 : decode cX5_init 156 = .ok (.if_icmp .ge 16, 3) := by decide +kernel
theorem dX5_init_159 : decode cX5_init 159 = .ok (.aload_n 0, 1) := by decide +kernel
theorem dX5_init_160 : decode cX5_init 160 = .ok (.getfield 16, 3) := by decide +kernel
theorem dX5_init_163 : decode cX5_init 163 = .ok (.iload_n 1, 1) := by decide +kernel
theorem dX5_init_164 : decode cX5_init 164 = .ok (.iconst (-1), 1) := by decide +kernel
theorem dX5_init_165 : decode cX5_init 165 = .ok (.iastore, 1) := by decide +kernel
theorem dX5_init_166 : decode cX5_init 166 = .ok (.iinc 1 1, 3) := by decide +kernel
theorem dX5_init_169 : decode cX5_init 169 = .ok (.goto (-17), 3) := by decide +kernel
theorem dX5_init_172 : decode cX5_init 172 = .ok (.iconst 0, 1) := by decide +kernel
theorem dX5_init_173 : decode cX5_init 173 = .ok (.istore_n 1, 1) := by decide +kernel
theorem dX5_init_174 : decode cX5_init 174 = .ok (.iload_n 1, 1) := by decide +kernel
theorem dX5_init_175 : decode cX5_init 175 = .ok (.bipush 16, 2) := by decide +kernel
theorem dX5_init_177 : decode cX5_init 177 = .ok (.if_icmp .ge 16, 3) := by decide +kernel
theorem dX5_init_180 : decode cX5_init 180 = .ok (.aload_n 0, 1) := by decide +kernel
theorem dX5_init_181 : decode cX5_init 181 = .ok (.getfield 32, 3) := by decide +kernel
theorem dX5_init_184 : decode cX5_init 184 = .ok (.iload_n 1, 1) := by decide +kernel
theorem dX5_init_185 : decode cX5_init 185 = .ok (.iconst (-1), 1) := by decide +kernel
theorem dX5_init_186 : decode cX5_init 186 = .ok (.iastore, 1) := by decide +kernel
theorem dX5_init_187 : decode cX5_init 187 = .ok (.iinc 1 1, 3) := by decide +kernel
theorem dX5_init_190 : decode cX5_init 190 = .ok (.goto (-16), 3) := by decide +kernel
theorem dX5_init_193 : decode cX5_init 193 = .ok (.return_, 1) := by decide +kernel
theorem dX5_thrown_0 : decode cX5_thrown 0 = .ok (.aload_n 0, 1) := by decide +kernel
theorem dX5_thrown_1 : decode cX5_thrown 1 = .ok (.getfield 57, 3) := by decide +kernel
theorem dX5_thrown_4 : decode cX5_thrown 4 = .ok (.ireturn, 1) := by decide +kernel
theorem dX5_in_0 : decode cX5_in 0 = .ok (.iload_n 0, 1) := by decide +kernel
theorem dX5_in_1 : decode cX5_in 1 = .ok (.iload_n 1, 1) := by decide +kernel
theorem dX5_in_2 : decode cX5_in 2 = .ok (.if_icmp .lt 12, 3) := by decide +kernel
theorem dX5_in_5 : decode cX5_in 5 = .ok (.iload_n 0, 1) := by decide +kernel
theorem dX5_in_6 : decode cX5_in 6 = .ok (.iload_n 2, 1) := by decide +kernel
theorem dX5_in_7 : decode cX5_in 7 = .ok (.if_icmp .gt 7, 3) := by decide +kernel
theorem dX5_in_10 : decode cX5_in 10 = .ok (.iconst 1, 1) := by decide +kernel
theorem dX5_in_11 : decode cX5_in 11 = .ok (.goto 4, 3) := by decide +kernel
theorem dX5_in_14 : decode cX5_in 14 = .ok (.iconst 0, 1) := by decide +kernel
theorem dX5_in_15 : decode cX5_in 15 = .ok (.ireturn, 1) := by decide +kernel
theorem dX5_asked_0 : decode cX5_asked 0 = .ok (.aload_n 0, 1) := by decide +kernel
theorem dX5_asked_1 : decode cX5_asked 1 = .ok (.iload_n 1, 1) := by decide +kernel
theorem dX5_asked_2 : decode cX5_asked 2 = .ok (.ifCond .eq 7, 3) := by decide +kernel
theorem dX5_asked_5 : decode cX5_asked 5 = .ok (.iconst 0, 1) := by decide +kernel
theorem dX5_asked_6 : decode cX5_asked 6 = .ok (.goto 4, 3) := by decide +kernel
theorem dX5_asked_9 : decode cX5_asked 9 = .ok (.iconst 1, 1) := by decide +kernel
theorem dX5_asked_10 : decode cX5_asked 10 = .ok (.putfield 57, 3) := by decide +kernel
theorem dX5_asked_13 : decode cX5_asked 13 = .ok (.iload_n 1, 1) := by decide +kernel
theorem dX5_asked_14 : decode cX5_asked 14 = .ok (.ireturn, 1) := by decide +kernel
theorem dX5_asked__0 : decode cX5_asked_ 0 = .ok (.aload_n 0, 1) := by decide +kernel
theorem dX5_asked__1 : decode cX5_asked_ 1 = .ok (.iload_n 1, 1) := by decide +kernel
theorem dX5_asked__2 : decode cX5_asked_ 2 = .ok (.ifCond .ne 7, 3) := by decide +kernel
theorem dX5_asked__5 : decode cX5_asked_ 5 = .ok (.iconst 1, 1) := by decide +kernel
theorem dX5_asked__6 : decode cX5_asked_ 6 = .ok (.goto 12, 3) := by decide +kernel
theorem dX5_asked__9 : decode cX5_asked_ 9 = .ok (.iload_n 2, 1) := by decide +kernel
theorem dX5_asked__10 : decode cX5_asked_ 10 = .ok (.ifCond .eq 7, 3) := by decide +kernel
theorem dX5_asked__13 : decode cX5_asked_ 13 = .ok (.iconst 0, 1) := by decide +kernel
theorem dX5_asked__14 : decode cX5_asked_ 14 = .ok (.goto 4, 3) := by decide +kernel
theorem dX5_asked__17 : decode cX5_asked_ 17 = .ok (.iconst 2, 1) := by decide +kernel
theorem dX5_asked__18 : decode cX5_asked_ 18 = .ok (.putfield 57, 3) := by decide +kernel
theorem dX5_asked__21 : decode cX5_asked_ 21 = .ok (.aload_n 0, 1) := by decide +kernel
theorem dX5_asked__22 : decode cX5_asked_ 22 = .ok (.getfield 57, 3) := by decide +kernel
theorem dX5_asked__25 : decode cX5_asked_ 25 = .ok (.ifCond .ne 7, 3) := by decide +kernel
theorem dX5_asked__28 : decode cX5_asked_ 28 = .ok (.iconst 1, 1) := by decide +kernel
theorem dX5_asked__29 : decode cX5_asked_ 29 = .ok (.goto 4, 3) := by decide +kernel
theorem dX5_asked__32 : decode cX5_asked_ 32 = .ok (.iconst 0, 1) := by decide +kernel
theorem dX5_asked__33 : decode cX5_asked_ 33 = .ok (.ireturn, 1) := by decide +kernel
theorem dX5_asked___0 : decode cX5_asked__ 0 = .ok (.aload_n 0, 1) := by decide +kernel
theorem dX5_asked___1 : decode cX5_asked__ 1 = .ok (.iload_n 1, 1) := by decide +kernel
theorem dX5_asked___2 : decode cX5_asked__ 2 = .ok (.ifCond .ne 7, 3) := by decide +kernel
theorem dX5_asked___5 : decode cX5_asked__ 5 = .ok (.iconst 1, 1) := by decide +kernel
theorem dX5_asked___6 : decode cX5_asked__ 6 = .ok (.goto 20, 3) := by decide +kernel
theorem dX5_asked___9 : decode cX5_asked__ 9 = .ok (.iload_n 2, 1) := by decide +kernel
theorem dX5_asked___10 : decode cX5_asked__ 10 = .ok (.ifCond .ne 7, 3) := by decide +kernel
theorem dX5_asked___13 : decode cX5_asked__ 13 = .ok (.iconst 2, 1) := by decide +kernel
theorem dX5_asked___14 : decode cX5_asked__ 14 = .ok (.goto 12, 3) := by decide +kernel
theorem dX5_asked___17 : decode cX5_asked__ 17 = .ok (.iload_n 3, 1) := by decide +kernel
theorem dX5_asked___18 : decode cX5_asked__ 18 = .ok (.ifCond .eq 7, 3) := by decide +kernel
theorem dX5_asked___21 : decode cX5_asked__ 21 = .ok (.iconst 0, 1) := by decide +kernel
theorem dX5_asked___22 : decode cX5_asked__ 22 = .ok (.goto 4, 3) := by decide +kernel
theorem dX5_asked___25 : decode cX5_asked__ 25 = .ok (.iconst 3, 1) := by decide +kernel
theorem dX5_asked___26 : decode cX5_asked__ 26 = .ok (.putfield 57, 3) := by decide +kernel
theorem dX5_asked___29 : decode cX5_asked__ 29 = .ok (.aload_n 0, 1) := by decide +kernel
theorem dX5_asked___30 : decode cX5_asked__ 30 = .ok (.getfield 57, 3) := by decide +kernel
theorem dX5_asked___33 : decode cX5_asked__ 33 = .ok (.ifCond .ne 7, 3) := by decide +kernel
theorem dX5_asked___36 : decode cX5_asked__ 36 = .ok (.iconst 1, 1) := by decide +kernel
theorem dX5_asked___37 : decode cX5_asked__ 37 = .ok (.goto 4, 3) := by decide +kernel
theorem dX5_asked___40 : decode cX5_asked__ 40 = .ok (.iconst 0, 1) := by decide +kernel
theorem dX5_asked___41 : decode cX5_asked__ 41 = .ok (.ireturn, 1) := by decide +kernel
theorem dX5_told_0 : decode cX5_told 0 = .ok (.aload_n 0, 1) := by decide +kernel
theorem dX5_told_1 : decode cX5_told 1 = .ok (.iconst 0, 1) := by decide +kernel
theorem dX5_told_2 : decode cX5_told 2 = .ok (.putfield 57, 3) := by decide +kernel
theorem dX5_told_5 : decode cX5_told 5 = .ok (.iload_n 1, 1) := by decide +kernel
theorem dX5_told_6 : decode cX5_told 6 = .ok (.ireturn, 1) := by decide +kernel
set_option maxRecDepth 20000 in
theorem ggX5_isThere_X5_in : GoodIn wsX5_isThere wsX5_in := goodIn_r _ [5] (by decide +kernel) (by decide +kernel)
set_option maxRecDepth 20000 in
theorem gX5_isThere_X5_in : GoodIn wsX5_isThere (va_wsS RX5 60 yX5_in wsX5_in) := goodIn_app (goodIn_of _ (by decide +kernel)) ggX5_isThere_X5_in
theorem dX5_isThere_0 : decode cX5_isThere 0 = .ok (.iload_n 1, 1) := by decide +kernel
theorem dX5_isThere_1 : decode cX5_isThere 1 = .ok (.iconst 0, 1) := by decide +kernel
theorem dX5_isThere_2 : decode cX5_isThere 2 = .ok (.bipush 15, 2) := by decide +kernel
theorem dX5_isThere_4 : decode cX5_isThere 4 = .ok (.invokestatic 60, 3) := by decide +kernel
theorem dX5_isThere_7 : decode cX5_isThere 7 = .ok (.ifCond .eq 16, 3) := by decide +kernel
theorem dX5_isThere_10 : decode cX5_isThere 10 = .ok (.aload_n 0, 1) := by decide +kernel
theorem dX5_isThere_11 : decode cX5_isThere 11 = .ok (.getfield 13, 3) := by decide +kernel
theorem dX5_isThere_14 : decode cX5_isThere 14 = .ok (.iload_n 1, 1) := by decide +kernel
theorem dX5_isThere_15 : decode cX5_isThere 15 = .ok (.baload, 1) := by decide +kernel
theorem dX5_isThere_16 : decode cX5_isThere 16 = .ok (.ifCond .eq 7, 3) := by decide +kernel
theorem dX5_isThere_19 : decode cX5_isThere 19 = .ok (.iconst 1, 1) := by decide +kernel
theorem dX5_isThere_20 : decode cX5_isThere 20 = .ok (.goto 4, 3) := by decide +kernel
theorem dX5_isThere_23 : decode cX5_isThere 23 = .ok (.iconst 0, 1) := by decide +kernel
theorem dX5_isThere_24 : decode cX5_isThere 24 = .ok (.ireturn, 1) := by decide +kernel
set_option maxRecDepth 20000 in
theorem ggX5_isName_X5_in : GoodIn wsX5_isName wsX5_in := goodIn_r _ [4] (by decide +kernel) (by decide +kernel)
set_option maxRecDepth 20000 in
theorem gX5_isName_X5_in : GoodIn wsX5_isName (va_wsS RX5 60 yX5_in wsX5_in) := goodIn_app (goodIn_of _ (by decide +kernel)) ggX5_isName_X5_in
theorem dX5_isName_0 : decode cX5_isName 0 = .ok (.iload_n 0, 1) := by decide +kernel
theorem dX5_isName_1 : decode cX5_isName 1 = .ok (.iconst 0, 1) := by decide +kernel
theorem dX5_isName_2 : decode cX5_isName 2 = .ok (.sipush 999, 3) := by decide +kernel
theorem dX5_isName_5 : decode cX5_isName 5 = .ok (.invokestatic 60, 3) := by decide +kernel
theorem dX5_isName_8 : decode cX5_isName 8 = .ok (.ireturn, 1) := by decide +kernel
theorem dX5_freeNow_0 : decode cX5_freeNow 0 = .ok (.iconst 0, 1) := by decide +kernel
theorem dX5_freeNow_1 : decode cX5_freeNow 1 = .ok (.istore_n 1, 1) := by decide +kernel
theorem dX5_freeNow_2 : decode cX5_freeNow 2 = .ok (.iconst 0, 1) := by decide +kernel
theorem dX5_freeNow_3 : decode cX5_freeNow 3 = .ok (.istore_n 2, 1) := by decide +kernel
theorem dX5_freeNow_4 : decode cX5_freeNow 4 = .ok (.iload_n 2, 1) := by decide +kernel
theorem dX5_freeNow_5 : decode cX5_freeNow 5 = .ok (.sipush 128, 3) := by decide +kernel
theorem dX5_freeNow_8 : decode cX5_freeNow 8 = .ok (.if_icmp .ge 26, 3) := by decide +kernel
theorem dX5_freeNow_11 : decode cX5_freeNow 11 = .ok (.iload_n 1, 1) := by decide +kernel
theorem dX5_freeNow_12 : decode cX5_freeNow 12 = .ok (.aload_n 0, 1) := by decide +kernel
theorem dX5_freeNow_13 : decode cX5_freeNow 13 = .ok (.getfield 7, 3) := by decide +kernel
theorem dX5_freeNow_16 : decode cX5_freeNow 16 = .ok (.iload_n 2, 1) := by decide +kernel
theorem dX5_freeNow_17 : decode cX5_freeNow 17 = .ok (.baload, 1) := by decide +kernel
theorem dX5_freeNow_18 : decode cX5_freeNow 18 = .ok (.ifCond .eq 7, 3) := by decide +kernel
theorem dX5_freeNow_21 : decode cX5_freeNow 21 = .ok (.iconst 1, 1) := by decide +kernel
theorem dX5_freeNow_22 : decode cX5_freeNow 22 = .ok (.goto 4, 3) := by decide +kernel
theorem dX5_freeNow_25 : decode cX5_freeNow 25 = .ok (.iconst 0, 1) := by decide +kernel
theorem dX5_freeNow_26 : decode cX5_freeNow 26 = .ok (.iadd, 1) := by decide +kernel
theorem dX5_freeNow_27 : decode cX5_freeNow 27 = .ok (.istore_n 1, 1) := by decide +kernel
theorem dX5_freeNow_28 : decode cX5_freeNow 28 = .ok (.iinc 2 1, 3) := by decide +kernel
theorem dX5_freeNow_31 : decode cX5_freeNow 31 = .ok (.goto (-27), 3) := by decide +kernel
theorem dX5_freeNow_34 : decode cX5_freeNow 34 = .ok (.iload_n 1, 1) := by decide +kernel
theorem dX5_freeNow_35 : decode cX5_freeNow 35 = .ok (.ireturn, 1) := by decide +kernel
theorem dX5_reservedNow_0 : decode cX5_reservedNow 0 = .ok (.iconst 0, 1) := by decide +kernel
theorem dX5_reservedNow_1 : decode cX5_reservedNow 1 = .ok (.istore_n 1, 1) := by decide +kernel
theorem dX5_reservedNow_2 : decode cX5_reservedNow 2 = .ok (.iconst 0, 1) := by decide +kernel
theorem dX5_reservedNow_3 : decode cX5_reservedNow 3 = .ok (.istore_n 2, 1) := by decide +kernel
theorem dX5_reservedNow_4 : decode cX5_reservedNow 4 = .ok (.iload_n 2, 1) := by decide +kernel
theorem dX5_reservedNow_5 : decode cX5_reservedNow 5 = .ok (.sipush 1024, 3) := by decide +kernel
theorem dX5_reservedNow_8 : decode cX5_reservedNow 8 = .ok (.if_icmp .ge 28, 3) := by decide +kernel
theorem dX5_reservedNow_11 : decode cX5_reservedNow 11 = .ok (.iload_n 1, 1) := by decide +kernel
theorem dX5_reservedNow_12 : decode cX5_reservedNow 12 = .ok (.aload_n 0, 1) := by decide +kernel
theorem dX5_reservedNow_13 : decode cX5_reservedNow 13 = .ok (.getfield 16, 3) := by decide +kernel
theorem dX5_reservedNow_16 : decode cX5_reservedNow 16 = .ok (.iload_n 2, 1) := by decide +kernel
theorem dX5_reservedNow_17 : decode cX5_reservedNow 17 = .ok (.iaload, 1) := by decide +kernel
theorem dX5_reservedNow_18 : decode cX5_reservedNow 18 = .ok (.bipush (-2), 2) := by decide +kernel
theorem dX5_reservedNow_20 : decode cX5_reservedNow 20 = .ok (.if_icmp .ne 7, 3) := by decide +kernel
theorem dX5_reservedNow_23 : decode cX5_reservedNow 23 = .ok (.iconst 1, 1) := by decide +kernel
theorem dX5_reservedNow_24 : decode cX5_reservedNow 24 = .ok (.goto 4, 3) := by decide +kernel
theorem dX5_reservedNow_27 : decode cX5_reservedNow 27 = .ok (.iconst 0, 1) := by decide +kernel
theorem dX5_reservedNow_28 : decode cX5_reservedNow 28 = .ok (.iadd, 1) := by decide +kernel
theorem dX5_reservedNow_29 : decode cX5_reservedNow 29 = .ok (.istore_n 1, 1) := by decide +kernel
theorem dX5_reservedNow_30 : decode cX5_reservedNow 30 = .ok (.iinc 2 1, 3) := by decide +kernel
theorem dX5_reservedNow_33 : decode cX5_reservedNow 33 = .ok (.goto (-29), 3) := by decide +kernel
theorem dX5_reservedNow_36 : decode cX5_reservedNow 36 = .ok (.iload_n 1, 1) := by decide +kernel
theorem dX5_reservedNow_37 : decode cX5_reservedNow 37 = .ok (.ireturn, 1) := by decide +kernel
theorem dX5_keptNow_0 : decode cX5_keptNow 0 = .ok (.iconst 0, 1) := by decide +kernel
theorem dX5_keptNow_1 : decode cX5_keptNow 1 = .ok (.istore_n 1, 1) := by decide +kernel
theorem dX5_keptNow_2 : decode cX5_keptNow 2 = .ok (.iconst 0, 1) := by decide +kernel
theorem dX5_keptNow_3 : decode cX5_keptNow 3 = .ok (.istore_n 2, 1) := by decide +kernel
theorem dX5_keptNow_4 : decode cX5_keptNow 4 = .ok (.iload_n 2, 1) := by decide +kernel
theorem dX5_keptNow_5 : decode cX5_keptNow 5 = .ok (.bipush 16, 2) := by decide +kernel
theorem dX5_keptNow_7 : decode cX5_keptNow 7 = .ok (.if_icmp .ge 18, 3) := by decide +kernel
theorem dX5_keptNow_10 : decode cX5_keptNow 10 = .ok (.iload_n 1, 1) := by decide +kernel
theorem dX5_keptNow_11 : decode cX5_keptNow 11 = .ok (.aload_n 0, 1) := by decide +kernel
theorem dX5_keptNow_12 : decode cX5_keptNow 12 = .ok (.getfield 26, 3) := by decide +kernel
theorem dX5_keptNow_15 : decode cX5_keptNow 15 = .ok (.iload_n 2, 1) := by decide +kernel
theorem dX5_keptNow_16 : decode cX5_keptNow 16 = .ok (.iaload, 1) := by decide +kernel
theorem dX5_keptNow_17 : decode cX5_keptNow 17 = .ok (.iadd, 1) := by decide +kernel
theorem dX5_keptNow_18 : decode cX5_keptNow 18 = .ok (.istore_n 1, 1) := by decide +kernel
theorem dX5_keptNow_19 : decode cX5_keptNow 19 = .ok (.iinc 2 1, 3) := by decide +kernel
theorem dX5_keptNow_22 : decode cX5_keptNow 22 = .ok (.goto (-18), 3) := by decide +kernel
theorem dX5_keptNow_25 : decode cX5_keptNow 25 = .ok (.iload_n 1, 1) := by decide +kernel
theorem dX5_keptNow_26 : decode cX5_keptNow 26 = .ok (.ireturn, 1) := by decide +kernel
set_option maxRecDepth 20000 in
theorem ggX5_left_X5_freeNow : GoodIn wsX5_left wsX5_freeNow := goodIn_r _ [5, 6, 12, 13, 14, 15, 16, 17, 18, 19, 20, 21, 22, 23, 24, 25, 26, 27, 28, 29] (by decide +kernel) (by decide +kernel)
set_option maxRecDepth 20000 in
theorem gX5_left_X5_freeNow : GoodIn wsX5_left (wsV RX5 64 RX5 yX5_freeNow wsX5_freeNow) := goodIn_app (goodIn_of _ (by decide +kernel)) ggX5_left_X5_freeNow
set_option maxRecDepth 20000 in
theorem ggX5_left_X5_reservedNow : GoodIn wsX5_left wsX5_reservedNow := goodIn_r _ [10, 11, 12, 13, 14, 15, 16, 17, 18, 19, 20, 21, 22, 23, 24, 25, 26, 27, 28, 29] (by decide +kernel) (by decide +kernel)
set_option maxRecDepth 20000 in
theorem gX5_left_X5_reservedNow : GoodIn wsX5_left (wsV RX5 68 RX5 yX5_reservedNow wsX5_reservedNow) := goodIn_app (goodIn_of _ (by decide +kernel)) ggX5_left_X5_reservedNow
theorem dX5_left_0 : decode cX5_left 0 = .ok (.aload_n 0, 1) := by decide +kernel
theorem dX5_left_1 : decode cX5_left 1 = .ok (.invokevirtual 64, 3) := by decide +kernel
theorem dX5_left_4 : decode cX5_left 4 = .ok (.aload_n 0, 1) := by decide +kernel
theorem dX5_left_5 : decode cX5_left 5 = .ok (.invokevirtual 68, 3) := by decide +kernel
theorem dX5_left_8 : decode cX5_left 8 = .ok (.isub, 1) := by decide +kernel
theorem dX5_left_9 : decode cX5_left 9 = .ok (.ireturn, 1) := by decide +kernel
theorem dX5_freesKept_0 : decode cX5_freesKept 0 = .ok (.iconst 0, 1) := by decide +kernel
theorem dX5_freesKept_1 : decode cX5_freesKept 1 = .ok (.istore_n 2, 1) := by decide +kernel
theorem dX5_freesKept_2 : decode cX5_freesKept 2 = .ok (.iload_n 2, 1) := by decide +kernel
theorem dX5_freesKept_3 : decode cX5_freesKept 3 = .ok (.aload_n 0, 1) := by decide +kernel
theorem dX5_freesKept_4 : decode cX5_freesKept 4 = .ok (.getfield 26, 3) := by decide +kernel
theorem dX5_freesKept_7 : decode cX5_freesKept 7 = .ok (.iload_n 1, 1) := by decide +kernel
theorem dX5_freesKept_8 : decode cX5_freesKept 8 = .ok (.iaload, 1) := by decide +kernel
theorem dX5_freesKept_9 : decode cX5_freesKept 9 = .ok (.if_icmp .ge 23, 3) := by decide +kernel
theorem dX5_freesKept_12 : decode cX5_freesKept 12 = .ok (.aload_n 0, 1) := by decide +kernel
theorem dX5_freesKept_13 : decode cX5_freesKept 13 = .ok (.getfield 7, 3) := by decide +kernel
theorem dX5_freesKept_16 : decode cX5_freesKept 16 = .ok (.aload_n 0, 1) := by decide +kernel
theorem dX5_freesKept_17 : decode cX5_freesKept 17 = .ok (.getfield 23, 3) := by decide +kernel
theorem dX5_freesKept_20 : decode cX5_freesKept 20 = .ok (.iload_n 1, 1) := by decide +kernel
theorem dX5_freesKept_21 : decode cX5_freesKept 21 = .ok (.iaload, 1) := by decide +kernel
theorem dX5_freesKept_22 : decode cX5_freesKept 22 = .ok (.iload_n 2, 1) := by decide +kernel
theorem dX5_freesKept_23 : decode cX5_freesKept 23 = .ok (.iadd, 1) := by decide +kernel
theorem dX5_freesKept_24 : decode cX5_freesKept 24 = .ok (.iconst 1, 1) := by decide +kernel
theorem dX5_freesKept_25 : decode cX5_freesKept 25 = .ok (.bastore, 1) := by decide +kernel
theorem dX5_freesKept_26 : decode cX5_freesKept 26 = .ok (.iinc 2 1, 3) := by decide +kernel
theorem dX5_freesKept_29 : decode cX5_freesKept 29 = .ok (.goto (-27), 3) := by decide +kernel
theorem dX5_freesKept_32 : decode cX5_freesKept 32 = .ok (.aload_n 0, 1) := by decide +kernel
theorem dX5_freesKept_33 : decode cX5_freesKept 33 = .ok (.getfield 26, 3) := by decide +kernel
theorem dX5_freesKept_36 : decode cX5_freesKept 36 = .ok (.iload_n 1, 1) := by decide +kernel
theorem dX5_freesKept_37 : decode cX5_freesKept 37 = .ok (.iconst 0, 1) := by decide +kernel
theorem dX5_freesKept_38 : decode cX5_freesKept 38 = .ok (.iastore, 1) := by decide +kernel
theorem dX5_freesKept_39 : decode cX5_freesKept 39 = .ok (.return_, 1) := by decide +kernel
theorem dX5_hash_0 : decode cX5_hash 0 = .ok (.iconst 5, 1) := by decide +kernel
theorem dX5_hash_1 : decode cX5_hash 1 = .ok (.iload_n 0, 1) := by decide +kernel
theorem dX5_hash_2 : decode cX5_hash 2 = .ok (.imul, 1) := by decide +kernel
theorem dX5_hash_3 : decode cX5_hash 3 = .ok (.bipush 16, 2) := by decide +kernel
theorem dX5_hash_5 : decode cX5_hash 5 = .ok (.irem, 1) := by decide +kernel
theorem dX5_hash_6 : decode cX5_hash 6 = .ok (.ireturn, 1) := by decide +kernel
theorem dX5_lastLeaf_0 : decode cX5_lastLeaf 0 = .ok (.aload_n 0, 1) := by decide +kernel
theorem dX5_lastLeaf_1 : decode cX5_lastLeaf 1 = .ok (.getfield 53, 3) := by decide +kernel
theorem dX5_lastLeaf_4 : decode cX5_lastLeaf 4 = .ok (.iconst 1, 1) := by decide +kernel
theorem dX5_lastLeaf_5 : decode cX5_lastLeaf 5 = .ok (.isub, 1) := by decide +kernel
theorem dX5_lastLeaf_6 : decode cX5_lastLeaf 6 = .ok (.istore_n 2, 1) := by decide +kernel
theorem dX5_lastLeaf_7 : decode cX5_lastLeaf 7 = .ok (.aload_n 0, 1) := by decide +kernel
theorem dX5_lastLeaf_8 : decode cX5_lastLeaf 8 = .ok (.getfield 41, 3) := by decide +kernel
theorem dX5_lastLeaf_11 : decode cX5_lastLeaf 11 = .ok (.iload_n 2, 1) := by decide +kernel
theorem dX5_lastLeaf_12 : decode cX5_lastLeaf 12 = .ok (.iaload, 1) := by decide +kernel
theorem dX5_lastLeaf_13 : decode cX5_lastLeaf 13 = .ok (.iload_n 1, 1) := by decide +kernel
theorem dX5_lastLeaf_14 : decode cX5_lastLeaf 14 = .ok (.if_icmp .le 9, 3) := by decide +kernel
theorem dX5_lastLeaf_17 : decode cX5_lastLeaf 17 = .ok (.iinc 2 (-1), 3) := by decide +kernel
theorem dX5_lastLeaf_20 : decode cX5_lastLeaf 20 = .ok (.goto (-13), 3) := by decide +kernel
theorem dX5_lastLeaf_23 : decode cX5_lastLeaf 23 = .ok (.iload_n 2, 1) := by decide +kernel
theorem dX5_lastLeaf_24 : decode cX5_lastLeaf 24 = .ok (.ireturn, 1) := by decide +kernel
set_option maxRecDepth 20000 in
theorem ggX5_isAhead_X5_hash : GoodIn wsX5_isAhead wsX5_hash := goodIn_r _ [4] (by decide +kernel) (by decide +kernel)
set_option maxRecDepth 20000 in
theorem gX5_isAhead_X5_hash : GoodIn wsX5_isAhead (va_wsS RX5 71 yX5_hash wsX5_hash) := goodIn_app (goodIn_of _ (by decide +kernel)) ggX5_isAhead_X5_hash
theorem dX5_isAhead_0 : decode cX5_isAhead 0 = .ok (.iload_n 0, 1) := by decide +kernel
theorem dX5_isAhead_1 : decode cX5_isAhead 1 = .ok (.invokestatic 71, 3) := by decide +kernel
theorem dX5_isAhead_4 : decode cX5_isAhead 4 = .ok (.iload_n 1, 1) := by decide +kernel
theorem dX5_isAhead_5 : decode cX5_isAhead 5 = .ok (.invokestatic 71, 3) := by decide +kernel
theorem dX5_isAhead_8 : decode cX5_isAhead 8 = .ok (.if_icmp .lt 19, 3) := by decide +kernel
theorem dX5_isAhead_11 : decode cX5_isAhead 11 = .ok (.iload_n 0, 1) := by decide +kernel
theorem dX5_isAhead_12 : decode cX5_isAhead 12 = .ok (.invokestatic 71, 3) := by decide +kernel
theorem dX5_isAhead_15 : decode cX5_isAhead 15 = .ok (.iload_n 1, 1) := by decide +kernel
theorem dX5_isAhead_16 : decode cX5_isAhead 16 = .ok (.invokestatic 71, 3) := by decide +kernel
theorem dX5_isAhead_19 : decode cX5_isAhead 19 = .ok (.if_icmp .ne 12, 3) := by decide +kernel
theorem dX5_isAhead_22 : decode cX5_isAhead 22 = .ok (.iload_n 0, 1) := by decide +kernel
theorem dX5_isAhead_23 : decode cX5_isAhead 23 = .ok (.iload_n 1, 1) := by decide +kernel
theorem dX5_isAhead_24 : decode cX5_isAhead 24 = .ok (.if_icmp .ge 7, 3) := by decide +kernel
theorem dX5_isAhead_27 : decode cX5_isAhead 27 = .ok (.iconst 1, 1) := by decide +kernel
theorem dX5_isAhead_28 : decode cX5_isAhead 28 = .ok (.goto 4, 3) := by decide +kernel
theorem dX5_isAhead_31 : decode cX5_isAhead 31 = .ok (.iconst 0, 1) := by decide +kernel
theorem dX5_isAhead_32 : decode cX5_isAhead 32 = .ok (.ireturn, 1) := by decide +kernel
set_option maxRecDepth 20000 in
theorem ggX5_splits_X5_isAhead : GoodIn wsX5_splits wsX5_isAhead := goodIn_r _ [9, 10, 11, 8, 12] (by decide +kernel) (by decide +kernel)
set_option maxRecDepth 20000 in
theorem gX5_splits_X5_isAhead : GoodIn wsX5_splits (va_wsS RX5 75 yX5_isAhead wsX5_isAhead) := goodIn_app (goodIn_of _ (by decide +kernel)) ggX5_splits_X5_isAhead
set_option maxRecDepth 20000 in
theorem ggX5_splits_X5_hash : GoodIn wsX5_splits wsX5_hash := goodIn_r _ [12] (by decide +kernel) (by decide +kernel)
set_option maxRecDepth 20000 in
theorem gX5_splits_X5_hash : GoodIn wsX5_splits (va_wsS RX5 71 yX5_hash wsX5_hash) := goodIn_app (goodIn_of _ (by decide +kernel)) ggX5_splits_X5_hash
theorem dX5_splits_0 : decode cX5_splits 0 = .ok (.aload_n 0, 1) := by decide +kernel
theorem dX5_splits_1 : decode cX5_splits 1 = .ok (.getfield 53, 3) := by decide +kernel
theorem dX5_splits_4 : decode cX5_splits 4 = .ok (.istore_n 2, 1) := by decide +kernel
theorem dX5_splits_5 : decode cX5_splits 5 = .ok (.iload_n 2, 1) := by decide +kernel
theorem dX5_splits_6 : decode cX5_splits 6 = .ok (.iload_n 1, 1) := by decide +kernel
theorem dX5_splits_7 : decode cX5_splits 7 = .ok (.iconst 1, 1) := by decide +kernel
theorem dX5_splits_8 : decode cX5_splits 8 = .ok (.iadd, 1) := by decide +kernel
theorem dX5_splits_9 : decode cX5_splits 9 = .ok (.if_icmp .le 86, 3) := by decide +kernel
theorem dX5_splits_12 : decode cX5_splits 12 = .ok (.aload_n 0, 1) := by decide +kernel
theorem dX5_splits_13 : decode cX5_splits 13 = .ok (.getfield 41, 3) := by decide +kernel
theorem dX5_splits_16 : decode cX5_splits 16 = .ok (.iload_n 2, 1) := by decide +kernel
theorem dX5_splits_17 : decode cX5_splits 17 = .ok (.aload_n 0, 1) := by decide +kernel
theorem dX5_splits_18 : decode cX5_splits 18 = .ok (.getfield 41, 3) := by decide +kernel
theorem dX5_splits_21 : decode cX5_splits 21 = .ok (.iload_n 2, 1) := by decide +kernel
theorem dX5_splits_22 : decode cX5_splits 22 = .ok (.iconst 1, 1) := by decide +kernel
theorem dX5_splits_23 : decode cX5_splits 23 = .ok (.isub, 1) := by decide +kernel
theorem dX5_splits_24 : decode cX5_splits 24 = .ok (.iaload, 1) := by decide +kernel
theorem dX5_splits_25 : decode cX5_splits 25 = .ok (.iastore, 1) := by decide +kernel
theorem dX5_splits_26 : decode cX5_splits 26 = .ok (.aload_n 0, 1) := by decide +kernel
theorem dX5_splits_27 : decode cX5_splits 27 = .ok (.getfield 44, 3) := by decide +kernel
theorem dX5_splits_30 : decode cX5_splits 30 = .ok (.iload_n 2, 1) := by decide +kernel
theorem dX5_splits_31 : decode cX5_splits 31 = .ok (.aload_n 0, 1) := by decide +kernel
theorem dX5_splits_32 : decode cX5_splits 32 = .ok (.getfield 44, 3) := by decide +kernel
theorem dX5_splits_35 : decode cX5_splits 35 = .ok (.iload_n 2, 1) := by decide +kernel
theorem dX5_splits_36 : decode cX5_splits 36 = .ok (.iconst 1, 1) := by decide +kernel
theorem dX5_splits_37 : decode cX5_splits 37 = .ok (.isub, 1) := by decide +kernel
theorem dX5_splits_38 : decode cX5_splits 38 = .ok (.baload, 1) := by decide +kernel
theorem dX5_splits_39 : decode cX5_splits 39 = .ok (.bastore, 1) := by decide +kernel
theorem dX5_splits_40 : decode cX5_splits 40 = .ok (.aload_n 0, 1) := by decide +kernel
theorem dX5_splits_41 : decode cX5_splits 41 = .ok (.getfield 50, 3) := by decide +kernel
theorem dX5_splits_44 : decode cX5_splits 44 = .ok (.iload_n 2, 1) := by decide +kernel
theorem dX5_splits_45 : decode cX5_splits 45 = .ok (.aload_n 0, 1) := by decide +kernel
theorem dX5_splits_46 : decode cX5_splits 46 = .ok (.getfield 50, 3) := by decide +kernel
theorem dX5_splits_49 : decode cX5_splits 49 = .ok (.iload_n 2, 1) := by decide +kernel
theorem dX5_splits_50 : decode cX5_splits 50 = .ok (.iconst 1, 1) := by decide +kernel
theorem dX5_splits_51 : decode cX5_splits 51 = .ok (.isub, 1) := by decide +kernel
theorem dX5_splits_52 : decode cX5_splits 52 = .ok (.iaload, 1) := by decide +kernel
theorem dX5_splits_53 : decode cX5_splits 53 = .ok (.iastore, 1) := by decide +kernel
theorem dX5_splits_54 : decode cX5_splits 54 = .ok (.iconst 0, 1) := by decide +kernel
theorem dX5_splits_55 : decode cX5_splits 55 = .ok (.istore_n 3, 1) := by decide +kernel
theorem dX5_splits_56 : decode cX5_splits 56 = .ok (.iload_n 3, 1) := by decide +kernel
theorem dX5_splits_57 : decode cX5_splits 57 = .ok (.iconst 4, 1) := by decide +kernel
theorem dX5_splits_58 : decode cX5_splits 58 = .ok (.if_icmp .ge 31, 3) := by decide +kernel
theorem dX5_splits_61 : decode cX5_splits 61 = .ok (.aload_n 0, 1) := by decide +kernel
theorem dX5_splits_62 : decode cX5_splits 62 = .ok (.getfield 47, 3) := by decide +kernel
theorem dX5_splits_65 : decode cX5_splits 65 = .ok (.iconst 4, 1) := by decide +kernel
theorem dX5_splits_66 : decode cX5_splits 66 = .ok (.iload_n 2, 1) := by decide +kernel
theorem dX5_splits_67 : decode cX5_splits 67 = .ok (.imul, 1) := by decide +kernel
theorem dX5_splits_68 : decode cX5_splits 68 = .ok (.iload_n 3, 1) := by decide +kernel
theorem dX5_splits_69 : decode cX5_splits 69 = .ok (.iadd, 1) := by decide +kernel
theorem dX5_splits_70 : decode cX5_splits 70 = .ok (.aload_n 0, 1) := by decide +kernel
theorem dX5_splits_71 : decode cX5_splits 71 = .ok (.getfield 47, 3) := by decide +kernel
theorem dX5_splits_74 : decode cX5_splits 74 = .ok (.iconst 4, 1) := by decide +kernel
theorem dX5_splits_75 : decode cX5_splits 75 = .ok (.iload_n 2, 1) := by decide +kernel
theorem dX5_splits_76 : decode cX5_splits 76 = .ok (.iconst 1, 1) := by decide +kernel
theorem dX5_splits_77 : decode cX5_splits 77 = .ok (.isub, 1) := by decide +kernel
theorem dX5_splits_78 : decode cX5_splits 78 = .ok (.imul, 1) := by decide +kernel
theorem dX5_splits_79 : decode cX5_splits 79 = .ok (.iload_n 3, 1) := by decide +kernel
theorem dX5_splits_80 : decode cX5_splits 80 = .ok (.iadd, 1) := by decide +kernel
theorem dX5_splits_81 : decode cX5_splits 81 = .ok (.iaload, 1) := by decide +kernel
theorem dX5_splits_82 : decode cX5_splits 82 = .ok (.iastore, 1) := by decide +kernel
theorem dX5_splits_83 : decode cX5_splits 83 = .ok (.iinc 3 1, 3) := by decide +kernel
theorem dX5_splits_86 : decode cX5_splits 86 = .ok (.goto (-30), 3) := by decide +kernel
theorem dX5_splits_89 : decode cX5_splits 89 = .ok (.iinc 2 (-1), 3) := by decide +kernel
theorem dX5_splits_92 : decode cX5_splits 92 = .ok (.goto (-87), 3) := by decide +kernel
theorem dX5_splits_95 : decode cX5_splits 95 = .ok (.aload_n 0, 1) := by decide +kernel
theorem dX5_splits_96 : decode cX5_splits 96 = .ok (.dup, 1) := by decide +kernel
theorem dX5_splits_97 : decode cX5_splits 97 = .ok (.getfield 53, 3) := by decide +kernel
theorem dX5_splits_100 : decode cX5_splits 100 = .ok (.iconst 1, 1) := by decide +kernel
theorem dX5_splits_101 : decode cX5_splits 101 = .ok (.iadd, 1) := by decide +kernel
theorem dX5_splits_102 : decode cX5_splits 102 = .ok (.putfield 53, 3) := by decide +kernel
theorem dX5_splits_105 : decode cX5_splits 105 = .ok (.iconst 4, 1) := by decide +kernel
theorem dX5_splits_106 : decode cX5_splits 106 = .ok (.iload_n 1, 1) := by decide +kernel
theorem dX5_splits_107 : decode cX5_splits 107 = .ok (.imul, 1) := by decide +kernel
theorem dX5_splits_108 : decode cX5_splits 108 = .ok (.istore_n 2, 1) := by decide +kernel
theorem dX5_splits_109 : decode cX5_splits 109 = .ok (.iconst 0, 1) := by decide +kernel
theorem dX5_splits_110 : decode cX5_splits 110 = .ok (.istore_n 3, 1) := by decide +kernel
theorem dX5_splits_111 : decode cX5_splits 111 = .ok (.iload_n 3, 1) := by decide +kernel
theorem dX5_splits_112 : decode cX5_splits 112 = .ok (.iconst 4, 1) := by decide +kernel
theorem dX5_splits_113 : decode cX5_splits 113 = .ok (.if_icmp .ge 86, 3) := by decide +kernel
theorem dX5_splits_116 : decode cX5_splits 116 = .ok (.iload_n 2, 1) := by decide +kernel
theorem dX5_splits_117 : decode cX5_splits 117 = .ok (.istore 4, 2) := by decide +kernel
theorem dX5_splits_119 : decode cX5_splits 119 = .ok (.iload 4, 2) := by decide +kernel
theorem dX5_splits_121 : decode cX5_splits 121 = .ok (.iload_n 2, 1) := by decide +kernel
theorem dX5_splits_122 : decode cX5_splits 122 = .ok (.iconst 4, 1) := by decide +kernel
theorem dX5_splits_123 : decode cX5_splits 123 = .ok (.iadd, 1) := by decide +kernel
theorem dX5_splits_124 : decode cX5_splits 124 = .ok (.iconst 1, 1) := by decide +kernel
theorem dX5_splits_125 : decode cX5_splits 125 = .ok (.isub, 1) := by decide +kernel
theorem dX5_splits_126 : decode cX5_splits 126 = .ok (.if_icmp .ge 67, 3) := by decide +kernel
theorem dX5_splits_129 : decode cX5_splits 129 = .ok (.aload_n 0, 1) := by decide +kernel
theorem dX5_splits_130 : decode cX5_splits 130 = .ok (.getfield 47, 3) := by decide +kernel
theorem dX5_splits_133 : decode cX5_splits 133 = .ok (.iload 4, 2) := by decide +kernel
theorem dX5_splits_135 : decode cX5_splits 135 = .ok (.iconst 1, 1) := by decide +kernel
theorem dX5_splits_136 : decode cX5_splits 136 = .ok (.iadd, 1) := by decide +kernel
theorem dX5_splits_137 : decode cX5_splits 137 = .ok (.iaload, 1) := by decide +kernel
theorem dX5_splits_138 : decode cX5_splits 138 = .ok (.aload_n 0, 1) := by decide +kernel
theorem dX5_splits_139 : decode cX5_splits 139 = .ok (.getfield 47, 3) := by decide +kernel
theorem dX5_splits_142 : decode cX5_splits 142 = .ok (.iload 4, 2) := by decide +kernel
theorem dX5_splits_144 : decode cX5_splits 144 = .ok (.iaload, 1) := by decide +kernel
theorem dX5_splits_145 : decode cX5_splits 145 = .ok (.invokestatic 75, 3) := by decide +kernel
theorem dX5_splits_148 : decode cX5_splits 148 = .ok (.ifCond .eq 39, 3) := by decide +kernel
theorem dX5_splits_151 : decode cX5_splits 151 = .ok (.aload_n 0, 1) := by decide +kernel
theorem dX5_splits_152 : decode cX5_splits 152 = .ok (.getfield 47, 3) := by decide +kernel
theorem dX5_splits_155 : decode cX5_splits 155 = .ok (.iload 4, 2) := by decide +kernel
theorem dX5_splits_157 : decode cX5_splits 157 = .ok (.iaload, 1) := by decide +kernel
theorem dX5_splits_158 : decode cX5_splits 158 = .ok (.istore 5, 2) := by decide +kernel
theorem dX5_splits_160 : decode cX5_splits 160 = .ok (.aload_n 0, 1) := by decide +kernel
theorem dX5_splits_161 : decode cX5_splits 161 = .ok (.getfield 47, 3) := by decide +kernel
theorem dX5_splits_164 : decode cX5_splits 164 = .ok (.iload 4, 2) := by decide +kernel
theorem dX5_splits_166 : decode cX5_splits 166 = .ok (.aload_n 0, 1) := by decide +kernel
theorem dX5_splits_167 : decode cX5_splits 167 = .ok (.getfield 47, 3) := by decide +kernel
theorem dX5_splits_170 : decode cX5_splits 170 = .ok (.iload 4, 2) := by decide +kernel
theorem dX5_splits_172 : decode cX5_splits 172 = .ok (.iconst 1, 1) := by decide +kernel
theorem dX5_splits_173 : decode cX5_splits 173 = .ok (.iadd, 1) := by decide +kernel
theorem dX5_splits_174 : decode cX5_splits 174 = .ok (.iaload, 1) := by decide +kernel
theorem dX5_splits_175 : decode cX5_splits 175 = .ok (.iastore, 1) := by decide +kernel
theorem dX5_splits_176 : decode cX5_splits 176 = .ok (.aload_n 0, 1) := by decide +kernel
theorem dX5_splits_177 : decode cX5_splits 177 = .ok (.getfield 47, 3) := by decide +kernel
theorem dX5_splits_180 : decode cX5_splits 180 = .ok (.iload 4, 2) := by decide +kernel
theorem dX5_splits_182 : decode cX5_splits 182 = .ok (.iconst 1, 1) := by decide +kernel
theorem dX5_splits_183 : decode cX5_splits 183 = .ok (.iadd, 1) := by decide +kernel
theorem dX5_splits_184 : decode cX5_splits 184 = .ok (.iload 5, 2) := by decide +kernel
theorem dX5_splits_186 : decode cX5_splits 186 = .ok (.iastore, 1) := by decide +kernel
theorem dX5_splits_187 : decode cX5_splits 187 = .ok (.iinc 4 1, 3) := by decide +kernel
theorem dX5_splits_190 : decode cX5_splits 190 = .ok (.goto (-71), 3) := by decide +kernel
theorem dX5_splits_193 : decode cX5_splits 193 = .ok (.iinc 3 1, 3) := by decide +kernel
theorem dX5_splits_196 : decode cX5_splits 196 = .ok (.goto (-85), 3) := by decide +kernel
theorem dX5_splits_199 : decode cX5_splits 199 = .ok (.aload_n 0, 1) := by decide +kernel
theorem dX5_splits_200 : decode cX5_splits 200 = .ok (.getfield 47, 3) := by decide +kernel
theorem dX5_splits_203 : decode cX5_splits 203 = .ok (.iload_n 2, 1) := by decide +kernel
theorem dX5_splits_204 : decode cX5_splits 204 = .ok (.iconst 4, 1) := by decide +kernel
theorem dX5_splits_205 : decode cX5_splits 205 = .ok (.iadd, 1) := by decide +kernel
theorem dX5_splits_206 : decode cX5_splits 206 = .ok (.aload_n 0, 1) := by decide +kernel
theorem dX5_splits_207 : decode cX5_splits 207 = .ok (.getfield 47, 3) := by decide +kernel
theorem dX5_splits_210 : decode cX5_splits 210 = .ok (.iload_n 2, 1) := by decide +kernel
theorem dX5_splits_211 : decode cX5_splits 211 = .ok (.iconst 2, 1) := by decide +kernel
theorem dX5_splits_212 : decode cX5_splits 212 = .ok (.iadd, 1) := by decide +kernel
theorem dX5_splits_213 : decode cX5_splits 213 = .ok (.iaload, 1) := by decide +kernel
theorem dX5_splits_214 : decode cX5_splits 214 = .ok (.iastore, 1) := by decide +kernel
theorem dX5_splits_215 : decode cX5_splits 215 = .ok (.aload_n 0, 1) := by decide +kernel
theorem dX5_splits_216 : decode cX5_splits 216 = .ok (.getfield 47, 3) := by decide +kernel
theorem dX5_splits_219 : decode cX5_splits 219 = .ok (.iload_n 2, 1) := by decide +kernel
theorem dX5_splits_220 : decode cX5_splits 220 = .ok (.iconst 4, 1) := by decide +kernel
theorem dX5_splits_221 : decode cX5_splits 221 = .ok (.iadd, 1) := by decide +kernel
theorem dX5_splits_222 : decode cX5_splits 222 = .ok (.iconst 1, 1) := by decide +kernel
theorem dX5_splits_223 : decode cX5_splits 223 = .ok (.iadd, 1) := by decide +kernel
theorem dX5_splits_224 : decode cX5_splits 224 = .ok (.aload_n 0, 1) := by decide +kernel
theorem dX5_splits_225 : decode cX5_splits 225 = .ok (.getfield 47, 3) := by decide +kernel
theorem dX5_splits_228 : decode cX5_splits 228 = .ok (.iload_n 2, 1) := by decide +kernel
theorem dX5_splits_229 : decode cX5_splits 229 = .ok (.iconst 3, 1) := by decide +kernel
theorem dX5_splits_230 : decode cX5_splits 230 = .ok (.iadd, 1) := by decide +kernel
theorem dX5_splits_231 : decode cX5_splits 231 = .ok (.iaload, 1) := by decide +kernel
theorem dX5_splits_232 : decode cX5_splits 232 = .ok (.iastore, 1) := by decide +kernel
theorem dX5_splits_233 : decode cX5_splits 233 = .ok (.aload_n 0, 1) := by decide +kernel
theorem dX5_splits_234 : decode cX5_splits 234 = .ok (.getfield 50, 3) := by decide +kernel
theorem dX5_splits_237 : decode cX5_splits 237 = .ok (.iload_n 1, 1) := by decide +kernel
theorem dX5_splits_238 : decode cX5_splits 238 = .ok (.iconst 2, 1) := by decide +kernel
theorem dX5_splits_239 : decode cX5_splits 239 = .ok (.iastore, 1) := by decide +kernel
theorem dX5_splits_240 : decode cX5_splits 240 = .ok (.aload_n 0, 1) := by decide +kernel
theorem dX5_splits_241 : decode cX5_splits 241 = .ok (.getfield 50, 3) := by decide +kernel
theorem dX5_splits_244 : decode cX5_splits 244 = .ok (.iload_n 1, 1) := by decide +kernel
theorem dX5_splits_245 : decode cX5_splits 245 = .ok (.iconst 1, 1) := by decide +kernel
theorem dX5_splits_246 : decode cX5_splits 246 = .ok (.iadd, 1) := by decide +kernel
theorem dX5_splits_247 : decode cX5_splits 247 = .ok (.iconst 2, 1) := by decide +kernel
theorem dX5_splits_248 : decode cX5_splits 248 = .ok (.iastore, 1) := by decide +kernel
theorem dX5_splits_249 : decode cX5_splits 249 = .ok (.aload_n 0, 1) := by decide +kernel
theorem dX5_splits_250 : decode cX5_splits 250 = .ok (.getfield 41, 3) := by decide +kernel
theorem dX5_splits_253 : decode cX5_splits 253 = .ok (.iload_n 1, 1) := by decide +kernel
theorem dX5_splits_254 : decode cX5_splits 254 = .ok (.iconst 1, 1) := by decide +kernel
theorem dX5_splits_255 : decode cX5_splits 255 = .ok (.iadd, 1) := by decide +kernel
theorem dX5_splits_256 : decode cX5_splits 256 = .ok (.aload_n 0, 1) := by decide +kernel
theorem dX5_splits_257 : decode cX5_splits 257 = .ok (.getfield 47, 3) := by decide +kernel
theorem dX5_splits_260 : decode cX5_splits 260 = .ok (.iload_n 2, 1) := by decide +kernel
theorem dX5_splits_261 : decode cX5_splits 261 = .ok (.iconst 2, 1) := by decide +kernel
theorem dX5_splits_262 : decode cX5_splits 262 = .ok (.iadd, 1) := by decide +kernel
theorem dX5_splits_263 : decode cX5_splits 263 = .ok (.iaload, 1) := by decide +kernel
theorem dX5_splits_264 : decode cX5_splits 264 = .ok (.invokestatic 71, 3) := by decide +kernel
theorem dX5_splits_267 : decode cX5_splits 267 = .ok (.iastore, 1) := by decide +kernel
theorem dX5_splits_268 : decode cX5_splits 268 = .ok (.aload_n 0, 1) := by decide +kernel
theorem dX5_splits_269 : decode cX5_splits 269 = .ok (.getfield 44, 3) := by decide +kernel
theorem dX5_splits_272 : decode cX5_splits 272 = .ok (.iload_n 1, 1) := by decide +kernel
theorem dX5_splits_273 : decode cX5_splits 273 = .ok (.iconst 1, 1) := by decide +kernel
theorem dX5_splits_274 : decode cX5_splits 274 = .ok (.iadd, 1) := by decide +kernel
theorem dX5_splits_275 : decode cX5_splits 275 = .ok (.aload_n 0, 1) := by decide +kernel
theorem dX5_splits_276 : decode cX5_splits 276 = .ok (.getfield 47, 3) := by decide +kernel
theorem dX5_splits_279 : decode cX5_splits 279 = .ok (.iload_n 2, 1) := by decide +kernel
theorem dX5_splits_280 : decode cX5_splits 280 = .ok (.iconst 1, 1) := by decide +kernel
theorem dX5_splits_281 : decode cX5_splits 281 = .ok (.iadd, 1) := by decide +kernel
theorem dX5_splits_282 : decode cX5_splits 282 = .ok (.iaload, 1) := by decide +kernel
theorem dX5_splits_283 : decode cX5_splits 283 = .ok (.invokestatic 71, 3) := by decide +kernel
theorem dX5_splits_286 : decode cX5_splits 286 = .ok (.aload_n 0, 1) := by decide +kernel
theorem dX5_splits_287 : decode cX5_splits 287 = .ok (.getfield 47, 3) := by decide +kernel
theorem dX5_splits_290 : decode cX5_splits 290 = .ok (.iload_n 2, 1) := by decide +kernel
theorem dX5_splits_291 : decode cX5_splits 291 = .ok (.iconst 2, 1) := by decide +kernel
theorem dX5_splits_292 : decode cX5_splits 292 = .ok (.iadd, 1) := by decide +kernel
theorem dX5_splits_293 : decode cX5_splits 293 = .ok (.iaload, 1) := by decide +kernel
theorem dX5_splits_294 : decode cX5_splits 294 = .ok (.invokestatic 71, 3) := by decide +kernel
theorem dX5_splits_297 : decode cX5_splits 297 = .ok (.if_icmp .ne 7, 3) := by decide +kernel
theorem dX5_splits_300 : decode cX5_splits 300 = .ok (.iconst 1, 1) := by decide +kernel
theorem dX5_splits_301 : decode cX5_splits 301 = .ok (.goto 4, 3) := by decide +kernel
theorem dX5_splits_304 : decode cX5_splits 304 = .ok (.iconst 0, 1) := by decide +kernel
theorem dX5_splits_305 : decode cX5_splits 305 = .ok (.bastore, 1) := by decide +kernel
theorem dX5_splits_306 : decode cX5_splits 306 = .ok (.return_, 1) := by decide +kernel
set_option maxRecDepth 20000 in
theorem ggX5_addsName_X5_hash : GoodIn wsX5_addsName wsX5_hash := goodIn_r _ [6] (by decide +kernel) (by decide +kernel)
set_option maxRecDepth 20000 in
theorem gX5_addsName_X5_hash : GoodIn wsX5_addsName (va_wsS RX5 71 yX5_hash wsX5_hash) := goodIn_app (goodIn_of _ (by decide +kernel)) ggX5_addsName_X5_hash
set_option maxRecDepth 20000 in
theorem ggX5_addsName_X5_lastLeaf : GoodIn wsX5_addsName wsX5_lastLeaf := goodIn_r _ [10, 11, 12, 21, 22, 23, 24, 25, 26, 27, 28, 29, 30, 31, 32, 33, 34, 35, 36, 37, 38] (by decide +kernel) (by decide +kernel)
set_option maxRecDepth 20000 in
theorem gX5_addsName_X5_lastLeaf : GoodIn wsX5_addsName (wsV RX5 79 RX5 yX5_lastLeaf wsX5_lastLeaf) := goodIn_app (goodIn_of _ (by decide +kernel)) ggX5_addsName_X5_lastLeaf
set_option maxRecDepth 20000 in
theorem ggX5_addsName_X5_splits : GoodIn wsX5_addsName wsX5_splits := goodIn_r _ [16, 11, 12, 17, 1, 2, 18, 19, 5, 20, 3, 4, 6, 21, 22, 23, 24, 25, 26, 27, 28, 29, 30, 31, 32, 33, 34, 35, 36, 37, 38] (by decide +kernel) (by decide +kernel)
set_option maxRecDepth 20000 in
theorem gX5_addsName_X5_splits : GoodIn wsX5_addsName (wsV RX5 82 RX5 yX5_splits wsX5_splits) := goodIn_app (goodIn_of _ (by decide +kernel)) ggX5_addsName_X5_splits
theorem dX5_addsName_0 : decode cX5_addsName 0 = .ok (.aload_n 0, 1) := by decide +kernel
theorem dX5_addsName_1 : decode cX5_addsName 1 = .ok (.iload_n 1, 1) := by decide +kernel
theorem dX5_addsName_2 : decode cX5_addsName 2 = .ok (.invokestatic 71, 3) := by decide +kernel
theorem dX5_addsName_5 : decode cX5_addsName 5 = .ok (.invokevirtual 79, 3) := by decide +kernel
theorem dX5_addsName_8 : decode cX5_addsName 8 = .ok (.istore_n 2, 1) := by decide +kernel
theorem dX5_addsName_9 : decode cX5_addsName 9 = .ok (.aload_n 0, 1) := by decide +kernel
theorem dX5_addsName_10 : decode cX5_addsName 10 = .ok (.getfield 50, 3) := by decide +kernel
theorem dX5_addsName_13 : decode cX5_addsName 13 = .ok (.iload_n 2, 1) := by decide +kernel
theorem dX5_addsName_14 : decode cX5_addsName 14 = .ok (.iaload, 1) := by decide +kernel
theorem dX5_addsName_15 : decode cX5_addsName 15 = .ok (.iconst 4, 1) := by decide +kernel
theorem dX5_addsName_16 : decode cX5_addsName 16 = .ok (.if_icmp .ne 17, 3) := by decide +kernel
theorem dX5_addsName_19 : decode cX5_addsName 19 = .ok (.aload_n 0, 1) := by decide +kernel
theorem dX5_addsName_20 : decode cX5_addsName 20 = .ok (.iload_n 2, 1) := by decide +kernel
theorem dX5_addsName_21 : decode cX5_addsName 21 = .ok (.invokevirtual 82, 3) := by decide +kernel
theorem dX5_addsName_24 : decode cX5_addsName 24 = .ok (.aload_n 0, 1) := by decide +kernel
theorem dX5_addsName_25 : decode cX5_addsName 25 = .ok (.iload_n 1, 1) := by decide +kernel
theorem dX5_addsName_26 : decode cX5_addsName 26 = .ok (.invokestatic 71, 3) := by decide +kernel
theorem dX5_addsName_29 : decode cX5_addsName 29 = .ok (.invokevirtual 79, 3) := by decide +kernel
theorem dX5_addsName_32 : decode cX5_addsName 32 = .ok (.istore_n 2, 1) := by decide +kernel
theorem dX5_addsName_33 : decode cX5_addsName 33 = .ok (.aload_n 0, 1) := by decide +kernel
theorem dX5_addsName_34 : decode cX5_addsName 34 = .ok (.getfield 47, 3) := by decide +kernel
theorem dX5_addsName_37 : decode cX5_addsName 37 = .ok (.iconst 4, 1) := by decide +kernel
theorem dX5_addsName_38 : decode cX5_addsName 38 = .ok (.iload_n 2, 1) := by decide +kernel
theorem dX5_addsName_39 : decode cX5_addsName 39 = .ok (.imul, 1) := by decide +kernel
theorem dX5_addsName_40 : decode cX5_addsName 40 = .ok (.aload_n 0, 1) := by decide +kernel
theorem dX5_addsName_41 : decode cX5_addsName 41 = .ok (.getfield 50, 3) := by decide +kernel
theorem dX5_addsName_44 : decode cX5_addsName 44 = .ok (.iload_n 2, 1) := by decide +kernel
theorem dX5_addsName_45 : decode cX5_addsName 45 = .ok (.iaload, 1) := by decide +kernel
theorem dX5_addsName_46 : decode cX5_addsName 46 = .ok (.iadd, 1) := by decide +kernel
theorem dX5_addsName_47 : decode cX5_addsName 47 = .ok (.iload_n 1, 1) := by decide +kernel
theorem dX5_addsName_48 : decode cX5_addsName 48 = .ok (.iastore, 1) := by decide +kernel
theorem dX5_addsName_49 : decode cX5_addsName 49 = .ok (.aload_n 0, 1) := by decide +kernel
theorem dX5_addsName_50 : decode cX5_addsName 50 = .ok (.getfield 50, 3) := by decide +kernel
theorem dX5_addsName_53 : decode cX5_addsName 53 = .ok (.iload_n 2, 1) := by decide +kernel
theorem dX5_addsName_54 : decode cX5_addsName 54 = .ok (.dup2, 1) := by decide +kernel
theorem dX5_addsName_55 : decode cX5_addsName 55 = .ok (.iaload, 1) := by decide +kernel
theorem dX5_addsName_56 : decode cX5_addsName 56 = .ok (.iconst 1, 1) := by decide +kernel
theorem dX5_addsName_57 : decode cX5_addsName 57 = .ok (.iadd, 1) := by decide +kernel
theorem dX5_addsName_58 : decode cX5_addsName 58 = .ok (.iastore, 1) := by decide +kernel
theorem dX5_addsName_59 : decode cX5_addsName 59 = .ok (.return_, 1) := by decide +kernel
theorem dX5_isIn_0 : decode cX5_isIn 0 = .ok (.iconst 0, 1) := by decide +kernel
theorem dX5_isIn_1 : decode cX5_isIn 1 = .ok (.istore_n 3, 1) := by decide +kernel
theorem dX5_isIn_2 : decode cX5_isIn 2 = .ok (.iconst 0, 1) := by decide +kernel
theorem dX5_isIn_3 : decode cX5_isIn 3 = .ok (.istore 4, 2) := by decide +kernel
theorem dX5_isIn_5 : decode cX5_isIn 5 = .ok (.iload 4, 2) := by decide +kernel
theorem dX5_isIn_7 : decode cX5_isIn 7 = .ok (.aload_n 0, 1) := by decide +kernel
theorem dX5_isIn_8 : decode cX5_isIn 8 = .ok (.getfield 50, 3) := by decide +kernel
theorem dX5_isIn_11 : decode cX5_isIn 11 = .ok (.iload_n 1, 1) := by decide +kernel
theorem dX5_isIn_12 : decode cX5_isIn 12 = .ok (.iaload, 1) := by decide +kernel
theorem dX5_isIn_13 : decode cX5_isIn 13 = .ok (.if_icmp .ge 34, 3) := by decide +kernel
theorem dX5_isIn_16 : decode cX5_isIn 16 = .ok (.iload_n 3, 1) := by decide +kernel
theorem dX5_isIn_17 : decode cX5_isIn 17 = .ok (.ifCond .ne 18, 3) := by decide +kernel
theorem dX5_isIn_20 : decode cX5_isIn 20 = .ok (.aload_n 0, 1) := by decide +kernel
theorem dX5_isIn_21 : decode cX5_isIn 21 = .ok (.getfield 47, 3) := by decide +kernel
theorem dX5_isIn_24 : decode cX5_isIn 24 = .ok (.iconst 4, 1) := by decide +kernel
theorem dX5_isIn_25 : decode cX5_isIn 25 = .ok (.iload_n 1, 1) := by decide +kernel
theorem dX5_isIn_26 : decode cX5_isIn 26 = .ok (.imul, 1) := by decide +kernel
theorem dX5_isIn_27 : decode cX5_isIn 27 = .ok (.iload 4, 2) := by decide +kernel
theorem dX5_isIn_29 : decode cX5_isIn 29 = .ok (.iadd, 1) := by decide +kernel
theorem dX5_isIn_30 : decode cX5_isIn 30 = .ok (.iaload, 1) := by decide +kernel
theorem dX5_isIn_31 : decode cX5_isIn 31 = .ok (.iload_n 2, 1) := by decide +kernel
theorem dX5_isIn_32 : decode cX5_isIn 32 = .ok (.if_icmp .ne 7, 3) := by decide +kernel
theorem dX5_isIn_35 : decode cX5_isIn 35 = .ok (.iconst 1, 1) := by decide +kernel
theorem dX5_isIn_36 : decode cX5_isIn 36 = .ok (.goto 4, 3) := by decide +kernel
theorem dX5_isIn_39 : decode cX5_isIn 39 = .ok (.iconst 0, 1) := by decide +kernel
theorem dX5_isIn_40 : decode cX5_isIn 40 = .ok (.istore_n 3, 1) := by decide +kernel
theorem dX5_isIn_41 : decode cX5_isIn 41 = .ok (.iinc 4 1, 3) := by decide +kernel
theorem dX5_isIn_44 : decode cX5_isIn 44 = .ok (.goto (-39), 3) := by decide +kernel
theorem dX5_isIn_47 : decode cX5_isIn 47 = .ok (.iload_n 3, 1) := by decide +kernel
theorem dX5_isIn_48 : decode cX5_isIn 48 = .ok (.ireturn, 1) := by decide +kernel
set_option maxRecDepth 20000 in
theorem ggX5_begins_X5_hash : GoodIn wsX5_begins wsX5_hash := goodIn_r _ [6] (by decide +kernel) (by decide +kernel)
set_option maxRecDepth 20000 in
theorem gX5_begins_X5_hash : GoodIn wsX5_begins (va_wsS RX5 71 yX5_hash wsX5_hash) := goodIn_app (goodIn_of _ (by decide +kernel)) ggX5_begins_X5_hash
set_option maxRecDepth 20000 in
theorem ggX5_begins_X5_lastLeaf : GoodIn wsX5_begins wsX5_lastLeaf := goodIn_r _ [10, 11, 2, 12, 13, 14, 15, 16, 17, 18, 19, 20, 21, 22, 23, 24, 25, 26, 27, 28, 29] (by decide +kernel) (by decide +kernel)
set_option maxRecDepth 20000 in
theorem gX5_begins_X5_lastLeaf : GoodIn wsX5_begins (wsV RX5 79 RX5 yX5_lastLeaf wsX5_lastLeaf) := goodIn_app (goodIn_of _ (by decide +kernel)) ggX5_begins_X5_lastLeaf
theorem dX5_begins_0 : decode cX5_begins 0 = .ok (.aload_n 0, 1) := by decide +kernel
theorem dX5_begins_1 : decode cX5_begins 1 = .ok (.iload_n 1, 1) := by decide +kernel
theorem dX5_begins_2 : decode cX5_begins 2 = .ok (.invokestatic 71, 3) := by decide +kernel
theorem dX5_begins_5 : decode cX5_begins 5 = .ok (.invokevirtual 79, 3) := by decide +kernel
theorem dX5_begins_8 : decode cX5_begins 8 = .ok (.istore_n 2, 1) := by decide +kernel
theorem dX5_begins_9 : decode cX5_begins 9 = .ok (.aload_n 0, 1) := by decide +kernel
theorem dX5_begins_10 : decode cX5_begins 10 = .ok (.getfield 44, 3) := by decide +kernel
theorem dX5_begins_13 : decode cX5_begins 13 = .ok (.iload_n 2, 1) := by decide +kernel
theorem dX5_begins_14 : decode cX5_begins 14 = .ok (.baload, 1) := by decide +kernel
theorem dX5_begins_15 : decode cX5_begins 15 = .ok (.ifCond .eq 22, 3) := by decide +kernel
theorem dX5_begins_18 : decode cX5_begins 18 = .ok (.aload_n 0, 1) := by decide +kernel
theorem dX5_begins_19 : decode cX5_begins 19 = .ok (.getfield 41, 3) := by decide +kernel
theorem dX5_begins_22 : decode cX5_begins 22 = .ok (.iload_n 2, 1) := by decide +kernel
theorem dX5_begins_23 : decode cX5_begins 23 = .ok (.iaload, 1) := by decide +kernel
theorem dX5_begins_24 : decode cX5_begins 24 = .ok (.iload_n 1, 1) := by decide +kernel
theorem dX5_begins_25 : decode cX5_begins 25 = .ok (.invokestatic 71, 3) := by decide +kernel
theorem dX5_begins_28 : decode cX5_begins 28 = .ok (.if_icmp .ne 9, 3) := by decide +kernel
theorem dX5_begins_31 : decode cX5_begins 31 = .ok (.iinc 2 (-1), 3) := by decide +kernel
theorem dX5_begins_34 : decode cX5_begins 34 = .ok (.goto (-25), 3) := by decide +kernel
theorem dX5_begins_37 : decode cX5_begins 37 = .ok (.iload_n 2, 1) := by decide +kernel
theorem dX5_begins_38 : decode cX5_begins 38 = .ok (.ireturn, 1) := by decide +kernel
set_option maxRecDepth 20000 in
theorem ggX5_goesOn_X5_isIn : GoodIn wsX5_goesOn wsX5_isIn := goodIn_r _ [8, 9, 10, 14, 15, 16, 17, 18, 19, 20, 21, 22, 23, 24, 25, 26, 27, 28, 29, 30, 31] (by decide +kernel) (by decide +kernel)
set_option maxRecDepth 20000 in
theorem gX5_goesOn_X5_isIn : GoodIn wsX5_goesOn (wsV RX5 86 RX5 yX5_isIn wsX5_isIn) := goodIn_app (goodIn_of _ (by decide +kernel)) ggX5_goesOn_X5_isIn
set_option maxRecDepth 20000 in
theorem ggX5_goesOn_X5_hash : GoodIn wsX5_goesOn wsX5_hash := goodIn_r _ [13] (by decide +kernel) (by decide +kernel)
set_option maxRecDepth 20000 in
theorem gX5_goesOn_X5_hash : GoodIn wsX5_goesOn (va_wsS RX5 71 yX5_hash wsX5_hash) := goodIn_app (goodIn_of _ (by decide +kernel)) ggX5_goesOn_X5_hash
theorem dX5_goesOn_0 : decode cX5_goesOn 0 = .ok (.aload_n 0, 1) := by decide +kernel
theorem dX5_goesOn_1 : decode cX5_goesOn 1 = .ok (.iload_n 1, 1) := by decide +kernel
theorem dX5_goesOn_2 : decode cX5_goesOn 2 = .ok (.iload_n 2, 1) := by decide +kernel
theorem dX5_goesOn_3 : decode cX5_goesOn 3 = .ok (.invokevirtual 86, 3) := by decide +kernel
theorem dX5_goesOn_6 : decode cX5_goesOn 6 = .ok (.ifCond .ne 43, 3) := by decide +kernel
theorem dX5_goesOn_9 : decode cX5_goesOn 9 = .ok (.iload_n 1, 1) := by decide +kernel
theorem dX5_goesOn_10 : decode cX5_goesOn 10 = .ok (.iconst 1, 1) := by decide +kernel
theorem dX5_goesOn_11 : decode cX5_goesOn 11 = .ok (.iadd, 1) := by decide +kernel
theorem dX5_goesOn_12 : decode cX5_goesOn 12 = .ok (.aload_n 0, 1) := by decide +kernel
theorem dX5_goesOn_13 : decode cX5_goesOn 13 = .ok (.getfield 53, 3) := by decide +kernel
theorem dX5_goesOn_16 : decode cX5_goesOn 16 = .ok (.if_icmp .ge 33, 3) := by decide +kernel
theorem dX5_goesOn_19 : decode cX5_goesOn 19 = .ok (.aload_n 0, 1) := by decide +kernel
theorem dX5_goesOn_20 : decode cX5_goesOn 20 = .ok (.getfield 44, 3) := by decide +kernel
theorem dX5_goesOn_23 : decode cX5_goesOn 23 = .ok (.iload_n 1, 1) := by decide +kernel
theorem dX5_goesOn_24 : decode cX5_goesOn 24 = .ok (.iconst 1, 1) := by decide +kernel
theorem dX5_goesOn_25 : decode cX5_goesOn 25 = .ok (.iadd, 1) := by decide +kernel
theorem dX5_goesOn_26 : decode cX5_goesOn 26 = .ok (.baload, 1) := by decide +kernel
theorem dX5_goesOn_27 : decode cX5_goesOn 27 = .ok (.ifCond .eq 22, 3) := by decide +kernel
theorem dX5_goesOn_30 : decode cX5_goesOn 30 = .ok (.aload_n 0, 1) := by decide +kernel
theorem dX5_goesOn_31 : decode cX5_goesOn 31 = .ok (.getfield 41, 3) := by decide +kernel
theorem dX5_goesOn_34 : decode cX5_goesOn 34 = .ok (.iload_n 1, 1) := by decide +kernel
theorem dX5_goesOn_35 : decode cX5_goesOn 35 = .ok (.iconst 1, 1) := by decide +kernel
theorem dX5_goesOn_36 : decode cX5_goesOn 36 = .ok (.iadd, 1) := by decide +kernel
theorem dX5_goesOn_37 : decode cX5_goesOn 37 = .ok (.iaload, 1) := by decide +kernel
theorem dX5_goesOn_38 : decode cX5_goesOn 38 = .ok (.iload_n 2, 1) := by decide +kernel
theorem dX5_goesOn_39 : decode cX5_goesOn 39 = .ok (.invokestatic 71, 3) := by decide +kernel
theorem dX5_goesOn_42 : decode cX5_goesOn 42 = .ok (.if_icmp .ne 7, 3) := by decide +kernel
theorem dX5_goesOn_45 : decode cX5_goesOn 45 = .ok (.iconst 1, 1) := by decide +kernel
theorem dX5_goesOn_46 : decode cX5_goesOn 46 = .ok (.goto 4, 3) := by decide +kernel
theorem dX5_goesOn_49 : decode cX5_goesOn 49 = .ok (.iconst 0, 1) := by decide +kernel
theorem dX5_goesOn_50 : decode cX5_goesOn 50 = .ok (.ireturn, 1) := by decide +kernel
set_option maxRecDepth 20000 in
theorem ggX5_takesOut_X5_begins : GoodIn wsX5_takesOut wsX5_begins := goodIn_r _ [8, 9, 10, 11, 12, 7, 13, 14, 15, 16, 17, 18, 27, 28, 29, 30, 31, 32, 33, 34, 35, 36, 37, 38, 39, 40, 41, 42, 43, 44] (by decide +kernel) (by decide +kernel)
set_option maxRecDepth 20000 in
theorem gX5_takesOut_X5_begins : GoodIn wsX5_takesOut (wsV RX5 89 RX5 yX5_begins wsX5_begins) := goodIn_app (goodIn_of _ (by decide +kernel)) ggX5_takesOut_X5_begins
set_option maxRecDepth 20000 in
theorem ggX5_takesOut_X5_goesOn : GoodIn wsX5_takesOut wsX5_goesOn := goodIn_r _ [22, 18, 9, 10, 23, 24, 25, 7, 26, 2, 1, 11, 12, 13, 27, 28, 29, 30, 31, 32, 33, 34, 35, 36, 37, 38, 39, 40, 41, 42, 43, 44] (by decide +kernel) (by decide +kernel)
set_option maxRecDepth 20000 in
theorem gX5_takesOut_X5_goesOn : GoodIn wsX5_takesOut (wsV RX5 92 RX5 yX5_goesOn wsX5_goesOn) := goodIn_app (goodIn_of _ (by decide +kernel)) ggX5_takesOut_X5_goesOn
theorem dX5_takesOut_0 : decode cX5_takesOut 0 = .ok (.aload_n 0, 1) := by decide +kernel
theorem dX5_takesOut_1 : decode cX5_takesOut 1 = .ok (.iload_n 1, 1) := by decide +kernel
theorem dX5_takesOut_2 : decode cX5_takesOut 2 = .ok (.invokevirtual 89, 3) := by decide +kernel
theorem dX5_takesOut_5 : decode cX5_takesOut 5 = .ok (.istore_n 2, 1) := by decide +kernel
theorem dX5_takesOut_6 : decode cX5_takesOut 6 = .ok (.aload_n 0, 1) := by decide +kernel
theorem dX5_takesOut_7 : decode cX5_takesOut 7 = .ok (.iload_n 2, 1) := by decide +kernel
theorem dX5_takesOut_8 : decode cX5_takesOut 8 = .ok (.iload_n 1, 1) := by decide +kernel
theorem dX5_takesOut_9 : decode cX5_takesOut 9 = .ok (.invokevirtual 92, 3) := by decide +kernel
theorem dX5_takesOut_12 : decode cX5_takesOut 12 = .ok (.ifCond .eq 9, 3) := by decide +kernel
theorem dX5_takesOut_15 : decode cX5_takesOut 15 = .ok (.iinc 2 1, 3) := by decide +kernel
theorem dX5_takesOut_18 : decode cX5_takesOut 18 = .ok (.goto (-12), 3) := by decide +kernel
theorem dX5_takesOut_21 : decode cX5_takesOut 21 = .ok (.iconst 0, 1) := by decide +kernel
theorem dX5_takesOut_22 : decode cX5_takesOut 22 = .ok (.istore_n 3, 1) := by decide +kernel
theorem dX5_takesOut_23 : decode cX5_takesOut 23 = .ok (.aload_n 0, 1) := by decide +kernel
theorem dX5_takesOut_24 : decode cX5_takesOut 24 = .ok (.getfield 47, 3) := by decide +kernel
theorem dX5_takesOut_27 : decode cX5_takesOut 27 = .ok (.iconst 4, 1) := by decide +kernel
theorem dX5_takesOut_28 : decode cX5_takesOut 28 = .ok (.iload_n 2, 1) := by decide +kernel
theorem dX5_takesOut_29 : decode cX5_takesOut 29 = .ok (.imul, 1) := by decide +kernel
theorem dX5_takesOut_30 : decode cX5_takesOut 30 = .ok (.iload_n 3, 1) := by decide +kernel
theorem dX5_takesOut_31 : decode cX5_takesOut 31 = .ok (.iadd, 1) := by decide +kernel
theorem dX5_takesOut_32 : decode cX5_takesOut 32 = .ok (.iaload, 1) := by decide +kernel
theorem dX5_takesOut_33 : decode cX5_takesOut 33 = .ok (.iload_n 1, 1) := by decide +kernel
theorem dX5_takesOut_34 : decode cX5_takesOut 34 = .ok (.if_icmp .eq 9, 3) := by decide +kernel
theorem dX5_takesOut_37 : decode cX5_takesOut 37 = .ok (.iinc 3 1, 3) := by decide +kernel
theorem dX5_takesOut_40 : decode cX5_takesOut 40 = .ok (.goto (-17), 3) := by decide +kernel
theorem dX5_takesOut_43 : decode cX5_takesOut 43 = .ok (.aload_n 0, 1) := by decide +kernel
theorem dX5_takesOut_44 : decode cX5_takesOut 44 = .ok (.getfield 50, 3) := by decide +kernel
theorem dX5_takesOut_47 : decode cX5_takesOut 47 = .ok (.iload_n 2, 1) := by decide +kernel
theorem dX5_takesOut_48 : decode cX5_takesOut 48 = .ok (.dup2, 1) := by decide +kernel
theorem dX5_takesOut_49 : decode cX5_takesOut 49 = .ok (.iaload, 1) := by decide +kernel
theorem dX5_takesOut_50 : decode cX5_takesOut 50 = .ok (.iconst 1, 1) := by decide +kernel
theorem dX5_takesOut_51 : decode cX5_takesOut 51 = .ok (.isub, 1) := by decide +kernel
theorem dX5_takesOut_52 : decode cX5_takesOut 52 = .ok (.iastore, 1) := by decide +kernel
theorem dX5_takesOut_53 : decode cX5_takesOut 53 = .ok (.aload_n 0, 1) := by decide +kernel
theorem dX5_takesOut_54 : decode cX5_takesOut 54 = .ok (.getfield 47, 3) := by decide +kernel
theorem dX5_takesOut_57 : decode cX5_takesOut 57 = .ok (.iconst 4, 1) := by decide +kernel
theorem dX5_takesOut_58 : decode cX5_takesOut 58 = .ok (.iload_n 2, 1) := by decide +kernel
theorem dX5_takesOut_59 : decode cX5_takesOut 59 = .ok (.imul, 1) := by decide +kernel
theorem dX5_takesOut_60 : decode cX5_takesOut 60 = .ok (.iload_n 3, 1) := by decide +kernel
theorem dX5_takesOut_61 : decode cX5_takesOut 61 = .ok (.iadd, 1) := by decide +kernel
theorem dX5_takesOut_62 : decode cX5_takesOut 62 = .ok (.aload_n 0, 1) := by decide +kernel
theorem dX5_takesOut_63 : decode cX5_takesOut 63 = .ok (.getfield 47, 3) := by decide +kernel
theorem dX5_takesOut_66 : decode cX5_takesOut 66 = .ok (.iconst 4, 1) := by decide +kernel
theorem dX5_takesOut_67 : decode cX5_takesOut 67 = .ok (.iload_n 2, 1) := by decide +kernel
theorem dX5_takesOut_68 : decode cX5_takesOut 68 = .ok (.imul, 1) := by decide +kernel
theorem dX5_takesOut_69 : decode cX5_takesOut 69 = .ok (.aload_n 0, 1) := by decide +kernel
theorem dX5_takesOut_70 : decode cX5_takesOut 70 = .ok (.getfield 50, 3) := by decide +kernel
theorem dX5_takesOut_73 : decode cX5_takesOut 73 = .ok (.iload_n 2, 1) := by decide +kernel
theorem dX5_takesOut_74 : decode cX5_takesOut 74 = .ok (.iaload, 1) := by decide +kernel
theorem dX5_takesOut_75 : decode cX5_takesOut 75 = .ok (.iadd, 1) := by decide +kernel
theorem dX5_takesOut_76 : decode cX5_takesOut 76 = .ok (.iaload, 1) := by decide +kernel
theorem dX5_takesOut_77 : decode cX5_takesOut 77 = .ok (.iastore, 1) := by decide +kernel
theorem dX5_takesOut_78 : decode cX5_takesOut 78 = .ok (.aload_n 0, 1) := by decide +kernel
theorem dX5_takesOut_79 : decode cX5_takesOut 79 = .ok (.getfield 38, 3) := by decide +kernel
theorem dX5_takesOut_82 : decode cX5_takesOut 82 = .ok (.iload_n 1, 1) := by decide +kernel
theorem dX5_takesOut_83 : decode cX5_takesOut 83 = .ok (.iconst 0, 1) := by decide +kernel
theorem dX5_takesOut_84 : decode cX5_takesOut 84 = .ok (.iastore, 1) := by decide +kernel
theorem dX5_takesOut_85 : decode cX5_takesOut 85 = .ok (.return_, 1) := by decide +kernel
set_option maxRecDepth 20000 in
theorem ggX5_crashes_X5_freesKept : GoodIn wsX5_crashes wsX5_freesKept := goodIn_r _ [9, 10, 11, 12, 13, 14, 15, 16, 17, 18, 19, 20, 21, 22, 23, 24, 25, 26, 27, 28, 29, 30] (by decide +kernel) (by decide +kernel)
set_option maxRecDepth 20000 in
theorem gX5_crashes_X5_freesKept : GoodIn wsX5_crashes (wsV RX5 95 RX5 yX5_freesKept wsX5_freesKept) := goodIn_app (goodIn_of _ (by decide +kernel)) ggX5_crashes_X5_freesKept
theorem dX5_crashes_0 : decode cX5_crashes 0 = .ok (.iconst 0, 1) := by decide +kernel
theorem dX5_crashes_1 : decode cX5_crashes 1 = .ok (.istore_n 1, 1) := by decide +kernel
theorem dX5_crashes_2 : decode cX5_crashes 2 = .ok (.iload_n 1, 1) := by decide +kernel
theorem dX5_crashes_3 : decode cX5_crashes 3 = .ok (.sipush 1024, 3) := by decide +kernel
theorem dX5_crashes_6 : decode cX5_crashes 6 = .ok (.if_icmp .ge 36, 3) := by decide +kernel
theorem dX5_crashes_9 : decode cX5_crashes 9 = .ok (.aload_n 0, 1) := by decide +kernel
theorem dX5_crashes_10 : decode cX5_crashes 10 = .ok (.getfield 16, 3) := by decide +kernel
theorem dX5_crashes_13 : decode cX5_crashes 13 = .ok (.iload_n 1, 1) := by decide +kernel
theorem dX5_crashes_14 : decode cX5_crashes 14 = .ok (.aload_n 0, 1) := by decide +kernel
theorem dX5_crashes_15 : decode cX5_crashes 15 = .ok (.getfield 16, 3) := by decide +kernel
theorem dX5_crashes_18 : decode cX5_crashes 18 = .ok (.iload_n 1, 1) := by decide +kernel
theorem dX5_crashes_19 : decode cX5_crashes 19 = .ok (.iaload, 1) := by decide +kernel
theorem dX5_crashes_20 : decode cX5_crashes 20 = .ok (.bipush (-2), 2) := by decide +kernel
theorem dX5_crashes_22 : decode cX5_crashes 22 = .ok (.if_icmp .ne 7, 3) := by decide +kernel
theorem dX5_crashes_25 : decode cX5_crashes 25 = .ok (.iconst (-1), 1) := by decide +kernel
theorem dX5_crashes_26 : decode cX5_crashes 26 = .ok (.goto 9, 3) := by decide +kernel
theorem dX5_crashes_29 : decode cX5_crashes 29 = .ok (.aload_n 0, 1) := by decide +kernel
theorem dX5_crashes_30 : decode cX5_crashes 30 = .ok (.getfield 16, 3) := by decide +kernel
theorem dX5_crashes_33 : decode cX5_crashes 33 = .ok (.iload_n 1, 1) := by decide +kernel
theorem dX5_crashes_34 : decode cX5_crashes 34 = .ok (.iaload, 1) := by decide +kernel
theorem dX5_crashes_35 : decode cX5_crashes 35 = .ok (.iastore, 1) := by decide +kernel
theorem dX5_crashes_36 : decode cX5_crashes 36 = .ok (.iinc 1 1, 3) := by decide +kernel
theorem dX5_crashes_39 : decode cX5_crashes 39 = .ok (.goto (-37), 3) := by decide +kernel
theorem dX5_crashes_42 : decode cX5_crashes 42 = .ok (.iconst 0, 1) := by decide +kernel
theorem dX5_crashes_43 : decode cX5_crashes 43 = .ok (.istore_n 1, 1) := by decide +kernel
theorem dX5_crashes_44 : decode cX5_crashes 44 = .ok (.iload_n 1, 1) := by decide +kernel
theorem dX5_crashes_45 : decode cX5_crashes 45 = .ok (.bipush 16, 2) := by decide +kernel
theorem dX5_crashes_47 : decode cX5_crashes 47 = .ok (.if_icmp .ge 21, 3) := by decide +kernel
theorem dX5_crashes_50 : decode cX5_crashes 50 = .ok (.aload_n 0, 1) := by decide +kernel
theorem dX5_crashes_51 : decode cX5_crashes 51 = .ok (.iload_n 1, 1) := by decide +kernel
theorem dX5_crashes_52 : decode cX5_crashes 52 = .ok (.invokevirtual 95, 3) := by decide +kernel
theorem dX5_crashes_55 : decode cX5_crashes 55 = .ok (.aload_n 0, 1) := by decide +kernel
theorem dX5_crashes_56 : decode cX5_crashes 56 = .ok (.getfield 20, 3) := by decide +kernel
theorem dX5_crashes_59 : decode cX5_crashes 59 = .ok (.iload_n 1, 1) := by decide +kernel
theorem dX5_crashes_60 : decode cX5_crashes 60 = .ok (.iconst 0, 1) := by decide +kernel
theorem dX5_crashes_61 : decode cX5_crashes 61 = .ok (.iastore, 1) := by decide +kernel
theorem dX5_crashes_62 : decode cX5_crashes 62 = .ok (.iinc 1 1, 3) := by decide +kernel
theorem dX5_crashes_65 : decode cX5_crashes 65 = .ok (.goto (-21), 3) := by decide +kernel
theorem dX5_crashes_68 : decode cX5_crashes 68 = .ok (.aload_n 0, 1) := by decide +kernel
theorem dX5_crashes_69 : decode cX5_crashes 69 = .ok (.iconst 1, 1) := by decide +kernel
theorem dX5_crashes_70 : decode cX5_crashes 70 = .ok (.putfield 98, 3) := by decide +kernel
theorem dX5_crashes_73 : decode cX5_crashes 73 = .ok (.aload_n 0, 1) := by decide +kernel
theorem dX5_crashes_74 : decode cX5_crashes 74 = .ok (.iconst 0, 1) := by decide +kernel
theorem dX5_crashes_75 : decode cX5_crashes 75 = .ok (.putfield 102, 3) := by decide +kernel
theorem dX5_crashes_78 : decode cX5_crashes 78 = .ok (.return_, 1) := by decide +kernel
theorem dX5_steps_0 : decode cX5_steps 0 = .ok (.bipush 63, 2) := by decide +kernel
theorem dX5_steps_2 : decode cX5_steps 2 = .ok (.istore_n 3, 1) := by decide +kernel
theorem dX5_steps_3 : decode cX5_steps 3 = .ok (.iload_n 3, 1) := by decide +kernel
theorem dX5_steps_4 : decode cX5_steps 4 = .ok (.iload_n 2, 1) := by decide +kernel
theorem dX5_steps_5 : decode cX5_steps 5 = .ok (.if_icmp .lt 23, 3) := by decide +kernel
theorem dX5_steps_8 : decode cX5_steps 8 = .ok (.aload_n 0, 1) := by decide +kernel
theorem dX5_steps_9 : decode cX5_steps 9 = .ok (.getfield 16, 3) := by decide +kernel
theorem dX5_steps_12 : decode cX5_steps 12 = .ok (.bipush 64, 2) := by decide +kernel
theorem dX5_steps_14 : decode cX5_steps 14 = .ok (.iload_n 1, 1) := by decide +kernel
theorem dX5_steps_15 : decode cX5_steps 15 = .ok (.imul, 1) := by decide +kernel
theorem dX5_steps_16 : decode cX5_steps 16 = .ok (.iload_n 3, 1) := by decide +kernel
theorem dX5_steps_17 : decode cX5_steps 17 = .ok (.iadd, 1) := by decide +kernel
theorem dX5_steps_18 : decode cX5_steps 18 = .ok (.iaload, 1) := by decide +kernel
theorem dX5_steps_19 : decode cX5_steps 19 = .ok (.ifCond .ge 9, 3) := by decide +kernel
theorem dX5_steps_22 : decode cX5_steps 22 = .ok (.iinc 3 (-1), 3) := by decide +kernel
theorem dX5_steps_25 : decode cX5_steps 25 = .ok (.goto (-22), 3) := by decide +kernel
theorem dX5_steps_28 : decode cX5_steps 28 = .ok (.iload_n 3, 1) := by decide +kernel
theorem dX5_steps_29 : decode cX5_steps 29 = .ok (.iload_n 2, 1) := by decide +kernel
theorem dX5_steps_30 : decode cX5_steps 30 = .ok (.if_icmp .ge 5, 3) := by decide +kernel
theorem dX5_steps_33 : decode cX5_steps 33 = .ok (.iconst 0, 1) := by decide +kernel
theorem dX5_steps_34 : decode cX5_steps 34 = .ok (.ireturn, 1) := by decide +kernel
theorem dX5_steps_35 : decode cX5_steps 35 = .ok (.aload_n 0, 1) := by decide +kernel
theorem dX5_steps_36 : decode cX5_steps 36 = .ok (.getfield 16, 3) := by decide +kernel
theorem dX5_steps_39 : decode cX5_steps 39 = .ok (.bipush 64, 2) := by decide +kernel
theorem dX5_steps_41 : decode cX5_steps 41 = .ok (.iload_n 1, 1) := by decide +kernel
theorem dX5_steps_42 : decode cX5_steps 42 = .ok (.imul, 1) := by decide +kernel
theorem dX5_steps_43 : decode cX5_steps 43 = .ok (.iload_n 3, 1) := by decide +kernel
theorem dX5_steps_44 : decode cX5_steps 44 = .ok (.iadd, 1) := by decide +kernel
theorem dX5_steps_45 : decode cX5_steps 45 = .ok (.iaload, 1) := by decide +kernel
theorem dX5_steps_46 : decode cX5_steps 46 = .ok (.istore 4, 2) := by decide +kernel
theorem dX5_steps_48 : decode cX5_steps 48 = .ok (.iconst 0, 1) := by decide +kernel
theorem dX5_steps_49 : decode cX5_steps 49 = .ok (.istore 5, 2) := by decide +kernel
theorem dX5_steps_51 : decode cX5_steps 51 = .ok (.iload 5, 2) := by decide +kernel
theorem dX5_steps_53 : decode cX5_steps 53 = .ok (.iconst 4, 1) := by decide +kernel
theorem dX5_steps_54 : decode cX5_steps 54 = .ok (.if_icmp .ge 73, 3) := by decide +kernel
theorem dX5_steps_57 : decode cX5_steps 57 = .ok (.iload_n 3, 1) := by decide +kernel
theorem dX5_steps_58 : decode cX5_steps 58 = .ok (.iload 5, 2) := by decide +kernel
theorem dX5_steps_60 : decode cX5_steps 60 = .ok (.isub, 1) := by decide +kernel
theorem dX5_steps_61 : decode cX5_steps 61 = .ok (.iload_n 2, 1) := by decide +kernel
theorem dX5_steps_62 : decode cX5_steps 62 = .ok (.if_icmp .lt 65, 3) := by decide +kernel
theorem dX5_steps_65 : decode cX5_steps 65 = .ok (.iload 4, 2) := by decide +kernel
theorem dX5_steps_67 : decode cX5_steps 67 = .ok (.iload 5, 2) := by decide +kernel
theorem dX5_steps_69 : decode cX5_steps 69 = .ok (.isub, 1) := by decide +kernel
theorem dX5_steps_70 : decode cX5_steps 70 = .ok (.ifCond .lt 57, 3) := by decide +kernel
theorem dX5_steps_73 : decode cX5_steps 73 = .ok (.aload_n 0, 1) := by decide +kernel
theorem dX5_steps_74 : decode cX5_steps 74 = .ok (.getfield 16, 3) := by decide +kernel
theorem dX5_steps_77 : decode cX5_steps 77 = .ok (.bipush 64, 2) := by decide +kernel
theorem dX5_steps_79 : decode cX5_steps 79 = .ok (.iload_n 1, 1) := by decide +kernel
theorem dX5_steps_80 : decode cX5_steps 80 = .ok (.imul, 1) := by decide +kernel
theorem dX5_steps_81 : decode cX5_steps 81 = .ok (.iload_n 3, 1) := by decide +kernel
theorem dX5_steps_82 : decode cX5_steps 82 = .ok (.iadd, 1) := by decide +kernel
theorem dX5_steps_83 : decode cX5_steps 83 = .ok (.iload 5, 2) := by decide +kernel
theorem dX5_steps_85 : decode cX5_steps 85 = .ok (.isub, 1) := by decide +kernel
theorem dX5_steps_86 : decode cX5_steps 86 = .ok (.iaload, 1) := by decide +kernel
theorem dX5_steps_87 : decode cX5_steps 87 = .ok (.iload 4, 2) := by decide +kernel
theorem dX5_steps_89 : decode cX5_steps 89 = .ok (.iload 5, 2) := by decide +kernel
theorem dX5_steps_91 : decode cX5_steps 91 = .ok (.isub, 1) := by decide +kernel
theorem dX5_steps_92 : decode cX5_steps 92 = .ok (.if_icmp .ne 35, 3) := by decide +kernel
theorem dX5_steps_95 : decode cX5_steps 95 = .ok (.aload_n 0, 1) := by decide +kernel
theorem dX5_steps_96 : decode cX5_steps 96 = .ok (.getfield 16, 3) := by decide +kernel
theorem dX5_steps_99 : decode cX5_steps 99 = .ok (.bipush 64, 2) := by decide +kernel
theorem dX5_steps_101 : decode cX5_steps 101 = .ok (.iload_n 1, 1) := by decide +kernel
theorem dX5_steps_102 : decode cX5_steps 102 = .ok (.imul, 1) := by decide +kernel
theorem dX5_steps_103 : decode cX5_steps 103 = .ok (.iload_n 3, 1) := by decide +kernel
theorem dX5_steps_104 : decode cX5_steps 104 = .ok (.iadd, 1) := by decide +kernel
theorem dX5_steps_105 : decode cX5_steps 105 = .ok (.iload 5, 2) := by decide +kernel
theorem dX5_steps_107 : decode cX5_steps 107 = .ok (.isub, 1) := by decide +kernel
theorem dX5_steps_108 : decode cX5_steps 108 = .ok (.iconst (-1), 1) := by decide +kernel
theorem dX5_steps_109 : decode cX5_steps 109 = .ok (.iastore, 1) := by decide +kernel
theorem dX5_steps_110 : decode cX5_steps 110 = .ok (.aload_n 0, 1) := by decide +kernel
theorem dX5_steps_111 : decode cX5_steps 111 = .ok (.getfield 7, 3) := by decide +kernel
theorem dX5_steps_114 : decode cX5_steps 114 = .ok (.iload 4, 2) := by decide +kernel
theorem dX5_steps_116 : decode cX5_steps 116 = .ok (.iload 5, 2) := by decide +kernel
theorem dX5_steps_118 : decode cX5_steps 118 = .ok (.isub, 1) := by decide +kernel
theorem dX5_steps_119 : decode cX5_steps 119 = .ok (.iconst 1, 1) := by decide +kernel
theorem dX5_steps_120 : decode cX5_steps 120 = .ok (.bastore, 1) := by decide +kernel
theorem dX5_steps_121 : decode cX5_steps 121 = .ok (.iinc 5 1, 3) := by decide +kernel
theorem dX5_steps_124 : decode cX5_steps 124 = .ok (.goto (-73), 3) := by decide +kernel
theorem dX5_steps_127 : decode cX5_steps 127 = .ok (.iconst 1, 1) := by decide +kernel
theorem dX5_steps_128 : decode cX5_steps 128 = .ok (.ireturn, 1) := by decide +kernel
set_option maxRecDepth 20000 in
theorem ggX5_cuts_X5_freesKept : GoodIn wsX5_cuts wsX5_freesKept := goodIn_r _ [8, 9, 10, 11, 22, 23, 24, 25, 26, 27, 28, 29, 30, 31, 32, 33, 34, 35, 36, 37, 38, 39] (by decide +kernel) (by decide +kernel)
set_option maxRecDepth 20000 in
theorem gX5_cuts_X5_freesKept : GoodIn wsX5_cuts (wsV RX5 95 RX5 yX5_freesKept wsX5_freesKept) := goodIn_app (goodIn_of _ (by decide +kernel)) ggX5_cuts_X5_freesKept
set_option maxRecDepth 20000 in
theorem ggX5_cuts_X5_steps : GoodIn wsX5_cuts wsX5_steps := goodIn_r _ [15, 1, 10, 22, 23, 24, 25, 26, 27, 28, 29, 30, 31, 32, 33, 34, 35, 36, 37, 38, 39] (by decide +kernel) (by decide +kernel)
set_option maxRecDepth 20000 in
theorem gX5_cuts_X5_steps : GoodIn wsX5_cuts (wsV RX5 105 RX5 yX5_steps wsX5_steps) := goodIn_app (goodIn_of _ (by decide +kernel)) ggX5_cuts_X5_steps
set_option maxRecDepth 20000 in
theorem ggX5_cuts_X5_crashes : GoodIn wsX5_cuts wsX5_crashes := goodIn_r _ [19, 1, 20, 21, 2, 4, 5, 6, 7, 8, 9, 10, 11, 22, 23, 24, 25, 26, 27, 28, 29, 30, 31, 32, 33, 34, 35, 36, 37, 38, 39] (by decide +kernel) (by decide +kernel)
set_option maxRecDepth 20000 in
theorem gX5_cuts_X5_crashes : GoodIn wsX5_cuts (wsV RX5 108 RX5 yX5_crashes wsX5_crashes) := goodIn_app (goodIn_of _ (by decide +kernel)) ggX5_cuts_X5_crashes
theorem dX5_cuts_0 : decode cX5_cuts 0 = .ok (.iload_n 2, 1) := by decide +kernel
theorem dX5_cuts_1 : decode cX5_cuts 1 = .ok (.istore_n 3, 1) := by decide +kernel
theorem dX5_cuts_2 : decode cX5_cuts 2 = .ok (.iload_n 3, 1) := by decide +kernel
theorem dX5_cuts_3 : decode cX5_cuts 3 = .ok (.bipush 64, 2) := by decide +kernel
theorem dX5_cuts_5 : decode cX5_cuts 5 = .ok (.if_icmp .ge 51, 3) := by decide +kernel
theorem dX5_cuts_8 : decode cX5_cuts 8 = .ok (.aload_n 0, 1) := by decide +kernel
theorem dX5_cuts_9 : decode cX5_cuts 9 = .ok (.getfield 16, 3) := by decide +kernel
theorem dX5_cuts_12 : decode cX5_cuts 12 = .ok (.bipush 64, 2) := by decide +kernel
theorem dX5_cuts_14 : decode cX5_cuts 14 = .ok (.iload_n 1, 1) := by decide +kernel
theorem dX5_cuts_15 : decode cX5_cuts 15 = .ok (.imul, 1) := by decide +kernel
theorem dX5_cuts_16 : decode cX5_cuts 16 = .ok (.iload_n 3, 1) := by decide +kernel
theorem dX5_cuts_17 : decode cX5_cuts 17 = .ok (.iadd, 1) := by decide +kernel
theorem dX5_cuts_18 : decode cX5_cuts 18 = .ok (.aload_n 0, 1) := by decide +kernel
theorem dX5_cuts_19 : decode cX5_cuts 19 = .ok (.getfield 16, 3) := by decide +kernel
theorem dX5_cuts_22 : decode cX5_cuts 22 = .ok (.bipush 64, 2) := by decide +kernel
theorem dX5_cuts_24 : decode cX5_cuts 24 = .ok (.iload_n 1, 1) := by decide +kernel
theorem dX5_cuts_25 : decode cX5_cuts 25 = .ok (.imul, 1) := by decide +kernel
theorem dX5_cuts_26 : decode cX5_cuts 26 = .ok (.iload_n 3, 1) := by decide +kernel
theorem dX5_cuts_27 : decode cX5_cuts 27 = .ok (.iadd, 1) := by decide +kernel
theorem dX5_cuts_28 : decode cX5_cuts 28 = .ok (.iaload, 1) := by decide +kernel
theorem dX5_cuts_29 : decode cX5_cuts 29 = .ok (.bipush (-2), 2) := by decide +kernel
theorem dX5_cuts_31 : decode cX5_cuts 31 = .ok (.if_icmp .ne 7, 3) := by decide +kernel
theorem dX5_cuts_34 : decode cX5_cuts 34 = .ok (.iconst (-1), 1) := by decide +kernel
theorem dX5_cuts_35 : decode cX5_cuts 35 = .ok (.goto 14, 3) := by decide +kernel
theorem dX5_cuts_38 : decode cX5_cuts 38 = .ok (.aload_n 0, 1) := by decide +kernel
theorem dX5_cuts_39 : decode cX5_cuts 39 = .ok (.getfield 16, 3) := by decide +kernel
theorem dX5_cuts_42 : decode cX5_cuts 42 = .ok (.bipush 64, 2) := by decide +kernel
theorem dX5_cuts_44 : decode cX5_cuts 44 = .ok (.iload_n 1, 1) := by decide +kernel
theorem dX5_cuts_45 : decode cX5_cuts 45 = .ok (.imul, 1) := by decide +kernel
theorem dX5_cuts_46 : decode cX5_cuts 46 = .ok (.iload_n 3, 1) := by decide +kernel
theorem dX5_cuts_47 : decode cX5_cuts 47 = .ok (.iadd, 1) := by decide +kernel
theorem dX5_cuts_48 : decode cX5_cuts 48 = .ok (.iaload, 1) := by decide +kernel
theorem dX5_cuts_49 : decode cX5_cuts 49 = .ok (.iastore, 1) := by decide +kernel
theorem dX5_cuts_50 : decode cX5_cuts 50 = .ok (.iinc 3 1, 3) := by decide +kernel
theorem dX5_cuts_53 : decode cX5_cuts 53 = .ok (.goto (-51), 3) := by decide +kernel
theorem dX5_cuts_56 : decode cX5_cuts 56 = .ok (.aload_n 0, 1) := by decide +kernel
theorem dX5_cuts_57 : decode cX5_cuts 57 = .ok (.iload_n 1, 1) := by decide +kernel
theorem dX5_cuts_58 : decode cX5_cuts 58 = .ok (.invokevirtual 95, 3) := by decide +kernel
theorem dX5_cuts_61 : decode cX5_cuts 61 = .ok (.iconst 0, 1) := by decide +kernel
theorem dX5_cuts_62 : decode cX5_cuts 62 = .ok (.istore_n 3, 1) := by decide +kernel
theorem dX5_cuts_63 : decode cX5_cuts 63 = .ok (.aload_n 0, 1) := by decide +kernel
theorem dX5_cuts_64 : decode cX5_cuts 64 = .ok (.iload_n 1, 1) := by decide +kernel
theorem dX5_cuts_65 : decode cX5_cuts 65 = .ok (.iload_n 2, 1) := by decide +kernel
theorem dX5_cuts_66 : decode cX5_cuts 66 = .ok (.invokevirtual 105, 3) := by decide +kernel
theorem dX5_cuts_69 : decode cX5_cuts 69 = .ok (.ifCond .eq 36, 3) := by decide +kernel
theorem dX5_cuts_72 : decode cX5_cuts 72 = .ok (.iinc 3 1, 3) := by decide +kernel
theorem dX5_cuts_75 : decode cX5_cuts 75 = .ok (.aload_n 0, 1) := by decide +kernel
theorem dX5_cuts_76 : decode cX5_cuts 76 = .ok (.getfield 102, 3) := by decide +kernel
theorem dX5_cuts_79 : decode cX5_cuts 79 = .ok (.ifCond .le (-16), 3) := by decide +kernel
theorem dX5_cuts_82 : decode cX5_cuts 82 = .ok (.aload_n 0, 1) := by decide +kernel
theorem dX5_cuts_83 : decode cX5_cuts 83 = .ok (.dup, 1) := by decide +kernel
theorem dX5_cuts_84 : decode cX5_cuts 84 = .ok (.getfield 102, 3) := by decide +kernel
theorem dX5_cuts_87 : decode cX5_cuts 87 = .ok (.iconst 1, 1) := by decide +kernel
theorem dX5_cuts_88 : decode cX5_cuts 88 = .ok (.isub, 1) := by decide +kernel
theorem dX5_cuts_89 : decode cX5_cuts 89 = .ok (.putfield 102, 3) := by decide +kernel
theorem dX5_cuts_92 : decode cX5_cuts 92 = .ok (.aload_n 0, 1) := by decide +kernel
theorem dX5_cuts_93 : decode cX5_cuts 93 = .ok (.getfield 102, 3) := by decide +kernel
theorem dX5_cuts_96 : decode cX5_cuts 96 = .ok (.ifCond .ne (-33), 3) := by decide +kernel
theorem dX5_cuts_99 : decode cX5_cuts 99 = .ok (.aload_n 0, 1) := by decide +kernel
theorem dX5_cuts_100 : decode cX5_cuts 100 = .ok (.invokevirtual 108, 3) := by decide +kernel
theorem dX5_cuts_103 : decode cX5_cuts 103 = .ok (.iconst (-1), 1) := by decide +kernel
theorem dX5_cuts_104 : decode cX5_cuts 104 = .ok (.ireturn, 1) := by decide +kernel
theorem dX5_cuts_105 : decode cX5_cuts 105 = .ok (.aload_n 0, 1) := by decide +kernel
theorem dX5_cuts_106 : decode cX5_cuts 106 = .ok (.getfield 32, 3) := by decide +kernel
theorem dX5_cuts_109 : decode cX5_cuts 109 = .ok (.iload_n 1, 1) := by decide +kernel
theorem dX5_cuts_110 : decode cX5_cuts 110 = .ok (.iconst (-1), 1) := by decide +kernel
theorem dX5_cuts_111 : decode cX5_cuts 111 = .ok (.iastore, 1) := by decide +kernel
theorem dX5_cuts_112 : decode cX5_cuts 112 = .ok (.iload_n 3, 1) := by decide +kernel
theorem dX5_cuts_113 : decode cX5_cuts 113 = .ok (.ireturn, 1) := by decide +kernel
set_option maxRecDepth 20000 in
theorem ggX5_ends_X5_cuts : GoodIn wsX5_ends wsX5_cuts := goodIn_r _ [7, 8, 9, 10, 11, 12, 13, 6, 14, 15, 16, 17, 18, 19, 20, 21, 22, 23, 24, 25, 26, 27, 28, 29, 30, 31, 32, 33, 34, 35, 36, 37, 38, 39, 40, 41, 42, 43, 44, 45] (by decide +kernel) (by decide +kernel)
set_option maxRecDepth 20000 in
theorem gX5_ends_X5_cuts : GoodIn wsX5_ends (wsV RX5 111 RX5 yX5_cuts wsX5_cuts) := goodIn_app (goodIn_of _ (by decide +kernel)) ggX5_ends_X5_cuts
theorem dX5_ends_0 : decode cX5_ends 0 = .ok (.aload_n 0, 1) := by decide +kernel
theorem dX5_ends_1 : decode cX5_ends 1 = .ok (.iload_n 1, 1) := by decide +kernel
theorem dX5_ends_2 : decode cX5_ends 2 = .ok (.iconst 0, 1) := by decide +kernel
theorem dX5_ends_3 : decode cX5_ends 3 = .ok (.invokevirtual 111, 3) := by decide +kernel
theorem dX5_ends_6 : decode cX5_ends 6 = .ok (.iconst (-1), 1) := by decide +kernel
theorem dX5_ends_7 : decode cX5_ends 7 = .ok (.if_icmp .ne 5, 3) := by decide +kernel
theorem dX5_ends_10 : decode cX5_ends 10 = .ok (.iconst 0, 1) := by decide +kernel
theorem dX5_ends_11 : decode cX5_ends 11 = .ok (.ireturn, 1) := by decide +kernel
theorem dX5_ends_12 : decode cX5_ends 12 = .ok (.aload_n 0, 1) := by decide +kernel
theorem dX5_ends_13 : decode cX5_ends 13 = .ok (.getfield 13, 3) := by decide +kernel
theorem dX5_ends_16 : decode cX5_ends 16 = .ok (.iload_n 1, 1) := by decide +kernel
theorem dX5_ends_17 : decode cX5_ends 17 = .ok (.iconst 0, 1) := by decide +kernel
theorem dX5_ends_18 : decode cX5_ends 18 = .ok (.bastore, 1) := by decide +kernel
theorem dX5_ends_19 : decode cX5_ends 19 = .ok (.aload_n 0, 1) := by decide +kernel
theorem dX5_ends_20 : decode cX5_ends 20 = .ok (.getfield 35, 3) := by decide +kernel
theorem dX5_ends_23 : decode cX5_ends 23 = .ok (.iload_n 1, 1) := by decide +kernel
theorem dX5_ends_24 : decode cX5_ends 24 = .ok (.iconst 0, 1) := by decide +kernel
theorem dX5_ends_25 : decode cX5_ends 25 = .ok (.bastore, 1) := by decide +kernel
theorem dX5_ends_26 : decode cX5_ends 26 = .ok (.iconst 1, 1) := by decide +kernel
theorem dX5_ends_27 : decode cX5_ends 27 = .ok (.ireturn, 1) := by decide +kernel
set_option maxRecDepth 20000 in
theorem ggX5_create_X5_isName : GoodIn wsX5_create wsX5_isName := goodIn_r _ [7, 8, 9, 6, 10] (by decide +kernel) (by decide +kernel)
set_option maxRecDepth 20000 in
theorem gX5_create_X5_isName : GoodIn wsX5_create (va_wsS RX5 115 yX5_isName wsX5_isName) := goodIn_app (goodIn_of _ (by decide +kernel)) ggX5_create_X5_isName
set_option maxRecDepth 20000 in
theorem ggX5_create_X5_asked_ : GoodIn wsX5_create wsX5_asked_ := goodIn_r _ [14, 15, 39, 40, 41, 42, 43, 44, 45, 46, 47, 48, 49, 50, 51, 52, 53, 54, 55, 56] (by decide +kernel) (by decide +kernel)
set_option maxRecDepth 20000 in
theorem gX5_create_X5_asked_ : GoodIn wsX5_create (wsV RX5 119 RX5 yX5_asked_ wsX5_asked_) := goodIn_app (goodIn_of _ (by decide +kernel)) ggX5_create_X5_asked_
set_option maxRecDepth 20000 in
theorem ggX5_create_X5_addsName : GoodIn wsX5_create wsX5_addsName := goodIn_r _ [19, 20, 21, 22, 23, 6, 24, 25, 26, 27, 28, 29, 30, 31, 32, 33, 34, 35, 36, 37, 38, 39, 40, 41, 42, 43, 44, 45, 46, 47, 48, 49, 50, 51, 52, 53, 54, 55, 56] (by decide +kernel) (by decide +kernel)
set_option maxRecDepth 20000 in
theorem gX5_create_X5_addsName : GoodIn wsX5_create (wsV RX5 123 RX5 yX5_addsName wsX5_addsName) := goodIn_app (goodIn_of _ (by decide +kernel)) ggX5_create_X5_addsName
theorem dX5_create_0 : decode cX5_create 0 = .ok (.iload_n 1, 1) := by decide +kernel
theorem dX5_create_1 : decode cX5_create 1 = .ok (.invokestatic 115, 3) := by decide +kernel
theorem dX5_create_4 : decode cX5_create 4 = .ok (.istore_n 2, 1) := by decide +kernel
theorem dX5_create_5 : decode cX5_create 5 = .ok (.iconst 0, 1) := by decide +kernel
theorem dX5_create_6 : decode cX5_create 6 = .ok (.istore_n 3, 1) := by decide +kernel
theorem dX5_create_7 : decode cX5_create 7 = .ok (.iload_n 3, 1) := by decide +kernel
theorem dX5_create_8 : decode cX5_create 8 = .ok (.bipush 16, 2) := by decide +kernel
theorem dX5_create_10 : decode cX5_create 10 = .ok (.if_icmp .ge 18, 3) := by decide +kernel
theorem dX5_create_13 : decode cX5_create 13 = .ok (.aload_n 0, 1) := by decide +kernel
theorem dX5_create_14 : decode cX5_create 14 = .ok (.getfield 13, 3) := by decide +kernel
theorem dX5_create_17 : decode cX5_create 17 = .ok (.iload_n 3, 1) := by decide +kernel
theorem dX5_create_18 : decode cX5_create 18 = .ok (.baload, 1) := by decide +kernel
theorem dX5_create_19 : decode cX5_create 19 = .ok (.ifCond .eq 9, 3) := by decide +kernel
theorem dX5_create_22 : decode cX5_create 22 = .ok (.iinc 3 1, 3) := by decide +kernel
theorem dX5_create_25 : decode cX5_create 25 = .ok (.goto (-18), 3) := by decide +kernel
theorem dX5_create_28 : decode cX5_create 28 = .ok (.aload_n 0, 1) := by decide +kernel
theorem dX5_create_29 : decode cX5_create 29 = .ok (.iload_n 2, 1) := by decide +kernel
theorem dX5_create_30 : decode cX5_create 30 = .ok (.iload_n 2, 1) := by decide +kernel
theorem dX5_create_31 : decode cX5_create 31 = .ok (.ifCond .eq 29, 3) := by decide +kernel
theorem dX5_create_34 : decode cX5_create 34 = .ok (.aload_n 0, 1) := by decide +kernel
theorem dX5_create_35 : decode cX5_create 35 = .ok (.getfield 98, 3) := by decide +kernel
theorem dX5_create_38 : decode cX5_create 38 = .ok (.ifCond .ne 22, 3) := by decide +kernel
theorem dX5_create_41 : decode cX5_create 41 = .ok (.aload_n 0, 1) := by decide +kernel
theorem dX5_create_42 : decode cX5_create 42 = .ok (.getfield 38, 3) := by decide +kernel
theorem dX5_create_45 : decode cX5_create 45 = .ok (.iload_n 1, 1) := by decide +kernel
theorem dX5_create_46 : decode cX5_create 46 = .ok (.iaload, 1) := by decide +kernel
theorem dX5_create_47 : decode cX5_create 47 = .ok (.ifCond .ne 13, 3) := by decide +kernel
theorem dX5_create_50 : decode cX5_create 50 = .ok (.iload_n 3, 1) := by decide +kernel
theorem dX5_create_51 : decode cX5_create 51 = .ok (.bipush 16, 2) := by decide +kernel
theorem dX5_create_53 : decode cX5_create 53 = .ok (.if_icmp .ge 7, 3) := by decide +kernel
theorem dX5_create_56 : decode cX5_create 56 = .ok (.iconst 1, 1) := by decide +kernel
theorem dX5_create_57 : decode cX5_create 57 = .ok (.goto 4, 3) := by decide +kernel
theorem dX5_create_60 : decode cX5_create 60 = .ok (.iconst 0, 1) := by decide +kernel
theorem dX5_create_61 : decode cX5_create 61 = .ok (.invokevirtual 119, 3) := by decide +kernel
theorem dX5_create_64 : decode cX5_create 64 = .ok (.ifCond .ne 5, 3) := by decide +kernel
theorem dX5_create_67 : decode cX5_create 67 = .ok (.iconst 0, 1) := by decide +kernel
theorem dX5_create_68 : decode cX5_create 68 = .ok (.ireturn, 1) := by decide +kernel
theorem dX5_create_69 : decode cX5_create 69 = .ok (.aload_n 0, 1) := by decide +kernel
theorem dX5_create_70 : decode cX5_create 70 = .ok (.getfield 13, 3) := by decide +kernel
theorem dX5_create_73 : decode cX5_create 73 = .ok (.iload_n 3, 1) := by decide +kernel
theorem dX5_create_74 : decode cX5_create 74 = .ok (.iconst 1, 1) := by decide +kernel
theorem dX5_create_75 : decode cX5_create 75 = .ok (.bastore, 1) := by decide +kernel
theorem dX5_create_76 : decode cX5_create 76 = .ok (.aload_n 0, 1) := by decide +kernel
theorem dX5_create_77 : decode cX5_create 77 = .ok (.getfield 38, 3) := by decide +kernel
theorem dX5_create_80 : decode cX5_create 80 = .ok (.iload_n 1, 1) := by decide +kernel
theorem dX5_create_81 : decode cX5_create 81 = .ok (.iload_n 3, 1) := by decide +kernel
theorem dX5_create_82 : decode cX5_create 82 = .ok (.iconst 1, 1) := by decide +kernel
theorem dX5_create_83 : decode cX5_create 83 = .ok (.iadd, 1) := by decide +kernel
theorem dX5_create_84 : decode cX5_create 84 = .ok (.iastore, 1) := by decide +kernel
theorem dX5_create_85 : decode cX5_create 85 = .ok (.aload_n 0, 1) := by decide +kernel
theorem dX5_create_86 : decode cX5_create 86 = .ok (.iload_n 1, 1) := by decide +kernel
theorem dX5_create_87 : decode cX5_create 87 = .ok (.invokevirtual 123, 3) := by decide +kernel
theorem dX5_create_90 : decode cX5_create 90 = .ok (.iload_n 3, 1) := by decide +kernel
theorem dX5_create_91 : decode cX5_create 91 = .ok (.ireturn, 1) := by decide +kernel
set_option maxRecDepth 20000 in
theorem ggX5_open_X5_isName : GoodIn wsX5_open wsX5_isName := goodIn_r _ [7, 8, 9, 6, 10] (by decide +kernel) (by decide +kernel)
set_option maxRecDepth 20000 in
theorem gX5_open_X5_isName : GoodIn wsX5_open (va_wsS RX5 115 yX5_isName wsX5_isName) := goodIn_app (goodIn_of _ (by decide +kernel)) ggX5_open_X5_isName
set_option maxRecDepth 20000 in
theorem ggX5_open_X5_asked_ : GoodIn wsX5_open wsX5_asked_ := goodIn_r _ [14, 15, 16, 17, 18, 19, 20, 21, 22, 23, 24, 25, 26, 27, 28, 29, 30, 31, 32, 33] (by decide +kernel) (by decide +kernel)
set_option maxRecDepth 20000 in
theorem gX5_open_X5_asked_ : GoodIn wsX5_open (wsV RX5 119 RX5 yX5_asked_ wsX5_asked_) := goodIn_app (goodIn_of _ (by decide +kernel)) ggX5_open_X5_asked_
theorem dX5_open_0 : decode cX5_open 0 = .ok (.iload_n 1, 1) := by decide +kernel
theorem dX5_open_1 : decode cX5_open 1 = .ok (.invokestatic 115, 3) := by decide +kernel
theorem dX5_open_4 : decode cX5_open 4 = .ok (.istore_n 2, 1) := by decide +kernel
theorem dX5_open_5 : decode cX5_open 5 = .ok (.aload_n 0, 1) := by decide +kernel
theorem dX5_open_6 : decode cX5_open 6 = .ok (.iload_n 2, 1) := by decide +kernel
theorem dX5_open_7 : decode cX5_open 7 = .ok (.iload_n 2, 1) := by decide +kernel
theorem dX5_open_8 : decode cX5_open 8 = .ok (.ifCond .eq 23, 3) := by decide +kernel
theorem dX5_open_11 : decode cX5_open 11 = .ok (.aload_n 0, 1) := by decide +kernel
theorem dX5_open_12 : decode cX5_open 12 = .ok (.getfield 98, 3) := by decide +kernel
theorem dX5_open_15 : decode cX5_open 15 = .ok (.ifCond .ne 16, 3) := by decide +kernel
theorem dX5_open_18 : decode cX5_open 18 = .ok (.aload_n 0, 1) := by decide +kernel
theorem dX5_open_19 : decode cX5_open 19 = .ok (.getfield 38, 3) := by decide +kernel
theorem dX5_open_22 : decode cX5_open 22 = .ok (.iload_n 1, 1) := by decide +kernel
theorem dX5_open_23 : decode cX5_open 23 = .ok (.iaload, 1) := by decide +kernel
theorem dX5_open_24 : decode cX5_open 24 = .ok (.ifCond .le 7, 3) := by decide +kernel
theorem dX5_open_27 : decode cX5_open 27 = .ok (.iconst 1, 1) := by decide +kernel
theorem dX5_open_28 : decode cX5_open 28 = .ok (.goto 4, 3) := by decide +kernel
theorem dX5_open_31 : decode cX5_open 31 = .ok (.iconst 0, 1) := by decide +kernel
theorem dX5_open_32 : decode cX5_open 32 = .ok (.invokevirtual 119, 3) := by decide +kernel
theorem dX5_open_35 : decode cX5_open 35 = .ok (.ifCond .ne 5, 3) := by decide +kernel
theorem dX5_open_38 : decode cX5_open 38 = .ok (.iconst 0, 1) := by decide +kernel
theorem dX5_open_39 : decode cX5_open 39 = .ok (.ireturn, 1) := by decide +kernel
theorem dX5_open_40 : decode cX5_open 40 = .ok (.aload_n 0, 1) := by decide +kernel
theorem dX5_open_41 : decode cX5_open 41 = .ok (.getfield 20, 3) := by decide +kernel
theorem dX5_open_44 : decode cX5_open 44 = .ok (.aload_n 0, 1) := by decide +kernel
theorem dX5_open_45 : decode cX5_open 45 = .ok (.getfield 38, 3) := by decide +kernel
theorem dX5_open_48 : decode cX5_open 48 = .ok (.iload_n 1, 1) := by decide +kernel
theorem dX5_open_49 : decode cX5_open 49 = .ok (.iaload, 1) := by decide +kernel
theorem dX5_open_50 : decode cX5_open 50 = .ok (.iconst 1, 1) := by decide +kernel
theorem dX5_open_51 : decode cX5_open 51 = .ok (.isub, 1) := by decide +kernel
theorem dX5_open_52 : decode cX5_open 52 = .ok (.dup2, 1) := by decide +kernel
theorem dX5_open_53 : decode cX5_open 53 = .ok (.iaload, 1) := by decide +kernel
theorem dX5_open_54 : decode cX5_open 54 = .ok (.iconst 1, 1) := by decide +kernel
theorem dX5_open_55 : decode cX5_open 55 = .ok (.iadd, 1) := by decide +kernel
theorem dX5_open_56 : decode cX5_open 56 = .ok (.iastore, 1) := by decide +kernel
theorem dX5_open_57 : decode cX5_open 57 = .ok (.aload_n 0, 1) := by decide +kernel
theorem dX5_open_58 : decode cX5_open 58 = .ok (.getfield 38, 3) := by decide +kernel
theorem dX5_open_61 : decode cX5_open 61 = .ok (.iload_n 1, 1) := by decide +kernel
theorem dX5_open_62 : decode cX5_open 62 = .ok (.iaload, 1) := by decide +kernel
theorem dX5_open_63 : decode cX5_open 63 = .ok (.iconst 1, 1) := by decide +kernel
theorem dX5_open_64 : decode cX5_open 64 = .ok (.isub, 1) := by decide +kernel
theorem dX5_open_65 : decode cX5_open 65 = .ok (.ireturn, 1) := by decide +kernel
set_option maxRecDepth 20000 in
theorem ggX5_close_X5_isThere : GoodIn wsX5_close wsX5_isThere := goodIn_r _ [8, 9, 10, 11, 7, 12, 44, 45, 46, 47, 48, 49, 50, 51, 52, 53, 54, 55, 56, 57, 58, 59, 60, 61] (by decide +kernel) (by decide +kernel)
set_option maxRecDepth 20000 in
theorem gX5_close_X5_isThere : GoodIn wsX5_close (wsV RX5 126 RX5 yX5_isThere wsX5_isThere) := goodIn_app (goodIn_of _ (by decide +kernel)) ggX5_close_X5_isThere
set_option maxRecDepth 20000 in
theorem ggX5_close_X5_asked_ : GoodIn wsX5_close wsX5_asked_ := goodIn_r _ [16, 17, 44, 45, 46, 47, 48, 49, 50, 51, 52, 53, 54, 55, 56, 57, 58, 59, 60, 61] (by decide +kernel) (by decide +kernel)
set_option maxRecDepth 20000 in
theorem gX5_close_X5_asked_ : GoodIn wsX5_close (wsV RX5 119 RX5 yX5_asked_ wsX5_asked_) := goodIn_app (goodIn_of _ (by decide +kernel)) ggX5_close_X5_asked_
set_option maxRecDepth 20000 in
theorem ggX5_close_X5_ends : GoodIn wsX5_close wsX5_ends := goodIn_r _ [21, 9, 3, 22, 23, 24, 7, 25, 26, 27, 28, 29, 30, 31, 32, 33, 34, 35, 36, 37, 38, 39, 40, 41, 42, 43, 2, 1, 44, 45, 46, 47, 48, 49, 50, 51, 52, 53, 54, 55, 56, 57, 58, 59, 60, 61] (by decide +kernel) (by decide +kernel)
set_option maxRecDepth 20000 in
theorem gX5_close_X5_ends : GoodIn wsX5_close (wsV RX5 129 RX5 yX5_ends wsX5_ends) := goodIn_app (goodIn_of _ (by decide +kernel)) ggX5_close_X5_ends
theorem dX5_close_0 : decode cX5_close 0 = .ok (.aload_n 0, 1) := by decide +kernel
theorem dX5_close_1 : decode cX5_close 1 = .ok (.iload_n 1, 1) := by decide +kernel
theorem dX5_close_2 : decode cX5_close 2 = .ok (.invokevirtual 126, 3) := by decide +kernel
theorem dX5_close_5 : decode cX5_close 5 = .ok (.istore_n 2, 1) := by decide +kernel
theorem dX5_close_6 : decode cX5_close 6 = .ok (.aload_n 0, 1) := by decide +kernel
theorem dX5_close_7 : decode cX5_close 7 = .ok (.iload_n 2, 1) := by decide +kernel
theorem dX5_close_8 : decode cX5_close 8 = .ok (.iload_n 2, 1) := by decide +kernel
theorem dX5_close_9 : decode cX5_close 9 = .ok (.ifCond .eq 23, 3) := by decide +kernel
theorem dX5_close_12 : decode cX5_close 12 = .ok (.aload_n 0, 1) := by decide +kernel
theorem dX5_close_13 : decode cX5_close 13 = .ok (.getfield 98, 3) := by decide +kernel
theorem dX5_close_16 : decode cX5_close 16 = .ok (.ifCond .ne 16, 3) := by decide +kernel
theorem dX5_close_19 : decode cX5_close 19 = .ok (.aload_n 0, 1) := by decide +kernel
theorem dX5_close_20 : decode cX5_close 20 = .ok (.getfield 20, 3) := by decide +kernel
theorem dX5_close_23 : decode cX5_close 23 = .ok (.iload_n 1, 1) := by decide +kernel
theorem dX5_close_24 : decode cX5_close 24 = .ok (.iaload, 1) := by decide +kernel
theorem dX5_close_25 : decode cX5_close 25 = .ok (.ifCond .le 7, 3) := by decide +kernel
theorem dX5_close_28 : decode cX5_close 28 = .ok (.iconst 1, 1) := by decide +kernel
theorem dX5_close_29 : decode cX5_close 29 = .ok (.goto 4, 3) := by decide +kernel
theorem dX5_close_32 : decode cX5_close 32 = .ok (.iconst 0, 1) := by decide +kernel
theorem dX5_close_33 : decode cX5_close 33 = .ok (.invokevirtual 119, 3) := by decide +kernel
theorem dX5_close_36 : decode cX5_close 36 = .ok (.ifCond .ne 5, 3) := by decide +kernel
theorem dX5_close_39 : decode cX5_close 39 = .ok (.iconst 0, 1) := by decide +kernel
theorem dX5_close_40 : decode cX5_close 40 = .ok (.ireturn, 1) := by decide +kernel
theorem dX5_close_41 : decode cX5_close 41 = .ok (.aload_n 0, 1) := by decide +kernel
theorem dX5_close_42 : decode cX5_close 42 = .ok (.getfield 20, 3) := by decide +kernel
theorem dX5_close_45 : decode cX5_close 45 = .ok (.iload_n 1, 1) := by decide +kernel
theorem dX5_close_46 : decode cX5_close 46 = .ok (.dup2, 1) := by decide +kernel
theorem dX5_close_47 : decode cX5_close 47 = .ok (.iaload, 1) := by decide +kernel
theorem dX5_close_48 : decode cX5_close 48 = .ok (.iconst 1, 1) := by decide +kernel
theorem dX5_close_49 : decode cX5_close 49 = .ok (.isub, 1) := by decide +kernel
theorem dX5_close_50 : decode cX5_close 50 = .ok (.iastore, 1) := by decide +kernel
theorem dX5_close_51 : decode cX5_close 51 = .ok (.aload_n 0, 1) := by decide +kernel
theorem dX5_close_52 : decode cX5_close 52 = .ok (.getfield 20, 3) := by decide +kernel
theorem dX5_close_55 : decode cX5_close 55 = .ok (.iload_n 1, 1) := by decide +kernel
theorem dX5_close_56 : decode cX5_close 56 = .ok (.iaload, 1) := by decide +kernel
theorem dX5_close_57 : decode cX5_close 57 = .ok (.ifCond .ne 22, 3) := by decide +kernel
theorem dX5_close_60 : decode cX5_close 60 = .ok (.aload_n 0, 1) := by decide +kernel
theorem dX5_close_61 : decode cX5_close 61 = .ok (.getfield 35, 3) := by decide +kernel
theorem dX5_close_64 : decode cX5_close 64 = .ok (.iload_n 1, 1) := by decide +kernel
theorem dX5_close_65 : decode cX5_close 65 = .ok (.baload, 1) := by decide +kernel
theorem dX5_close_66 : decode cX5_close 66 = .ok (.ifCond .eq 13, 3) := by decide +kernel
theorem dX5_close_69 : decode cX5_close 69 = .ok (.aload_n 0, 1) := by decide +kernel
theorem dX5_close_70 : decode cX5_close 70 = .ok (.iload_n 1, 1) := by decide +kernel
theorem dX5_close_71 : decode cX5_close 71 = .ok (.invokevirtual 129, 3) := by decide +kernel
theorem dX5_close_74 : decode cX5_close 74 = .ok (.ifCond .ne 5, 3) := by decide +kernel
theorem dX5_close_77 : decode cX5_close 77 = .ok (.iconst (-1), 1) := by decide +kernel
theorem dX5_close_78 : decode cX5_close 78 = .ok (.ireturn, 1) := by decide +kernel
theorem dX5_close_79 : decode cX5_close 79 = .ok (.aload_n 0, 1) := by decide +kernel
theorem dX5_close_80 : decode cX5_close 80 = .ok (.getfield 20, 3) := by decide +kernel
theorem dX5_close_83 : decode cX5_close 83 = .ok (.iload_n 1, 1) := by decide +kernel
theorem dX5_close_84 : decode cX5_close 84 = .ok (.iaload, 1) := by decide +kernel
theorem dX5_close_85 : decode cX5_close 85 = .ok (.ireturn, 1) := by decide +kernel
set_option maxRecDepth 20000 in
theorem ggX5_delete_X5_isName : GoodIn wsX5_delete wsX5_isName := goodIn_r _ [8, 9, 10, 7, 11] (by decide +kernel) (by decide +kernel)
set_option maxRecDepth 20000 in
theorem gX5_delete_X5_isName : GoodIn wsX5_delete (va_wsS RX5 115 yX5_isName wsX5_isName) := goodIn_app (goodIn_of _ (by decide +kernel)) ggX5_delete_X5_isName
set_option maxRecDepth 20000 in
theorem ggX5_delete_X5_asked_ : GoodIn wsX5_delete wsX5_asked_ := goodIn_r _ [15, 16, 72, 73, 74, 75, 76, 77, 78, 79, 80, 81, 82, 83, 84, 85, 86, 87, 88, 89] (by decide +kernel) (by decide +kernel)
set_option maxRecDepth 20000 in
theorem gX5_delete_X5_asked_ : GoodIn wsX5_delete (wsV RX5 119 RX5 yX5_asked_ wsX5_asked_) := goodIn_app (goodIn_of _ (by decide +kernel)) ggX5_delete_X5_asked_
set_option maxRecDepth 20000 in
theorem ggX5_delete_X5_takesOut : GoodIn wsX5_delete wsX5_takesOut := goodIn_r _ [20, 21, 22, 2, 23, 24, 25, 7, 26, 27, 28, 29, 30, 31, 32, 33, 34, 35, 36, 37, 38, 39, 40, 41, 42, 43, 44, 72, 73, 74, 75, 76, 77, 78, 79, 80, 81, 82, 83, 84, 85, 86, 87, 88, 89] (by decide +kernel) (by decide +kernel)
set_option maxRecDepth 20000 in
theorem gX5_delete_X5_takesOut : GoodIn wsX5_delete (wsV RX5 132 RX5 yX5_takesOut wsX5_takesOut) := goodIn_app (goodIn_of _ (by decide +kernel)) ggX5_delete_X5_takesOut
set_option maxRecDepth 20000 in
theorem ggX5_delete_X5_ends : GoodIn wsX5_delete wsX5_ends := goodIn_r _ [48, 49, 3, 50, 51, 52, 7, 53, 54, 55, 56, 57, 58, 59, 60, 61, 62, 63, 64, 65, 66, 67, 68, 69, 70, 71, 4, 1, 72, 73, 74, 75, 76, 77, 78, 79, 80, 81, 82, 83, 84, 85, 86, 87, 88, 89] (by decide +kernel) (by decide +kernel)
set_option maxRecDepth 20000 in
theorem gX5_delete_X5_ends : GoodIn wsX5_delete (wsV RX5 129 RX5 yX5_ends wsX5_ends) := goodIn_app (goodIn_of _ (by decide +kernel)) ggX5_delete_X5_ends
theorem dX5_delete_0 : decode cX5_delete 0 = .ok (.iload_n 1, 1) := by decide +kernel
theorem dX5_delete_1 : decode cX5_delete 1 = .ok (.invokestatic 115, 3) := by decide +kernel
theorem dX5_delete_4 : decode cX5_delete 4 = .ok (.istore_n 2, 1) := by decide +kernel
theorem dX5_delete_5 : decode cX5_delete 5 = .ok (.aload_n 0, 1) := by decide +kernel
theorem dX5_delete_6 : decode cX5_delete 6 = .ok (.iload_n 2, 1) := by decide +kernel
theorem dX5_delete_7 : decode cX5_delete 7 = .ok (.iload_n 2, 1) := by decide +kernel
theorem dX5_delete_8 : decode cX5_delete 8 = .ok (.ifCond .eq 23, 3) := by decide +kernel
theorem dX5_delete_11 : decode cX5_delete 11 = .ok (.aload_n 0, 1) := by decide +kernel
theorem dX5_delete_12 : decode cX5_delete 12 = .ok (.getfield 98, 3) := by decide +kernel
theorem dX5_delete_15 : decode cX5_delete 15 = .ok (.ifCond .ne 16, 3) := by decide +kernel
theorem dX5_delete_18 : decode cX5_delete 18 = .ok (.aload_n 0, 1) := by decide +kernel
theorem dX5_delete_19 : decode cX5_delete 19 = .ok (.getfield 38, 3) := by decide +kernel
theorem dX5_delete_22 : decode cX5_delete 22 = .ok (.iload_n 1, 1) := by decide +kernel
theorem dX5_delete_23 : decode cX5_delete 23 = .ok (.iaload, 1) := by decide +kernel
theorem dX5_delete_24 : decode cX5_delete 24 = .ok (.ifCond .le 7, 3) := by decide +kernel
theorem dX5_delete_27 : decode cX5_delete 27 = .ok (.iconst 1, 1) := by decide +kernel
theorem dX5_delete_28 : decode cX5_delete 28 = .ok (.goto 4, 3) := by decide +kernel
theorem dX5_delete_31 : decode cX5_delete 31 = .ok (.iconst 0, 1) := by decide +kernel
theorem dX5_delete_32 : decode cX5_delete 32 = .ok (.invokevirtual 119, 3) := by decide +kernel
theorem dX5_delete_35 : decode cX5_delete 35 = .ok (.ifCond .ne 5, 3) := by decide +kernel
theorem dX5_delete_38 : decode cX5_delete 38 = .ok (.iconst 0, 1) := by decide +kernel
theorem dX5_delete_39 : decode cX5_delete 39 = .ok (.ireturn, 1) := by decide +kernel
theorem dX5_delete_40 : decode cX5_delete 40 = .ok (.aload_n 0, 1) := by decide +kernel
theorem dX5_delete_41 : decode cX5_delete 41 = .ok (.getfield 38, 3) := by decide +kernel
theorem dX5_delete_44 : decode cX5_delete 44 = .ok (.iload_n 1, 1) := by decide +kernel
theorem dX5_delete_45 : decode cX5_delete 45 = .ok (.iaload, 1) := by decide +kernel
theorem dX5_delete_46 : decode cX5_delete 46 = .ok (.iconst 1, 1) := by decide +kernel
theorem dX5_delete_47 : decode cX5_delete 47 = .ok (.isub, 1) := by decide +kernel
theorem dX5_delete_48 : decode cX5_delete 48 = .ok (.istore_n 3, 1) := by decide +kernel
theorem dX5_delete_49 : decode cX5_delete 49 = .ok (.aload_n 0, 1) := by decide +kernel
theorem dX5_delete_50 : decode cX5_delete 50 = .ok (.iload_n 1, 1) := by decide +kernel
theorem dX5_delete_51 : decode cX5_delete 51 = .ok (.invokevirtual 132, 3) := by decide +kernel
theorem dX5_delete_54 : decode cX5_delete 54 = .ok (.aload_n 0, 1) := by decide +kernel
theorem dX5_delete_55 : decode cX5_delete 55 = .ok (.getfield 35, 3) := by decide +kernel
theorem dX5_delete_58 : decode cX5_delete 58 = .ok (.iload_n 3, 1) := by decide +kernel
theorem dX5_delete_59 : decode cX5_delete 59 = .ok (.iconst 1, 1) := by decide +kernel
theorem dX5_delete_60 : decode cX5_delete 60 = .ok (.bastore, 1) := by decide +kernel
theorem dX5_delete_61 : decode cX5_delete 61 = .ok (.aload_n 0, 1) := by decide +kernel
theorem dX5_delete_62 : decode cX5_delete 62 = .ok (.getfield 20, 3) := by decide +kernel
theorem dX5_delete_65 : decode cX5_delete 65 = .ok (.iload_n 3, 1) := by decide +kernel
theorem dX5_delete_66 : decode cX5_delete 66 = .ok (.iaload, 1) := by decide +kernel
theorem dX5_delete_67 : decode cX5_delete 67 = .ok (.ifCond .ne 15, 3) := by decide +kernel
theorem dX5_delete_70 : decode cX5_delete 70 = .ok (.aload_n 0, 1) := by decide +kernel
theorem dX5_delete_71 : decode cX5_delete 71 = .ok (.iload_n 3, 1) := by decide +kernel
theorem dX5_delete_72 : decode cX5_delete 72 = .ok (.invokevirtual 129, 3) := by decide +kernel
theorem dX5_delete_75 : decode cX5_delete 75 = .ok (.ifCond .ne 7, 3) := by decide +kernel
theorem dX5_delete_78 : decode cX5_delete 78 = .ok (.iconst (-1), 1) := by decide +kernel
theorem dX5_delete_79 : decode cX5_delete 79 = .ok (.goto 4, 3) := by decide +kernel
theorem dX5_delete_82 : decode cX5_delete 82 = .ok (.iload_n 3, 1) := by decide +kernel
theorem dX5_delete_83 : decode cX5_delete 83 = .ok (.ireturn, 1) := by decide +kernel
set_option maxRecDepth 20000 in
theorem ggX5_write_X5_isThere : GoodIn wsX5_write wsX5_isThere := goodIn_r _ [7, 8, 9, 10, 6, 11, 40, 41, 42, 43, 44, 45, 46, 47, 48, 49, 50, 51, 52, 53, 54, 55, 56, 57] (by decide +kernel) (by decide +kernel)
set_option maxRecDepth 20000 in
theorem gX5_write_X5_isThere : GoodIn wsX5_write (wsV RX5 126 RX5 yX5_isThere wsX5_isThere) := goodIn_app (goodIn_of _ (by decide +kernel)) ggX5_write_X5_isThere
set_option maxRecDepth 20000 in
theorem ggX5_write_X5_in : GoodIn wsX5_write wsX5_in := goodIn_r _ [11] (by decide +kernel) (by decide +kernel)
set_option maxRecDepth 20000 in
theorem gX5_write_X5_in : GoodIn wsX5_write (va_wsS RX5 60 yX5_in wsX5_in) := goodIn_app (goodIn_of _ (by decide +kernel)) ggX5_write_X5_in
set_option maxRecDepth 20000 in
theorem ggX5_write_X5_left : GoodIn wsX5_write wsX5_left := goodIn_r _ [15, 16, 17, 18, 6, 19, 20, 21, 22, 23, 24, 1, 40, 41, 42, 43, 44, 45, 46, 47, 48, 49, 50, 51, 52, 53, 54, 55, 56, 57] (by decide +kernel) (by decide +kernel)
set_option maxRecDepth 20000 in
theorem gX5_write_X5_left : GoodIn wsX5_write (wsV RX5 135 RX5 yX5_left wsX5_left) := goodIn_app (goodIn_of _ (by decide +kernel)) ggX5_write_X5_left
set_option maxRecDepth 20000 in
theorem ggX5_write_X5_keptNow : GoodIn wsX5_write wsX5_keptNow := goodIn_r _ [28, 29, 40, 41, 42, 43, 44, 45, 46, 47, 48, 49, 50, 51, 52, 53, 54, 55, 56, 57] (by decide +kernel) (by decide +kernel)
set_option maxRecDepth 20000 in
theorem gX5_write_X5_keptNow : GoodIn wsX5_write (wsV RX5 138 RX5 yX5_keptNow wsX5_keptNow) := goodIn_app (goodIn_of _ (by decide +kernel)) ggX5_write_X5_keptNow
set_option maxRecDepth 20000 in
theorem ggX5_write_X5_asked__ : GoodIn wsX5_write wsX5_asked__ := goodIn_r _ [33, 34, 40, 41, 42, 43, 44, 45, 46, 47, 48, 49, 50, 51, 52, 53, 54, 55, 56, 57] (by decide +kernel) (by decide +kernel)
set_option maxRecDepth 20000 in
theorem gX5_write_X5_asked__ : GoodIn wsX5_write (wsV RX5 141 RX5 yX5_asked__ wsX5_asked__) := goodIn_app (goodIn_of _ (by decide +kernel)) ggX5_write_X5_asked__
set_option maxRecDepth 20000 in
theorem ggX5_write_X5_freesKept : GoodIn wsX5_write wsX5_freesKept := goodIn_r _ [38, 29, 20, 39, 40, 41, 42, 43, 44, 45, 46, 47, 48, 49, 50, 51, 52, 53, 54, 55, 56, 57] (by decide +kernel) (by decide +kernel)
set_option maxRecDepth 20000 in
theorem gX5_write_X5_freesKept : GoodIn wsX5_write (wsV RX5 95 RX5 yX5_freesKept wsX5_freesKept) := goodIn_app (goodIn_of _ (by decide +kernel)) ggX5_write_X5_freesKept
theorem dX5_write_0 : decode cX5_write 0 = .ok (.aload_n 0, 1) := by decide +kernel
theorem dX5_write_1 : decode cX5_write 1 = .ok (.iload_n 1, 1) := by decide +kernel
theorem dX5_write_2 : decode cX5_write 2 = .ok (.invokevirtual 126, 3) := by decide +kernel
theorem dX5_write_5 : decode cX5_write 5 = .ok (.istore 4, 2) := by decide +kernel
theorem dX5_write_7 : decode cX5_write 7 = .ok (.iload_n 2, 1) := by decide +kernel
theorem dX5_write_8 : decode cX5_write 8 = .ok (.iconst 0, 1) := by decide +kernel
theorem dX5_write_9 : decode cX5_write 9 = .ok (.bipush 63, 2) := by decide +kernel
theorem dX5_write_11 : decode cX5_write 11 = .ok (.invokestatic 60, 3) := by decide +kernel
theorem dX5_write_14 : decode cX5_write 14 = .ok (.ifCond .eq 19, 3) := by decide +kernel
theorem dX5_write_17 : decode cX5_write 17 = .ok (.iload_n 3, 1) := by decide +kernel
theorem dX5_write_18 : decode cX5_write 18 = .ok (.iconst 1, 1) := by decide +kernel
theorem dX5_write_19 : decode cX5_write 19 = .ok (.bipush 64, 2) := by decide +kernel
theorem dX5_write_21 : decode cX5_write 21 = .ok (.iload_n 2, 1) := by decide +kernel
theorem dX5_write_22 : decode cX5_write 22 = .ok (.isub, 1) := by decide +kernel
theorem dX5_write_23 : decode cX5_write 23 = .ok (.invokestatic 60, 3) := by decide +kernel
theorem dX5_write_26 : decode cX5_write 26 = .ok (.ifCond .eq 7, 3) := by decide +kernel
theorem dX5_write_29 : decode cX5_write 29 = .ok (.iconst 1, 1) := by decide +kernel
theorem dX5_write_30 : decode cX5_write 30 = .ok (.goto 4, 3) := by decide +kernel
theorem dX5_write_33 : decode cX5_write 33 = .ok (.iconst 0, 1) := by decide +kernel
theorem dX5_write_34 : decode cX5_write 34 = .ok (.istore 5, 2) := by decide +kernel
theorem dX5_write_36 : decode cX5_write 36 = .ok (.iconst 0, 1) := by decide +kernel
theorem dX5_write_37 : decode cX5_write 37 = .ok (.istore 6, 2) := by decide +kernel
theorem dX5_write_39 : decode cX5_write 39 = .ok (.iload_n 2, 1) := by decide +kernel
theorem dX5_write_40 : decode cX5_write 40 = .ok (.istore 7, 2) := by decide +kernel
theorem dX5_write_42 : decode cX5_write 42 = .ok (.iload 4, 2) := by decide +kernel
theorem dX5_write_44 : decode cX5_write 44 = .ok (.ifCond .eq 48, 3) := by decide +kernel
theorem dX5_write_47 : decode cX5_write 47 = .ok (.iload 5, 2) := by decide +kernel
theorem dX5_write_49 : decode cX5_write 49 = .ok (.ifCond .eq 43, 3) := by decide +kernel
theorem dX5_write_52 : decode cX5_write 52 = .ok (.iload 7, 2) := by decide +kernel
theorem dX5_write_54 : decode cX5_write 54 = .ok (.iload_n 2, 1) := by decide +kernel
theorem dX5_write_55 : decode cX5_write 55 = .ok (.iload_n 3, 1) := by decide +kernel
theorem dX5_write_56 : decode cX5_write 56 = .ok (.iadd, 1) := by decide +kernel
theorem dX5_write_57 : decode cX5_write 57 = .ok (.if_icmp .ge 35, 3) := by decide +kernel
theorem dX5_write_60 : decode cX5_write 60 = .ok (.iload 6, 2) := by decide +kernel
theorem dX5_write_62 : decode cX5_write 62 = .ok (.aload_n 0, 1) := by decide +kernel
theorem dX5_write_63 : decode cX5_write 63 = .ok (.getfield 16, 3) := by decide +kernel
theorem dX5_write_66 : decode cX5_write 66 = .ok (.bipush 64, 2) := by decide +kernel
theorem dX5_write_68 : decode cX5_write 68 = .ok (.iload_n 1, 1) := by decide +kernel
theorem dX5_write_69 : decode cX5_write 69 = .ok (.imul, 1) := by decide +kernel
theorem dX5_write_70 : decode cX5_write 70 = .ok (.iload 7, 2) := by decide +kernel
end
section
theorem dX5_write_72 : decode cX5_write 72 = .ok (.iadd, 1) := by decide +kernel
theorem dX5_write_73 : decode cX5_write 73 = .ok (.iaload, 1) := by decide +kernel
theorem dX5_write_74 : decode cX5_write 74 = .ok (.iconst (-1), 1) := by decide +kernel
theorem dX5_write_75 : decode cX5_write 75 = .ok (.if_icmp .ne 7, 3) := by decide +kernel
theorem dX5_write_78 : decode cX5_write 78 = .ok (.iconst 1, 1) := by decide +kernel
theorem dX5_write_79 : decode cX5_write 79 = .ok (.goto 4, 3) := by decide +kernel
theorem dX5_write_82 : decode cX5_write 82 = .ok (.iconst 0, 1) := by decide +kernel
theorem dX5_write_83 : decode cX5_write 83 = .ok (.iadd, 1) := by decide +kernel
theorem dX5_write_84 : decode cX5_write 84 = .ok (.istore 6, 2) := by decide +kernel
theorem dX5_write_86 : decode cX5_write 86 = .ok (.iinc 7 1, 3) := by decide +kernel
theorem dX5_write_89 : decode cX5_write 89 = .ok (.goto (-47), 3) := by decide +kernel
theorem dX5_write_92 : decode cX5_write 92 = .ok (.aload_n 0, 1) := by decide +kernel
theorem dX5_write_93 : decode cX5_write 93 = .ok (.iload 4, 2) := by decide +kernel
theorem dX5_write_95 : decode cX5_write 95 = .ok (.iload 5, 2) := by decide +kernel
theorem dX5_write_97 : decode cX5_write 97 = .ok (.aload_n 0, 1) := by decide +kernel
theorem dX5_write_98 : decode cX5_write 98 = .ok (.getfield 98, 3) := by decide +kernel
theorem dX5_write_101 : decode cX5_write 101 = .ok (.ifCond .ne 21, 3) := by decide +kernel
theorem dX5_write_104 : decode cX5_write 104 = .ok (.aload_n 0, 1) := by decide +kernel
theorem dX5_write_105 : decode cX5_write 105 = .ok (.invokevirtual 135, 3) := by decide +kernel
theorem dX5_write_108 : decode cX5_write 108 = .ok (.aload_n 0, 1) := by decide +kernel
theorem dX5_write_109 : decode cX5_write 109 = .ok (.invokevirtual 138, 3) := by decide +kernel
theorem dX5_write_112 : decode cX5_write 112 = .ok (.iadd, 1) := by decide +kernel
theorem dX5_write_113 : decode cX5_write 113 = .ok (.iload 6, 2) := by decide +kernel
theorem dX5_write_115 : decode cX5_write 115 = .ok (.if_icmp .lt 7, 3) := by decide +kernel
theorem dX5_write_118 : decode cX5_write 118 = .ok (.iconst 1, 1) := by decide +kernel
theorem dX5_write_119 : decode cX5_write 119 = .ok (.goto 4, 3) := by decide +kernel
theorem dX5_write_122 : decode cX5_write 122 = .ok (.iconst 0, 1) := by decide +kernel
theorem dX5_write_123 : decode cX5_write 123 = .ok (.invokevirtual 141, 3) := by decide +kernel
theorem dX5_write_126 : decode cX5_write 126 = .ok (.ifCond .ne 5, 3) := by decide +kernel
theorem dX5_write_129 : decode cX5_write 129 = .ok (.iconst 0, 1) := by decide +kernel
theorem dX5_write_130 : decode cX5_write 130 = .ok (.ireturn, 1) := by decide +kernel
theorem dX5_write_131 : decode cX5_write 131 = .ok (.aload_n 0, 1) := by decide +kernel
theorem dX5_write_132 : decode cX5_write 132 = .ok (.invokevirtual 135, 3) := by decide +kernel
theorem dX5_write_135 : decode cX5_write 135 = .ok (.iload 6, 2) := by decide +kernel
theorem dX5_write_137 : decode cX5_write 137 = .ok (.if_icmp .ge 25, 3) := by decide +kernel
theorem dX5_write_140 : decode cX5_write 140 = .ok (.iconst 0, 1) := by decide +kernel
theorem dX5_write_141 : decode cX5_write 141 = .ok (.istore 7, 2) := by decide +kernel
theorem dX5_write_143 : decode cX5_write 143 = .ok (.iload 7, 2) := by decide +kernel
theorem dX5_write_145 : decode cX5_write 145 = .ok (.bipush 16, 2) := by decide +kernel
theorem dX5_write_147 : decode cX5_write 147 = .ok (.if_icmp .ge 15, 3) := by decide +kernel
theorem dX5_write_150 : decode cX5_write 150 = .ok (.aload_n 0, 1) := by decide +kernel
theorem dX5_write_151 : decode cX5_write 151 = .ok (.iload 7, 2) := by decide +kernel
theorem dX5_write_153 : decode cX5_write 153 = .ok (.invokevirtual 95, 3) := by decide +kernel
theorem dX5_write_156 : decode cX5_write 156 = .ok (.iinc 7 1, 3) := by decide +kernel
theorem dX5_write_159 : decode cX5_write 159 = .ok (.goto (-16), 3) := by decide +kernel
theorem dX5_write_162 : decode cX5_write 162 = .ok (.iload_n 2, 1) := by decide +kernel
theorem dX5_write_163 : decode cX5_write 163 = .ok (.istore 7, 2) := by decide +kernel
theorem dX5_write_165 : decode cX5_write 165 = .ok (.iload 7, 2) := by decide +kernel
theorem dX5_write_167 : decode cX5_write 167 = .ok (.iload_n 2, 1) := by decide +kernel
theorem dX5_write_168 : decode cX5_write 168 = .ok (.iload_n 3, 1) := by decide +kernel
theorem dX5_write_169 : decode cX5_write 169 = .ok (.iadd, 1) := by decide +kernel
theorem dX5_write_170 : decode cX5_write 170 = .ok (.if_icmp .ge 54, 3) := by decide +kernel
theorem dX5_write_173 : decode cX5_write 173 = .ok (.aload_n 0, 1) := by decide +kernel
theorem dX5_write_174 : decode cX5_write 174 = .ok (.getfield 16, 3) := by decide +kernel
theorem dX5_write_177 : decode cX5_write 177 = .ok (.bipush 64, 2) := by decide +kernel
theorem dX5_write_179 : decode cX5_write 179 = .ok (.iload_n 1, 1) := by decide +kernel
theorem dX5_write_180 : decode cX5_write 180 = .ok (.imul, 1) := by decide +kernel
theorem dX5_write_181 : decode cX5_write 181 = .ok (.iload 7, 2) := by decide +kernel
theorem dX5_write_183 : decode cX5_write 183 = .ok (.iadd, 1) := by decide +kernel
theorem dX5_write_184 : decode cX5_write 184 = .ok (.aload_n 0, 1) := by decide +kernel
theorem dX5_write_185 : decode cX5_write 185 = .ok (.getfield 16, 3) := by decide +kernel
theorem dX5_write_188 : decode cX5_write 188 = .ok (.bipush 64, 2) := by decide +kernel
theorem dX5_write_190 : decode cX5_write 190 = .ok (.iload_n 1, 1) := by decide +kernel
theorem dX5_write_191 : decode cX5_write 191 = .ok (.imul, 1) := by decide +kernel
theorem dX5_write_192 : decode cX5_write 192 = .ok (.iload 7, 2) := by decide +kernel
theorem dX5_write_194 : decode cX5_write 194 = .ok (.iadd, 1) := by decide +kernel
theorem dX5_write_195 : decode cX5_write 195 = .ok (.iaload, 1) := by decide +kernel
theorem dX5_write_196 : decode cX5_write 196 = .ok (.iconst (-1), 1) := by decide +kernel
theorem dX5_write_197 : decode cX5_write 197 = .ok (.if_icmp .ne 8, 3) := by decide +kernel
theorem dX5_write_200 : decode cX5_write 200 = .ok (.bipush (-2), 2) := by decide +kernel
theorem dX5_write_202 : decode cX5_write 202 = .ok (.goto 15, 3) := by decide +kernel
theorem dX5_write_205 : decode cX5_write 205 = .ok (.aload_n 0, 1) := by decide +kernel
theorem dX5_write_206 : decode cX5_write 206 = .ok (.getfield 16, 3) := by decide +kernel
theorem dX5_write_209 : decode cX5_write 209 = .ok (.bipush 64, 2) := by decide +kernel
theorem dX5_write_211 : decode cX5_write 211 = .ok (.iload_n 1, 1) := by decide +kernel
theorem dX5_write_212 : decode cX5_write 212 = .ok (.imul, 1) := by decide +kernel
theorem dX5_write_213 : decode cX5_write 213 = .ok (.iload 7, 2) := by decide +kernel
theorem dX5_write_215 : decode cX5_write 215 = .ok (.iadd, 1) := by decide +kernel
theorem dX5_write_216 : decode cX5_write 216 = .ok (.iaload, 1) := by decide +kernel
theorem dX5_write_217 : decode cX5_write 217 = .ok (.iastore, 1) := by decide +kernel
theorem dX5_write_218 : decode cX5_write 218 = .ok (.iinc 7 1, 3) := by decide +kernel
theorem dX5_write_221 : decode cX5_write 221 = .ok (.goto (-56), 3) := by decide +kernel
theorem dX5_write_224 : decode cX5_write 224 = .ok (.iload 6, 2) := by decide +kernel
theorem dX5_write_226 : decode cX5_write 226 = .ok (.ireturn, 1) := by decide +kernel
theorem dX5_areFree_0 : decode cX5_areFree 0 = .ok (.iload_n 1, 1) := by decide +kernel
theorem dX5_areFree_1 : decode cX5_areFree 1 = .ok (.bipush 32, 2) := by decide +kernel
theorem dX5_areFree_3 : decode cX5_areFree 3 = .ok (.idiv, 1) := by decide +kernel
theorem dX5_areFree_4 : decode cX5_areFree 4 = .ok (.iload_n 1, 1) := by decide +kernel
theorem dX5_areFree_5 : decode cX5_areFree 5 = .ok (.iload_n 2, 1) := by decide +kernel
theorem dX5_areFree_6 : decode cX5_areFree 6 = .ok (.iadd, 1) := by decide +kernel
theorem dX5_areFree_7 : decode cX5_areFree 7 = .ok (.iconst 1, 1) := by decide +kernel
theorem dX5_areFree_8 : decode cX5_areFree 8 = .ok (.isub, 1) := by decide +kernel
theorem dX5_areFree_9 : decode cX5_areFree 9 = .ok (.bipush 32, 2) := by decide +kernel
theorem dX5_areFree_11 : decode cX5_areFree 11 = .ok (.idiv, 1) := by decide +kernel
theorem dX5_areFree_12 : decode cX5_areFree 12 = .ok (.if_icmp .ne 7, 3) := by decide +kernel
theorem dX5_areFree_15 : decode cX5_areFree 15 = .ok (.iconst 1, 1) := by decide +kernel
theorem dX5_areFree_16 : decode cX5_areFree 16 = .ok (.goto 4, 3) := by decide +kernel
theorem dX5_areFree_19 : decode cX5_areFree 19 = .ok (.iconst 0, 1) := by decide +kernel
theorem dX5_areFree_20 : decode cX5_areFree 20 = .ok (.istore_n 3, 1) := by decide +kernel
theorem dX5_areFree_21 : decode cX5_areFree 21 = .ok (.iload_n 1, 1) := by decide +kernel
theorem dX5_areFree_22 : decode cX5_areFree 22 = .ok (.istore 4, 2) := by decide +kernel
theorem dX5_areFree_24 : decode cX5_areFree 24 = .ok (.iload_n 3, 1) := by decide +kernel
theorem dX5_areFree_25 : decode cX5_areFree 25 = .ok (.ifCond .eq 25, 3) := by decide +kernel
theorem dX5_areFree_28 : decode cX5_areFree 28 = .ok (.iload 4, 2) := by decide +kernel
theorem dX5_areFree_30 : decode cX5_areFree 30 = .ok (.iload_n 1, 1) := by decide +kernel
theorem dX5_areFree_31 : decode cX5_areFree 31 = .ok (.iload_n 2, 1) := by decide +kernel
theorem dX5_areFree_32 : decode cX5_areFree 32 = .ok (.iadd, 1) := by decide +kernel
theorem dX5_areFree_33 : decode cX5_areFree 33 = .ok (.if_icmp .ge 17, 3) := by decide +kernel
theorem dX5_areFree_36 : decode cX5_areFree 36 = .ok (.aload_n 0, 1) := by decide +kernel
theorem dX5_areFree_37 : decode cX5_areFree 37 = .ok (.getfield 7, 3) := by decide +kernel
theorem dX5_areFree_40 : decode cX5_areFree 40 = .ok (.iload 4, 2) := by decide +kernel
theorem dX5_areFree_42 : decode cX5_areFree 42 = .ok (.baload, 1) := by decide +kernel
theorem dX5_areFree_43 : decode cX5_areFree 43 = .ok (.istore_n 3, 1) := by decide +kernel
theorem dX5_areFree_44 : decode cX5_areFree 44 = .ok (.iinc 4 1, 3) := by decide +kernel
theorem dX5_areFree_47 : decode cX5_areFree 47 = .ok (.goto (-23), 3) := by decide +kernel
theorem dX5_areFree_50 : decode cX5_areFree 50 = .ok (.iload_n 3, 1) := by decide +kernel
theorem dX5_areFree_51 : decode cX5_areFree 51 = .ok (.ireturn, 1) := by decide +kernel
set_option maxRecDepth 20000 in
theorem ggX5_finds_X5_areFree : GoodIn wsX5_finds wsX5_areFree := goodIn_r _ [5, 6, 7, 8, 9, 10, 11, 12, 13, 14, 15, 16, 17, 18, 19, 20, 21, 22, 23, 24] (by decide +kernel) (by decide +kernel)
set_option maxRecDepth 20000 in
theorem gX5_finds_X5_areFree : GoodIn wsX5_finds (wsV RX5 144 RX5 yX5_areFree wsX5_areFree) := goodIn_app (goodIn_of _ (by decide +kernel)) ggX5_finds_X5_areFree
theorem dX5_finds_0 : decode cX5_finds 0 = .ok (.aload_n 0, 1) := by decide +kernel
theorem dX5_finds_1 : decode cX5_finds 1 = .ok (.iload_n 1, 1) := by decide +kernel
theorem dX5_finds_2 : decode cX5_finds 2 = .ok (.iload_n 2, 1) := by decide +kernel
theorem dX5_finds_3 : decode cX5_finds 3 = .ok (.invokevirtual 144, 3) := by decide +kernel
theorem dX5_finds_6 : decode cX5_finds 6 = .ok (.ifCond .eq 5, 3) := by decide +kernel
theorem dX5_finds_9 : decode cX5_finds 9 = .ok (.iload_n 1, 1) := by decide +kernel
theorem dX5_finds_10 : decode cX5_finds 10 = .ok (.ireturn, 1) := by decide +kernel
theorem dX5_finds_11 : decode cX5_finds 11 = .ok (.iconst 0, 1) := by decide +kernel
theorem dX5_finds_12 : decode cX5_finds 12 = .ok (.istore_n 3, 1) := by decide +kernel
theorem dX5_finds_13 : decode cX5_finds 13 = .ok (.iload_n 3, 1) := by decide +kernel
theorem dX5_finds_14 : decode cX5_finds 14 = .ok (.iconst 4, 1) := by decide +kernel
theorem dX5_finds_15 : decode cX5_finds 15 = .ok (.if_icmp .ge 61, 3) := by decide +kernel
theorem dX5_finds_18 : decode cX5_finds 18 = .ok (.iload_n 1, 1) := by decide +kernel
theorem dX5_finds_19 : decode cX5_finds 19 = .ok (.bipush 32, 2) := by decide +kernel
theorem dX5_finds_21 : decode cX5_finds 21 = .ok (.idiv, 1) := by decide +kernel
theorem dX5_finds_22 : decode cX5_finds 22 = .ok (.iload_n 3, 1) := by decide +kernel
theorem dX5_finds_23 : decode cX5_finds 23 = .ok (.iadd, 1) := by decide +kernel
theorem dX5_finds_24 : decode cX5_finds 24 = .ok (.iconst 4, 1) := by decide +kernel
theorem dX5_finds_25 : decode cX5_finds 25 = .ok (.irem, 1) := by decide +kernel
theorem dX5_finds_26 : decode cX5_finds 26 = .ok (.istore 4, 2) := by decide +kernel
theorem dX5_finds_28 : decode cX5_finds 28 = .ok (.bipush 32, 2) := by decide +kernel
theorem dX5_finds_30 : decode cX5_finds 30 = .ok (.iload 4, 2) := by decide +kernel
theorem dX5_finds_32 : decode cX5_finds 32 = .ok (.imul, 1) := by decide +kernel
theorem dX5_finds_33 : decode cX5_finds 33 = .ok (.istore 5, 2) := by decide +kernel
theorem dX5_finds_35 : decode cX5_finds 35 = .ok (.iload 5, 2) := by decide +kernel
theorem dX5_finds_37 : decode cX5_finds 37 = .ok (.bipush 32, 2) := by decide +kernel
theorem dX5_finds_39 : decode cX5_finds 39 = .ok (.iload 4, 2) := by decide +kernel
theorem dX5_finds_41 : decode cX5_finds 41 = .ok (.imul, 1) := by decide +kernel
theorem dX5_finds_42 : decode cX5_finds 42 = .ok (.bipush 32, 2) := by decide +kernel
theorem dX5_finds_44 : decode cX5_finds 44 = .ok (.iadd, 1) := by decide +kernel
theorem dX5_finds_45 : decode cX5_finds 45 = .ok (.if_icmp .ge 25, 3) := by decide +kernel
theorem dX5_finds_48 : decode cX5_finds 48 = .ok (.aload_n 0, 1) := by decide +kernel
theorem dX5_finds_49 : decode cX5_finds 49 = .ok (.iload 5, 2) := by decide +kernel
theorem dX5_finds_51 : decode cX5_finds 51 = .ok (.iload_n 2, 1) := by decide +kernel
theorem dX5_finds_52 : decode cX5_finds 52 = .ok (.invokevirtual 144, 3) := by decide +kernel
theorem dX5_finds_55 : decode cX5_finds 55 = .ok (.ifCond .eq 6, 3) := by decide +kernel
theorem dX5_finds_58 : decode cX5_finds 58 = .ok (.iload 5, 2) := by decide +kernel
theorem dX5_finds_60 : decode cX5_finds 60 = .ok (.ireturn, 1) := by decide +kernel
theorem dX5_finds_61 : decode cX5_finds 61 = .ok (.iload 5, 2) := by decide +kernel
theorem dX5_finds_63 : decode cX5_finds 63 = .ok (.iload_n 2, 1) := by decide +kernel
theorem dX5_finds_64 : decode cX5_finds 64 = .ok (.iadd, 1) := by decide +kernel
theorem dX5_finds_65 : decode cX5_finds 65 = .ok (.istore 5, 2) := by decide +kernel
theorem dX5_finds_67 : decode cX5_finds 67 = .ok (.goto (-32), 3) := by decide +kernel
theorem dX5_finds_70 : decode cX5_finds 70 = .ok (.iinc 3 1, 3) := by decide +kernel
theorem dX5_finds_73 : decode cX5_finds 73 = .ok (.goto (-60), 3) := by decide +kernel
theorem dX5_finds_76 : decode cX5_finds 76 = .ok (.iconst (-1), 1) := by decide +kernel
theorem dX5_finds_77 : decode cX5_finds 77 = .ok (.ireturn, 1) := by decide +kernel
set_option maxRecDepth 20000 in
theorem ggX5_maps_X5_left : GoodIn wsX5_maps wsX5_left := goodIn_r _ [10, 11, 12, 13, 9, 14, 5, 15, 16, 17, 18, 3, 31, 32, 33, 34, 35, 36, 37, 38, 39, 40, 41, 42, 43, 44, 45, 46, 47, 48] (by decide +kernel) (by decide +kernel)
set_option maxRecDepth 20000 in
theorem gX5_maps_X5_left : GoodIn wsX5_maps (wsV RX5 135 RX5 yX5_left wsX5_left) := goodIn_app (goodIn_of _ (by decide +kernel)) ggX5_maps_X5_left
set_option maxRecDepth 20000 in
theorem ggX5_maps_X5_finds : GoodIn wsX5_maps wsX5_finds := goodIn_r _ [22, 23, 24, 25, 9, 26, 5, 31, 32, 33, 34, 35, 36, 37, 38, 39, 40, 41, 42, 43, 44, 45, 46, 47, 48] (by decide +kernel) (by decide +kernel)
set_option maxRecDepth 20000 in
theorem gX5_maps_X5_finds : GoodIn wsX5_maps (wsV RX5 147 RX5 yX5_finds wsX5_finds) := goodIn_app (goodIn_of _ (by decide +kernel)) ggX5_maps_X5_finds
set_option maxRecDepth 20000 in
theorem ggX5_maps_X5_freesKept : GoodIn wsX5_maps wsX5_freesKept := goodIn_r _ [30, 1, 5, 4, 31, 32, 33, 34, 35, 36, 37, 38, 39, 40, 41, 42, 43, 44, 45, 46, 47, 48] (by decide +kernel) (by decide +kernel)
set_option maxRecDepth 20000 in
theorem gX5_maps_X5_freesKept : GoodIn wsX5_maps (wsV RX5 95 RX5 yX5_freesKept wsX5_freesKept) := goodIn_app (goodIn_of _ (by decide +kernel)) ggX5_maps_X5_freesKept
theorem dX5_maps_0 : decode cX5_maps 0 = .ok (.bipush 64, 2) := by decide +kernel
theorem dX5_maps_2 : decode cX5_maps 2 = .ok (.iload_n 1, 1) := by decide +kernel
theorem dX5_maps_3 : decode cX5_maps 3 = .ok (.imul, 1) := by decide +kernel
theorem dX5_maps_4 : decode cX5_maps 4 = .ok (.iload_n 2, 1) := by decide +kernel
theorem dX5_maps_5 : decode cX5_maps 5 = .ok (.iadd, 1) := by decide +kernel
theorem dX5_maps_6 : decode cX5_maps 6 = .ok (.istore 4, 2) := by decide +kernel
theorem dX5_maps_8 : decode cX5_maps 8 = .ok (.aload_n 0, 1) := by decide +kernel
theorem dX5_maps_9 : decode cX5_maps 9 = .ok (.getfield 26, 3) := by decide +kernel
theorem dX5_maps_12 : decode cX5_maps 12 = .ok (.iload_n 1, 1) := by decide +kernel
theorem dX5_maps_13 : decode cX5_maps 13 = .ok (.iaload, 1) := by decide +kernel
theorem dX5_maps_14 : decode cX5_maps 14 = .ok (.ifCond .le 106, 3) := by decide +kernel
theorem dX5_maps_17 : decode cX5_maps 17 = .ok (.aload_n 0, 1) := by decide +kernel
theorem dX5_maps_18 : decode cX5_maps 18 = .ok (.getfield 29, 3) := by decide +kernel
theorem dX5_maps_21 : decode cX5_maps 21 = .ok (.iload_n 1, 1) := by decide +kernel
theorem dX5_maps_22 : decode cX5_maps 22 = .ok (.iaload, 1) := by decide +kernel
theorem dX5_maps_23 : decode cX5_maps 23 = .ok (.iload_n 2, 1) := by decide +kernel
theorem dX5_maps_24 : decode cX5_maps 24 = .ok (.if_icmp .ne 96, 3) := by decide +kernel
theorem dX5_maps_27 : decode cX5_maps 27 = .ok (.aload_n 0, 1) := by decide +kernel
theorem dX5_maps_28 : decode cX5_maps 28 = .ok (.getfield 26, 3) := by decide +kernel
theorem dX5_maps_31 : decode cX5_maps 31 = .ok (.iload_n 1, 1) := by decide +kernel
theorem dX5_maps_32 : decode cX5_maps 32 = .ok (.iaload, 1) := by decide +kernel
theorem dX5_maps_33 : decode cX5_maps 33 = .ok (.iload_n 3, 1) := by decide +kernel
theorem dX5_maps_34 : decode cX5_maps 34 = .ok (.if_icmp .ge 12, 3) := by decide +kernel
theorem dX5_maps_37 : decode cX5_maps 37 = .ok (.aload_n 0, 1) := by decide +kernel
theorem dX5_maps_38 : decode cX5_maps 38 = .ok (.getfield 26, 3) := by decide +kernel
theorem dX5_maps_41 : decode cX5_maps 41 = .ok (.iload_n 1, 1) := by decide +kernel
theorem dX5_maps_42 : decode cX5_maps 42 = .ok (.iaload, 1) := by decide +kernel
theorem dX5_maps_43 : decode cX5_maps 43 = .ok (.goto 4, 3) := by decide +kernel
theorem dX5_maps_46 : decode cX5_maps 46 = .ok (.iload_n 3, 1) := by decide +kernel
theorem dX5_maps_47 : decode cX5_maps 47 = .ok (.istore 5, 2) := by decide +kernel
theorem dX5_maps_49 : decode cX5_maps 49 = .ok (.iconst 0, 1) := by decide +kernel
theorem dX5_maps_50 : decode cX5_maps 50 = .ok (.istore 6, 2) := by decide +kernel
theorem dX5_maps_52 : decode cX5_maps 52 = .ok (.iload 6, 2) := by decide +kernel
theorem dX5_maps_54 : decode cX5_maps 54 = .ok (.iload 5, 2) := by decide +kernel
theorem dX5_maps_56 : decode cX5_maps 56 = .ok (.if_icmp .ge 28, 3) := by decide +kernel
theorem dX5_maps_59 : decode cX5_maps 59 = .ok (.aload_n 0, 1) := by decide +kernel
theorem dX5_maps_60 : decode cX5_maps 60 = .ok (.getfield 16, 3) := by decide +kernel
theorem dX5_maps_63 : decode cX5_maps 63 = .ok (.iload 4, 2) := by decide +kernel
theorem dX5_maps_65 : decode cX5_maps 65 = .ok (.iload 6, 2) := by decide +kernel
theorem dX5_maps_67 : decode cX5_maps 67 = .ok (.iadd, 1) := by decide +kernel
theorem dX5_maps_68 : decode cX5_maps 68 = .ok (.aload_n 0, 1) := by decide +kernel
theorem dX5_maps_69 : decode cX5_maps 69 = .ok (.getfield 23, 3) := by decide +kernel
theorem dX5_maps_72 : decode cX5_maps 72 = .ok (.iload_n 1, 1) := by decide +kernel
theorem dX5_maps_73 : decode cX5_maps 73 = .ok (.iaload, 1) := by decide +kernel
theorem dX5_maps_74 : decode cX5_maps 74 = .ok (.iload 6, 2) := by decide +kernel
theorem dX5_maps_76 : decode cX5_maps 76 = .ok (.iadd, 1) := by decide +kernel
theorem dX5_maps_77 : decode cX5_maps 77 = .ok (.iastore, 1) := by decide +kernel
theorem dX5_maps_78 : decode cX5_maps 78 = .ok (.iinc 6 1, 3) := by decide +kernel
theorem dX5_maps_81 : decode cX5_maps 81 = .ok (.goto (-29), 3) := by decide +kernel
theorem dX5_maps_84 : decode cX5_maps 84 = .ok (.aload_n 0, 1) := by decide +kernel
theorem dX5_maps_85 : decode cX5_maps 85 = .ok (.getfield 23, 3) := by decide +kernel
theorem dX5_maps_88 : decode cX5_maps 88 = .ok (.iload_n 1, 1) := by decide +kernel
theorem dX5_maps_89 : decode cX5_maps 89 = .ok (.dup2, 1) := by decide +kernel
theorem dX5_maps_90 : decode cX5_maps 90 = .ok (.iaload, 1) := by decide +kernel
theorem dX5_maps_91 : decode cX5_maps 91 = .ok (.iload 5, 2) := by decide +kernel
theorem dX5_maps_93 : decode cX5_maps 93 = .ok (.iadd, 1) := by decide +kernel
theorem dX5_maps_94 : decode cX5_maps 94 = .ok (.iastore, 1) := by decide +kernel
theorem dX5_maps_95 : decode cX5_maps 95 = .ok (.aload_n 0, 1) := by decide +kernel
theorem dX5_maps_96 : decode cX5_maps 96 = .ok (.getfield 29, 3) := by decide +kernel
theorem dX5_maps_99 : decode cX5_maps 99 = .ok (.iload_n 1, 1) := by decide +kernel
theorem dX5_maps_100 : decode cX5_maps 100 = .ok (.dup2, 1) := by decide +kernel
theorem dX5_maps_101 : decode cX5_maps 101 = .ok (.iaload, 1) := by decide +kernel
theorem dX5_maps_102 : decode cX5_maps 102 = .ok (.iload 5, 2) := by decide +kernel
theorem dX5_maps_104 : decode cX5_maps 104 = .ok (.iadd, 1) := by decide +kernel
theorem dX5_maps_105 : decode cX5_maps 105 = .ok (.iastore, 1) := by decide +kernel
theorem dX5_maps_106 : decode cX5_maps 106 = .ok (.aload_n 0, 1) := by decide +kernel
theorem dX5_maps_107 : decode cX5_maps 107 = .ok (.getfield 26, 3) := by decide +kernel
theorem dX5_maps_110 : decode cX5_maps 110 = .ok (.iload_n 1, 1) := by decide +kernel
theorem dX5_maps_111 : decode cX5_maps 111 = .ok (.dup2, 1) := by decide +kernel
theorem dX5_maps_112 : decode cX5_maps 112 = .ok (.iaload, 1) := by decide +kernel
theorem dX5_maps_113 : decode cX5_maps 113 = .ok (.iload 5, 2) := by decide +kernel
theorem dX5_maps_115 : decode cX5_maps 115 = .ok (.isub, 1) := by decide +kernel
theorem dX5_maps_116 : decode cX5_maps 116 = .ok (.iastore, 1) := by decide +kernel
theorem dX5_maps_117 : decode cX5_maps 117 = .ok (.iload 5, 2) := by decide +kernel
theorem dX5_maps_119 : decode cX5_maps 119 = .ok (.ireturn, 1) := by decide +kernel
theorem dX5_maps_120 : decode cX5_maps 120 = .ok (.iload_n 2, 1) := by decide +kernel
theorem dX5_maps_121 : decode cX5_maps 121 = .ok (.ifCond .le 29, 3) := by decide +kernel
theorem dX5_maps_124 : decode cX5_maps 124 = .ok (.aload_n 0, 1) := by decide +kernel
theorem dX5_maps_125 : decode cX5_maps 125 = .ok (.getfield 16, 3) := by decide +kernel
theorem dX5_maps_128 : decode cX5_maps 128 = .ok (.iload 4, 2) := by decide +kernel
theorem dX5_maps_130 : decode cX5_maps 130 = .ok (.iconst 1, 1) := by decide +kernel
theorem dX5_maps_131 : decode cX5_maps 131 = .ok (.isub, 1) := by decide +kernel
theorem dX5_maps_132 : decode cX5_maps 132 = .ok (.iaload, 1) := by decide +kernel
theorem dX5_maps_133 : decode cX5_maps 133 = .ok (.ifCond .lt 17, 3) := by decide +kernel
theorem dX5_maps_136 : decode cX5_maps 136 = .ok (.aload_n 0, 1) := by decide +kernel
theorem dX5_maps_137 : decode cX5_maps 137 = .ok (.getfield 16, 3) := by decide +kernel
theorem dX5_maps_140 : decode cX5_maps 140 = .ok (.iload 4, 2) := by decide +kernel
theorem dX5_maps_142 : decode cX5_maps 142 = .ok (.iconst 1, 1) := by decide +kernel
theorem dX5_maps_143 : decode cX5_maps 143 = .ok (.isub, 1) := by decide +kernel
theorem dX5_maps_144 : decode cX5_maps 144 = .ok (.iaload, 1) := by decide +kernel
theorem dX5_maps_145 : decode cX5_maps 145 = .ok (.iconst 1, 1) := by decide +kernel
theorem dX5_maps_146 : decode cX5_maps 146 = .ok (.iadd, 1) := by decide +kernel
theorem dX5_maps_147 : decode cX5_maps 147 = .ok (.goto 6, 3) := by decide +kernel
theorem dX5_maps_150 : decode cX5_maps 150 = .ok (.sipush 128, 3) := by decide +kernel
theorem dX5_maps_153 : decode cX5_maps 153 = .ok (.istore 5, 2) := by decide +kernel
theorem dX5_maps_155 : decode cX5_maps 155 = .ok (.iload 5, 2) := by decide +kernel
theorem dX5_maps_157 : decode cX5_maps 157 = .ok (.sipush 128, 3) := by decide +kernel
theorem dX5_maps_160 : decode cX5_maps 160 = .ok (.if_icmp .ne 12, 3) := by decide +kernel
theorem dX5_maps_163 : decode cX5_maps 163 = .ok (.bipush 32, 2) := by decide +kernel
theorem dX5_maps_165 : decode cX5_maps 165 = .ok (.iload_n 1, 1) := by decide +kernel
theorem dX5_maps_166 : decode cX5_maps 166 = .ok (.iconst 4, 1) := by decide +kernel
theorem dX5_maps_167 : decode cX5_maps 167 = .ok (.irem, 1) := by decide +kernel
theorem dX5_maps_168 : decode cX5_maps 168 = .ok (.imul, 1) := by decide +kernel
theorem dX5_maps_169 : decode cX5_maps 169 = .ok (.goto 5, 3) := by decide +kernel
theorem dX5_maps_172 : decode cX5_maps 172 = .ok (.iload 5, 2) := by decide +kernel
theorem dX5_maps_174 : decode cX5_maps 174 = .ok (.istore 5, 2) := by decide +kernel
theorem dX5_maps_176 : decode cX5_maps 176 = .ok (.iconst 1, 1) := by decide +kernel
theorem dX5_maps_177 : decode cX5_maps 177 = .ok (.istore 6, 2) := by decide +kernel
theorem dX5_maps_179 : decode cX5_maps 179 = .ok (.iload 6, 2) := by decide +kernel
theorem dX5_maps_181 : decode cX5_maps 181 = .ok (.iload_n 3, 1) := by decide +kernel
theorem dX5_maps_182 : decode cX5_maps 182 = .ok (.if_icmp .ge 19, 3) := by decide +kernel
theorem dX5_maps_185 : decode cX5_maps 185 = .ok (.iload 6, 2) := by decide +kernel
theorem dX5_maps_187 : decode cX5_maps 187 = .ok (.bipush 16, 2) := by decide +kernel
theorem dX5_maps_189 : decode cX5_maps 189 = .ok (.if_icmp .ge 12, 3) := by decide +kernel
theorem dX5_maps_192 : decode cX5_maps 192 = .ok (.iload 6, 2) := by decide +kernel
theorem dX5_maps_194 : decode cX5_maps 194 = .ok (.iconst 2, 1) := by decide +kernel
theorem dX5_maps_195 : decode cX5_maps 195 = .ok (.imul, 1) := by decide +kernel
theorem dX5_maps_196 : decode cX5_maps 196 = .ok (.istore 6, 2) := by decide +kernel
theorem dX5_maps_198 : decode cX5_maps 198 = .ok (.goto (-19), 3) := by decide +kernel
theorem dX5_maps_201 : decode cX5_maps 201 = .ok (.iload 6, 2) := by decide +kernel
theorem dX5_maps_203 : decode cX5_maps 203 = .ok (.iload_n 3, 1) := by decide +kernel
theorem dX5_maps_204 : decode cX5_maps 204 = .ok (.if_icmp .le 20, 3) := by decide +kernel
theorem dX5_maps_207 : decode cX5_maps 207 = .ok (.iload 6, 2) := by decide +kernel
theorem dX5_maps_209 : decode cX5_maps 209 = .ok (.iload_n 3, 1) := by decide +kernel
theorem dX5_maps_210 : decode cX5_maps 210 = .ok (.isub, 1) := by decide +kernel
theorem dX5_maps_211 : decode cX5_maps 211 = .ok (.aload_n 0, 1) := by decide +kernel
theorem dX5_maps_212 : decode cX5_maps 212 = .ok (.invokevirtual 135, 3) := by decide +kernel
theorem dX5_maps_215 : decode cX5_maps 215 = .ok (.if_icmp .le 9, 3) := by decide +kernel
theorem dX5_maps_218 : decode cX5_maps 218 = .ok (.iload 6, 2) := by decide +kernel
theorem dX5_maps_220 : decode cX5_maps 220 = .ok (.iconst 2, 1) := by decide +kernel
theorem dX5_maps_221 : decode cX5_maps 221 = .ok (.idiv, 1) := by decide +kernel
theorem dX5_maps_222 : decode cX5_maps 222 = .ok (.istore 6, 2) := by decide +kernel
theorem dX5_maps_224 : decode cX5_maps 224 = .ok (.aload_n 0, 1) := by decide +kernel
theorem dX5_maps_225 : decode cX5_maps 225 = .ok (.iload 5, 2) := by decide +kernel
theorem dX5_maps_227 : decode cX5_maps 227 = .ok (.iload 6, 2) := by decide +kernel
theorem dX5_maps_229 : decode cX5_maps 229 = .ok (.invokevirtual 147, 3) := by decide +kernel
theorem dX5_maps_232 : decode cX5_maps 232 = .ok (.istore 7, 2) := by decide +kernel
theorem dX5_maps_234 : decode cX5_maps 234 = .ok (.iload 7, 2) := by decide +kernel
theorem dX5_maps_236 : decode cX5_maps 236 = .ok (.iconst (-1), 1) := by decide +kernel
theorem dX5_maps_237 : decode cX5_maps 237 = .ok (.if_icmp .ne 22, 3) := by decide +kernel
theorem dX5_maps_240 : decode cX5_maps 240 = .ok (.iload 6, 2) := by decide +kernel
theorem dX5_maps_242 : decode cX5_maps 242 = .ok (.iconst 2, 1) := by decide +kernel
theorem dX5_maps_243 : decode cX5_maps 243 = .ok (.idiv, 1) := by decide +kernel
theorem dX5_maps_244 : decode cX5_maps 244 = .ok (.istore 6, 2) := by decide +kernel
theorem dX5_maps_246 : decode cX5_maps 246 = .ok (.aload_n 0, 1) := by decide +kernel
theorem dX5_maps_247 : decode cX5_maps 247 = .ok (.iload 5, 2) := by decide +kernel
theorem dX5_maps_249 : decode cX5_maps 249 = .ok (.iload 6, 2) := by decide +kernel
theorem dX5_maps_251 : decode cX5_maps 251 = .ok (.invokevirtual 147, 3) := by decide +kernel
theorem dX5_maps_254 : decode cX5_maps 254 = .ok (.istore 7, 2) := by decide +kernel
theorem dX5_maps_256 : decode cX5_maps 256 = .ok (.goto (-22), 3) := by decide +kernel
theorem dX5_maps_259 : decode cX5_maps 259 = .ok (.iload 6, 2) := by decide +kernel
theorem dX5_maps_261 : decode cX5_maps 261 = .ok (.iload_n 3, 1) := by decide +kernel
theorem dX5_maps_262 : decode cX5_maps 262 = .ok (.if_icmp .ge 8, 3) := by decide +kernel
theorem dX5_maps_265 : decode cX5_maps 265 = .ok (.iload 6, 2) := by decide +kernel
theorem dX5_maps_267 : decode cX5_maps 267 = .ok (.goto 4, 3) := by decide +kernel
theorem dX5_maps_270 : decode cX5_maps 270 = .ok (.iload_n 3, 1) := by decide +kernel
theorem dX5_maps_271 : decode cX5_maps 271 = .ok (.istore 8, 2) := by decide +kernel
theorem dX5_maps_273 : decode cX5_maps 273 = .ok (.iconst 0, 1) := by decide +kernel
theorem dX5_maps_274 : decode cX5_maps 274 = .ok (.istore 9, 2) := by decide +kernel
theorem dX5_maps_276 : decode cX5_maps 276 = .ok (.iload 9, 2) := by decide +kernel
theorem dX5_maps_278 : decode cX5_maps 278 = .ok (.iload 6, 2) := by decide +kernel
theorem dX5_maps_280 : decode cX5_maps 280 = .ok (.if_icmp .ge 42, 3) := by decide +kernel
theorem dX5_maps_283 : decode cX5_maps 283 = .ok (.aload_n 0, 1) := by decide +kernel
theorem dX5_maps_284 : decode cX5_maps 284 = .ok (.getfield 7, 3) := by decide +kernel
theorem dX5_maps_287 : decode cX5_maps 287 = .ok (.iload 7, 2) := by decide +kernel
theorem dX5_maps_289 : decode cX5_maps 289 = .ok (.iload 9, 2) := by decide +kernel
theorem dX5_maps_291 : decode cX5_maps 291 = .ok (.iadd, 1) := by decide +kernel
theorem dX5_maps_292 : decode cX5_maps 292 = .ok (.iconst 0, 1) := by decide +kernel
theorem dX5_maps_293 : decode cX5_maps 293 = .ok (.bastore, 1) := by decide +kernel
theorem dX5_maps_294 : decode cX5_maps 294 = .ok (.iload 9, 2) := by decide +kernel
theorem dX5_maps_296 : decode cX5_maps 296 = .ok (.iload 8, 2) := by decide +kernel
theorem dX5_maps_298 : decode cX5_maps 298 = .ok (.if_icmp .ge 18, 3) := by decide +kernel
theorem dX5_maps_301 : decode cX5_maps 301 = .ok (.aload_n 0, 1) := by decide +kernel
theorem dX5_maps_302 : decode cX5_maps 302 = .ok (.getfield 16, 3) := by decide +kernel
theorem dX5_maps_305 : decode cX5_maps 305 = .ok (.iload 4, 2) := by decide +kernel
theorem dX5_maps_307 : decode cX5_maps 307 = .ok (.iload 9, 2) := by decide +kernel
theorem dX5_maps_309 : decode cX5_maps 309 = .ok (.iadd, 1) := by decide +kernel
theorem dX5_maps_310 : decode cX5_maps 310 = .ok (.iload 7, 2) := by decide +kernel
theorem dX5_maps_312 : decode cX5_maps 312 = .ok (.iload 9, 2) := by decide +kernel
theorem dX5_maps_314 : decode cX5_maps 314 = .ok (.iadd, 1) := by decide +kernel
theorem dX5_maps_315 : decode cX5_maps 315 = .ok (.iastore, 1) := by decide +kernel
theorem dX5_maps_316 : decode cX5_maps 316 = .ok (.iinc 9 1, 3) := by decide +kernel
theorem dX5_maps_319 : decode cX5_maps 319 = .ok (.goto (-43), 3) := by decide +kernel
theorem dX5_maps_322 : decode cX5_maps 322 = .ok (.iload 6, 2) := by decide +kernel
theorem dX5_maps_324 : decode cX5_maps 324 = .ok (.iload 8, 2) := by decide +kernel
theorem dX5_maps_326 : decode cX5_maps 326 = .ok (.if_icmp .le 40, 3) := by decide +kernel
theorem dX5_maps_329 : decode cX5_maps 329 = .ok (.aload_n 0, 1) := by decide +kernel
theorem dX5_maps_330 : decode cX5_maps 330 = .ok (.iload_n 1, 1) := by decide +kernel
theorem dX5_maps_331 : decode cX5_maps 331 = .ok (.invokevirtual 95, 3) := by decide +kernel
theorem dX5_maps_334 : decode cX5_maps 334 = .ok (.aload_n 0, 1) := by decide +kernel
theorem dX5_maps_335 : decode cX5_maps 335 = .ok (.getfield 23, 3) := by decide +kernel
theorem dX5_maps_338 : decode cX5_maps 338 = .ok (.iload_n 1, 1) := by decide +kernel
theorem dX5_maps_339 : decode cX5_maps 339 = .ok (.iload 7, 2) := by decide +kernel
theorem dX5_maps_341 : decode cX5_maps 341 = .ok (.iload 8, 2) := by decide +kernel
theorem dX5_maps_343 : decode cX5_maps 343 = .ok (.iadd, 1) := by decide +kernel
theorem dX5_maps_344 : decode cX5_maps 344 = .ok (.iastore, 1) := by decide +kernel
theorem dX5_maps_345 : decode cX5_maps 345 = .ok (.aload_n 0, 1) := by decide +kernel
theorem dX5_maps_346 : decode cX5_maps 346 = .ok (.getfield 26, 3) := by decide +kernel
theorem dX5_maps_349 : decode cX5_maps 349 = .ok (.iload_n 1, 1) := by decide +kernel
theorem dX5_maps_350 : decode cX5_maps 350 = .ok (.iload 6, 2) := by decide +kernel
theorem dX5_maps_352 : decode cX5_maps 352 = .ok (.iload 8, 2) := by decide +kernel
theorem dX5_maps_354 : decode cX5_maps 354 = .ok (.isub, 1) := by decide +kernel
theorem dX5_maps_355 : decode cX5_maps 355 = .ok (.iastore, 1) := by decide +kernel
theorem dX5_maps_356 : decode cX5_maps 356 = .ok (.aload_n 0, 1) := by decide +kernel
theorem dX5_maps_357 : decode cX5_maps 357 = .ok (.getfield 29, 3) := by decide +kernel
theorem dX5_maps_360 : decode cX5_maps 360 = .ok (.iload_n 1, 1) := by decide +kernel
theorem dX5_maps_361 : decode cX5_maps 361 = .ok (.iload_n 2, 1) := by decide +kernel
theorem dX5_maps_362 : decode cX5_maps 362 = .ok (.iload 8, 2) := by decide +kernel
theorem dX5_maps_364 : decode cX5_maps 364 = .ok (.iadd, 1) := by decide +kernel
theorem dX5_maps_365 : decode cX5_maps 365 = .ok (.iastore, 1) := by decide +kernel
theorem dX5_maps_366 : decode cX5_maps 366 = .ok (.iload 8, 2) := by decide +kernel
theorem dX5_maps_368 : decode cX5_maps 368 = .ok (.ireturn, 1) := by decide +kernel
set_option maxRecDepth 20000 in
theorem ggX5_flush_X5_isThere : GoodIn wsX5_flush wsX5_isThere := goodIn_r _ [7, 8, 9, 10, 6, 11, 49, 50, 51, 52, 53, 54, 55, 56, 57, 58, 59, 60, 61, 62, 63, 64, 65, 66] (by decide +kernel) (by decide +kernel)
set_option maxRecDepth 20000 in
theorem gX5_flush_X5_isThere : GoodIn wsX5_flush (wsV RX5 126 RX5 yX5_isThere wsX5_isThere) := goodIn_app (goodIn_of _ (by decide +kernel)) ggX5_flush_X5_isThere
set_option maxRecDepth 20000 in
theorem ggX5_flush_X5_asked_ : GoodIn wsX5_flush wsX5_asked_ := goodIn_r _ [15, 16, 49, 50, 51, 52, 53, 54, 55, 56, 57, 58, 59, 60, 61, 62, 63, 64, 65, 66] (by decide +kernel) (by decide +kernel)
set_option maxRecDepth 20000 in
theorem gX5_flush_X5_asked_ : GoodIn wsX5_flush (wsV RX5 119 RX5 yX5_asked_ wsX5_asked_) := goodIn_app (goodIn_of _ (by decide +kernel)) ggX5_flush_X5_asked_
set_option maxRecDepth 20000 in
theorem ggX5_flush_X5_maps : GoodIn wsX5_flush wsX5_maps := goodIn_r _ [20, 21, 22, 2, 23, 24, 25, 26, 27, 6, 28, 29, 30, 31, 32, 33, 34, 35, 36, 37, 38, 39, 40, 41, 42, 43, 44, 45, 46, 47, 48, 49, 50, 51, 52, 53, 54, 55, 56, 57, 58, 59, 60, 61, 62, 63, 64, 65, 66] (by decide +kernel) (by decide +kernel)
set_option maxRecDepth 20000 in
theorem gX5_flush_X5_maps : GoodIn wsX5_flush (wsV RX5 150 RX5 yX5_maps wsX5_maps) := goodIn_app (goodIn_of _ (by decide +kernel)) ggX5_flush_X5_maps
theorem dX5_flush_0 : decode cX5_flush 0 = .ok (.aload_n 0, 1) := by decide +kernel
theorem dX5_flush_1 : decode cX5_flush 1 = .ok (.iload_n 1, 1) := by decide +kernel
theorem dX5_flush_2 : decode cX5_flush 2 = .ok (.invokevirtual 126, 3) := by decide +kernel
theorem dX5_flush_5 : decode cX5_flush 5 = .ok (.istore_n 2, 1) := by decide +kernel
theorem dX5_flush_6 : decode cX5_flush 6 = .ok (.aload_n 0, 1) := by decide +kernel
theorem dX5_flush_7 : decode cX5_flush 7 = .ok (.iload_n 2, 1) := by decide +kernel
theorem dX5_flush_8 : decode cX5_flush 8 = .ok (.aload_n 0, 1) := by decide +kernel
theorem dX5_flush_9 : decode cX5_flush 9 = .ok (.getfield 98, 3) := by decide +kernel
theorem dX5_flush_12 : decode cX5_flush 12 = .ok (.ifCond .ne 7, 3) := by decide +kernel
theorem dX5_flush_15 : decode cX5_flush 15 = .ok (.iconst 1, 1) := by decide +kernel
theorem dX5_flush_16 : decode cX5_flush 16 = .ok (.goto 4, 3) := by decide +kernel
theorem dX5_flush_19 : decode cX5_flush 19 = .ok (.iconst 0, 1) := by decide +kernel
theorem dX5_flush_20 : decode cX5_flush 20 = .ok (.invokevirtual 119, 3) := by decide +kernel
theorem dX5_flush_23 : decode cX5_flush 23 = .ok (.ifCond .ne 5, 3) := by decide +kernel
theorem dX5_flush_26 : decode cX5_flush 26 = .ok (.iconst 0, 1) := by decide +kernel
theorem dX5_flush_27 : decode cX5_flush 27 = .ok (.ireturn, 1) := by decide +kernel
theorem dX5_flush_28 : decode cX5_flush 28 = .ok (.iconst 0, 1) := by decide +kernel
theorem dX5_flush_29 : decode cX5_flush 29 = .ok (.istore_n 3, 1) := by decide +kernel
theorem dX5_flush_30 : decode cX5_flush 30 = .ok (.iconst 0, 1) := by decide +kernel
theorem dX5_flush_31 : decode cX5_flush 31 = .ok (.istore 4, 2) := by decide +kernel
theorem dX5_flush_33 : decode cX5_flush 33 = .ok (.iload 4, 2) := by decide +kernel
theorem dX5_flush_35 : decode cX5_flush 35 = .ok (.bipush 64, 2) := by decide +kernel
theorem dX5_flush_37 : decode cX5_flush 37 = .ok (.if_icmp .ge 88, 3) := by decide +kernel
theorem dX5_flush_40 : decode cX5_flush 40 = .ok (.iload 4, 2) := by decide +kernel
theorem dX5_flush_42 : decode cX5_flush 42 = .ok (.istore 5, 2) := by decide +kernel
theorem dX5_flush_44 : decode cX5_flush 44 = .ok (.iload 5, 2) := by decide +kernel
theorem dX5_flush_46 : decode cX5_flush 46 = .ok (.bipush 64, 2) := by decide +kernel
theorem dX5_flush_48 : decode cX5_flush 48 = .ok (.if_icmp .ge 26, 3) := by decide +kernel
theorem dX5_flush_51 : decode cX5_flush 51 = .ok (.aload_n 0, 1) := by decide +kernel
theorem dX5_flush_52 : decode cX5_flush 52 = .ok (.getfield 16, 3) := by decide +kernel
theorem dX5_flush_55 : decode cX5_flush 55 = .ok (.bipush 64, 2) := by decide +kernel
theorem dX5_flush_57 : decode cX5_flush 57 = .ok (.iload_n 1, 1) := by decide +kernel
theorem dX5_flush_58 : decode cX5_flush 58 = .ok (.imul, 1) := by decide +kernel
theorem dX5_flush_59 : decode cX5_flush 59 = .ok (.iload 5, 2) := by decide +kernel
theorem dX5_flush_61 : decode cX5_flush 61 = .ok (.iadd, 1) := by decide +kernel
theorem dX5_flush_62 : decode cX5_flush 62 = .ok (.iaload, 1) := by decide +kernel
theorem dX5_flush_63 : decode cX5_flush 63 = .ok (.bipush (-2), 2) := by decide +kernel
theorem dX5_flush_65 : decode cX5_flush 65 = .ok (.if_icmp .ne 9, 3) := by decide +kernel
theorem dX5_flush_68 : decode cX5_flush 68 = .ok (.iinc 5 1, 3) := by decide +kernel
theorem dX5_flush_71 : decode cX5_flush 71 = .ok (.goto (-27), 3) := by decide +kernel
theorem dX5_flush_74 : decode cX5_flush 74 = .ok (.iload 5, 2) := by decide +kernel
theorem dX5_flush_76 : decode cX5_flush 76 = .ok (.iload 4, 2) := by decide +kernel
theorem dX5_flush_78 : decode cX5_flush 78 = .ok (.if_icmp .le 18, 3) := by decide +kernel
theorem dX5_flush_81 : decode cX5_flush 81 = .ok (.aload_n 0, 1) := by decide +kernel
theorem dX5_flush_82 : decode cX5_flush 82 = .ok (.iload_n 1, 1) := by decide +kernel
theorem dX5_flush_83 : decode cX5_flush 83 = .ok (.iload 4, 2) := by decide +kernel
theorem dX5_flush_85 : decode cX5_flush 85 = .ok (.iload 5, 2) := by decide +kernel
theorem dX5_flush_87 : decode cX5_flush 87 = .ok (.iload 4, 2) := by decide +kernel
theorem dX5_flush_89 : decode cX5_flush 89 = .ok (.isub, 1) := by decide +kernel
theorem dX5_flush_90 : decode cX5_flush 90 = .ok (.invokevirtual 150, 3) := by decide +kernel
theorem dX5_flush_93 : decode cX5_flush 93 = .ok (.goto 4, 3) := by decide +kernel
theorem dX5_flush_96 : decode cX5_flush 96 = .ok (.iconst 0, 1) := by decide +kernel
theorem dX5_flush_97 : decode cX5_flush 97 = .ok (.istore 6, 2) := by decide +kernel
theorem dX5_flush_99 : decode cX5_flush 99 = .ok (.iload_n 3, 1) := by decide +kernel
theorem dX5_flush_100 : decode cX5_flush 100 = .ok (.iload 6, 2) := by decide +kernel
theorem dX5_flush_102 : decode cX5_flush 102 = .ok (.iadd, 1) := by decide +kernel
theorem dX5_flush_103 : decode cX5_flush 103 = .ok (.istore_n 3, 1) := by decide +kernel
theorem dX5_flush_104 : decode cX5_flush 104 = .ok (.iload 4, 2) := by decide +kernel
theorem dX5_flush_106 : decode cX5_flush 106 = .ok (.iload 5, 2) := by decide +kernel
theorem dX5_flush_108 : decode cX5_flush 108 = .ok (.iload 4, 2) := by decide +kernel
theorem dX5_flush_110 : decode cX5_flush 110 = .ok (.if_icmp .le 8, 3) := by decide +kernel
theorem dX5_flush_113 : decode cX5_flush 113 = .ok (.iload 6, 2) := by decide +kernel
theorem dX5_flush_115 : decode cX5_flush 115 = .ok (.goto 4, 3) := by decide +kernel
theorem dX5_flush_118 : decode cX5_flush 118 = .ok (.iconst 1, 1) := by decide +kernel
theorem dX5_flush_119 : decode cX5_flush 119 = .ok (.iadd, 1) := by decide +kernel
theorem dX5_flush_120 : decode cX5_flush 120 = .ok (.istore 4, 2) := by decide +kernel
theorem dX5_flush_122 : decode cX5_flush 122 = .ok (.goto (-89), 3) := by decide +kernel
theorem dX5_flush_125 : decode cX5_flush 125 = .ok (.iload_n 3, 1) := by decide +kernel
theorem dX5_flush_126 : decode cX5_flush 126 = .ok (.ireturn, 1) := by decide +kernel
set_option maxRecDepth 20000 in
theorem ggX5_cut_X5_isThere : GoodIn wsX5_cut wsX5_isThere := goodIn_r _ [7, 8, 9, 10, 6, 11, 39, 40, 41, 42, 43, 44, 45, 46, 47, 48, 49, 50, 51, 52, 53, 54, 55, 56] (by decide +kernel) (by decide +kernel)
set_option maxRecDepth 20000 in
theorem gX5_cut_X5_isThere : GoodIn wsX5_cut (wsV RX5 126 RX5 yX5_isThere wsX5_isThere) := goodIn_app (goodIn_of _ (by decide +kernel)) ggX5_cut_X5_isThere
set_option maxRecDepth 20000 in
theorem ggX5_cut_X5_in : GoodIn wsX5_cut wsX5_in := goodIn_r _ [11] (by decide +kernel) (by decide +kernel)
set_option maxRecDepth 20000 in
theorem gX5_cut_X5_in : GoodIn wsX5_cut (va_wsS RX5 60 yX5_in wsX5_in) := goodIn_app (goodIn_of _ (by decide +kernel)) ggX5_cut_X5_in
set_option maxRecDepth 20000 in
theorem ggX5_cut_X5_asked__ : GoodIn wsX5_cut wsX5_asked__ := goodIn_r _ [15, 16, 39, 40, 41, 42, 43, 44, 45, 46, 47, 48, 49, 50, 51, 52, 53, 54, 55, 56] (by decide +kernel) (by decide +kernel)
set_option maxRecDepth 20000 in
theorem gX5_cut_X5_asked__ : GoodIn wsX5_cut (wsV RX5 141 RX5 yX5_asked__ wsX5_asked__) := goodIn_app (goodIn_of _ (by decide +kernel)) ggX5_cut_X5_asked__
set_option maxRecDepth 20000 in
theorem ggX5_cut_X5_cuts : GoodIn wsX5_cut wsX5_cuts := goodIn_r _ [20, 21, 22, 2, 23, 24, 25, 6, 26, 27, 28, 29, 30, 31, 32, 33, 34, 35, 36, 37, 38, 1, 39, 40, 41, 42, 43, 44, 45, 46, 47, 48, 49, 50, 51, 52, 53, 54, 55, 56] (by decide +kernel) (by decide +kernel)
set_option maxRecDepth 20000 in
theorem gX5_cut_X5_cuts : GoodIn wsX5_cut (wsV RX5 111 RX5 yX5_cuts wsX5_cuts) := goodIn_app (goodIn_of _ (by decide +kernel)) ggX5_cut_X5_cuts
theorem dX5_cut_0 : decode cX5_cut 0 = .ok (.aload_n 0, 1) := by decide +kernel
theorem dX5_cut_1 : decode cX5_cut 1 = .ok (.iload_n 1, 1) := by decide +kernel
theorem dX5_cut_2 : decode cX5_cut 2 = .ok (.invokevirtual 126, 3) := by decide +kernel
theorem dX5_cut_5 : decode cX5_cut 5 = .ok (.istore_n 3, 1) := by decide +kernel
theorem dX5_cut_6 : decode cX5_cut 6 = .ok (.aload_n 0, 1) := by decide +kernel
theorem dX5_cut_7 : decode cX5_cut 7 = .ok (.iload_n 3, 1) := by decide +kernel
theorem dX5_cut_8 : decode cX5_cut 8 = .ok (.iload_n 2, 1) := by decide +kernel
theorem dX5_cut_9 : decode cX5_cut 9 = .ok (.iconst 0, 1) := by decide +kernel
theorem dX5_cut_10 : decode cX5_cut 10 = .ok (.bipush 64, 2) := by decide +kernel
theorem dX5_cut_12 : decode cX5_cut 12 = .ok (.invokestatic 60, 3) := by decide +kernel
theorem dX5_cut_15 : decode cX5_cut 15 = .ok (.aload_n 0, 1) := by decide +kernel
theorem dX5_cut_16 : decode cX5_cut 16 = .ok (.getfield 98, 3) := by decide +kernel
theorem dX5_cut_19 : decode cX5_cut 19 = .ok (.ifCond .ne 7, 3) := by decide +kernel
theorem dX5_cut_22 : decode cX5_cut 22 = .ok (.iconst 1, 1) := by decide +kernel
theorem dX5_cut_23 : decode cX5_cut 23 = .ok (.goto 4, 3) := by decide +kernel
theorem dX5_cut_26 : decode cX5_cut 26 = .ok (.iconst 0, 1) := by decide +kernel
theorem dX5_cut_27 : decode cX5_cut 27 = .ok (.invokevirtual 141, 3) := by decide +kernel
theorem dX5_cut_30 : decode cX5_cut 30 = .ok (.ifCond .ne 5, 3) := by decide +kernel
theorem dX5_cut_33 : decode cX5_cut 33 = .ok (.iconst 0, 1) := by decide +kernel
theorem dX5_cut_34 : decode cX5_cut 34 = .ok (.ireturn, 1) := by decide +kernel
theorem dX5_cut_35 : decode cX5_cut 35 = .ok (.aload_n 0, 1) := by decide +kernel
theorem dX5_cut_36 : decode cX5_cut 36 = .ok (.getfield 32, 3) := by decide +kernel
theorem dX5_cut_39 : decode cX5_cut 39 = .ok (.iload_n 1, 1) := by decide +kernel
theorem dX5_cut_40 : decode cX5_cut 40 = .ok (.iload_n 2, 1) := by decide +kernel
theorem dX5_cut_41 : decode cX5_cut 41 = .ok (.iastore, 1) := by decide +kernel
theorem dX5_cut_42 : decode cX5_cut 42 = .ok (.aload_n 0, 1) := by decide +kernel
theorem dX5_cut_43 : decode cX5_cut 43 = .ok (.iload_n 1, 1) := by decide +kernel
theorem dX5_cut_44 : decode cX5_cut 44 = .ok (.iload_n 2, 1) := by decide +kernel
theorem dX5_cut_45 : decode cX5_cut 45 = .ok (.invokevirtual 111, 3) := by decide +kernel
theorem dX5_cut_48 : decode cX5_cut 48 = .ok (.ireturn, 1) := by decide +kernel
set_option maxRecDepth 20000 in
theorem ggX5_crashBehind_X5_in : GoodIn wsX5_crashBehind wsX5_in := goodIn_r _ [6] (by decide +kernel) (by decide +kernel)
set_option maxRecDepth 20000 in
theorem gX5_crashBehind_X5_in : GoodIn wsX5_crashBehind (va_wsS RX5 60 yX5_in wsX5_in) := goodIn_app (goodIn_of _ (by decide +kernel)) ggX5_crashBehind_X5_in
set_option maxRecDepth 20000 in
theorem ggX5_crashBehind_X5_asked_ : GoodIn wsX5_crashBehind wsX5_asked_ := goodIn_r _ [10, 11, 12, 13, 14, 15, 16, 17, 18, 19, 20, 21, 22, 23, 24, 25, 26, 27, 28, 29] (by decide +kernel) (by decide +kernel)
set_option maxRecDepth 20000 in
theorem gX5_crashBehind_X5_asked_ : GoodIn wsX5_crashBehind (wsV RX5 119 RX5 yX5_asked_ wsX5_asked_) := goodIn_app (goodIn_of _ (by decide +kernel)) ggX5_crashBehind_X5_asked_
theorem dX5_crashBehind_0 : decode cX5_crashBehind 0 = .ok (.aload_n 0, 1) := by decide +kernel
theorem dX5_crashBehind_1 : decode cX5_crashBehind 1 = .ok (.iload_n 1, 1) := by decide +kernel
theorem dX5_crashBehind_2 : decode cX5_crashBehind 2 = .ok (.iconst (-1), 1) := by decide +kernel
theorem dX5_crashBehind_3 : decode cX5_crashBehind 3 = .ok (.if_icmp .eq 13, 3) := by decide +kernel
theorem dX5_crashBehind_6 : decode cX5_crashBehind 6 = .ok (.iload_n 1, 1) := by decide +kernel
theorem dX5_crashBehind_7 : decode cX5_crashBehind 7 = .ok (.iconst 1, 1) := by decide +kernel
theorem dX5_crashBehind_8 : decode cX5_crashBehind 8 = .ok (.bipush 50, 2) := by decide +kernel
theorem dX5_crashBehind_10 : decode cX5_crashBehind 10 = .ok (.invokestatic 60, 3) := by decide +kernel
theorem dX5_crashBehind_13 : decode cX5_crashBehind 13 = .ok (.ifCond .eq 7, 3) := by decide +kernel
theorem dX5_crashBehind_16 : decode cX5_crashBehind 16 = .ok (.iconst 1, 1) := by decide +kernel
theorem dX5_crashBehind_17 : decode cX5_crashBehind 17 = .ok (.goto 4, 3) := by decide +kernel
theorem dX5_crashBehind_20 : decode cX5_crashBehind 20 = .ok (.iconst 0, 1) := by decide +kernel
theorem dX5_crashBehind_21 : decode cX5_crashBehind 21 = .ok (.aload_n 0, 1) := by decide +kernel
theorem dX5_crashBehind_22 : decode cX5_crashBehind 22 = .ok (.getfield 98, 3) := by decide +kernel
theorem dX5_crashBehind_25 : decode cX5_crashBehind 25 = .ok (.ifCond .ne 7, 3) := by decide +kernel
theorem dX5_crashBehind_28 : decode cX5_crashBehind 28 = .ok (.iconst 1, 1) := by decide +kernel
theorem dX5_crashBehind_29 : decode cX5_crashBehind 29 = .ok (.goto 4, 3) := by decide +kernel
theorem dX5_crashBehind_32 : decode cX5_crashBehind 32 = .ok (.iconst 0, 1) := by decide +kernel
theorem dX5_crashBehind_33 : decode cX5_crashBehind 33 = .ok (.invokevirtual 119, 3) := by decide +kernel
theorem dX5_crashBehind_36 : decode cX5_crashBehind 36 = .ok (.ifCond .eq 17, 3) := by decide +kernel
theorem dX5_crashBehind_39 : decode cX5_crashBehind 39 = .ok (.aload_n 0, 1) := by decide +kernel
theorem dX5_crashBehind_40 : decode cX5_crashBehind 40 = .ok (.iload_n 1, 1) := by decide +kernel
theorem dX5_crashBehind_41 : decode cX5_crashBehind 41 = .ok (.iconst (-1), 1) := by decide +kernel
theorem dX5_crashBehind_42 : decode cX5_crashBehind 42 = .ok (.if_icmp .ne 7, 3) := by decide +kernel
theorem dX5_crashBehind_45 : decode cX5_crashBehind 45 = .ok (.iconst 0, 1) := by decide +kernel
theorem dX5_crashBehind_46 : decode cX5_crashBehind 46 = .ok (.goto 4, 3) := by decide +kernel
theorem dX5_crashBehind_49 : decode cX5_crashBehind 49 = .ok (.iload_n 1, 1) := by decide +kernel
theorem dX5_crashBehind_50 : decode cX5_crashBehind 50 = .ok (.putfield 102, 3) := by decide +kernel
theorem dX5_crashBehind_53 : decode cX5_crashBehind 53 = .ok (.return_, 1) := by decide +kernel
set_option maxRecDepth 20000 in
theorem ggX5_crash_X5_asked : GoodIn wsX5_crash wsX5_asked := goodIn_r _ [6, 7, 22, 23, 24, 25, 26, 27, 28, 29, 30, 31, 32, 33, 34, 35, 36, 37, 38, 39] (by decide +kernel) (by decide +kernel)
set_option maxRecDepth 20000 in
theorem gX5_crash_X5_asked : GoodIn wsX5_crash (wsV RX5 154 RX5 yX5_asked wsX5_asked) := goodIn_app (goodIn_of _ (by decide +kernel)) ggX5_crash_X5_asked
set_option maxRecDepth 20000 in
theorem ggX5_crash_X5_crashes : GoodIn wsX5_crash wsX5_crashes := goodIn_r _ [11, 12, 13, 1, 14, 15, 16, 17, 5, 18, 19, 20, 21, 22, 23, 24, 25, 26, 27, 28, 29, 30, 31, 32, 33, 34, 35, 36, 37, 38, 39] (by decide +kernel) (by decide +kernel)
set_option maxRecDepth 20000 in
theorem gX5_crash_X5_crashes : GoodIn wsX5_crash (wsV RX5 108 RX5 yX5_crashes wsX5_crashes) := goodIn_app (goodIn_of _ (by decide +kernel)) ggX5_crash_X5_crashes
theorem dX5_crash_0 : decode cX5_crash 0 = .ok (.aload_n 0, 1) := by decide +kernel
theorem dX5_crash_1 : decode cX5_crash 1 = .ok (.aload_n 0, 1) := by decide +kernel
theorem dX5_crash_2 : decode cX5_crash 2 = .ok (.getfield 98, 3) := by decide +kernel
theorem dX5_crash_5 : decode cX5_crash 5 = .ok (.ifCond .ne 7, 3) := by decide +kernel
theorem dX5_crash_8 : decode cX5_crash 8 = .ok (.iconst 1, 1) := by decide +kernel
theorem dX5_crash_9 : decode cX5_crash 9 = .ok (.goto 4, 3) := by decide +kernel
theorem dX5_crash_12 : decode cX5_crash 12 = .ok (.iconst 0, 1) := by decide +kernel
theorem dX5_crash_13 : decode cX5_crash 13 = .ok (.invokevirtual 154, 3) := by decide +kernel
theorem dX5_crash_16 : decode cX5_crash 16 = .ok (.ifCond .eq 7, 3) := by decide +kernel
theorem dX5_crash_19 : decode cX5_crash 19 = .ok (.aload_n 0, 1) := by decide +kernel
theorem dX5_crash_20 : decode cX5_crash 20 = .ok (.invokevirtual 108, 3) := by decide +kernel
theorem dX5_crash_23 : decode cX5_crash 23 = .ok (.return_, 1) := by decide +kernel
set_option maxRecDepth 20000 in
theorem ggX5_start_X5_asked : GoodIn wsX5_start wsX5_asked := goodIn_r _ [8, 9, 37, 38, 39, 40, 41, 42, 43, 44, 45, 46, 47, 48, 49, 50, 51, 52, 53, 54] (by decide +kernel) (by decide +kernel)
set_option maxRecDepth 20000 in
theorem gX5_start_X5_asked : GoodIn wsX5_start (wsV RX5 154 RX5 yX5_asked wsX5_asked) := goodIn_app (goodIn_of _ (by decide +kernel)) ggX5_start_X5_asked
set_option maxRecDepth 20000 in
theorem ggX5_start_X5_ends : GoodIn wsX5_start wsX5_ends := goodIn_r _ [13, 14, 2, 15, 16, 17, 7, 18, 19, 20, 3, 21, 22, 23, 24, 25, 26, 27, 28, 29, 30, 31, 32, 33, 34, 35, 36, 1, 37, 38, 39, 40, 41, 42, 43, 44, 45, 46, 47, 48, 49, 50, 51, 52, 53, 54] (by decide +kernel) (by decide +kernel)
set_option maxRecDepth 20000 in
theorem gX5_start_X5_ends : GoodIn wsX5_start (wsV RX5 129 RX5 yX5_ends wsX5_ends) := goodIn_app (goodIn_of _ (by decide +kernel)) ggX5_start_X5_ends
set_option maxRecDepth 20000 in
theorem ggX5_start_X5_cuts : GoodIn wsX5_start wsX5_cuts := goodIn_r _ [18, 19, 20, 3, 21, 22, 23, 7, 24, 25, 26, 27, 28, 29, 30, 31, 32, 33, 34, 35, 36, 1, 37, 38, 39, 40, 41, 42, 43, 44, 45, 46, 47, 48, 49, 50, 51, 52, 53, 54] (by decide +kernel) (by decide +kernel)
set_option maxRecDepth 20000 in
theorem gX5_start_X5_cuts : GoodIn wsX5_start (wsV RX5 111 RX5 yX5_cuts wsX5_cuts) := goodIn_app (goodIn_of _ (by decide +kernel)) ggX5_start_X5_cuts
theorem dX5_start_0 : decode cX5_start 0 = .ok (.aload_n 0, 1) := by decide +kernel
theorem dX5_start_1 : decode cX5_start 1 = .ok (.aload_n 0, 1) := by decide +kernel
theorem dX5_start_2 : decode cX5_start 2 = .ok (.getfield 98, 3) := by decide +kernel
theorem dX5_start_5 : decode cX5_start 5 = .ok (.invokevirtual 154, 3) := by decide +kernel
theorem dX5_start_8 : decode cX5_start 8 = .ok (.ifCond .ne 5, 3) := by decide +kernel
theorem dX5_start_11 : decode cX5_start 11 = .ok (.iconst 0, 1) := by decide +kernel
theorem dX5_start_12 : decode cX5_start 12 = .ok (.ireturn, 1) := by decide +kernel
theorem dX5_start_13 : decode cX5_start 13 = .ok (.aload_n 0, 1) := by decide +kernel
theorem dX5_start_14 : decode cX5_start 14 = .ok (.iconst 0, 1) := by decide +kernel
theorem dX5_start_15 : decode cX5_start 15 = .ok (.putfield 98, 3) := by decide +kernel
theorem dX5_start_18 : decode cX5_start 18 = .ok (.iconst 0, 1) := by decide +kernel
theorem dX5_start_19 : decode cX5_start 19 = .ok (.istore_n 1, 1) := by decide +kernel
theorem dX5_start_20 : decode cX5_start 20 = .ok (.iconst 0, 1) := by decide +kernel
theorem dX5_start_21 : decode cX5_start 21 = .ok (.istore_n 2, 1) := by decide +kernel
theorem dX5_start_22 : decode cX5_start 22 = .ok (.iload_n 2, 1) := by decide +kernel
theorem dX5_start_23 : decode cX5_start 23 = .ok (.bipush 16, 2) := by decide +kernel
theorem dX5_start_25 : decode cX5_start 25 = .ok (.if_icmp .ge 76, 3) := by decide +kernel
theorem dX5_start_28 : decode cX5_start 28 = .ok (.iload_n 1, 1) := by decide +kernel
theorem dX5_start_29 : decode cX5_start 29 = .ok (.aload_n 0, 1) := by decide +kernel
theorem dX5_start_30 : decode cX5_start 30 = .ok (.getfield 35, 3) := by decide +kernel
theorem dX5_start_33 : decode cX5_start 33 = .ok (.iload_n 2, 1) := by decide +kernel
theorem dX5_start_34 : decode cX5_start 34 = .ok (.baload, 1) := by decide +kernel
theorem dX5_start_35 : decode cX5_start 35 = .ok (.ifCond .ne 13, 3) := by decide +kernel
theorem dX5_start_38 : decode cX5_start 38 = .ok (.aload_n 0, 1) := by decide +kernel
theorem dX5_start_39 : decode cX5_start 39 = .ok (.getfield 32, 3) := by decide +kernel
theorem dX5_start_42 : decode cX5_start 42 = .ok (.iload_n 2, 1) := by decide +kernel
theorem dX5_start_43 : decode cX5_start 43 = .ok (.iaload, 1) := by decide +kernel
theorem dX5_start_44 : decode cX5_start 44 = .ok (.iconst (-1), 1) := by decide +kernel
theorem dX5_start_45 : decode cX5_start 45 = .ok (.if_icmp .eq 7, 3) := by decide +kernel
theorem dX5_start_48 : decode cX5_start 48 = .ok (.iconst 1, 1) := by decide +kernel
theorem dX5_start_49 : decode cX5_start 49 = .ok (.goto 4, 3) := by decide +kernel
theorem dX5_start_52 : decode cX5_start 52 = .ok (.iconst 0, 1) := by decide +kernel
theorem dX5_start_53 : decode cX5_start 53 = .ok (.iadd, 1) := by decide +kernel
theorem dX5_start_54 : decode cX5_start 54 = .ok (.istore_n 1, 1) := by decide +kernel
theorem dX5_start_55 : decode cX5_start 55 = .ok (.aload_n 0, 1) := by decide +kernel
theorem dX5_start_56 : decode cX5_start 56 = .ok (.getfield 35, 3) := by decide +kernel
theorem dX5_start_59 : decode cX5_start 59 = .ok (.iload_n 2, 1) := by decide +kernel
theorem dX5_start_60 : decode cX5_start 60 = .ok (.baload, 1) := by decide +kernel
theorem dX5_start_61 : decode cX5_start 61 = .ok (.ifCond .eq 12, 3) := by decide +kernel
theorem dX5_start_64 : decode cX5_start 64 = .ok (.aload_n 0, 1) := by decide +kernel
theorem dX5_start_65 : decode cX5_start 65 = .ok (.iload_n 2, 1) := by decide +kernel
theorem dX5_start_66 : decode cX5_start 66 = .ok (.invokevirtual 129, 3) := by decide +kernel
theorem dX5_start_69 : decode cX5_start 69 = .ok (.pop, 1) := by decide +kernel
theorem dX5_start_70 : decode cX5_start 70 = .ok (.goto 25, 3) := by decide +kernel
theorem dX5_start_73 : decode cX5_start 73 = .ok (.aload_n 0, 1) := by decide +kernel
theorem dX5_start_74 : decode cX5_start 74 = .ok (.getfield 32, 3) := by decide +kernel
theorem dX5_start_77 : decode cX5_start 77 = .ok (.iload_n 2, 1) := by decide +kernel
theorem dX5_start_78 : decode cX5_start 78 = .ok (.iaload, 1) := by decide +kernel
theorem dX5_start_79 : decode cX5_start 79 = .ok (.iconst (-1), 1) := by decide +kernel
theorem dX5_start_80 : decode cX5_start 80 = .ok (.if_icmp .eq 15, 3) := by decide +kernel
theorem dX5_start_83 : decode cX5_start 83 = .ok (.aload_n 0, 1) := by decide +kernel
theorem dX5_start_84 : decode cX5_start 84 = .ok (.iload_n 2, 1) := by decide +kernel
theorem dX5_start_85 : decode cX5_start 85 = .ok (.aload_n 0, 1) := by decide +kernel
theorem dX5_start_86 : decode cX5_start 86 = .ok (.getfield 32, 3) := by decide +kernel
theorem dX5_start_89 : decode cX5_start 89 = .ok (.iload_n 2, 1) := by decide +kernel
theorem dX5_start_90 : decode cX5_start 90 = .ok (.iaload, 1) := by decide +kernel
theorem dX5_start_91 : decode cX5_start 91 = .ok (.invokevirtual 111, 3) := by decide +kernel
theorem dX5_start_94 : decode cX5_start 94 = .ok (.pop, 1) := by decide +kernel
theorem dX5_start_95 : decode cX5_start 95 = .ok (.iinc 2 1, 3) := by decide +kernel
theorem dX5_start_98 : decode cX5_start 98 = .ok (.goto (-76), 3) := by decide +kernel
theorem dX5_start_101 : decode cX5_start 101 = .ok (.iload_n 1, 1) := by decide +kernel
theorem dX5_start_102 : decode cX5_start 102 = .ok (.ireturn, 1) := by decide +kernel
theorem dX5_isDown_0 : decode cX5_isDown 0 = .ok (.aload_n 0, 1) := by decide +kernel
theorem dX5_isDown_1 : decode cX5_isDown 1 = .ok (.iconst 0, 1) := by decide +kernel
theorem dX5_isDown_2 : decode cX5_isDown 2 = .ok (.putfield 57, 3) := by decide +kernel
theorem dX5_isDown_5 : decode cX5_isDown 5 = .ok (.aload_n 0, 1) := by decide +kernel
theorem dX5_isDown_6 : decode cX5_isDown 6 = .ok (.getfield 98, 3) := by decide +kernel
theorem dX5_isDown_9 : decode cX5_isDown 9 = .ok (.ireturn, 1) := by decide +kernel
set_option maxRecDepth 20000 in
theorem ggX5_files_X5_told : GoodIn wsX5_files wsX5_told := goodIn_r _ [6, 7, 8, 9, 10, 11, 12, 13, 14, 15, 16, 17, 18, 19, 20, 21, 22, 23, 24, 25] (by decide +kernel) (by decide +kernel)
set_option maxRecDepth 20000 in
theorem gX5_files_X5_told : GoodIn wsX5_files (wsV RX5 157 RX5 yX5_told wsX5_told) := goodIn_app (goodIn_of _ (by decide +kernel)) ggX5_files_X5_told
theorem dX5_files_0 : decode cX5_files 0 = .ok (.iconst 0, 1) := by decide +kernel
theorem dX5_files_1 : decode cX5_files 1 = .ok (.istore_n 1, 1) := by decide +kernel
theorem dX5_files_2 : decode cX5_files 2 = .ok (.iconst 0, 1) := by decide +kernel
theorem dX5_files_3 : decode cX5_files 3 = .ok (.istore_n 2, 1) := by decide +kernel
theorem dX5_files_4 : decode cX5_files 4 = .ok (.iload_n 2, 1) := by decide +kernel
theorem dX5_files_5 : decode cX5_files 5 = .ok (.bipush 16, 2) := by decide +kernel
theorem dX5_files_7 : decode cX5_files 7 = .ok (.if_icmp .ge 26, 3) := by decide +kernel
theorem dX5_files_10 : decode cX5_files 10 = .ok (.iload_n 1, 1) := by decide +kernel
theorem dX5_files_11 : decode cX5_files 11 = .ok (.aload_n 0, 1) := by decide +kernel
theorem dX5_files_12 : decode cX5_files 12 = .ok (.getfield 13, 3) := by decide +kernel
theorem dX5_files_15 : decode cX5_files 15 = .ok (.iload_n 2, 1) := by decide +kernel
theorem dX5_files_16 : decode cX5_files 16 = .ok (.baload, 1) := by decide +kernel
theorem dX5_files_17 : decode cX5_files 17 = .ok (.ifCond .eq 7, 3) := by decide +kernel
theorem dX5_files_20 : decode cX5_files 20 = .ok (.iconst 1, 1) := by decide +kernel
theorem dX5_files_21 : decode cX5_files 21 = .ok (.goto 4, 3) := by decide +kernel
theorem dX5_files_24 : decode cX5_files 24 = .ok (.iconst 0, 1) := by decide +kernel
theorem dX5_files_25 : decode cX5_files 25 = .ok (.iadd, 1) := by decide +kernel
theorem dX5_files_26 : decode cX5_files 26 = .ok (.istore_n 1, 1) := by decide +kernel
theorem dX5_files_27 : decode cX5_files 27 = .ok (.iinc 2 1, 3) := by decide +kernel
theorem dX5_files_30 : decode cX5_files 30 = .ok (.goto (-26), 3) := by decide +kernel
theorem dX5_files_33 : decode cX5_files 33 = .ok (.aload_n 0, 1) := by decide +kernel
theorem dX5_files_34 : decode cX5_files 34 = .ok (.iload_n 1, 1) := by decide +kernel
theorem dX5_files_35 : decode cX5_files 35 = .ok (.invokevirtual 157, 3) := by decide +kernel
theorem dX5_files_38 : decode cX5_files 38 = .ok (.ireturn, 1) := by decide +kernel
set_option maxRecDepth 20000 in
theorem ggX5_listed_X5_told : GoodIn wsX5_listed wsX5_told := goodIn_r _ [7, 8, 9, 10, 11, 12, 13, 14, 15, 16, 17, 18, 19, 20, 21, 22, 23, 24, 25, 26] (by decide +kernel) (by decide +kernel)
set_option maxRecDepth 20000 in
theorem gX5_listed_X5_told : GoodIn wsX5_listed (wsV RX5 157 RX5 yX5_told wsX5_told) := goodIn_app (goodIn_of _ (by decide +kernel)) ggX5_listed_X5_told
theorem dX5_listed_0 : decode cX5_listed 0 = .ok (.iconst 0, 1) := by decide +kernel
theorem dX5_listed_1 : decode cX5_listed 1 = .ok (.istore_n 1, 1) := by decide +kernel
theorem dX5_listed_2 : decode cX5_listed 2 = .ok (.iconst 0, 1) := by decide +kernel
theorem dX5_listed_3 : decode cX5_listed 3 = .ok (.istore_n 2, 1) := by decide +kernel
theorem dX5_listed_4 : decode cX5_listed 4 = .ok (.iload_n 2, 1) := by decide +kernel
theorem dX5_listed_5 : decode cX5_listed 5 = .ok (.bipush 16, 2) := by decide +kernel
theorem dX5_listed_7 : decode cX5_listed 7 = .ok (.if_icmp .ge 36, 3) := by decide +kernel
theorem dX5_listed_10 : decode cX5_listed 10 = .ok (.iload_n 1, 1) := by decide +kernel
theorem dX5_listed_11 : decode cX5_listed 11 = .ok (.aload_n 0, 1) := by decide +kernel
theorem dX5_listed_12 : decode cX5_listed 12 = .ok (.getfield 35, 3) := by decide +kernel
theorem dX5_listed_15 : decode cX5_listed 15 = .ok (.iload_n 2, 1) := by decide +kernel
theorem dX5_listed_16 : decode cX5_listed 16 = .ok (.baload, 1) := by decide +kernel
theorem dX5_listed_17 : decode cX5_listed 17 = .ok (.ifCond .ne 13, 3) := by decide +kernel
theorem dX5_listed_20 : decode cX5_listed 20 = .ok (.aload_n 0, 1) := by decide +kernel
theorem dX5_listed_21 : decode cX5_listed 21 = .ok (.getfield 32, 3) := by decide +kernel
theorem dX5_listed_24 : decode cX5_listed 24 = .ok (.iload_n 2, 1) := by decide +kernel
theorem dX5_listed_25 : decode cX5_listed 25 = .ok (.iaload, 1) := by decide +kernel
theorem dX5_listed_26 : decode cX5_listed 26 = .ok (.iconst (-1), 1) := by decide +kernel
theorem dX5_listed_27 : decode cX5_listed 27 = .ok (.if_icmp .eq 7, 3) := by decide +kernel
theorem dX5_listed_30 : decode cX5_listed 30 = .ok (.iconst 1, 1) := by decide +kernel
theorem dX5_listed_31 : decode cX5_listed 31 = .ok (.goto 4, 3) := by decide +kernel
theorem dX5_listed_34 : decode cX5_listed 34 = .ok (.iconst 0, 1) := by decide +kernel
theorem dX5_listed_35 : decode cX5_listed 35 = .ok (.iadd, 1) := by decide +kernel
theorem dX5_listed_36 : decode cX5_listed 36 = .ok (.istore_n 1, 1) := by decide +kernel
theorem dX5_listed_37 : decode cX5_listed 37 = .ok (.iinc 2 1, 3) := by decide +kernel
theorem dX5_listed_40 : decode cX5_listed 40 = .ok (.goto (-36), 3) := by decide +kernel
theorem dX5_listed_43 : decode cX5_listed 43 = .ok (.aload_n 0, 1) := by decide +kernel
theorem dX5_listed_44 : decode cX5_listed 44 = .ok (.iload_n 1, 1) := by decide +kernel
theorem dX5_listed_45 : decode cX5_listed 45 = .ok (.invokevirtual 157, 3) := by decide +kernel
theorem dX5_listed_48 : decode cX5_listed 48 = .ok (.ireturn, 1) := by decide +kernel
set_option maxRecDepth 20000 in
theorem ggX5_opens_X5_isThere : GoodIn wsX5_opens wsX5_isThere := goodIn_r _ [6, 7, 8, 9, 5, 10, 16, 17, 18, 19, 20, 21, 22, 23, 24, 25, 26, 27, 28, 29, 30, 31, 32, 33] (by decide +kernel) (by decide +kernel)
set_option maxRecDepth 20000 in
theorem gX5_opens_X5_isThere : GoodIn wsX5_opens (wsV RX5 126 RX5 yX5_isThere wsX5_isThere) := goodIn_app (goodIn_of _ (by decide +kernel)) ggX5_opens_X5_isThere
set_option maxRecDepth 20000 in
theorem ggX5_opens_X5_asked : GoodIn wsX5_opens wsX5_asked := goodIn_r _ [14, 15, 16, 17, 18, 19, 20, 21, 22, 23, 24, 25, 26, 27, 28, 29, 30, 31, 32, 33] (by decide +kernel) (by decide +kernel)
set_option maxRecDepth 20000 in
theorem gX5_opens_X5_asked : GoodIn wsX5_opens (wsV RX5 154 RX5 yX5_asked wsX5_asked) := goodIn_app (goodIn_of _ (by decide +kernel)) ggX5_opens_X5_asked
theorem dX5_opens_0 : decode cX5_opens 0 = .ok (.aload_n 0, 1) := by decide +kernel
theorem dX5_opens_1 : decode cX5_opens 1 = .ok (.aload_n 0, 1) := by decide +kernel
theorem dX5_opens_2 : decode cX5_opens 2 = .ok (.iload_n 1, 1) := by decide +kernel
theorem dX5_opens_3 : decode cX5_opens 3 = .ok (.invokevirtual 126, 3) := by decide +kernel
theorem dX5_opens_6 : decode cX5_opens 6 = .ok (.invokevirtual 154, 3) := by decide +kernel
theorem dX5_opens_9 : decode cX5_opens 9 = .ok (.ifCond .eq 12, 3) := by decide +kernel
theorem dX5_opens_12 : decode cX5_opens 12 = .ok (.aload_n 0, 1) := by decide +kernel
theorem dX5_opens_13 : decode cX5_opens 13 = .ok (.getfield 20, 3) := by decide +kernel
theorem dX5_opens_16 : decode cX5_opens 16 = .ok (.iload_n 1, 1) := by decide +kernel
theorem dX5_opens_17 : decode cX5_opens 17 = .ok (.iaload, 1) := by decide +kernel
theorem dX5_opens_18 : decode cX5_opens 18 = .ok (.goto 4, 3) := by decide +kernel
theorem dX5_opens_21 : decode cX5_opens 21 = .ok (.iconst 0, 1) := by decide +kernel
theorem dX5_opens_22 : decode cX5_opens 22 = .ok (.ireturn, 1) := by decide +kernel
set_option maxRecDepth 20000 in
theorem ggX5_free_X5_freeNow : GoodIn wsX5_free wsX5_freeNow := goodIn_r _ [5, 6, 12, 13, 14, 15, 16, 17, 18, 19, 20, 21, 22, 23, 24, 25, 26, 27, 28, 29] (by decide +kernel) (by decide +kernel)
set_option maxRecDepth 20000 in
theorem gX5_free_X5_freeNow : GoodIn wsX5_free (wsV RX5 64 RX5 yX5_freeNow wsX5_freeNow) := goodIn_app (goodIn_of _ (by decide +kernel)) ggX5_free_X5_freeNow
set_option maxRecDepth 20000 in
theorem ggX5_free_X5_told : GoodIn wsX5_free wsX5_told := goodIn_r _ [10, 11, 12, 13, 14, 15, 16, 17, 18, 19, 20, 21, 22, 23, 24, 25, 26, 27, 28, 29] (by decide +kernel) (by decide +kernel)
set_option maxRecDepth 20000 in
theorem gX5_free_X5_told : GoodIn wsX5_free (wsV RX5 157 RX5 yX5_told wsX5_told) := goodIn_app (goodIn_of _ (by decide +kernel)) ggX5_free_X5_told
theorem dX5_free_0 : decode cX5_free 0 = .ok (.aload_n 0, 1) := by decide +kernel
theorem dX5_free_1 : decode cX5_free 1 = .ok (.aload_n 0, 1) := by decide +kernel
theorem dX5_free_2 : decode cX5_free 2 = .ok (.invokevirtual 64, 3) := by decide +kernel
theorem dX5_free_5 : decode cX5_free 5 = .ok (.invokevirtual 157, 3) := by decide +kernel
theorem dX5_free_8 : decode cX5_free 8 = .ok (.ireturn, 1) := by decide +kernel
set_option maxRecDepth 20000 in
theorem ggX5_freeByFiles_X5_keptNow : GoodIn wsX5_freeByFiles wsX5_keptNow := goodIn_r _ [6, 7, 13, 14, 15, 16, 17, 18, 19, 20, 21, 22, 23, 24, 25, 26, 27, 28, 29, 30] (by decide +kernel) (by decide +kernel)
set_option maxRecDepth 20000 in
theorem gX5_freeByFiles_X5_keptNow : GoodIn wsX5_freeByFiles (wsV RX5 138 RX5 yX5_keptNow wsX5_keptNow) := goodIn_app (goodIn_of _ (by decide +kernel)) ggX5_freeByFiles_X5_keptNow
set_option maxRecDepth 20000 in
theorem ggX5_freeByFiles_X5_told : GoodIn wsX5_freeByFiles wsX5_told := goodIn_r _ [11, 12, 13, 14, 15, 16, 17, 18, 19, 20, 21, 22, 23, 24, 25, 26, 27, 28, 29, 30] (by decide +kernel) (by decide +kernel)
set_option maxRecDepth 20000 in
theorem gX5_freeByFiles_X5_told : GoodIn wsX5_freeByFiles (wsV RX5 157 RX5 yX5_told wsX5_told) := goodIn_app (goodIn_of _ (by decide +kernel)) ggX5_freeByFiles_X5_told
theorem dX5_freeByFiles_0 : decode cX5_freeByFiles 0 = .ok (.sipush 128, 3) := by decide +kernel
theorem dX5_freeByFiles_3 : decode cX5_freeByFiles 3 = .ok (.aload_n 0, 1) := by decide +kernel
theorem dX5_freeByFiles_4 : decode cX5_freeByFiles 4 = .ok (.invokevirtual 138, 3) := by decide +kernel
theorem dX5_freeByFiles_7 : decode cX5_freeByFiles 7 = .ok (.isub, 1) := by decide +kernel
theorem dX5_freeByFiles_8 : decode cX5_freeByFiles 8 = .ok (.istore_n 1, 1) := by decide +kernel
theorem dX5_freeByFiles_9 : decode cX5_freeByFiles 9 = .ok (.iconst 0, 1) := by decide +kernel
theorem dX5_freeByFiles_10 : decode cX5_freeByFiles 10 = .ok (.istore_n 2, 1) := by decide +kernel
theorem dX5_freeByFiles_11 : decode cX5_freeByFiles 11 = .ok (.iload_n 2, 1) := by decide +kernel
theorem dX5_freeByFiles_12 : decode cX5_freeByFiles 12 = .ok (.sipush 1024, 3) := by decide +kernel
theorem dX5_freeByFiles_15 : decode cX5_freeByFiles 15 = .ok (.if_icmp .ge 26, 3) := by decide +kernel
theorem dX5_freeByFiles_18 : decode cX5_freeByFiles 18 = .ok (.iload_n 1, 1) := by decide +kernel
theorem dX5_freeByFiles_19 : decode cX5_freeByFiles 19 = .ok (.aload_n 0, 1) := by decide +kernel
theorem dX5_freeByFiles_20 : decode cX5_freeByFiles 20 = .ok (.getfield 16, 3) := by decide +kernel
theorem dX5_freeByFiles_23 : decode cX5_freeByFiles 23 = .ok (.iload_n 2, 1) := by decide +kernel
theorem dX5_freeByFiles_24 : decode cX5_freeByFiles 24 = .ok (.iaload, 1) := by decide +kernel
theorem dX5_freeByFiles_25 : decode cX5_freeByFiles 25 = .ok (.ifCond .lt 7, 3) := by decide +kernel
theorem dX5_freeByFiles_28 : decode cX5_freeByFiles 28 = .ok (.iconst 1, 1) := by decide +kernel
theorem dX5_freeByFiles_29 : decode cX5_freeByFiles 29 = .ok (.goto 4, 3) := by decide +kernel
theorem dX5_freeByFiles_32 : decode cX5_freeByFiles 32 = .ok (.iconst 0, 1) := by decide +kernel
theorem dX5_freeByFiles_33 : decode cX5_freeByFiles 33 = .ok (.isub, 1) := by decide +kernel
theorem dX5_freeByFiles_34 : decode cX5_freeByFiles 34 = .ok (.istore_n 1, 1) := by decide +kernel
theorem dX5_freeByFiles_35 : decode cX5_freeByFiles 35 = .ok (.iinc 2 1, 3) := by decide +kernel
theorem dX5_freeByFiles_38 : decode cX5_freeByFiles 38 = .ok (.goto (-27), 3) := by decide +kernel
theorem dX5_freeByFiles_41 : decode cX5_freeByFiles 41 = .ok (.aload_n 0, 1) := by decide +kernel
theorem dX5_freeByFiles_42 : decode cX5_freeByFiles 42 = .ok (.iload_n 1, 1) := by decide +kernel
theorem dX5_freeByFiles_43 : decode cX5_freeByFiles 43 = .ok (.invokevirtual 157, 3) := by decide +kernel
theorem dX5_freeByFiles_46 : decode cX5_freeByFiles 46 = .ok (.ireturn, 1) := by decide +kernel
set_option maxRecDepth 20000 in
theorem ggX5_reserved_X5_reservedNow : GoodIn wsX5_reserved wsX5_reservedNow := goodIn_r _ [5, 6, 12, 13, 14, 15, 16, 17, 18, 19, 20, 21, 22, 23, 24, 25, 26, 27, 28, 29] (by decide +kernel) (by decide +kernel)
set_option maxRecDepth 20000 in
theorem gX5_reserved_X5_reservedNow : GoodIn wsX5_reserved (wsV RX5 68 RX5 yX5_reservedNow wsX5_reservedNow) := goodIn_app (goodIn_of _ (by decide +kernel)) ggX5_reserved_X5_reservedNow
set_option maxRecDepth 20000 in
theorem ggX5_reserved_X5_told : GoodIn wsX5_reserved wsX5_told := goodIn_r _ [10, 11, 12, 13, 14, 15, 16, 17, 18, 19, 20, 21, 22, 23, 24, 25, 26, 27, 28, 29] (by decide +kernel) (by decide +kernel)
set_option maxRecDepth 20000 in
theorem gX5_reserved_X5_told : GoodIn wsX5_reserved (wsV RX5 157 RX5 yX5_told wsX5_told) := goodIn_app (goodIn_of _ (by decide +kernel)) ggX5_reserved_X5_told
theorem dX5_reserved_0 : decode cX5_reserved 0 = .ok (.aload_n 0, 1) := by decide +kernel
theorem dX5_reserved_1 : decode cX5_reserved 1 = .ok (.aload_n 0, 1) := by decide +kernel
theorem dX5_reserved_2 : decode cX5_reserved 2 = .ok (.invokevirtual 68, 3) := by decide +kernel
theorem dX5_reserved_5 : decode cX5_reserved 5 = .ok (.invokevirtual 157, 3) := by decide +kernel
theorem dX5_reserved_8 : decode cX5_reserved 8 = .ok (.ireturn, 1) := by decide +kernel
set_option maxRecDepth 20000 in
theorem ggX5_kept_X5_keptNow : GoodIn wsX5_kept wsX5_keptNow := goodIn_r _ [5, 6, 12, 13, 14, 15, 16, 17, 18, 19, 20, 21, 22, 23, 24, 25, 26, 27, 28, 29] (by decide +kernel) (by decide +kernel)
set_option maxRecDepth 20000 in
theorem gX5_kept_X5_keptNow : GoodIn wsX5_kept (wsV RX5 138 RX5 yX5_keptNow wsX5_keptNow) := goodIn_app (goodIn_of _ (by decide +kernel)) ggX5_kept_X5_keptNow
set_option maxRecDepth 20000 in
theorem ggX5_kept_X5_told : GoodIn wsX5_kept wsX5_told := goodIn_r _ [10, 11, 12, 13, 14, 15, 16, 17, 18, 19, 20, 21, 22, 23, 24, 25, 26, 27, 28, 29] (by decide +kernel) (by decide +kernel)
set_option maxRecDepth 20000 in
theorem gX5_kept_X5_told : GoodIn wsX5_kept (wsV RX5 157 RX5 yX5_told wsX5_told) := goodIn_app (goodIn_of _ (by decide +kernel)) ggX5_kept_X5_told
theorem dX5_kept_0 : decode cX5_kept 0 = .ok (.aload_n 0, 1) := by decide +kernel
theorem dX5_kept_1 : decode cX5_kept 1 = .ok (.aload_n 0, 1) := by decide +kernel
theorem dX5_kept_2 : decode cX5_kept 2 = .ok (.invokevirtual 138, 3) := by decide +kernel
theorem dX5_kept_5 : decode cX5_kept 5 = .ok (.invokevirtual 157, 3) := by decide +kernel
theorem dX5_kept_8 : decode cX5_kept 8 = .ok (.ireturn, 1) := by decide +kernel
set_option maxRecDepth 20000 in
theorem ggX5_pieces_X5_in : GoodIn wsX5_pieces wsX5_in := goodIn_r _ [4] (by decide +kernel) (by decide +kernel)
set_option maxRecDepth 20000 in
theorem gX5_pieces_X5_in : GoodIn wsX5_pieces (va_wsS RX5 60 yX5_in wsX5_in) := goodIn_app (goodIn_of _ (by decide +kernel)) ggX5_pieces_X5_in
set_option maxRecDepth 20000 in
theorem ggX5_pieces_X5_asked_ : GoodIn wsX5_pieces wsX5_asked_ := goodIn_r _ [8, 9, 15, 16, 17, 18, 19, 20, 21, 22, 23, 24, 25, 26, 27, 28, 29, 30, 31, 32] (by decide +kernel) (by decide +kernel)
set_option maxRecDepth 20000 in
theorem gX5_pieces_X5_asked_ : GoodIn wsX5_pieces (wsV RX5 119 RX5 yX5_asked_ wsX5_asked_) := goodIn_app (goodIn_of _ (by decide +kernel)) ggX5_pieces_X5_asked_
set_option maxRecDepth 20000 in
theorem ggX5_pieces_X5_areFree : GoodIn wsX5_pieces wsX5_areFree := goodIn_r _ [13, 14, 15, 16, 17, 18, 19, 20, 21, 22, 23, 24, 25, 26, 27, 28, 29, 30, 31, 32] (by decide +kernel) (by decide +kernel)
set_option maxRecDepth 20000 in
theorem gX5_pieces_X5_areFree : GoodIn wsX5_pieces (wsV RX5 144 RX5 yX5_areFree wsX5_areFree) := goodIn_app (goodIn_of _ (by decide +kernel)) ggX5_pieces_X5_areFree
theorem dX5_pieces_0 : decode cX5_pieces 0 = .ok (.iconst 0, 1) := by decide +kernel
theorem dX5_pieces_1 : decode cX5_pieces 1 = .ok (.istore_n 3, 1) := by decide +kernel
theorem dX5_pieces_2 : decode cX5_pieces 2 = .ok (.aload_n 0, 1) := by decide +kernel
theorem dX5_pieces_3 : decode cX5_pieces 3 = .ok (.iload_n 1, 1) := by decide +kernel
theorem dX5_pieces_4 : decode cX5_pieces 4 = .ok (.iconst 0, 1) := by decide +kernel
theorem dX5_pieces_5 : decode cX5_pieces 5 = .ok (.iconst 3, 1) := by decide +kernel
theorem dX5_pieces_6 : decode cX5_pieces 6 = .ok (.invokestatic 60, 3) := by decide +kernel
theorem dX5_pieces_9 : decode cX5_pieces 9 = .ok (.iload_n 2, 1) := by decide +kernel
theorem dX5_pieces_10 : decode cX5_pieces 10 = .ok (.iconst 0, 1) := by decide +kernel
theorem dX5_pieces_11 : decode cX5_pieces 11 = .ok (.iconst 5, 1) := by decide +kernel
theorem dX5_pieces_12 : decode cX5_pieces 12 = .ok (.invokestatic 60, 3) := by decide +kernel
theorem dX5_pieces_15 : decode cX5_pieces 15 = .ok (.invokevirtual 119, 3) := by decide +kernel
theorem dX5_pieces_18 : decode cX5_pieces 18 = .ok (.istore 4, 2) := by decide +kernel
theorem dX5_pieces_20 : decode cX5_pieces 20 = .ok (.iconst 0, 1) := by decide +kernel
theorem dX5_pieces_21 : decode cX5_pieces 21 = .ok (.istore 5, 2) := by decide +kernel
theorem dX5_pieces_23 : decode cX5_pieces 23 = .ok (.iload 4, 2) := by decide +kernel
theorem dX5_pieces_25 : decode cX5_pieces 25 = .ok (.ifCond .eq 46, 3) := by decide +kernel
theorem dX5_pieces_28 : decode cX5_pieces 28 = .ok (.iload 5, 2) := by decide +kernel
theorem dX5_pieces_30 : decode cX5_pieces 30 = .ok (.bipush 32, 2) := by decide +kernel
theorem dX5_pieces_32 : decode cX5_pieces 32 = .ok (.if_icmp .ge 39, 3) := by decide +kernel
theorem dX5_pieces_35 : decode cX5_pieces 35 = .ok (.iload_n 3, 1) := by decide +kernel
theorem dX5_pieces_36 : decode cX5_pieces 36 = .ok (.aload_n 0, 1) := by decide +kernel
theorem dX5_pieces_37 : decode cX5_pieces 37 = .ok (.bipush 32, 2) := by decide +kernel
theorem dX5_pieces_39 : decode cX5_pieces 39 = .ok (.iload_n 1, 1) := by decide +kernel
theorem dX5_pieces_40 : decode cX5_pieces 40 = .ok (.imul, 1) := by decide +kernel
theorem dX5_pieces_41 : decode cX5_pieces 41 = .ok (.iload 5, 2) := by decide +kernel
theorem dX5_pieces_43 : decode cX5_pieces 43 = .ok (.iadd, 1) := by decide +kernel
theorem dX5_pieces_44 : decode cX5_pieces 44 = .ok (.iconst 1, 1) := by decide +kernel
theorem dX5_pieces_45 : decode cX5_pieces 45 = .ok (.iload_n 2, 1) := by decide +kernel
theorem dX5_pieces_46 : decode cX5_pieces 46 = .ok (.ishl, 1) := by decide +kernel
theorem dX5_pieces_47 : decode cX5_pieces 47 = .ok (.invokevirtual 144, 3) := by decide +kernel
theorem dX5_pieces_50 : decode cX5_pieces 50 = .ok (.ifCond .eq 7, 3) := by decide +kernel
theorem dX5_pieces_53 : decode cX5_pieces 53 = .ok (.iconst 1, 1) := by decide +kernel
theorem dX5_pieces_54 : decode cX5_pieces 54 = .ok (.goto 4, 3) := by decide +kernel
theorem dX5_pieces_57 : decode cX5_pieces 57 = .ok (.iconst 0, 1) := by decide +kernel
theorem dX5_pieces_58 : decode cX5_pieces 58 = .ok (.iadd, 1) := by decide +kernel
theorem dX5_pieces_59 : decode cX5_pieces 59 = .ok (.istore_n 3, 1) := by decide +kernel
theorem dX5_pieces_60 : decode cX5_pieces 60 = .ok (.iload 5, 2) := by decide +kernel
theorem dX5_pieces_62 : decode cX5_pieces 62 = .ok (.iconst 1, 1) := by decide +kernel
theorem dX5_pieces_63 : decode cX5_pieces 63 = .ok (.iload_n 2, 1) := by decide +kernel
theorem dX5_pieces_64 : decode cX5_pieces 64 = .ok (.ishl, 1) := by decide +kernel
theorem dX5_pieces_65 : decode cX5_pieces 65 = .ok (.iadd, 1) := by decide +kernel
theorem dX5_pieces_66 : decode cX5_pieces 66 = .ok (.istore 5, 2) := by decide +kernel
theorem dX5_pieces_68 : decode cX5_pieces 68 = .ok (.goto (-45), 3) := by decide +kernel
theorem dX5_pieces_71 : decode cX5_pieces 71 = .ok (.iload_n 3, 1) := by decide +kernel
theorem dX5_pieces_72 : decode cX5_pieces 72 = .ok (.ireturn, 1) := by decide +kernel
set_option maxRecDepth 20000 in
theorem ggX5_isFree_X5_in : GoodIn wsX5_isFree wsX5_in := goodIn_r _ [5] (by decide +kernel) (by decide +kernel)
set_option maxRecDepth 20000 in
theorem gX5_isFree_X5_in : GoodIn wsX5_isFree (va_wsS RX5 60 yX5_in wsX5_in) := goodIn_app (goodIn_of _ (by decide +kernel)) ggX5_isFree_X5_in
set_option maxRecDepth 20000 in
theorem ggX5_isFree_X5_asked : GoodIn wsX5_isFree wsX5_asked := goodIn_r _ [9, 10, 11, 12, 13, 14, 15, 16, 17, 18, 19, 20, 21, 22, 23, 24, 25, 26, 27, 28] (by decide +kernel) (by decide +kernel)
set_option maxRecDepth 20000 in
theorem gX5_isFree_X5_asked : GoodIn wsX5_isFree (wsV RX5 154 RX5 yX5_asked wsX5_asked) := goodIn_app (goodIn_of _ (by decide +kernel)) ggX5_isFree_X5_asked
theorem dX5_isFree_0 : decode cX5_isFree 0 = .ok (.aload_n 0, 1) := by decide +kernel
theorem dX5_isFree_1 : decode cX5_isFree 1 = .ok (.iload_n 1, 1) := by decide +kernel
theorem dX5_isFree_2 : decode cX5_isFree 2 = .ok (.iconst 0, 1) := by decide +kernel
theorem dX5_isFree_3 : decode cX5_isFree 3 = .ok (.bipush 127, 2) := by decide +kernel
theorem dX5_isFree_5 : decode cX5_isFree 5 = .ok (.invokestatic 60, 3) := by decide +kernel
theorem dX5_isFree_8 : decode cX5_isFree 8 = .ok (.invokevirtual 154, 3) := by decide +kernel
theorem dX5_isFree_11 : decode cX5_isFree 11 = .ok (.ifCond .eq 16, 3) := by decide +kernel
theorem dX5_isFree_14 : decode cX5_isFree 14 = .ok (.aload_n 0, 1) := by decide +kernel
theorem dX5_isFree_15 : decode cX5_isFree 15 = .ok (.getfield 7, 3) := by decide +kernel
theorem dX5_isFree_18 : decode cX5_isFree 18 = .ok (.iload_n 1, 1) := by decide +kernel
theorem dX5_isFree_19 : decode cX5_isFree 19 = .ok (.baload, 1) := by decide +kernel
theorem dX5_isFree_20 : decode cX5_isFree 20 = .ok (.ifCond .eq 7, 3) := by decide +kernel
theorem dX5_isFree_23 : decode cX5_isFree 23 = .ok (.iconst 1, 1) := by decide +kernel
theorem dX5_isFree_24 : decode cX5_isFree 24 = .ok (.goto 4, 3) := by decide +kernel
theorem dX5_isFree_27 : decode cX5_isFree 27 = .ok (.iconst 0, 1) := by decide +kernel
theorem dX5_isFree_28 : decode cX5_isFree 28 = .ok (.ireturn, 1) := by decide +kernel
set_option maxRecDepth 20000 in
theorem ggX5_blockAt_X5_isThere : GoodIn wsX5_blockAt wsX5_isThere := goodIn_r _ [6, 7, 8, 9, 5, 10, 16, 17, 18, 19, 20, 21, 22, 23, 24, 25, 26, 27, 28, 29, 30, 31, 32, 33] (by decide +kernel) (by decide +kernel)
set_option maxRecDepth 20000 in
theorem gX5_blockAt_X5_isThere : GoodIn wsX5_blockAt (wsV RX5 126 RX5 yX5_isThere wsX5_isThere) := goodIn_app (goodIn_of _ (by decide +kernel)) ggX5_blockAt_X5_isThere
set_option maxRecDepth 20000 in
theorem ggX5_blockAt_X5_in : GoodIn wsX5_blockAt wsX5_in := goodIn_r _ [10] (by decide +kernel) (by decide +kernel)
set_option maxRecDepth 20000 in
theorem gX5_blockAt_X5_in : GoodIn wsX5_blockAt (va_wsS RX5 60 yX5_in wsX5_in) := goodIn_app (goodIn_of _ (by decide +kernel)) ggX5_blockAt_X5_in
set_option maxRecDepth 20000 in
theorem ggX5_blockAt_X5_asked_ : GoodIn wsX5_blockAt wsX5_asked_ := goodIn_r _ [14, 15, 16, 17, 18, 19, 20, 21, 22, 23, 24, 25, 26, 27, 28, 29, 30, 31, 32, 33] (by decide +kernel) (by decide +kernel)
set_option maxRecDepth 20000 in
theorem gX5_blockAt_X5_asked_ : GoodIn wsX5_blockAt (wsV RX5 119 RX5 yX5_asked_ wsX5_asked_) := goodIn_app (goodIn_of _ (by decide +kernel)) ggX5_blockAt_X5_asked_
theorem dX5_blockAt_0 : decode cX5_blockAt 0 = .ok (.aload_n 0, 1) := by decide +kernel
theorem dX5_blockAt_1 : decode cX5_blockAt 1 = .ok (.aload_n 0, 1) := by decide +kernel
theorem dX5_blockAt_2 : decode cX5_blockAt 2 = .ok (.iload_n 1, 1) := by decide +kernel
theorem dX5_blockAt_3 : decode cX5_blockAt 3 = .ok (.invokevirtual 126, 3) := by decide +kernel
theorem dX5_blockAt_6 : decode cX5_blockAt 6 = .ok (.iload_n 2, 1) := by decide +kernel
theorem dX5_blockAt_7 : decode cX5_blockAt 7 = .ok (.iconst 0, 1) := by decide +kernel
theorem dX5_blockAt_8 : decode cX5_blockAt 8 = .ok (.bipush 63, 2) := by decide +kernel
theorem dX5_blockAt_10 : decode cX5_blockAt 10 = .ok (.invokestatic 60, 3) := by decide +kernel
theorem dX5_blockAt_13 : decode cX5_blockAt 13 = .ok (.invokevirtual 119, 3) := by decide +kernel
theorem dX5_blockAt_16 : decode cX5_blockAt 16 = .ok (.ifCond .eq 17, 3) := by decide +kernel
theorem dX5_blockAt_19 : decode cX5_blockAt 19 = .ok (.aload_n 0, 1) := by decide +kernel
theorem dX5_blockAt_20 : decode cX5_blockAt 20 = .ok (.getfield 16, 3) := by decide +kernel
theorem dX5_blockAt_23 : decode cX5_blockAt 23 = .ok (.bipush 64, 2) := by decide +kernel
theorem dX5_blockAt_25 : decode cX5_blockAt 25 = .ok (.iload_n 1, 1) := by decide +kernel
theorem dX5_blockAt_26 : decode cX5_blockAt 26 = .ok (.imul, 1) := by decide +kernel
theorem dX5_blockAt_27 : decode cX5_blockAt 27 = .ok (.iload_n 2, 1) := by decide +kernel
theorem dX5_blockAt_28 : decode cX5_blockAt 28 = .ok (.iadd, 1) := by decide +kernel
theorem dX5_blockAt_29 : decode cX5_blockAt 29 = .ok (.iaload, 1) := by decide +kernel
theorem dX5_blockAt_30 : decode cX5_blockAt 30 = .ok (.goto 4, 3) := by decide +kernel
theorem dX5_blockAt_33 : decode cX5_blockAt 33 = .ok (.iconst 0, 1) := by decide +kernel
theorem dX5_blockAt_34 : decode cX5_blockAt 34 = .ok (.ireturn, 1) := by decide +kernel
theorem dX5_isBegin_0 : decode cX5_isBegin 0 = .ok (.bipush 64, 2) := by decide +kernel
theorem dX5_isBegin_2 : decode cX5_isBegin 2 = .ok (.iload_n 1, 1) := by decide +kernel
theorem dX5_isBegin_3 : decode cX5_isBegin 3 = .ok (.imul, 1) := by decide +kernel
theorem dX5_isBegin_4 : decode cX5_isBegin 4 = .ok (.iload_n 2, 1) := by decide +kernel
theorem dX5_isBegin_5 : decode cX5_isBegin 5 = .ok (.iadd, 1) := by decide +kernel
theorem dX5_isBegin_6 : decode cX5_isBegin 6 = .ok (.istore_n 3, 1) := by decide +kernel
theorem dX5_isBegin_7 : decode cX5_isBegin 7 = .ok (.aload_n 0, 1) := by decide +kernel
theorem dX5_isBegin_8 : decode cX5_isBegin 8 = .ok (.getfield 16, 3) := by decide +kernel
theorem dX5_isBegin_11 : decode cX5_isBegin 11 = .ok (.iload_n 3, 1) := by decide +kernel
theorem dX5_isBegin_12 : decode cX5_isBegin 12 = .ok (.iaload, 1) := by decide +kernel
theorem dX5_isBegin_13 : decode cX5_isBegin 13 = .ok (.ifCond .lt 41, 3) := by decide +kernel
theorem dX5_isBegin_16 : decode cX5_isBegin 16 = .ok (.iload_n 2, 1) := by decide +kernel
theorem dX5_isBegin_17 : decode cX5_isBegin 17 = .ok (.ifCond .eq 33, 3) := by decide +kernel
theorem dX5_isBegin_20 : decode cX5_isBegin 20 = .ok (.aload_n 0, 1) := by decide +kernel
theorem dX5_isBegin_21 : decode cX5_isBegin 21 = .ok (.getfield 16, 3) := by decide +kernel
theorem dX5_isBegin_24 : decode cX5_isBegin 24 = .ok (.iload_n 3, 1) := by decide +kernel
theorem dX5_isBegin_25 : decode cX5_isBegin 25 = .ok (.iconst 1, 1) := by decide +kernel
theorem dX5_isBegin_26 : decode cX5_isBegin 26 = .ok (.isub, 1) := by decide +kernel
theorem dX5_isBegin_27 : decode cX5_isBegin 27 = .ok (.iaload, 1) := by decide +kernel
theorem dX5_isBegin_28 : decode cX5_isBegin 28 = .ok (.ifCond .lt 22, 3) := by decide +kernel
theorem dX5_isBegin_31 : decode cX5_isBegin 31 = .ok (.aload_n 0, 1) := by decide +kernel
theorem dX5_isBegin_32 : decode cX5_isBegin 32 = .ok (.getfield 16, 3) := by decide +kernel
theorem dX5_isBegin_35 : decode cX5_isBegin 35 = .ok (.iload_n 3, 1) := by decide +kernel
theorem dX5_isBegin_36 : decode cX5_isBegin 36 = .ok (.iconst 1, 1) := by decide +kernel
theorem dX5_isBegin_37 : decode cX5_isBegin 37 = .ok (.isub, 1) := by decide +kernel
theorem dX5_isBegin_38 : decode cX5_isBegin 38 = .ok (.iaload, 1) := by decide +kernel
theorem dX5_isBegin_39 : decode cX5_isBegin 39 = .ok (.iconst 1, 1) := by decide +kernel
theorem dX5_isBegin_40 : decode cX5_isBegin 40 = .ok (.iadd, 1) := by decide +kernel
theorem dX5_isBegin_41 : decode cX5_isBegin 41 = .ok (.aload_n 0, 1) := by decide +kernel
theorem dX5_isBegin_42 : decode cX5_isBegin 42 = .ok (.getfield 16, 3) := by decide +kernel
theorem dX5_isBegin_45 : decode cX5_isBegin 45 = .ok (.iload_n 3, 1) := by decide +kernel
theorem dX5_isBegin_46 : decode cX5_isBegin 46 = .ok (.iaload, 1) := by decide +kernel
theorem dX5_isBegin_47 : decode cX5_isBegin 47 = .ok (.if_icmp .eq 7, 3) := by decide +kernel
theorem dX5_isBegin_50 : decode cX5_isBegin 50 = .ok (.iconst 1, 1) := by decide +kernel
theorem dX5_isBegin_51 : decode cX5_isBegin 51 = .ok (.goto 4, 3) := by decide +kernel
theorem dX5_isBegin_54 : decode cX5_isBegin 54 = .ok (.iconst 0, 1) := by decide +kernel
theorem dX5_isBegin_55 : decode cX5_isBegin 55 = .ok (.ireturn, 1) := by decide +kernel
set_option maxRecDepth 20000 in
theorem ggX5_extentsOf_X5_isBegin : GoodIn wsX5_extentsOf wsX5_isBegin := goodIn_r _ [5, 6, 7, 8, 9, 10, 11, 12, 13, 14, 15, 16, 17, 18, 19, 20, 21, 22, 23, 24] (by decide +kernel) (by decide +kernel)
set_option maxRecDepth 20000 in
theorem gX5_extentsOf_X5_isBegin : GoodIn wsX5_extentsOf (wsV RX5 160 RX5 yX5_isBegin wsX5_isBegin) := goodIn_app (goodIn_of _ (by decide +kernel)) ggX5_extentsOf_X5_isBegin
theorem dX5_extentsOf_0 : decode cX5_extentsOf 0 = .ok (.iconst 0, 1) := by decide +kernel
theorem dX5_extentsOf_1 : decode cX5_extentsOf 1 = .ok (.istore_n 2, 1) := by decide +kernel
theorem dX5_extentsOf_2 : decode cX5_extentsOf 2 = .ok (.iconst 0, 1) := by decide +kernel
theorem dX5_extentsOf_3 : decode cX5_extentsOf 3 = .ok (.istore_n 3, 1) := by decide +kernel
theorem dX5_extentsOf_4 : decode cX5_extentsOf 4 = .ok (.iload_n 3, 1) := by decide +kernel
theorem dX5_extentsOf_5 : decode cX5_extentsOf 5 = .ok (.bipush 64, 2) := by decide +kernel
theorem dX5_extentsOf_7 : decode cX5_extentsOf 7 = .ok (.if_icmp .ge 26, 3) := by decide +kernel
theorem dX5_extentsOf_10 : decode cX5_extentsOf 10 = .ok (.iload_n 2, 1) := by decide +kernel
theorem dX5_extentsOf_11 : decode cX5_extentsOf 11 = .ok (.aload_n 0, 1) := by decide +kernel
theorem dX5_extentsOf_12 : decode cX5_extentsOf 12 = .ok (.iload_n 1, 1) := by decide +kernel
theorem dX5_extentsOf_13 : decode cX5_extentsOf 13 = .ok (.iload_n 3, 1) := by decide +kernel
theorem dX5_extentsOf_14 : decode cX5_extentsOf 14 = .ok (.invokevirtual 160, 3) := by decide +kernel
theorem dX5_extentsOf_17 : decode cX5_extentsOf 17 = .ok (.ifCond .eq 7, 3) := by decide +kernel
theorem dX5_extentsOf_20 : decode cX5_extentsOf 20 = .ok (.iconst 1, 1) := by decide +kernel
theorem dX5_extentsOf_21 : decode cX5_extentsOf 21 = .ok (.goto 4, 3) := by decide +kernel
theorem dX5_extentsOf_24 : decode cX5_extentsOf 24 = .ok (.iconst 0, 1) := by decide +kernel
theorem dX5_extentsOf_25 : decode cX5_extentsOf 25 = .ok (.iadd, 1) := by decide +kernel
theorem dX5_extentsOf_26 : decode cX5_extentsOf 26 = .ok (.istore_n 2, 1) := by decide +kernel
theorem dX5_extentsOf_27 : decode cX5_extentsOf 27 = .ok (.iinc 3 1, 3) := by decide +kernel
theorem dX5_extentsOf_30 : decode cX5_extentsOf 30 = .ok (.goto (-26), 3) := by decide +kernel
theorem dX5_extentsOf_33 : decode cX5_extentsOf 33 = .ok (.iload_n 2, 1) := by decide +kernel
theorem dX5_extentsOf_34 : decode cX5_extentsOf 34 = .ok (.ireturn, 1) := by decide +kernel
set_option maxRecDepth 20000 in
theorem ggX5_extents_X5_isThere : GoodIn wsX5_extents wsX5_isThere := goodIn_r _ [5, 6, 7, 8, 4, 9, 24, 25, 26, 27, 28, 29, 30, 31, 32, 33, 34, 35, 36, 37, 38, 39, 40, 41] (by decide +kernel) (by decide +kernel)
set_option maxRecDepth 20000 in
theorem gX5_extents_X5_isThere : GoodIn wsX5_extents (wsV RX5 126 RX5 yX5_isThere wsX5_isThere) := goodIn_app (goodIn_of _ (by decide +kernel)) ggX5_extents_X5_isThere
set_option maxRecDepth 20000 in
theorem ggX5_extents_X5_asked : GoodIn wsX5_extents wsX5_asked := goodIn_r _ [13, 14, 24, 25, 26, 27, 28, 29, 30, 31, 32, 33, 34, 35, 36, 37, 38, 39, 40, 41] (by decide +kernel) (by decide +kernel)
set_option maxRecDepth 20000 in
theorem gX5_extents_X5_asked : GoodIn wsX5_extents (wsV RX5 154 RX5 yX5_asked wsX5_asked) := goodIn_app (goodIn_of _ (by decide +kernel)) ggX5_extents_X5_asked
set_option maxRecDepth 20000 in
theorem ggX5_extents_X5_extentsOf : GoodIn wsX5_extents wsX5_extentsOf := goodIn_r _ [18, 19, 20, 21, 4, 22, 23, 24, 25, 26, 27, 28, 29, 30, 31, 32, 33, 34, 35, 36, 37, 38, 39, 40, 41] (by decide +kernel) (by decide +kernel)
set_option maxRecDepth 20000 in
theorem gX5_extents_X5_extentsOf : GoodIn wsX5_extents (wsV RX5 163 RX5 yX5_extentsOf wsX5_extentsOf) := goodIn_app (goodIn_of _ (by decide +kernel)) ggX5_extents_X5_extentsOf
theorem dX5_extents_0 : decode cX5_extents 0 = .ok (.aload_n 0, 1) := by decide +kernel
theorem dX5_extents_1 : decode cX5_extents 1 = .ok (.aload_n 0, 1) := by decide +kernel
theorem dX5_extents_2 : decode cX5_extents 2 = .ok (.iload_n 1, 1) := by decide +kernel
theorem dX5_extents_3 : decode cX5_extents 3 = .ok (.invokevirtual 126, 3) := by decide +kernel
theorem dX5_extents_6 : decode cX5_extents 6 = .ok (.invokevirtual 154, 3) := by decide +kernel
theorem dX5_extents_9 : decode cX5_extents 9 = .ok (.ifCond .eq 11, 3) := by decide +kernel
theorem dX5_extents_12 : decode cX5_extents 12 = .ok (.aload_n 0, 1) := by decide +kernel
theorem dX5_extents_13 : decode cX5_extents 13 = .ok (.iload_n 1, 1) := by decide +kernel
theorem dX5_extents_14 : decode cX5_extents 14 = .ok (.invokevirtual 163, 3) := by decide +kernel
theorem dX5_extents_17 : decode cX5_extents 17 = .ok (.goto 4, 3) := by decide +kernel
theorem dX5_extents_20 : decode cX5_extents 20 = .ok (.iconst 0, 1) := by decide +kernel
theorem dX5_extents_21 : decode cX5_extents 21 = .ok (.ireturn, 1) := by decide +kernel
set_option maxRecDepth 20000 in
theorem ggX5_extent_X5_isThere : GoodIn wsX5_extent wsX5_isThere := goodIn_r _ [6, 7, 8, 9, 5, 10, 24, 25, 26, 27, 28, 29, 30, 31, 32, 33, 34, 35, 36, 37, 38, 39, 40, 41] (by decide +kernel) (by decide +kernel)
set_option maxRecDepth 20000 in
theorem gX5_extent_X5_isThere : GoodIn wsX5_extent (wsV RX5 126 RX5 yX5_isThere wsX5_isThere) := goodIn_app (goodIn_of _ (by decide +kernel)) ggX5_extent_X5_isThere
set_option maxRecDepth 20000 in
theorem ggX5_extent_X5_extentsOf : GoodIn wsX5_extent wsX5_extentsOf := goodIn_r _ [14, 15, 16, 17, 5, 18, 1, 24, 25, 26, 27, 28, 29, 30, 31, 32, 33, 34, 35, 36, 37, 38, 39, 40, 41] (by decide +kernel) (by decide +kernel)
set_option maxRecDepth 20000 in
theorem gX5_extent_X5_extentsOf : GoodIn wsX5_extent (wsV RX5 163 RX5 yX5_extentsOf wsX5_extentsOf) := goodIn_app (goodIn_of _ (by decide +kernel)) ggX5_extent_X5_extentsOf
set_option maxRecDepth 20000 in
theorem ggX5_extent_X5_in : GoodIn wsX5_extent wsX5_in := goodIn_r _ [10] (by decide +kernel) (by decide +kernel)
set_option maxRecDepth 20000 in
theorem gX5_extent_X5_in : GoodIn wsX5_extent (va_wsS RX5 60 yX5_in wsX5_in) := goodIn_app (goodIn_of _ (by decide +kernel)) ggX5_extent_X5_in
set_option maxRecDepth 20000 in
theorem ggX5_extent_X5_asked : GoodIn wsX5_extent wsX5_asked := goodIn_r _ [22, 23, 24, 25, 26, 27, 28, 29, 30, 31, 32, 33, 34, 35, 36, 37, 38, 39, 40, 41] (by decide +kernel) (by decide +kernel)
set_option maxRecDepth 20000 in
theorem gX5_extent_X5_asked : GoodIn wsX5_extent (wsV RX5 154 RX5 yX5_asked wsX5_asked) := goodIn_app (goodIn_of _ (by decide +kernel)) ggX5_extent_X5_asked
set_option maxRecDepth 20000 in
theorem ggX5_extent_X5_isBegin : GoodIn wsX5_extent wsX5_isBegin := goodIn_r _ [18, 1, 24, 25, 26, 27, 28, 29, 30, 31, 32, 33, 34, 35, 36, 37, 38, 39, 40, 41] (by decide +kernel) (by decide +kernel)
set_option maxRecDepth 20000 in
theorem gX5_extent_X5_isBegin : GoodIn wsX5_extent (wsV RX5 160 RX5 yX5_isBegin wsX5_isBegin) := goodIn_app (goodIn_of _ (by decide +kernel)) ggX5_extent_X5_isBegin
theorem dX5_extent_0 : decode cX5_extent 0 = .ok (.aload_n 0, 1) := by decide +kernel
theorem dX5_extent_1 : decode cX5_extent 1 = .ok (.iload_n 1, 1) := by decide +kernel
theorem dX5_extent_2 : decode cX5_extent 2 = .ok (.invokevirtual 126, 3) := by decide +kernel
theorem dX5_extent_5 : decode cX5_extent 5 = .ok (.istore_n 3, 1) := by decide +kernel
theorem dX5_extent_6 : decode cX5_extent 6 = .ok (.aload_n 0, 1) := by decide +kernel
theorem dX5_extent_7 : decode cX5_extent 7 = .ok (.iload_n 3, 1) := by decide +kernel
theorem dX5_extent_8 : decode cX5_extent 8 = .ok (.ifCond .eq 22, 3) := by decide +kernel
theorem dX5_extent_11 : decode cX5_extent 11 = .ok (.iload_n 2, 1) := by decide +kernel
theorem dX5_extent_12 : decode cX5_extent 12 = .ok (.iconst 0, 1) := by decide +kernel
theorem dX5_extent_13 : decode cX5_extent 13 = .ok (.aload_n 0, 1) := by decide +kernel
theorem dX5_extent_14 : decode cX5_extent 14 = .ok (.iload_n 1, 1) := by decide +kernel
theorem dX5_extent_15 : decode cX5_extent 15 = .ok (.invokevirtual 163, 3) := by decide +kernel
theorem dX5_extent_18 : decode cX5_extent 18 = .ok (.iconst 1, 1) := by decide +kernel
theorem dX5_extent_19 : decode cX5_extent 19 = .ok (.isub, 1) := by decide +kernel
theorem dX5_extent_20 : decode cX5_extent 20 = .ok (.invokestatic 60, 3) := by decide +kernel
theorem dX5_extent_23 : decode cX5_extent 23 = .ok (.ifCond .eq 7, 3) := by decide +kernel
theorem dX5_extent_26 : decode cX5_extent 26 = .ok (.iconst 1, 1) := by decide +kernel
theorem dX5_extent_27 : decode cX5_extent 27 = .ok (.goto 4, 3) := by decide +kernel
theorem dX5_extent_30 : decode cX5_extent 30 = .ok (.iconst 0, 1) := by decide +kernel
theorem dX5_extent_31 : decode cX5_extent 31 = .ok (.invokevirtual 154, 3) := by decide +kernel
theorem dX5_extent_34 : decode cX5_extent 34 = .ok (.ifCond .ne 5, 3) := by decide +kernel
theorem dX5_extent_37 : decode cX5_extent 37 = .ok (.iconst 0, 1) := by decide +kernel
theorem dX5_extent_38 : decode cX5_extent 38 = .ok (.ireturn, 1) := by decide +kernel
theorem dX5_extent_39 : decode cX5_extent 39 = .ok (.iconst (-1), 1) := by decide +kernel
theorem dX5_extent_40 : decode cX5_extent 40 = .ok (.istore 4, 2) := by decide +kernel
theorem dX5_extent_42 : decode cX5_extent 42 = .ok (.iconst (-1), 1) := by decide +kernel
theorem dX5_extent_43 : decode cX5_extent 43 = .ok (.istore 5, 2) := by decide +kernel
theorem dX5_extent_45 : decode cX5_extent 45 = .ok (.iload 5, 2) := by decide +kernel
theorem dX5_extent_47 : decode cX5_extent 47 = .ok (.iload_n 2, 1) := by decide +kernel
theorem dX5_extent_48 : decode cX5_extent 48 = .ok (.if_icmp .ge 29, 3) := by decide +kernel
theorem dX5_extent_51 : decode cX5_extent 51 = .ok (.iinc 4 1, 3) := by decide +kernel
theorem dX5_extent_54 : decode cX5_extent 54 = .ok (.iload 5, 2) := by decide +kernel
theorem dX5_extent_56 : decode cX5_extent 56 = .ok (.aload_n 0, 1) := by decide +kernel
theorem dX5_extent_57 : decode cX5_extent 57 = .ok (.iload_n 1, 1) := by decide +kernel
theorem dX5_extent_58 : decode cX5_extent 58 = .ok (.iload 4, 2) := by decide +kernel
theorem dX5_extent_60 : decode cX5_extent 60 = .ok (.invokevirtual 160, 3) := by decide +kernel
theorem dX5_extent_63 : decode cX5_extent 63 = .ok (.ifCond .eq 7, 3) := by decide +kernel
theorem dX5_extent_66 : decode cX5_extent 66 = .ok (.iconst 1, 1) := by decide +kernel
theorem dX5_extent_67 : decode cX5_extent 67 = .ok (.goto 4, 3) := by decide +kernel
theorem dX5_extent_70 : decode cX5_extent 70 = .ok (.iconst 0, 1) := by decide +kernel
theorem dX5_extent_71 : decode cX5_extent 71 = .ok (.iadd, 1) := by decide +kernel
theorem dX5_extent_72 : decode cX5_extent 72 = .ok (.istore 5, 2) := by decide +kernel
theorem dX5_extent_74 : decode cX5_extent 74 = .ok (.goto (-29), 3) := by decide +kernel
theorem dX5_extent_77 : decode cX5_extent 77 = .ok (.iconst 1, 1) := by decide +kernel
theorem dX5_extent_78 : decode cX5_extent 78 = .ok (.istore 5, 2) := by decide +kernel
theorem dX5_extent_80 : decode cX5_extent 80 = .ok (.iload 4, 2) := by decide +kernel
theorem dX5_extent_82 : decode cX5_extent 82 = .ok (.iload 5, 2) := by decide +kernel
theorem dX5_extent_84 : decode cX5_extent 84 = .ok (.iadd, 1) := by decide +kernel
theorem dX5_extent_85 : decode cX5_extent 85 = .ok (.bipush 64, 2) := by decide +kernel
theorem dX5_extent_87 : decode cX5_extent 87 = .ok (.if_icmp .ge 40, 3) := by decide +kernel
theorem dX5_extent_90 : decode cX5_extent 90 = .ok (.aload_n 0, 1) := by decide +kernel
theorem dX5_extent_91 : decode cX5_extent 91 = .ok (.getfield 16, 3) := by decide +kernel
theorem dX5_extent_94 : decode cX5_extent 94 = .ok (.bipush 64, 2) := by decide +kernel
theorem dX5_extent_96 : decode cX5_extent 96 = .ok (.iload_n 1, 1) := by decide +kernel
theorem dX5_extent_97 : decode cX5_extent 97 = .ok (.imul, 1) := by decide +kernel
theorem dX5_extent_98 : decode cX5_extent 98 = .ok (.iload 4, 2) := by decide +kernel
theorem dX5_extent_100 : decode cX5_extent 100 = .ok (.iadd, 1) := by decide +kernel
theorem dX5_extent_101 : decode cX5_extent 101 = .ok (.iload 5, 2) := by decide +kernel
theorem dX5_extent_103 : decode cX5_extent 103 = .ok (.iadd, 1) := by decide +kernel
theorem dX5_extent_104 : decode cX5_extent 104 = .ok (.iaload, 1) := by decide +kernel
theorem dX5_extent_105 : decode cX5_extent 105 = .ok (.ifCond .lt 22, 3) := by decide +kernel
theorem dX5_extent_108 : decode cX5_extent 108 = .ok (.aload_n 0, 1) := by decide +kernel
theorem dX5_extent_109 : decode cX5_extent 109 = .ok (.iload_n 1, 1) := by decide +kernel
theorem dX5_extent_110 : decode cX5_extent 110 = .ok (.iload 4, 2) := by decide +kernel
theorem dX5_extent_112 : decode cX5_extent 112 = .ok (.iload 5, 2) := by decide +kernel
theorem dX5_extent_114 : decode cX5_extent 114 = .ok (.iadd, 1) := by decide +kernel
theorem dX5_extent_115 : decode cX5_extent 115 = .ok (.invokevirtual 160, 3) := by decide +kernel
theorem dX5_extent_118 : decode cX5_extent 118 = .ok (.ifCond .ne 9, 3) := by decide +kernel
theorem dX5_extent_121 : decode cX5_extent 121 = .ok (.iinc 5 1, 3) := by decide +kernel
theorem dX5_extent_124 : decode cX5_extent 124 = .ok (.goto (-44), 3) := by decide +kernel
theorem dX5_extent_127 : decode cX5_extent 127 = .ok (.sipush 10000, 3) := by decide +kernel
theorem dX5_extent_130 : decode cX5_extent 130 = .ok (.iload 4, 2) := by decide +kernel
theorem dX5_extent_132 : decode cX5_extent 132 = .ok (.imul, 1) := by decide +kernel
theorem dX5_extent_133 : decode cX5_extent 133 = .ok (.bipush 100, 2) := by decide +kernel
theorem dX5_extent_135 : decode cX5_extent 135 = .ok (.iload 5, 2) := by decide +kernel
theorem dX5_extent_137 : decode cX5_extent 137 = .ok (.imul, 1) := by decide +kernel
theorem dX5_extent_138 : decode cX5_extent 138 = .ok (.iadd, 1) := by decide +kernel
theorem dX5_extent_139 : decode cX5_extent 139 = .ok (.aload_n 0, 1) := by decide +kernel
theorem dX5_extent_140 : decode cX5_extent 140 = .ok (.getfield 16, 3) := by decide +kernel
theorem dX5_extent_143 : decode cX5_extent 143 = .ok (.bipush 64, 2) := by decide +kernel
theorem dX5_extent_145 : decode cX5_extent 145 = .ok (.iload_n 1, 1) := by decide +kernel
theorem dX5_extent_146 : decode cX5_extent 146 = .ok (.imul, 1) := by decide +kernel
theorem dX5_extent_147 : decode cX5_extent 147 = .ok (.iload 4, 2) := by decide +kernel
theorem dX5_extent_149 : decode cX5_extent 149 = .ok (.iadd, 1) := by decide +kernel
theorem dX5_extent_150 : decode cX5_extent 150 = .ok (.iaload, 1) := by decide +kernel
theorem dX5_extent_151 : decode cX5_extent 151 = .ok (.bipush 100, 2) := by decide +kernel
theorem dX5_extent_153 : decode cX5_extent 153 = .ok (.irem, 1) := by decide +kernel
theorem dX5_extent_154 : decode cX5_extent 154 = .ok (.iadd, 1) := by decide +kernel
theorem dX5_extent_155 : decode cX5_extent 155 = .ok (.ireturn, 1) := by decide +kernel
set_option maxRecDepth 20000 in
theorem ggX5_average_X5_isThere : GoodIn wsX5_average wsX5_isThere := goodIn_r _ [6, 7, 8, 9, 5, 10, 24, 25, 26, 27, 28, 29, 30, 31, 32, 33, 34, 35, 36, 37, 38, 39, 40, 41] (by decide +kernel) (by decide +kernel)
set_option maxRecDepth 20000 in
theorem gX5_average_X5_isThere : GoodIn wsX5_average (wsV RX5 126 RX5 yX5_isThere wsX5_isThere) := goodIn_app (goodIn_of _ (by decide +kernel)) ggX5_average_X5_isThere
set_option maxRecDepth 20000 in
theorem ggX5_average_X5_asked : GoodIn wsX5_average wsX5_asked := goodIn_r _ [14, 15, 24, 25, 26, 27, 28, 29, 30, 31, 32, 33, 34, 35, 36, 37, 38, 39, 40, 41] (by decide +kernel) (by decide +kernel)
set_option maxRecDepth 20000 in
theorem gX5_average_X5_asked : GoodIn wsX5_average (wsV RX5 154 RX5 yX5_asked wsX5_asked) := goodIn_app (goodIn_of _ (by decide +kernel)) ggX5_average_X5_asked
set_option maxRecDepth 20000 in
theorem ggX5_average_X5_extentsOf : GoodIn wsX5_average wsX5_extentsOf := goodIn_r _ [19, 20, 21, 22, 5, 23, 1, 24, 25, 26, 27, 28, 29, 30, 31, 32, 33, 34, 35, 36, 37, 38, 39, 40, 41] (by decide +kernel) (by decide +kernel)
set_option maxRecDepth 20000 in
theorem gX5_average_X5_extentsOf : GoodIn wsX5_average (wsV RX5 163 RX5 yX5_extentsOf wsX5_extentsOf) := goodIn_app (goodIn_of _ (by decide +kernel)) ggX5_average_X5_extentsOf
theorem dX5_average_0 : decode cX5_average 0 = .ok (.aload_n 0, 1) := by decide +kernel
theorem dX5_average_1 : decode cX5_average 1 = .ok (.aload_n 0, 1) := by decide +kernel
theorem dX5_average_2 : decode cX5_average 2 = .ok (.iload_n 1, 1) := by decide +kernel
theorem dX5_average_3 : decode cX5_average 3 = .ok (.invokevirtual 126, 3) := by decide +kernel
theorem dX5_average_6 : decode cX5_average 6 = .ok (.invokevirtual 154, 3) := by decide +kernel
theorem dX5_average_9 : decode cX5_average 9 = .ok (.ifCond .ne 5, 3) := by decide +kernel
theorem dX5_average_12 : decode cX5_average 12 = .ok (.fconst 0, 1) := by decide +kernel
theorem dX5_average_13 : decode cX5_average 13 = .ok (.freturn, 1) := by decide +kernel
theorem dX5_average_14 : decode cX5_average 14 = .ok (.iconst 0, 1) := by decide +kernel
theorem dX5_average_15 : decode cX5_average 15 = .ok (.istore_n 2, 1) := by decide +kernel
theorem dX5_average_16 : decode cX5_average 16 = .ok (.iconst 0, 1) := by decide +kernel
theorem dX5_average_17 : decode cX5_average 17 = .ok (.istore_n 3, 1) := by decide +kernel
theorem dX5_average_18 : decode cX5_average 18 = .ok (.iload_n 3, 1) := by decide +kernel
theorem dX5_average_19 : decode cX5_average 19 = .ok (.bipush 64, 2) := by decide +kernel
theorem dX5_average_21 : decode cX5_average 21 = .ok (.if_icmp .ge 31, 3) := by decide +kernel
theorem dX5_average_24 : decode cX5_average 24 = .ok (.iload_n 2, 1) := by decide +kernel
theorem dX5_average_25 : decode cX5_average 25 = .ok (.aload_n 0, 1) := by decide +kernel
theorem dX5_average_26 : decode cX5_average 26 = .ok (.getfield 16, 3) := by decide +kernel
theorem dX5_average_29 : decode cX5_average 29 = .ok (.bipush 64, 2) := by decide +kernel
theorem dX5_average_31 : decode cX5_average 31 = .ok (.iload_n 1, 1) := by decide +kernel
theorem dX5_average_32 : decode cX5_average 32 = .ok (.imul, 1) := by decide +kernel
theorem dX5_average_33 : decode cX5_average 33 = .ok (.iload_n 3, 1) := by decide +kernel
theorem dX5_average_34 : decode cX5_average 34 = .ok (.iadd, 1) := by decide +kernel
theorem dX5_average_35 : decode cX5_average 35 = .ok (.iaload, 1) := by decide +kernel
theorem dX5_average_36 : decode cX5_average 36 = .ok (.ifCond .lt 7, 3) := by decide +kernel
theorem dX5_average_39 : decode cX5_average 39 = .ok (.iconst 1, 1) := by decide +kernel
theorem dX5_average_40 : decode cX5_average 40 = .ok (.goto 4, 3) := by decide +kernel
theorem dX5_average_43 : decode cX5_average 43 = .ok (.iconst 0, 1) := by decide +kernel
theorem dX5_average_44 : decode cX5_average 44 = .ok (.iadd, 1) := by decide +kernel
theorem dX5_average_45 : decode cX5_average 45 = .ok (.istore_n 2, 1) := by decide +kernel
theorem dX5_average_46 : decode cX5_average 46 = .ok (.iinc 3 1, 3) := by decide +kernel
theorem dX5_average_49 : decode cX5_average 49 = .ok (.goto (-31), 3) := by decide +kernel
theorem dX5_average_52 : decode cX5_average 52 = .ok (.aload_n 0, 1) := by decide +kernel
theorem dX5_average_53 : decode cX5_average 53 = .ok (.iload_n 1, 1) := by decide +kernel
theorem dX5_average_54 : decode cX5_average 54 = .ok (.invokevirtual 163, 3) := by decide +kernel
theorem dX5_average_57 : decode cX5_average 57 = .ok (.istore_n 3, 1) := by decide +kernel
theorem dX5_average_58 : decode cX5_average 58 = .ok (.iload_n 3, 1) := by decide +kernel
theorem dX5_average_59 : decode cX5_average 59 = .ok (.ifCond .ne 7, 3) := by decide +kernel
theorem dX5_average_62 : decode cX5_average 62 = .ok (.fconst 0, 1) := by decide +kernel
theorem dX5_average_63 : decode cX5_average 63 = .ok (.goto 8, 3) := by decide +kernel
theorem dX5_average_66 : decode cX5_average 66 = .ok (.iload_n 2, 1) := by decide +kernel
theorem dX5_average_67 : decode cX5_average 67 = .ok (.i2f, 1) := by decide +kernel
theorem dX5_average_68 : decode cX5_average 68 = .ok (.iload_n 3, 1) := by decide +kernel
theorem dX5_average_69 : decode cX5_average 69 = .ok (.i2f, 1) := by decide +kernel
theorem dX5_average_70 : decode cX5_average 70 = .ok (.fdiv, 1) := by decide +kernel
theorem dX5_average_71 : decode cX5_average 71 = .ok (.freturn, 1) := by decide +kernel
set_option maxRecDepth 20000 in
theorem ggX5_fileOf_X5_isName : GoodIn wsX5_fileOf wsX5_isName := goodIn_r _ [5, 6, 7, 4, 8] (by decide +kernel) (by decide +kernel)
set_option maxRecDepth 20000 in
theorem gX5_fileOf_X5_isName : GoodIn wsX5_fileOf (va_wsS RX5 115 yX5_isName wsX5_isName) := goodIn_app (goodIn_of _ (by decide +kernel)) ggX5_fileOf_X5_isName
set_option maxRecDepth 20000 in
theorem ggX5_fileOf_X5_asked : GoodIn wsX5_fileOf wsX5_asked := goodIn_r _ [12, 13, 14, 15, 16, 17, 18, 19, 20, 21, 22, 23, 24, 25, 26, 27, 28, 29, 30, 31] (by decide +kernel) (by decide +kernel)
set_option maxRecDepth 20000 in
theorem gX5_fileOf_X5_asked : GoodIn wsX5_fileOf (wsV RX5 154 RX5 yX5_asked wsX5_asked) := goodIn_app (goodIn_of _ (by decide +kernel)) ggX5_fileOf_X5_asked
theorem dX5_fileOf_0 : decode cX5_fileOf 0 = .ok (.aload_n 0, 1) := by decide +kernel
theorem dX5_fileOf_1 : decode cX5_fileOf 1 = .ok (.iload_n 1, 1) := by decide +kernel
theorem dX5_fileOf_2 : decode cX5_fileOf 2 = .ok (.invokestatic 115, 3) := by decide +kernel
theorem dX5_fileOf_5 : decode cX5_fileOf 5 = .ok (.invokevirtual 154, 3) := by decide +kernel
theorem dX5_fileOf_8 : decode cX5_fileOf 8 = .ok (.ifCond .eq 14, 3) := by decide +kernel
theorem dX5_fileOf_11 : decode cX5_fileOf 11 = .ok (.aload_n 0, 1) := by decide +kernel
theorem dX5_fileOf_12 : decode cX5_fileOf 12 = .ok (.getfield 38, 3) := by decide +kernel
theorem dX5_fileOf_15 : decode cX5_fileOf 15 = .ok (.iload_n 1, 1) := by decide +kernel
theorem dX5_fileOf_16 : decode cX5_fileOf 16 = .ok (.iaload, 1) := by decide +kernel
theorem dX5_fileOf_17 : decode cX5_fileOf 17 = .ok (.iconst 1, 1) := by decide +kernel
theorem dX5_fileOf_18 : decode cX5_fileOf 18 = .ok (.isub, 1) := by decide +kernel
theorem dX5_fileOf_19 : decode cX5_fileOf 19 = .ok (.goto 4, 3) := by decide +kernel
theorem dX5_fileOf_22 : decode cX5_fileOf 22 = .ok (.iconst 0, 1) := by decide +kernel
theorem dX5_fileOf_23 : decode cX5_fileOf 23 = .ok (.ireturn, 1) := by decide +kernel
set_option maxRecDepth 20000 in
theorem ggX5_leaves_X5_told : GoodIn wsX5_leaves wsX5_told := goodIn_r _ [6, 7, 8, 9, 10, 11, 12, 13, 14, 15, 16, 17, 18, 19, 20, 21, 22, 23, 24, 25] (by decide +kernel) (by decide +kernel)
set_option maxRecDepth 20000 in
theorem gX5_leaves_X5_told : GoodIn wsX5_leaves (wsV RX5 157 RX5 yX5_told wsX5_told) := goodIn_app (goodIn_of _ (by decide +kernel)) ggX5_leaves_X5_told
theorem dX5_leaves_0 : decode cX5_leaves 0 = .ok (.aload_n 0, 1) := by decide +kernel
theorem dX5_leaves_1 : decode cX5_leaves 1 = .ok (.aload_n 0, 1) := by decide +kernel
theorem dX5_leaves_2 : decode cX5_leaves 2 = .ok (.getfield 53, 3) := by decide +kernel
theorem dX5_leaves_5 : decode cX5_leaves 5 = .ok (.invokevirtual 157, 3) := by decide +kernel
theorem dX5_leaves_8 : decode cX5_leaves 8 = .ok (.ireturn, 1) := by decide +kernel
set_option maxRecDepth 20000 in
theorem ggX5_looks_X5_isName : GoodIn wsX5_looks wsX5_isName := goodIn_r _ [4, 5, 6, 3, 7] (by decide +kernel) (by decide +kernel)
set_option maxRecDepth 20000 in
theorem gX5_looks_X5_isName : GoodIn wsX5_looks (va_wsS RX5 115 yX5_isName wsX5_isName) := goodIn_app (goodIn_of _ (by decide +kernel)) ggX5_looks_X5_isName
set_option maxRecDepth 20000 in
theorem ggX5_looks_X5_asked : GoodIn wsX5_looks wsX5_asked := goodIn_r _ [11, 12, 37, 38, 39, 40, 41, 42, 43, 44, 45, 46, 47, 48, 49, 50, 51, 52, 53, 54] (by decide +kernel) (by decide +kernel)
set_option maxRecDepth 20000 in
theorem gX5_looks_X5_asked : GoodIn wsX5_looks (wsV RX5 154 RX5 yX5_asked wsX5_asked) := goodIn_app (goodIn_of _ (by decide +kernel)) ggX5_looks_X5_asked
set_option maxRecDepth 20000 in
theorem ggX5_looks_X5_begins : GoodIn wsX5_looks wsX5_begins := goodIn_r _ [16, 17, 18, 19, 20, 3, 21, 22, 23, 24, 25, 26, 37, 38, 39, 40, 41, 42, 43, 44, 45, 46, 47, 48, 49, 50, 51, 52, 53, 54] (by decide +kernel) (by decide +kernel)
set_option maxRecDepth 20000 in
theorem gX5_looks_X5_begins : GoodIn wsX5_looks (wsV RX5 89 RX5 yX5_begins wsX5_begins) := goodIn_app (goodIn_of _ (by decide +kernel)) ggX5_looks_X5_begins
set_option maxRecDepth 20000 in
theorem ggX5_looks_X5_goesOn : GoodIn wsX5_looks wsX5_goesOn := goodIn_r _ [30, 26, 17, 18, 31, 32, 33, 3, 34, 35, 36, 19, 20, 21, 37, 38, 39, 40, 41, 42, 43, 44, 45, 46, 47, 48, 49, 50, 51, 52, 53, 54] (by decide +kernel) (by decide +kernel)
set_option maxRecDepth 20000 in
theorem gX5_looks_X5_goesOn : GoodIn wsX5_looks (wsV RX5 92 RX5 yX5_goesOn wsX5_goesOn) := goodIn_app (goodIn_of _ (by decide +kernel)) ggX5_looks_X5_goesOn
theorem dX5_looks_0 : decode cX5_looks 0 = .ok (.aload_n 0, 1) := by decide +kernel
theorem dX5_looks_1 : decode cX5_looks 1 = .ok (.iload_n 1, 1) := by decide +kernel
theorem dX5_looks_2 : decode cX5_looks 2 = .ok (.invokestatic 115, 3) := by decide +kernel
theorem dX5_looks_5 : decode cX5_looks 5 = .ok (.invokevirtual 154, 3) := by decide +kernel
theorem dX5_looks_8 : decode cX5_looks 8 = .ok (.ifCond .ne 5, 3) := by decide +kernel
theorem dX5_looks_11 : decode cX5_looks 11 = .ok (.iconst 0, 1) := by decide +kernel
theorem dX5_looks_12 : decode cX5_looks 12 = .ok (.ireturn, 1) := by decide +kernel
theorem dX5_looks_13 : decode cX5_looks 13 = .ok (.iconst 1, 1) := by decide +kernel
theorem dX5_looks_14 : decode cX5_looks 14 = .ok (.istore_n 2, 1) := by decide +kernel
theorem dX5_looks_15 : decode cX5_looks 15 = .ok (.aload_n 0, 1) := by decide +kernel
theorem dX5_looks_16 : decode cX5_looks 16 = .ok (.iload_n 1, 1) := by decide +kernel
theorem dX5_looks_17 : decode cX5_looks 17 = .ok (.invokevirtual 89, 3) := by decide +kernel
theorem dX5_looks_20 : decode cX5_looks 20 = .ok (.istore_n 3, 1) := by decide +kernel
theorem dX5_looks_21 : decode cX5_looks 21 = .ok (.aload_n 0, 1) := by decide +kernel
theorem dX5_looks_22 : decode cX5_looks 22 = .ok (.iload_n 3, 1) := by decide +kernel
theorem dX5_looks_23 : decode cX5_looks 23 = .ok (.iload_n 1, 1) := by decide +kernel
theorem dX5_looks_24 : decode cX5_looks 24 = .ok (.invokevirtual 92, 3) := by decide +kernel
theorem dX5_looks_27 : decode cX5_looks 27 = .ok (.ifCond .eq 12, 3) := by decide +kernel
theorem dX5_looks_30 : decode cX5_looks 30 = .ok (.iinc 2 1, 3) := by decide +kernel
theorem dX5_looks_33 : decode cX5_looks 33 = .ok (.iinc 3 1, 3) := by decide +kernel
theorem dX5_looks_36 : decode cX5_looks 36 = .ok (.goto (-15), 3) := by decide +kernel
theorem dX5_looks_39 : decode cX5_looks 39 = .ok (.iload_n 2, 1) := by decide +kernel
end
section
/-! ===== BEGIN a constructor that throws (launches without stack traces) ===== -/
section VXIA
variable {p : Program} {l : Launch} {e : Env} {R : Room} {s : State} {m : MethodId} {args : Array Value} {below : List Frame} {meth : Method} {c : Code} {T : State} {locs : List Loc} {cells slots : Nat}
theorem vx_callI (X : Stand p l e R s m args below meth c T locs cells slots) (hexec : p.tables.exec = Jvm.exec) {own : String} {index : Nat} {y : MethodName} {bytes : ByteArray} {maxL : Nat}
    (hown : s.vm.findClass own = some m.cls) (hy1 : y.name = "<init>") (hlink : (Cond.methodLink own index y).before args s = true) (hinst : (Cond.instanceMethod y).before args s = true)
    (hcode : (Cond.code y bytes maxL none).before args s = true) (hy : y.cls ≠ "java/lang/invoke/MethodHandle" ∧ y.cls ≠ "java/lang/invoke/VarHandle")
    {W9 : Nat} {Pre : Pt → Array Value → Prop} {Post : Pt → Array Value → Option Value → Pt → Prop} {PostX : Pt → Array Value → Addr → Pt → Prop} (hK : vx_Back l R p e below s args y 3 W9 Pre Post PostX)
    {g : JFrame} (hg : g.method = m) (hsize : g.locals.size = c.maxLocals) {a : Addr} {argsL rest : List Value} (hlen : ∀ sig, parseMethodDescriptor y.desc = some sig → argsL.length = sig.parameters.length)
    (hstack : g.stack = argsL.reverse ++ .ref a :: rest) (hW : 2 * g.monitorRoom + (rest.map fun v => v.category).sum ≤ W9) (hdg : decode c.code g.pc = .ok (.invokespecial index, 3))
    (hpre : ∀ vm₁, s.WarmedH vm₁ → Pre ⟨T.setVm vm₁, locs, cells, slots⟩ (Value.ref a :: argsL).toArray) :
    (∃ (v : Option Value) (vm₁ : Vm) (B : Pt), s.WarmedH vm₁ ∧ Stand p l e R s m args below meth c B.U B.locs B.cells B.slots ∧ Post ⟨T.setVm vm₁, locs, cells, slots⟩ (Value.ref a :: argsL).toArray v B ∧
      ∀ target, Steps p.tables e below (B.U.setTop { g with pc := g.pc + 3, stack := v.toList ++ rest }) target → Steps p.tables e below (T.setTop g) target) ∨
    (∃ (q : Addr) (vm₁ : Vm) (B : Pt), s.WarmedH vm₁ ∧ Stand p l e R s m args below meth c B.U B.locs B.cells B.slots ∧ PostX ⟨T.setVm vm₁, locs, cells, slots⟩ (Value.ref a :: argsL).toArray q B ∧
      Steps p.tables e below (T.setTop g) ((B.U.setTop { g with stack := rest }).pushFrame (.throwing q))) := by
  subst hg
  have hpl : e.platform.magicAccessors = ({} : Platform).magicAccessors := by rw [X.admits.platform]
  obtain ⟨mk, methM, cM, kP, vm₁, hnamed, hmethM, hcodeM, -, hlocalsM, -, hkP, -, hW₁, hstep₁⟩ := Steps.initColdArgs (e := e) X.here hexec X.warmed hpl hown hy1 hy hlink hinst hcode (f := g) rfl hlen hstack hdg
  have X₁ := X.noted hW₁
  rcases hK g.method meth c ⟨T.setVm vm₁, locs, cells, slots⟩ { g with stack := rest } (.invokespecial index) mk (Value.ref a :: argsL).toArray X₁ rfl hsize hdg hW (X₁.named hnamed) (hpre vm₁ X₁.warmed) with ⟨v, B, X', hpost, hsteps⟩ | ⟨q, B, X', hpost, hsteps⟩
  · exact Or.inl ⟨v, vm₁, B, X₁.warmed, X', hpost, fun target h => hstep₁ _ fun acts => by rw [doInvoke_state]; exact hsteps.trans h⟩
  · exact Or.inr ⟨q, vm₁, B, X₁.warmed, X', hpost, hstep₁ _ fun acts => by rw [doInvoke_state]; exact hsteps⟩
end VXIA
section VXIB
variable {p : Program} {l : Launch} {e : Env} {R : Room} {s : State} {m : MethodId} {args : Array Value} {below : List Frame} {meth : Method} {c : Code} {H : Heap} {locs : List Loc} {cells slots : Nat}
variable {y : MethodName} {bytes cc : ByteArray} {maxL nL mc ms n index : Nat} {ret : Option FieldType} {ws : List Cond} {rm : Room} {Pc : Array Value → State → Prop} {Qc : Array Value → State → Outcome → State → Prop} {XC : String → State → State → Prop} {free : Addr → Prop} {Ts : List Cond} {own C : String} {b : Addr} {As rest : List Value} {g : JFrame}
theorem vx_runI (S : CallFix p m c cc nL s args Ts own) (hM : vx_Met l y ws rm Pc Qc XC mc ms free) (cw : CallB R s args own index y bytes maxL none ws rm mc ms n ∧ y.name = "<init>" ∧ (Cond.instanceMethod y).before args s = true) (hp : PreS s H Pc (.ref b :: As))
    (hg : g.method = m) (hn : As.length = n) (hsize : g.locals.size = nL) (hstack : g.stack = As.reverse ++ .ref b :: rest) (hW : 2 * g.monitorRoom + (rest.map fun v => v.category).sum ≤ 8) (hdg : decode cc g.pc = .ok (.invokespecial index, 3)) (hf : cells + mc ≤ R.cells ∧ slots + ms ≤ R.slots) :
    vx_Run p l e R s m args below meth c H locs cells slots mc ms g rest (Qc (Value.ref b :: As).toArray) XC free := by
  have hK : vx_Back l R p e below s args y 3 8 (PreOf R mc ms Pc) (PostOf Qc mc ms free) (vx_Post XC mc ms free) := vx_callBack cw.1 hM hp.1
  obtain ⟨⟨-, -, -, -, -, -, hcode, -, hy, hlen, hl⟩, hy1, hin⟩ := cw
  obtain ⟨hx, hb, hml, ho, -⟩ := S
  have hPc := hp.2
  intro T hT X
  rcases vx_callI X hx (bytes := bytes) (maxL := maxL) ho hy1 hl hin hcode hy hK hg (hsize.trans hml.symm) (a := b) (argsL := As) (rest := rest) (fun sig h => hn.trans (hlen sig h)) hstack hW (by rw [hb]; exact hdg)
    (fun vm₁ hW₁ => ⟨hf.1, hf.2, hPc (T.setVm vm₁) hT hW₁⟩) with ⟨v, vm₁, ⟨U', l2, c2, s2⟩, hW₁, X', ⟨g', mk, t, L, e1, e2, hq, h1, hL, h2, h3⟩, st⟩ | ⟨q, vm₁, ⟨U', l2, c2, s2⟩, hW₁, X', ⟨g', mk, t, L, E, ce, e1, e2, hq, hce, hcv, hcl, h1, hL, h2, h3⟩, st⟩
  · dsimp only [Pt.U, Pt.locs, Pt.cells, Pt.slots] at X' e1 e2 h1 h2 h3 st
    subst h1; subst h2; subst h3
    exact Or.inl ⟨v, (T.setVm vm₁).calling g' mk (Value.ref b :: As).toArray, t, U', L, hT, X', hL, e1, e2, hq, st⟩
  · dsimp only [Pt.U, Pt.locs, Pt.cells, Pt.slots] at X' e1 e2 h1 h2 h3 st hcl
    subst h1; subst h2; subst h3
    exact Or.inr ⟨q, (T.setVm vm₁).calling g' mk (Value.ref b :: As).toArray, t, U', L, E, ce, hT, X', hL, e1, e2, hq, hce, hcv, vx_cls hW₁ hcl, st⟩
end VXIB
/-! ===== END ===== -/
/-! ===== BEGIN a private constructor of a nest mate that throws ===== -/
section VXIC
variable {p : Program} {l : Launch} {e : Env} {R : Room} {s : State} {m : MethodId} {args : Array Value} {below : List Frame} {meth : Method} {c : Code} {T : State} {locs : List Loc} {cells slots : Nat}
theorem vx_callIN (X : Stand p l e R s m args below meth c T locs cells slots) (hexec : p.tables.exec = Jvm.exec) {own : String} {index : Nat} {host : String} {y : MethodName} {bytes : ByteArray} {maxL : Nat}
    (hown : s.vm.findClass own = some m.cls) (hy1 : y.name = "<init>") (hlink : (Cond.methodLinkNest own index y host).before args s = true) (hinst : (Cond.instanceMethod y).before args s = true)
    (hcode : (Cond.code y bytes maxL none).before args s = true) (hy : y.cls ≠ "java/lang/invoke/MethodHandle" ∧ y.cls ≠ "java/lang/invoke/VarHandle")
    {W9 : Nat} {Pre : Pt → Array Value → Prop} {Post : Pt → Array Value → Option Value → Pt → Prop} {PostX : Pt → Array Value → Addr → Pt → Prop} (hK : vx_Back l R p e below s args y 3 W9 Pre Post PostX)
    {g : JFrame} (hg : g.method = m) (hsize : g.locals.size = c.maxLocals) {a : Addr} {argsL rest : List Value} (hlen : ∀ sig, parseMethodDescriptor y.desc = some sig → argsL.length = sig.parameters.length)
    (hstack : g.stack = argsL.reverse ++ .ref a :: rest) (hW : 2 * g.monitorRoom + (rest.map fun v => v.category).sum ≤ W9) (hdg : decode c.code g.pc = .ok (.invokespecial index, 3))
    (hpre : ∀ vm₁, s.WarmedH vm₁ → Pre ⟨T.setVm vm₁, locs, cells, slots⟩ (Value.ref a :: argsL).toArray) :
    (∃ (v : Option Value) (vm₁ : Vm) (B : Pt), s.WarmedH vm₁ ∧ Stand p l e R s m args below meth c B.U B.locs B.cells B.slots ∧ Post ⟨T.setVm vm₁, locs, cells, slots⟩ (Value.ref a :: argsL).toArray v B ∧
      ∀ target, Steps p.tables e below (B.U.setTop { g with pc := g.pc + 3, stack := v.toList ++ rest }) target → Steps p.tables e below (T.setTop g) target) ∨
    (∃ (q : Addr) (vm₁ : Vm) (B : Pt), s.WarmedH vm₁ ∧ Stand p l e R s m args below meth c B.U B.locs B.cells B.slots ∧ PostX ⟨T.setVm vm₁, locs, cells, slots⟩ (Value.ref a :: argsL).toArray q B ∧
      Steps p.tables e below (T.setTop g) ((B.U.setTop { g with stack := rest }).pushFrame (.throwing q))) := by
  subst hg
  have hpl : e.platform.magicAccessors = ({} : Platform).magicAccessors := by rw [X.admits.platform]
  obtain ⟨mk, methM, cM, kP, vm₁, hnamed, hmethM, hcodeM, -, hlocalsM, -, hkP, -, hW₁, hstep₁⟩ := Steps.initColdArgsNest (e := e) X.here hexec X.warmed hpl hown hy1 hy hlink hinst hcode (f := g) rfl hlen hstack hdg
  have X₁ := X.noted hW₁
  rcases hK g.method meth c ⟨T.setVm vm₁, locs, cells, slots⟩ { g with stack := rest } (.invokespecial index) mk (Value.ref a :: argsL).toArray X₁ rfl hsize hdg hW (X₁.named hnamed) (hpre vm₁ X₁.warmed) with ⟨v, B, X', hpost, hsteps⟩ | ⟨q, B, X', hpost, hsteps⟩
  · exact Or.inl ⟨v, vm₁, B, X₁.warmed, X', hpost, fun target h => hstep₁ _ fun acts => by rw [doInvoke_state]; exact hsteps.trans h⟩
  · exact Or.inr ⟨q, vm₁, B, X₁.warmed, X', hpost, hstep₁ _ fun acts => by rw [doInvoke_state]; exact hsteps⟩
end VXIC
section VXID
variable {p : Program} {l : Launch} {e : Env} {R : Room} {s : State} {m : MethodId} {args : Array Value} {below : List Frame} {meth : Method} {c : Code} {H : Heap} {locs : List Loc} {cells slots : Nat}
theorem vx_runIN {y : MethodName} {bytes cc : ByteArray} {maxL nL mc ms n index : Nat} {ws : List Cond} {rm : Room} {Pc : Array Value → State → Prop} {Qc : Array Value → State → Outcome → State → Prop} {XC : String → State → State → Prop} {free : Addr → Prop} {Ts : List Cond} {own host : String} {b : Addr} {As rest : List Value} {g : JFrame}
    (S : CallFix p m c cc nL s args Ts own) (hM : vx_Met l y ws rm Pc Qc XC mc ms free) (cw : va_CN R s args own index y host bytes maxL none ws rm mc ms n ∧ y.name = "<init>" ∧ (Cond.instanceMethod y).before args s = true) (hp : PreS s H Pc (.ref b :: As))
    (hg : g.method = m) (hn : As.length = n) (hsize : g.locals.size = nL) (hstack : g.stack = As.reverse ++ .ref b :: rest) (hW : 2 * g.monitorRoom + (rest.map fun v => v.category).sum ≤ 8) (hdg : decode cc g.pc = .ok (.invokespecial index, 3)) (hf : cells + mc ≤ R.cells ∧ slots + ms ≤ R.slots) :
    vx_Run p l e R s m args below meth c H locs cells slots mc ms g rest (Qc (Value.ref b :: As).toArray) XC free := by
  obtain ⟨⟨⟨hrc, hrs, hfr, hlo, hws, hcw⟩, hcode, hini, hy, hlen, hl⟩, hx1, hx2⟩ := cw
  have hK : vx_Back l R p e below s args y 3 8 (PreOf R mc ms Pc) (PostOf Qc mc ms free) (vx_Post XC mc ms free) := vx_back (bytes := bytes) (maxL := maxL) (ret := none) hM hp.1 hrc hrs hfr hlo hws hcw (fun a' U hW => word_at hW (Or.inl (by first | rfl | simp [Cond.onTables, Cond.keeps, Cond.steady])) hini)
  obtain ⟨hx, hb, hml, ho, -⟩ := S
  have hPc := hp.2
  intro T hT X
  rcases vx_callIN X hx (bytes := bytes) (maxL := maxL) ho hx1 hl hx2 hcode hy hK hg (hsize.trans hml.symm) (a := b) (argsL := As) (rest := rest) (fun sig h => hn.trans (hlen sig h)) hstack hW (by rw [hb]; exact hdg)
    (fun vm₁ hW₁ => ⟨hf.1, hf.2, hPc (T.setVm vm₁) hT hW₁⟩) with ⟨v, vm₁, ⟨U', l2, c2, s2⟩, hW₁, X', ⟨g', mk, t, L, e1, e2, hq, h1, hL, h2, h3⟩, st⟩ | ⟨q, vm₁, ⟨U', l2, c2, s2⟩, hW₁, X', ⟨g', mk, t, L, E, ce, e1, e2, hq, hce, hcv, hcl, h1, hL, h2, h3⟩, st⟩
  · dsimp only [Pt.U, Pt.locs, Pt.cells, Pt.slots] at X' e1 e2 h1 h2 h3 st
    subst h1; subst h2; subst h3
    exact Or.inl ⟨v, (T.setVm vm₁).calling g' mk (Value.ref b :: As).toArray, t, U', L, hT, X', hL, e1, e2, hq, st⟩
  · dsimp only [Pt.U, Pt.locs, Pt.cells, Pt.slots] at X' e1 e2 h1 h2 h3 st hcl
    subst h1; subst h2; subst h3
    exact Or.inr ⟨q, (T.setVm vm₁).calling g' mk (Value.ref b :: As).toArray, t, U', L, E, ce, hT, X', hL, e1, e2, hq, hce, hcv, vx_cls hW₁ hcl, st⟩
end VXID
/-! ===== END ===== -/
/-! ===== BEGIN a private method of a nest mate that may throw (follows va_callVN, va_callSN, va_runVN, va_runSN) ===== -/
section
variable {p : Program} {l : Launch} {e : Env} {R : Room} {s : State} {m : MethodId} {args : Array Value} {below : List Frame} {meth : Method} {c : Code} {H : Heap} {locs : List Loc} {cells slots : Nat}
variable {T : State}
theorem vx_callVN (X : Stand p l e R s m args below meth c T locs cells slots) (hexec : p.tables.exec = Jvm.exec) {own C : String} {index : Nat} {host : String} {y : MethodName} {bytes : ByteArray} {maxL : Nat} {ret : Option FieldType}
    (hown : s.vm.findClass own = some m.cls) (hlink : (Cond.methodLinkNest own index y host).before args s = true) (hinst : (Cond.instanceMethod y).before args s = true) (hsel : (Cond.selects C y y).before args s = true)
    (hcode : (Cond.code y bytes maxL ret).before args s = true) (hy : y.cls ≠ "java/lang/invoke/MethodHandle" ∧ y.cls ≠ "java/lang/invoke/VarHandle")
    {W : Nat} {Pre : Pt → Array Value → Prop} {Post : Pt → Array Value → Option Value → Pt → Prop} {PostX : Pt → Array Value → Addr → Pt → Prop} (hK : vx_Back l R p e below s args y 3 W Pre Post PostX)
    {b : Addr} {cellB : Cell} (hcell : T.heap[b]? = some cellB) (hobj : cellB.vm.isStatics = false) (hcls : s.vm.findClass C = some cellB.cls)
    {g : JFrame} (hg : g.method = m) (hsize : g.locals.size = c.maxLocals) {argsL rest : List Value} (hlen : ∀ sig, parseMethodDescriptor y.desc = some sig → argsL.length = sig.parameters.length)
    (hstack : g.stack = argsL.reverse ++ .ref b :: rest) (hW : 2 * g.monitorRoom + (rest.map fun v => v.category).sum ≤ W) (hdg : decode c.code g.pc = .ok (.invokevirtual index, 3))
    (hpre : ∀ vm₁, s.WarmedH vm₁ → Pre ⟨T.setVm vm₁, locs, cells, slots⟩ (Value.ref b :: argsL).toArray) :
    (∃ (v : Option Value) (vm₁ : Vm) (B : Pt), s.WarmedH vm₁ ∧ Stand p l e R s m args below meth c B.U B.locs B.cells B.slots ∧ Post ⟨T.setVm vm₁, locs, cells, slots⟩ (Value.ref b :: argsL).toArray v B ∧
      ∀ target, Steps p.tables e below (B.U.setTop { g with pc := g.pc + 3, stack := v.toList ++ rest }) target → Steps p.tables e below (T.setTop g) target) ∨
    (∃ (q : Addr) (vm₁ : Vm) (B : Pt), s.WarmedH vm₁ ∧ Stand p l e R s m args below meth c B.U B.locs B.cells B.slots ∧ PostX ⟨T.setVm vm₁, locs, cells, slots⟩ (Value.ref b :: argsL).toArray q B ∧
      Steps p.tables e below (T.setTop g) ((B.U.setTop { g with stack := rest }).pushFrame (.throwing q))) := by
  obtain ⟨mk, methM, hnamed, hmethM, hstM, habM⟩ := Cond.instanceMethod_spec hinst
  obtain ⟨methM', cM, hmethM', -, -, -, -, -, -, hsigM⟩ := Cond.code_spec hnamed hcode
  cases hmethM.symm.trans hmethM'
  obtain ⟨c2, r2, m2, q1, q2, q3, q4, kP, hkP, hkPi⟩ := Cond.selects_spec hsel
  cases hcls.symm.trans q1
  cases (State.methodFound?_of_named hnamed hy).symm.trans q2
  cases hnamed.symm.trans q3
  have hselP : selectMethod e.platform s.vm cellB.cls mk = .method mk := by rw [Launch.admits_selectMethod X.admits]; exact q4
  obtain ⟨vm₁, X₁, hstep₁⟩ := X.invokevirtualNest hexec hown hlink hnamed hmethM hstM hkP hkPi hy (a := b) (cell := cellB) hcell
    (fun z h => by rw [h] at hobj; cases hobj) hselP hmethM habM hkP hkPi (g := g) hg (argsL := argsL) (rest := rest) (hlen _ hsigM) hstack hdg
  rcases hK m meth c ⟨T.setVm vm₁, locs, cells, slots⟩ { g with stack := rest } (.invokevirtual index) mk (Value.ref b :: argsL).toArray X₁ hg hsize hdg hW (X₁.named hnamed) (hpre vm₁ X₁.warmed) with ⟨v, B, X', hpost, hsteps⟩ | ⟨q, B, X', hpost, hsteps⟩
  · exact Or.inl ⟨v, vm₁, B, X₁.warmed, X', hpost, fun target h => hstep₁ _ fun acts => by rw [doInvoke_state]; exact hsteps.trans h⟩
  · exact Or.inr ⟨q, vm₁, B, X₁.warmed, X', hpost, hstep₁ _ fun acts => by rw [doInvoke_state]; exact hsteps⟩
theorem vx_callSN (X : Stand p l e R s m args below meth c T locs cells slots) (hexec : p.tables.exec = Jvm.exec) {own : String} {index : Nat} {host : String} {y : MethodName} {bytes : ByteArray} {maxL : Nat} {ret : Option FieldType}
    (hown : s.vm.findClass own = some m.cls) (hlink : (Cond.methodLinkNest own index y host).before args s = true) (hstat : (Cond.static y).before args s = true) (hinit : (Cond.initialized y.cls).before args s = true)
    (hcode : (Cond.code y bytes maxL ret).before args s = true) (hy : y.cls ≠ "java/lang/invoke/MethodHandle" ∧ y.cls ≠ "java/lang/invoke/VarHandle")
    {W : Nat} {Pre : Pt → Array Value → Prop} {Post : Pt → Array Value → Option Value → Pt → Prop} {PostX : Pt → Array Value → Addr → Pt → Prop} (hK : vx_Back l R p e below s args y 3 W Pre Post PostX)
    {g : JFrame} (hg : g.method = m) (hsize : g.locals.size = c.maxLocals) {argsL rest : List Value} (hlen : ∀ sig, parseMethodDescriptor y.desc = some sig → argsL.length = sig.parameters.length)
    (hstack : g.stack = argsL.reverse ++ rest) (hW : 2 * g.monitorRoom + (rest.map fun v => v.category).sum ≤ W) (hdg : decode c.code g.pc = .ok (.invokestatic index, 3))
    (hpre : ∀ vm₁, s.WarmedH vm₁ → Pre ⟨T.setVm vm₁, locs, cells, slots⟩ argsL.toArray) :
    (∃ (v : Option Value) (vm₁ : Vm) (B : Pt), s.WarmedH vm₁ ∧ Stand p l e R s m args below meth c B.U B.locs B.cells B.slots ∧ Post ⟨T.setVm vm₁, locs, cells, slots⟩ argsL.toArray v B ∧
      ∀ target, Steps p.tables e below (B.U.setTop { g with pc := g.pc + 3, stack := v.toList ++ rest }) target → Steps p.tables e below (T.setTop g) target) ∨
    (∃ (q : Addr) (vm₁ : Vm) (B : Pt), s.WarmedH vm₁ ∧ Stand p l e R s m args below meth c B.U B.locs B.cells B.slots ∧ PostX ⟨T.setVm vm₁, locs, cells, slots⟩ argsL.toArray q B ∧
      Steps p.tables e below (T.setTop g) ((B.U.setTop { g with stack := rest }).pushFrame (.throwing q))) := by
  obtain ⟨mk, hnamed⟩ := Cond.code_named hcode
  obtain ⟨methM, cM, hmethM, -, -, -, -, -, -, hsigM⟩ := Cond.code_spec hnamed hcode
  have hstatic : methM.isStatic = true := Cond.static_spec hnamed hmethM hstat
  obtain ⟨kP, hkP, -⟩ := className_of_methodNamed hnamed
  have hinitP : kP.init = .initialized := Cond.initialized_spec (findClass_of_methodNamed hnamed) hkP hinit
  obtain ⟨vm₁, X₁, hstep₁⟩ := X.invokestaticNest hexec hown hlink hnamed hmethM hstatic hkP hinitP hy (g := g) hg (argsL := argsL) (rest := rest) (hlen _ hsigM) hstack hdg
  rcases hK m meth c ⟨T.setVm vm₁, locs, cells, slots⟩ { g with stack := rest } (.invokestatic index) mk argsL.toArray X₁ hg hsize hdg hW (X₁.named hnamed) (hpre vm₁ X₁.warmed) with ⟨v, B, X', hpost, hsteps⟩ | ⟨q, B, X', hpost, hsteps⟩
  · exact Or.inl ⟨v, vm₁, B, X₁.warmed, X', hpost, fun target h => hstep₁ _ fun acts => by rw [doInvoke_state]; exact hsteps.trans h⟩
  · exact Or.inr ⟨q, vm₁, B, X₁.warmed, X', hpost, hstep₁ _ fun acts => by rw [doInvoke_state]; exact hsteps⟩
theorem vx_runVN {y : MethodName} {bytes cc : ByteArray} {maxL nL mc ms n index : Nat} {ret : Option FieldType} {ws : List Cond} {rm : Room} {Pc : Array Value → State → Prop} {Qc : Array Value → State → Outcome → State → Prop} {XC : String → State → State → Prop} {free : Addr → Prop} {Ts : List Cond} {own C host : String} {b : Addr} {As rest : List Value} {g : JFrame}
    (S : CallFix p m c cc nL s args Ts own) (hM : vx_Met l y ws rm Pc Qc XC mc ms free) (cw : va_CN R s args own index y host bytes maxL ret ws rm mc ms n ∧ (Cond.instanceMethod y).before args s = true ∧ (Cond.selects C y y).before args s = true) (hp : PreV s H C b Pc As)
    (hg : g.method = m) (hn : As.length = n) (hsize : g.locals.size = nL) (hstack : g.stack = As.reverse ++ .ref b :: rest) (hW : 2 * g.monitorRoom + (rest.map fun v => v.category).sum ≤ 8) (hdg : decode cc g.pc = .ok (.invokevirtual index, 3)) (hf : cells + mc ≤ R.cells ∧ slots + ms ≤ R.slots) :
    vx_Run p l e R s m args below meth c H locs cells slots mc ms g rest (Qc (Value.ref b :: As).toArray) XC free := by
  obtain ⟨⟨⟨hrc, hrs, hfr, hlo, hws, hcw⟩, hcode, hini, hy, hlen, hl⟩, hx1, hx2⟩ := cw
  have hK : vx_Back l R p e below s args y 3 8 (PreOf R mc ms Pc) (PostOf Qc mc ms free) (vx_Post XC mc ms free) := vx_back (bytes := bytes) (maxL := maxL) (ret := ret) hM hp.1 hrc hrs hfr hlo hws hcw (fun a' U hW => word_at hW (Or.inl (by first | rfl | simp [Cond.onTables, Cond.keeps, Cond.steady])) hini)
  obtain ⟨hx, hb, hml, ho, -⟩ := S
  obtain ⟨-, ⟨cellB, hcB, hoB, hclB⟩, hPc⟩ := hp
  intro T hT X
  rcases vx_callVN X hx (C := C) (bytes := bytes) (maxL := maxL) (ret := ret) ho hl hx1 hx2 hcode hy hK (by rw [hT]; exact hcB) hoB hclB hg (hsize.trans hml.symm) (argsL := As) (rest := rest) (fun sig h => hn.trans (hlen sig h)) hstack hW (by rw [hb]; exact hdg)
    (fun vm₁ hW₁ => ⟨hf.1, hf.2, hPc (T.setVm vm₁) hT hW₁⟩) with ⟨v, vm₁, ⟨U', l2, c2, s2⟩, hW₁, X', ⟨g', mk, t, L, e1, e2, hq, h1, hL, h2, h3⟩, st⟩ | ⟨q, vm₁, ⟨U', l2, c2, s2⟩, hW₁, X', ⟨g', mk, t, L, E, ce, e1, e2, hq, hce, hcv, hcl, h1, hL, h2, h3⟩, st⟩
  · dsimp only [Pt.U, Pt.locs, Pt.cells, Pt.slots] at X' e1 e2 h1 h2 h3 st
    subst h1; subst h2; subst h3
    exact Or.inl ⟨v, (T.setVm vm₁).calling g' mk (Value.ref b :: As).toArray, t, U', L, hT, X', hL, e1, e2, hq, st⟩
  · dsimp only [Pt.U, Pt.locs, Pt.cells, Pt.slots] at X' e1 e2 h1 h2 h3 st hcl
    subst h1; subst h2; subst h3
    exact Or.inr ⟨q, (T.setVm vm₁).calling g' mk (Value.ref b :: As).toArray, t, U', L, E, ce, hT, X', hL, e1, e2, hq, hce, hcv, vx_cls hW₁ hcl, st⟩
theorem vx_runSN {y : MethodName} {bytes cc : ByteArray} {maxL nL mc ms n index : Nat} {ret : Option FieldType} {ws : List Cond} {rm : Room} {Pc : Array Value → State → Prop} {Qc : Array Value → State → Outcome → State → Prop} {XC : String → State → State → Prop} {free : Addr → Prop} {Ts : List Cond} {own host : String} {As rest : List Value} {g : JFrame}
    (S : CallFix p m c cc nL s args Ts own) (hM : vx_Met l y ws rm Pc Qc XC mc ms free) (cw : va_CN R s args own index y host bytes maxL ret ws rm mc ms n ∧ (Cond.static y).before args s = true ∧ True) (hp : PreS s H Pc As)
    (hg : g.method = m) (hn : As.length = n) (hsize : g.locals.size = nL) (hstack : g.stack = As.reverse ++ rest) (hW : 2 * g.monitorRoom + (rest.map fun v => v.category).sum ≤ 8) (hdg : decode cc g.pc = .ok (.invokestatic index, 3)) (hf : cells + mc ≤ R.cells ∧ slots + ms ≤ R.slots) :
    vx_Run p l e R s m args below meth c H locs cells slots mc ms g rest (Qc As.toArray) XC free := by
  obtain ⟨⟨⟨hrc, hrs, hfr, hlo, hws, hcw⟩, hcode, hini, hy, hlen, hl⟩, hx1, hx2⟩ := cw
  have hK : vx_Back l R p e below s args y 3 8 (PreOf R mc ms Pc) (PostOf Qc mc ms free) (vx_Post XC mc ms free) := vx_back (bytes := bytes) (maxL := maxL) (ret := ret) hM hp.1 hrc hrs hfr hlo hws hcw (fun a' U hW => word_at hW (Or.inl (by first | rfl | simp [Cond.onTables, Cond.keeps, Cond.steady])) hini)
  obtain ⟨hx, hb, hml, ho, -⟩ := S
  have hPc := hp.2
  intro T hT X
  rcases vx_callSN X hx (bytes := bytes) (maxL := maxL) (ret := ret) ho hl hx1 hini hcode hy hK hg (hsize.trans hml.symm) (argsL := As) (rest := rest) (fun sig h => hn.trans (hlen sig h)) hstack hW (by rw [hb]; exact hdg)
    (fun vm₁ hW₁ => ⟨hf.1, hf.2, hPc (T.setVm vm₁) hT hW₁⟩) with ⟨v, vm₁, ⟨U', l2, c2, s2⟩, hW₁, X', ⟨g', mk, t, L, e1, e2, hq, h1, hL, h2, h3⟩, st⟩ | ⟨q, vm₁, ⟨U', l2, c2, s2⟩, hW₁, X', ⟨g', mk, t, L, E, ce, e1, e2, hq, hce, hcv, hcl, h1, hL, h2, h3⟩, st⟩
  · dsimp only [Pt.U, Pt.locs, Pt.cells, Pt.slots] at X' e1 e2 h1 h2 h3 st
    subst h1; subst h2; subst h3
    exact Or.inl ⟨v, (T.setVm vm₁).calling g' mk As.toArray, t, U', L, hT, X', hL, e1, e2, hq, st⟩
  · dsimp only [Pt.U, Pt.locs, Pt.cells, Pt.slots] at X' e1 e2 h1 h2 h3 st hcl
    subst h1; subst h2; subst h3
    exact Or.inr ⟨q, (T.setVm vm₁).calling g' mk As.toArray, t, U', L, E, ce, hT, X', hL, e1, e2, hq, hce, hcv, vx_cls hW₁ hcl, st⟩
end
/-! ===== END ===== -/
end
section
abbrev vwCl : List vw_C := [(RX0, TX0, 11), (RX1, TX1, 2), (RX2, TX2, 2), (RX3, TX3, 7), (RX4, TX4, 5), (RX5, TX5, 18)]
/-! THE WALK'S OWN WORDS: a world is a partial map from addresses to cells; Gd: the machine at a pc with these locals, this stack, in any heap that holds the world, comes to its end -/
abbrev WT : Type := Nat → Option va_E
abbrev VT : Type := Nat → Int → Int → Int
def iI (n : Int) : Int32 := Int32.ofInt n
abbrev InR (n : Int) : Prop := -2147483648 ≤ n ∧ n ≤ 2147483647
theorem iI_toInt {n : Int} (h : InR n) : (iI n).toInt = n := Int32.toInt_ofInt_of_le (by omega) (by omega)
theorem iI_of (x : Int32) : ∃ n : Int, InR n ∧ x = iI n := ⟨x.toInt, ⟨by have := Int32.le_toInt x; omega, by have := Int32.toInt_lt x; omega⟩, (Int32.ofInt_toInt x).symm⟩
theorem iI_add (a b : Int) : iI a + iI b = iI (a + b) := (Int32.ofInt_add a b).symm
theorem iI_sub (a b : Int) : iI a - iI b = iI (a - b) := (Int32.ofInt_sub a b).symm
theorem iI_mul (a b : Int) : iI a * iI b = iI (a * b) := (Int32.ofInt_mul a b).symm
theorem iI_lt {a b : Int} (ha : InR a) (hb : InR b) : iI a < iI b ↔ a < b := by rw [Int32.lt_iff_toInt_lt, iI_toInt ha, iI_toInt hb]
theorem iI_le {a b : Int} (ha : InR a) (hb : InR b) : iI a ≤ iI b ↔ a ≤ b := by rw [Int32.le_iff_toInt_le, iI_toInt ha, iI_toInt hb]
theorem iI_eq {a b : Int} (ha : InR a) (hb : InR b) : iI a = iI b ↔ a = b := ⟨fun h => by rw [← iI_toInt ha, ← iI_toInt hb, h], fun h => by rw [h]⟩
theorem iI_n (n : Nat) : iI (n : Int) = nI n := by simp [iI, nI, Int32.ofInt, Int32.ofNat]
theorem iI_nat {a : Int} (h : 0 ≤ a) : ∃ n : Nat, a = (n : Int) := ⟨a.toNat, by omega⟩
theorem iI_div {a b : Int} (ha : 0 ≤ a) (ha2 : a ≤ 2147483647) (hb : 0 < b) (hb2 : b ≤ 2147483647) : iI a / iI b = iI (a / b) := by
  obtain ⟨n, rfl⟩ := iI_nat ha
  obtain ⟨k, rfl⟩ := iI_nat (Int.le_of_lt hb)
  rw [← Int.natCast_ediv, iI_n, iI_n, iI_n]
  exact pk_div (by omega) (by omega) (by omega)
theorem iI_rem {a b : Int} (ha : 0 ≤ a) (ha2 : a ≤ 2147483647) (hb : 0 < b) (hb2 : b ≤ 2147483647) : iI a - iI a / iI b * iI b = iI (a % b) := by
  obtain ⟨n, rfl⟩ := iI_nat ha
  obtain ⟨k, rfl⟩ := iI_nat (Int.le_of_lt hb)
  rw [← Int.natCast_emod, iI_n, iI_n, iI_n]
  exact pk_rem (by omega) (by omega) (by omega)
theorem iI_cl {a : Int} {n : Nat} (h0 : 0 ≤ a) (h1 : a < n) (hn : n < 2147483648) : vp_in (iI a) n ∧ (((iI a).toNatClampNeg : Nat) : Int) = a := by
  obtain ⟨k, rfl⟩ := iI_nat h0
  rw [iI_n, nI_clamp (by omega)]
  exact ⟨vp_in_nI (by omega) (by omega), rfl⟩
/-- a map of Int changed at one place -/
def fU {α : Type} (f : Int → α) (i : Int) (x : α) : Int → α := fun j => if j = i then x else f j
theorem fU_s {α : Type} (f : Int → α) (i : Int) (x : α) : fU f i x i = x := if_pos rfl
theorem fU_n {α : Type} {f : Int → α} {i j : Int} {x : α} (h : j ≠ i) : fU f i x j = f j := if_neg h
def wU (w : WT) (a : Nat) (e : va_E) : WT := fun q => if q = a then some e else w q
theorem wU_s (w : WT) (a : Nat) (e : va_E) : wU w a e a = some e := if_pos rfl
theorem wU_n {w : WT} {a b : Nat} {e : va_E} (h : b ≠ a) : wU w a e b = w b := if_neg h
abbrev iA (k : ClassId) (n : Nat) (f : Int → Int) : va_E := .inl (k, n, .inl (fun j : Nat => iI (f (j : Int))))
abbrev rA (k : ClassId) (n : Nat) (f : Int → Option Nat) : va_E := .inl (k, n, .inr (.inr (.inr (.inr (fun j : Nat => f (j : Int))))))
abbrev oB (ci : Nat) (fs : List Value) : va_E := .inr (ci, fs)
abbrev tyG (ky : Nat → ClassId) : List (ClassId × FieldType) := [(ky 0, .int), (ky 1, .boolean), (ky 2, .object "Buddyfield$Content"), (ky 3, .long), (ky 4, .double)]
def Wd (D : va_G) (z : Nat) (w : WT) (H : Heap) : Prop := z ≤ H.size ∧ ∀ a e, w a = some e → z ≤ a ∧ va_at D vwCl (a, e) H
theorem Wd.lt {D : va_G} {z : Nat} {w : WT} {H : Heap} (h : Wd D z w H) {a : Nat} {e : va_E} (he : w a = some e) : a < H.size := va_at.lt (q := (a, e)) (h.2 a e he).2
theorem Wd.put {D : va_G} {z : Nat} {w : WT} {H H1 : Heap} (h : Wd D z w H) {a : Nat} {e : va_E} (hz : z ≤ a) (e1 : va_at D vwCl (a, e) H1) (e2 : H.size ≤ H1.size) (e3 : ∀ q : Nat, q < H.size → q ≠ a → H1[q]? = H[q]?) : Wd D z (wU w a e) H1 := by
  refine ⟨Nat.le_trans h.1 e2, fun q x hx => ?_⟩
  by_cases hq : q = a
  · subst hq
    rw [wU_s] at hx
    cases hx
    exact ⟨hz, e1⟩
  · rw [wU_n hq] at hx
    exact ⟨(h.2 q x hx).1, (h.2 q x hx).2.kept (e3 q (h.lt hx) hq)⟩
theorem Wd.kept {D : va_G} {z : Nat} {w : WT} {H H1 : Heap} (h : Wd D z w H) (e2 : H.size ≤ H1.size) (e3 : ∀ q : Nat, q < H.size → H1[q]? = H[q]?) : Wd D z w H1 :=
  ⟨Nat.le_trans h.1 e2, fun q x hx => ⟨(h.2 q x hx).1, (h.2 q x hx).2.kept (e3 q (h.lt hx))⟩⟩
theorem Wd.sub {D : va_G} {z : Nat} {w w' : WT} {H : Heap} (h : Wd D z w H) (hs : ∀ a e, w' a = some e → w a = some e) : Wd D z w' H := ⟨h.1, fun a e he => h.2 a e (hs a e he)⟩
/-! the locals -/
def lh (la : Array Slot) (ls : List (Option Value)) : Prop := la.size = ls.length ∧ lv_wf la ∧ ∀ (i : Nat) (v : Value), ls[i]? = some (some v) → la[i]? = some (.val v) ∧ v.category = 1
def asc (ls : List (Option Value)) : List (Nat × Value) := (List.range ls.length).filterMap (fun i => match ls[i]? with | some (some v) => some (i, v) | _ => none)
theorem mem_asc {ls : List (Option Value)} {j : Nat} {u : Value} : (j, u) ∈ asc ls ↔ ls[j]? = some (some u) := by
  unfold asc
  rw [List.mem_filterMap]
  constructor
  · rintro ⟨i, -, h⟩
    split at h
    · rename_i v hv
      cases h
      exact hv
    · cases h
  · intro h
    refine ⟨j, List.mem_range.mpr (List.getElem?_eq_some_iff.mp h).1, ?_⟩
    rw [h]
theorem lh_has {la : Array Slot} {ls : List (Option Value)} (h : lh la ls) : lv_has la ls.length (asc ls) := ⟨h.1, h.2.1, fun q hq => (h.2.2 q.1 q.2 (mem_asc.mp hq)).1⟩
theorem lh_set {la la' : Array Slot} {ls : List (Option Value)} {i : Nat} {v : Value} (h : lh la ls) (hc : v.category = 1) (h' : lv_has la' ls.length ((i, v) :: (asc ls).filter (fun q => !(q.1 == i) && !(q.1 + 1 == i && q.2.category == 2)))) : lh la' (ls.set i (some v)) := by
  obtain ⟨h1, h2, h3⟩ := h'
  refine ⟨by rw [List.length_set]; exact h1, h2, fun j u hj => ?_⟩
  by_cases hji : j = i
  · subst hji
    have hlt : j < ls.length := by
      have := (List.getElem?_eq_some_iff.mp hj).1
      rwa [List.length_set] at this
    rw [List.getElem?_set_self hlt] at hj
    cases hj
    exact ⟨h3 (j, v) List.mem_cons_self, hc⟩
  · rw [List.getElem?_set_ne (Ne.symm hji)] at hj
    have hu := (h.2.2 j u hj).2
    refine ⟨h3 (j, u) (List.mem_cons_of_mem _ (List.mem_filter.mpr ⟨mem_asc.mpr hj, ?_⟩)), hu⟩
    simp [hji, hu]
/-- fewer known locals -/
def Lsb (ls ls' : List (Option Value)) : Prop := ls'.length = ls.length ∧ ∀ (i : Nat) (v : Value), ls'[i]? = some (some v) → ls[i]? = some (some v)
theorem Lsb.rf (ls : List (Option Value)) : Lsb ls ls := ⟨rfl, fun _ _ h => h⟩
theorem Lsb.nil : Lsb [] [] := ⟨rfl, fun _ _ h => h⟩
theorem Lsb.keep {x : Option Value} {a b : List (Option Value)} (h : Lsb a b) : Lsb (x :: a) (x :: b) := ⟨by simp [h.1], fun i v hv => by cases i with | zero => exact hv | succ i => exact h.2 i v hv⟩
theorem Lsb.drop {x : Option Value} {a b : List (Option Value)} (h : Lsb a b) : Lsb (x :: a) (none :: b) := ⟨by simp [h.1], fun i v hv => by cases i with | zero => simp at hv | succ i => exact h.2 i v hv⟩
theorem lh.sub {la : Array Slot} {ls ls' : List (Option Value)} (h : lh la ls) (hs : Lsb ls ls') : lh la ls' := ⟨h.1.trans hs.1.symm, h.2.1, fun i v hv => h.2.2 i v (hs.2 i v hv)⟩
theorem lg_sl1 (as : List Value) (hc : ∀ v ∈ as, v.category = 1) : lg_sl as = as.map Slot.val := by
  induction as with
  | nil => rfl
  | cons v vs ih =>
    have hv := hc v List.mem_cons_self
    have ih := ih (fun u hu => hc u (List.mem_cons_of_mem _ hu))
    unfold lg_sl at ih ⊢
    rw [List.flatMap_cons, ih]
    simp [hv]
theorem lv_args1 (as : List Value) (hc : ∀ v ∈ as, v.category = 1) : ∀ (k i : Nat) (v : Value), as[i]? = some v → (k + i, v) ∈ lv_args k as := by
  induction as with
  | nil => intro k i v h; simp at h
  | cons u us ih =>
    intro k i v h
    have hu := hc u List.mem_cons_self
    unfold lv_args
    rw [if_neg (by omega)]
    cases i with
    | zero =>
      simp at h
      subst h
      exact List.mem_cons_self
    | succ i =>
      refine List.mem_cons_of_mem _ ?_
      have := ih (fun x hx => hc x (List.mem_cons_of_mem _ hx)) (k + 1) i v (by simpa using h)
      rwa [show k + 1 + i = k + (i + 1) by omega] at this
theorem lh_entry (as : List Value) (n : Nat) (hc : ∀ v ∈ as, v.category = 1) (hn : as.length ≤ n) : lh ((lg_sl as ++ List.replicate (n - (lg_sl as).length) Slot.unset).toArray) (as.map some ++ List.replicate (n - as.length) none) := by
  have h1 : (lg_sl as).length = as.length := by rw [lg_sl1 as hc, List.length_map]
  obtain ⟨a1, a2, a3⟩ := lv_entry as (n := n) (by omega)
  refine ⟨?_, a2, fun i v hv => ?_⟩
  · rw [a1]
    simp
    omega
  · have hlt : i < as.length := by
      rcases Nat.lt_or_ge i as.length with h | h
      · exact h
      · rw [List.getElem?_append_right (by simpa using h)] at hv
        have := List.eq_of_mem_replicate (List.mem_of_getElem? hv)
        cases this
    rw [List.getElem?_append_left (by simpa using hlt), List.getElem?_map] at hv
    have hv2 : as[i]? = some v := by
      cases hx : as[i]? with
      | none => rw [hx] at hv; simp at hv
      | some u => rw [hx] at hv; simp at hv; rw [hv]
    have h3 := a3 _ (lv_args1 as hc 0 i v hv2)
    rw [Nat.zero_add] at h3
    exact ⟨h3, hc v (List.mem_of_getElem? hv2)⟩
end
section
/-! SB: what the tables say, for every frame; Cx: what a frame stands on; Gd: the walk -/
def nestWs : List Cond := [(Jvm.Cond.methodLinkNest "Buddyfield" (9 : Nat) ({ cls := "Buddyfield$Ground", name := "<init>", desc := "()V" } : Jvm.MethodName) "Buddyfield"), (Jvm.Cond.fieldLinkNest "Buddyfield" (148 : Nat) "Buddyfield$Ground" "freeBlocks" "I" "Buddyfield"), (Jvm.Cond.methodLinkNest "Buddyfield" (18 : Nat) ({ cls := "Buddyfield$Directory", name := "<init>", desc := "()V" } : Jvm.MethodName) "Buddyfield"), (Jvm.Cond.methodLinkNest "Buddyfield$Directory" (11 : Nat) ({ cls := "Buddyfield$Leaf", name := "<init>", desc := "(IZ)V" } : Jvm.MethodName) "Buddyfield"), (Jvm.Cond.fieldLinkNest "Buddyfield$Directory" (58 : Nat) "Buddyfield$Leaf" "low" "I" "Buddyfield"), (Jvm.Cond.fieldLinkNest "Buddyfield$Directory" (32 : Nat) "Buddyfield$Leaf" "count" "I" "Buddyfield"), (Jvm.Cond.fieldLinkNest "Buddyfield$Directory" (65 : Nat) "Buddyfield$Leaf" "back" "LBuddyfield$Leaf;" "Buddyfield"), (Jvm.Cond.fieldLinkNest "Buddyfield$Directory" (55 : Nat) "Buddyfield$Leaf" "next" "LBuddyfield$Leaf;" "Buddyfield"), (Jvm.Cond.fieldLinkNest "Buddyfield" (189 : Nat) "Buddyfield$Directory" "leafCount" "I" "Buddyfield"), (Jvm.Cond.methodLinkNest "Buddyfield" (37 : Nat) ({ cls := "Buddyfield$Content", name := "<init>", desc := "(I)V" } : Jvm.MethodName) "Buddyfield"), (Jvm.Cond.fieldLinkNest "Buddyfield" (257 : Nat) "Buddyfield$Content" "file" "I" "Buddyfield"), (Jvm.Cond.fieldLinkNest "Buddyfield" (174 : Nat) "Buddyfield$Content" "blocks" "[I" "Buddyfield"), (Jvm.Cond.fieldLinkNest "Buddyfield" (145 : Nat) "Buddyfield$Content" "exists" "Z" "Buddyfield"), (Jvm.Cond.fieldLinkNest "Buddyfield" (75 : Nat) "Buddyfield$Content" "timesOpen" "I" "Buddyfield"), (Jvm.Cond.fieldLinkNest "Buddyfield" (157 : Nat) "Buddyfield$Content" "reservedPlaces" "I" "Buddyfield"), (Jvm.Cond.fieldLinkNest "Buddyfield" (212 : Nat) "Buddyfield$Content" "firstKept" "I" "Buddyfield"), (Jvm.Cond.fieldLinkNest "Buddyfield" (154 : Nat) "Buddyfield$Content" "keptBlocks" "I" "Buddyfield"), (Jvm.Cond.fieldLinkNest "Buddyfield" (94 : Nat) "Buddyfield$Content" "isListed" "Z" "Buddyfield"), (Jvm.Cond.fieldLinkNest "Buddyfield" (84 : Nat) "Buddyfield$Content" "isDoomed" "Z" "Buddyfield"), (Jvm.Cond.fieldLinkNest "Buddyfield" (142 : Nat) "Buddyfield$Content" "listedSize" "I" "Buddyfield"), (Jvm.Cond.methodLinkNest "Buddyfield" (151 : Nat) ({ cls := "Buddyfield$Content", name := "mappedPlaces", desc := "()I" } : Jvm.MethodName) "Buddyfield"), (Jvm.Cond.methodLinkNest "Buddyfield" (50 : Nat) ({ cls := "Buddyfield$Directory", name := "fileWith", desc := "(I)I" } : Jvm.MethodName) "Buddyfield"), (Jvm.Cond.methodLinkNest "Buddyfield$Directory" (24 : Nat) ({ cls := "Buddyfield", name := "hashOf", desc := "(I)I" } : Jvm.MethodName) "Buddyfield"), (Jvm.Cond.methodLinkNest "Buddyfield$Directory" (61 : Nat) ({ cls := "Buddyfield$Leaf", name := "continues", desc := "(I)Z" } : Jvm.MethodName) "Buddyfield"), (Jvm.Cond.methodLinkNest "Buddyfield$Directory" (68 : Nat) ({ cls := "Buddyfield$Leaf", name := "has", desc := "(I)Z" } : Jvm.MethodName) "Buddyfield"), (Jvm.Cond.methodLinkNest "Buddyfield$Directory" (49 : Nat) ({ cls := "Buddyfield$Leaf", name := "fileWith", desc := "(I)I" } : Jvm.MethodName) "Buddyfield"), (Jvm.Cond.methodLinkNest "Buddyfield" (54 : Nat) ({ cls := "Buddyfield$Directory", name := "isFull", desc := "()Z" } : Jvm.MethodName) "Buddyfield"), (Jvm.Cond.methodLinkNest "Buddyfield" (65 : Nat) ({ cls := "Buddyfield$Directory", name := "add", desc := "(II)V" } : Jvm.MethodName) "Buddyfield"), (Jvm.Cond.methodLinkNest "Buddyfield$Directory" (35 : Nat) ({ cls := "Buddyfield$Leaf", name := "split", desc := "()V" } : Jvm.MethodName) "Buddyfield"), (Jvm.Cond.methodLinkNest "Buddyfield$Leaf" (43 : Nat) ({ cls := "Buddyfield", name := "hashOf", desc := "(I)I" } : Jvm.MethodName) "Buddyfield"), (Jvm.Cond.methodLinkNest "Buddyfield$Directory" (38 : Nat) ({ cls := "Buddyfield$Leaf", name := "insert", desc := "(II)V" } : Jvm.MethodName) "Buddyfield"), (Jvm.Cond.methodLinkNest "Buddyfield" (69 : Nat) ({ cls := "Buddyfield$Content", name := "begin", desc := "()V" } : Jvm.MethodName) "Buddyfield"), (Jvm.Cond.methodLinkNest "Buddyfield" (260 : Nat) ({ cls := "Buddyfield$Content", name := "dropReserved", desc := "(I)V" } : Jvm.MethodName) "Buddyfield"), (Jvm.Cond.methodLinkNest "Buddyfield" (215 : Nat) ({ cls := "Buddyfield$Ground", name := "release", desc := "(II)V" } : Jvm.MethodName) "Buddyfield"), (Jvm.Cond.methodLinkNest "Buddyfield" (254 : Nat) ({ cls := "Buddyfield$Content", name := "isMapped", desc := "(I)Z" } : Jvm.MethodName) "Buddyfield"), (Jvm.Cond.methodLinkNest "Buddyfield" (270 : Nat) ({ cls := "Buddyfield$Content", name := "joinsAhead", desc := "(I)Z" } : Jvm.MethodName) "Buddyfield"), (Jvm.Cond.methodLinkNest "Buddyfield" (91 : Nat) ({ cls := "Buddyfield$Directory", name := "takeOut", desc := "(I)V" } : Jvm.MethodName) "Buddyfield"), (Jvm.Cond.methodLinkNest "Buddyfield$Directory" (45 : Nat) ({ cls := "Buddyfield$Leaf", name := "takeOut", desc := "(I)V" } : Jvm.MethodName) "Buddyfield"), (Jvm.Cond.methodLinkNest "Buddyfield" (101 : Nat) ({ cls := "Buddyfield$Content", name := "emptyPlaces", desc := "(II)I" } : Jvm.MethodName) "Buddyfield"), (Jvm.Cond.methodLinkNest "Buddyfield" (116 : Nat) ({ cls := "Buddyfield$Content", name := "reserve", desc := "(II)V" } : Jvm.MethodName) "Buddyfield"), (Jvm.Cond.methodLinkNest "Buddyfield" (119 : Nat) ({ cls := "Buddyfield$Content", name := "isReserved", desc := "(I)Z" } : Jvm.MethodName) "Buddyfield"), (Jvm.Cond.methodLinkNest "Buddyfield" (123 : Nat) ({ cls := "Buddyfield$Content", name := "endOfReserved", desc := "(I)I" } : Jvm.MethodName) "Buddyfield"), (Jvm.Cond.methodLinkNest "Buddyfield" (222 : Nat) ({ cls := "Buddyfield$Content", name := "isKeptFor", desc := "(I)Z" } : Jvm.MethodName) "Buddyfield"), (Jvm.Cond.methodLinkNest "Buddyfield" (225 : Nat) ({ cls := "Buddyfield$Content", name := "mapKept", desc := "(II)I" } : Jvm.MethodName) "Buddyfield"), (Jvm.Cond.methodLinkNest "Buddyfield" (237 : Nat) ({ cls := "Buddyfield$Ground", name := "find", desc := "(II)I" } : Jvm.MethodName) "Buddyfield"), (Jvm.Cond.methodLinkNest "Buddyfield" (245 : Nat) ({ cls := "Buddyfield$Ground", name := "take", desc := "(II)V" } : Jvm.MethodName) "Buddyfield"), (Jvm.Cond.methodLinkNest "Buddyfield" (248 : Nat) ({ cls := "Buddyfield$Content", name := "map", desc := "(III)V" } : Jvm.MethodName) "Buddyfield"), (Jvm.Cond.methodLinkNest "Buddyfield" (251 : Nat) ({ cls := "Buddyfield$Content", name := "keep", desc := "(III)V" } : Jvm.MethodName) "Buddyfield"), (Jvm.Cond.methodLinkNest "Buddyfield" (165 : Nat) ({ cls := "Buddyfield$Ground", name := "countPieces", desc := "(II)I" } : Jvm.MethodName) "Buddyfield"), (Jvm.Cond.methodLinkNest "Buddyfield" (170 : Nat) ({ cls := "Buddyfield$Ground", name := "areFree", desc := "(II)Z" } : Jvm.MethodName) "Buddyfield"), (Jvm.Cond.methodLinkNest "Buddyfield" (178 : Nat) ({ cls := "Buddyfield$Content", name := "countExtents", desc := "()I" } : Jvm.MethodName) "Buddyfield"), (Jvm.Cond.methodLinkNest "Buddyfield" (181 : Nat) ({ cls := "Buddyfield$Content", name := "beginOfExtent", desc := "(I)I" } : Jvm.MethodName) "Buddyfield"), (Jvm.Cond.methodLinkNest "Buddyfield" (186 : Nat) ({ cls := "Buddyfield$Content", name := "lengthOfExtent", desc := "(I)I" } : Jvm.MethodName) "Buddyfield"), (Jvm.Cond.methodLinkNest "Buddyfield" (192 : Nat) ({ cls := "Buddyfield$Directory", name := "countLooks", desc := "(I)I" } : Jvm.MethodName) "Buddyfield")]
def castWs : List Cond := [.castable "java/lang/IllegalArgumentException" "java/lang/IllegalArgumentException", .castable "java/lang/IllegalStateException" "java/lang/IllegalStateException", .castable "java/lang/IndexOutOfBoundsException" "java/lang/IndexOutOfBoundsException"]
def strWs : List (Nat × String) := [(111, "less is left than that needs"), (137, "the volume is not down"), (162, "there is no such group"), (168, "there is no such block"), (184, "there is no such extent"), (197, "an argument is out of its range"), (200, "the volume is down"), (202, "there is no such file"), (204, "there is no such name"), (60, "there is such a name, or no room for one more file"), (82, "the file is not open")]
def SB (D : va_G) (ky : Nat → ClassId) (z : Nat) (U : State) : Prop := va_K D vwCl (tyG ky) U ∧ (∀ w ∈ nestWs, va_Nw w U) ∧ (∀ w ∈ castWs, va_Nw w U) ∧ (∀ q ∈ strWs, ∃ sa, vk_R RX4 q.1 q.2 sa U) ∧ vx_Zq Bundle.tN "UNASSIGNED_STACK" Bundle.steD (fun q => z ≤ q) U U.heap ∧ vx_Zq Bundle.tN "SUPPRESSED_SENTINEL" Bundle.listD (fun q => z ≤ q) U U.heap
def isNestW : Cond → Bool
  | .fieldLinkNest _ _ _ _ _ _ => true
  | .methodLinkNest _ _ _ _ => true
  | _ => false
theorem nestWs_ok : ∀ w ∈ nestWs, isNestW w = true := by decide +kernel
def isCastW : Cond → Bool
  | .castable _ _ => true
  | _ => false
theorem castWs_ok : ∀ w ∈ castWs, isCastW w = true := by decide +kernel
theorem nestW_warm {w : Cond} (hw : isNestW w = true) {s U : State} (hW : s.WarmedH U.vm) (h : va_Nw w s) : va_Nw w U := by
  cases w <;> simp [isNestW] at hw
  · exact va_Nw.warmM hW h
  · exact va_Nw.warmF hW h
theorem castW_warm {w : Cond} (hw : isCastW w = true) {s U : State} (hW : s.WarmedH U.vm) (h : va_Nw w s) : va_Nw w U := by
  cases w <;> simp [isCastW] at hw
  exact va_Nw.warmC hW h
theorem SB.warm {D : va_G} {ky : Nat → ClassId} {z : Nat} {s U : State} (h : SB D ky z s) (hW : s.WarmedH U.vm) (hz : z ≤ s.heap.size) (hk : ∀ q : Nat, q < s.heap.size → ¬ z ≤ q → U.heap[q]? = s.heap[q]?) : SB D ky z U := by
  obtain ⟨h1, h2, h3, h4, h5, h6⟩ := h
  exact ⟨h1.moved hW.alike, fun w hw => nestW_warm (nestWs_ok w hw) hW (h2 w hw), fun w hw => castW_warm (castWs_ok w hw) hW (h3 w hw), fun q hq => (h4 q hq).elim (fun sa h => ⟨sa, vk_R.warm hW h⟩), (h5.kept hk).moved hW.alike, (h6.kept hk).moved hW.alike⟩
theorem nestW_same {w : Cond} (hw : isNestW w = true) {s U : State} (hW : s.vm = U.vm) (h : va_Nw w s) : va_Nw w U := by
  cases w <;> simp [isNestW] at hw
  · exact va_Nw.same rfl hW h
  · exact va_Nw.same rfl hW h
theorem castW_same {w : Cond} (hw : isCastW w = true) {s U : State} (hW : s.vm = U.vm) (h : va_Nw w s) : va_Nw w U := by
  cases w <;> simp [isCastW] at hw
  exact va_Nw.same rfl hW h
theorem SB.same {D : va_G} {ky : Nat → ClassId} {z : Nat} {s U : State} (h : SB D ky z s) (hv : s.vm = U.vm) (hh : U.heap = s.heap) : SB D ky z U := by
  obtain ⟨h1, h2, h3, h4, h5, h6⟩ := h
  have ha : s.vm.Alike U.vm := hv ▸ Vm.Alike.refl s.vm
  refine ⟨h1.moved ha, fun w hw => nestW_same (nestWs_ok w hw) hv (h2 w hw), fun w hw => castW_same (castWs_ok w hw) hv (h3 w hw), fun q hq => (h4 q hq).elim (fun sa h => ⟨sa, vk_R.same hv.symm h⟩), ?_, ?_⟩
  · rw [hh]; exact h5.moved ha
  · rw [hh]; exact h6.moved ha
section GD
variable {p : Program} {l : Launch} {e : Env} {R : Room} {s : State} {m : MethodId} {args : Array Value} {below : List Frame} {meth : Method} {c : Code} {D : va_G} {ky : Nat → ClassId} {z : Nat} {Q : State → Prop} {cells slots : Nat} {w : WT} {pc : Nat} {ls : List (Option Value)} {st : List Value} {cc : ByteArray} {own : String} {Ts : List Cond} {nL : Nat}
def Cx (p : Program) (l : Launch) (s : State) (m : MethodId) (args : Array Value) (meth : Method) (c : Code) (D : va_G) (ky : Nat → ClassId) (z : Nat) (cc : ByteArray) (nL : Nat) (Ts : List Cond) (own : String) : Prop :=
  CallFix p m c cc nL s args Ts own ∧ SB D ky z s ∧ meth.locks = false ∧ l.stackTraces = false ∧ z ≤ s.heap.size
def Gd (p : Program) (l : Launch) (e : Env) (R : Room) (s : State) (m : MethodId) (args : Array Value) (below : List Frame) (meth : Method) (c : Code) (D : va_G) (z : Nat) (Q : State → Prop) (cells slots : Nat) (w : WT) (pc : Nat) (ls : List (Option Value)) (st : List Value) : Prop :=
  ∀ (H : Heap) (locs : List Loc) (la : Array Slot), Wd D z w H → va_S (fun q => z ≤ q) s.heap H locs → lh la ls → W p l e R s m args below meth c H locs cells slots Q (F0 m pc la st)
theorem Gd.sub {ls' : List (Option Value)} (hs : Lsb ls ls') (kk : Gd p l e R s m args below meth c D z Q cells slots w pc ls' st) : Gd p l e R s m args below meth c D z Q cells slots w pc ls st := fun H locs la h1 h2 h3 => kk H locs la h1 h2 (h3.sub hs)
theorem Gd.weak {w' : WT} (hs : ∀ a x, w' a = some x → w a = some x) (kk : Gd p l e R s m args below meth c D z Q cells slots w' pc ls st) : Gd p l e R s m args below meth c D z Q cells slots w pc ls st := fun H locs la h1 h2 h3 => kk H locs la (h1.sub hs) h2 h3
theorem Gd.widen {k n : Nat} (h1 : cells ≤ k) (h2 : slots ≤ n) (kk : Gd p l e R s m args below meth c D z Q k n w pc ls st) : Gd p l e R s m args below meth c D z Q cells slots w pc ls st := fun H locs la a1 a2 a3 => W.widen h1 h2 (kk H locs la a1 a2 a3)
theorem gd_iload_n (C : Cx p l s m args meth c D ky z cc nL Ts own) {k : Fin 4} {x : Int32} (hdg : decode cc pc = .ok (.iload_n k, 1)) (hl : ls[(k : Nat)]? = some (some (.int x))) (kk : Gd p l e R s m args below meth c D z Q cells slots w (pc + 1) ls (.int x :: st)) : Gd p l e R s m args below meth c D z Q cells slots w pc ls st :=
  fun H locs la h1 h2 h3 => lv_iload_n C.1.1 C.1.2.1 hdg rfl (h3.2.2 _ _ hl).1 (kk H locs la h1 h2 h3)
theorem gd_iload (C : Cx p l s m args meth c D ky z cc nL Ts own) {k : Nat} {x : Int32} (hdg : decode cc pc = .ok (.iload k, 2)) (hl : ls[k]? = some (some (.int x))) (kk : Gd p l e R s m args below meth c D z Q cells slots w (pc + 2) ls (.int x :: st)) : Gd p l e R s m args below meth c D z Q cells slots w pc ls st :=
  fun H locs la h1 h2 h3 => lv_iload C.1.1 C.1.2.1 hdg (h3.2.2 _ _ hl).1 (kk H locs la h1 h2 h3)
theorem gd_aload_n (C : Cx p l s m args meth c D ky z cc nL Ts own) {k : Fin 4} {x : Nat} (hdg : decode cc pc = .ok (.aload_n k, 1)) (hl : ls[(k : Nat)]? = some (some (.ref x))) (kk : Gd p l e R s m args below meth c D z Q cells slots w (pc + 1) ls (.ref x :: st)) : Gd p l e R s m args below meth c D z Q cells slots w pc ls st :=
  fun H locs la h1 h2 h3 => lv_aload_n C.1.1 C.1.2.1 hdg rfl (h3.2.2 _ _ hl).1 (kk H locs la h1 h2 h3)
theorem gd_aload (C : Cx p l s m args meth c D ky z cc nL Ts own) {k : Nat} {x : Nat} (hdg : decode cc pc = .ok (.aload k, 2)) (hl : ls[k]? = some (some (.ref x))) (kk : Gd p l e R s m args below meth c D z Q cells slots w (pc + 2) ls (.ref x :: st)) : Gd p l e R s m args below meth c D z Q cells slots w pc ls st :=
  fun H locs la h1 h2 h3 => lv_aload C.1.1 C.1.2.1 hdg (h3.2.2 _ _ hl).1 (kk H locs la h1 h2 h3)
theorem gd_istore_n (C : Cx p l s m args meth c D ky z cc nL Ts own) {k : Fin 4} {x : Int32} (hdg : decode cc pc = .ok (.istore_n k, 1)) (hi : (k : Nat) < ls.length) (kk : Gd p l e R s m args below meth c D z Q cells slots w (pc + 1) (ls.set (k : Nat) (some (.int x))) st) : Gd p l e R s m args below meth c D z Q cells slots w pc ls (.int x :: st) :=
  fun H locs la h1 h2 h3 => lv_istore_n C.1.1 C.1.2.1 hdg rfl (lh_has h3) hi rfl (fun la' h' => kk H locs la' h1 h2 (lh_set h3 rfl h'))
theorem gd_istore (C : Cx p l s m args meth c D ky z cc nL Ts own) {k : Nat} {x : Int32} (hdg : decode cc pc = .ok (.istore k, 2)) (hi : k < ls.length) (kk : Gd p l e R s m args below meth c D z Q cells slots w (pc + 2) (ls.set k (some (.int x))) st) : Gd p l e R s m args below meth c D z Q cells slots w pc ls (.int x :: st) :=
  fun H locs la h1 h2 h3 => lv_istore C.1.1 C.1.2.1 hdg (lh_has h3) hi rfl (fun la' h' => kk H locs la' h1 h2 (lh_set h3 rfl h'))
theorem gd_astore_n (C : Cx p l s m args meth c D ky z cc nL Ts own) {k : Fin 4} {x : Nat} (hdg : decode cc pc = .ok (.astore_n k, 1)) (hi : (k : Nat) < ls.length) (kk : Gd p l e R s m args below meth c D z Q cells slots w (pc + 1) (ls.set (k : Nat) (some (.ref x))) st) : Gd p l e R s m args below meth c D z Q cells slots w pc ls (.ref x :: st) :=
  fun H locs la h1 h2 h3 => lv_astore_n C.1.1 C.1.2.1 hdg rfl (lh_has h3) hi rfl (fun la' h' => kk H locs la' h1 h2 (lh_set h3 rfl h'))
theorem gd_astore (C : Cx p l s m args meth c D ky z cc nL Ts own) {k : Nat} {x : Nat} (hdg : decode cc pc = .ok (.astore k, 2)) (hi : k < ls.length) (kk : Gd p l e R s m args below meth c D z Q cells slots w (pc + 2) (ls.set k (some (.ref x))) st) : Gd p l e R s m args below meth c D z Q cells slots w pc ls (.ref x :: st) :=
  fun H locs la h1 h2 h3 => lv_astore C.1.1 C.1.2.1 hdg (lh_has h3) hi rfl (fun la' h' => kk H locs la' h1 h2 (lh_set h3 rfl h'))
theorem gd_iinc (C : Cx p l s m args meth c D ky z cc nL Ts own) {i : Nat} {n a : Int} (hdg : decode cc pc = .ok (.iinc i n, 3)) (hl : ls[i]? = some (some (.int (iI a)))) (kk : Gd p l e R s m args below meth c D z Q cells slots w (pc + 3) (ls.set i (some (.int (iI (a + n))))) st) : Gd p l e R s m args below meth c D z Q cells slots w pc ls st := by
  intro H locs la h1 h2 h3
  have hm := mem_asc.mpr hl
  obtain ⟨k, hk⟩ := List.getElem?_of_mem hm
  exact lv_iinc C.1.1 C.1.2.1 hdg (lh_has h3) (k := k) (v := iI (a + n)) hk (iI_add a n) (List.getElem?_eq_some_iff.mp hl).1 rfl (fun la' h' => kk H locs la' h1 h2 (lh_set h3 rfl h'))
theorem gd_iconst (C : Cx p l s m args meth c D ky z cc nL Ts own) {n : Int} (hdg : decode cc pc = .ok (.iconst n, 1)) (kk : Gd p l e R s m args below meth c D z Q cells slots w (pc + 1) ls (.int (iI n) :: st)) : Gd p l e R s m args below meth c D z Q cells slots w pc ls st :=
  fun H locs la h1 h2 h3 => lv_iconst (v := iI n) C.1.1 C.1.2.1 hdg rfl (kk H locs la h1 h2 h3)
theorem gd_bipush (C : Cx p l s m args meth c D ky z cc nL Ts own) {n : Int} (hdg : decode cc pc = .ok (.bipush n, 2)) (hv : (Int8.ofInt n).toInt32 = Int32.ofInt n) (kk : Gd p l e R s m args below meth c D z Q cells slots w (pc + 2) ls (.int (iI n) :: st)) : Gd p l e R s m args below meth c D z Q cells slots w pc ls st :=
  fun H locs la h1 h2 h3 => lv_bipush (v := iI n) C.1.1 C.1.2.1 hdg hv (kk H locs la h1 h2 h3)
theorem gd_sipush (C : Cx p l s m args meth c D ky z cc nL Ts own) {n : Int} (hdg : decode cc pc = .ok (.sipush n, 3)) (hv : (Int16.ofInt n).toInt32 = Int32.ofInt n) (kk : Gd p l e R s m args below meth c D z Q cells slots w (pc + 3) ls (.int (iI n) :: st)) : Gd p l e R s m args below meth c D z Q cells slots w pc ls st :=
  fun H locs la h1 h2 h3 => lv_sipush (v := iI n) C.1.1 C.1.2.1 hdg hv (kk H locs la h1 h2 h3)
theorem gd_null (C : Cx p l s m args meth c D ky z cc nL Ts own) (hdg : decode cc pc = .ok (.aconst_null, 1)) (kk : Gd p l e R s m args below meth c D z Q cells slots w (pc + 1) ls (.null :: st)) : Gd p l e R s m args below meth c D z Q cells slots w pc ls st :=
  fun H locs la h1 h2 h3 => lv_null C.1.1 C.1.2.1 hdg (kk H locs la h1 h2 h3)
theorem gd_dup (C : Cx p l s m args meth c D ky z cc nL Ts own) {v : Value} (hdg : decode cc pc = .ok (.dup, 1)) (hv : v.category = 1) (kk : Gd p l e R s m args below meth c D z Q cells slots w (pc + 1) ls (v :: v :: st)) : Gd p l e R s m args below meth c D z Q cells slots w pc ls (v :: st) :=
  fun H locs la h1 h2 h3 => lv_dup C.1.1 C.1.2.1 hdg hv (kk H locs la h1 h2 h3)
theorem gd_pop (C : Cx p l s m args meth c D ky z cc nL Ts own) {v : Value} (hdg : decode cc pc = .ok (.pop, 1)) (hv : v.category = 1) (kk : Gd p l e R s m args below meth c D z Q cells slots w (pc + 1) ls st) : Gd p l e R s m args below meth c D z Q cells slots w pc ls (v :: st) :=
  fun H locs la h1 h2 h3 => lv_pop C.1.1 C.1.2.1 hdg hv (kk H locs la h1 h2 h3)
theorem gd_iadd (C : Cx p l s m args meth c D ky z cc nL Ts own) {a b : Int} (hdg : decode cc pc = .ok (.iadd, 1)) (kk : Gd p l e R s m args below meth c D z Q cells slots w (pc + 1) ls (.int (iI (a + b)) :: st)) : Gd p l e R s m args below meth c D z Q cells slots w pc ls (.int (iI b) :: .int (iI a) :: st) :=
  fun H locs la h1 h2 h3 => lv_iadd C.1.1 C.1.2.1 hdg (by rw [iI_add]; exact kk H locs la h1 h2 h3)
theorem gd_isub (C : Cx p l s m args meth c D ky z cc nL Ts own) {a b : Int} (hdg : decode cc pc = .ok (.isub, 1)) (kk : Gd p l e R s m args below meth c D z Q cells slots w (pc + 1) ls (.int (iI (a - b)) :: st)) : Gd p l e R s m args below meth c D z Q cells slots w pc ls (.int (iI b) :: .int (iI a) :: st) :=
  fun H locs la h1 h2 h3 => lv_isub C.1.1 C.1.2.1 hdg (by rw [iI_sub]; exact kk H locs la h1 h2 h3)
theorem gd_imul (C : Cx p l s m args meth c D ky z cc nL Ts own) {a b : Int} (hdg : decode cc pc = .ok (.imul, 1)) (kk : Gd p l e R s m args below meth c D z Q cells slots w (pc + 1) ls (.int (iI (a * b)) :: st)) : Gd p l e R s m args below meth c D z Q cells slots w pc ls (.int (iI b) :: .int (iI a) :: st) :=
  fun H locs la h1 h2 h3 => lv_imul C.1.1 C.1.2.1 hdg (by rw [iI_mul]; exact kk H locs la h1 h2 h3)
theorem iI_ne0 {b : Int} (h : 0 < b) (h2 : b ≤ 2147483647) : ¬ iI b = 0 := fun q => by
  have := (iI_eq (a := b) (b := 0) (by omega) (by omega)).mp (q.trans (by decide))
  omega
theorem gd_idiv (C : Cx p l s m args meth c D ky z cc nL Ts own) {a b : Int} (hdg : decode cc pc = .ok (.idiv, 1)) (h : (0 ≤ a ∧ a ≤ 2147483647) ∧ 0 < b ∧ b ≤ 2147483647) (kk : Gd p l e R s m args below meth c D z Q cells slots w (pc + 1) ls (.int (iI (a / b)) :: st)) : Gd p l e R s m args below meth c D z Q cells slots w pc ls (.int (iI b) :: .int (iI a) :: st) :=
  fun H locs la h1 h2 h3 => lv_idiv C.1.1 C.1.2.1 hdg (iI_ne0 h.2.1 h.2.2) (by rw [iI_div h.1.1 h.1.2 h.2.1 h.2.2]; exact kk H locs la h1 h2 h3)
theorem gd_irem (C : Cx p l s m args meth c D ky z cc nL Ts own) {a b : Int} (hdg : decode cc pc = .ok (.irem, 1)) (h : (0 ≤ a ∧ a ≤ 2147483647) ∧ 0 < b ∧ b ≤ 2147483647) (kk : Gd p l e R s m args below meth c D z Q cells slots w (pc + 1) ls (.int (iI (a % b)) :: st)) : Gd p l e R s m args below meth c D z Q cells slots w pc ls (.int (iI b) :: .int (iI a) :: st) :=
  fun H locs la h1 h2 h3 => lv_irem C.1.1 C.1.2.1 hdg (iI_ne0 h.2.1 h.2.2) (by rw [iI_rem h.1.1 h.1.2 h.2.1 h.2.2]; exact kk H locs la h1 h2 h3)
theorem gd_goto (C : Cx p l s m args meth c D ky z cc nL Ts own) {off : Int} {tgt : Nat} (hdg : decode cc pc = .ok (.goto off, 3)) (ht : (pc : Int) + off = (tgt : Int)) (kk : Gd p l e R s m args below meth c D z Q cells slots w tgt ls st) : Gd p l e R s m args below meth c D z Q cells slots w pc ls st :=
  fun H locs la h1 h2 h3 => lv_goto C.1.1 C.1.2.1 hdg ht (kk H locs la h1 h2 h3)
theorem gd_icmp_eq (C : Cx p l s m args meth c D ky z cc nL Ts own) {a b : Int} {off : Int} {tgt : Nat} (hdg : decode cc pc = .ok (.if_icmp .eq off, 3)) (ht : (pc : Int) + off = (tgt : Int)) (ha : InR a) (hb : InR b) (kt : a = b → Gd p l e R s m args below meth c D z Q cells slots w tgt ls st) (kf : ¬ a = b → Gd p l e R s m args below meth c D z Q cells slots w (pc + 3) ls st) : Gd p l e R s m args below meth c D z Q cells slots w pc ls (.int (iI b) :: .int (iI a) :: st) :=
  fun H locs la h1 h2 h3 => lv_icmp_eq C.1.1 C.1.2.1 hdg ht (fun q => kt ((iI_eq ha hb).mp q) H locs la h1 h2 h3) (fun q => kf (fun q' => q ((iI_eq ha hb).mpr q')) H locs la h1 h2 h3)
theorem gd_if_eq (C : Cx p l s m args meth c D ky z cc nL Ts own) {a : Int} {off : Int} {tgt : Nat} (hdg : decode cc pc = .ok (.ifCond .eq off, 3)) (ht : (pc : Int) + off = (tgt : Int)) (ha : InR a) (kt : a = 0 → Gd p l e R s m args below meth c D z Q cells slots w tgt ls st) (kf : ¬ a = 0 → Gd p l e R s m args below meth c D z Q cells slots w (pc + 3) ls st) : Gd p l e R s m args below meth c D z Q cells slots w pc ls (.int (iI a) :: st) := by
  intro H locs la h1 h2 h3
  have hb : InR 0 := by omega
  exact lv_if_eq C.1.1 C.1.2.1 hdg ht (fun q => kt ((iI_eq ha hb).mp q) H locs la h1 h2 h3) (fun q => kf (fun q' => q ((iI_eq ha hb).mpr q')) H locs la h1 h2 h3)
theorem gd_icmp_ne (C : Cx p l s m args meth c D ky z cc nL Ts own) {a b : Int} {off : Int} {tgt : Nat} (hdg : decode cc pc = .ok (.if_icmp .ne off, 3)) (ht : (pc : Int) + off = (tgt : Int)) (ha : InR a) (hb : InR b) (kt : ¬ a = b → Gd p l e R s m args below meth c D z Q cells slots w tgt ls st) (kf : a = b → Gd p l e R s m args below meth c D z Q cells slots w (pc + 3) ls st) : Gd p l e R s m args below meth c D z Q cells slots w pc ls (.int (iI b) :: .int (iI a) :: st) :=
  fun H locs la h1 h2 h3 => lv_icmp_ne C.1.1 C.1.2.1 hdg ht (fun q => kt (fun q' => q ((iI_eq ha hb).mpr q')) H locs la h1 h2 h3) (fun q => kf ((iI_eq ha hb).mp q) H locs la h1 h2 h3)
theorem gd_if_ne (C : Cx p l s m args meth c D ky z cc nL Ts own) {a : Int} {off : Int} {tgt : Nat} (hdg : decode cc pc = .ok (.ifCond .ne off, 3)) (ht : (pc : Int) + off = (tgt : Int)) (ha : InR a) (kt : ¬ a = 0 → Gd p l e R s m args below meth c D z Q cells slots w tgt ls st) (kf : a = 0 → Gd p l e R s m args below meth c D z Q cells slots w (pc + 3) ls st) : Gd p l e R s m args below meth c D z Q cells slots w pc ls (.int (iI a) :: st) := by
  intro H locs la h1 h2 h3
  have hb : InR 0 := by omega
  exact lv_if_ne C.1.1 C.1.2.1 hdg ht (fun q => kt (fun q' => q ((iI_eq ha hb).mpr q')) H locs la h1 h2 h3) (fun q => kf ((iI_eq ha hb).mp q) H locs la h1 h2 h3)
theorem gd_icmp_lt (C : Cx p l s m args meth c D ky z cc nL Ts own) {a b : Int} {off : Int} {tgt : Nat} (hdg : decode cc pc = .ok (.if_icmp .lt off, 3)) (ht : (pc : Int) + off = (tgt : Int)) (ha : InR a) (hb : InR b) (kt : a < b → Gd p l e R s m args below meth c D z Q cells slots w tgt ls st) (kf : ¬ a < b → Gd p l e R s m args below meth c D z Q cells slots w (pc + 3) ls st) : Gd p l e R s m args below meth c D z Q cells slots w pc ls (.int (iI b) :: .int (iI a) :: st) :=
  fun H locs la h1 h2 h3 => lv_icmp_lt C.1.1 C.1.2.1 hdg ht (fun q => kt ((iI_lt ha hb).mp q) H locs la h1 h2 h3) (fun q => kf (fun q' => q ((iI_lt ha hb).mpr q')) H locs la h1 h2 h3)
theorem gd_if_lt (C : Cx p l s m args meth c D ky z cc nL Ts own) {a : Int} {off : Int} {tgt : Nat} (hdg : decode cc pc = .ok (.ifCond .lt off, 3)) (ht : (pc : Int) + off = (tgt : Int)) (ha : InR a) (kt : a < 0 → Gd p l e R s m args below meth c D z Q cells slots w tgt ls st) (kf : ¬ a < 0 → Gd p l e R s m args below meth c D z Q cells slots w (pc + 3) ls st) : Gd p l e R s m args below meth c D z Q cells slots w pc ls (.int (iI a) :: st) := by
  intro H locs la h1 h2 h3
  have hb : InR 0 := by omega
  exact lv_if_lt C.1.1 C.1.2.1 hdg ht (fun q => kt ((iI_lt ha hb).mp q) H locs la h1 h2 h3) (fun q => kf (fun q' => q ((iI_lt ha hb).mpr q')) H locs la h1 h2 h3)
theorem gd_icmp_ge (C : Cx p l s m args meth c D ky z cc nL Ts own) {a b : Int} {off : Int} {tgt : Nat} (hdg : decode cc pc = .ok (.if_icmp .ge off, 3)) (ht : (pc : Int) + off = (tgt : Int)) (ha : InR a) (hb : InR b) (kt : b ≤ a → Gd p l e R s m args below meth c D z Q cells slots w tgt ls st) (kf : ¬ b ≤ a → Gd p l e R s m args below meth c D z Q cells slots w (pc + 3) ls st) : Gd p l e R s m args below meth c D z Q cells slots w pc ls (.int (iI b) :: .int (iI a) :: st) :=
  fun H locs la h1 h2 h3 => lv_icmp_ge C.1.1 C.1.2.1 hdg ht (fun q => kt ((iI_le hb ha).mp q) H locs la h1 h2 h3) (fun q => kf (fun q' => q ((iI_le hb ha).mpr q')) H locs la h1 h2 h3)
theorem gd_if_ge (C : Cx p l s m args meth c D ky z cc nL Ts own) {a : Int} {off : Int} {tgt : Nat} (hdg : decode cc pc = .ok (.ifCond .ge off, 3)) (ht : (pc : Int) + off = (tgt : Int)) (ha : InR a) (kt : 0 ≤ a → Gd p l e R s m args below meth c D z Q cells slots w tgt ls st) (kf : ¬ 0 ≤ a → Gd p l e R s m args below meth c D z Q cells slots w (pc + 3) ls st) : Gd p l e R s m args below meth c D z Q cells slots w pc ls (.int (iI a) :: st) := by
  intro H locs la h1 h2 h3
  have hb : InR 0 := by omega
  exact lv_if_ge C.1.1 C.1.2.1 hdg ht (fun q => kt ((iI_le hb ha).mp q) H locs la h1 h2 h3) (fun q => kf (fun q' => q ((iI_le hb ha).mpr q')) H locs la h1 h2 h3)
theorem gd_icmp_gt (C : Cx p l s m args meth c D ky z cc nL Ts own) {a b : Int} {off : Int} {tgt : Nat} (hdg : decode cc pc = .ok (.if_icmp .gt off, 3)) (ht : (pc : Int) + off = (tgt : Int)) (ha : InR a) (hb : InR b) (kt : b < a → Gd p l e R s m args below meth c D z Q cells slots w tgt ls st) (kf : ¬ b < a → Gd p l e R s m args below meth c D z Q cells slots w (pc + 3) ls st) : Gd p l e R s m args below meth c D z Q cells slots w pc ls (.int (iI b) :: .int (iI a) :: st) :=
  fun H locs la h1 h2 h3 => lv_icmp_gt C.1.1 C.1.2.1 hdg ht (fun q => kt ((iI_lt hb ha).mp q) H locs la h1 h2 h3) (fun q => kf (fun q' => q ((iI_lt hb ha).mpr q')) H locs la h1 h2 h3)
theorem gd_if_gt (C : Cx p l s m args meth c D ky z cc nL Ts own) {a : Int} {off : Int} {tgt : Nat} (hdg : decode cc pc = .ok (.ifCond .gt off, 3)) (ht : (pc : Int) + off = (tgt : Int)) (ha : InR a) (kt : 0 < a → Gd p l e R s m args below meth c D z Q cells slots w tgt ls st) (kf : ¬ 0 < a → Gd p l e R s m args below meth c D z Q cells slots w (pc + 3) ls st) : Gd p l e R s m args below meth c D z Q cells slots w pc ls (.int (iI a) :: st) := by
  intro H locs la h1 h2 h3
  have hb : InR 0 := by omega
  exact lv_if_gt C.1.1 C.1.2.1 hdg ht (fun q => kt ((iI_lt hb ha).mp q) H locs la h1 h2 h3) (fun q => kf (fun q' => q ((iI_lt hb ha).mpr q')) H locs la h1 h2 h3)
theorem gd_icmp_le (C : Cx p l s m args meth c D ky z cc nL Ts own) {a b : Int} {off : Int} {tgt : Nat} (hdg : decode cc pc = .ok (.if_icmp .le off, 3)) (ht : (pc : Int) + off = (tgt : Int)) (ha : InR a) (hb : InR b) (kt : a ≤ b → Gd p l e R s m args below meth c D z Q cells slots w tgt ls st) (kf : ¬ a ≤ b → Gd p l e R s m args below meth c D z Q cells slots w (pc + 3) ls st) : Gd p l e R s m args below meth c D z Q cells slots w pc ls (.int (iI b) :: .int (iI a) :: st) :=
  fun H locs la h1 h2 h3 => lv_icmp_le C.1.1 C.1.2.1 hdg ht (fun q => kt ((iI_le ha hb).mp q) H locs la h1 h2 h3) (fun q => kf (fun q' => q ((iI_le ha hb).mpr q')) H locs la h1 h2 h3)
theorem gd_if_le (C : Cx p l s m args meth c D ky z cc nL Ts own) {a : Int} {off : Int} {tgt : Nat} (hdg : decode cc pc = .ok (.ifCond .le off, 3)) (ht : (pc : Int) + off = (tgt : Int)) (ha : InR a) (kt : a ≤ 0 → Gd p l e R s m args below meth c D z Q cells slots w tgt ls st) (kf : ¬ a ≤ 0 → Gd p l e R s m args below meth c D z Q cells slots w (pc + 3) ls st) : Gd p l e R s m args below meth c D z Q cells slots w pc ls (.int (iI a) :: st) := by
  intro H locs la h1 h2 h3
  have hb : InR 0 := by omega
  exact lv_if_le C.1.1 C.1.2.1 hdg ht (fun q => kt ((iI_le ha hb).mp q) H locs la h1 h2 h3) (fun q => kf (fun q' => q ((iI_le ha hb).mpr q')) H locs la h1 h2 h3)
theorem gd_ifnull (C : Cx p l s m args meth c D ky z cc nL Ts own) {x : Nat} {off : Int} (hdg : decode cc pc = .ok (.ifnull off, 3)) (kk : Gd p l e R s m args below meth c D z Q cells slots w (pc + 3) ls st) : Gd p l e R s m args below meth c D z Q cells slots w pc ls (.ref x :: st) :=
  fun H locs la h1 h2 h3 => lv_ifnull C.1.1 C.1.2.1 hdg (kk H locs la h1 h2 h3)
theorem gd_ifnullN (C : Cx p l s m args meth c D ky z cc nL Ts own) {off : Int} {tgt : Nat} (hdg : decode cc pc = .ok (.ifnull off, 3)) (ht : (pc : Int) + off = (tgt : Int)) (kk : Gd p l e R s m args below meth c D z Q cells slots w tgt ls st) : Gd p l e R s m args below meth c D z Q cells slots w pc ls (.null :: st) :=
  fun H locs la h1 h2 h3 => lv_ifnullN C.1.1 C.1.2.1 hdg ht (kk H locs la h1 h2 h3)
theorem gd_acmpeq (C : Cx p l s m args meth c D ky z cc nL Ts own) {x y : Nat} {off : Int} {tgt : Nat} (hdg : decode cc pc = .ok (.if_acmp .eq off, 3)) (ht : (pc : Int) + off = (tgt : Int)) (kt : x = y → Gd p l e R s m args below meth c D z Q cells slots w tgt ls st) (kf : ¬ x = y → Gd p l e R s m args below meth c D z Q cells slots w (pc + 3) ls st) : Gd p l e R s m args below meth c D z Q cells slots w pc ls (.ref y :: .ref x :: st) :=
  fun H locs la h1 h2 h3 => lv_acmp_eq (rx := some x) (ry := some y) C.1.1 C.1.2.1 hdg ht (fun q => kt (Option.some.inj q) H locs la h1 h2 h3) (fun q => kf (fun q' => q (congrArg some q')) H locs la h1 h2 h3)
/-- a cell's fields -/
theorem Wd.one {H : Heap} {a : Nat} {x : va_E} (h : Wd D z w H) (he : w a = some x) : va_P D vwCl [(a, x)] H := fun k q hq => by
  have hz : k < 1 := (List.getElem?_eq_some_iff.mp hq).1
  rw [show k = 0 by omega] at hq
  cases hq
  exact (h.2 a x he).2
theorem gd_get (C : Cx p l s m args meth c D ky z cc nL Ts own) {ref Cn : String} {T : u_T} {N ci index a : Nat} {fs : List Value} {v : Value} (he : w a = some (oB ci fs)) (hc : vwCl[ci]? = some (Cn, T, N)) (hin : ∀ x ∈ u_ws Cn T N, x ∈ Ts) (k : Nat) (hk : k < N) (hlink : Cond.fieldLink own index ref (T k).2.1 (T k).2.2.1 ∈ Ts) (hr : (T k).1 = ref) (hv : fs[k]? = some v) (hdg : decode cc pc = .ok (.getfield index, 3))
    (kk : Gd p l e R s m args below meth c D z Q cells slots w (pc + 3) ls (v :: st)) : Gd p l e R s m args below meth c D z Q cells slots w pc ls (.ref a :: st) :=
  fun H locs la h1 h2 h3 => va_get (D := D) (cl := vwCl) (tys := tyG ky) C.1.1 C.1.2.1 C.1.2.2.2.2 hin C.1.2.2.2.1 C.2.1.1 (h1.one he) 0 rfl hc k hk (C.1.2.2.2.2 _ hlink) (fun _ h9 => hr ▸ h9) hv hdg (kk H locs la h1 h2 h3)
theorem gd_getN (C : Cx p l s m args meth c D ky z cc nL Ts own) {ref Cn host : String} {T : u_T} {N ci index a : Nat} {fs : List Value} {v : Value} (he : w a = some (oB ci fs)) (hc : vwCl[ci]? = some (Cn, T, N)) (hin : ∀ x ∈ u_ws Cn T N, x ∈ Ts) (k : Nat) (hk : k < N) (hlink : Cond.fieldLinkNest own index ref (T k).2.1 (T k).2.2.1 host ∈ nestWs) (hr : (T k).1 = ref) (hv : fs[k]? = some v) (hdg : decode cc pc = .ok (.getfield index, 3))
    (kk : Gd p l e R s m args below meth c D z Q cells slots w (pc + 3) ls (v :: st)) : Gd p l e R s m args below meth c D z Q cells slots w pc ls (.ref a :: st) :=
  fun H locs la h1 h2 h3 => va_getN (D := D) (cl := vwCl) (tys := tyG ky) C.1.1 C.1.2.1 C.1.2.2.2.2 hin C.1.2.2.2.1 C.2.1.1 (h1.one he) 0 rfl hc k hk (va_Nw.use rfl (C.2.1.2.1 _ hlink)) (fun _ h9 => hr ▸ h9) hv hdg (kk H locs la h1 h2 h3)
theorem va_S.putz {H0 H H1 : Heap} {locs : List Loc} {a i : Nat} (h : va_S (fun q => z ≤ q) H0 H locs) (e2 : H1.size = H.size) (e3 : ∀ q : Nat, q ≠ a → H1[q]? = H[q]?) (ha : z ≤ a) : va_S (fun q => z ≤ q) H0 H1 (locs ++ [⟨a, i⟩]) := by
  refine ⟨by rw [e2]; exact h.1, fun q h1 h2 => (e3 q (fun q' => h2 (by rw [q']; exact ha))).trans (h.2.1 q h1 h2), fun q hq => ?_⟩
  rcases List.mem_append.mp hq with h9 | h9
  · exact h.2.2 q h9
  · rw [List.mem_singleton.mp h9]
    exact ha
theorem gd_put (C : Cx p l s m args meth c D ky z cc nL Ts own) {ref Cn : String} {T : u_T} {N ci index a : Nat} {fs : List Value} {v : Value} (he : w a = some (oB ci fs)) (hc : vwCl[ci]? = some (Cn, T, N)) (hin : ∀ x ∈ u_ws Cn T N, x ∈ Ts) (ty0 : Nat → FieldType) (hty : ∀ k, k < N → parseFieldDescriptor (T k).2.2.1 = some (ty0 k)) (hnm : ∀ a, a < N → ∀ b, b < N → a ≠ b → (T a).2.1 ≠ (T b).2.1) (k : Nat) (hk : k < N) (hlink : Cond.fieldLink own index ref (T k).2.1 (T k).2.2.1 ∈ Ts) (hr : (T k).1 = ref) (hfin : (T k).2.2.2 = false) (hn : narrow (ty0 k) v = v) (hfit : fits (ty0 k) v = true) (hl : k < fs.length) (hdg : decode cc pc = .ok (.putfield index, 3))
    (kk : Gd p l e R s m args below meth c D z Q cells slots (wU w a (oB ci (fs.set k v))) (pc + 3) ls st) : Gd p l e R s m args below meth c D z Q cells slots w pc ls (v :: .ref a :: st) := by
  intro H locs la h1 h2 h3
  obtain ⟨hz, r, g1, cell, q1, q2, q3, q4⟩ := h1.2 a _ he
  have hr9 : r = (Cn, T, N) := Option.some.inj (g1.symm.trans hc)
  subst hr9
  have hap := va_apart (own := own) C.1.2.2.2.2 hin ty0 hty hnm C.2.1.1 hc
  obtain ⟨hS, hfc, kC, hkC, hkind⟩ := C.2.1.1.1 ci _ hc
  obtain ⟨cf, kf, fi, f, hi, hsl⟩ := hS k hk
  have hlay := C.1.2.2.2.2 _ (hin _ (u_in_lay hk))
  unfold u_lay at hlay
  have hst := (u_facts hfc hkC (u_lays C.1.2.2.2.2 hin hk) hi).1
  rw [if_neg (by rw [hfin]; decide)] at hlay
  have h6 := u_store hfc hkC hkind hlay hi (hty k hk) hn hfit
  refine W.putK C.1.1 C.1.2.1 (f := f) ⟨C.1.2.2.2.1, C.1.2.2.2.2 _ hlink, ⟨_, _, _, hr ▸ hi⟩, hst⟩ (by rw [q2]; exact h6) q1 q3 (by rw [hsl]; exact k2_hasslot (q4 k hk)) rfl rfl hdg fun H' e1 e2 e3 => ?_
  rw [hsl] at e1 ⊢
  exact kk H' _ la (h1.put hz ⟨_, hc, t_OB.to (V := updV (vp_V fs) k v) ⟨_, e1, q2, q3, t_set q4 hap hk v⟩ (fun j _ => vp_updV_set hl v j)⟩ (Nat.le_of_eq e2.symm) (fun q _ hq => e3 q hq)) (h2.putz e2 e3 hz) h3
theorem gd_putN (C : Cx p l s m args meth c D ky z cc nL Ts own) {ref Cn host : String} {T : u_T} {N ci index a : Nat} {fs : List Value} {v : Value} (he : w a = some (oB ci fs)) (hc : vwCl[ci]? = some (Cn, T, N)) (hin : ∀ x ∈ u_ws Cn T N, x ∈ Ts) (ty0 : Nat → FieldType) (hty : ∀ k, k < N → parseFieldDescriptor (T k).2.2.1 = some (ty0 k)) (hnm : ∀ a, a < N → ∀ b, b < N → a ≠ b → (T a).2.1 ≠ (T b).2.1) (k : Nat) (hk : k < N) (hlink : Cond.fieldLinkNest own index ref (T k).2.1 (T k).2.2.1 host ∈ nestWs) (hr : (T k).1 = ref) (hfin : (T k).2.2.2 = false) (hn : narrow (ty0 k) v = v) (hfit : fits (ty0 k) v = true) (hl : k < fs.length) (hdg : decode cc pc = .ok (.putfield index, 3))
    (kk : Gd p l e R s m args below meth c D z Q cells slots (wU w a (oB ci (fs.set k v))) (pc + 3) ls st) : Gd p l e R s m args below meth c D z Q cells slots w pc ls (v :: .ref a :: st) := by
  intro H locs la h1 h2 h3
  obtain ⟨hz, r, g1, cell, q1, q2, q3, q4⟩ := h1.2 a _ he
  have hr9 : r = (Cn, T, N) := Option.some.inj (g1.symm.trans hc)
  subst hr9
  have hap := va_apart (own := own) C.1.2.2.2.2 hin ty0 hty hnm C.2.1.1 hc
  obtain ⟨hS, hfc, kC, hkC, hkind⟩ := C.2.1.1.1 ci _ hc
  obtain ⟨cf, kf, fi, f, hi, hsl⟩ := hS k hk
  have hlay := C.1.2.2.2.2 _ (hin _ (u_in_lay hk))
  unfold u_lay at hlay
  have hst := (u_facts hfc hkC (u_lays C.1.2.2.2.2 hin hk) hi).1
  rw [if_neg (by rw [hfin]; decide)] at hlay
  have h6 := u_store hfc hkC hkind hlay hi (hty k hk) hn hfit
  refine va_WputK C.1.1 C.1.2.1 (f := f) C.1.2.2.2.1 (va_Nw.use rfl (C.2.1.2.1 _ hlink)) (hr ▸ hi) hst (by rw [q2]; exact h6) q1 q3 (by rw [hsl]; exact k2_hasslot (q4 k hk)) rfl rfl hdg fun H' e1 e2 e3 => ?_
  rw [hsl] at e1 ⊢
  exact kk H' _ la (h1.put hz ⟨_, hc, t_OB.to (V := updV (vp_V fs) k v) ⟨_, e1, q2, q3, t_set q4 hap hk v⟩ (fun j _ => vp_updV_set hl v j)⟩ (Nat.le_of_eq e2.symm) (fun q _ hq => e3 q hq)) (h2.putz e2 e3 hz) h3
theorem gd_iald (C : Cx p l s m args meth c D ky z cc nL Ts own) {a n : Nat} {f : Int → Int} {i : Int} (he : w a = some (iA (ky 0) n f)) (hn : n < 2147483648) (hi : 0 ≤ i ∧ i < n) (hdg : decode cc pc = .ok (.iaload, 1)) (kk : Gd p l e R s m args below meth c D z Q cells slots w (pc + 1) ls (.int (iI (f i)) :: st)) : Gd p l e R s m args below meth c D z Q cells slots w pc ls (.int (iI i) :: .ref a :: st) := by
  intro H locs la h1 h2 h3
  obtain ⟨c1, c2⟩ := iI_cl hi.1 hi.2 hn
  refine va_iald (D := D) (cl := vwCl) (tys := tyG ky) C.1.1 C.1.2.1 C.2.1.1 (h1.one he) 0 0 rfl rfl c1 hdg ?_
  have := kk H locs la h1 h2 h3
  rw [← c2] at this
  exact this
theorem gd_zald (C : Cx p l s m args meth c D ky z cc nL Ts own) {a n : Nat} {f : Int → Int} {i : Int} (he : w a = some (iA (ky 1) n f)) (hn : n < 2147483648) (hi : 0 ≤ i ∧ i < n) (hdg : decode cc pc = .ok (.baload, 1)) (kk : Gd p l e R s m args below meth c D z Q cells slots w (pc + 1) ls (.int (iI (f i)) :: st)) : Gd p l e R s m args below meth c D z Q cells slots w pc ls (.int (iI i) :: .ref a :: st) := by
  intro H locs la h1 h2 h3
  obtain ⟨c1, c2⟩ := iI_cl hi.1 hi.2 hn
  refine va_zald (D := D) (cl := vwCl) (tys := tyG ky) C.1.1 C.1.2.1 C.2.1.1 (h1.one he) 0 1 rfl rfl c1 hdg ?_
  have := kk H locs la h1 h2 h3
  rw [← c2] at this
  exact this
theorem gd_aald (C : Cx p l s m args meth c D ky z cc nL Ts own) {a n x : Nat} {f : Int → Option Nat} {i : Int} (he : w a = some (rA (ky 2) n f)) (hn : n < 2147483648) (hi : 0 ≤ i ∧ i < n) (hx : f i = some x) (hdg : decode cc pc = .ok (.aaload, 1)) (kk : Gd p l e R s m args below meth c D z Q cells slots w (pc + 1) ls (.ref x :: st)) : Gd p l e R s m args below meth c D z Q cells slots w pc ls (.int (iI i) :: .ref a :: st) := by
  intro H locs la h1 h2 h3
  obtain ⟨c1, c2⟩ := iI_cl hi.1 hi.2 hn
  refine va_aldq (D := D) (cl := vwCl) (tys := tyG ky) C.1.1 C.1.2.1 C.2.1.1 (h1.one he) 0 2 rfl rfl c1 hdg ?_
  have h9 := kk H locs la h1 h2 h3
  rw [← c2] at hx
  show W p l e R s m args below meth c H locs cells slots Q (F0 m (pc + 1) la (va_rf (f ((iI i).toNatClampNeg : Int)) :: st))
  rw [hx]
  exact h9
theorem arrI_store (k : ClassId) {n : Nat} {f : Int → Int} {i x : Int} (hi : 0 ≤ i ∧ i < n) (hn : n < 2147483648) : (arrV k n (fun j : Nat => .int (iI (f (j : Int))))).setSlot (iI i).toNatClampNeg (.int (iI x)) = arrV k n (fun j : Nat => .int (iI (fU f i x (j : Int)))) := by
  obtain ⟨c1, c2⟩ := iI_cl hi.1 hi.2 hn
  rw [arrV_store]
  congr 1
  funext q
  by_cases hq : q = (iI i).toNatClampNeg
  · subst hq
    rw [c2, fU_s]
    simp [updV]
  · rw [fU_n (by omega)]
    simp [updV, hq]
theorem gd_iast (C : Cx p l s m args meth c D ky z cc nL Ts own) {a n : Nat} {f : Int → Int} {i x : Int} (he : w a = some (iA (ky 0) n f)) (hn : n < 2147483648) (hi : 0 ≤ i ∧ i < n) (hdg : decode cc pc = .ok (.iastore, 1)) (kk : Gd p l e R s m args below meth c D z Q cells slots (wU w a (iA (ky 0) n (fU f i x))) (pc + 1) ls st) : Gd p l e R s m args below meth c D z Q cells slots w pc ls (.int (iI x) :: .int (iI i) :: .ref a :: st) := by
  intro H locs la h1 h2 h3
  obtain ⟨c1, c2⟩ := iI_cl hi.1 hi.2 hn
  obtain ⟨hz, hat⟩ := h1.2 a _ he
  refine W.iast C.1.1 C.1.2.1 hat ((C.2.1.1.2 0 _ rfl).1 n (fun j => .int (iI (f (j : Int))))) (fun q => by cases q) (by show ¬ (_ < 0 ∨ (arrV _ _ _).slots.size ≤ _); rw [arrV_size]; exact c1) rfl rfl hdg fun H1 e1 e2 e3 => ?_
  refine kk H1 _ la (h1.put hz ?_ (Nat.le_of_eq e2.symm) (fun q _ hq => e3 q hq)) (h2.putz e2 e3 hz) h3
  show H1[a]? = some (vp_cell _ _)
  rw [e1, vp_cell_i, vp_cell_i, arrI_store _ hi hn]
theorem nar_b {x : Int} (hx : x = 0 ∨ x = 1) : narrow .boolean (.int (iI x)) = .int (iI x) := by
  rcases hx with rfl | rfl <;> decide
theorem gd_zast (C : Cx p l s m args meth c D ky z cc nL Ts own) {a n : Nat} {f : Int → Int} {i x : Int} (he : w a = some (iA (ky 1) n f)) (hn : n < 2147483648) (hi : 0 ≤ i ∧ i < n) (hx : x = 0 ∨ x = 1) (hdg : decode cc pc = .ok (.bastore, 1)) (kk : Gd p l e R s m args below meth c D z Q cells slots (wU w a (iA (ky 1) n (fU f i x))) (pc + 1) ls st) : Gd p l e R s m args below meth c D z Q cells slots w pc ls (.int (iI x) :: .int (iI i) :: .ref a :: st) := by
  intro H locs la h1 h2 h3
  obtain ⟨c1, c2⟩ := iI_cl hi.1 hi.2 hn
  obtain ⟨hz, hat⟩ := h1.2 a _ he
  refine W.zast C.1.1 C.1.2.1 hat ((C.2.1.1.2 1 _ rfl).1 n (fun j => .int (iI (f (j : Int))))) (fun q => by cases q) (by show ¬ (_ < 0 ∨ (arrV _ _ _).slots.size ≤ _); rw [arrV_size]; exact c1) rfl rfl hdg fun H1 e1 e2 e3 => ?_
  refine kk H1 _ la (h1.put hz ?_ (Nat.le_of_eq e2.symm) (fun q _ hq => e3 q hq)) (h2.putz e2 e3 hz) h3
  show H1[a]? = some (vp_cell _ _)
  rw [e1, vp_cell_i, vp_cell_i, nar_b hx, arrI_store _ hi hn]
end GD
end
section
/-! contracts over worlds, and their calls -/
def mP (D : va_G) (ky : Nat → ClassId) (z : Nat) (as : List Value) (w : WT) : Array Value → State → Prop := fun v U => v = as.toArray ∧ Wd D z w U.heap ∧ SB D ky z U
def mQ (D : va_G) (z : Nat) (Post : Option Value → WT → Prop) : Array Value → State → Outcome → State → Prop := fun _ st o t => (∃ (r : Option Value) (w' : WT), o = .returned r ∧ Post r w' ∧ Wd D z w' t.heap) ∧ va_F (fun q => z ≤ q) st t
def mX (D : va_G) (z : Nat) (w : WT) (XP : String → Prop) : String → State → State → Prop := fun E st t => XP E ∧ Wd D z w t.heap ∧ va_F (fun q => z ≤ q) st t
/-- the contract of a method: from the world w, with these arguments, it returns as Post says, or throws a class that XP names, the world as it was -/
def Mt (l : Launch) (D : va_G) (ky : Nat → ClassId) (z : Nat) (y : MethodName) (ws : List Cond) (rm : Room) (as : List Value) (w : WT) (Post : Option Value → WT → Prop) (XP : String → Prop) : Prop :=
  vx_Met l y ws rm (mP D ky z as w) (mQ D z Post) (mX D z w XP) rm.cells rm.slots (fun q => z ≤ q)
theorem mP_blind {D : va_G} {ky : Nat → ClassId} {z : Nat} {as : List Value} {w : WT} : FrameBlind (mP D ky z as w) := fun a U g mk h => ⟨h.1, h.2.1, h.2.2.same rfl rfl⟩
section GC
variable {p : Program} {l : Launch} {e : Env} {R : Room} {s : State} {m : MethodId} {args : Array Value} {below : List Frame} {meth : Method} {c : Code} {D : va_G} {ky : Nat → ClassId} {z : Nat} {Q : State → Prop} {cells slots : Nat} {w : WT} {pc : Nat} {ls : List (Option Value)} {st : List Value} {cc : ByteArray} {own : String} {Ts : List Cond} {nL : Nat}
/-- an exception of class E has come up in this frame -/
def Gx (p : Program) (l : Launch) (e : Env) (R : Room) (s : State) (m : MethodId) (args : Array Value) (below : List Frame) (meth : Method) (c : Code) (D : va_G) (z : Nat) (Q : State → Prop) (cells slots : Nat) (w : WT) (E : String) (pc : Nat) (ls : List (Option Value)) (rest : List Value) : Prop :=
  ∀ (H : Heap) (locs : List Loc) (la : Array Slot), Wd D z w H → va_S (fun q => z ≤ q) s.heap H locs → lh la ls → ∀ (ce : Cell) (q9 : Addr), H[q9]? = some ce → ce.vm = .none → s.vm.findClass E = some ce.cls → vx_W p l e R s m args below meth c H locs cells slots Q (F0 m pc la rest) q9
theorem gx_out (C : Cx p l s m args meth c D ky z cc nL Ts own) {Qc : Array Value → State → Outcome → State → Prop} {XP : String → Prop} {mc ms : Nat} (hQ : Q = vx_MQ below Qc (mX D z w XP) args s mc ms (fun q => z ≤ q)) (ht : ∀ x ∈ c.exceptionTable.toList, False) {E : String} (hx : XP E) (hc : cells ≤ mc) (hs : slots ≤ ms) : Gx p l e R s m args below meth c D z Q cells slots w E pc ls st := by
  subst hQ
  exact fun H locs la h1 h2 h3 ce q9 g1 g2 g3 => vx_out (fun x hx => (ht x hx).elim) C.2.2.1 g1 g2 g3 (fun t ht hA => ⟨hx, by rw [ht]; exact h1, h2.F ht⟩) h2.2.2 hc hs
theorem gd_run {mc ms : Nat} {rest st0 : List Value} {Post : Option Value → WT → Prop} {XP : String → Prop} {a : Array Value} (hr : ∀ (H : Heap) (locs : List Loc) (la : Array Slot), Wd D z w H → va_S (fun q => z ≤ q) s.heap H locs → lh la ls → vx_Run p l e R s m args below meth c H locs cells slots mc ms (F0 m pc la st0) rest (mQ D z Post a) (mX D z w XP) (fun q => z ≤ q))
    (kx : ∀ E, XP E → Gx p l e R s m args below meth c D z Q (cells + mc) (slots + ms) w E pc ls rest) (kk : ∀ (r : Option Value) (w' : WT), Post r w' → Gd p l e R s m args below meth c D z Q (cells + mc) (slots + ms) w' (pc + 3) ls (r.toList ++ rest)) : Gd p l e R s m args below meth c D z Q cells slots w pc ls st0 := by
  intro H locs la h1 h2 h3 T hT X
  rcases hr H locs la h1 h2 h3 T hT X with ⟨v, st₀, t, T', L, h0, X', hL, e1, e2, ⟨⟨r, w', hv, hp, hw⟩, hF⟩, stp⟩ | ⟨q, st₀, t, T', L, E, ce, h0, X', hL, e1, e2, ⟨hxp, hw, hF⟩, hce, hcv, hcl, stp⟩
  · cases hv
    obtain ⟨k1, k2, k3⟩ := vx_keep h0 e1 h2 (fun _ _ h => h) (fun _ h => h) hL hF
    obtain ⟨t2, a1, b1⟩ := kk _ w' hp T'.heap (locs ++ L) la (by rw [e1]; exact hw) k3 h3 T' rfl X'
    exact ⟨t2, stp t2 a1, b1⟩
  · obtain ⟨k1, k2, k3⟩ := vx_keep h0 e1 h2 (fun _ _ h => h) (fun _ h => h) hL hF
    obtain ⟨t2, a1, b1⟩ := kx E hxp T'.heap (locs ++ L) la (by rw [e1]; exact hw) k3 h3 ce q (by rw [e1]; exact hce) hcv hcl T' rfl X'
    exact ⟨t2, stp.trans a1, b1⟩
theorem mP_at (C : Cx p l s m args meth c D ky z cc nL Ts own) {H : Heap} {locs : List Loc} (h1 : Wd D z w H) (h2 : va_S (fun q => z ≤ q) s.heap H locs) (as : List Value) : ∀ U : State, U.heap = H → s.WarmedH U.vm → mP D ky z as w as.toArray U := by
  intro U hU hW
  refine ⟨rfl, by rw [hU]; exact h1, C.2.1.warm hW C.2.2.2.2 (fun q a b => by rw [hU]; exact h2.2.1 q a b)⟩
variable {b ci index maxL n N : Nat} {fs As rest st0 : List Value} {y : MethodName} {ws ws' : List Cond} {rm : Room} {bytes : ByteArray} {ret : Option FieldType} {Cn host : String} {T : u_T} {Post : Option Value → WT → Prop} {XP : String → Prop}
theorem gd_callV (C : Cx p l s m args meth c D ky z cc nL Ts own) (hM : Mt l D ky z y ws rm (.ref b :: As) w Post XP) (hb : w b = some (oB ci fs)) (hc : vwCl[ci]? = some (Cn, T, N)) (hG : GoodIn Ts (wsV own index Cn y ws)) (hw : ws = .code y bytes maxL ret :: ws')
    (hd : y.cls = Cn ∧ y.cls ≠ "java/lang/invoke/MethodHandle" ∧ y.cls ≠ "java/lang/invoke/VarHandle" ∧ (parseMethodDescriptor y.desc).map (fun d => d.parameters.length) = some n) (hn : As.length = n) (hst : st0 = As.reverse ++ .ref b :: rest) (hcat : (rest.map fun v => v.category).sum ≤ 8) (hL : ls.length = nL) (hdg : decode cc pc = .ok (.invokevirtual index, 3))
    (hR : (rm.frames + 1 ≤ R.frames ∧ 8 + (maxL + 11) + rm.locals ≤ R.locals) ∧ cells + rm.cells ≤ R.cells ∧ slots + rm.slots ≤ R.slots)
    (kx : ∀ E, XP E → Gx p l e R s m args below meth c D z Q (cells + rm.cells) (slots + rm.slots) w E pc ls rest) (kk : ∀ (r : Option Value) (w' : WT), Post r w' → Gd p l e R s m args below meth c D z Q (cells + rm.cells) (slots + rm.slots) w' (pc + 3) ls (r.toList ++ rest)) : Gd p l e R s m args below meth c D z Q cells slots w pc ls st0 := by
  refine gd_run (a := (Value.ref b :: As).toArray) (fun H locs la h1 h2 h3 => ?_) kx kk
  subst hst
  exact vx_runV C.1 hM (cwV n C.1.2.2.2.2 hG hw rfl rfl hd hR.1) ⟨mP_blind, va_recv (q0 := 0) C.2.1.1 (h1.one hb) hc rfl, fun U hU hW => mP_at C h1 h2 _ U hU hW⟩ rfl hn (h3.1.trans hL) rfl (lv_room hcat) hdg hR.2
theorem gd_callS (C : Cx p l s m args meth c D ky z cc nL Ts own) (hM : Mt l D ky z y ws rm As w Post XP) (hG : GoodIn Ts (va_wsS own index y ws)) (hw : ws = .code y bytes maxL ret :: ws')
    (hd : y.cls ≠ "java/lang/invoke/MethodHandle" ∧ y.cls ≠ "java/lang/invoke/VarHandle" ∧ (parseMethodDescriptor y.desc).map (fun d => d.parameters.length) = some n) (hn : As.length = n) (hst : st0 = As.reverse ++ rest) (hcat : (rest.map fun v => v.category).sum ≤ 8) (hL : ls.length = nL) (hdg : decode cc pc = .ok (.invokestatic index, 3))
    (hR : (rm.frames + 1 ≤ R.frames ∧ 8 + (maxL + 11) + rm.locals ≤ R.locals) ∧ cells + rm.cells ≤ R.cells ∧ slots + rm.slots ≤ R.slots)
    (kx : ∀ E, XP E → Gx p l e R s m args below meth c D z Q (cells + rm.cells) (slots + rm.slots) w E pc ls rest) (kk : ∀ (r : Option Value) (w' : WT), Post r w' → Gd p l e R s m args below meth c D z Q (cells + rm.cells) (slots + rm.slots) w' (pc + 3) ls (r.toList ++ rest)) : Gd p l e R s m args below meth c D z Q cells slots w pc ls st0 := by
  refine gd_run (a := As.toArray) (fun H locs la h1 h2 h3 => ?_) kx kk
  subst hst
  exact vx_runS C.1 hM (va_cwS n C.1.2.2.2.2 hG hw rfl rfl hd hR.1) ⟨mP_blind, fun U hU hW => mP_at C h1 h2 _ U hU hW⟩ rfl hn (h3.1.trans hL) rfl (lv_room hcat) hdg hR.2
theorem gd_callVN (C : Cx p l s m args meth c D ky z cc nL Ts own) (hM : Mt l D ky z y ws rm (.ref b :: As) w Post XP) (hb : w b = some (oB ci fs)) (hc : vwCl[ci]? = some (Cn, T, N)) (hG : GoodIn Ts ws) (hw : ws = .code y bytes maxL ret :: ws')
    (hl : Cond.methodLinkNest own index y host ∈ nestWs) (hini : Cond.initialized y.cls ∈ Ts) (hi : Cond.instanceMethod y ∈ Ts) (hse : Cond.selects Cn y y ∈ Ts)
    (hd : y.cls ≠ "java/lang/invoke/MethodHandle" ∧ y.cls ≠ "java/lang/invoke/VarHandle" ∧ (parseMethodDescriptor y.desc).map (fun d => d.parameters.length) = some n) (hn : As.length = n) (hst : st0 = As.reverse ++ .ref b :: rest) (hcat : (rest.map fun v => v.category).sum ≤ 8) (hL : ls.length = nL) (hdg : decode cc pc = .ok (.invokevirtual index, 3))
    (hR : (rm.frames + 1 ≤ R.frames ∧ 8 + (maxL + 11) + rm.locals ≤ R.locals) ∧ cells + rm.cells ≤ R.cells ∧ slots + rm.slots ≤ R.slots)
    (kx : ∀ E, XP E → Gx p l e R s m args below meth c D z Q (cells + rm.cells) (slots + rm.slots) w E pc ls rest) (kk : ∀ (r : Option Value) (w' : WT), Post r w' → Gd p l e R s m args below meth c D z Q (cells + rm.cells) (slots + rm.slots) w' (pc + 3) ls (r.toList ++ rest)) : Gd p l e R s m args below meth c D z Q cells slots w pc ls st0 := by
  refine gd_run (a := (Value.ref b :: As).toArray) (fun H locs la h1 h2 h3 => ?_) kx kk
  subst hst
  exact vx_runVN C.1 hM ⟨va_cnB n C.1.2.2.2.2 hG hw rfl rfl (C.2.1.2.1 _ hl) (C.1.2.2.2.2 _ hini) hd hR.1, C.1.2.2.2.2 _ hi, C.1.2.2.2.2 _ hse⟩ ⟨mP_blind, va_recv (q0 := 0) C.2.1.1 (h1.one hb) hc rfl, fun U hU hW => mP_at C h1 h2 _ U hU hW⟩ rfl hn (h3.1.trans hL) rfl (lv_room hcat) hdg hR.2
theorem gd_callSN (C : Cx p l s m args meth c D ky z cc nL Ts own) (hM : Mt l D ky z y ws rm As w Post XP) (hG : GoodIn Ts ws) (hw : ws = .code y bytes maxL ret :: ws')
    (hl : Cond.methodLinkNest own index y host ∈ nestWs) (hini : Cond.initialized y.cls ∈ Ts) (hi : Cond.static y ∈ Ts)
    (hd : y.cls ≠ "java/lang/invoke/MethodHandle" ∧ y.cls ≠ "java/lang/invoke/VarHandle" ∧ (parseMethodDescriptor y.desc).map (fun d => d.parameters.length) = some n) (hn : As.length = n) (hst : st0 = As.reverse ++ rest) (hcat : (rest.map fun v => v.category).sum ≤ 8) (hL : ls.length = nL) (hdg : decode cc pc = .ok (.invokestatic index, 3))
    (hR : (rm.frames + 1 ≤ R.frames ∧ 8 + (maxL + 11) + rm.locals ≤ R.locals) ∧ cells + rm.cells ≤ R.cells ∧ slots + rm.slots ≤ R.slots)
    (kx : ∀ E, XP E → Gx p l e R s m args below meth c D z Q (cells + rm.cells) (slots + rm.slots) w E pc ls rest) (kk : ∀ (r : Option Value) (w' : WT), Post r w' → Gd p l e R s m args below meth c D z Q (cells + rm.cells) (slots + rm.slots) w' (pc + 3) ls (r.toList ++ rest)) : Gd p l e R s m args below meth c D z Q cells slots w pc ls st0 := by
  refine gd_run (a := As.toArray) (fun H locs la h1 h2 h3 => ?_) kx kk
  subst hst
  exact vx_runSN C.1 hM ⟨va_cnB n C.1.2.2.2.2 hG hw rfl rfl (C.2.1.2.1 _ hl) (C.1.2.2.2.2 _ hini) hd hR.1, C.1.2.2.2.2 _ hi, trivial⟩ ⟨mP_blind, fun U hU hW => mP_at C h1 h2 _ U hU hW⟩ rfl hn (h3.1.trans hL) rfl (lv_room hcat) hdg hR.2
theorem gd_callIN (C : Cx p l s m args meth c D ky z cc nL Ts own) (hM : Mt l D ky z y ws rm (.ref b :: As) w Post XP) (hG : GoodIn Ts ws) (hw : ws = .code y bytes maxL none :: ws') (hnm : y.name = "<init>")
    (hl : Cond.methodLinkNest own index y host ∈ nestWs) (hini : Cond.initialized y.cls ∈ Ts) (hi : Cond.instanceMethod y ∈ Ts)
    (hd : y.cls ≠ "java/lang/invoke/MethodHandle" ∧ y.cls ≠ "java/lang/invoke/VarHandle" ∧ (parseMethodDescriptor y.desc).map (fun d => d.parameters.length) = some n) (hn : As.length = n) (hst : st0 = As.reverse ++ .ref b :: rest) (hcat : (rest.map fun v => v.category).sum ≤ 8) (hL : ls.length = nL) (hdg : decode cc pc = .ok (.invokespecial index, 3))
    (hR : (rm.frames + 1 ≤ R.frames ∧ 8 + (maxL + 11) + rm.locals ≤ R.locals) ∧ cells + rm.cells ≤ R.cells ∧ slots + rm.slots ≤ R.slots)
    (kx : ∀ E, XP E → Gx p l e R s m args below meth c D z Q (cells + rm.cells) (slots + rm.slots) w E pc ls rest) (kk : ∀ (r : Option Value) (w' : WT), Post r w' → Gd p l e R s m args below meth c D z Q (cells + rm.cells) (slots + rm.slots) w' (pc + 3) ls (r.toList ++ rest)) : Gd p l e R s m args below meth c D z Q cells slots w pc ls st0 := by
  refine gd_run (a := (Value.ref b :: As).toArray) (fun H locs la h1 h2 h3 => ?_) kx kk
  subst hst
  exact vx_runIN C.1 hM ⟨va_cnB n C.1.2.2.2.2 hG hw rfl rfl (C.2.1.2.1 _ hl) (C.1.2.2.2.2 _ hini) hd hR.1, hnm, C.1.2.2.2.2 _ hi⟩ ⟨mP_blind, fun U hU hW => mP_at C h1 h2 _ U hU hW⟩ rfl hn (h3.1.trans hL) rfl (lv_room hcat) hdg hR.2
theorem gd_callI (C : Cx p l s m args meth c D ky z cc nL Ts own) (hM : Mt l D ky z y ws rm (.ref b :: As) w Post XP) (hG : GoodIn Ts ws) (hw : ws = .code y bytes maxL none :: ws') (hnm : y.name = "<init>")
    (hl : Cond.methodLink own index y ∈ Ts) (hini : Cond.initialized y.cls ∈ Ts) (hi : Cond.instanceMethod y ∈ Ts)
    (hd : y.cls ≠ "java/lang/invoke/MethodHandle" ∧ y.cls ≠ "java/lang/invoke/VarHandle" ∧ (parseMethodDescriptor y.desc).map (fun d => d.parameters.length) = some n) (hn : As.length = n) (hst : st0 = As.reverse ++ .ref b :: rest) (hcat : (rest.map fun v => v.category).sum ≤ 8) (hL : ls.length = nL) (hdg : decode cc pc = .ok (.invokespecial index, 3))
    (hR : (rm.frames + 1 ≤ R.frames ∧ 8 + (maxL + 11) + rm.locals ≤ R.locals) ∧ cells + rm.cells ≤ R.cells ∧ slots + rm.slots ≤ R.slots)
    (kx : ∀ E, XP E → Gx p l e R s m args below meth c D z Q (cells + rm.cells) (slots + rm.slots) w E pc ls rest) (kk : ∀ (r : Option Value) (w' : WT), Post r w' → Gd p l e R s m args below meth c D z Q (cells + rm.cells) (slots + rm.slots) w' (pc + 3) ls (r.toList ++ rest)) : Gd p l e R s m args below meth c D z Q cells slots w pc ls st0 := by
  refine gd_run (a := (Value.ref b :: As).toArray) (fun H locs la h1 h2 h3 => ?_) kx kk
  subst hst
  exact vx_runI C.1 hM (cwI n C.1.2.2.2.2 hG hw rfl rfl (C.1.2.2.2.2 _ hini) (C.1.2.2.2.2 _ hl) (C.1.2.2.2.2 _ hi) hnm hd hR.1) ⟨mP_blind, fun U hU hW => mP_at C h1 h2 _ U hU hW⟩ rfl hn (h3.1.trans hL) rfl (lv_room hcat) hdg hR.2
/-! ends -/
variable {XC : String → State → State → Prop} {mc ms : Nat} {as : List Value}
theorem gd_iret (C : Cx p l s m args meth c D ky z cc nL Ts own) (hQ : Q = vx_MQ below (mQ D z Post) XC args s mc ms (fun q => z ≤ q)) {x : Int32} (hr : meth.sig.returnType = some .int) (hdg : decode cc pc = .ok (.ireturn, 1)) (hp : Post (some (.int x)) w) (hc : cells ≤ mc ∧ slots ≤ ms) : Gd p l e R s m args below meth c D z Q cells slots w pc ls [.int x] := by
  subst hQ
  exact fun H locs la h1 h2 h3 => vx_ret (W.widen hc.1 hc.2 (W.iret C.1.1 C.1.2.1 hr (fun t ht hW => ⟨⟨_, w, rfl, hp, by rw [ht]; exact h1⟩, h2.F ht⟩) h2.2.2 hdg C.2.2.1))
theorem gd_zret (C : Cx p l s m args meth c D ky z cc nL Ts own) (hQ : Q = vx_MQ below (mQ D z Post) XC args s mc ms (fun q => z ≤ q)) {x : Int} (hr : meth.sig.returnType = some .boolean) (hx : x = 0 ∨ x = 1) (hdg : decode cc pc = .ok (.ireturn, 1)) (hp : Post (some (.int (iI x))) w) (hc : cells ≤ mc ∧ slots ≤ ms) : Gd p l e R s m args below meth c D z Q cells slots w pc ls [.int (iI x)] := by
  subst hQ
  exact fun H locs la h1 h2 h3 => vx_ret (W.widen hc.1 hc.2 (W.zret C.1.1 C.1.2.1 hr (nar_b hx) (fun t ht hW => ⟨⟨_, w, rfl, hp, by rw [ht]; exact h1⟩, h2.F ht⟩) h2.2.2 hdg C.2.2.1))
theorem gd_vret (C : Cx p l s m args meth c D ky z cc nL Ts own) (hQ : Q = vx_MQ below (mQ D z Post) XC args s mc ms (fun q => z ≤ q)) (hr : meth.sig.returnType = none) (hdg : decode cc pc = .ok (.return_, 1)) (hp : Post none w) (hc : cells ≤ mc ∧ slots ≤ ms) : Gd p l e R s m args below meth c D z Q cells slots w pc ls [] := by
  subst hQ
  exact fun H locs la h1 h2 h3 => vx_ret (W.widen hc.1 hc.2 (W.vret C.1.1 C.1.2.1 hr (fun t ht hW => ⟨⟨_, w, rfl, hp, by rw [ht]; exact h1⟩, h2.F ht⟩) h2.2.2 hdg C.2.2.1))
theorem gd_aret (C : Cx p l s m args meth c D ky z cc nL Ts own) (hQ : Q = vx_MQ below (mQ D z Post) XC args s mc ms (fun q => z ≤ q)) {a : Nat} {rt : String} (hr : meth.sig.returnType = some (.object rt)) (hdg : decode cc pc = .ok (.areturn, 1)) (hp : Post (some (.ref a)) w) (hc : cells ≤ mc ∧ slots ≤ ms) : Gd p l e R s m args below meth c D z Q cells slots w pc ls [.ref a] := by
  subst hQ
  exact fun H locs la h1 h2 h3 => vx_ret (W.widen hc.1 hc.2 (W.aret C.1.1 C.1.2.1 hr (Or.inl ⟨rt, rfl⟩) (Or.inr ⟨a, rfl⟩) (fun t ht hW => ⟨⟨_, w, rfl, hp, by rw [ht]; exact h1⟩, h2.F ht⟩) h2.2.2 hdg C.2.2.1))
/-- a contract out of a walk -/
theorem Mt.of {cc : ByteArray} {ret : Option FieldType} {maxL : Nat} {y : MethodName} {ws ws' : List Cond} {rm : Room} {as : List Value} {XP : String → Prop} (hy : plainName y.cls = true) (hw : ws = Cond.code y cc maxL ret :: ws') (hcat : ∀ v ∈ as, v.category = 1) (hn : as.length ≤ maxL)
    (body : ∀ (p : Program) (e : Env) (s : State) (m : MethodId) (args : Array Value) (below : List Frame) (meth : Method) (c : Code), Cx p l s m args meth c D ky z cc maxL ws y.cls → (∀ x ∈ c.exceptionTable.toList, False) → meth.sig.returnType = ret → meth.name = y.name → ∀ Q : State → Prop, Q = vx_MQ below (mQ D z Post) (mX D z w XP) args s rm.cells rm.slots (fun q => z ≤ q) →
      Gd p l e rm s m args below meth c D z Q 0 0 w 0 (as.map some ++ List.replicate (maxL - as.length) none) []) (hl : l.stackTraces = false) : Mt l D ky z y ws rm as w Post XP := by
  refine vx_ofW (cc := cc) (maxL := maxL) (ret := ret) hy hw ?_
  intro p e s m args below meth c s₁ B hml ht hv
  obtain ⟨rfl, hW, hSB⟩ := hv
  have hts := atoms_spec (ws := ws) B.pre
  have hown : s.vm.findClass y.cls = some m.cls := findClass_of_methodNamed B.named
  have C : Cx p l s m as.toArray meth c D ky z cc maxL ws y.cls := ⟨⟨B.exec, B.bytes, hml, hown, hts⟩, hSB, B.notSynchronized, hl, hW.1⟩
  rw [lg_entry_eq]
  exact body p e s m _ below meth c C ht B.returns (name_of_methodNamed B.named B.method).1 _ rfl s.heap [] _ hW va_S.rf (lh_entry as maxL hcat hn)
end GC
end
section
/-! sums over rows, and the changes of rows, as plain functions of Int -/
def sm (g : Int → Int) (a : Int) : Nat → Int
  | 0 => 0
  | n + 1 => sm g a n + g (a + n)
def sI (g : Int → Int) (a b : Int) : Int := sm g a (b - a).toNat
theorem sI_0 (g : Int → Int) (a : Int) : sI g a a = 0 := by
  unfold sI
  rw [Int.sub_self]
  rfl
theorem sI_s {g : Int → Int} {a b : Int} (h : a ≤ b) : sI g a (b + 1) = sI g a b + g b := by
  unfold sI
  rw [show (b + 1 - a).toNat = (b - a).toNat + 1 by omega]
  show sm g a (b - a).toNat + g (a + ((b - a).toNat : Int)) = _
  rw [show a + ((b - a).toNat : Int) = b by omega]
theorem sm_congr {g g' : Int → Int} {a : Int} : ∀ (n : Nat), (∀ j, a ≤ j → j < a + n → g j = g' j) → sm g a n = sm g' a n
  | 0, _ => rfl
  | n + 1, h => by
    show sm g a n + g (a + n) = sm g' a n + g' (a + n)
    rw [sm_congr n (fun j h1 h2 => h j h1 (by omega)), h (a + n) (by omega) (by omega)]
theorem sI_congr {g g' : Int → Int} {a b : Int} (h : ∀ j, a ≤ j → j < b → g j = g' j) : sI g a b = sI g' a b := by
  unfold sI
  exact sm_congr _ (fun j h1 h2 => h j h1 (by omega))
theorem sm_fU {g : Int → Int} {a i x : Int} : ∀ (n : Nat), a ≤ i → i < a + n → sm (fU g i x) a n = sm g a n - g i + x
  | 0, h1, h2 => by omega
  | n + 1, h1, h2 => by
    show sm (fU g i x) a n + fU g i x (a + n) = sm g a n + g (a + n) - g i + x
    by_cases hi : i = a + n
    · subst hi
      rw [fU_s, sm_congr n (g' := g) (fun j h3 h4 => fU_n (by omega))]
      omega
    · rw [fU_n (fun q => hi q.symm), sm_fU n h1 (by omega)]
      omega
theorem sI_fU {g : Int → Int} {a b i x : Int} (h1 : a ≤ i) (h2 : i < b) : sI (fU g i x) a b = sI g a b - g i + x := by
  unfold sI
  exact sm_fU _ h1 (by omega)
theorem sm_bd {g : Int → Int} {a : Int} (h : ∀ j, 0 ≤ g j ∧ g j ≤ 1) : ∀ (n : Nat), 0 ≤ sm g a n ∧ sm g a n ≤ n
  | 0 => ⟨Int.le_refl _, Int.le_refl _⟩
  | n + 1 => by
    have h1 := sm_bd (a := a) h n
    have h2 := h (a + n)
    show 0 ≤ sm g a n + g (a + n) ∧ sm g a n + g (a + n) ≤ ((n + 1 : Nat) : Int)
    omega
theorem sI_bd {g : Int → Int} {a b : Int} (h : ∀ j, 0 ≤ g j ∧ g j ≤ 1) (hab : a ≤ b) : 0 ≤ sI g a b ∧ sI g a b ≤ b - a := by
  unfold sI
  have := sm_bd (a := a) h (b - a).toNat
  omega
theorem sI_split {g : Int → Int} {a b : Int} (h1 : a ≤ b) : ∀ (n : Nat), sI g a (b + n) = sI g a b + sI g b (b + n)
  | 0 => by simp [sI_0]
  | n + 1 => by
    have ih := sI_split (g := g) h1 n
    rw [show b + ((n + 1 : Nat) : Int) = b + n + 1 by omega, sI_s (by omega), sI_s (by omega), ih]
    omega
theorem sI_cut {g : Int → Int} {a b c : Int} (h1 : a ≤ b) (h2 : b ≤ c) : sI g a c = sI g a b + sI g b c := by
  have := sI_split (g := g) h1 (c - b).toNat
  rwa [show b + ((c - b).toNat : Int) = c by omega] at this
def eqI (x y : Int) : Int := if x = y then 1 else 0
def geI (x : Int) : Int := if 0 ≤ x then 1 else 0
theorem eqI_t {x y : Int} (h : x = y) : eqI x y = 1 := if_pos h
theorem eqI_f {x y : Int} (h : ¬ x = y) : eqI x y = 0 := if_neg h
theorem geI_t {x : Int} (h : 0 ≤ x) : geI x = 1 := if_pos h
theorem geI_f {x : Int} (h : ¬ 0 ≤ x) : geI x = 0 := if_neg h
theorem eqI_bd (x y : Int) : 0 ≤ eqI x y ∧ eqI x y ≤ 1 := by unfold eqI; split <;> omega
theorem geI_bd (x : Int) : 0 ≤ geI x ∧ geI x ≤ 1 := by unfold geI; split <;> omega
/-- an extent begins at p; p is of the same extent as the place ahead of it -/
def bE (f : Int → Int) (p : Int) : Int := if 0 ≤ f p ∧ ¬ (0 < p ∧ 0 ≤ f (p - 1) ∧ f p = f (p - 1) + 1) then 1 else 0
def jN (f : Int → Int) (p : Int) : Int := if 0 < p ∧ 0 ≤ f p ∧ 0 ≤ f (p - 1) ∧ f p = f (p - 1) + 1 then 1 else 0
theorem bE_bd (f : Int → Int) (p : Int) : 0 ≤ bE f p ∧ bE f p ≤ 1 := by unfold bE; split <;> omega
theorem jN_bd (f : Int → Int) (p : Int) : 0 ≤ jN f p ∧ jN f p ≤ 1 := by unfold jN; split <;> omega
/-- reserved from a to b; the reserved ones gone from a to b; mapped from a on, n places, to the blocks from b on -/
def rsF (f : Int → Int) (a b : Int) : Int → Int := fun j => if a ≤ j ∧ j < b ∧ f j = -1 then -2 else f j
def drF (f : Int → Int) (a b : Int) : Int → Int := fun j => if a ≤ j ∧ j < b ∧ f j = -2 then -1 else f j
def mpF (f : Int → Int) (a b n : Int) : Int → Int := fun j => if a ≤ j ∧ j < a + n then b + (j - a) else f j
theorem rsF_0 (f : Int → Int) (a : Int) : rsF f a a = f := by funext j; unfold rsF; rw [if_neg (by omega)]
theorem drF_0 (f : Int → Int) (a : Int) : drF f a a = f := by funext j; unfold drF; rw [if_neg (by omega)]
theorem mpF_0 (f : Int → Int) (a b : Int) : mpF f a b 0 = f := by funext j; unfold mpF; rw [if_neg (by omega)]
theorem rsF_t {f : Int → Int} {a i : Int} (h : a ≤ i) (hf : f i = -1) : rsF f a (i + 1) = fU (rsF f a i) i (-2) := by
  funext j
  unfold rsF fU
  by_cases hj : j = i
  · subst hj; rw [if_pos (by omega), if_pos rfl]
  · rw [if_neg hj]; dsimp only
    by_cases h2 : a ≤ j ∧ j < i ∧ f j = -1
    · rw [if_pos h2, if_pos (by omega)]
    · rw [if_neg h2, if_neg (by omega)]
theorem rsF_f {f : Int → Int} {a i : Int} (hf : ¬ f i = -1) : rsF f a (i + 1) = rsF f a i := by
  funext j
  unfold rsF
  by_cases h2 : a ≤ j ∧ j < i ∧ f j = -1
  · rw [if_pos h2, if_pos (by omega)]
  · rw [if_neg h2, if_neg (fun q => h2 ⟨q.1, by
      have : j ≠ i := fun e => hf (e ▸ q.2.2)
      omega, q.2.2⟩)]
theorem drF_t {f : Int → Int} {a i : Int} (h : a ≤ i) (hf : f i = -2) : drF f a (i + 1) = fU (drF f a i) i (-1) := by
  funext j
  unfold drF fU
  by_cases hj : j = i
  · subst hj; rw [if_pos (by omega), if_pos rfl]
  · rw [if_neg hj]; dsimp only
    by_cases h2 : a ≤ j ∧ j < i ∧ f j = -2
    · rw [if_pos h2, if_pos (by omega)]
    · rw [if_neg h2, if_neg (by omega)]
theorem drF_f {f : Int → Int} {a i : Int} (hf : ¬ f i = -2) : drF f a (i + 1) = drF f a i := by
  funext j
  unfold drF
  by_cases h2 : a ≤ j ∧ j < i ∧ f j = -2
  · rw [if_pos h2, if_pos (by omega)]
  · rw [if_neg h2, if_neg (fun q => h2 ⟨q.1, by
      have : j ≠ i := fun e => hf (e ▸ q.2.2)
      omega, q.2.2⟩)]
theorem mpF_s {f : Int → Int} {a b n : Int} (h : 0 ≤ n) : mpF f a b (n + 1) = fU (mpF f a b n) (a + n) (b + n) := by
  funext j
  unfold mpF fU
  by_cases hj : j = a + n
  · subst hj; rw [if_pos (by omega), if_pos rfl]; omega
  · rw [if_neg hj]; dsimp only
    by_cases h2 : a ≤ j ∧ j < a + n
    · rw [if_pos h2, if_pos (by omega)]
    · rw [if_neg h2, if_neg (by omega)]
theorem rsF_ge {f : Int → Int} {a i j : Int} (h : i ≤ j) : rsF f a i j = f j := by unfold rsF; rw [if_neg (by omega)]
theorem drF_ge {f : Int → Int} {a i j : Int} (h : i ≤ j) : drF f a i j = f j := by unfold drF; rw [if_neg (by omega)]
theorem fU_ss {α : Type} (f : Int → α) (i : Int) (x y : α) : fU (fU f i x) i y = fU f i y := by
  funext j
  unfold fU
  by_cases hj : j = i
  · rw [if_pos hj, if_pos hj]
  · rw [if_neg hj, if_neg hj, if_neg hj]
theorem fU_id {α : Type} (f : Int → α) (i : Int) : fU f i (f i) = f := by
  funext j
  unfold fU
  by_cases hj : j = i
  · rw [if_pos hj, hj]
  · rw [if_neg hj]
theorem fU_idd {α : Type} {f : Int → α} {i : Int} {x : α} (h : x = f i) : fU f i x = f := by rw [h]; exact fU_id f i
/-- a content's cell -/
abbrev cC (bl : Nat) (v : Int → Int) : va_E := oB 0 [.int (iI (v 0)), .ref bl, .int (iI (v 2)), .int (iI (v 3)), .int (iI (v 4)), .int (iI (v 5)), .int (iI (v 6)), .int (iI (v 7)), .int (iI (v 8)), .int (iI (v 9)), .int (iI (v 10))]
theorem kd_ne {w : WT} {a b : Nat} {c1 c2 : Nat} {fs1 : List Value} {x : ClassId × vp_A} (h1 : w a = some (oB c1 fs1)) (h2 : w b = some (.inl x)) : a ≠ b := fun e => by rw [e, h2] at h1; cases h1
theorem look1 {w : WT} {a b : Nat} {e : va_E} {x : Option va_E} (h : w b = x) (hn : b ≠ a) : wU w a e b = x := (wU_n hn).trans h
theorem look2 {w : WT} {a b : Nat} {e : va_E} {x : Option va_E} (h : w b = x) (hn : a ≠ b) : wU w a e b = x := (wU_n hn.symm).trans h
end
section
/-! writing a content's field -/
theorem cC_set {bl : Nat} {v : Int → Int} {x : Int} (k : Nat) (hk : k < 11) (hk1 : k ≠ 1) : ([.int (iI (v 0)), .ref bl, .int (iI (v 2)), .int (iI (v 3)), .int (iI (v 4)), .int (iI (v 5)), .int (iI (v 6)), .int (iI (v 7)), .int (iI (v 8)), .int (iI (v 9)), .int (iI (v 10))] : List Value).set k (.int (iI x)) =
    [.int (iI (fU v k x 0)), .ref bl, .int (iI (fU v k x 2)), .int (iI (fU v k x 3)), .int (iI (fU v k x 4)), .int (iI (fU v k x 5)), .int (iI (fU v k x 6)), .int (iI (fU v k x 7)), .int (iI (fU v k x 8)), .int (iI (fU v k x 9)), .int (iI (fU v k x 10))] := by
  match k, hk, hk1 with
  | 0, _, _ => rfl
  | 2, _, _ => rfl
  | 3, _, _ => rfl
  | 4, _, _ => rfl
  | 5, _, _ => rfl
  | 6, _, _ => rfl
  | 7, _, _ => rfl
  | 8, _, _ => rfl
  | 9, _, _ => rfl
  | 10, _, _ => rfl
theorem tyX0_k (k : Nat) (hk : k < 11) (hk1 : k ≠ 1) : tyX0 k = .int ∨ tyX0 k = .boolean := by
  match k, hk, hk1 with
  | 0, _, _ => exact Or.inl rfl
  | 2, _, _ => exact Or.inr rfl
  | 3, _, _ => exact Or.inl rfl
  | 4, _, _ => exact Or.inl rfl
  | 5, _, _ => exact Or.inl rfl
  | 6, _, _ => exact Or.inl rfl
  | 7, _, _ => exact Or.inl rfl
  | 8, _, _ => exact Or.inr rfl
  | 9, _, _ => exact Or.inr rfl
  | 10, _, _ => exact Or.inl rfl
theorem TX0_c (k : Nat) (hk : k < 11) : (TX0 k).1 = RX0 := by
  match k, hk with
  | 0, _ => rfl
  | 1, _ => rfl
  | 2, _ => rfl
  | 3, _ => rfl
  | 4, _ => rfl
  | 5, _ => rfl
  | 6, _ => rfl
  | 7, _ => rfl
  | 8, _ => rfl
  | 9, _ => rfl
  | 10, _ => rfl
theorem nar_t {ty : FieldType} {x : Int} (ht : ty = .int ∨ ty = .boolean) (hb : ty = .boolean → x = 0 ∨ x = 1) : narrow ty (.int (iI x)) = .int (iI x) ∧ fits ty (.int (iI x)) = true := by
  rcases ht with rfl | rfl
  · exact ⟨rfl, rfl⟩
  · exact ⟨nar_b (hb rfl), by rcases hb rfl with rfl | rfl <;> decide⟩
section GE
variable {p : Program} {l : Launch} {e : Env} {R : Room} {s : State} {m : MethodId} {args : Array Value} {below : List Frame} {meth : Method} {c : Code} {D : va_G} {ky : Nat → ClassId} {z : Nat} {Q : State → Prop} {cells slots : Nat} {w : WT} {pc : Nat} {ls : List (Option Value)} {st : List Value} {cc : ByteArray} {own : String} {Ts : List Cond} {nL : Nat}
theorem gd_putC (C : Cx p l s m args meth c D ky z cc nL Ts own) {index a bl : Nat} {v : Int → Int} {x : Int} (he : w a = some (cC bl v)) (hin : ∀ y ∈ wsX00, y ∈ Ts) (k : Nat) (hk : k < 11) (hk1 : k ≠ 1) (hlink : Cond.fieldLink own index RX0 (TX0 k).2.1 (TX0 k).2.2.1 ∈ Ts) (hfin : (TX0 k).2.2.2 = false) (hbo : tyX0 k = .boolean → x = 0 ∨ x = 1) (hdg : decode cc pc = .ok (.putfield index, 3))
    (kk : Gd p l e R s m args below meth c D z Q cells slots (wU w a (cC bl (fU v k x))) (pc + 3) ls st) : Gd p l e R s m args below meth c D z Q cells slots w pc ls (.int (iI x) :: .ref a :: st) := by
  obtain ⟨n1, n2⟩ := nar_t (tyX0_k k hk hk1) hbo
  refine gd_put (Cn := RX0) (T := TX0) (N := 11) (ref := RX0) C he rfl hin tyX0 tyX0_ok nmX0 k hk hlink (TX0_c k hk) hfin n1 n2 hk hdg ?_
  rw [cC_set k hk hk1]
  exact kk
theorem gd_putCN (C : Cx p l s m args meth c D ky z cc nL Ts own) {host : String} {index a bl : Nat} {v : Int → Int} {x : Int} (he : w a = some (cC bl v)) (hin : ∀ y ∈ wsX00, y ∈ Ts) (k : Nat) (hk : k < 11) (hk1 : k ≠ 1) (hlink : Cond.fieldLinkNest own index RX0 (TX0 k).2.1 (TX0 k).2.2.1 host ∈ nestWs) (hfin : (TX0 k).2.2.2 = false) (hbo : tyX0 k = .boolean → x = 0 ∨ x = 1) (hdg : decode cc pc = .ok (.putfield index, 3))
    (kk : Gd p l e R s m args below meth c D z Q cells slots (wU w a (cC bl (fU v k x))) (pc + 3) ls st) : Gd p l e R s m args below meth c D z Q cells slots w pc ls (.int (iI x) :: .ref a :: st) := by
  obtain ⟨n1, n2⟩ := nar_t (tyX0_k k hk hk1) hbo
  refine gd_putN (Cn := RX0) (T := TX0) (N := 11) (ref := RX0) (host := host) C he rfl hin tyX0 tyX0_ok nmX0 k hk hlink (TX0_c k hk) hfin n1 n2 hk hdg ?_
  rw [cC_set k hk hk1]
  exact kk
end GE
end
section
/-! the first place of a row that is so; the buddies -/
noncomputable def pI (P : Prop) : Int := @ite _ P (Classical.propDecidable _) 1 0
theorem pI_t {P : Prop} (h : P) : pI P = 1 := if_pos h
theorem pI_f {P : Prop} (h : ¬ P) : pI P = 0 := if_neg h
theorem pI_cases (P : Prop) : pI P = 1 ∧ P ∨ pI P = 0 ∧ ¬ P := by
  by_cases h : P
  · exact Or.inl ⟨pI_t h, h⟩
  · exact Or.inr ⟨pI_f h, h⟩
theorem pI_congr {P P' : Prop} (h : P ↔ P') : pI P = pI P' := by rw [show P = P' from propext h]
theorem pI_bd (P : Prop) : 0 ≤ pI P ∧ pI P ≤ 1 := by rcases pI_cases P with h | h <;> omega
noncomputable def fst1 (P : Int → Prop) (a : Int) : Nat → Int
  | 0 => -1
  | k + 1 => @ite _ (P a) (Classical.propDecidable _) a (fst1 P (a + 1) k)
noncomputable def fF (P : Int → Prop) (a b : Int) : Int := fst1 P a (b - a).toNat
theorem fF_end {P : Int → Prop} {a b : Int} (h : b ≤ a) : fF P a b = -1 := by
  unfold fF
  rw [show (b - a).toNat = 0 by omega]
  rfl
theorem fF_hit {P : Int → Prop} {a b : Int} (h : a < b) (hp : P a) : fF P a b = a := by
  unfold fF
  rw [show (b - a).toNat = (b - (a + 1)).toNat + 1 by omega]
  exact if_pos hp
theorem fF_miss {P : Int → Prop} {a b : Int} (h : a < b) (hp : ¬ P a) : fF P a b = fF P (a + 1) b := by
  unfold fF
  rw [show (b - a).toNat = (b - (a + 1)).toNat + 1 by omega]
  exact if_neg hp
theorem fF_spec {P : Int → Prop} {b : Int} : ∀ (n : Nat) (a : Int), (b - a).toNat = n → (fF P a b = -1 ∧ ∀ j, a ≤ j → j < b → ¬ P j) ∨ (a ≤ fF P a b ∧ fF P a b < b ∧ P (fF P a b) ∧ ∀ j, a ≤ j → j < fF P a b → ¬ P j) := by
  intro n
  induction n with
  | zero => intro a h; exact Or.inl ⟨fF_end (by omega), fun j h1 h2 => by omega⟩
  | succ n ih =>
    intro a h
    by_cases hp : P a
    · rw [fF_hit (by omega) hp]
      exact Or.inr ⟨Int.le_refl _, by omega, hp, fun j h1 h2 => by omega⟩
    · rw [fF_miss (by omega) hp]
      rcases ih (a + 1) (by omega) with ⟨h1, h2⟩ | ⟨h1, h2, h3, h4⟩
      · refine Or.inl ⟨h1, fun j h3 h4 => ?_⟩
        by_cases hj : j = a
        · rw [hj]; exact hp
        · exact h2 j (by omega) h4
      · refine Or.inr ⟨by omega, h2, h3, fun j h5 h6 => ?_⟩
        by_cases hj : j = a
        · rw [hj]; exact hp
        · exact h4 j (by omega) h6
/-- all of n blocks from a on are free (T: 1 where taken); the first aligned free piece of a group; what is found near a goal -/
def aF (T : Int → Int) (a n : Int) : Prop := ∀ j, a ≤ j → j < a + n → T j = 0
def aP (T : Int → Int) (n x : Int) : Prop := x % n = 0 ∧ aF T x n
noncomputable def fP (T : Int → Int) (g n : Int) : Int := fF (aP T n) (32 * g) (32 * g + 32)
noncomputable def fT (T : Int → Int) (g n : Int) : Nat → Int
  | 0 => -1
  | k + 1 => @ite _ (fP T ((g + (3 - k)) % 4) n = -1) (Classical.propDecidable _) (fT T g n k) (fP T ((g + (3 - k)) % 4) n)
noncomputable def fD (T : Int → Int) (goal n : Int) : Int := @ite _ (goal % 32 + n ≤ 32 ∧ aF T goal n) (Classical.propDecidable _) goal (fT T (goal / 32) n 4)
def tkF (T : Int → Int) (a n x : Int) : Int → Int := fun j => if a ≤ j ∧ j < a + n then x else T j
theorem tkF_0 (T : Int → Int) (a x : Int) : tkF T a 0 x = T := by funext j; unfold tkF; rw [if_neg (by omega)]
theorem tkF_s {T : Int → Int} {a n x : Int} (h : 0 ≤ n) : tkF T a (n + 1) x = fU (tkF T a n x) (a + n) x := by
  funext j
  unfold tkF fU
  by_cases hj : j = a + n
  · subst hj; rw [if_pos (by omega), if_pos rfl]
  · rw [if_neg hj]; dsimp only
    by_cases h2 : a ≤ j ∧ j < a + n
    · rw [if_pos h2, if_pos (by omega)]
    · rw [if_neg h2, if_neg (by omega)]
theorem tkF_ge {T : Int → Int} {a n x j : Int} (h : a + n ≤ j) : tkF T a n x j = T j := by unfold tkF; rw [if_neg (by omega)]
abbrev cG (t : Nat) (fb : Int) : va_E := oB 2 [.ref t, .int (iI fb)]
theorem iI_and {a b : Int} (ha : 0 ≤ a ∧ a ≤ 2147483647) (hb : b = 0 ∨ b = 1 ∨ b = 3 ∨ b = 7 ∨ b = 15 ∨ b = 31) : iI a &&& iI b = iI (a % (b + 1)) := by
  obtain ⟨n, rfl⟩ := iI_nat ha.1
  have key : ∀ (k : Nat) (m : Int32), m.toBitVec.toNat = 2 ^ k - 1 → iI (n : Int) &&& m = iI (((n % 2 ^ k : Nat)) : Int) := by
    intro k m hm
    rw [iI_n, iI_n]
    exact pk_andN (by omega) k hm
  rcases hb with rfl | rfl | rfl | rfl | rfl | rfl
  · rw [key 0 (iI 0) (by decide)]; congr 1
  · rw [key 1 (iI 1) (by decide)]; congr 1
  · rw [key 2 (iI 3) (by decide)]; congr 1
  · rw [key 3 (iI 7) (by decide)]; congr 1
  · rw [key 4 (iI 15) (by decide)]; congr 1
  · rw [key 5 (iI 31) (by decide)]; congr 1
section GF
variable {p : Program} {l : Launch} {e : Env} {R : Room} {s : State} {m : MethodId} {args : Array Value} {below : List Frame} {meth : Method} {c : Code} {D : va_G} {ky : Nat → ClassId} {z : Nat} {Q : State → Prop} {cells slots : Nat} {w : WT} {pc : Nat} {ls : List (Option Value)} {st : List Value} {cc : ByteArray} {own : String} {Ts : List Cond} {nL : Nat}
theorem gd_iand (C : Cx p l s m args meth c D ky z cc nL Ts own) {a b : Int} (hdg : decode cc pc = .ok (.iand, 1)) (h : (0 ≤ a ∧ a ≤ 2147483647) ∧ (b = 0 ∨ b = 1 ∨ b = 3 ∨ b = 7 ∨ b = 15 ∨ b = 31)) (kk : Gd p l e R s m args below meth c D z Q cells slots w (pc + 1) ls (.int (iI (a % (b + 1))) :: st)) : Gd p l e R s m args below meth c D z Q cells slots w pc ls (.int (iI b) :: .int (iI a) :: st) :=
  fun H locs la h1 h2 h3 => lv_iand C.1.1 C.1.2.1 hdg (by rw [iI_and h.1 h.2]; exact kk H locs la h1 h2 h3)
end GF
theorem fT_miss {T : Int → Int} {g n i : Int} (h : 0 ≤ i ∧ i < 4) (hp : fP T ((g + i) % 4) n = -1) : fT T g n (4 - i).toNat = fT T g n (4 - (i + 1)).toNat := by
  rw [show (4 - i).toNat = (4 - (i + 1)).toNat + 1 by omega]
  refine if_pos ?_
  rw [show (3 : Int) - ((4 - (i + 1)).toNat : Int) = i by omega]
  exact hp
theorem fT_hit {T : Int → Int} {g n i : Int} (h : 0 ≤ i ∧ i < 4) (hp : ¬ fP T ((g + i) % 4) n = -1) : fT T g n (4 - i).toNat = fP T ((g + i) % 4) n := by
  rw [show (4 - i).toNat = (4 - (i + 1)).toNat + 1 by omega]
  have e : (3 : Int) - ((4 - (i + 1)).toNat : Int) = i := by omega
  refine (if_neg ?_).trans ?_
  · rw [e]; exact hp
  · rw [e]
end
section
theorem zz_end : True := trivial
end
