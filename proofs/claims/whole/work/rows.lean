section
-- ===== PART A: goes FIRST, ahead of the names: the tables' words, and 'selects' of the private methods out of them =====
/-- a private method of a class that the tables say can be made, by its rows of tables_1 -/
def lw_okq (q : MethodName × Nat) : Prop := (q.1.cls ≠ "java/lang/invoke/MethodHandle" ∧ q.1.cls ≠ "java/lang/invoke/VarHandle") ∧ Cond.instantiable q.1.cls q.2 ∈ tables_1 ∧ Cond.privateMethod q.1 ∈ tables_1 ∧ Cond.instanceMethod q.1 ∈ tables_1
theorem lw_p0 : lw_okq (⟨"ParrotLog", "markCompacted", "()V"⟩, 9) := ⟨⟨by decide +kernel, by decide +kernel⟩, List.mem_of_getElem? (i := 13) (by decide +kernel), List.mem_of_getElem? (i := 119) (by decide +kernel), List.mem_of_getElem? (i := 120) (by decide +kernel)⟩
theorem lw_p1 : lw_okq (⟨"ParrotLog", "leastShipOffset", "()I"⟩, 9) := ⟨⟨by decide +kernel, by decide +kernel⟩, List.mem_of_getElem? (i := 13) (by decide +kernel), List.mem_of_getElem? (i := 123) (by decide +kernel), List.mem_of_getElem? (i := 124) (by decide +kernel)⟩
theorem lw_p2 : lw_okq (⟨"ParrotLog$Log", "markCompacted", "(I)V"⟩, 8) := ⟨⟨by decide +kernel, by decide +kernel⟩, List.mem_of_getElem? (i := 21) (by decide +kernel), List.mem_of_getElem? (i := 130) (by decide +kernel), List.mem_of_getElem? (i := 131) (by decide +kernel)⟩
theorem lw_p3 : lw_okq (⟨"ParrotLog$Log", "latestPosition", "(III)I"⟩, 8) := ⟨⟨by decide +kernel, by decide +kernel⟩, List.mem_of_getElem? (i := 21) (by decide +kernel), List.mem_of_getElem? (i := 134) (by decide +kernel), List.mem_of_getElem? (i := 135) (by decide +kernel)⟩
theorem lw_p4 : lw_okq (⟨"ParrotLog", "dropMarked", "()I"⟩, 9) := ⟨⟨by decide +kernel, by decide +kernel⟩, List.mem_of_getElem? (i := 13) (by decide +kernel), List.mem_of_getElem? (i := 138) (by decide +kernel), List.mem_of_getElem? (i := 139) (by decide +kernel)⟩
theorem lw_p5 : lw_okq (⟨"ParrotLog$Log", "countMarkedFrom", "(I)I"⟩, 8) := ⟨⟨by decide +kernel, by decide +kernel⟩, List.mem_of_getElem? (i := 21) (by decide +kernel), List.mem_of_getElem? (i := 142) (by decide +kernel), List.mem_of_getElem? (i := 143) (by decide +kernel)⟩
theorem lw_p6 : lw_okq (⟨"ParrotLog$Log", "positionFrom", "(I)I"⟩, 8) := ⟨⟨by decide +kernel, by decide +kernel⟩, List.mem_of_getElem? (i := 21) (by decide +kernel), List.mem_of_getElem? (i := 146) (by decide +kernel), List.mem_of_getElem? (i := 147) (by decide +kernel)⟩
theorem lw_p7 : lw_okq (⟨"ParrotLog$Log", "removeMarked", "()I"⟩, 8) := ⟨⟨by decide +kernel, by decide +kernel⟩, List.mem_of_getElem? (i := 21) (by decide +kernel), List.mem_of_getElem? (i := 150) (by decide +kernel), List.mem_of_getElem? (i := 151) (by decide +kernel)⟩
theorem lw_p8 : lw_okq (⟨"ParrotLog$Log", "positionOf", "(I)I"⟩, 8) := ⟨⟨by decide +kernel, by decide +kernel⟩, List.mem_of_getElem? (i := 21) (by decide +kernel), List.mem_of_getElem? (i := 178) (by decide +kernel), List.mem_of_getElem? (i := 179) (by decide +kernel)⟩
theorem lw_p9 : lw_okq (⟨"ParrotLog", "lag", "(LParrotLog$Ship;)I"⟩, 9) := ⟨⟨by decide +kernel, by decide +kernel⟩, List.mem_of_getElem? (i := 13) (by decide +kernel), List.mem_of_getElem? (i := 198) (by decide +kernel), List.mem_of_getElem? (i := 199) (by decide +kernel)⟩
theorem lw_p10 : lw_okq (⟨"ParrotLog$Log", "countMarked", "()I"⟩, 8) := ⟨⟨by decide +kernel, by decide +kernel⟩, List.mem_of_getElem? (i := 21) (by decide +kernel), List.mem_of_getElem? (i := 207) (by decide +kernel), List.mem_of_getElem? (i := 208) (by decide +kernel)⟩
theorem lw_p11 : lw_okq (⟨"ParrotLog", "mixKeys", "(J)J"⟩, 9) := ⟨⟨by decide +kernel, by decide +kernel⟩, List.mem_of_getElem? (i := 13) (by decide +kernel), List.mem_of_getElem? (i := 228) (by decide +kernel), List.mem_of_getElem? (i := 229) (by decide +kernel)⟩
theorem lw_p12 : lw_okq (⟨"ParrotLog$Log", "latestOffset", "(I)I"⟩, 8) := ⟨⟨by decide +kernel, by decide +kernel⟩, List.mem_of_getElem? (i := 21) (by decide +kernel), List.mem_of_getElem? (i := 232) (by decide +kernel), List.mem_of_getElem? (i := 233) (by decide +kernel)⟩
theorem lw_p13 : lw_okq (⟨"ParrotLog$Log", "latestValue", "(I)I"⟩, 8) := ⟨⟨by decide +kernel, by decide +kernel⟩, List.mem_of_getElem? (i := 21) (by decide +kernel), List.mem_of_getElem? (i := 236) (by decide +kernel), List.mem_of_getElem? (i := 237) (by decide +kernel)⟩
theorem lw_p14 : lw_okq (⟨"ParrotLog$Log", "countKey", "(I)I"⟩, 8) := ⟨⟨by decide +kernel, by decide +kernel⟩, List.mem_of_getElem? (i := 21) (by decide +kernel), List.mem_of_getElem? (i := 240) (by decide +kernel), List.mem_of_getElem? (i := 241) (by decide +kernel)⟩
theorem lw_p15 : lw_okq (⟨"ParrotLog$Log", "countEqual", "([II)I"⟩, 8) := ⟨⟨by decide +kernel, by decide +kernel⟩, List.mem_of_getElem? (i := 21) (by decide +kernel), List.mem_of_getElem? (i := 244) (by decide +kernel), List.mem_of_getElem? (i := 245) (by decide +kernel)⟩
def lw_privs_1 : List (MethodName × Nat) := [(⟨"ParrotLog", "markCompacted", "()V"⟩, 9), (⟨"ParrotLog", "leastShipOffset", "()I"⟩, 9), (⟨"ParrotLog$Log", "markCompacted", "(I)V"⟩, 8), (⟨"ParrotLog$Log", "latestPosition", "(III)I"⟩, 8), (⟨"ParrotLog", "dropMarked", "()I"⟩, 9), (⟨"ParrotLog$Log", "countMarkedFrom", "(I)I"⟩, 8), (⟨"ParrotLog$Log", "positionFrom", "(I)I"⟩, 8), (⟨"ParrotLog$Log", "removeMarked", "()I"⟩, 8), (⟨"ParrotLog$Log", "positionOf", "(I)I"⟩, 8), (⟨"ParrotLog", "lag", "(LParrotLog$Ship;)I"⟩, 9), (⟨"ParrotLog$Log", "countMarked", "()I"⟩, 8), (⟨"ParrotLog", "mixKeys", "(J)J"⟩, 9), (⟨"ParrotLog$Log", "latestOffset", "(I)I"⟩, 8), (⟨"ParrotLog$Log", "latestValue", "(I)I"⟩, 8), (⟨"ParrotLog$Log", "countKey", "(I)I"⟩, 8), (⟨"ParrotLog$Log", "countEqual", "([II)I"⟩, 8)]
theorem lw_r1 : ∀ q ∈ lw_privs_1, lw_okq q := List.forall_mem_cons.mpr ⟨lw_p0, List.forall_mem_cons.mpr ⟨lw_p1, List.forall_mem_cons.mpr ⟨lw_p2, List.forall_mem_cons.mpr ⟨lw_p3, List.forall_mem_cons.mpr ⟨lw_p4, List.forall_mem_cons.mpr ⟨lw_p5, List.forall_mem_cons.mpr ⟨lw_p6, List.forall_mem_cons.mpr ⟨lw_p7, List.forall_mem_cons.mpr ⟨lw_p8, List.forall_mem_cons.mpr ⟨lw_p9, List.forall_mem_cons.mpr ⟨lw_p10, List.forall_mem_cons.mpr ⟨lw_p11, List.forall_mem_cons.mpr ⟨lw_p12, List.forall_mem_cons.mpr ⟨lw_p13, List.forall_mem_cons.mpr ⟨lw_p14, List.forall_mem_cons.mpr ⟨lw_p15, fun _ h => absurd h List.not_mem_nil⟩⟩⟩⟩⟩⟩⟩⟩⟩⟩⟩⟩⟩⟩⟩⟩
theorem lw_p16 : lw_okq (⟨"ParrotLog", "mixStorms", "(J)J"⟩, 9) := ⟨⟨by decide +kernel, by decide +kernel⟩, List.mem_of_getElem? (i := 13) (by decide +kernel), List.mem_of_getElem? (i := 248) (by decide +kernel), List.mem_of_getElem? (i := 249) (by decide +kernel)⟩
theorem lw_p17 : lw_okq (⟨"ParrotLog$Log", "countStorm", "(I)I"⟩, 8) := ⟨⟨by decide +kernel, by decide +kernel⟩, List.mem_of_getElem? (i := 21) (by decide +kernel), List.mem_of_getElem? (i := 252) (by decide +kernel), List.mem_of_getElem? (i := 253) (by decide +kernel)⟩
theorem lw_p18 : lw_okq (⟨"ParrotLog", "mixShips", "(J)J"⟩, 9) := ⟨⟨by decide +kernel, by decide +kernel⟩, List.mem_of_getElem? (i := 13) (by decide +kernel), List.mem_of_getElem? (i := 256) (by decide +kernel), List.mem_of_getElem? (i := 257) (by decide +kernel)⟩
theorem lw_p19 : lw_okq (⟨"ParrotLog", "errorsAfter", "(LParrotLog$Ship;I)I"⟩, 9) := ⟨⟨by decide +kernel, by decide +kernel⟩, List.mem_of_getElem? (i := 13) (by decide +kernel), List.mem_of_getElem? (i := 260) (by decide +kernel), List.mem_of_getElem? (i := 261) (by decide +kernel)⟩
theorem lw_p20 : lw_okq (⟨"ParrotLog", "hoursToGo", "(LParrotLog$Ship;)I"⟩, 9) := ⟨⟨by decide +kernel, by decide +kernel⟩, List.mem_of_getElem? (i := 13) (by decide +kernel), List.mem_of_getElem? (i := 265) (by decide +kernel), List.mem_of_getElem? (i := 266) (by decide +kernel)⟩
theorem lw_p21 : lw_okq (⟨"ParrotLog", "mostHeard", "(II)I"⟩, 9) := ⟨⟨by decide +kernel, by decide +kernel⟩, List.mem_of_getElem? (i := 13) (by decide +kernel), List.mem_of_getElem? (i := 269) (by decide +kernel), List.mem_of_getElem? (i := 270) (by decide +kernel)⟩
theorem lw_p22 : lw_okq (⟨"java/lang/Throwable", "fillInStackTrace", "(I)Ljava/lang/Throwable;"⟩, 6) := ⟨⟨by decide +kernel, by decide +kernel⟩, List.mem_of_getElem? (i := 322) (by decide +kernel), List.mem_of_getElem? (i := 320) (by decide +kernel), List.mem_of_getElem? (i := 321) (by decide +kernel)⟩
theorem lw_p23 : lw_okq (⟨"ParrotLog", "speak", "(II)I"⟩, 9) := ⟨⟨by decide +kernel, by decide +kernel⟩, List.mem_of_getElem? (i := 13) (by decide +kernel), List.mem_of_getElem? (i := 353) (by decide +kernel), List.mem_of_getElem? (i := 354) (by decide +kernel)⟩
theorem lw_p24 : lw_okq (⟨"ParrotLog$Log", "markFirst", "()V"⟩, 8) := ⟨⟨by decide +kernel, by decide +kernel⟩, List.mem_of_getElem? (i := 21) (by decide +kernel), List.mem_of_getElem? (i := 357) (by decide +kernel), List.mem_of_getElem? (i := 358) (by decide +kernel)⟩
theorem lw_p25 : lw_okq (⟨"ParrotLog$Log", "append", "(III)I"⟩, 8) := ⟨⟨by decide +kernel, by decide +kernel⟩, List.mem_of_getElem? (i := 21) (by decide +kernel), List.mem_of_getElem? (i := 361) (by decide +kernel), List.mem_of_getElem? (i := 362) (by decide +kernel)⟩
theorem lw_p26 : lw_okq (⟨"ParrotLog", "checkStorm", "(I)V"⟩, 9) := ⟨⟨by decide +kernel, by decide +kernel⟩, List.mem_of_getElem? (i := 13) (by decide +kernel), List.mem_of_getElem? (i := 406) (by decide +kernel), List.mem_of_getElem? (i := 407) (by decide +kernel)⟩
theorem lw_p27 : lw_okq (⟨"ParrotLog$Log", "copyStorm", "(I[I[I)I"⟩, 8) := ⟨⟨by decide +kernel, by decide +kernel⟩, List.mem_of_getElem? (i := 21) (by decide +kernel), List.mem_of_getElem? (i := 426) (by decide +kernel), List.mem_of_getElem? (i := 427) (by decide +kernel)⟩
theorem lw_p28 : lw_okq (⟨"ParrotLog", "checkReachable", "(I)V"⟩, 9) := ⟨⟨by decide +kernel, by decide +kernel⟩, List.mem_of_getElem? (i := 13) (by decide +kernel), List.mem_of_getElem? (i := 437) (by decide +kernel), List.mem_of_getElem? (i := 438) (by decide +kernel)⟩
theorem lw_p29 : lw_okq (⟨"ParrotLog$Log", "markAhead", "(I)V"⟩, 8) := ⟨⟨by decide +kernel, by decide +kernel⟩, List.mem_of_getElem? (i := 21) (by decide +kernel), List.mem_of_getElem? (i := 442) (by decide +kernel), List.mem_of_getElem? (i := 443) (by decide +kernel)⟩
theorem lw_p30 : lw_okq (⟨"ParrotLog", "shipNumbered", "(I)LParrotLog$Ship;"⟩, 9) := ⟨⟨by decide +kernel, by decide +kernel⟩, List.mem_of_getElem? (i := 13) (by decide +kernel), List.mem_of_getElem? (i := 462) (by decide +kernel), List.mem_of_getElem? (i := 463) (by decide +kernel)⟩
theorem lw_p31 : lw_okq (⟨"ParrotLog", "hearNext", "(LParrotLog$Ship;I)I"⟩, 9) := ⟨⟨by decide +kernel, by decide +kernel⟩, List.mem_of_getElem? (i := 13) (by decide +kernel), List.mem_of_getElem? (i := 478) (by decide +kernel), List.mem_of_getElem? (i := 479) (by decide +kernel)⟩
def lw_privs_2 : List (MethodName × Nat) := [(⟨"ParrotLog", "mixStorms", "(J)J"⟩, 9), (⟨"ParrotLog$Log", "countStorm", "(I)I"⟩, 8), (⟨"ParrotLog", "mixShips", "(J)J"⟩, 9), (⟨"ParrotLog", "errorsAfter", "(LParrotLog$Ship;I)I"⟩, 9), (⟨"ParrotLog", "hoursToGo", "(LParrotLog$Ship;)I"⟩, 9), (⟨"ParrotLog", "mostHeard", "(II)I"⟩, 9), (⟨"java/lang/Throwable", "fillInStackTrace", "(I)Ljava/lang/Throwable;"⟩, 6), (⟨"ParrotLog", "speak", "(II)I"⟩, 9), (⟨"ParrotLog$Log", "markFirst", "()V"⟩, 8), (⟨"ParrotLog$Log", "append", "(III)I"⟩, 8), (⟨"ParrotLog", "checkStorm", "(I)V"⟩, 9), (⟨"ParrotLog$Log", "copyStorm", "(I[I[I)I"⟩, 8), (⟨"ParrotLog", "checkReachable", "(I)V"⟩, 9), (⟨"ParrotLog$Log", "markAhead", "(I)V"⟩, 8), (⟨"ParrotLog", "shipNumbered", "(I)LParrotLog$Ship;"⟩, 9), (⟨"ParrotLog", "hearNext", "(LParrotLog$Ship;I)I"⟩, 9)]
theorem lw_r2 : ∀ q ∈ lw_privs_2, lw_okq q := List.forall_mem_cons.mpr ⟨lw_p16, List.forall_mem_cons.mpr ⟨lw_p17, List.forall_mem_cons.mpr ⟨lw_p18, List.forall_mem_cons.mpr ⟨lw_p19, List.forall_mem_cons.mpr ⟨lw_p20, List.forall_mem_cons.mpr ⟨lw_p21, List.forall_mem_cons.mpr ⟨lw_p22, List.forall_mem_cons.mpr ⟨lw_p23, List.forall_mem_cons.mpr ⟨lw_p24, List.forall_mem_cons.mpr ⟨lw_p25, List.forall_mem_cons.mpr ⟨lw_p26, List.forall_mem_cons.mpr ⟨lw_p27, List.forall_mem_cons.mpr ⟨lw_p28, List.forall_mem_cons.mpr ⟨lw_p29, List.forall_mem_cons.mpr ⟨lw_p30, List.forall_mem_cons.mpr ⟨lw_p31, fun _ h => absurd h List.not_mem_nil⟩⟩⟩⟩⟩⟩⟩⟩⟩⟩⟩⟩⟩⟩⟩⟩
theorem lw_p32 : lw_okq (⟨"ParrotLog$Ship", "hear", "(III)V"⟩, 5) := ⟨⟨by decide +kernel, by decide +kernel⟩, List.mem_of_getElem? (i := 62) (by decide +kernel), List.mem_of_getElem? (i := 482) (by decide +kernel), List.mem_of_getElem? (i := 483) (by decide +kernel)⟩
theorem lw_p33 : lw_okq (⟨"ParrotLog", "keptPosition", "(I)I"⟩, 9) := ⟨⟨by decide +kernel, by decide +kernel⟩, List.mem_of_getElem? (i := 13) (by decide +kernel), List.mem_of_getElem? (i := 493) (by decide +kernel), List.mem_of_getElem? (i := 494) (by decide +kernel)⟩
theorem lw_p34 : lw_okq (⟨"ParrotLogModel", "fail", "(I)I"⟩, 19) := ⟨⟨by decide +kernel, by decide +kernel⟩, List.mem_of_getElem? (i := 620) (by decide +kernel), List.mem_of_getElem? (i := 698) (by decide +kernel), List.mem_of_getElem? (i := 699) (by decide +kernel)⟩
theorem lw_p35 : lw_okq (⟨"ParrotLogModel", "put", "(II)V"⟩, 19) := ⟨⟨by decide +kernel, by decide +kernel⟩, List.mem_of_getElem? (i := 620) (by decide +kernel), List.mem_of_getElem? (i := 702) (by decide +kernel), List.mem_of_getElem? (i := 703) (by decide +kernel)⟩
theorem lw_p36 : lw_okq (⟨"ParrotLogModel", "drop", "()I"⟩, 19) := ⟨⟨by decide +kernel, by decide +kernel⟩, List.mem_of_getElem? (i := 620) (by decide +kernel), List.mem_of_getElem? (i := 706) (by decide +kernel), List.mem_of_getElem? (i := 707) (by decide +kernel)⟩
theorem lw_p37 : lw_okq (⟨"ParrotLogModel", "isStorm", "(I)Z"⟩, 19) := ⟨⟨by decide +kernel, by decide +kernel⟩, List.mem_of_getElem? (i := 620) (by decide +kernel), List.mem_of_getElem? (i := 722) (by decide +kernel), List.mem_of_getElem? (i := 723) (by decide +kernel)⟩
theorem lw_p38 : lw_okq (⟨"ParrotLogModel", "mark", "()I"⟩, 19) := ⟨⟨by decide +kernel, by decide +kernel⟩, List.mem_of_getElem? (i := 620) (by decide +kernel), List.mem_of_getElem? (i := 730) (by decide +kernel), List.mem_of_getElem? (i := 731) (by decide +kernel)⟩
theorem lw_p39 : lw_okq (⟨"ParrotLogModel", "isShip", "(I)Z"⟩, 19) := ⟨⟨by decide +kernel, by decide +kernel⟩, List.mem_of_getElem? (i := 620) (by decide +kernel), List.mem_of_getElem? (i := 747) (by decide +kernel), List.mem_of_getElem? (i := 748) (by decide +kernel)⟩
theorem lw_p40 : lw_okq (⟨"ParrotLogModel", "from", "(I)I"⟩, 19) := ⟨⟨by decide +kernel, by decide +kernel⟩, List.mem_of_getElem? (i := 620) (by decide +kernel), List.mem_of_getElem? (i := 755) (by decide +kernel), List.mem_of_getElem? (i := 756) (by decide +kernel)⟩
theorem lw_p41 : lw_okq (⟨"ParrotLogModel", "told", "(I)I"⟩, 19) := ⟨⟨by decide +kernel, by decide +kernel⟩, List.mem_of_getElem? (i := 620) (by decide +kernel), List.mem_of_getElem? (i := 763) (by decide +kernel), List.mem_of_getElem? (i := 764) (by decide +kernel)⟩
theorem lw_p42 : lw_okq (⟨"ParrotLogModel", "first", "()I"⟩, 19) := ⟨⟨by decide +kernel, by decide +kernel⟩, List.mem_of_getElem? (i := 620) (by decide +kernel), List.mem_of_getElem? (i := 779) (by decide +kernel), List.mem_of_getElem? (i := 780) (by decide +kernel)⟩
theorem lw_p43 : lw_okq (⟨"ParrotLogModel", "place", "(I)I"⟩, 19) := ⟨⟨by decide +kernel, by decide +kernel⟩, List.mem_of_getElem? (i := 620) (by decide +kernel), List.mem_of_getElem? (i := 791) (by decide +kernel), List.mem_of_getElem? (i := 792) (by decide +kernel)⟩
theorem lw_p44 : lw_okq (⟨"ParrotLogModel", "of", "(I[I)I"⟩, 19) := ⟨⟨by decide +kernel, by decide +kernel⟩, List.mem_of_getElem? (i := 620) (by decide +kernel), List.mem_of_getElem? (i := 799) (by decide +kernel), List.mem_of_getElem? (i := 800) (by decide +kernel)⟩
theorem lw_p45 : lw_okq (⟨"ParrotLogModel", "latest", "(I)I"⟩, 19) := ⟨⟨by decide +kernel, by decide +kernel⟩, List.mem_of_getElem? (i := 620) (by decide +kernel), List.mem_of_getElem? (i := 815) (by decide +kernel), List.mem_of_getElem? (i := 816) (by decide +kernel)⟩
theorem lw_p46 : lw_okq (⟨"ParrotLogModel", "last", "(I)I"⟩, 19) := ⟨⟨by decide +kernel, by decide +kernel⟩, List.mem_of_getElem? (i := 620) (by decide +kernel), List.mem_of_getElem? (i := 819) (by decide +kernel), List.mem_of_getElem? (i := 820) (by decide +kernel)⟩
theorem lw_p47 : lw_okq (⟨"ParrotLogModel", "worth", "(I)I"⟩, 19) := ⟨⟨by decide +kernel, by decide +kernel⟩, List.mem_of_getElem? (i := 620) (by decide +kernel), List.mem_of_getElem? (i := 827) (by decide +kernel), List.mem_of_getElem? (i := 828) (by decide +kernel)⟩
def lw_privs_3 : List (MethodName × Nat) := [(⟨"ParrotLog$Ship", "hear", "(III)V"⟩, 5), (⟨"ParrotLog", "keptPosition", "(I)I"⟩, 9), (⟨"ParrotLogModel", "fail", "(I)I"⟩, 19), (⟨"ParrotLogModel", "put", "(II)V"⟩, 19), (⟨"ParrotLogModel", "drop", "()I"⟩, 19), (⟨"ParrotLogModel", "isStorm", "(I)Z"⟩, 19), (⟨"ParrotLogModel", "mark", "()I"⟩, 19), (⟨"ParrotLogModel", "isShip", "(I)Z"⟩, 19), (⟨"ParrotLogModel", "from", "(I)I"⟩, 19), (⟨"ParrotLogModel", "told", "(I)I"⟩, 19), (⟨"ParrotLogModel", "first", "()I"⟩, 19), (⟨"ParrotLogModel", "place", "(I)I"⟩, 19), (⟨"ParrotLogModel", "of", "(I[I)I"⟩, 19), (⟨"ParrotLogModel", "latest", "(I)I"⟩, 19), (⟨"ParrotLogModel", "last", "(I)I"⟩, 19), (⟨"ParrotLogModel", "worth", "(I)I"⟩, 19)]
theorem lw_r3 : ∀ q ∈ lw_privs_3, lw_okq q := List.forall_mem_cons.mpr ⟨lw_p32, List.forall_mem_cons.mpr ⟨lw_p33, List.forall_mem_cons.mpr ⟨lw_p34, List.forall_mem_cons.mpr ⟨lw_p35, List.forall_mem_cons.mpr ⟨lw_p36, List.forall_mem_cons.mpr ⟨lw_p37, List.forall_mem_cons.mpr ⟨lw_p38, List.forall_mem_cons.mpr ⟨lw_p39, List.forall_mem_cons.mpr ⟨lw_p40, List.forall_mem_cons.mpr ⟨lw_p41, List.forall_mem_cons.mpr ⟨lw_p42, List.forall_mem_cons.mpr ⟨lw_p43, List.forall_mem_cons.mpr ⟨lw_p44, List.forall_mem_cons.mpr ⟨lw_p45, List.forall_mem_cons.mpr ⟨lw_p46, List.forall_mem_cons.mpr ⟨lw_p47, fun _ h => absurd h List.not_mem_nil⟩⟩⟩⟩⟩⟩⟩⟩⟩⟩⟩⟩⟩⟩⟩⟩
theorem lw_p48 : lw_okq (⟨"ParrotLogModel", "count", "(I)I"⟩, 19) := ⟨⟨by decide +kernel, by decide +kernel⟩, List.mem_of_getElem? (i := 620) (by decide +kernel), List.mem_of_getElem? (i := 835) (by decide +kernel), List.mem_of_getElem? (i := 836) (by decide +kernel)⟩
theorem lw_p49 : lw_okq (⟨"ParrotLogModel", "kept", "(I)I"⟩, 19) := ⟨⟨by decide +kernel, by decide +kernel⟩, List.mem_of_getElem? (i := 620) (by decide +kernel), List.mem_of_getElem? (i := 855) (by decide +kernel), List.mem_of_getElem? (i := 856) (by decide +kernel)⟩
theorem lw_p50 : lw_okq (⟨"ParrotLogModel", "ship", "(I[I)I"⟩, 19) := ⟨⟨by decide +kernel, by decide +kernel⟩, List.mem_of_getElem? (i := 620) (by decide +kernel), List.mem_of_getElem? (i := 867) (by decide +kernel), List.mem_of_getElem? (i := 868) (by decide +kernel)⟩
theorem lw_p51 : lw_okq (⟨"ParrotLogModel", "lag", "(I)I"⟩, 19) := ⟨⟨by decide +kernel, by decide +kernel⟩, List.mem_of_getElem? (i := 620) (by decide +kernel), List.mem_of_getElem? (i := 875) (by decide +kernel), List.mem_of_getElem? (i := 876) (by decide +kernel)⟩
theorem lw_p52 : lw_okq (⟨"ParrotLogModel", "errors", "(II)I"⟩, 19) := ⟨⟨by decide +kernel, by decide +kernel⟩, List.mem_of_getElem? (i := 620) (by decide +kernel), List.mem_of_getElem? (i := 895) (by decide +kernel), List.mem_of_getElem? (i := 896) (by decide +kernel)⟩
theorem lw_p53 : lw_okq (⟨"ParrotLogModel", "behind", "()I"⟩, 19) := ⟨⟨by decide +kernel, by decide +kernel⟩, List.mem_of_getElem? (i := 620) (by decide +kernel), List.mem_of_getElem? (i := 903) (by decide +kernel), List.mem_of_getElem? (i := 904) (by decide +kernel)⟩
theorem lw_p54 : lw_okq (⟨"ParrotLogModel", "until", "(I)I"⟩, 19) := ⟨⟨by decide +kernel, by decide +kernel⟩, List.mem_of_getElem? (i := 620) (by decide +kernel), List.mem_of_getElem? (i := 911) (by decide +kernel), List.mem_of_getElem? (i := 912) (by decide +kernel)⟩
theorem lw_p55 : lw_okq (⟨"ParrotLogModel", "misses", "(I)I"⟩, 19) := ⟨⟨by decide +kernel, by decide +kernel⟩, List.mem_of_getElem? (i := 620) (by decide +kernel), List.mem_of_getElem? (i := 934) (by decide +kernel), List.mem_of_getElem? (i := 935) (by decide +kernel)⟩
def lw_privs_4 : List (MethodName × Nat) := [(⟨"ParrotLogModel", "count", "(I)I"⟩, 19), (⟨"ParrotLogModel", "kept", "(I)I"⟩, 19), (⟨"ParrotLogModel", "ship", "(I[I)I"⟩, 19), (⟨"ParrotLogModel", "lag", "(I)I"⟩, 19), (⟨"ParrotLogModel", "errors", "(II)I"⟩, 19), (⟨"ParrotLogModel", "behind", "()I"⟩, 19), (⟨"ParrotLogModel", "until", "(I)I"⟩, 19), (⟨"ParrotLogModel", "misses", "(I)I"⟩, 19)]
theorem lw_r4 : ∀ q ∈ lw_privs_4, lw_okq q := List.forall_mem_cons.mpr ⟨lw_p48, List.forall_mem_cons.mpr ⟨lw_p49, List.forall_mem_cons.mpr ⟨lw_p50, List.forall_mem_cons.mpr ⟨lw_p51, List.forall_mem_cons.mpr ⟨lw_p52, List.forall_mem_cons.mpr ⟨lw_p53, List.forall_mem_cons.mpr ⟨lw_p54, List.forall_mem_cons.mpr ⟨lw_p55, fun _ h => absurd h List.not_mem_nil⟩⟩⟩⟩⟩⟩⟩⟩
def lw_privs : List (MethodName × Nat) := lw_privs_1 ++ (lw_privs_2 ++ (lw_privs_3 ++ (lw_privs_4)))
def lw_tbl : List Cond := k2_sels lw_privs ++ tables_1
theorem lw_privs_ok : ∀ q ∈ lw_privs, lw_okq q := by
  show ∀ q ∈ lw_privs_1 ++ (lw_privs_2 ++ (lw_privs_3 ++ (lw_privs_4))), lw_okq q
  exact List.forall_mem_append.mpr ⟨lw_r1, List.forall_mem_append.mpr ⟨lw_r2, List.forall_mem_append.mpr ⟨lw_r3, lw_r4⟩⟩⟩
/-- the streams that the claim lets the run draw from -/
abbrev lw_cs : List Choice := [Jvm.Choice.named "NaN.bits"]
theorem lw_bits : nanBits ∈ lw_cs := by first | decide | exact List.mem_cons_self | simp [lw_cs, nanBits]
-- ===== end of PART A; then your names; then what follows =====
end
section
/-! ===== BEGIN words of one list among another's, by their places ===== -/
theorem goodIn_r {big : List Cond} (ws : List Cond) (ps : List Nat) (hp : ws = ps.filterMap (fun i => big[i]?)) (h : ws.all goodWord = true) : GoodIn big ws := by
  intro w hw
  have h1 := List.all_eq_true.mp h w hw
  rw [hp] at hw
  obtain ⟨i, -, hi⟩ := List.mem_filterMap.mp hw
  have hm : w ∈ big := by first | exact List.mem_of_getElem? hi | exact List.getElem?_mem hi
  exact ⟨hm, good_of_word h1⟩
theorem goodIn_app {big a b : List Cond} (ha : GoodIn big a) (hb : GoodIn big b) : GoodIn big (a ++ b) := fun w h => (List.mem_append.mp h).elim (ha w) (hb w)
theorem goodIn_ca {big a b : List Cond} {c : Cond} (ha : GoodIn big (c :: a)) (hb : GoodIn big b) : GoodIn big (c :: (a ++ b)) := fun w h => (List.mem_cons.mp h).elim (fun e => ha w (List.mem_cons.mpr (Or.inl e))) (fun h => (List.mem_append.mp h).elim (fun h => ha w (List.mem_cons.mpr (Or.inr h))) (hb w))
theorem goodIn_sub {big ws : List Cond} (hm : ∀ w ∈ ws, w ∈ big) (h : ws.all goodWord = true) : GoodIn big ws := fun w hw => ⟨hm w hw, good_of_word (List.all_eq_true.mp h w hw)⟩
/-! ===== END ===== -/

/-! ===== BEGIN exceptions that leave a method, and their catching by the caller (launches without stack traces) ===== -/
section VXA
/-! The laws vx_back, vx_callV, vx_callS, vx_callSW, vx_throw0, vx_throwS follow proofs of the library, with one case more: JvmDerived/Free/Laws.lean (Back.of_free), Shelf42/LK1.lean (callV, callS), Shelf/KitTraced.lean (throwNew0V, throwNewS). -/
/-- where a method has thrown q: the class by its name, the cell, what was written, the world -/
def vx_T (XC : String → State → State → Prop) (st : State) (q : Addr) (t : State) (mc ms : Nat) (free : Addr → Prop) : Prop :=
  ∃ (E : String) (ce : Cell) (L : List Loc), XC E st t ∧ t.heap[q]? = some ce ∧ ce.vm = .none ∧ st.vm.findClass E = some ce.cls ∧ st.WarmedH t.vm ∧ st.sameButNew ({ t with vm := st.vm } : State) L mc ms ∧ ∀ z ∈ L, free z.base
def vx_Q (Qc : Array Value → State → Outcome → State → Prop) (XC : String → State → State → Prop) (mc ms : Nat) (free : Addr → Prop) : Array Value → State → Outcome → State → Prop := fun a st o t =>
  (Qc a st o t ∧ ∃ L, FrameEnd st o t L mc ms ∧ ∀ q ∈ L, free q.base) ∨ ∃ q, o = .threw q ∧ vx_T XC st q t mc ms free
/-- a callee that returns or throws -/
def vx_Met (l : Launch) (y : MethodName) (ws : List Cond) (rm : Room) (Pc : Array Value → State → Prop) (Qc : Array Value → State → Outcome → State → Prop) (XC : String → State → State → Prop) (mc ms : Nat) (free : Addr → Prop) : Prop :=
  MetFree l y (headSpec ws rm) Pc (fun _ _ _ _ _ => True) (vx_Q Qc XC mc ms free)
def vx_Post (XC : String → State → State → Prop) (mc ms : Nat) (free : Addr → Prop) : Pt → Array Value → Addr → Pt → Prop := fun A a q B =>
  ∃ (g : JFrame) (mk : MethodId) (t : State) (L : List Loc) (E : String) (ce : Cell), B.U.heap = t.heap ∧ B.U.vm = t.vm ∧ XC E (A.U.calling g mk a) t ∧ t.heap[q]? = some ce ∧ ce.vm = .none ∧ A.U.vm.findClass E = some ce.cls ∧ B.locs = A.locs ++ L ∧ (∀ z ∈ L, free z.base) ∧ B.cells = A.cells + mc ∧ B.slots = A.slots + ms
def vx_Back (l : Launch) (R : Room) (p : Program) (e : Env) (below : List Frame) (s : State) (sargs : Array Value) (y : MethodName) (len W9 : Nat)
    (Pre : Pt → Array Value → Prop) (Post : Pt → Array Value → Option Value → Pt → Prop) (PostX : Pt → Array Value → Addr → Pt → Prop) : Prop :=
  ∀ (m : MethodId) (meth : Method) (c : Code) (A : Pt) (g : JFrame) (ig : Instr) (mk : MethodId) (a : Array Value),
    Stand p l e R s m sargs below meth c A.U A.locs A.cells A.slots → g.method = m → g.locals.size = c.maxLocals → decode c.code g.pc = .ok (ig, len) →
    2 * g.monitorRoom + (g.stack.map fun v => v.category).sum ≤ W9 → A.U.methodNamed? y = some mk → Pre A a →
    (∃ (v : Option Value) (B : Pt), Stand p l e R s m sargs below meth c B.U B.locs B.cells B.slots ∧ Post A a v B ∧
      Steps p.tables e below (doInvoke e (A.U.setTop g) [] mk a).1 (B.U.setTop { g with pc := g.pc + len, stack := v.toList ++ g.stack })) ∨
    (∃ (q : Addr) (B : Pt), Stand p l e R s m sargs below meth c B.U B.locs B.cells B.slots ∧ PostX A a q B ∧
      Steps p.tables e below (doInvoke e (A.U.setTop g) [] mk a).1 ((B.U.setTop g).pushFrame (.throwing q)))
section Payer
variable {l : Launch} {R : Room} {p : Program} {e : Env} {below : List Frame} {s : State} {sargs : Array Value} {y : MethodName} {len W9 : Nat}
theorem vx_back {ws : List Cond} {rm : Room} {Pc : Array Value → State → Prop} {Qc : Array Value → State → Outcome → State → Prop} {XC : String → State → State → Prop} {mc ms : Nat} {free : Addr → Prop} {bytes : ByteArray} {maxL : Nat} {ret : Option FieldType}
    (hM : vx_Met l y ws rm Pc Qc XC mc ms free) (hblind : FrameBlind Pc) (hrc : rm.cells = mc) (hrs : rm.slots = ms)
    (hframes : rm.frames + 1 ≤ R.frames) (hlocals : W9 + (maxL + 11) + rm.locals ≤ R.locals)
    (hws : ∀ w ∈ ws, ∀ a' U, s.WarmedH U.vm → w.before a' U = true) (hcode : Cond.code y bytes maxL ret ∈ ws) (hinit : ∀ a' U, s.WarmedH U.vm → (Cond.initialized y.cls).before a' U = true) :
    vx_Back l R p e below s sargs y len W9 (PreOf R mc ms Pc) (PostOf Qc mc ms free) (vx_Post XC mc ms free) := by
  intro m meth c A g ig mk a X hg hsize hdg hW hn hp
  have h1 : (headSpec ws rm).pre.before a A.U = true := atoms_intro fun w hw => hws w hw _ _ X.warmed
  have h2 : (Cond.code y bytes maxL ret).before a A.U = true := hws _ hcode _ _ X.warmed
  have h3 : (Cond.initialized y.cls).before a A.U = true := hinit _ _ X.warmed
  have h4 : A.cells + (headSpec ws rm).room.cells ≤ R.cells := by rw [show (headSpec ws rm).room.cells = mc from hrc]; exact hp.1
  have h5 : A.slots + (headSpec ws rm).room.slots ≤ R.slots := by rw [show (headSpec ws rm).room.slots = ms from hrs]; exact hp.2.1
  have hPc : Pc a (A.U.calling g mk a) := hblind _ _ _ _ hp.2.2
  obtain ⟨U, Ls, c0, s0⟩ := A
  dsimp only [Pt.U, Pt.locs, Pt.cells, Pt.slots] at h1 h2 h3 h4 h5 X hn hPc ⊢
  obtain ⟨methY, cY, hmY, hcY, -, hlY, -, -, -, -⟩ := Cond.code_spec hn h2
  obtain ⟨kY, hkY, -⟩ := className_of_methodNamed hn
  have hinitY : kY.init = .initialized := Cond.initialized_spec (findClass_of_methodNamed hn) hkY h3
  have h : At U g.method c below := by rw [hg]; exact X.here
  have hlocals9 : W9 + (maxL + 11) + (headSpec ws rm).room.locals ≤ R.locals := hlocals
  have happ : (headSpec ws rm).appliesLoose y e.platform (U.calling g mk a) = true :=
    Spec.appliesLoose_calling (g := g) h hdg hn hkY hinitY
      (X.room_calling (g := g) (R' := (headSpec ws rm).room) hsize hmY hcY hframes (by rw [hlY]; omega) h4 h5) h1
  obtain ⟨mid, hmid⟩ := h.above
  have hfr : (U.setTop g).frames = (.java g :: mid) ++ below := by rw [State.frames_setTop' g h.top, hmid]; rfl
  obtain ⟨o, s₂, hsteps, -, hend, hq⟩ := Steps.callFree hM p X.admits X.cas X.clock (acts := []) hfr happ hPc trivial
  have hq' : vx_Q Qc XC mc ms free a (U.calling g mk a) o s₂ := hq
  rw [State.frames_setTop' g h.top] at hend
  obtain ⟨g₀, hg0⟩ := Option.isSome_iff_exists.mp h.top
  obtain ⟨r, hr⟩ := State.topJava?_eq_some.mp hg0
  have hr' : (({ U with heap := s₂.heap, slotsUsed := s₂.slotsUsed } : State).setVm s₂.vm).frames = .java g₀ :: r := hr
  rcases hq' with ⟨hqc, L, hfe, hL⟩ | ⟨q, rfl, E, ce, L, hx, hce, hcv, hcl, hW₂, hsm, hL⟩
  · obtain ⟨⟨v, rfl⟩, hW₂, e2, q2, q3, q4, q5, q6⟩ := id hfe
    have e3 : s₂ = ({ (U.calling g mk a).setFrames s₂.frames with heap := s₂.heap, slotsUsed := s₂.slotsUsed } : State).setVm s₂.vm := by
      have : s₂ = ({ s₂ with vm := (U.calling g mk a).vm } : State).setVm s₂.vm := rfl
      rw [e2] at this
      exact this
    obtain ⟨c₂, i₂, len₂, hc₂, hd₂, hf₂⟩ := hend
    have hW' : U.WarmedH s₂.vm := hW₂
    have hcc : c₂ = c := by
      have h1 : s₂.code? g.method = U.code? g.method := by
        rw [State.code?_eq, State.code?_eq, hW'.alike.method?]
      exact Option.some.inj (hc₂.symm.trans (h1.trans h.code))
    subst hcc
    have hlen : len₂ = len := by rw [hdg] at hd₂; cases hd₂; rfl
    subst hlen
    have hs₂ : s₂ = (({ U with heap := s₂.heap, slotsUsed := s₂.slotsUsed } : State).setVm s₂.vm).setTop { g with pc := g.pc + len₂, stack := v.toList ++ g.stack } := by
      refine e3.trans ?_
      rw [hf₂, State.calling_eq h.top, State.setFrames_setFrames, State.setTop_of_frames _ hr', hr]
      rfl
    have hsame : U.sameButNew ({ U with heap := s₂.heap, slotsUsed := s₂.slotsUsed } : State) L mc ms := by
      refine ⟨?_, q2, q3, q4, q5, q6⟩
      obtain ⟨t, ht, -⟩ := State.frames_cons hr
      show ({ U with heap := s₂.heap, slotsUsed := s₂.slotsUsed } : State) = { U.setFrames U.frames with heap := s₂.heap, slotsUsed := s₂.slotsUsed }
      rw [State.setFrames_self ht]
    subst hg
    refine Or.inl ⟨v, ⟨(({ U with heap := s₂.heap, slotsUsed := s₂.slotsUsed } : State).setVm s₂.vm), Ls ++ L, c0 + mc, s0 + ms⟩,
      ⟨X.admits, X.cas, X.clock, X.frames, X.room, X.hears, X.method, X.code, (X.here.setHeapUsed s₂.heap s₂.slotsUsed).setVm hW'.alike, X.tail, State.WarmedH.trans X.warmed hW', X.limits, X.bytes, X.same.trans (hsame.setVm s.vm)⟩,
      ⟨g, mk, s₂, L, rfl, rfl, hqc, rfl, hL, rfl, rfl⟩, ?_⟩
    show Steps p.tables e below _ ((({ U with heap := s₂.heap, slotsUsed := s₂.slotsUsed } : State).setVm s₂.vm).setTop { g with pc := g.pc + len₂, stack := v.toList ++ g.stack })
    rw [← hs₂]
    exact hsteps
  · obtain ⟨e2, q2, q3, q4, q5, q6⟩ := id hsm
    have e3 : s₂ = ({ (U.calling g mk a).setFrames s₂.frames with heap := s₂.heap, slotsUsed := s₂.slotsUsed } : State).setVm s₂.vm := by
      have : s₂ = ({ s₂ with vm := (U.calling g mk a).vm } : State).setVm s₂.vm := rfl
      rw [e2] at this
      exact this
    have hf₂ : s₂.frames = .throwing q :: .java g :: U.frames.tail := hend
    have hW' : U.WarmedH s₂.vm := hW₂
    have hs₂ : s₂ = ((({ U with heap := s₂.heap, slotsUsed := s₂.slotsUsed } : State).setVm s₂.vm).setTop g).pushFrame (.throwing q) := by
      refine e3.trans ?_
      rw [hf₂, State.calling_eq h.top, State.setFrames_setFrames, State.pushFrame, State.frames_setTop _ hr', State.setTop_of_frames _ hr', State.setFrames_setFrames, hr]
      rfl
    have hsame : U.sameButNew ({ U with heap := s₂.heap, slotsUsed := s₂.slotsUsed } : State) L mc ms := by
      refine ⟨?_, q2, q3, q4, q5, q6⟩
      obtain ⟨t, ht, -⟩ := State.frames_cons hr
      show ({ U with heap := s₂.heap, slotsUsed := s₂.slotsUsed } : State) = { U.setFrames U.frames with heap := s₂.heap, slotsUsed := s₂.slotsUsed }
      rw [State.setFrames_self ht]
    subst hg
    refine Or.inr ⟨q, ⟨(({ U with heap := s₂.heap, slotsUsed := s₂.slotsUsed } : State).setVm s₂.vm), Ls ++ L, c0 + mc, s0 + ms⟩,
      ⟨X.admits, X.cas, X.clock, X.frames, X.room, X.hears, X.method, X.code, (X.here.setHeapUsed s₂.heap s₂.slotsUsed).setVm hW'.alike, X.tail, State.WarmedH.trans X.warmed hW', X.limits, X.bytes, X.same.trans (hsame.setVm s.vm)⟩,
      ⟨g, mk, s₂, L, E, ce, rfl, rfl, hx, hce, hcv, hcl, rfl, hL, rfl, rfl⟩, ?_⟩
    show Steps p.tables e below _ (((({ U with heap := s₂.heap, slotsUsed := s₂.slotsUsed } : State).setVm s₂.vm).setTop g).pushFrame (.throwing q))
    rw [← hs₂]
    exact hsteps
end Payer
section Calls
variable {p : Program} {l : Launch} {e : Env} {R : Room} {s : State} {m : MethodId} {args : Array Value} {below : List Frame} {meth : Method} {c : Code} {T : State} {locs : List Loc} {cells slots : Nat}
theorem vx_callV (X : Stand p l e R s m args below meth c T locs cells slots) (hexec : p.tables.exec = Jvm.exec) {own C : String} {index : Nat} {y : MethodName} {bytes : ByteArray} {maxL : Nat} {ret : Option FieldType}
    (hown : s.vm.findClass own = some m.cls) (hlink : (Cond.methodLink own index y).before args s = true) (hinst : (Cond.instanceMethod y).before args s = true) (hsel : (Cond.selects C y y).before args s = true)
    (hcode : (Cond.code y bytes maxL ret).before args s = true) (hy : y.cls ≠ "java/lang/invoke/MethodHandle" ∧ y.cls ≠ "java/lang/invoke/VarHandle")
    {W9 : Nat} {Pre : Pt → Array Value → Prop} {Post : Pt → Array Value → Option Value → Pt → Prop} {PostX : Pt → Array Value → Addr → Pt → Prop} (hK : vx_Back l R p e below s args y 3 W9 Pre Post PostX)
    {b : Addr} {cellB : Cell} (hcell : T.heap[b]? = some cellB) (hobj : cellB.vm.isStatics = false) (hcls : s.vm.findClass C = some cellB.cls)
    {g : JFrame} (hg : g.method = m) (hsize : g.locals.size = c.maxLocals) {argsL rest : List Value} (hlen : ∀ sig, parseMethodDescriptor y.desc = some sig → argsL.length = sig.parameters.length)
    (hstack : g.stack = argsL.reverse ++ .ref b :: rest) (hW : 2 * g.monitorRoom + (rest.map fun v => v.category).sum ≤ W9) (hdg : decode c.code g.pc = .ok (.invokevirtual index, 3))
    (hpre : ∀ vm₁, s.WarmedH vm₁ → Pre ⟨T.setVm vm₁, locs, cells, slots⟩ (Value.ref b :: argsL).toArray) :
    (∃ (v : Option Value) (vm₁ : Vm) (B : Pt), s.WarmedH vm₁ ∧ Stand p l e R s m args below meth c B.U B.locs B.cells B.slots ∧ Post ⟨T.setVm vm₁, locs, cells, slots⟩ (Value.ref b :: argsL).toArray v B ∧
      ∀ target, Steps p.tables e below (B.U.setTop { g with pc := g.pc + 3, stack := v.toList ++ rest }) target → Steps p.tables e below (T.setTop g) target) ∨
    (∃ (q : Addr) (vm₁ : Vm) (B : Pt), s.WarmedH vm₁ ∧ Stand p l e R s m args below meth c B.U B.locs B.cells B.slots ∧ PostX ⟨T.setVm vm₁, locs, cells, slots⟩ (Value.ref b :: argsL).toArray q B ∧
      Steps p.tables e below (T.setTop g) ((B.U.setTop { g with stack := rest }).pushFrame (.throwing q))) := by
  obtain ⟨mk, methM, hnamed, hmethM, hstM, habM⟩ := Cond.instanceMethod_spec hinst
  obtain ⟨methM', cM, hmethM', -, -, -, -, -, -, hsigM⟩ := Cond.code_spec hnamed hcode
  cases hmethM.symm.trans hmethM'
  obtain ⟨c2, r2, m2, q1, q2, q3, q4, kP, hkP, hkPi⟩ := Cond.selects_spec hsel
  cases hcls.symm.trans q1
  cases (State.methodFound?_of_named hnamed hy).symm.trans q2
  cases hnamed.symm.trans q3
  have hselP : selectMethod e.platform s.vm cellB.cls mk = .method mk := by rw [Launch.admits_selectMethod X.admits]; exact q4
  obtain ⟨vm₁, X₁, hstep₁⟩ := X.invokevirtual hexec hown hlink hnamed hmethM hstM hkP hkPi hy (a := b) (cell := cellB) hcell
    (fun z h => by rw [h] at hobj; cases hobj) hselP hmethM habM hkP hkPi (g := g) hg (argsL := argsL) (rest := rest) (hlen _ hsigM) hstack hdg
  rcases hK m meth c ⟨T.setVm vm₁, locs, cells, slots⟩ { g with stack := rest } (.invokevirtual index) mk (Value.ref b :: argsL).toArray X₁ hg hsize hdg hW (X₁.named hnamed) (hpre vm₁ X₁.warmed) with ⟨v, B, X', hpost, hsteps⟩ | ⟨q, B, X', hpost, hsteps⟩
  · exact Or.inl ⟨v, vm₁, B, X₁.warmed, X', hpost, fun target h => hstep₁ _ fun acts => by rw [doInvoke_state]; exact hsteps.trans h⟩
  · exact Or.inr ⟨q, vm₁, B, X₁.warmed, X', hpost, hstep₁ _ fun acts => by rw [doInvoke_state]; exact hsteps⟩
theorem vx_callS (X : Stand p l e R s m args below meth c T locs cells slots) (hexec : p.tables.exec = Jvm.exec) {own : String} {index : Nat} {y : MethodName} {bytes : ByteArray} {maxL : Nat} {ret : Option FieldType}
    (hown : s.vm.findClass own = some m.cls) (hlink : (Cond.methodLink own index y).before args s = true) (hstat : (Cond.static y).before args s = true) (hinit : (Cond.initialized y.cls).before args s = true)
    (hcode : (Cond.code y bytes maxL ret).before args s = true) (hy : y.cls ≠ "java/lang/invoke/MethodHandle" ∧ y.cls ≠ "java/lang/invoke/VarHandle")
    {W9 : Nat} {Pre : Pt → Array Value → Prop} {Post : Pt → Array Value → Option Value → Pt → Prop} {PostX : Pt → Array Value → Addr → Pt → Prop} (hK : vx_Back l R p e below s args y 3 W9 Pre Post PostX)
    {g : JFrame} (hg : g.method = m) (hsize : g.locals.size = c.maxLocals) {argsL rest : List Value} (hlen : ∀ sig, parseMethodDescriptor y.desc = some sig → argsL.length = sig.parameters.length)
    (hstack : g.stack = argsL.reverse ++ rest) (hW : 2 * g.monitorRoom + (rest.map fun v => v.category).sum ≤ W9) (hdg : decode c.code g.pc = .ok (.invokestatic index, 3))
    (hpre : ∀ vm₁, s.WarmedH vm₁ → Pre ⟨T.setVm vm₁, locs, cells, slots⟩ argsL.toArray) :
    (∃ (v : Option Value) (vm₁ : Vm) (B : Pt), s.WarmedH vm₁ ∧ Stand p l e R s m args below meth c B.U B.locs B.cells B.slots ∧ Post ⟨T.setVm vm₁, locs, cells, slots⟩ argsL.toArray v B ∧
      ∀ target, Steps p.tables e below (B.U.setTop { g with pc := g.pc + 3, stack := v.toList ++ rest }) target → Steps p.tables e below (T.setTop g) target) ∨
    (∃ (q : Addr) (vm₁ : Vm) (B : Pt), s.WarmedH vm₁ ∧ Stand p l e R s m args below meth c B.U B.locs B.cells B.slots ∧ PostX ⟨T.setVm vm₁, locs, cells, slots⟩ argsL.toArray q B ∧
      Steps p.tables e below (T.setTop g) ((B.U.setTop { g with stack := rest }).pushFrame (.throwing q))) := by
  obtain ⟨mk, hnamed⟩ := Cond.code_named hcode
  obtain ⟨methM, cM, hmethM, -, -, -, -, -, -, hsigM⟩ := Cond.code_spec hnamed hcode
  have hstatic : methM.isStatic = true := Cond.static_spec hnamed hmethM hstat
  obtain ⟨kP, hkP, -⟩ := className_of_methodNamed hnamed
  have hinitP : kP.init = .initialized := Cond.initialized_spec (findClass_of_methodNamed hnamed) hkP hinit
  obtain ⟨vm₁, X₁, hstep₁⟩ := X.invokestatic hexec hown hlink hnamed hmethM hstatic hkP hinitP hy (g := g) hg (argsL := argsL) (rest := rest) (hlen _ hsigM) hstack hdg
  rcases hK m meth c ⟨T.setVm vm₁, locs, cells, slots⟩ { g with stack := rest } (.invokestatic index) mk argsL.toArray X₁ hg hsize hdg hW (X₁.named hnamed) (hpre vm₁ X₁.warmed) with ⟨v, B, X', hpost, hsteps⟩ | ⟨q, B, X', hpost, hsteps⟩
  · exact Or.inl ⟨v, vm₁, B, X₁.warmed, X', hpost, fun target h => hstep₁ _ fun acts => by rw [doInvoke_state]; exact hsteps.trans h⟩
  · exact Or.inr ⟨q, vm₁, B, X₁.warmed, X', hpost, hstep₁ _ fun acts => by rw [doInvoke_state]; exact hsteps⟩
end Calls
theorem vx_cls {s : State} {T : State} {vm₁ : Vm} {E : String} {k : ClassId} (hW : s.WarmedH vm₁) (h : (T.setVm vm₁).vm.findClass E = some k) : s.vm.findClass E = some k := by
  have h1 : vm₁.findClass E = some k := h
  rw [hW.alike.findClass] at h1
  exact h1
/-- the method's frame g, with q thrown over it -/
def vx_W (p : Program) (l : Launch) (e : Env) (R : Room) (s : State) (m : MethodId) (args : Array Value) (below : List Frame) (meth : Method) (c : Code) (H : Heap) (locs : List Loc) (cells slots : Nat) (Q : State → Prop) (g : JFrame) (q : Addr) : Prop :=
  ∀ T : State, T.heap = H → Stand p l e R s m args below meth c T locs cells slots → ∃ t, Steps p.tables e below ((T.setTop g).pushFrame (.throwing q)) t ∧ Q t
def vx_Run (p : Program) (l : Launch) (e : Env) (R : Room) (s : State) (m : MethodId) (args : Array Value) (below : List Frame) (meth : Method) (c : Code) (H : Heap) (locs : List Loc) (cells slots mc ms : Nat) (g : JFrame) (rest : List Value) (Qa : State → Outcome → State → Prop) (XC : String → State → State → Prop) (free : Addr → Prop) : Prop :=
  ∀ T : State, T.heap = H → Stand p l e R s m args below meth c T locs cells slots →
    (∃ (v : Option Value) (st₀ t T' : State) (L : List Loc), st₀.heap = H ∧ Stand p l e R s m args below meth c T' (locs ++ L) (cells + mc) (slots + ms) ∧ (∀ q ∈ L, free q.base) ∧ T'.heap = t.heap ∧ T'.vm = t.vm ∧ Qa st₀ (.returned v) t ∧
      Goes p e below T g T' { g with pc := g.pc + 3, stack := v.toList ++ rest }) ∨
    (∃ (q : Addr) (st₀ t T' : State) (L : List Loc) (E : String) (ce : Cell), st₀.heap = H ∧ Stand p l e R s m args below meth c T' (locs ++ L) (cells + mc) (slots + ms) ∧ (∀ z ∈ L, free z.base) ∧ T'.heap = t.heap ∧ T'.vm = t.vm ∧ XC E st₀ t ∧ t.heap[q]? = some ce ∧ ce.vm = .none ∧ s.vm.findClass E = some ce.cls ∧
      Steps p.tables e below (T.setTop g) ((T'.setTop { g with stack := rest }).pushFrame (.throwing q)))
def vx_X {S : Type} (px : S → Prop) (B : String → S → State → Prop) (A : Nat → Prop) : String → State → State → Prop := fun E st t => ∃ u : S, px u ∧ B E u t ∧ va_F A st t
section Runs
variable {p : Program} {l : Launch} {e : Env} {R : Room} {s : State} {m : MethodId} {args : Array Value} {below : List Frame} {meth : Method} {c : Code} {H : Heap} {locs : List Loc} {cells slots : Nat}
variable {y : MethodName} {bytes cc : ByteArray} {maxL nL mc ms n index : Nat} {ret : Option FieldType} {ws : List Cond} {rm : Room} {Pc : Array Value → State → Prop} {Qc : Array Value → State → Outcome → State → Prop} {XC : String → State → State → Prop} {free : Addr → Prop} {Ts : List Cond} {own C : String} {b : Addr} {As rest : List Value} {g : JFrame}
theorem vx_callBack (cb : CallB R s args own index y bytes maxL ret ws rm mc ms n) (hM : vx_Met l y ws rm Pc Qc XC mc ms free) (hbl : FrameBlind Pc) : vx_Back l R p e below s args y 3 8 (PreOf R mc ms Pc) (PostOf Qc mc ms free) (vx_Post XC mc ms free) := by
  obtain ⟨hrc, hrs, hfr, hlo, hws, hcw, -, hini, -⟩ := cb
  exact vx_back (bytes := bytes) (maxL := maxL) (ret := ret) hM hbl hrc hrs hfr hlo hws hcw (fun a' U hW => word_at hW (Or.inl (by first | rfl | simp [Cond.onTables, Cond.keeps, Cond.steady])) hini)
theorem vx_runV (S : CallFix p m c cc nL s args Ts own) (hM : vx_Met l y ws rm Pc Qc XC mc ms free) (cw : CallW R s args own C index y bytes maxL ret ws rm mc ms n) (hp : PreV s H C b Pc As)
    (hg : g.method = m) (hn : As.length = n) (hsize : g.locals.size = nL) (hstack : g.stack = As.reverse ++ .ref b :: rest) (hW : 2 * g.monitorRoom + (rest.map fun v => v.category).sum ≤ 8) (hdg : decode cc g.pc = .ok (.invokevirtual index, 3)) (hf : cells + mc ≤ R.cells ∧ slots + ms ≤ R.slots) :
    vx_Run p l e R s m args below meth c H locs cells slots mc ms g rest (Qc (Value.ref b :: As).toArray) XC free := by
  have hK : vx_Back l R p e below s args y 3 8 (PreOf R mc ms Pc) (PostOf Qc mc ms free) (vx_Post XC mc ms free) := vx_callBack cw.1 hM hp.1
  obtain ⟨⟨-, -, -, -, -, -, hcode, -, hy, hlen, hl⟩, hin, hse⟩ := cw
  obtain ⟨hx, hb, hml, ho, -⟩ := S
  obtain ⟨-, ⟨cellB, hcB, hoB, hclB⟩, hPc⟩ := hp
  intro T hT X
  rcases vx_callV X hx (C := C) (bytes := bytes) (maxL := maxL) (ret := ret) ho hl hin hse hcode hy hK (by rw [hT]; exact hcB) hoB hclB hg (hsize.trans hml.symm) (argsL := As) (rest := rest) (fun sig h => hn.trans (hlen sig h)) hstack hW (by rw [hb]; exact hdg)
    (fun vm₁ hW₁ => ⟨hf.1, hf.2, hPc (T.setVm vm₁) hT hW₁⟩) with ⟨v, vm₁, ⟨U', l2, c2, s2⟩, hW₁, X', ⟨g', mk, t, L, e1, e2, hq, h1, hL, h2, h3⟩, st⟩ | ⟨q, vm₁, ⟨U', l2, c2, s2⟩, hW₁, X', ⟨g', mk, t, L, E, ce, e1, e2, hq, hce, hcv, hcl, h1, hL, h2, h3⟩, st⟩
  · dsimp only [Pt.U, Pt.locs, Pt.cells, Pt.slots] at X' e1 e2 h1 h2 h3 st
    subst h1; subst h2; subst h3
    exact Or.inl ⟨v, (T.setVm vm₁).calling g' mk (Value.ref b :: As).toArray, t, U', L, hT, X', hL, e1, e2, hq, st⟩
  · dsimp only [Pt.U, Pt.locs, Pt.cells, Pt.slots] at X' e1 e2 h1 h2 h3 st hcl
    subst h1; subst h2; subst h3
    exact Or.inr ⟨q, (T.setVm vm₁).calling g' mk (Value.ref b :: As).toArray, t, U', L, E, ce, hT, X', hL, e1, e2, hq, hce, hcv, vx_cls hW₁ hcl, st⟩
theorem vx_runS (S : CallFix p m c cc nL s args Ts own) (hM : vx_Met l y ws rm Pc Qc XC mc ms free) (cw : CallB R s args own index y bytes maxL ret ws rm mc ms n ∧ (Cond.static y).before args s = true) (hp : PreS s H Pc As)
    (hg : g.method = m) (hn : As.length = n) (hsize : g.locals.size = nL) (hstack : g.stack = As.reverse ++ rest) (hW : 2 * g.monitorRoom + (rest.map fun v => v.category).sum ≤ 8) (hdg : decode cc g.pc = .ok (.invokestatic index, 3)) (hf : cells + mc ≤ R.cells ∧ slots + ms ≤ R.slots) :
    vx_Run p l e R s m args below meth c H locs cells slots mc ms g rest (Qc As.toArray) XC free := by
  have hK : vx_Back l R p e below s args y 3 8 (PreOf R mc ms Pc) (PostOf Qc mc ms free) (vx_Post XC mc ms free) := vx_callBack cw.1 hM hp.1
  obtain ⟨⟨-, -, -, -, -, -, hcode, hini, hy, hlen, hl⟩, hstt⟩ := cw
  obtain ⟨hx, hb, hml, ho, -⟩ := S
  intro T hT X
  rcases vx_callS X hx (bytes := bytes) (maxL := maxL) (ret := ret) ho hl hstt hini hcode hy hK hg (hsize.trans hml.symm) (argsL := As) (rest := rest) (fun sig h => hn.trans (hlen sig h)) hstack hW (by rw [hb]; exact hdg)
    (fun vm₁ hW₁ => ⟨hf.1, hf.2, hp.2 (T.setVm vm₁) hT hW₁⟩) with ⟨v, vm₁, ⟨U', l2, c2, s2⟩, hW₁, X', ⟨g', mk, t, L, e1, e2, hq, h1, hL, h2, h3⟩, st⟩ | ⟨q, vm₁, ⟨U', l2, c2, s2⟩, hW₁, X', ⟨g', mk, t, L, E, ce, e1, e2, hq, hce, hcv, hcl, h1, hL, h2, h3⟩, st⟩
  · dsimp only [Pt.U, Pt.locs, Pt.cells, Pt.slots] at X' e1 e2 h1 h2 h3 st
    subst h1; subst h2; subst h3
    exact Or.inl ⟨v, (T.setVm vm₁).calling g' mk As.toArray, t, U', L, hT, X', hL, e1, e2, hq, st⟩
  · dsimp only [Pt.U, Pt.locs, Pt.cells, Pt.slots] at X' e1 e2 h1 h2 h3 st hcl
    subst h1; subst h2; subst h3
    exact Or.inr ⟨q, (T.setVm vm₁).calling g' mk As.toArray, t, U', L, E, ce, hT, X', hL, e1, e2, hq, hce, hcv, vx_cls hW₁ hcl, st⟩
end Runs
section Rows
variable {p : Program} {l : Launch} {e : Env} {R : Room} {s : State} {m : MethodId} {args : Array Value} {below : List Frame} {meth : Method} {c : Code} {H : Heap} {locs : List Loc} {cells slots : Nat} {Q : State → Prop}
variable {mc ms : Nat} {free : Addr → Prop} {A0 A1 : Nat → Prop} {H0 : Heap} {a : Array Value} {pc : Nat} {ls : Array Slot} {st0 rest : List Value}
theorem vx_keep {st₀ t T' : State} {L : List Loc} (h0 : st₀.heap = H) (e1 : T'.heap = t.heap) (hS : va_S A0 H0 H locs) (hA : ∀ q, q < H.size → A1 q → A0 q) (hf : ∀ q, free q → A0 q) (hL : ∀ q ∈ L, free q.base) (hF : va_F A1 st₀ t) :
    H.size ≤ T'.heap.size ∧ (∀ q : Nat, q < H.size → ¬ A1 q → T'.heap[q]? = H[q]?) ∧ va_S A0 H0 T'.heap (locs ++ L) := by
  obtain ⟨hz, hk⟩ := hF
  rw [h0] at hz hk
  exact ⟨by rw [e1]; exact hz, fun q h1 h2 => by rw [e1]; exact hk q h1 h2,
    ⟨Nat.le_trans hS.1 (by rw [e1]; exact hz), fun q h1 h2 => by rw [e1, hk q (Nat.lt_of_lt_of_le h1 hS.1) (fun z => h2 (hA q (Nat.lt_of_lt_of_le h1 hS.1) z))]; exact hS.2.1 q h1 h2, fun q hq => by
      rcases List.mem_append.mp hq with h | h
      · exact hS.2.2 q h
      · exact hf _ (hL q h)⟩⟩
theorem vx_calli {S SX : Type} {post : Int32 → S → Prop} {px : SX → Prop} {B : S → State → Prop} {BX : String → SX → State → Prop} {AX : Nat → Prop} (hr : vx_Run p l e R s m args below meth c H locs cells slots mc ms (F0 m pc ls st0) rest (va_Qi post B A1 a) (vx_X px BX AX) free) (hS : va_S A0 H0 H locs) (hA : ∀ q, q < H.size → A1 q → A0 q) (hf : ∀ q, free q → A0 q) (hAX : ∀ q, q < H.size → AX q → A0 q)
    (kx : ∀ (E : String) (ce : Cell) (q9 : Addr) (u : SX) (t : State) (H1 : Heap) (locs1 : List Loc), t.heap = H1 → s.vm.Alike t.vm → px u → BX E u t → H.size ≤ H1.size → (∀ q : Nat, q < H.size → ¬ AX q → H1[q]? = H[q]?) → va_S A0 H0 H1 locs1 → H1[q9]? = some ce → ce.vm = .none → s.vm.findClass E = some ce.cls → vx_W p l e R s m args below meth c H1 locs1 (cells + mc) (slots + ms) Q (F0 m pc ls rest) q9)
    (kk : ∀ (r : Int32) (u : S) (t : State) (H1 : Heap) (locs1 : List Loc), t.heap = H1 → s.vm.Alike t.vm → post r u → B u t → H.size ≤ H1.size → (∀ q : Nat, q < H.size → ¬ A1 q → H1[q]? = H[q]?) → va_S A0 H0 H1 locs1 → W p l e R s m args below meth c H1 locs1 (cells + mc) (slots + ms) Q (F0 m (pc + 3) ls (.int r :: rest))) : W p l e R s m args below meth c H locs cells slots Q (F0 m pc ls st0) := by
  intro T hT X
  rcases hr T hT X with ⟨v, st₀, t, T', L, h0, X', hL, e1, e2, ⟨⟨r, u, hv, hp, hb⟩, hF⟩, st⟩ | ⟨q, st₀, t, T', L, E, ce, h0, X', hL, e1, e2, ⟨u, hp, hb, hF⟩, hce, hcv, hcl, st⟩
  · cases hv
    obtain ⟨k1, k2, k3⟩ := vx_keep h0 e1 hS hA hf hL hF
    obtain ⟨t2, a1, b1⟩ := kk r u t T'.heap (locs ++ L) e1.symm (by rw [← e2]; exact X'.warmed.alike) hp hb k1 k2 k3 T' rfl X'
    exact ⟨t2, st t2 a1, b1⟩
  · obtain ⟨k1, k2, k3⟩ := vx_keep h0 e1 hS hAX hf hL hF
    obtain ⟨t2, a1, b1⟩ := kx E ce q u t T'.heap (locs ++ L) e1.symm (by rw [← e2]; exact X'.warmed.alike) hp hb k1 k2 k3 (by rw [e1]; exact hce) hcv hcl T' rfl X'
    exact ⟨t2, st.trans a1, b1⟩
theorem vx_calll {S SX : Type} {post : Int64 → S → Prop} {px : SX → Prop} {B : S → State → Prop} {BX : String → SX → State → Prop} {AX : Nat → Prop} (hr : vx_Run p l e R s m args below meth c H locs cells slots mc ms (F0 m pc ls st0) rest (va_Ql post B A1 a) (vx_X px BX AX) free) (hS : va_S A0 H0 H locs) (hA : ∀ q, q < H.size → A1 q → A0 q) (hf : ∀ q, free q → A0 q) (hAX : ∀ q, q < H.size → AX q → A0 q)
    (kx : ∀ (E : String) (ce : Cell) (q9 : Addr) (u : SX) (t : State) (H1 : Heap) (locs1 : List Loc), t.heap = H1 → s.vm.Alike t.vm → px u → BX E u t → H.size ≤ H1.size → (∀ q : Nat, q < H.size → ¬ AX q → H1[q]? = H[q]?) → va_S A0 H0 H1 locs1 → H1[q9]? = some ce → ce.vm = .none → s.vm.findClass E = some ce.cls → vx_W p l e R s m args below meth c H1 locs1 (cells + mc) (slots + ms) Q (F0 m pc ls rest) q9)
    (kk : ∀ (r : Int64) (u : S) (t : State) (H1 : Heap) (locs1 : List Loc), t.heap = H1 → s.vm.Alike t.vm → post r u → B u t → H.size ≤ H1.size → (∀ q : Nat, q < H.size → ¬ A1 q → H1[q]? = H[q]?) → va_S A0 H0 H1 locs1 → W p l e R s m args below meth c H1 locs1 (cells + mc) (slots + ms) Q (F0 m (pc + 3) ls (.long r :: rest))) : W p l e R s m args below meth c H locs cells slots Q (F0 m pc ls st0) := by
  intro T hT X
  rcases hr T hT X with ⟨v, st₀, t, T', L, h0, X', hL, e1, e2, ⟨⟨r, u, hv, hp, hb⟩, hF⟩, st⟩ | ⟨q, st₀, t, T', L, E, ce, h0, X', hL, e1, e2, ⟨u, hp, hb, hF⟩, hce, hcv, hcl, st⟩
  · cases hv
    obtain ⟨k1, k2, k3⟩ := vx_keep h0 e1 hS hA hf hL hF
    obtain ⟨t2, a1, b1⟩ := kk r u t T'.heap (locs ++ L) e1.symm (by rw [← e2]; exact X'.warmed.alike) hp hb k1 k2 k3 T' rfl X'
    exact ⟨t2, st t2 a1, b1⟩
  · obtain ⟨k1, k2, k3⟩ := vx_keep h0 e1 hS hAX hf hL hF
    obtain ⟨t2, a1, b1⟩ := kx E ce q u t T'.heap (locs ++ L) e1.symm (by rw [← e2]; exact X'.warmed.alike) hp hb k1 k2 k3 (by rw [e1]; exact hce) hcv hcl T' rfl X'
    exact ⟨t2, st.trans a1, b1⟩
theorem vx_callf {S SX : Type} {post : UInt32 → S → Prop} {px : SX → Prop} {B : S → State → Prop} {BX : String → SX → State → Prop} {AX : Nat → Prop} (hr : vx_Run p l e R s m args below meth c H locs cells slots mc ms (F0 m pc ls st0) rest (va_Qf post B A1 a) (vx_X px BX AX) free) (hS : va_S A0 H0 H locs) (hA : ∀ q, q < H.size → A1 q → A0 q) (hf : ∀ q, free q → A0 q) (hAX : ∀ q, q < H.size → AX q → A0 q)
    (kx : ∀ (E : String) (ce : Cell) (q9 : Addr) (u : SX) (t : State) (H1 : Heap) (locs1 : List Loc), t.heap = H1 → s.vm.Alike t.vm → px u → BX E u t → H.size ≤ H1.size → (∀ q : Nat, q < H.size → ¬ AX q → H1[q]? = H[q]?) → va_S A0 H0 H1 locs1 → H1[q9]? = some ce → ce.vm = .none → s.vm.findClass E = some ce.cls → vx_W p l e R s m args below meth c H1 locs1 (cells + mc) (slots + ms) Q (F0 m pc ls rest) q9)
    (kk : ∀ (r : UInt32) (u : S) (t : State) (H1 : Heap) (locs1 : List Loc), t.heap = H1 → s.vm.Alike t.vm → post r u → B u t → H.size ≤ H1.size → (∀ q : Nat, q < H.size → ¬ A1 q → H1[q]? = H[q]?) → va_S A0 H0 H1 locs1 → W p l e R s m args below meth c H1 locs1 (cells + mc) (slots + ms) Q (F0 m (pc + 3) ls (.float r :: rest))) : W p l e R s m args below meth c H locs cells slots Q (F0 m pc ls st0) := by
  intro T hT X
  rcases hr T hT X with ⟨v, st₀, t, T', L, h0, X', hL, e1, e2, ⟨⟨r, u, hv, hp, hb⟩, hF⟩, st⟩ | ⟨q, st₀, t, T', L, E, ce, h0, X', hL, e1, e2, ⟨u, hp, hb, hF⟩, hce, hcv, hcl, st⟩
  · cases hv
    obtain ⟨k1, k2, k3⟩ := vx_keep h0 e1 hS hA hf hL hF
    obtain ⟨t2, a1, b1⟩ := kk r u t T'.heap (locs ++ L) e1.symm (by rw [← e2]; exact X'.warmed.alike) hp hb k1 k2 k3 T' rfl X'
    exact ⟨t2, st t2 a1, b1⟩
  · obtain ⟨k1, k2, k3⟩ := vx_keep h0 e1 hS hAX hf hL hF
    obtain ⟨t2, a1, b1⟩ := kx E ce q u t T'.heap (locs ++ L) e1.symm (by rw [← e2]; exact X'.warmed.alike) hp hb k1 k2 k3 (by rw [e1]; exact hce) hcv hcl T' rfl X'
    exact ⟨t2, st.trans a1, b1⟩
theorem vx_calld {S SX : Type} {post : UInt64 → S → Prop} {px : SX → Prop} {B : S → State → Prop} {BX : String → SX → State → Prop} {AX : Nat → Prop} (hr : vx_Run p l e R s m args below meth c H locs cells slots mc ms (F0 m pc ls st0) rest (va_Qd post B A1 a) (vx_X px BX AX) free) (hS : va_S A0 H0 H locs) (hA : ∀ q, q < H.size → A1 q → A0 q) (hf : ∀ q, free q → A0 q) (hAX : ∀ q, q < H.size → AX q → A0 q)
    (kx : ∀ (E : String) (ce : Cell) (q9 : Addr) (u : SX) (t : State) (H1 : Heap) (locs1 : List Loc), t.heap = H1 → s.vm.Alike t.vm → px u → BX E u t → H.size ≤ H1.size → (∀ q : Nat, q < H.size → ¬ AX q → H1[q]? = H[q]?) → va_S A0 H0 H1 locs1 → H1[q9]? = some ce → ce.vm = .none → s.vm.findClass E = some ce.cls → vx_W p l e R s m args below meth c H1 locs1 (cells + mc) (slots + ms) Q (F0 m pc ls rest) q9)
    (kk : ∀ (r : UInt64) (u : S) (t : State) (H1 : Heap) (locs1 : List Loc), t.heap = H1 → s.vm.Alike t.vm → post r u → B u t → H.size ≤ H1.size → (∀ q : Nat, q < H.size → ¬ A1 q → H1[q]? = H[q]?) → va_S A0 H0 H1 locs1 → W p l e R s m args below meth c H1 locs1 (cells + mc) (slots + ms) Q (F0 m (pc + 3) ls (.double r :: rest))) : W p l e R s m args below meth c H locs cells slots Q (F0 m pc ls st0) := by
  intro T hT X
  rcases hr T hT X with ⟨v, st₀, t, T', L, h0, X', hL, e1, e2, ⟨⟨r, u, hv, hp, hb⟩, hF⟩, st⟩ | ⟨q, st₀, t, T', L, E, ce, h0, X', hL, e1, e2, ⟨u, hp, hb, hF⟩, hce, hcv, hcl, st⟩
  · cases hv
    obtain ⟨k1, k2, k3⟩ := vx_keep h0 e1 hS hA hf hL hF
    obtain ⟨t2, a1, b1⟩ := kk r u t T'.heap (locs ++ L) e1.symm (by rw [← e2]; exact X'.warmed.alike) hp hb k1 k2 k3 T' rfl X'
    exact ⟨t2, st t2 a1, b1⟩
  · obtain ⟨k1, k2, k3⟩ := vx_keep h0 e1 hS hAX hf hL hF
    obtain ⟨t2, a1, b1⟩ := kx E ce q u t T'.heap (locs ++ L) e1.symm (by rw [← e2]; exact X'.warmed.alike) hp hb k1 k2 k3 (by rw [e1]; exact hce) hcv hcl T' rfl X'
    exact ⟨t2, st.trans a1, b1⟩
theorem vx_callv {S SX : Type} {post : S → Prop} {px : SX → Prop} {B : S → State → Prop} {BX : String → SX → State → Prop} {AX : Nat → Prop} (hr : vx_Run p l e R s m args below meth c H locs cells slots mc ms (F0 m pc ls st0) rest (va_Qv post B A1 a) (vx_X px BX AX) free) (hS : va_S A0 H0 H locs) (hA : ∀ q, q < H.size → A1 q → A0 q) (hf : ∀ q, free q → A0 q) (hAX : ∀ q, q < H.size → AX q → A0 q)
    (kx : ∀ (E : String) (ce : Cell) (q9 : Addr) (u : SX) (t : State) (H1 : Heap) (locs1 : List Loc), t.heap = H1 → s.vm.Alike t.vm → px u → BX E u t → H.size ≤ H1.size → (∀ q : Nat, q < H.size → ¬ AX q → H1[q]? = H[q]?) → va_S A0 H0 H1 locs1 → H1[q9]? = some ce → ce.vm = .none → s.vm.findClass E = some ce.cls → vx_W p l e R s m args below meth c H1 locs1 (cells + mc) (slots + ms) Q (F0 m pc ls rest) q9)
    (kk : ∀ (u : S) (t : State) (H1 : Heap) (locs1 : List Loc), t.heap = H1 → s.vm.Alike t.vm → post u → B u t → H.size ≤ H1.size → (∀ q : Nat, q < H.size → ¬ A1 q → H1[q]? = H[q]?) → va_S A0 H0 H1 locs1 → W p l e R s m args below meth c H1 locs1 (cells + mc) (slots + ms) Q (F0 m (pc + 3) ls (rest))) : W p l e R s m args below meth c H locs cells slots Q (F0 m pc ls st0) := by
  intro T hT X
  rcases hr T hT X with ⟨v, st₀, t, T', L, h0, X', hL, e1, e2, ⟨⟨u, hv, hp, hb⟩, hF⟩, st⟩ | ⟨q, st₀, t, T', L, E, ce, h0, X', hL, e1, e2, ⟨u, hp, hb, hF⟩, hce, hcv, hcl, st⟩
  · cases hv
    obtain ⟨k1, k2, k3⟩ := vx_keep h0 e1 hS hA hf hL hF
    obtain ⟨t2, a1, b1⟩ := kk u t T'.heap (locs ++ L) e1.symm (by rw [← e2]; exact X'.warmed.alike) hp hb k1 k2 k3 T' rfl X'
    exact ⟨t2, st t2 a1, b1⟩
  · obtain ⟨k1, k2, k3⟩ := vx_keep h0 e1 hS hAX hf hL hF
    obtain ⟨t2, a1, b1⟩ := kx E ce q u t T'.heap (locs ++ L) e1.symm (by rw [← e2]; exact X'.warmed.alike) hp hb k1 k2 k3 (by rw [e1]; exact hce) hcv hcl T' rfl X'
    exact ⟨t2, st.trans a1, b1⟩
/-- caught by the row x of this method's table; the rows ahead don't take it -/
theorem vx_catch {own name : String} {E : String} {ce : Cell} {q : Addr} (hown : s.vm.findClass own = some m.cls) (pre : List ExceptionTableEntry) (x : ExceptionTableEntry) (suf : List ExceptionTableEntry) (hsplit : c.exceptionTable.toList = pre ++ x :: suf)
    (hpass : ∀ z ∈ pre, covers z pc = false ∨ (z.catchType ≠ 0 ∧ ∃ nm : String, (Cond.classLink own z.catchType nm).before args s = true ∧ va_Nc E nm s)) (hx : covers x pc = true) (h0 : x.catchType ≠ 0)
    (hlink : (Cond.classLink own x.catchType name).before args s = true) (hcast : (Cond.castable E name).before args s = true) (hcell : H[q]? = some ce) (hv : ce.vm = .none) (hcl : s.vm.findClass E = some ce.cls)
    (kk : W p l e R s m args below meth c H locs cells slots Q (F0 m x.handlerPc ls [.ref q])) : vx_W p l e R s m args below meth c H locs cells slots Q (F0 m pc ls rest) q := by
  intro T hT X
  have hpl : e.platform.magicAccessors = ({} : Platform).magicAccessors := by rw [X.admits.platform]
  obtain ⟨c3, c4, hc3, hc4, hasg⟩ := Cond.castable_spec hcast
  cases Option.some.inj (hc3.symm.trans hcl)
  obtain ⟨c5, hc5, hcl5⟩ := Cond.classLink_spec hown hlink e.platform hpl
  cases Option.some.inj (hc4.symm.trans hc5)
  obtain ⟨vm', X', st⟩ := X.thenCaughtThrough q (g := F0 m pc ls rest) rfl (Steps.refl _) (by rw [hT]; exact hcell) (by rw [hv]; rfl) (by obtain ⟨k9, h9, -⟩ := Vm.findClass_spec hcl; exact ⟨k9, h9⟩) pre x suf hsplit
    (fun z hz => by
      rcases hpass z hz with h | ⟨hz0, nm, hl1, hn1⟩
      · exact Or.inl h
      · obtain ⟨c6, hc6, hcl6⟩ := Cond.classLink_spec hown hl1 e.platform hpl
        obtain ⟨a8, b8, h1, h2, h3⟩ := hn1
        cases Option.some.inj (h1.symm.trans hcl)
        cases Option.some.inj (h2.symm.trans hc6)
        exact Or.inr ⟨hz0, _, hcl6, h3⟩) hx (Or.inr ⟨h0, c4, hcl5, hasg⟩)
  obtain ⟨t, a1, b1⟩ := kk (T.setVm vm') hT X'
  exact ⟨t, st.trans a1, b1⟩
end Rows
section Ends
variable {p : Program} {l : Launch} {e : Env} {R : Room} {s : State} {m : MethodId} {args : Array Value} {below : List Frame} {meth : Method} {c : Code} {H : Heap} {locs : List Loc} {cells slots : Nat} {Q : State → Prop}
variable {mc ms : Nat} {free : Addr → Prop} {A0 A1 : Nat → Prop} {H0 : Heap} {a : Array Value} {ls : Array Slot} {st0 rest : List Value}
variable {Qc : Array Value → State → Outcome → State → Prop} {XC : String → State → State → Prop}
/-- what a body that may throw owes at its end -/
def vx_MQ (below : List Frame) (Qc : Array Value → State → Outcome → State → Prop) (XC : String → State → State → Prop) (a : Array Value) (s : State) (mc ms : Nat) (free : Addr → Prop) : State → Prop := fun t =>
  ∃ o, t.status = .running ∧ Ended t below o ∧ vx_Q Qc XC mc ms free a s o t
theorem vx_ret {g : JFrame} {mc ms : Nat} (k : W p l e R s m args below meth c H locs cells slots (MQ below Qc args s mc ms free) g) : W p l e R s m args below meth c H locs cells slots (vx_MQ below Qc XC args s mc ms free) g := by
  intro T hT X
  obtain ⟨t, a1, o, b1, b2, b3, b4⟩ := k T hT X
  exact ⟨t, a1, o, b1, b2, Or.inl ⟨b3, b4⟩⟩
/-- not caught here: it goes on to the caller -/
theorem vx_widen {g : JFrame} {q : Addr} {k n : Nat} (h1 : cells ≤ k) (h2 : slots ≤ n) (kk : vx_W p l e R s m args below meth c H locs k n Q g q) : vx_W p l e R s m args below meth c H locs cells slots Q g q := fun T hT X => kk T hT (stand_widen X h1 h2)
theorem vx_out {pc : Nat} {E : String} {ce : Cell} {q : Addr} {mc ms : Nat} (hout : ∀ x ∈ c.exceptionTable.toList, covers x pc = false) (hlocks : meth.locks = false) (hcell : H[q]? = some ce) (hv : ce.vm = .none) (hcl : s.vm.findClass E = some ce.cls)
    (hx : ∀ t : State, t.heap = H → s.vm.Alike t.vm → XC E s t) (hf : ∀ z ∈ locs, free z.base) (hc : cells ≤ mc) (hs : slots ≤ ms) :
    vx_W p l e R s m args below meth c H locs cells slots (vx_MQ below Qc XC args s mc ms free) (F0 m pc ls rest) q := by
  intro T hT X
  obtain ⟨st1, hrun, hend, hW, hsm⟩ := X.leaveThrown q (g := F0 m pc ls rest) rfl rfl rfl hout hlocks
  have hcell9 : (T.setFrames (.throwing q :: below)).heap[q]? = some ce := by
    show T.heap[q]? = some ce
    rw [hT]; exact hcell
  exact ⟨_, st1, .threw q, hrun, hend, Or.inr ⟨q, rfl, E, ce, locs, hx _ hT hW.alike, hcell9, hv, hcl, hW, hsm.mono hc hs, hf⟩⟩
theorem vx_frame {U : State} {k n : Nat} (h : s.sameButNew ({ U with vm := s.vm } : State) locs k n) : s.heap.size ≤ U.heap.size ∧ ∀ q : Nat, q < s.heap.size → (∀ z ∈ locs, z.base ≠ q) → U.heap[q]? = s.heap[q]? := by
  obtain ⟨-, h2, -, -, -, h6⟩ := h
  refine ⟨h2, fun q hq hz => ?_⟩
  obtain ⟨c9, e1, e2, e3, e4⟩ := h6 q _ (Array.getElem?_eq_getElem hq)
  have hs : c9.slots = (s.heap[q]).slots := Array.ext_getElem? fun i => e4 i fun hm => hz _ hm rfl
  have h9 : c9 = s.heap[q] := by
    rw [hs] at e2
    exact e2
  have e5 : U.heap[q]? = some c9 := e1
  rw [e5, h9, Array.getElem?_eq_getElem hq]
/-- the words of a throw but the four that speak of the heap -/
def vx_no (w : Cond) : Bool := decide (w ≠ .isRef (.static Bundle.tN "UNASSIGNED_STACK" Bundle.steD)) && decide (w ≠ .isRef (.static Bundle.tN "SUPPRESSED_SENTINEL" Bundle.listD)) && decide (w ≠ .laysStatic Bundle.tN "UNASSIGNED_STACK" Bundle.steD) && decide (w ≠ .laysStatic Bundle.tN "SUPPRESSED_SENTINEL" Bundle.listD)
def vx_at0 (own : String) (ic : Nat) (X : String) (names : List String) : List Cond := (Bundle.ownAtoms0 own ic X names).filter vx_no
def vx_atS (own : String) (ic : Nat) (X : String) (names : List String) : List Cond := (Bundle.ownAtoms own ic X names).filter vx_no
/-- a word that the tables alone decide, or a good one -/
def vx_ot (w : Cond) : Bool := w.onTables || goodWord w
theorem vx_ot_at {args a' : Array Value} {s U : State} {w : Cond} (hW : s.WarmedH U.vm) (hvm : s.vm = U.vm) (hg : vx_ot w = true) (h : w.before args s = true) : w.before a' U = true := by
  simp only [vx_ot, Bool.or_eq_true] at hg
  rcases hg with hg | hg
  · exact va_tabs hg hvm h
  · exact word_at hW (good_of_word hg) h
/-- a list's words: the good ones out of the method's own list, the others by premises of their own -/
theorem vx_hat {args : Array Value} {s : State} {L B : List Cond} (h1 : ∀ w ∈ L.filter goodWord, w.before args s = true) (h2 : ∀ w ∈ L.filter (fun w => !goodWord w), w ∈ B) (h3 : ∀ w ∈ B, w.before args s = true) : ∀ w ∈ L, w.before args s = true := by
  intro w hw
  by_cases g : goodWord w = true
  · exact h1 w (List.mem_filter.mpr ⟨hw, g⟩)
  · refine h3 w (h2 w (List.mem_filter.mpr ⟨hw, ?_⟩))
    show (!goodWord w) = true
    cases hgw : goodWord w
    · rfl
    · exact absurd hgw g
theorem vx_c {args : Array Value} {s : State} {w : Cond} {B : List Cond} (h : w.before args s = true) (t : ∀ w ∈ B, w.before args s = true) : ∀ w' ∈ w :: B, w'.before args s = true := fun w' h' => (List.mem_cons.mp h').elim (fun e => by rw [e]; exact h) (t w')
theorem vx_n {args : Array Value} {s : State} : ∀ w ∈ ([] : List Cond), w.before args s = true := fun _ h => nomatch h
theorem vx_own {args : Array Value} {s : State} {L : List Cond} (h1 : ∀ w ∈ L.filter vx_no, w.before args s = true)
    (hU : (Cond.isRef (.static Bundle.tN "UNASSIGNED_STACK" Bundle.steD)).before args s = true) (hN : (Cond.isRef (.static Bundle.tN "SUPPRESSED_SENTINEL" Bundle.listD)).before args s = true)
    (lU : (Cond.laysStatic Bundle.tN "UNASSIGNED_STACK" Bundle.steD).before args s = true) (lN : (Cond.laysStatic Bundle.tN "SUPPRESSED_SENTINEL" Bundle.listD).before args s = true) : ∀ w ∈ L, w.before args s = true := by
  intro w hw
  by_cases e1 : w = .isRef (.static Bundle.tN "UNASSIGNED_STACK" Bundle.steD)
  · rw [e1]; exact hU
  · by_cases e2 : w = .isRef (.static Bundle.tN "SUPPRESSED_SENTINEL" Bundle.listD)
    · rw [e2]; exact hN
    · by_cases e3 : w = .laysStatic Bundle.tN "UNASSIGNED_STACK" Bundle.steD
      · rw [e3]; exact lU
      · by_cases e4 : w = .laysStatic Bundle.tN "SUPPRESSED_SENTINEL" Bundle.listD
        · rw [e4]; exact lN
        · exact h1 w (List.mem_filter.mpr ⟨hw, by unfold vx_no; rw [decide_eq_true e1, decide_eq_true e2, decide_eq_true e3, decide_eq_true e4]; rfl⟩)
/-- where a static field lies, its class's statics cell in H -/
def vx_L (C n d : String) (A : Nat → Prop) (U : State) (H : Heap) : Prop := ∃ (c : ClassId) (k : Class) (i : Nat) (f : Field) (a : Nat) (cell : Cell), U.vm.findClass C = some c ∧ U.fieldFound? C n d = some (c, k, i, f) ∧ f.isStatic = true ∧ k.statics = some a ∧ H[a]? = some cell ∧ cell.vm.isStatics = true ∧ cell.cls = c ∧ f.slot < cell.slots.size ∧ k.staticTypes[f.slot]? = some f.type ∧ ¬ A a
theorem vx_L.moved {C n d : String} {A : Nat → Prop} {u U : State} {H : Heap} (hvm : u.vm.Alike U.vm) (h : vx_L C n d A u H) : vx_L C n d A U H := by
  obtain ⟨c, k, i, f, a, cell, h1, h2, h3, h4, h5, h6, h7, h8, h9, h10⟩ := h
  obtain ⟨k', hi', he⟩ := State.fieldFound?_setVm hvm h2
  exact ⟨c, k', i, f, a, cell, by rw [hvm.findClass]; exact h1, hi', h3, by rw [he]; exact h4, h5, h6, h7, h8, by rw [he]; exact h9, h10⟩
theorem vx_L.kept {C n d : String} {A : Nat → Prop} {U : State} {H H1 : Heap} (h : vx_L C n d A U H) (hq : ∀ a : Nat, a < H.size → ¬ A a → H1[a]? = H[a]?) : vx_L C n d A U H1 := by
  obtain ⟨c, k, i, f, a, cell, h1, h2, h3, h4, h5, h6, h7, h8, h9, h10⟩ := h
  exact ⟨c, k, i, f, a, cell, h1, h2, h3, h4, by rw [hq a (Array.getElem?_eq_some_iff.mp h5).1 h10]; exact h5, h6, h7, h8, h9, h10⟩
theorem vx_L.narrow {C n d : String} {A B : Nat → Prop} {U : State} {H : Heap} (h : vx_L C n d A U H) (hAB : ∀ q, B q → A q) : vx_L C n d B U H := by
  obtain ⟨c, k, i, f, a, cell, h1, h2, h3, h4, h5, h6, h7, h8, h9, h10⟩ := h
  exact ⟨c, k, i, f, a, cell, h1, h2, h3, h4, h5, h6, h7, h8, h9, fun z => h10 (hAB _ z)⟩
theorem vx_L.word {C n d : String} {A : Nat → Prop} {s : State} {args : Array Value} (h : vx_L C n d A s s.heap) : (Cond.laysStatic C n d).before args s = true := by
  obtain ⟨c, k, i, f, a, cell, h1, h2, h3, h4, h5, h6, h7, h8, h9, -⟩ := h
  show (Cond.laysStatic C n d).holds args s none s [] = true
  exact Cond.laysStatic_of h1 h2 h3 h4 h5 h6 h7 h8 h9
/-- .. and what it holds: null or some reference -/
def vx_Zq (C n d : String) (A : Nat → Prop) (U : State) (H : Heap) : Prop := va_Zq C n d A U H ∧ vx_L C n d A U H
theorem vx_Zq.moved {C n d : String} {A : Nat → Prop} {u U : State} {H : Heap} (hvm : u.vm.Alike U.vm) (h : vx_Zq C n d A u H) : vx_Zq C n d A U H := ⟨va_Zq.moved hvm h.1, vx_L.moved hvm h.2⟩
theorem vx_Zq.kept {C n d : String} {A : Nat → Prop} {U : State} {H H1 : Heap} (h : vx_Zq C n d A U H) (hq : ∀ a : Nat, a < H.size → ¬ A a → H1[a]? = H[a]?) : vx_Zq C n d A U H1 := ⟨va_Zq.kept h.1 hq, vx_L.kept h.2 hq⟩
theorem vx_Zq.narrow {C n d : String} {A B : Nat → Prop} {U : State} {H : Heap} (h : vx_Zq C n d A U H) (hAB : ∀ q, B q → A q) : vx_Zq C n d B U H := ⟨va_Zq.narrow h.1 hAB, vx_L.narrow h.2 hAB⟩
theorem vx_Zqof {args : Array Value} {s : State} {C n d : String} {A : Nat → Prop} (hl : (Cond.laysStatic C n d).before args s = true) (hini : (Cond.initialized C).before args s = true) (h : (Cond.isRef (.static C n d)).before args s = true) (hA : ∀ a : Nat, a < s.heap.size → ¬ A a) : vx_Zq C n d A s s.heap := by
  refine ⟨va_Zqof hl hini h hA, ?_⟩
  obtain ⟨c, k, i, f, a, cell, h1, h2, h3, h4, h5, h6, h7, h8, h9⟩ := Cond.laysStatic_spec hl
  exact ⟨c, k, i, f, a, cell, h1, h2, h3, h4, h5, h6, h7, h8, h9, hA a (Array.getElem?_eq_some_iff.mp h5).1⟩
theorem vx_isRef {C n d : String} {v : Value} {A : Nat → Prop} {s : State} {args : Array Value} (h : va_Z C n d v A s s.heap) (hv : v.isRef = true) : (Cond.isRef (.static C n d)).before args s = true := by
  obtain ⟨cf, kf, fi, f, a, cell, h1, h2, h3, h4, h5, h6, h7, -⟩ := h
  have he : (Term.static C n d).eval args s none [] s = some v := by
    simp [Term.eval, State.fieldNamed?, h1, h2, h4, h5, h6, h7]
  simp only [Cond.before, Cond.holds, Cond.value, he]
  cases v <;> simp_all [Value.isRef]
theorem vx_isRefq {C n d : String} {A : Nat → Prop} {s : State} {args : Array Value} (h : va_Zq C n d A s s.heap) : (Cond.isRef (.static C n d)).before args s = true := by
  rcases h with h | ⟨t, h⟩
  · exact vx_isRef h rfl
  · exact vx_isRef h rfl
/-- the same frame, seen from here: as if the method were called anew in this heap -/
theorem vx_rebase {T : State} (X : Stand p l e R s m args below meth c T locs cells slots) {R' : Room} (hf : R'.frames ≤ R.frames) (hl : R'.locals ≤ R.locals) (hc : cells + R'.cells ≤ R.cells) (hs : slots + R'.slots ≤ R.slots) :
    Stand p l e R' ((T.setVm s.vm).setFrames (.invoking m args :: below)) m args below meth c T [] 0 0 := by
  have htop : (T.setVm s.vm).topJava?.isSome := X.here.top
  have hF : ((T.setVm s.vm).setFrames (.invoking m args :: below)).frames = .invoking m args :: below := State.frames_setFrames _ (State.cur_lt_of_top htop)
  obtain ⟨g₀, hg0⟩ := Option.isSome_iff_exists.mp htop
  obtain ⟨r, hr⟩ := State.topJava?_eq_some.mp hg0
  have hl9 : e.platform.stackLimits (T.setVm s.vm).me = e.platform.stackLimits s.me := X.limits
  have hb9 : (T.setVm s.vm).me.stackBytes = s.me.stackBytes := X.bytes
  refine ⟨X.admits, X.cas, X.clock, hF, ?_, X.hears, X.method, X.code, X.here, X.tail, X.warmed, ?_, ?_, ?_⟩
  · have h := X.room
    have hU : ((T.setVm s.vm).setFrames (.invoking m args :: below)).localsInUse = s.localsInUse := by
      rw [State.localsInUse_invoking hF (meth := meth) (c := c) X.method X.code, State.localsInUse_invoking X.frames X.method X.code]
    simp only [State.hasRoom, Bool.and_eq_true, decide_eq_true_eq] at h ⊢
    obtain ⟨⟨⟨⟨h1, h2, h3, h4, h5, h6⟩, h7⟩, h8⟩, h9⟩ := h
    rw [X.frames, List.length_cons] at h2 h3
    have q1 := X.heapSize
    have q2 := X.used
    simp only [hF, hU, List.length_cons, State.stackLimits_setFrames, State.stackBytes_setFrames, hl9, hb9]
    refine ⟨⟨⟨⟨by omega, by omega, by omega, by omega, by omega, h6⟩, ?_⟩, ?_⟩, X.book⟩
    · show T.heap.size + R'.cells ≤ e.platform.maxCells
      omega
    · show T.slotsUsed + R'.slots ≤ e.platform.maxSlots
      omega
  · rw [State.stackLimits_setFrames]; rfl
  · rw [State.stackBytes_setFrames]; rfl
  · refine ⟨?_, Nat.le_refl _, Nat.le_refl _, ?_, ?_, fun a c9 h9 => ⟨c9, h9, rfl, rfl, fun _ _ => rfl⟩⟩
    · obtain ⟨t, ht, -⟩ := State.frames_cons hr
      show T.setVm s.vm = { ((T.setVm s.vm).setFrames (.invoking m args :: below)).setFrames (T.setVm s.vm).frames with heap := T.heap, slotsUsed := T.slotsUsed }
      rw [State.setFrames_setFrames, State.setFrames_self ht]
      rfl
    · show T.slotsUsed = T.slotsUsed + ((T.heap.toList.drop T.heap.size).map (·.slots.size)).sum
      rw [List.drop_eq_nil_of_le (Nat.le_of_eq Array.length_toList)]
      rfl
    · show ((T.heap.toList.drop T.heap.size).map (·.slots.size)).sum ≤ 0
      rw [List.drop_eq_nil_of_le (Nat.le_of_eq Array.length_toList)]
      exact Nat.le_refl _
/-- 'throw new E()': new; dup; invokespecial; athrow -/
theorem vx_throw0 {cc : ByteArray} {pc : Nat} (hexec : p.tables.exec = Jvm.exec) (hb : c.code = cc) (hl : l.stackTraces = false) {own cls : String} {names : List String} {ik ic mc ms : Nat} {A : Nat → Prop}
    (hown : s.vm.findClass own = some m.cls) (hcls : Bundle.fit cls = true) (hnames : ∀ n ∈ names, Bundle.fit n = true)
    (hk : (Cond.classLink own ik cls).before args s = true) (hini : (Cond.initialized cls).before args s = true) (hat : ∀ w ∈ vx_at0 own ic cls names, w.before args s = true)
    (hgood : ∀ w ∈ Cond.classLink own ik cls :: Cond.initialized cls :: vx_at0 own ic cls names, vx_ot w = true)
    (hU : vx_Zq Bundle.tN "UNASSIGNED_STACK" Bundle.steD A s s.heap) (hN : vx_Zq Bundle.tN "SUPPRESSED_SENTINEL" Bundle.listD A s s.heap) (hS : va_S A s.heap H locs) (hsize : ls.size = c.maxLocals)
    (d0 : decode cc pc = .ok (.new ik, 3)) (d3 : decode cc (pc + 3) = .ok (.dup, 1)) (d4 : decode cc (pc + 4) = .ok (.invokespecial ic, 3)) (d7 : decode cc (pc + 7) = .ok (.athrow, 1))
    (hout : ∀ x ∈ c.exceptionTable.toList, covers x (pc + 7) = false)
    (hRframes : names.length + 3 < R.frames) (hRlocals : (rest.map fun v => v.category).sum + (13 * (names.length + 1) + 42) ≤ R.locals) (hRcells : cells + 1 ≤ R.cells) (hRslots : slots + 6 ≤ R.slots) (hlocks : meth.locks = false)
    (hx : ∀ t : State, s.vm.Alike t.vm → H.size ≤ t.heap.size → (∀ q : Nat, q < H.size → t.heap[q]? = H[q]?) → XC cls s t)
    (hf : ∀ z ∈ locs, free z.base) (hc : cells + 1 ≤ mc) (hs : slots + 6 ≤ ms) :
    W p l e R s m args below meth c H locs cells slots (vx_MQ below Qc XC args s mc ms free) (F0 m pc ls rest) := by
  intro T hT X
  have htr : e.platform.stackTraces = false := (show e.platform.stackTraces = l.stackTraces by rw [X.admits.platform]).trans hl
  have Y := vx_rebase X (R' := { frames := R.frames, locals := R.locals, cells := 1, slots := 6 }) (Nat.le_refl _) (Nat.le_refl _) hRcells hRslots
  obtain ⟨s', hA⟩ : ∃ z, z = (T.setVm s.vm).setFrames (.invoking m args :: below) := ⟨_, rfl⟩
  rw [← hA] at Y
  have hvm : s'.vm = s.vm := by rw [hA]; rfl
  have hhp : s'.heap = H := by rw [hA]; exact hT
  have hW0 : s.WarmedH s'.vm := by rw [hvm]; exact State.WarmedH.refl s
  have hat' : ∀ w ∈ vx_at0 own ic cls names, w.before args s' = true := fun w hw => vx_ot_at hW0 hvm.symm (hgood w (List.mem_cons_of_mem _ (List.mem_cons_of_mem _ hw))) (hat w hw)
  have hk' : (Cond.classLink own ik cls).before args s' = true := vx_ot_at hW0 hvm.symm (hgood _ List.mem_cons_self) hk
  have hini' : (Cond.initialized cls).before args s' = true := vx_ot_at hW0 hvm.symm (hgood _ (List.mem_cons_of_mem _ List.mem_cons_self)) hini
  have hU' : vx_Zq Bundle.tN "UNASSIGNED_STACK" Bundle.steD A s' s'.heap := by rw [hhp]; exact vx_Zq.moved hW0.alike (hU.kept hS.2.1)
  have hN' : vx_Zq Bundle.tN "SUPPRESSED_SENTINEL" Bundle.listD A s' s'.heap := by rw [hhp]; exact vx_Zq.moved hW0.alike (hN.kept hS.2.1)
  have h : ∀ w ∈ Bundle.ownAtoms0 own ic cls names, w.before args s' = true := vx_own hat' (vx_isRefq hU'.1) (vx_isRefq hN'.1) hU'.2.word hN'.2.word
  have hown' : s'.vm.findClass own = some m.cls := by rw [hvm]; exact hown
  have hins : (Cond.instantiable cls 6).before args s' = true := h _ (by simp [Bundle.ownAtoms0])
  obtain ⟨vm₁, cX, kX, hfX, hkX, -, -, X₁, st1⟩ := Y.newCold hexec (own := own) (C := cls) (index := ik) (n := 6) hown' hk' hins hini'
    (g := F0 m pc ls rest) rfl (by rw [hb]; exact d0) (Nat.le_refl _) (Nat.le_refl _)
  generalize hT1 : (T.setVm vm₁).pushCell { cls := cX, slots := kX.instanceTypes.map defaultValue, vm := .none } = T1 at X₁ st1
  have hcat : (Value.ref T.heap.size).category = 1 := rfl
  have hcellA : T1.heap[T.heap.size]? = some (freshCell cX kX) := by rw [← hT1]; exact State.heap_pushCell_size _ _
  have d3' : decode c.code (pc + 3) = .ok (.dup, 1) := by rw [hb]; exact d3
  obtain ⟨U, hsteps, hrun, hend, hW, hsame, ce, hce, hO⟩ := X₁.ctorThrow0 hexec htr (own := own) (cls := cls) (names := names) (ic := ic) hown' hcls hnames h (fun x hx => nomatch hx) hfX hkX hcellA (by rw [hhp, hT]; exact Nat.le_refl _)
    (g := { method := m, pc := pc + 4, locals := ls, stack := .ref T.heap.size :: .ref T.heap.size :: rest, locked := none }) rfl hsize rfl rfl (rest := rest) rfl
    (by rw [hb]; exact d4) (by rw [hb]; exact d7) hout hRframes (by simp only [List.map_cons, List.sum_cons, hcat]; omega) hlocks
  obtain ⟨f1, f2⟩ := vx_frame hsame
  rw [hhp] at f1 f2
  have hWs : s.WarmedH U.vm := State.WarmedH.trans hW0 hW
  have hcl : s.vm.findClass cls = some ce.cls := by
    have h9 := hO.cls
    rw [hvm] at h9
    exact h9
  have hall : s.sameButNew ({ U with vm := s.vm } : State) locs mc ms := by
    subst hA
    obtain ⟨e1, e2⟩ := hsame
    rw [State.setFrames_setFrames] at e1
    have h2 : (T.setVm s.vm).sameButNew ({ U with vm := s.vm } : State) [] (0 + 1) (0 + 6) := ⟨e1, e2⟩
    have h3 := X.same.trans h2
    rw [List.append_nil] at h3
    exact h3.mono hc hs
  refine ⟨U, ?_, .threw T.heap.size, hrun, hend, Or.inr ⟨T.heap.size, rfl, cls, ce, locs, hx U hWs.alike f1 (fun q hq => f2 q hq (fun z hz => nomatch hz)), hce, hO.vm, hcl, hWs, hall, hf⟩⟩
  refine st1 _ ?_
  show Steps p.tables e below (T1.setTop { method := m, pc := pc + 3, locals := ls, stack := .ref T.heap.size :: rest, locked := none }) _
  jvm_step X₁.here [X₁.here.top, hexec, d3', Value.category]
  exact hsteps
/-- 'throw new E("text")': new; dup; ldc; invokespecial; athrow -/
theorem vx_throwS {cc : ByteArray} {pc : Nat} (hexec : p.tables.exec = Jvm.exec) (hb : c.code = cc) (hl : l.stackTraces = false) {own cls text : String} {names : List String} {ik is ic mc ms sa : Nat} {A : Nat → Prop}
    (hown : s.vm.findClass own = some m.cls) (hcls : Bundle.fit cls = true) (hnames : ∀ n ∈ names, Bundle.fit n = true)
    (hk : (Cond.classLink own ik cls).before args s = true) (hini : (Cond.initialized cls).before args s = true) (hstr : vk_R own is text sa s) (hat : ∀ w ∈ vx_atS own ic cls names, w.before args s = true)
    (hgood : ∀ w ∈ Cond.classLink own ik cls :: Cond.initialized cls :: vx_atS own ic cls names, vx_ot w = true)
    (hU : vx_Zq Bundle.tN "UNASSIGNED_STACK" Bundle.steD A s s.heap) (hN : vx_Zq Bundle.tN "SUPPRESSED_SENTINEL" Bundle.listD A s s.heap) (hS : va_S A s.heap H locs) (hsize : ls.size = c.maxLocals)
    (d0 : decode cc pc = .ok (.new ik, 3)) (d3 : decode cc (pc + 3) = .ok (.dup, 1)) (d4 : decode cc (pc + 4) = .ok (.ldc is, 2)) (d6 : decode cc (pc + 6) = .ok (.invokespecial ic, 3)) (d9 : decode cc (pc + 9) = .ok (.athrow, 1))
    (hout : ∀ x ∈ c.exceptionTable.toList, covers x (pc + 9) = false)
    (hRframes : names.length + 3 < R.frames) (hRlocals : (rest.map fun v => v.category).sum + (13 * (names.length + 1) + 43) ≤ R.locals) (hRcells : cells + 1 ≤ R.cells) (hRslots : slots + 6 ≤ R.slots) (hlocks : meth.locks = false)
    (hx : ∀ t : State, s.vm.Alike t.vm → H.size ≤ t.heap.size → (∀ q : Nat, q < H.size → t.heap[q]? = H[q]?) → XC cls s t)
    (hf : ∀ z ∈ locs, free z.base) (hc : cells + 1 ≤ mc) (hs : slots + 6 ≤ ms) :
    W p l e R s m args below meth c H locs cells slots (vx_MQ below Qc XC args s mc ms free) (F0 m pc ls rest) := by
  intro T hT X
  have htr : e.platform.stackTraces = false := (show e.platform.stackTraces = l.stackTraces by rw [X.admits.platform]).trans hl
  have Y := vx_rebase X (R' := { frames := R.frames, locals := R.locals, cells := 1, slots := 6 }) (Nat.le_refl _) (Nat.le_refl _) hRcells hRslots
  obtain ⟨s', hA⟩ : ∃ z, z = (T.setVm s.vm).setFrames (.invoking m args :: below) := ⟨_, rfl⟩
  rw [← hA] at Y
  have hvm : s'.vm = s.vm := by rw [hA]; rfl
  have hhp : s'.heap = H := by rw [hA]; exact hT
  have hW0 : s.WarmedH s'.vm := by rw [hvm]; exact State.WarmedH.refl s
  have hat' : ∀ w ∈ vx_atS own ic cls names, w.before args s' = true := fun w hw => vx_ot_at hW0 hvm.symm (hgood w (List.mem_cons_of_mem _ (List.mem_cons_of_mem _ hw))) (hat w hw)
  have hk' : (Cond.classLink own ik cls).before args s' = true := vx_ot_at hW0 hvm.symm (hgood _ List.mem_cons_self) hk
  have hini' : (Cond.initialized cls).before args s' = true := vx_ot_at hW0 hvm.symm (hgood _ (List.mem_cons_of_mem _ List.mem_cons_self)) hini
  have hU' : vx_Zq Bundle.tN "UNASSIGNED_STACK" Bundle.steD A s' s'.heap := by rw [hhp]; exact vx_Zq.moved hW0.alike (hU.kept hS.2.1)
  have hN' : vx_Zq Bundle.tN "SUPPRESSED_SENTINEL" Bundle.listD A s' s'.heap := by rw [hhp]; exact vx_Zq.moved hW0.alike (hN.kept hS.2.1)
  have h : ∀ w ∈ Bundle.ownAtoms own ic cls names, w.before args s' = true := vx_own hat' (vx_isRefq hU'.1) (vx_isRefq hN'.1) hU'.2.word hN'.2.word
  have hown' : s'.vm.findClass own = some m.cls := by rw [hvm]; exact hown
  have hins : (Cond.instantiable cls 6).before args s' = true := h _ (by simp [Bundle.ownAtoms])
  obtain ⟨vm₁, cX, kX, hfX, hkX, -, -, X₁, st1⟩ := Y.newCold hexec (own := own) (C := cls) (index := ik) (n := 6) hown' hk' hins hini'
    (g := F0 m pc ls rest) rfl (by rw [hb]; exact d0) (Nat.le_refl _) (Nat.le_refl _)
  generalize hT1 : (T.setVm vm₁).pushCell { cls := cX, slots := kX.instanceTypes.map defaultValue, vm := .none } = T1 at X₁ st1
  have hcat : (Value.ref T.heap.size).category = 1 := rfl
  have hcellA : T1.heap[T.heap.size]? = some (freshCell cX kX) := by rw [← hT1]; exact State.heap_pushCell_size _ _
  have d3' : decode c.code (pc + 3) = .ok (.dup, 1) := by rw [hb]; exact d3
  have d4' : decode c.code (pc + 4) = .ok (.ldc is, 2) := by rw [hb]; exact d4
  have hstr' : vk_R own is text sa s' := vk_R.warm hW0 hstr
  obtain ⟨U, hsteps, hrun, hend, hW, hsame, ce, hce, hO⟩ := X₁.ctorThrowS hexec htr (own := own) (cls := cls) (names := names) (ic := ic) hown' hcls hnames h (fun x hx => nomatch hx) hfX hkX hcellA (by rw [hhp, hT]; exact Nat.le_refl _) (msg := .ref sa) rfl
    (g := { method := m, pc := pc + 6, locals := ls, stack := .ref sa :: .ref T.heap.size :: .ref T.heap.size :: rest, locked := none }) rfl hsize rfl rfl (rest := rest) rfl
    (by rw [hb]; exact d6) (by rw [hb]; exact d9) hout hRframes (by simp only [List.map_cons, List.sum_cons, hcat]; omega) hlocks
  obtain ⟨f1, f2⟩ := vx_frame hsame
  rw [hhp] at f1 f2
  have hWs : s.WarmedH U.vm := State.WarmedH.trans hW0 hW
  have hcl : s.vm.findClass cls = some ce.cls := by
    have h9 := hO.cls
    rw [hvm] at h9
    exact h9
  have hall : s.sameButNew ({ U with vm := s.vm } : State) locs mc ms := by
    subst hA
    obtain ⟨e1, e2⟩ := hsame
    rw [State.setFrames_setFrames] at e1
    have h2 : (T.setVm s.vm).sameButNew ({ U with vm := s.vm } : State) [] (0 + 1) (0 + 6) := ⟨e1, e2⟩
    have h3 := X.same.trans h2
    rw [List.append_nil] at h3
    exact h3.mono hc hs
  refine ⟨U, ?_, .threw T.heap.size, hrun, hend, Or.inr ⟨T.heap.size, rfl, cls, ce, locs, hx U hWs.alike f1 (fun q hq => f2 q hq (fun z hz => nomatch hz)), hce, hO.vm, hcl, hWs, hall, hf⟩⟩
  refine st1 _ ?_
  show Steps p.tables e below (T1.setTop { method := m, pc := pc + 3, locals := ls, stack := .ref T.heap.size :: rest, locked := none }) _
  jvm_step X₁.here [X₁.here.top, hexec, d3', Value.category]
  exact X₁.ldcString hexec (own := own) (text := text) (index := is) (a := sa) hown' hstr'.1 hstr'.2
    (g := { method := m, pc := pc + 4, locals := ls, stack := .ref T.heap.size :: .ref T.heap.size :: rest, locked := none }) rfl d4' _ hsteps
/-- 'throw new E("text")', the text by a wide index -/
theorem vx_throwSW {cc : ByteArray} {pc : Nat} (hexec : p.tables.exec = Jvm.exec) (hb : c.code = cc) (hl : l.stackTraces = false) {own cls text : String} {names : List String} {ik is ic mc ms sa : Nat} {A : Nat → Prop}
    (hown : s.vm.findClass own = some m.cls) (hcls : Bundle.fit cls = true) (hnames : ∀ n ∈ names, Bundle.fit n = true)
    (hk : (Cond.classLink own ik cls).before args s = true) (hini : (Cond.initialized cls).before args s = true) (hstr : vk_R own is text sa s) (hat : ∀ w ∈ vx_atS own ic cls names, w.before args s = true)
    (hgood : ∀ w ∈ Cond.classLink own ik cls :: Cond.initialized cls :: vx_atS own ic cls names, vx_ot w = true)
    (hU : vx_Zq Bundle.tN "UNASSIGNED_STACK" Bundle.steD A s s.heap) (hN : vx_Zq Bundle.tN "SUPPRESSED_SENTINEL" Bundle.listD A s s.heap) (hS : va_S A s.heap H locs) (hsize : ls.size = c.maxLocals)
    (d0 : decode cc pc = .ok (.new ik, 3)) (d3 : decode cc (pc + 3) = .ok (.dup, 1)) (d4 : decode cc (pc + 4) = .ok (.ldc_w is, 3)) (d7 : decode cc (pc + 7) = .ok (.invokespecial ic, 3)) (d10 : decode cc (pc + 10) = .ok (.athrow, 1))
    (hout : ∀ x ∈ c.exceptionTable.toList, covers x (pc + 10) = false)
    (hRframes : names.length + 3 < R.frames) (hRlocals : (rest.map fun v => v.category).sum + (13 * (names.length + 1) + 43) ≤ R.locals) (hRcells : cells + 1 ≤ R.cells) (hRslots : slots + 6 ≤ R.slots) (hlocks : meth.locks = false)
    (hx : ∀ t : State, s.vm.Alike t.vm → H.size ≤ t.heap.size → (∀ q : Nat, q < H.size → t.heap[q]? = H[q]?) → XC cls s t)
    (hf : ∀ z ∈ locs, free z.base) (hc : cells + 1 ≤ mc) (hs : slots + 6 ≤ ms) :
    W p l e R s m args below meth c H locs cells slots (vx_MQ below Qc XC args s mc ms free) (F0 m pc ls rest) := by
  intro T hT X
  have htr : e.platform.stackTraces = false := (show e.platform.stackTraces = l.stackTraces by rw [X.admits.platform]).trans hl
  have Y := vx_rebase X (R' := { frames := R.frames, locals := R.locals, cells := 1, slots := 6 }) (Nat.le_refl _) (Nat.le_refl _) hRcells hRslots
  obtain ⟨s', hA⟩ : ∃ z, z = (T.setVm s.vm).setFrames (.invoking m args :: below) := ⟨_, rfl⟩
  rw [← hA] at Y
  have hvm : s'.vm = s.vm := by rw [hA]; rfl
  have hhp : s'.heap = H := by rw [hA]; exact hT
  have hW0 : s.WarmedH s'.vm := by rw [hvm]; exact State.WarmedH.refl s
  have hat' : ∀ w ∈ vx_atS own ic cls names, w.before args s' = true := fun w hw => vx_ot_at hW0 hvm.symm (hgood w (List.mem_cons_of_mem _ (List.mem_cons_of_mem _ hw))) (hat w hw)
  have hk' : (Cond.classLink own ik cls).before args s' = true := vx_ot_at hW0 hvm.symm (hgood _ List.mem_cons_self) hk
  have hini' : (Cond.initialized cls).before args s' = true := vx_ot_at hW0 hvm.symm (hgood _ (List.mem_cons_of_mem _ List.mem_cons_self)) hini
  have hU' : vx_Zq Bundle.tN "UNASSIGNED_STACK" Bundle.steD A s' s'.heap := by rw [hhp]; exact vx_Zq.moved hW0.alike (hU.kept hS.2.1)
  have hN' : vx_Zq Bundle.tN "SUPPRESSED_SENTINEL" Bundle.listD A s' s'.heap := by rw [hhp]; exact vx_Zq.moved hW0.alike (hN.kept hS.2.1)
  have h : ∀ w ∈ Bundle.ownAtoms own ic cls names, w.before args s' = true := vx_own hat' (vx_isRefq hU'.1) (vx_isRefq hN'.1) hU'.2.word hN'.2.word
  have hown' : s'.vm.findClass own = some m.cls := by rw [hvm]; exact hown
  have hins : (Cond.instantiable cls 6).before args s' = true := h _ (by simp [Bundle.ownAtoms])
  obtain ⟨vm₁, cX, kX, hfX, hkX, -, -, X₁, st1⟩ := Y.newCold hexec (own := own) (C := cls) (index := ik) (n := 6) hown' hk' hins hini'
    (g := F0 m pc ls rest) rfl (by rw [hb]; exact d0) (Nat.le_refl _) (Nat.le_refl _)
  generalize hT1 : (T.setVm vm₁).pushCell { cls := cX, slots := kX.instanceTypes.map defaultValue, vm := .none } = T1 at X₁ st1
  have hcat : (Value.ref T.heap.size).category = 1 := rfl
  have hcellA : T1.heap[T.heap.size]? = some (freshCell cX kX) := by rw [← hT1]; exact State.heap_pushCell_size _ _
  have d3' : decode c.code (pc + 3) = .ok (.dup, 1) := by rw [hb]; exact d3
  have d4' : decode c.code (pc + 4) = .ok (.ldc_w is, 3) := by rw [hb]; exact d4
  have hstr' : vk_R own is text sa s' := vk_R.warm hW0 hstr
  obtain ⟨U, hsteps, hrun, hend, hW, hsame, ce, hce, hO⟩ := X₁.ctorThrowS hexec htr (own := own) (cls := cls) (names := names) (ic := ic) hown' hcls hnames h (fun x hx => nomatch hx) hfX hkX hcellA (by rw [hhp, hT]; exact Nat.le_refl _) (msg := .ref sa) rfl
    (g := { method := m, pc := pc + 7, locals := ls, stack := .ref sa :: .ref T.heap.size :: .ref T.heap.size :: rest, locked := none }) rfl hsize rfl rfl (rest := rest) rfl
    (by rw [hb]; exact d7) (by rw [hb]; exact d10) hout hRframes (by simp only [List.map_cons, List.sum_cons, hcat]; omega) hlocks
  obtain ⟨f1, f2⟩ := vx_frame hsame
  rw [hhp] at f1 f2
  have hWs : s.WarmedH U.vm := State.WarmedH.trans hW0 hW
  have hcl : s.vm.findClass cls = some ce.cls := by
    have h9 := hO.cls
    rw [hvm] at h9
    exact h9
  have hall : s.sameButNew ({ U with vm := s.vm } : State) locs mc ms := by
    subst hA
    obtain ⟨e1, e2⟩ := hsame
    rw [State.setFrames_setFrames] at e1
    have h2 : (T.setVm s.vm).sameButNew ({ U with vm := s.vm } : State) [] (0 + 1) (0 + 6) := ⟨e1, e2⟩
    have h3 := X.same.trans h2
    rw [List.append_nil] at h3
    exact h3.mono hc hs
  refine ⟨U, ?_, .threw T.heap.size, hrun, hend, Or.inr ⟨T.heap.size, rfl, cls, ce, locs, hx U hWs.alike f1 (fun q hq => f2 q hq (fun z hz => nomatch hz)), hce, hO.vm, hcl, hWs, hall, hf⟩⟩
  refine st1 _ ?_
  show Steps p.tables e below (T1.setTop { method := m, pc := pc + 3, locals := ls, stack := .ref T.heap.size :: rest, locked := none }) _
  jvm_step X₁.here [X₁.here.top, hexec, d3', Value.category]
  exact X₁.ldcStringW hexec (own := own) (text := text) (index := is) (a := sa) hown' hstr'.1 hstr'.2
    (g := { method := m, pc := pc + 4, locals := ls, stack := .ref T.heap.size :: .ref T.heap.size :: rest, locked := none }) rfl d4' _ hsteps
end Ends
section Bodies
variable {l : Launch}
theorem vx_ofW {y : MethodName} {ws ws' : List Cond} {rm : Room} {Pc : Array Value → State → Prop} {Qc : Array Value → State → Outcome → State → Prop} {XC : String → State → State → Prop} {mc ms : Nat} {free : Addr → Prop} {cc : ByteArray} {maxL : Nat} {ret : Option FieldType}
    (hy : plainName y.cls = true) (hw : ws = Cond.code y cc maxL ret :: ws')
    (body : ∀ p e s m args below meth c s₁, BodyLoose p l y (headSpec ws rm) cc maxL ret e s m args below meth c s₁ → c.maxLocals = maxL → (∀ x ∈ c.exceptionTable.toList, False) → Pc args s →
      W p l e (headSpec ws rm).room s m args below meth c s.heap [] 0 0 (vx_MQ below Qc XC args s mc ms free) (entryFrame m args maxL)) : vx_Met l y ws rm Pc Qc XC mc ms free := by
  refine MetFree.of_bodyS (code := cc) (maxLocals := maxL) (ret := ret) hy ?_ ?_
  · intro args s m h hn
    obtain ⟨meth, c, h1, h2, h3, h4, h5, h6, -, -⟩ := Cond.code_spec hn (atoms_spec (ws := ws) h _ (by rw [hw]; exact List.mem_cons_self))
    exact ⟨meth, c, h1, h2, h3, h4, h5, h6⟩
  · intro p e s m args below meth c s₁ B hml hP _
    have hh0 : s₁.heap = s.heap := by rw [B.state]; rfl
    have ht : ∀ x ∈ c.exceptionTable.toList, False := by
      obtain ⟨meth9, c9, h1, h2, -, -, -, -, h7, -⟩ := Cond.code_spec B.named (atoms_spec (ws := ws) B.pre _ (by rw [hw]; exact List.mem_cons_self))
      cases Option.some.inj (h1.symm.trans B.method)
      cases Option.some.inj (h2.symm.trans (Stand.of_body B).code)
      intro x hx
      rw [Array.isEmpty_iff.mp h7] at hx
      cases hx
    obtain ⟨t, a1, o, b1, b2, b3⟩ := body p e s m args below meth c s₁ B hml ht hP s₁ hh0 (Stand.of_body B)
    exact ⟨t, o, a1, b1, b2, b3⟩
/-- the table of a body with handlers -/
theorem vx_table {p : Program} {x y : MethodName} {S : Spec} {cc bytes : ByteArray} {maxL maxL' : Nat} {ret ret' : Option FieldType} {e : Env} {s s₁ : State} {m : MethodId} {args : Array Value} {below : List Frame} {meth : Method} {c : Code} {hh : List (Nat × Nat × Nat × Nat)}
    (B : BodyLoose p l y S cc maxL ret e s m args below meth c s₁) (h : (Cond.codeWith y bytes maxL' ret' hh).before args s = true) : c.exceptionTable.toList = tableOf hh := by
  obtain ⟨m9, meth9, c9, hn9, h1, h2, -, -, h6, -⟩ := Cond.codeWith_spec h
  cases Option.some.inj (hn9.symm.trans B.named)
  cases Option.some.inj (h1.symm.trans B.method)
  cases Option.some.inj (h2.symm.trans (Stand.of_body B).code)
  rw [← h6, table_eq]
end Bodies
end VXA
/-! ===== END ===== -/
/-! ===== BEGIN a static call of a method with an exception table ===== -/
section VXS
variable {p : Program} {l : Launch} {e : Env} {R : Room} {s : State} {m : MethodId} {args : Array Value} {below : List Frame} {meth : Method} {c : Code} {T : State} {H : Heap} {locs : List Loc} {cells slots : Nat}
abbrev vx_CSW (R : Room) (s : State) (args : Array Value) (own : String) (index : Nat) (y : MethodName) (bytes : ByteArray) (maxL : Nat) (ret : Option FieldType) (hh : List (Nat × Nat × Nat × Nat)) (ws : List Cond) (rm : Room) (mc ms n : Nat) : Prop :=
  (rm.cells = mc ∧ rm.slots = ms ∧ rm.frames + 1 ≤ R.frames ∧ 8 + (maxL + 11) + rm.locals ≤ R.locals ∧ (∀ w ∈ ws, ∀ (a' : Array Value) (U : State), s.WarmedH U.vm → w.before a' U = true) ∧ Cond.codeWith y bytes maxL ret hh ∈ ws) ∧
  (Cond.codeWith y bytes maxL ret hh).before args s = true ∧ (Cond.initialized y.cls).before args s = true ∧ (y.cls ≠ "java/lang/invoke/MethodHandle" ∧ y.cls ≠ "java/lang/invoke/VarHandle") ∧
  (∀ sig, parseMethodDescriptor y.desc = some sig → n = sig.parameters.length) ∧ (Cond.methodLink own index y).before args s = true ∧ (Cond.static y).before args s = true
theorem vx_cwSW {own : String} {index maxL mc ms : Nat} {y : MethodName} {bytes : ByteArray} {ret : Option FieldType} {hh : List (Nat × Nat × Nat × Nat)} {Ts ws ws' : List Cond} {rm : Room} (n : Nat) (ht : ∀ w ∈ Ts, w.before args s = true) (hT : GoodIn Ts (va_wsS own index y ws)) (hw : ws = Cond.codeWith y bytes maxL ret hh :: ws') (hrc : rm.cells = mc) (hrs : rm.slots = ms)
    (hd : y.cls ≠ "java/lang/invoke/MethodHandle" ∧ y.cls ≠ "java/lang/invoke/VarHandle" ∧ (parseMethodDescriptor y.desc).map (fun d => d.parameters.length) = some n) (hR : rm.frames + 1 ≤ R.frames ∧ 8 + (maxL + 11) + rm.locals ≤ R.locals) :
    vx_CSW R s args own index y bytes maxL ret hh ws rm mc ms n := by
  have ok : ∀ w ∈ va_wsS own index y ws, w.before args s = true := fun w h => ht w (hT w h).1
  have hG : GoodIn Ts ws := fun w h => hT w (by unfold va_wsS; exact List.mem_append_right _ h)
  have hc : Cond.codeWith y bytes maxL ret hh ∈ ws := by rw [hw]; exact List.mem_cons_self
  refine ⟨⟨hrc, hrs, hR.1, hR.2, pay_in ht hG, hc⟩, ht _ (hG _ hc).1, ok _ (by simp [va_wsS]), ⟨hd.1, hd.2.1⟩, fun sig h => ?_, ok _ (by simp [va_wsS]), ok _ (by simp [va_wsS])⟩
  have h2 := hd.2.2
  rw [h] at h2
  exact (Option.some.inj h2).symm
theorem vx_callSW (X : Stand p l e R s m args below meth c T locs cells slots) (hexec : p.tables.exec = Jvm.exec) {own : String} {index : Nat} {y : MethodName} {bytes : ByteArray} {maxL : Nat} {ret : Option FieldType} {hh : List (Nat × Nat × Nat × Nat)}
    (hown : s.vm.findClass own = some m.cls) (hlink : (Cond.methodLink own index y).before args s = true) (hstat : (Cond.static y).before args s = true) (hinit : (Cond.initialized y.cls).before args s = true)
    (hcode : (Cond.codeWith y bytes maxL ret hh).before args s = true) (hy : y.cls ≠ "java/lang/invoke/MethodHandle" ∧ y.cls ≠ "java/lang/invoke/VarHandle")
    {W9 : Nat} {Pre : Pt → Array Value → Prop} {Post : Pt → Array Value → Option Value → Pt → Prop} (hK : Back l R p e below s args y 3 W9 Pre Post)
    {g : JFrame} (hg : g.method = m) (hsize : g.locals.size = c.maxLocals) {argsL rest : List Value} (hlen : ∀ sig, parseMethodDescriptor y.desc = some sig → argsL.length = sig.parameters.length)
    (hstack : g.stack = argsL.reverse ++ rest) (hW : 2 * g.monitorRoom + (rest.map fun v => v.category).sum ≤ W9) (hdg : decode c.code g.pc = .ok (.invokestatic index, 3))
    (hpre : ∀ vm₁, s.WarmedH vm₁ → Pre ⟨T.setVm vm₁, locs, cells, slots⟩ argsL.toArray) :
    ∃ (v : Option Value) (vm₁ : Vm) (B : Pt), s.WarmedH vm₁ ∧ Stand p l e R s m args below meth c B.U B.locs B.cells B.slots ∧ Post ⟨T.setVm vm₁, locs, cells, slots⟩ argsL.toArray v B ∧
      ∀ target, Steps p.tables e below (B.U.setTop { g with pc := g.pc + 3, stack := v.toList ++ rest }) target → Steps p.tables e below (T.setTop g) target := by
  obtain ⟨mk, methM, cM, hnamed, hmethM, -, -, -, -, -, -, hsigM⟩ := Cond.codeWith_spec hcode
  have hstatic : methM.isStatic = true := Cond.static_spec hnamed hmethM hstat
  obtain ⟨kP, hkP, -⟩ := className_of_methodNamed hnamed
  have hinitP : kP.init = .initialized := Cond.initialized_spec (findClass_of_methodNamed hnamed) hkP hinit
  obtain ⟨vm₁, X₁, hstep₁⟩ := X.invokestatic hexec hown hlink hnamed hmethM hstatic hkP hinitP hy (g := g) hg (argsL := argsL) (rest := rest) (hlen _ hsigM) hstack hdg
  obtain ⟨v, B, X', hpost, hsteps⟩ := hK m meth c ⟨T.setVm vm₁, locs, cells, slots⟩ { g with stack := rest } (.invokestatic index) mk argsL.toArray X₁ hg hsize hdg hW (X₁.named hnamed) (hpre vm₁ X₁.warmed)
  exact ⟨v, vm₁, B, X₁.warmed, X', hpost, fun target h => hstep₁ _ fun acts => by rw [doInvoke_state]; exact hsteps.trans h⟩
theorem vx_runSW {y : MethodName} {bytes cc : ByteArray} {maxL nL mc ms n index : Nat} {ret : Option FieldType} {hh : List (Nat × Nat × Nat × Nat)} {ws : List Cond} {rm : Room} {Pc : Array Value → State → Prop} {Qc : Array Value → State → Outcome → State → Prop} {free : Addr → Prop} {Ts : List Cond} {own : String} {As rest : List Value} {g : JFrame}
    (S : CallFix p m c cc nL s args Ts own) (hM : Met l y ws rm Pc Qc mc ms free) (cw : vx_CSW R s args own index y bytes maxL ret hh ws rm mc ms n) (hp : PreS s H Pc As)
    (hg : g.method = m) (hn : As.length = n) (hsize : g.locals.size = nL) (hstack : g.stack = As.reverse ++ rest) (hW : 2 * g.monitorRoom + (rest.map fun v => v.category).sum ≤ 8) (hdg : decode cc g.pc = .ok (.invokestatic index, 3)) (hf : cells + mc ≤ R.cells ∧ slots + ms ≤ R.slots) :
    va_Run p l e R s m args below meth c H locs cells slots mc ms g rest (Qc As.toArray) (free) := by
  obtain ⟨⟨hrc, hrs, hfr, hlo, hws, hcw⟩, hcode, hini, hy, hlen, hl, hstt⟩ := cw
  have hK : Back l R p e below s args y 3 8 (PreOf R mc ms Pc) (PostOf Qc mc ms free) := va_backW (hh := hh) (bytes := bytes) (maxL := maxL) (ret := ret) hM hp.1 hrc hrs hfr hlo hws hcw (fun a' U hW => word_at hW (Or.inl (by first | rfl | simp [Cond.onTables, Cond.keeps, Cond.steady])) hini)
  obtain ⟨hx, hb, hml, ho, -⟩ := S
  intro T hT X
  obtain ⟨v, vm₁, ⟨U', l2, c2, s2⟩, hW₁, X', ⟨g', mk, t, L, e1, e2, hq, h1, hL, h2, h3⟩, st⟩ := vx_callSW X hx (hh := hh) (bytes := bytes) (maxL := maxL) (ret := ret) ho hl hstt hini hcode hy hK hg (hsize.trans hml.symm) (argsL := As) (rest := rest) (fun sig h => hn.trans (hlen sig h)) hstack hW (by rw [hb]; exact hdg)
    (fun vm₁ hW₁ => ⟨hf.1, hf.2, hp.2 (T.setVm vm₁) hT hW₁⟩)
  dsimp only [Pt.U, Pt.locs, Pt.cells, Pt.slots] at X' e1 e2 h1 h2 h3 st
  subst h1; subst h2; subst h3
  exact ⟨v, (T.setVm vm₁).calling g' mk As.toArray, t, U', L, hT, X', hL, e1, e2, hq, st⟩
/-- not caught here, past rows that name other classes: it goes on to the caller -/
theorem vx_outP {p : Program} {l : Launch} {e : Env} {R : Room} {s : State} {m : MethodId} {args : Array Value} {below : List Frame} {meth : Method} {c : Code} {H : Heap} {locs : List Loc} {cells slots : Nat} {free : Addr → Prop} {ls : Array Slot} {rest : List Value} {Qc : Array Value → State → Outcome → State → Prop} {XC : String → State → State → Prop}
    {pc : Nat} {own E : String} {ce : Cell} {q : Addr} {mc ms : Nat} (hown : s.vm.findClass own = some m.cls) (hlocks : meth.locks = false)
    (hpass : ∀ z ∈ c.exceptionTable.toList, covers z pc = false ∨ (z.catchType ≠ 0 ∧ ∃ nm : String, (Cond.classLink own z.catchType nm).before args s = true ∧ va_Nc E nm s)) (hcell : H[q]? = some ce) (hv : ce.vm = .none) (hcl : s.vm.findClass E = some ce.cls)
    (hx : ∀ t : State, t.heap = H → s.vm.Alike t.vm → XC E s t) (hf : ∀ z ∈ locs, free z.base) (hc : cells ≤ mc) (hs : slots ≤ ms) :
    vx_W p l e R s m args below meth c H locs cells slots (vx_MQ below Qc XC args s mc ms free) (F0 m pc ls rest) q := by
  intro T hT X
  have hpl : e.platform.magicAccessors = ({} : Platform).magicAccessors := by rw [X.admits.platform]
  obtain ⟨vm', hW', X', st⟩ := X.outThrough hlocks q (g := F0 m pc ls rest) rfl rfl rfl (cell := ce) (by rw [hT]; exact hcell) (by rw [hv]; rfl)
    (by obtain ⟨k9, h9, -⟩ := Vm.findClass_spec hcl; exact ⟨k9, h9⟩) (fun z hz => by
      rcases hpass z hz with h | ⟨hz0, nm, hl1, hn1⟩
      · exact Or.inl h
      · obtain ⟨c6, hc6, hcl6⟩ := Cond.classLink_spec hown hl1 e.platform hpl
        obtain ⟨a8, b8, h1, h2, h3⟩ := hn1
        cases Option.some.inj (h1.symm.trans hcl)
        cases Option.some.inj (h2.symm.trans hc6)
        exact Or.inr ⟨hz0, _, hcl6, h3⟩)
  obtain ⟨g₀, hfr⟩ := X'.frames_eq
  have hcell9 : ((T.setVm vm').setFrames (.throwing q :: below)).heap[q]? = some ce := by
    show T.heap[q]? = some ce
    rw [hT]; exact hcell
  have hend : Ended ((T.setVm vm').setFrames (.throwing q :: below)) below (.threw q) := State.frames_setFrames _ (State.cur_lt_of_frames hfr)
  refine ⟨(T.setVm vm').setFrames (.throwing q :: below), ?_, .threw q, X'.here.running, hend, Or.inr ⟨q, rfl, E, ce, locs, hx _ hT (X'.ends _).1.alike, hcell9, hv, hcl, (X'.ends _).1, (X'.ends _).2.mono hc hs, hf⟩⟩
  rw [X.pushThrowing_eq]
  exact st
/-- a thing of a world lies in the heap -/
theorem vx_lt {D : va_G} {cl : List vw_C} {ws : va_W} {H1 : Heap} (h : va_P D cl ws H1) {k : Nat} {q : Nat × va_E} (hk : ws[k]? = some q) : q.1 < H1.size := (h k q hk).lt
end VXS
/-! ===== END ===== -/
/-! ===== BEGIN methods with a table of their own: called by a name, returning or throwing ===== -/
section VXH
/-! vx_backW, vx_callVX, vx_callSX, vx_callVW, vx_runVW, vx_runVX, vx_runSX, vx_ofWH follow the same proofs as their sisters above (Free/Laws.lean, Shelf42/LK1.lean); vx_outP calls Shelf42/NT130.lean (outThrough). -/
section
variable {l : Launch} {R : Room} {p : Program} {e : Env} {below : List Frame} {s : State} {sargs : Array Value} {y : MethodName} {len W9 : Nat}
theorem vx_backW {ws : List Cond} {rm : Room} {Pc : Array Value → State → Prop} {Qc : Array Value → State → Outcome → State → Prop} {XC : String → State → State → Prop} {mc ms : Nat} {free : Addr → Prop} {bytes : ByteArray} {maxL : Nat} {ret : Option FieldType} {hh : List (Nat × Nat × Nat × Nat)}
    (hM : vx_Met l y ws rm Pc Qc XC mc ms free) (hblind : FrameBlind Pc) (hrc : rm.cells = mc) (hrs : rm.slots = ms)
    (hframes : rm.frames + 1 ≤ R.frames) (hlocals : W9 + (maxL + 11) + rm.locals ≤ R.locals)
    (hws : ∀ w ∈ ws, ∀ a' U, s.WarmedH U.vm → w.before a' U = true) (hcode : Cond.codeWith y bytes maxL ret hh ∈ ws) (hinit : ∀ a' U, s.WarmedH U.vm → (Cond.initialized y.cls).before a' U = true) :
    vx_Back l R p e below s sargs y len W9 (PreOf R mc ms Pc) (PostOf Qc mc ms free) (vx_Post XC mc ms free) := by
  intro m meth c A g ig mk a X hg hsize hdg hW hn hp
  have h1 : (headSpec ws rm).pre.before a A.U = true := atoms_intro fun w hw => hws w hw _ _ X.warmed
  have h2 : (Cond.codeWith y bytes maxL ret hh).before a A.U = true := hws _ hcode _ _ X.warmed
  have h3 : (Cond.initialized y.cls).before a A.U = true := hinit _ _ X.warmed
  have h4 : A.cells + (headSpec ws rm).room.cells ≤ R.cells := by rw [show (headSpec ws rm).room.cells = mc from hrc]; exact hp.1
  have h5 : A.slots + (headSpec ws rm).room.slots ≤ R.slots := by rw [show (headSpec ws rm).room.slots = ms from hrs]; exact hp.2.1
  have hPc : Pc a (A.U.calling g mk a) := hblind _ _ _ _ hp.2.2
  obtain ⟨U, Ls, c0, s0⟩ := A
  dsimp only [Pt.U, Pt.locs, Pt.cells, Pt.slots] at h1 h2 h3 h4 h5 X hn hPc ⊢
  obtain ⟨m9, methY, cY, hn9, hmY, hcY, -, hlY, -⟩ := Cond.codeWith_spec h2
  cases Option.some.inj (hn9.symm.trans hn)
  obtain ⟨kY, hkY, -⟩ := className_of_methodNamed hn
  have hinitY : kY.init = .initialized := Cond.initialized_spec (findClass_of_methodNamed hn) hkY h3
  have h : At U g.method c below := by rw [hg]; exact X.here
  have hlocals9 : W9 + (maxL + 11) + (headSpec ws rm).room.locals ≤ R.locals := hlocals
  have happ : (headSpec ws rm).appliesLoose y e.platform (U.calling g mk a) = true :=
    Spec.appliesLoose_calling (g := g) h hdg hn hkY hinitY
      (X.room_calling (g := g) (R' := (headSpec ws rm).room) hsize hmY hcY hframes (by rw [hlY]; omega) h4 h5) h1
  obtain ⟨mid, hmid⟩ := h.above
  have hfr : (U.setTop g).frames = (.java g :: mid) ++ below := by rw [State.frames_setTop' g h.top, hmid]; rfl
  obtain ⟨o, s₂, hsteps, -, hend, hq⟩ := Steps.callFree hM p X.admits X.cas X.clock (acts := []) hfr happ hPc trivial
  have hq' : vx_Q Qc XC mc ms free a (U.calling g mk a) o s₂ := hq
  rw [State.frames_setTop' g h.top] at hend
  obtain ⟨g₀, hg0⟩ := Option.isSome_iff_exists.mp h.top
  obtain ⟨r, hr⟩ := State.topJava?_eq_some.mp hg0
  have hr' : (({ U with heap := s₂.heap, slotsUsed := s₂.slotsUsed } : State).setVm s₂.vm).frames = .java g₀ :: r := hr
  rcases hq' with ⟨hqc, L, hfe, hL⟩ | ⟨q, rfl, E, ce, L, hx, hce, hcv, hcl, hW₂, hsm, hL⟩
  · obtain ⟨⟨v, rfl⟩, hW₂, e2, q2, q3, q4, q5, q6⟩ := id hfe
    have e3 : s₂ = ({ (U.calling g mk a).setFrames s₂.frames with heap := s₂.heap, slotsUsed := s₂.slotsUsed } : State).setVm s₂.vm := by
      have : s₂ = ({ s₂ with vm := (U.calling g mk a).vm } : State).setVm s₂.vm := rfl
      rw [e2] at this
      exact this
    obtain ⟨c₂, i₂, len₂, hc₂, hd₂, hf₂⟩ := hend
    have hW' : U.WarmedH s₂.vm := hW₂
    have hcc : c₂ = c := by
      have h1 : s₂.code? g.method = U.code? g.method := by
        rw [State.code?_eq, State.code?_eq, hW'.alike.method?]
      exact Option.some.inj (hc₂.symm.trans (h1.trans h.code))
    subst hcc
    have hlen : len₂ = len := by rw [hdg] at hd₂; cases hd₂; rfl
    subst hlen
    have hs₂ : s₂ = (({ U with heap := s₂.heap, slotsUsed := s₂.slotsUsed } : State).setVm s₂.vm).setTop { g with pc := g.pc + len₂, stack := v.toList ++ g.stack } := by
      refine e3.trans ?_
      rw [hf₂, State.calling_eq h.top, State.setFrames_setFrames, State.setTop_of_frames _ hr', hr]
      rfl
    have hsame : U.sameButNew ({ U with heap := s₂.heap, slotsUsed := s₂.slotsUsed } : State) L mc ms := by
      refine ⟨?_, q2, q3, q4, q5, q6⟩
      obtain ⟨t, ht, -⟩ := State.frames_cons hr
      show ({ U with heap := s₂.heap, slotsUsed := s₂.slotsUsed } : State) = { U.setFrames U.frames with heap := s₂.heap, slotsUsed := s₂.slotsUsed }
      rw [State.setFrames_self ht]
    subst hg
    refine Or.inl ⟨v, ⟨(({ U with heap := s₂.heap, slotsUsed := s₂.slotsUsed } : State).setVm s₂.vm), Ls ++ L, c0 + mc, s0 + ms⟩,
      ⟨X.admits, X.cas, X.clock, X.frames, X.room, X.hears, X.method, X.code, (X.here.setHeapUsed s₂.heap s₂.slotsUsed).setVm hW'.alike, X.tail, State.WarmedH.trans X.warmed hW', X.limits, X.bytes, X.same.trans (hsame.setVm s.vm)⟩,
      ⟨g, mk, s₂, L, rfl, rfl, hqc, rfl, hL, rfl, rfl⟩, ?_⟩
    show Steps p.tables e below _ ((({ U with heap := s₂.heap, slotsUsed := s₂.slotsUsed } : State).setVm s₂.vm).setTop { g with pc := g.pc + len₂, stack := v.toList ++ g.stack })
    rw [← hs₂]
    exact hsteps
  · obtain ⟨e2, q2, q3, q4, q5, q6⟩ := id hsm
    have e3 : s₂ = ({ (U.calling g mk a).setFrames s₂.frames with heap := s₂.heap, slotsUsed := s₂.slotsUsed } : State).setVm s₂.vm := by
      have : s₂ = ({ s₂ with vm := (U.calling g mk a).vm } : State).setVm s₂.vm := rfl
      rw [e2] at this
      exact this
    have hf₂ : s₂.frames = .throwing q :: .java g :: U.frames.tail := hend
    have hW' : U.WarmedH s₂.vm := hW₂
    have hs₂ : s₂ = ((({ U with heap := s₂.heap, slotsUsed := s₂.slotsUsed } : State).setVm s₂.vm).setTop g).pushFrame (.throwing q) := by
      refine e3.trans ?_
      rw [hf₂, State.calling_eq h.top, State.setFrames_setFrames, State.pushFrame, State.frames_setTop _ hr', State.setTop_of_frames _ hr', State.setFrames_setFrames, hr]
      rfl
    have hsame : U.sameButNew ({ U with heap := s₂.heap, slotsUsed := s₂.slotsUsed } : State) L mc ms := by
      refine ⟨?_, q2, q3, q4, q5, q6⟩
      obtain ⟨t, ht, -⟩ := State.frames_cons hr
      show ({ U with heap := s₂.heap, slotsUsed := s₂.slotsUsed } : State) = { U.setFrames U.frames with heap := s₂.heap, slotsUsed := s₂.slotsUsed }
      rw [State.setFrames_self ht]
    subst hg
    refine Or.inr ⟨q, ⟨(({ U with heap := s₂.heap, slotsUsed := s₂.slotsUsed } : State).setVm s₂.vm), Ls ++ L, c0 + mc, s0 + ms⟩,
      ⟨X.admits, X.cas, X.clock, X.frames, X.room, X.hears, X.method, X.code, (X.here.setHeapUsed s₂.heap s₂.slotsUsed).setVm hW'.alike, X.tail, State.WarmedH.trans X.warmed hW', X.limits, X.bytes, X.same.trans (hsame.setVm s.vm)⟩,
      ⟨g, mk, s₂, L, E, ce, rfl, rfl, hx, hce, hcv, hcl, rfl, hL, rfl, rfl⟩, ?_⟩
    show Steps p.tables e below _ (((({ U with heap := s₂.heap, slotsUsed := s₂.slotsUsed } : State).setVm s₂.vm).setTop g).pushFrame (.throwing q))
    rw [← hs₂]
    exact hsteps
end
variable {p : Program} {l : Launch} {e : Env} {R : Room} {s : State} {m : MethodId} {args : Array Value} {below : List Frame} {meth : Method} {c : Code} {T : State} {H : Heap} {locs : List Loc} {cells slots : Nat}
theorem vx_callVX (X : Stand p l e R s m args below meth c T locs cells slots) (hexec : p.tables.exec = Jvm.exec) {own C : String} {index : Nat} {y : MethodName} {bytes : ByteArray} {maxL : Nat} {ret : Option FieldType} {hh : List (Nat × Nat × Nat × Nat)}
    (hown : s.vm.findClass own = some m.cls) (hlink : (Cond.methodLink own index y).before args s = true) (hinst : (Cond.instanceMethod y).before args s = true) (hsel : (Cond.selects C y y).before args s = true)
    (hcode : (Cond.codeWith y bytes maxL ret hh).before args s = true) (hy : y.cls ≠ "java/lang/invoke/MethodHandle" ∧ y.cls ≠ "java/lang/invoke/VarHandle")
    {W9 : Nat} {Pre : Pt → Array Value → Prop} {Post : Pt → Array Value → Option Value → Pt → Prop} {PostX : Pt → Array Value → Addr → Pt → Prop} (hK : vx_Back l R p e below s args y 3 W9 Pre Post PostX)
    {b : Addr} {cellB : Cell} (hcell : T.heap[b]? = some cellB) (hobj : cellB.vm.isStatics = false) (hcls : s.vm.findClass C = some cellB.cls)
    {g : JFrame} (hg : g.method = m) (hsize : g.locals.size = c.maxLocals) {argsL rest : List Value} (hlen : ∀ sig, parseMethodDescriptor y.desc = some sig → argsL.length = sig.parameters.length)
    (hstack : g.stack = argsL.reverse ++ .ref b :: rest) (hW : 2 * g.monitorRoom + (rest.map fun v => v.category).sum ≤ W9) (hdg : decode c.code g.pc = .ok (.invokevirtual index, 3))
    (hpre : ∀ vm₁, s.WarmedH vm₁ → Pre ⟨T.setVm vm₁, locs, cells, slots⟩ (Value.ref b :: argsL).toArray) :
    (∃ (v : Option Value) (vm₁ : Vm) (B : Pt), s.WarmedH vm₁ ∧ Stand p l e R s m args below meth c B.U B.locs B.cells B.slots ∧ Post ⟨T.setVm vm₁, locs, cells, slots⟩ (Value.ref b :: argsL).toArray v B ∧
      ∀ target, Steps p.tables e below (B.U.setTop { g with pc := g.pc + 3, stack := v.toList ++ rest }) target → Steps p.tables e below (T.setTop g) target) ∨
    (∃ (q : Addr) (vm₁ : Vm) (B : Pt), s.WarmedH vm₁ ∧ Stand p l e R s m args below meth c B.U B.locs B.cells B.slots ∧ PostX ⟨T.setVm vm₁, locs, cells, slots⟩ (Value.ref b :: argsL).toArray q B ∧
      Steps p.tables e below (T.setTop g) ((B.U.setTop { g with stack := rest }).pushFrame (.throwing q))) := by
  obtain ⟨mk, methM, hnamed, hmethM, hstM, habM⟩ := Cond.instanceMethod_spec hinst
  obtain ⟨m8, methM', cM, hn8, hmethM', -, -, -, -, -, -, hsigM⟩ := Cond.codeWith_spec hcode
  cases Option.some.inj (hn8.symm.trans hnamed)
  cases hmethM.symm.trans hmethM'
  obtain ⟨c2, r2, m2, q1, q2, q3, q4, kP, hkP, hkPi⟩ := Cond.selects_spec hsel
  cases hcls.symm.trans q1
  cases (State.methodFound?_of_named hnamed hy).symm.trans q2
  cases hnamed.symm.trans q3
  have hselP : selectMethod e.platform s.vm cellB.cls mk = .method mk := by rw [Launch.admits_selectMethod X.admits]; exact q4
  obtain ⟨vm₁, X₁, hstep₁⟩ := X.invokevirtual hexec hown hlink hnamed hmethM hstM hkP hkPi hy (a := b) (cell := cellB) hcell
    (fun z h => by rw [h] at hobj; cases hobj) hselP hmethM habM hkP hkPi (g := g) hg (argsL := argsL) (rest := rest) (hlen _ hsigM) hstack hdg
  rcases hK m meth c ⟨T.setVm vm₁, locs, cells, slots⟩ { g with stack := rest } (.invokevirtual index) mk (Value.ref b :: argsL).toArray X₁ hg hsize hdg hW (X₁.named hnamed) (hpre vm₁ X₁.warmed) with ⟨v, B, X', hpost, hsteps⟩ | ⟨q, B, X', hpost, hsteps⟩
  · exact Or.inl ⟨v, vm₁, B, X₁.warmed, X', hpost, fun target h => hstep₁ _ fun acts => by rw [doInvoke_state]; exact hsteps.trans h⟩
  · exact Or.inr ⟨q, vm₁, B, X₁.warmed, X', hpost, hstep₁ _ fun acts => by rw [doInvoke_state]; exact hsteps⟩
theorem vx_callSX (X : Stand p l e R s m args below meth c T locs cells slots) (hexec : p.tables.exec = Jvm.exec) {own : String} {index : Nat} {y : MethodName} {bytes : ByteArray} {maxL : Nat} {ret : Option FieldType} {hh : List (Nat × Nat × Nat × Nat)}
    (hown : s.vm.findClass own = some m.cls) (hlink : (Cond.methodLink own index y).before args s = true) (hstat : (Cond.static y).before args s = true) (hinit : (Cond.initialized y.cls).before args s = true)
    (hcode : (Cond.codeWith y bytes maxL ret hh).before args s = true) (hy : y.cls ≠ "java/lang/invoke/MethodHandle" ∧ y.cls ≠ "java/lang/invoke/VarHandle")
    {W9 : Nat} {Pre : Pt → Array Value → Prop} {Post : Pt → Array Value → Option Value → Pt → Prop} {PostX : Pt → Array Value → Addr → Pt → Prop} (hK : vx_Back l R p e below s args y 3 W9 Pre Post PostX)
    {g : JFrame} (hg : g.method = m) (hsize : g.locals.size = c.maxLocals) {argsL rest : List Value} (hlen : ∀ sig, parseMethodDescriptor y.desc = some sig → argsL.length = sig.parameters.length)
    (hstack : g.stack = argsL.reverse ++ rest) (hW : 2 * g.monitorRoom + (rest.map fun v => v.category).sum ≤ W9) (hdg : decode c.code g.pc = .ok (.invokestatic index, 3))
    (hpre : ∀ vm₁, s.WarmedH vm₁ → Pre ⟨T.setVm vm₁, locs, cells, slots⟩ argsL.toArray) :
    (∃ (v : Option Value) (vm₁ : Vm) (B : Pt), s.WarmedH vm₁ ∧ Stand p l e R s m args below meth c B.U B.locs B.cells B.slots ∧ Post ⟨T.setVm vm₁, locs, cells, slots⟩ argsL.toArray v B ∧
      ∀ target, Steps p.tables e below (B.U.setTop { g with pc := g.pc + 3, stack := v.toList ++ rest }) target → Steps p.tables e below (T.setTop g) target) ∨
    (∃ (q : Addr) (vm₁ : Vm) (B : Pt), s.WarmedH vm₁ ∧ Stand p l e R s m args below meth c B.U B.locs B.cells B.slots ∧ PostX ⟨T.setVm vm₁, locs, cells, slots⟩ argsL.toArray q B ∧
      Steps p.tables e below (T.setTop g) ((B.U.setTop { g with stack := rest }).pushFrame (.throwing q))) := by
  obtain ⟨mk, methM, cM, hnamed, hmethM, -, -, -, -, -, -, hsigM⟩ := Cond.codeWith_spec hcode
  have hstatic : methM.isStatic = true := Cond.static_spec hnamed hmethM hstat
  obtain ⟨kP, hkP, -⟩ := className_of_methodNamed hnamed
  have hinitP : kP.init = .initialized := Cond.initialized_spec (findClass_of_methodNamed hnamed) hkP hinit
  obtain ⟨vm₁, X₁, hstep₁⟩ := X.invokestatic hexec hown hlink hnamed hmethM hstatic hkP hinitP hy (g := g) hg (argsL := argsL) (rest := rest) (hlen _ hsigM) hstack hdg
  rcases hK m meth c ⟨T.setVm vm₁, locs, cells, slots⟩ { g with stack := rest } (.invokestatic index) mk argsL.toArray X₁ hg hsize hdg hW (X₁.named hnamed) (hpre vm₁ X₁.warmed) with ⟨v, B, X', hpost, hsteps⟩ | ⟨q, B, X', hpost, hsteps⟩
  · exact Or.inl ⟨v, vm₁, B, X₁.warmed, X', hpost, fun target h => hstep₁ _ fun acts => by rw [doInvoke_state]; exact hsteps.trans h⟩
  · exact Or.inr ⟨q, vm₁, B, X₁.warmed, X', hpost, hstep₁ _ fun acts => by rw [doInvoke_state]; exact hsteps⟩
theorem vx_callVW (X : Stand p l e R s m args below meth c T locs cells slots) (hexec : p.tables.exec = Jvm.exec) {own C : String} {index : Nat} {y : MethodName} {bytes : ByteArray} {maxL : Nat} {ret : Option FieldType} {hh : List (Nat × Nat × Nat × Nat)}
    (hown : s.vm.findClass own = some m.cls) (hlink : (Cond.methodLink own index y).before args s = true) (hinst : (Cond.instanceMethod y).before args s = true) (hsel : (Cond.selects C y y).before args s = true)
    (hcode : (Cond.codeWith y bytes maxL ret hh).before args s = true) (hy : y.cls ≠ "java/lang/invoke/MethodHandle" ∧ y.cls ≠ "java/lang/invoke/VarHandle")
    {W9 : Nat} {Pre : Pt → Array Value → Prop} {Post : Pt → Array Value → Option Value → Pt → Prop} (hK : Back l R p e below s args y 3 W9 Pre Post)
    {b : Addr} {cellB : Cell} (hcell : T.heap[b]? = some cellB) (hobj : cellB.vm.isStatics = false) (hcls : s.vm.findClass C = some cellB.cls)
    {g : JFrame} (hg : g.method = m) (hsize : g.locals.size = c.maxLocals) {argsL rest : List Value} (hlen : ∀ sig, parseMethodDescriptor y.desc = some sig → argsL.length = sig.parameters.length)
    (hstack : g.stack = argsL.reverse ++ .ref b :: rest) (hW : 2 * g.monitorRoom + (rest.map fun v => v.category).sum ≤ W9) (hdg : decode c.code g.pc = .ok (.invokevirtual index, 3))
    (hpre : ∀ vm₁, s.WarmedH vm₁ → Pre ⟨T.setVm vm₁, locs, cells, slots⟩ (Value.ref b :: argsL).toArray) :
    ∃ (v : Option Value) (vm₁ : Vm) (B : Pt), s.WarmedH vm₁ ∧ Stand p l e R s m args below meth c B.U B.locs B.cells B.slots ∧ Post ⟨T.setVm vm₁, locs, cells, slots⟩ (Value.ref b :: argsL).toArray v B ∧
      ∀ target, Steps p.tables e below (B.U.setTop { g with pc := g.pc + 3, stack := v.toList ++ rest }) target → Steps p.tables e below (T.setTop g) target := by
  obtain ⟨mk, methM, hnamed, hmethM, hstM, habM⟩ := Cond.instanceMethod_spec hinst
  obtain ⟨m8, methM', cM, hn8, hmethM', -, -, -, -, -, -, hsigM⟩ := Cond.codeWith_spec hcode
  cases Option.some.inj (hn8.symm.trans hnamed)
  cases hmethM.symm.trans hmethM'
  obtain ⟨c2, r2, m2, q1, q2, q3, q4, kP, hkP, hkPi⟩ := Cond.selects_spec hsel
  cases hcls.symm.trans q1
  cases (State.methodFound?_of_named hnamed hy).symm.trans q2
  cases hnamed.symm.trans q3
  have hselP : selectMethod e.platform s.vm cellB.cls mk = .method mk := by rw [Launch.admits_selectMethod X.admits]; exact q4
  obtain ⟨vm₁, X₁, hstep₁⟩ := X.invokevirtual hexec hown hlink hnamed hmethM hstM hkP hkPi hy (a := b) (cell := cellB) hcell
    (fun z h => by rw [h] at hobj; cases hobj) hselP hmethM habM hkP hkPi (g := g) hg (argsL := argsL) (rest := rest) (hlen _ hsigM) hstack hdg
  obtain ⟨v, B, X', hpost, hsteps⟩ := hK m meth c ⟨T.setVm vm₁, locs, cells, slots⟩ { g with stack := rest } (.invokevirtual index) mk (Value.ref b :: argsL).toArray X₁ hg hsize hdg hW (X₁.named hnamed) (hpre vm₁ X₁.warmed)
  exact ⟨v, vm₁, B, X₁.warmed, X', hpost, fun target h => hstep₁ _ fun acts => by rw [doInvoke_state]; exact hsteps.trans h⟩
abbrev vx_CVW (R : Room) (s : State) (args : Array Value) (own C : String) (index : Nat) (y : MethodName) (bytes : ByteArray) (maxL : Nat) (ret : Option FieldType) (hh : List (Nat × Nat × Nat × Nat)) (ws : List Cond) (rm : Room) (mc ms n : Nat) : Prop :=
  (rm.cells = mc ∧ rm.slots = ms ∧ rm.frames + 1 ≤ R.frames ∧ 8 + (maxL + 11) + rm.locals ≤ R.locals ∧ (∀ w ∈ ws, ∀ (a' : Array Value) (U : State), s.WarmedH U.vm → w.before a' U = true) ∧ Cond.codeWith y bytes maxL ret hh ∈ ws) ∧
  (Cond.codeWith y bytes maxL ret hh).before args s = true ∧ (Cond.initialized y.cls).before args s = true ∧ (y.cls ≠ "java/lang/invoke/MethodHandle" ∧ y.cls ≠ "java/lang/invoke/VarHandle") ∧
  (∀ sig, parseMethodDescriptor y.desc = some sig → n = sig.parameters.length) ∧ (Cond.methodLink own index y).before args s = true ∧ (Cond.instanceMethod y).before args s = true ∧ (Cond.selects C y y).before args s = true
theorem vx_cwVW {own C : String} {index maxL mc ms : Nat} {y : MethodName} {bytes : ByteArray} {ret : Option FieldType} {hh : List (Nat × Nat × Nat × Nat)} {Ts ws ws' : List Cond} {rm : Room} (n : Nat) (ht : ∀ w ∈ Ts, w.before args s = true) (hT : GoodIn Ts (wsV own index C y ws)) (hw : ws = Cond.codeWith y bytes maxL ret hh :: ws') (hrc : rm.cells = mc) (hrs : rm.slots = ms)
    (hd : y.cls = C ∧ y.cls ≠ "java/lang/invoke/MethodHandle" ∧ y.cls ≠ "java/lang/invoke/VarHandle" ∧ (parseMethodDescriptor y.desc).map (fun d => d.parameters.length) = some n) (hR : rm.frames + 1 ≤ R.frames ∧ 8 + (maxL + 11) + rm.locals ≤ R.locals) :
    vx_CVW R s args own C index y bytes maxL ret hh ws rm mc ms n := by
  obtain ⟨hC, hd⟩ := hd
  subst hC
  have ok : ∀ w ∈ wsV own index y.cls y ws, w.before args s = true := fun w h => ht w (hT w h).1
  have hG : GoodIn Ts ws := fun w h => hT w (by unfold wsV; exact List.mem_append_right _ h)
  have hc : Cond.codeWith y bytes maxL ret hh ∈ ws := by rw [hw]; exact List.mem_cons_self
  refine ⟨⟨hrc, hrs, hR.1, hR.2, pay_in ht hG, hc⟩, ht _ (hG _ hc).1, ok _ (by simp [wsV]), ⟨hd.1, hd.2.1⟩, fun sig h => ?_, ok _ (by simp [wsV]), ok _ (by simp [wsV]), ok _ (by simp [wsV])⟩
  have h2 := hd.2.2
  rw [h] at h2
  exact (Option.some.inj h2).symm
theorem vx_runVW {y : MethodName} {bytes cc : ByteArray} {maxL nL mc ms n index : Nat} {ret : Option FieldType} {hh : List (Nat × Nat × Nat × Nat)} {ws : List Cond} {rm : Room} {Pc : Array Value → State → Prop} {Qc : Array Value → State → Outcome → State → Prop} {free : Addr → Prop} {Ts : List Cond} {own C : String} {b : Addr} {As rest : List Value} {g : JFrame}
    (S : CallFix p m c cc nL s args Ts own) (hM : Met l y ws rm Pc Qc mc ms free) (cw : vx_CVW R s args own C index y bytes maxL ret hh ws rm mc ms n) (hp : PreV s H C b Pc As)
    (hg : g.method = m) (hn : As.length = n) (hsize : g.locals.size = nL) (hstack : g.stack = As.reverse ++ .ref b :: rest) (hW : 2 * g.monitorRoom + (rest.map fun v => v.category).sum ≤ 8) (hdg : decode cc g.pc = .ok (.invokevirtual index, 3)) (hf : cells + mc ≤ R.cells ∧ slots + ms ≤ R.slots) :
    va_Run p l e R s m args below meth c H locs cells slots mc ms g rest (Qc (Value.ref b :: As).toArray) free := by
  obtain ⟨⟨hrc, hrs, hfr, hlo, hws, hcw⟩, hcode, hini, hy, hlen, hl, hin, hse⟩ := cw
  have hK : Back l R p e below s args y 3 8 (PreOf R mc ms Pc) (PostOf Qc mc ms free) := va_backW (hh := hh) (bytes := bytes) (maxL := maxL) (ret := ret) hM hp.1 hrc hrs hfr hlo hws hcw (fun a' U hW => word_at hW (Or.inl (by first | rfl | simp [Cond.onTables, Cond.keeps, Cond.steady])) hini)
  obtain ⟨hx, hb, hml, ho, -⟩ := S
  obtain ⟨-, ⟨cellB, hcB, hoB, hclB⟩, hPc⟩ := hp
  intro T hT X
  obtain ⟨v, vm₁, ⟨U', l2, c2, s2⟩, hW₁, X', ⟨g', mk, t, L, e1, e2, hq, h1, hL, h2, h3⟩, st⟩ := vx_callVW X hx (C := C) (hh := hh) (bytes := bytes) (maxL := maxL) (ret := ret) ho hl hin hse hcode hy hK (by rw [hT]; exact hcB) hoB hclB hg (hsize.trans hml.symm) (argsL := As) (rest := rest) (fun sig h => hn.trans (hlen sig h)) hstack hW (by rw [hb]; exact hdg)
    (fun vm₁ hW₁ => ⟨hf.1, hf.2, hPc (T.setVm vm₁) hT hW₁⟩)
  dsimp only [Pt.U, Pt.locs, Pt.cells, Pt.slots] at X' e1 e2 h1 h2 h3 st
  subst h1; subst h2; subst h3
  exact ⟨v, (T.setVm vm₁).calling g' mk (Value.ref b :: As).toArray, t, U', L, hT, X', hL, e1, e2, hq, st⟩
section
variable {y : MethodName} {bytes cc : ByteArray} {maxL nL mc ms n index : Nat} {ret : Option FieldType} {ws : List Cond} {rm : Room} {Pc : Array Value → State → Prop} {Qc : Array Value → State → Outcome → State → Prop} {XC : String → State → State → Prop} {free : Addr → Prop} {Ts : List Cond} {own C : String} {b : Addr} {As rest : List Value} {g : JFrame}
theorem vx_runVX {hh : List (Nat × Nat × Nat × Nat)} (S : CallFix p m c cc nL s args Ts own) (hM : vx_Met l y ws rm Pc Qc XC mc ms free) (cw : vx_CVW R s args own C index y bytes maxL ret hh ws rm mc ms n) (hp : PreV s H C b Pc As)
    (hg : g.method = m) (hn : As.length = n) (hsize : g.locals.size = nL) (hstack : g.stack = As.reverse ++ .ref b :: rest) (hW : 2 * g.monitorRoom + (rest.map fun v => v.category).sum ≤ 8) (hdg : decode cc g.pc = .ok (.invokevirtual index, 3)) (hf : cells + mc ≤ R.cells ∧ slots + ms ≤ R.slots) :
    vx_Run p l e R s m args below meth c H locs cells slots mc ms g rest (Qc (Value.ref b :: As).toArray) XC free := by
  obtain ⟨⟨hrc, hrs, hfr, hlo, hws, hcw⟩, hcode, hini, hy, hlen, hl, hin, hse⟩ := cw
  have hK : vx_Back l R p e below s args y 3 8 (PreOf R mc ms Pc) (PostOf Qc mc ms free) (vx_Post XC mc ms free) := vx_backW (hh := hh) (bytes := bytes) (maxL := maxL) (ret := ret) hM hp.1 hrc hrs hfr hlo hws hcw (fun a' U hW => word_at hW (Or.inl (by first | rfl | simp [Cond.onTables, Cond.keeps, Cond.steady])) hini)
  obtain ⟨hx, hb, hml, ho, -⟩ := S
  obtain ⟨-, ⟨cellB, hcB, hoB, hclB⟩, hPc⟩ := hp
  intro T hT X
  rcases vx_callVX X hx (C := C) (hh := hh) (bytes := bytes) (maxL := maxL) (ret := ret) ho hl hin hse hcode hy hK (by rw [hT]; exact hcB) hoB hclB hg (hsize.trans hml.symm) (argsL := As) (rest := rest) (fun sig h => hn.trans (hlen sig h)) hstack hW (by rw [hb]; exact hdg)
    (fun vm₁ hW₁ => ⟨hf.1, hf.2, hPc (T.setVm vm₁) hT hW₁⟩) with ⟨v, vm₁, ⟨U', l2, c2, s2⟩, hW₁, X', ⟨g', mk, t, L, e1, e2, hq, h1, hL, h2, h3⟩, st⟩ | ⟨q, vm₁, ⟨U', l2, c2, s2⟩, hW₁, X', ⟨g', mk, t, L, E, ce, e1, e2, hq, hce, hcv, hcl, h1, hL, h2, h3⟩, st⟩
  · dsimp only [Pt.U, Pt.locs, Pt.cells, Pt.slots] at X' e1 e2 h1 h2 h3 st
    subst h1; subst h2; subst h3
    exact Or.inl ⟨v, (T.setVm vm₁).calling g' mk (Value.ref b :: As).toArray, t, U', L, hT, X', hL, e1, e2, hq, st⟩
  · dsimp only [Pt.U, Pt.locs, Pt.cells, Pt.slots] at X' e1 e2 h1 h2 h3 st hcl
    subst h1; subst h2; subst h3
    exact Or.inr ⟨q, (T.setVm vm₁).calling g' mk (Value.ref b :: As).toArray, t, U', L, E, ce, hT, X', hL, e1, e2, hq, hce, hcv, vx_cls hW₁ hcl, st⟩
theorem vx_runSX {hh : List (Nat × Nat × Nat × Nat)} (S : CallFix p m c cc nL s args Ts own) (hM : vx_Met l y ws rm Pc Qc XC mc ms free) (cw : vx_CSW R s args own index y bytes maxL ret hh ws rm mc ms n) (hp : PreS s H Pc As)
    (hg : g.method = m) (hn : As.length = n) (hsize : g.locals.size = nL) (hstack : g.stack = As.reverse ++ rest) (hW : 2 * g.monitorRoom + (rest.map fun v => v.category).sum ≤ 8) (hdg : decode cc g.pc = .ok (.invokestatic index, 3)) (hf : cells + mc ≤ R.cells ∧ slots + ms ≤ R.slots) :
    vx_Run p l e R s m args below meth c H locs cells slots mc ms g rest (Qc As.toArray) XC free := by
  obtain ⟨⟨hrc, hrs, hfr, hlo, hws, hcw⟩, hcode, hini, hy, hlen, hl, hstt⟩ := cw
  have hK : vx_Back l R p e below s args y 3 8 (PreOf R mc ms Pc) (PostOf Qc mc ms free) (vx_Post XC mc ms free) := vx_backW (hh := hh) (bytes := bytes) (maxL := maxL) (ret := ret) hM hp.1 hrc hrs hfr hlo hws hcw (fun a' U hW => word_at hW (Or.inl (by first | rfl | simp [Cond.onTables, Cond.keeps, Cond.steady])) hini)
  obtain ⟨hx, hb, hml, ho, -⟩ := S
  intro T hT X
  rcases vx_callSX X hx (hh := hh) (bytes := bytes) (maxL := maxL) (ret := ret) ho hl hstt hini hcode hy hK hg (hsize.trans hml.symm) (argsL := As) (rest := rest) (fun sig h => hn.trans (hlen sig h)) hstack hW (by rw [hb]; exact hdg)
    (fun vm₁ hW₁ => ⟨hf.1, hf.2, hp.2 (T.setVm vm₁) hT hW₁⟩) with ⟨v, vm₁, ⟨U', l2, c2, s2⟩, hW₁, X', ⟨g', mk, t, L, e1, e2, hq, h1, hL, h2, h3⟩, st⟩ | ⟨q, vm₁, ⟨U', l2, c2, s2⟩, hW₁, X', ⟨g', mk, t, L, E, ce, e1, e2, hq, hce, hcv, hcl, h1, hL, h2, h3⟩, st⟩
  · dsimp only [Pt.U, Pt.locs, Pt.cells, Pt.slots] at X' e1 e2 h1 h2 h3 st
    subst h1; subst h2; subst h3
    exact Or.inl ⟨v, (T.setVm vm₁).calling g' mk As.toArray, t, U', L, hT, X', hL, e1, e2, hq, st⟩
  · dsimp only [Pt.U, Pt.locs, Pt.cells, Pt.slots] at X' e1 e2 h1 h2 h3 st hcl
    subst h1; subst h2; subst h3
    exact Or.inr ⟨q, (T.setVm vm₁).calling g' mk As.toArray, t, U', L, E, ce, hT, X', hL, e1, e2, hq, hce, hcv, vx_cls hW₁ hcl, st⟩
end
end VXH
theorem vx_ofWH {l : Launch} {y : MethodName} {ws ws' : List Cond} {rm : Room} {Pc : Array Value → State → Prop} {Qc : Array Value → State → Outcome → State → Prop} {XC : String → State → State → Prop} {mc ms : Nat} {free : Addr → Prop} {cc : ByteArray} {maxL : Nat} {ret : Option FieldType} {hh : List (Nat × Nat × Nat × Nat)}
    (hy : plainName y.cls = true) (hw : ws = Cond.codeWith y cc maxL ret hh :: ws')
    (body : ∀ p e s m args below meth c s₁, BodyLoose p l y (headSpec ws rm) cc maxL ret e s m args below meth c s₁ → c.maxLocals = maxL → Pc args s →
      W p l e (headSpec ws rm).room s m args below meth c s.heap [] 0 0 (vx_MQ below Qc XC args s mc ms free) (entryFrame m args maxL)) : vx_Met l y ws rm Pc Qc XC mc ms free := by
  refine MetFree.of_bodyS (code := cc) (maxLocals := maxL) (ret := ret) hy ?_ ?_
  · intro args s m h hn
    obtain ⟨m9, meth, c, hn9, h1, h2, h3, h4, -, h5, h6, -⟩ := Cond.codeWith_spec (atoms_spec (ws := ws) h _ (by rw [hw]; exact List.mem_cons_self))
    cases hn.symm.trans hn9
    exact ⟨meth, c, h1, h2, h3, h4, h5, h6⟩
  · intro p e s m args below meth c s₁ B hml hP _
    have hh0 : s₁.heap = s.heap := by rw [B.state]; rfl
    obtain ⟨t, a1, o, b1, b2, b3⟩ := body p e s m args below meth c s₁ B hml hP s₁ hh0 (Stand.of_body B)
    exact ⟨t, o, a1, b1, b2, b3⟩
/-! ===== END ===== -/
end
section
/-! ===== BEGIN printed: names, fields, word lists, decode rows ===== -/
def RX0 : String := "ParrotLog$Log"
def TX0 : u_T := fun k => match k with
  | 0 => ("ParrotLog$Log", "offsets", "[I", true)
  | 1 => ("ParrotLog$Log", "keys", "[I", true)
  | 2 => ("ParrotLog$Log", "values", "[I", true)
  | 3 => ("ParrotLog$Log", "stormNumbers", "[I", true)
  | 4 => ("ParrotLog$Log", "marked", "[Z", true)
  | 5 => ("ParrotLog$Log", "size", "I", false)
  | 6 => ("ParrotLog$Log", "next", "I", false)
  | _ => ("ParrotLog$Log", "droppedInAll", "I", false)
def tyX0 : Nat → FieldType := fun k => match k with
  | 0 => .array .int
  | 1 => .array .int
  | 2 => .array .int
  | 3 => .array .int
  | 4 => .array .boolean
  | 5 => .int
  | 6 => .int
  | _ => .int
abbrev wsX00 : List Cond := u_ws RX0 TX0 8
theorem nmX0 : ∀ a, a < 8 → ∀ b, b < 8 → a ≠ b → (TX0 a).2.1 ≠ (TX0 b).2.1 := by decide +kernel
theorem tyX0_ok : ∀ k, k < 8 → parseFieldDescriptor (TX0 k).2.2.1 = some (tyX0 k) := by decide +kernel
abbrev cX0_init : ByteArray := prog_2_method_1_code
def yX0_init : MethodName := ⟨RX0, "<init>", "()V"⟩
abbrev cX0_append : ByteArray := prog_2_method_2_code
def yX0_append : MethodName := ⟨RX0, "append", "(III)I"⟩
abbrev cX0_markFirst : ByteArray := prog_2_method_3_code
def yX0_markFirst : MethodName := ⟨RX0, "markFirst", "()V"⟩
abbrev cX0_markAhead : ByteArray := prog_2_method_4_code
def yX0_markAhead : MethodName := ⟨RX0, "markAhead", "(I)V"⟩
abbrev cX0_markCompacted : ByteArray := prog_2_method_5_code
def yX0_markCompacted : MethodName := ⟨RX0, "markCompacted", "(I)V"⟩
abbrev cX0_countMarked : ByteArray := prog_2_method_6_code
def yX0_countMarked : MethodName := ⟨RX0, "countMarked", "()I"⟩
abbrev cX0_countMarkedFrom : ByteArray := prog_2_method_7_code
def yX0_countMarkedFrom : MethodName := ⟨RX0, "countMarkedFrom", "(I)I"⟩
abbrev cX0_removeMarked : ByteArray := prog_2_method_8_code
def yX0_removeMarked : MethodName := ⟨RX0, "removeMarked", "()I"⟩
abbrev cX0_positionFrom : ByteArray := prog_2_method_9_code
def yX0_positionFrom : MethodName := ⟨RX0, "positionFrom", "(I)I"⟩
abbrev cX0_positionOf : ByteArray := prog_2_method_10_code
def yX0_positionOf : MethodName := ⟨RX0, "positionOf", "(I)I"⟩
abbrev cX0_latestPosition : ByteArray := prog_2_method_11_code
def yX0_latestPosition : MethodName := ⟨RX0, "latestPosition", "(III)I"⟩
abbrev cX0_latestOffset : ByteArray := prog_2_method_12_code
def yX0_latestOffset : MethodName := ⟨RX0, "latestOffset", "(I)I"⟩
abbrev cX0_latestValue : ByteArray := prog_2_method_13_code
def yX0_latestValue : MethodName := ⟨RX0, "latestValue", "(I)I"⟩
abbrev cX0_countKey : ByteArray := prog_2_method_14_code
def yX0_countKey : MethodName := ⟨RX0, "countKey", "(I)I"⟩
abbrev cX0_countStorm : ByteArray := prog_2_method_15_code
def yX0_countStorm : MethodName := ⟨RX0, "countStorm", "(I)I"⟩
abbrev cX0_countEqual : ByteArray := prog_2_method_16_code
def yX0_countEqual : MethodName := ⟨RX0, "countEqual", "([II)I"⟩
abbrev cX0_copyStorm : ByteArray := prog_2_method_17_code
def yX0_copyStorm : MethodName := ⟨RX0, "copyStorm", "(I[I[I)I"⟩
def RX1 : String := "ParrotLog$Ship"
def TX1 : u_T := fun k => match k with
  | 0 => ("ParrotLog$Ship", "known", "[I", true)
  | 1 => ("ParrotLog$Ship", "pace", "I", false)
  | 2 => ("ParrotLog$Ship", "offset", "I", false)
  | 3 => ("ParrotLog$Ship", "heard", "I", false)
  | _ => ("ParrotLog$Ship", "missed", "I", false)
def tyX1 : Nat → FieldType := fun k => match k with
  | 0 => .array .int
  | 1 => .int
  | 2 => .int
  | 3 => .int
  | _ => .int
abbrev wsX10 : List Cond := u_ws RX1 TX1 5
theorem nmX1 : ∀ a, a < 5 → ∀ b, b < 5 → a ≠ b → (TX1 a).2.1 ≠ (TX1 b).2.1 := by decide +kernel
theorem tyX1_ok : ∀ k, k < 5 → parseFieldDescriptor (TX1 k).2.2.1 = some (tyX1 k) := by decide +kernel
abbrev cX1_init : ByteArray := prog_3_method_1_code
def yX1_init : MethodName := ⟨RX1, "<init>", "()V"⟩
abbrev cX1_hear : ByteArray := prog_3_method_2_code
def yX1_hear : MethodName := ⟨RX1, "hear", "(III)V"⟩
def RX2 : String := "ParrotLog"
def TX2 : u_T := fun k => match k with
  | 0 => ("ParrotLog", "log", "LParrotLog$Log;", true)
  | 1 => ("ParrotLog", "saidInStorm", "[I", true)
  | 2 => ("ParrotLog", "fleet", "[LParrotLog$Ship;", true)
  | 3 => ("ParrotLog", "replayKeys", "[I", true)
  | 4 => ("ParrotLog", "replayValues", "[I", true)
  | 5 => ("ParrotLog", "hour", "I", false)
  | 6 => ("ParrotLog", "stormCount", "I", false)
  | 7 => ("ParrotLog", "stormOn", "Z", false)
  | _ => ("ParrotLog", "shipCount", "I", false)
def tyX2 : Nat → FieldType := fun k => match k with
  | 0 => .object "ParrotLog$Log"
  | 1 => .array .int
  | 2 => .array (.object "ParrotLog$Ship")
  | 3 => .array .int
  | 4 => .array .int
  | 5 => .int
  | 6 => .int
  | 7 => .boolean
  | _ => .int
abbrev wsX20 : List Cond := u_ws RX2 TX2 9
theorem nmX2 : ∀ a, a < 9 → ∀ b, b < 9 → a ≠ b → (TX2 a).2.1 ≠ (TX2 b).2.1 := by decide +kernel
theorem tyX2_ok : ∀ k, k < 9 → parseFieldDescriptor (TX2 k).2.2.1 = some (tyX2 k) := by decide +kernel
abbrev cX2_init : ByteArray := prog_1_method_1_code
def yX2_init : MethodName := ⟨RX2, "<init>", "()V"⟩
abbrev cX2_say : ByteArray := prog_1_method_2_code
def yX2_say : MethodName := ⟨RX2, "say", "(II)I"⟩
abbrev cX2_startStorm : ByteArray := prog_1_method_3_code
def yX2_startStorm : MethodName := ⟨RX2, "startStorm", "()I"⟩
abbrev cX2_endStorm : ByteArray := prog_1_method_4_code
def yX2_endStorm : MethodName := ⟨RX2, "endStorm", "()I"⟩
abbrev cX2_replay : ByteArray := prog_1_method_5_code
def yX2_replay : MethodName := ⟨RX2, "replay", "(I)I"⟩
abbrev cX2_compact : ByteArray := prog_1_method_6_code
def yX2_compact : MethodName := ⟨RX2, "compact", "()I"⟩
abbrev cX2_trimTo : ByteArray := prog_1_method_7_code
def yX2_trimTo : MethodName := ⟨RX2, "trimTo", "(I)I"⟩
abbrev cX2_addShip : ByteArray := prog_1_method_8_code
def yX2_addShip : MethodName := ⟨RX2, "addShip", "(II)I"⟩
abbrev cX2_seek : ByteArray := prog_1_method_9_code
def yX2_seek : MethodName := ⟨RX2, "seek", "(II)I"⟩
abbrev cX2_passHours : ByteArray := prog_1_method_10_code
def yX2_passHours : MethodName := ⟨RX2, "passHours", "(I)I"⟩
abbrev cX2_hours : ByteArray := prog_1_method_11_code
def yX2_hours : MethodName := ⟨RX2, "hours", "()I"⟩
abbrev cX2_phrases : ByteArray := prog_1_method_12_code
def yX2_phrases : MethodName := ⟨RX2, "phrases", "()I"⟩
abbrev cX2_nextOffset : ByteArray := prog_1_method_13_code
def yX2_nextOffset : MethodName := ⟨RX2, "nextOffset", "()I"⟩
abbrev cX2_firstOffset : ByteArray := prog_1_method_14_code
def yX2_firstOffset : MethodName := ⟨RX2, "firstOffset", "()I"⟩
abbrev cX2_dropped : ByteArray := prog_1_method_15_code
def yX2_dropped : MethodName := ⟨RX2, "dropped", "()I"⟩
abbrev cX2_isKept : ByteArray := prog_1_method_16_code
def yX2_isKept : MethodName := ⟨RX2, "isKept", "(I)Z"⟩
abbrev cX2_keyAt : ByteArray := prog_1_method_17_code
def yX2_keyAt : MethodName := ⟨RX2, "keyAt", "(I)I"⟩
abbrev cX2_valueAt : ByteArray := prog_1_method_18_code
def yX2_valueAt : MethodName := ⟨RX2, "valueAt", "(I)I"⟩
abbrev cX2_stormAt : ByteArray := prog_1_method_19_code
def yX2_stormAt : MethodName := ⟨RX2, "stormAt", "(I)I"⟩
abbrev cX2_latestOf : ByteArray := prog_1_method_20_code
def yX2_latestOf : MethodName := ⟨RX2, "latestOf", "(I)I"⟩
abbrev cX2_valueOf : ByteArray := prog_1_method_21_code
def yX2_valueOf : MethodName := ⟨RX2, "valueOf", "(I)I"⟩
abbrev cX2_countOf : ByteArray := prog_1_method_22_code
def yX2_countOf : MethodName := ⟨RX2, "countOf", "(I)I"⟩
abbrev cX2_storms : ByteArray := prog_1_method_23_code
def yX2_storms : MethodName := ⟨RX2, "storms", "()I"⟩
abbrev cX2_isStormy : ByteArray := prog_1_method_24_code
def yX2_isStormy : MethodName := ⟨RX2, "isStormy", "()Z"⟩
abbrev cX2_saidIn : ByteArray := prog_1_method_25_code
def yX2_saidIn : MethodName := ⟨RX2, "saidIn", "(I)I"⟩
abbrev cX2_keptOf : ByteArray := prog_1_method_26_code
def yX2_keptOf : MethodName := ⟨RX2, "keptOf", "(I)I"⟩
abbrev cX2_ships : ByteArray := prog_1_method_27_code
def yX2_ships : MethodName := ⟨RX2, "ships", "()I"⟩
abbrev cX2_offsetOf : ByteArray := prog_1_method_28_code
def yX2_offsetOf : MethodName := ⟨RX2, "offsetOf", "(I)I"⟩
abbrev cX2_lagOf : ByteArray := prog_1_method_29_code
def yX2_lagOf : MethodName := ⟨RX2, "lagOf", "(I)I"⟩
abbrev cX2_heardBy : ByteArray := prog_1_method_30_code
def yX2_heardBy : MethodName := ⟨RX2, "heardBy", "(I)I"⟩
abbrev cX2_missedBy : ByteArray := prog_1_method_31_code
def yX2_missedBy : MethodName := ⟨RX2, "missedBy", "(I)I"⟩
abbrev cX2_knownBy : ByteArray := prog_1_method_32_code
def yX2_knownBy : MethodName := ⟨RX2, "knownBy", "(II)I"⟩
abbrev cX2_errorsOf : ByteArray := prog_1_method_33_code
def yX2_errorsOf : MethodName := ⟨RX2, "errorsOf", "(I)I"⟩
abbrev cX2_farthestBehind : ByteArray := prog_1_method_34_code
def yX2_farthestBehind : MethodName := ⟨RX2, "farthestBehind", "()I"⟩
abbrev cX2_hoursUntilCaughtUp : ByteArray := prog_1_method_35_code
def yX2_hoursUntilCaughtUp : MethodName := ⟨RX2, "hoursUntilCaughtUp", "(I)I"⟩
abbrev cX2_errorsIn : ByteArray := prog_1_method_36_code
def yX2_errorsIn : MethodName := ⟨RX2, "errorsIn", "(II)I"⟩
abbrev cX2_paceWanted : ByteArray := prog_1_method_37_code
def yX2_paceWanted : MethodName := ⟨RX2, "paceWanted", "(II)I"⟩
abbrev cX2_wouldCompact : ByteArray := prog_1_method_38_code
def yX2_wouldCompact : MethodName := ⟨RX2, "wouldCompact", "()I"⟩
abbrev cX2_wouldMiss : ByteArray := prog_1_method_39_code
def yX2_wouldMiss : MethodName := ⟨RX2, "wouldMiss", "(I)I"⟩
abbrev cX2_meanLag : ByteArray := prog_1_method_40_code
def yX2_meanLag : MethodName := ⟨RX2, "meanLag", "()D"⟩
abbrev cX2_digest : ByteArray := prog_1_method_41_code
def yX2_digest : MethodName := ⟨RX2, "digest", "()J"⟩
abbrev cX2_mixKeys : ByteArray := prog_1_method_42_code
def yX2_mixKeys : MethodName := ⟨RX2, "mixKeys", "(J)J"⟩
abbrev cX2_mixStorms : ByteArray := prog_1_method_43_code
def yX2_mixStorms : MethodName := ⟨RX2, "mixStorms", "(J)J"⟩
abbrev cX2_mixShips : ByteArray := prog_1_method_44_code
def yX2_mixShips : MethodName := ⟨RX2, "mixShips", "(J)J"⟩
abbrev cX2_mix : ByteArray := prog_1_method_45_code
def yX2_mix : MethodName := ⟨RX2, "mix", "(JJ)J"⟩
abbrev cX2_speak : ByteArray := prog_1_method_46_code
def yX2_speak : MethodName := ⟨RX2, "speak", "(II)I"⟩
abbrev cX2_markCompacted : ByteArray := prog_1_method_47_code
def yX2_markCompacted : MethodName := ⟨RX2, "markCompacted", "()V"⟩
abbrev cX2_leastShipOffset : ByteArray := prog_1_method_48_code
def yX2_leastShipOffset : MethodName := ⟨RX2, "leastShipOffset", "()I"⟩
abbrev cX2_dropMarked : ByteArray := prog_1_method_49_code
def yX2_dropMarked : MethodName := ⟨RX2, "dropMarked", "()I"⟩
abbrev cX2_lag : ByteArray := prog_1_method_50_code
def yX2_lag : MethodName := ⟨RX2, "lag", "(LParrotLog$Ship;)I"⟩
abbrev cX2_mostHeard : ByteArray := prog_1_method_51_code
def yX2_mostHeard : MethodName := ⟨RX2, "mostHeard", "(II)I"⟩
abbrev cX2_hearNext : ByteArray := prog_1_method_52_code
def yX2_hearNext : MethodName := ⟨RX2, "hearNext", "(LParrotLog$Ship;I)I"⟩
abbrev cX2_hoursToGo : ByteArray := prog_1_method_53_code
def yX2_hoursToGo : MethodName := ⟨RX2, "hoursToGo", "(LParrotLog$Ship;)I"⟩
abbrev cX2_errorsAfter : ByteArray := prog_1_method_54_code
def yX2_errorsAfter : MethodName := ⟨RX2, "errorsAfter", "(LParrotLog$Ship;I)I"⟩
abbrev cX2_isKey : ByteArray := prog_1_method_55_code
def yX2_isKey : MethodName := ⟨RX2, "isKey", "(I)Z"⟩
abbrev cX2_checkKey : ByteArray := prog_1_method_56_code
def yX2_checkKey : MethodName := ⟨RX2, "checkKey", "(I)V"⟩
abbrev cX2_checkHours : ByteArray := prog_1_method_57_code
def yX2_checkHours : MethodName := ⟨RX2, "checkHours", "(I)V"⟩
abbrev cX2_checkReachable : ByteArray := prog_1_method_58_code
def yX2_checkReachable : MethodName := ⟨RX2, "checkReachable", "(I)V"⟩
abbrev cX2_checkStorm : ByteArray := prog_1_method_59_code
def yX2_checkStorm : MethodName := ⟨RX2, "checkStorm", "(I)V"⟩
abbrev cX2_shipNumbered : ByteArray := prog_1_method_60_code
def yX2_shipNumbered : MethodName := ⟨RX2, "shipNumbered", "(I)LParrotLog$Ship;"⟩
abbrev cX2_keptPosition : ByteArray := prog_1_method_61_code
def yX2_keptPosition : MethodName := ⟨RX2, "keptPosition", "(I)I"⟩
def RX3 : String := "ParrotLogModel"
def TX3 : u_T := fun k => match k with
  | 0 => ("ParrotLogModel", "thrown", "I", false)
  | 1 => ("ParrotLogModel", "many", "I", false)
  | 2 => ("ParrotLogModel", "offset", "[I", true)
  | 3 => ("ParrotLogModel", "key", "[I", true)
  | 4 => ("ParrotLogModel", "value", "[I", true)
  | 5 => ("ParrotLogModel", "storm", "[I", true)
  | 6 => ("ParrotLogModel", "goes", "[Z", true)
  | 7 => ("ParrotLogModel", "next", "I", false)
  | 8 => ("ParrotLogModel", "dropped", "I", false)
  | 9 => ("ParrotLogModel", "hours", "I", false)
  | 10 => ("ParrotLogModel", "storms", "I", false)
  | 11 => ("ParrotLogModel", "isOn", "Z", false)
  | 12 => ("ParrotLogModel", "said", "[I", true)
  | 13 => ("ParrotLogModel", "ships", "I", false)
  | 14 => ("ParrotLogModel", "pace", "[I", true)
  | 15 => ("ParrotLogModel", "at", "[I", true)
  | 16 => ("ParrotLogModel", "heard", "[I", true)
  | 17 => ("ParrotLogModel", "missed", "[I", true)
  | _ => ("ParrotLogModel", "known", "[I", true)
def tyX3 : Nat → FieldType := fun k => match k with
  | 0 => .int
  | 1 => .int
  | 2 => .array .int
  | 3 => .array .int
  | 4 => .array .int
  | 5 => .array .int
  | 6 => .array .boolean
  | 7 => .int
  | 8 => .int
  | 9 => .int
  | 10 => .int
  | 11 => .boolean
  | 12 => .array .int
  | 13 => .int
  | 14 => .array .int
  | 15 => .array .int
  | 16 => .array .int
  | 17 => .array .int
  | _ => .array .int
abbrev wsX30 : List Cond := u_ws RX3 TX3 19
theorem nmX3 : ∀ a, a < 19 → ∀ b, b < 19 → a ≠ b → (TX3 a).2.1 ≠ (TX3 b).2.1 := by decide +kernel
theorem tyX3_ok : ∀ k, k < 19 → parseFieldDescriptor (TX3 k).2.2.1 = some (tyX3 k) := by decide +kernel
abbrev cX3_init : ByteArray := prog_5_method_1_code
def yX3_init : MethodName := ⟨RX3, "<init>", "()V"⟩
abbrev cX3_thrown : ByteArray := prog_5_method_2_code
def yX3_thrown : MethodName := ⟨RX3, "thrown", "()I"⟩
abbrev cX3_fail : ByteArray := prog_5_method_3_code
def yX3_fail : MethodName := ⟨RX3, "fail", "(I)I"⟩
abbrev cX3_told : ByteArray := prog_5_method_4_code
def yX3_told : MethodName := ⟨RX3, "told", "(I)I"⟩
abbrev cX3_isIn : ByteArray := prog_5_method_5_code
def yX3_isIn : MethodName := ⟨RX3, "isIn", "(III)Z"⟩
abbrev cX3_isShip : ByteArray := prog_5_method_6_code
def yX3_isShip : MethodName := ⟨RX3, "isShip", "(I)Z"⟩
abbrev cX3_isStorm : ByteArray := prog_5_method_7_code
def yX3_isStorm : MethodName := ⟨RX3, "isStorm", "(I)Z"⟩
abbrev cX3_isKey : ByteArray := prog_5_method_8_code
def yX3_isKey : MethodName := ⟨RX3, "isKey", "(I)Z"⟩
abbrev cX3_drop : ByteArray := prog_5_method_9_code
def yX3_drop : MethodName := ⟨RX3, "drop", "()I"⟩
abbrev cX3_put : ByteArray := prog_5_method_10_code
def yX3_put : MethodName := ⟨RX3, "put", "(II)V"⟩
abbrev cX3_mark : ByteArray := prog_5_method_11_code
def yX3_mark : MethodName := ⟨RX3, "mark", "()I"⟩
abbrev cX3_say : ByteArray := prog_5_method_12_code
def yX3_say : MethodName := ⟨RX3, "say", "(II)I"⟩
abbrev cX3_startStorm : ByteArray := prog_5_method_13_code
def yX3_startStorm : MethodName := ⟨RX3, "startStorm", "()I"⟩
abbrev cX3_endStorm : ByteArray := prog_5_method_14_code
def yX3_endStorm : MethodName := ⟨RX3, "endStorm", "()I"⟩
abbrev cX3_replay : ByteArray := prog_5_method_15_code
def yX3_replay : MethodName := ⟨RX3, "replay", "(I)I"⟩
abbrev cX3_compact : ByteArray := prog_5_method_16_code
def yX3_compact : MethodName := ⟨RX3, "compact", "()I"⟩
abbrev cX3_trimTo : ByteArray := prog_5_method_17_code
def yX3_trimTo : MethodName := ⟨RX3, "trimTo", "(I)I"⟩
abbrev cX3_addShip : ByteArray := prog_5_method_18_code
def yX3_addShip : MethodName := ⟨RX3, "addShip", "(II)I"⟩
abbrev cX3_seek : ByteArray := prog_5_method_19_code
def yX3_seek : MethodName := ⟨RX3, "seek", "(II)I"⟩
abbrev cX3_from : ByteArray := prog_5_method_20_code
def yX3_from : MethodName := ⟨RX3, "from", "(I)I"⟩
abbrev cX3_lag : ByteArray := prog_5_method_21_code
def yX3_lag : MethodName := ⟨RX3, "lag", "(I)I"⟩
abbrev cX3_passHours : ByteArray := prog_5_method_22_code
def yX3_passHours : MethodName := ⟨RX3, "passHours", "(I)I"⟩
abbrev cX3_hours : ByteArray := prog_5_method_23_code
def yX3_hours : MethodName := ⟨RX3, "hours", "()I"⟩
abbrev cX3_phrases : ByteArray := prog_5_method_24_code
def yX3_phrases : MethodName := ⟨RX3, "phrases", "()I"⟩
abbrev cX3_nextOffset : ByteArray := prog_5_method_25_code
def yX3_nextOffset : MethodName := ⟨RX3, "nextOffset", "()I"⟩
abbrev cX3_first : ByteArray := prog_5_method_26_code
def yX3_first : MethodName := ⟨RX3, "first", "()I"⟩
abbrev cX3_firstOffset : ByteArray := prog_5_method_27_code
def yX3_firstOffset : MethodName := ⟨RX3, "firstOffset", "()I"⟩
abbrev cX3_dropped : ByteArray := prog_5_method_28_code
def yX3_dropped : MethodName := ⟨RX3, "dropped", "()I"⟩
abbrev cX3_place : ByteArray := prog_5_method_29_code
def yX3_place : MethodName := ⟨RX3, "place", "(I)I"⟩
abbrev cX3_isKept : ByteArray := prog_5_method_30_code
def yX3_isKept : MethodName := ⟨RX3, "isKept", "(I)Z"⟩
abbrev cX3_of : ByteArray := prog_5_method_31_code
def yX3_of : MethodName := ⟨RX3, "of", "(I[I)I"⟩
abbrev cX3_keyAt : ByteArray := prog_5_method_32_code
def yX3_keyAt : MethodName := ⟨RX3, "keyAt", "(I)I"⟩
abbrev cX3_valueAt : ByteArray := prog_5_method_33_code
def yX3_valueAt : MethodName := ⟨RX3, "valueAt", "(I)I"⟩
abbrev cX3_stormAt : ByteArray := prog_5_method_34_code
def yX3_stormAt : MethodName := ⟨RX3, "stormAt", "(I)I"⟩
abbrev cX3_last : ByteArray := prog_5_method_35_code
def yX3_last : MethodName := ⟨RX3, "last", "(I)I"⟩
abbrev cX3_latest : ByteArray := prog_5_method_36_code
def yX3_latest : MethodName := ⟨RX3, "latest", "(I)I"⟩
abbrev cX3_worth : ByteArray := prog_5_method_37_code
def yX3_worth : MethodName := ⟨RX3, "worth", "(I)I"⟩
abbrev cX3_count : ByteArray := prog_5_method_38_code
def yX3_count : MethodName := ⟨RX3, "count", "(I)I"⟩
abbrev cX3_latestOf : ByteArray := prog_5_method_39_code
def yX3_latestOf : MethodName := ⟨RX3, "latestOf", "(I)I"⟩
abbrev cX3_valueOf : ByteArray := prog_5_method_40_code
def yX3_valueOf : MethodName := ⟨RX3, "valueOf", "(I)I"⟩
abbrev cX3_countOf : ByteArray := prog_5_method_41_code
def yX3_countOf : MethodName := ⟨RX3, "countOf", "(I)I"⟩
abbrev cX3_storms : ByteArray := prog_5_method_42_code
def yX3_storms : MethodName := ⟨RX3, "storms", "()I"⟩
abbrev cX3_isStormy : ByteArray := prog_5_method_43_code
def yX3_isStormy : MethodName := ⟨RX3, "isStormy", "()Z"⟩
abbrev cX3_saidIn : ByteArray := prog_5_method_44_code
def yX3_saidIn : MethodName := ⟨RX3, "saidIn", "(I)I"⟩
abbrev cX3_kept : ByteArray := prog_5_method_45_code
def yX3_kept : MethodName := ⟨RX3, "kept", "(I)I"⟩
abbrev cX3_keptOf : ByteArray := prog_5_method_46_code
def yX3_keptOf : MethodName := ⟨RX3, "keptOf", "(I)I"⟩
abbrev cX3_ships : ByteArray := prog_5_method_47_code
def yX3_ships : MethodName := ⟨RX3, "ships", "()I"⟩
abbrev cX3_ship : ByteArray := prog_5_method_48_code
def yX3_ship : MethodName := ⟨RX3, "ship", "(I[I)I"⟩
abbrev cX3_offsetOf : ByteArray := prog_5_method_49_code
def yX3_offsetOf : MethodName := ⟨RX3, "offsetOf", "(I)I"⟩
abbrev cX3_lagOf : ByteArray := prog_5_method_50_code
def yX3_lagOf : MethodName := ⟨RX3, "lagOf", "(I)I"⟩
abbrev cX3_heardBy : ByteArray := prog_5_method_51_code
def yX3_heardBy : MethodName := ⟨RX3, "heardBy", "(I)I"⟩
abbrev cX3_missedBy : ByteArray := prog_5_method_52_code
def yX3_missedBy : MethodName := ⟨RX3, "missedBy", "(I)I"⟩
abbrev cX3_knownBy : ByteArray := prog_5_method_53_code
def yX3_knownBy : MethodName := ⟨RX3, "knownBy", "(II)I"⟩
abbrev cX3_errors : ByteArray := prog_5_method_54_code
def yX3_errors : MethodName := ⟨RX3, "errors", "(II)I"⟩
abbrev cX3_errorsOf : ByteArray := prog_5_method_55_code
def yX3_errorsOf : MethodName := ⟨RX3, "errorsOf", "(I)I"⟩
abbrev cX3_behind : ByteArray := prog_5_method_56_code
def yX3_behind : MethodName := ⟨RX3, "behind", "()I"⟩
abbrev cX3_farthestBehind : ByteArray := prog_5_method_57_code
def yX3_farthestBehind : MethodName := ⟨RX3, "farthestBehind", "()I"⟩
abbrev cX3_until : ByteArray := prog_5_method_58_code
def yX3_until : MethodName := ⟨RX3, "until", "(I)I"⟩
abbrev cX3_hoursUntilCaughtUp : ByteArray := prog_5_method_59_code
def yX3_hoursUntilCaughtUp : MethodName := ⟨RX3, "hoursUntilCaughtUp", "(I)I"⟩
abbrev cX3_errorsIn : ByteArray := prog_5_method_60_code
def yX3_errorsIn : MethodName := ⟨RX3, "errorsIn", "(II)I"⟩
abbrev cX3_paceWanted : ByteArray := prog_5_method_61_code
def yX3_paceWanted : MethodName := ⟨RX3, "paceWanted", "(II)I"⟩
abbrev cX3_wouldCompact : ByteArray := prog_5_method_62_code
def yX3_wouldCompact : MethodName := ⟨RX3, "wouldCompact", "()I"⟩
abbrev cX3_misses : ByteArray := prog_5_method_63_code
def yX3_misses : MethodName := ⟨RX3, "misses", "(I)I"⟩
abbrev cX3_wouldMiss : ByteArray := prog_5_method_64_code
def yX3_wouldMiss : MethodName := ⟨RX3, "wouldMiss", "(I)I"⟩
abbrev cX3_meanLag : ByteArray := prog_5_method_65_code
def yX3_meanLag : MethodName := ⟨RX3, "meanLag", "()D"⟩
abbrev cX3_digest : ByteArray := prog_5_method_66_code
def yX3_digest : MethodName := ⟨RX3, "digest", "()J"⟩
def RJ9 : String := "java/lang/Math"
def TJ9 : u_T := fun k => match k with
  | _ => ("", "", "", false)
def tyJ9 : Nat → FieldType := fun k => match k with
  | _ => .int
abbrev wsJ90 : List Cond := u_ws RJ9 TJ9 0
theorem nmJ9 : ∀ a, a < 0 → ∀ b, b < 0 → a ≠ b → (TJ9 a).2.1 ≠ (TJ9 b).2.1 := by decide +kernel
theorem tyJ9_ok : ∀ k, k < 0 → parseFieldDescriptor (TJ9 k).2.2.1 = some (tyJ9 k) := by decide +kernel
abbrev cJ9_max_7cf53 : ByteArray := prog_10_method_65_code
def yJ9_max_7cf53 : MethodName := ⟨RJ9, "max", "(II)I"⟩
abbrev cJ9_min_7cf53 : ByteArray := prog_10_method_69_code
def yJ9_min_7cf53 : MethodName := ⟨RJ9, "min", "(II)I"⟩
def RJ0 : String := "java/lang/String"
def TJ0 : u_T := fun k => match k with
  | _ => ("", "", "", false)
def tyJ0 : Nat → FieldType := fun k => match k with
  | _ => .int
abbrev wsJ00 : List Cond := u_ws RJ0 TJ0 0
theorem nmJ0 : ∀ a, a < 0 → ∀ b, b < 0 → a ≠ b → (TJ0 a).2.1 ≠ (TJ0 b).2.1 := by decide +kernel
theorem tyJ0_ok : ∀ k, k < 0 → parseFieldDescriptor (TJ0 k).2.2.1 = some (tyJ0 k) := by decide +kernel
def RL : String := "ParrotLogLaw"
abbrev cL_say : ByteArray := method_3_code
def yL_say : MethodName := ⟨RL, "say", "(LParrotLog;II[J)I"⟩
abbrev cL_startStorm : ByteArray := method_4_code
def yL_startStorm : MethodName := ⟨RL, "startStorm", "(LParrotLog;[J)I"⟩
abbrev cL_endStorm : ByteArray := method_5_code
def yL_endStorm : MethodName := ⟨RL, "endStorm", "(LParrotLog;[J)I"⟩
abbrev cL_replay : ByteArray := method_6_code
def yL_replay : MethodName := ⟨RL, "replay", "(LParrotLog;I[J)I"⟩
abbrev cL_trimTo : ByteArray := method_7_code
def yL_trimTo : MethodName := ⟨RL, "trimTo", "(LParrotLog;I[J)I"⟩
abbrev cL_addShip : ByteArray := method_8_code
def yL_addShip : MethodName := ⟨RL, "addShip", "(LParrotLog;II[J)I"⟩
abbrev cL_seek : ByteArray := method_9_code
def yL_seek : MethodName := ⟨RL, "seek", "(LParrotLog;II[J)I"⟩
abbrev cL_passHours : ByteArray := method_10_code
def yL_passHours : MethodName := ⟨RL, "passHours", "(LParrotLog;I[J)I"⟩
abbrev cL_keyAt : ByteArray := method_11_code
def yL_keyAt : MethodName := ⟨RL, "keyAt", "(LParrotLog;I[J)I"⟩
abbrev cL_valueAt : ByteArray := method_12_code
def yL_valueAt : MethodName := ⟨RL, "valueAt", "(LParrotLog;I[J)I"⟩
abbrev cL_stormAt : ByteArray := method_13_code
def yL_stormAt : MethodName := ⟨RL, "stormAt", "(LParrotLog;I[J)I"⟩
abbrev cL_latestOf : ByteArray := method_14_code
def yL_latestOf : MethodName := ⟨RL, "latestOf", "(LParrotLog;I[J)I"⟩
abbrev cL_valueOf : ByteArray := method_15_code
def yL_valueOf : MethodName := ⟨RL, "valueOf", "(LParrotLog;I[J)I"⟩
abbrev cL_countOf : ByteArray := method_16_code
def yL_countOf : MethodName := ⟨RL, "countOf", "(LParrotLog;I[J)I"⟩
abbrev cL_saidIn : ByteArray := method_17_code
def yL_saidIn : MethodName := ⟨RL, "saidIn", "(LParrotLog;I[J)I"⟩
abbrev cL_keptOf : ByteArray := method_18_code
def yL_keptOf : MethodName := ⟨RL, "keptOf", "(LParrotLog;I[J)I"⟩
abbrev cL_offsetOf : ByteArray := method_19_code
def yL_offsetOf : MethodName := ⟨RL, "offsetOf", "(LParrotLog;I[J)I"⟩
abbrev cL_lagOf : ByteArray := method_20_code
def yL_lagOf : MethodName := ⟨RL, "lagOf", "(LParrotLog;I[J)I"⟩
abbrev cL_heardBy : ByteArray := method_21_code
def yL_heardBy : MethodName := ⟨RL, "heardBy", "(LParrotLog;I[J)I"⟩
abbrev cL_missedBy : ByteArray := method_22_code
def yL_missedBy : MethodName := ⟨RL, "missedBy", "(LParrotLog;I[J)I"⟩
abbrev cL_knownBy : ByteArray := method_23_code
def yL_knownBy : MethodName := ⟨RL, "knownBy", "(LParrotLog;II[J)I"⟩
abbrev cL_errorsOf : ByteArray := method_24_code
def yL_errorsOf : MethodName := ⟨RL, "errorsOf", "(LParrotLog;I[J)I"⟩
abbrev cL_hoursUntilCaughtUp : ByteArray := method_25_code
def yL_hoursUntilCaughtUp : MethodName := ⟨RL, "hoursUntilCaughtUp", "(LParrotLog;I[J)I"⟩
abbrev cL_errorsIn : ByteArray := method_26_code
def yL_errorsIn : MethodName := ⟨RL, "errorsIn", "(LParrotLog;II[J)I"⟩
abbrev cL_paceWanted : ByteArray := method_27_code
def yL_paceWanted : MethodName := ⟨RL, "paceWanted", "(LParrotLog;II[J)I"⟩
abbrev cL_wouldMiss : ByteArray := method_28_code
def yL_wouldMiss : MethodName := ⟨RL, "wouldMiss", "(LParrotLog;I[J)I"⟩
abbrev cL_law : ByteArray := code
def yL_law : MethodName := ⟨RL, "law", "([I)Z"⟩
def wsX0_init : List Cond := .code yX0_init cX0_init 1 none :: ([.methodLink RX0 3 objectInit, .instanceMethod objectInit, .code objectInit ⟨#[0xb1]⟩ 1 none, .arrayClass .int, .fieldLink RX0 9 "ParrotLog$Log" "offsets" "[I", .fieldLink RX0 15 "ParrotLog$Log" "keys" "[I", .fieldLink RX0 18 "ParrotLog$Log" "values" "[I", .fieldLink RX0 21 "ParrotLog$Log" "stormNumbers" "[I", .arrayClass .boolean, .fieldLink RX0 24 "ParrotLog$Log" "marked" "[Z"] ++ wsX00)
def wsX0_append : List Cond := .code yX0_append cX0_append 4 (some .int) :: ([.fieldLink RX0 9 "ParrotLog$Log" "offsets" "[I", .fieldLink RX0 28 "ParrotLog$Log" "size" "I", .fieldLink RX0 32 "ParrotLog$Log" "next" "I", .fieldLink RX0 15 "ParrotLog$Log" "keys" "[I", .fieldLink RX0 18 "ParrotLog$Log" "values" "[I", .fieldLink RX0 21 "ParrotLog$Log" "stormNumbers" "[I"] ++ wsX00)
def wsX0_markFirst : List Cond := .code yX0_markFirst cX0_markFirst 2 none :: ([.fieldLink RX0 28 "ParrotLog$Log" "size" "I", .fieldLink RX0 24 "ParrotLog$Log" "marked" "[Z"] ++ wsX00)
def wsX0_markAhead : List Cond := .code yX0_markAhead cX0_markAhead 3 none :: ([.fieldLink RX0 28 "ParrotLog$Log" "size" "I", .fieldLink RX0 24 "ParrotLog$Log" "marked" "[Z", .fieldLink RX0 9 "ParrotLog$Log" "offsets" "[I"] ++ wsX00)
def wsX0_latestPosition : List Cond := .code yX0_latestPosition cX0_latestPosition 5 (some .int) :: ([.fieldLink RX0 15 "ParrotLog$Log" "keys" "[I"] ++ wsX00)
def wsX0_markCompacted : List Cond := .code yX0_markCompacted cX0_markCompacted 5 none :: ([.fieldLink RX0 28 "ParrotLog$Log" "size" "I", .fieldLink RX0 15 "ParrotLog$Log" "keys" "[I", .fieldLink RX0 18 "ParrotLog$Log" "values" "[I", .fieldLink RX0 9 "ParrotLog$Log" "offsets" "[I", .fieldLink RX0 24 "ParrotLog$Log" "marked" "[Z", .methodLink RX0 35 yX0_latestPosition, .instanceMethod yX0_latestPosition, .selects RX0 yX0_latestPosition yX0_latestPosition, .initialized RX0, .code yX0_latestPosition cX0_latestPosition 5 (some .int)] ++ wsX00)
def wsX0_positionFrom : List Cond := .code yX0_positionFrom cX0_positionFrom 3 (some .int) :: ([.fieldLink RX0 28 "ParrotLog$Log" "size" "I", .fieldLink RX0 9 "ParrotLog$Log" "offsets" "[I"] ++ wsX00)
def wsX0_countMarkedFrom : List Cond := .code yX0_countMarkedFrom cX0_countMarkedFrom 4 (some .int) :: ([.fieldLink RX0 28 "ParrotLog$Log" "size" "I", .fieldLink RX0 24 "ParrotLog$Log" "marked" "[Z", .methodLink RX0 43 yX0_positionFrom, .instanceMethod yX0_positionFrom, .selects RX0 yX0_positionFrom yX0_positionFrom, .initialized RX0, .code yX0_positionFrom cX0_positionFrom 3 (some .int), .fieldLink RX0 9 "ParrotLog$Log" "offsets" "[I"] ++ wsX00)
def wsX0_countMarked : List Cond := .code yX0_countMarked cX0_countMarked 1 (some .int) :: ([.methodLink RX0 39 yX0_countMarkedFrom, .instanceMethod yX0_countMarkedFrom, .selects RX0 yX0_countMarkedFrom yX0_countMarkedFrom, .initialized RX0, .code yX0_countMarkedFrom cX0_countMarkedFrom 4 (some .int), .fieldLink RX0 28 "ParrotLog$Log" "size" "I", .fieldLink RX0 24 "ParrotLog$Log" "marked" "[Z", .methodLink RX0 43 yX0_positionFrom, .instanceMethod yX0_positionFrom, .selects RX0 yX0_positionFrom yX0_positionFrom, .code yX0_positionFrom cX0_positionFrom 3 (some .int), .fieldLink RX0 9 "ParrotLog$Log" "offsets" "[I"] ++ wsX00)
def wsX0_removeMarked : List Cond := .code yX0_removeMarked cX0_removeMarked 3 (some .int) :: ([.fieldLink RX0 28 "ParrotLog$Log" "size" "I", .fieldLink RX0 24 "ParrotLog$Log" "marked" "[Z", .fieldLink RX0 9 "ParrotLog$Log" "offsets" "[I", .fieldLink RX0 15 "ParrotLog$Log" "keys" "[I", .fieldLink RX0 18 "ParrotLog$Log" "values" "[I", .fieldLink RX0 21 "ParrotLog$Log" "stormNumbers" "[I", .fieldLink RX0 46 "ParrotLog$Log" "droppedInAll" "I"] ++ wsX00)
def wsX0_positionOf : List Cond := .code yX0_positionOf cX0_positionOf 3 (some .int) :: ([.fieldLink RX0 28 "ParrotLog$Log" "size" "I", .fieldLink RX0 9 "ParrotLog$Log" "offsets" "[I", .methodLink RX0 43 yX0_positionFrom, .instanceMethod yX0_positionFrom, .selects RX0 yX0_positionFrom yX0_positionFrom, .initialized RX0, .code yX0_positionFrom cX0_positionFrom 3 (some .int)] ++ wsX00)
def wsX0_latestOffset : List Cond := .code yX0_latestOffset cX0_latestOffset 3 (some .int) :: ([.fieldLink RX0 28 "ParrotLog$Log" "size" "I", .fieldLink RX0 9 "ParrotLog$Log" "offsets" "[I", .methodLink RX0 35 yX0_latestPosition, .instanceMethod yX0_latestPosition, .selects RX0 yX0_latestPosition yX0_latestPosition, .initialized RX0, .code yX0_latestPosition cX0_latestPosition 5 (some .int), .fieldLink RX0 15 "ParrotLog$Log" "keys" "[I"] ++ wsX00)
def wsX0_latestValue : List Cond := .code yX0_latestValue cX0_latestValue 3 (some .int) :: ([.fieldLink RX0 28 "ParrotLog$Log" "size" "I", .fieldLink RX0 18 "ParrotLog$Log" "values" "[I", .methodLink RX0 35 yX0_latestPosition, .instanceMethod yX0_latestPosition, .selects RX0 yX0_latestPosition yX0_latestPosition, .initialized RX0, .code yX0_latestPosition cX0_latestPosition 5 (some .int), .fieldLink RX0 15 "ParrotLog$Log" "keys" "[I"] ++ wsX00)
def wsX0_countEqual : List Cond := .code yX0_countEqual cX0_countEqual 5 (some .int) :: ([.fieldLink RX0 28 "ParrotLog$Log" "size" "I"] ++ wsX00)
def wsX0_countKey : List Cond := .code yX0_countKey cX0_countKey 2 (some .int) :: ([.fieldLink RX0 15 "ParrotLog$Log" "keys" "[I", .methodLink RX0 49 yX0_countEqual, .instanceMethod yX0_countEqual, .selects RX0 yX0_countEqual yX0_countEqual, .initialized RX0, .code yX0_countEqual cX0_countEqual 5 (some .int), .fieldLink RX0 28 "ParrotLog$Log" "size" "I"] ++ wsX00)
def wsX0_countStorm : List Cond := .code yX0_countStorm cX0_countStorm 2 (some .int) :: ([.fieldLink RX0 21 "ParrotLog$Log" "stormNumbers" "[I", .methodLink RX0 49 yX0_countEqual, .instanceMethod yX0_countEqual, .selects RX0 yX0_countEqual yX0_countEqual, .initialized RX0, .code yX0_countEqual cX0_countEqual 5 (some .int), .fieldLink RX0 28 "ParrotLog$Log" "size" "I"] ++ wsX00)
def wsX0_copyStorm : List Cond := .code yX0_copyStorm cX0_copyStorm 6 (some .int) :: ([.fieldLink RX0 28 "ParrotLog$Log" "size" "I", .fieldLink RX0 21 "ParrotLog$Log" "stormNumbers" "[I", .fieldLink RX0 15 "ParrotLog$Log" "keys" "[I", .fieldLink RX0 18 "ParrotLog$Log" "values" "[I"] ++ wsX00)
def wsX1_init : List Cond := .code yX1_init cX1_init 1 none :: ([.methodLink RX1 3 objectInit, .instanceMethod objectInit, .code objectInit ⟨#[0xb1]⟩ 1 none, .arrayClass .int, .fieldLink RX1 9 "ParrotLog$Ship" "known" "[I"] ++ wsX10)
def wsX1_hear : List Cond := .code yX1_hear cX1_hear 4 none :: ([.fieldLink RX1 9 "ParrotLog$Ship" "known" "[I", .fieldLink RX1 15 "ParrotLog$Ship" "offset" "I", .fieldLink RX1 19 "ParrotLog$Ship" "heard" "I"] ++ wsX10)
def wsX2_init_r1 : List Cond := [Cond.methodLink RX2 1 objectInit, Cond.instanceMethod objectInit, Cond.code objectInit ⟨#[0xb1]⟩ 1 none, Cond.classLink RX2 7 RX0, Cond.instantiable RX0 8, Cond.initialized RX0, Cond.fieldLink RX2 10 "ParrotLog" "log" "LParrotLog$Log;", Cond.arrayClass .int, Cond.fieldLink RX2 16 "ParrotLog" "saidInStorm" "[I", Cond.classLink RX2 20 RX1, Cond.fieldLink RX2 22 "ParrotLog" "fleet" "[LParrotLog$Ship;", Cond.instantiable RX1 5, Cond.initialized RX1, Cond.fieldLink RX2 27 "ParrotLog" "replayKeys" "[I", Cond.fieldLink RX2 30 "ParrotLog" "replayValues" "[I", Cond.instanceMethod yX0_init, Cond.code yX0_init cX0_init 1 none, Cond.methodLink RX0 3 objectInit, Cond.fieldLink RX0 9 "ParrotLog$Log" "offsets" "[I", Cond.fieldLink RX0 15 "ParrotLog$Log" "keys" "[I", Cond.fieldLink RX0 18 "ParrotLog$Log" "values" "[I", Cond.fieldLink RX0 21 "ParrotLog$Log" "stormNumbers" "[I", Cond.arrayClass .boolean, Cond.fieldLink RX0 24 "ParrotLog$Log" "marked" "[Z"]
def wsX2_init_r2 : List Cond := [Cond.instanceMethod yX1_init, Cond.code yX1_init cX1_init 1 none, Cond.methodLink RX1 3 objectInit, Cond.fieldLink RX1 9 "ParrotLog$Ship" "known" "[I"]
def wsX2_init : List Cond := .code yX2_init cX2_init 2 none :: ((wsX2_init_r1 ++ wsX2_init_r2) ++ wsX00 ++ wsX20 ++ wsX10)
def wsX2_isKey : List Cond := .code yX2_isKey cX2_isKey 1 (some .boolean) :: ([])
def wsX2_dropMarked : List Cond := .code yX2_dropMarked cX2_dropMarked 2 (some .int) :: ([.fieldLink RX2 90 "ParrotLog" "shipCount" "I", .fieldLink RX2 22 "ParrotLog" "fleet" "[LParrotLog$Ship;", .fieldLink RX2 10 "ParrotLog" "log" "LParrotLog$Log;", .instanceMethod yX0_countMarkedFrom, .initialized RX0, .selects RX0 yX0_countMarkedFrom yX0_countMarkedFrom, .code yX0_countMarkedFrom cX0_countMarkedFrom 4 (some .int), .fieldLink RX0 28 "ParrotLog$Log" "size" "I", .fieldLink RX0 24 "ParrotLog$Log" "marked" "[Z", .methodLink RX0 43 yX0_positionFrom, .instanceMethod yX0_positionFrom, .selects RX0 yX0_positionFrom yX0_positionFrom, .code yX0_positionFrom cX0_positionFrom 3 (some .int), .fieldLink RX0 9 "ParrotLog$Log" "offsets" "[I", .instanceMethod yX0_removeMarked, .selects RX0 yX0_removeMarked yX0_removeMarked, .code yX0_removeMarked cX0_removeMarked 3 (some .int), .fieldLink RX0 15 "ParrotLog$Log" "keys" "[I", .fieldLink RX0 18 "ParrotLog$Log" "values" "[I", .fieldLink RX0 21 "ParrotLog$Log" "stormNumbers" "[I", .fieldLink RX0 46 "ParrotLog$Log" "droppedInAll" "I"] ++ wsX20 ++ wsX10 ++ wsX00)
def wsX2_speak_r1 : List Cond := [Cond.fieldLink RX2 10 "ParrotLog" "log" "LParrotLog$Log;", Cond.fieldLink RX2 50 "ParrotLog" "stormOn" "Z", Cond.fieldLink RX2 59 "ParrotLog" "stormCount" "I", Cond.fieldLink RX2 16 "ParrotLog" "saidInStorm" "[I", Cond.instanceMethod yX0_markFirst, Cond.initialized RX0, Cond.selects RX0 yX0_markFirst yX0_markFirst, Cond.code yX0_markFirst cX0_markFirst 2 none, Cond.fieldLink RX0 28 "ParrotLog$Log" "size" "I", Cond.fieldLink RX0 24 "ParrotLog$Log" "marked" "[Z", Cond.methodLink RX2 78 yX2_dropMarked, Cond.instanceMethod yX2_dropMarked, Cond.selects RX2 yX2_dropMarked yX2_dropMarked, Cond.initialized RX2, Cond.code yX2_dropMarked cX2_dropMarked 2 (some .int), Cond.fieldLink RX2 90 "ParrotLog" "shipCount" "I", Cond.fieldLink RX2 22 "ParrotLog" "fleet" "[LParrotLog$Ship;", Cond.instanceMethod yX0_countMarkedFrom, Cond.selects RX0 yX0_countMarkedFrom yX0_countMarkedFrom, Cond.code yX0_countMarkedFrom cX0_countMarkedFrom 4 (some .int), Cond.methodLink RX0 43 yX0_positionFrom, Cond.instanceMethod yX0_positionFrom, Cond.selects RX0 yX0_positionFrom yX0_positionFrom, Cond.code yX0_positionFrom cX0_positionFrom 3 (some .int)]
def wsX2_speak_r2 : List Cond := [Cond.fieldLink RX0 9 "ParrotLog$Log" "offsets" "[I", Cond.instanceMethod yX0_removeMarked, Cond.selects RX0 yX0_removeMarked yX0_removeMarked, Cond.code yX0_removeMarked cX0_removeMarked 3 (some .int), Cond.fieldLink RX0 15 "ParrotLog$Log" "keys" "[I", Cond.fieldLink RX0 18 "ParrotLog$Log" "values" "[I", Cond.fieldLink RX0 21 "ParrotLog$Log" "stormNumbers" "[I", Cond.fieldLink RX0 46 "ParrotLog$Log" "droppedInAll" "I", Cond.instanceMethod yX0_append, Cond.selects RX0 yX0_append yX0_append, Cond.code yX0_append cX0_append 4 (some .int), Cond.fieldLink RX0 32 "ParrotLog$Log" "next" "I"]
def wsX2_speak : List Cond := .code yX2_speak cX2_speak 4 (some .int) :: ((wsX2_speak_r1 ++ wsX2_speak_r2) ++ wsX20 ++ wsX00 ++ wsX10)
def wsX2_say_r1 : List Cond := [Cond.classLink RX2 37 "java/lang/IllegalArgumentException", Cond.initialized "java/lang/IllegalArgumentException", Cond.methodLink RX2 33 yX2_isKey, Cond.static yX2_isKey, Cond.initialized RX2, Cond.code yX2_isKey cX2_isKey 1 (some .boolean), Cond.methodLink RX2 46 yX2_speak, Cond.instanceMethod yX2_speak, Cond.selects RX2 yX2_speak yX2_speak, Cond.code yX2_speak cX2_speak 4 (some .int), Cond.fieldLink RX2 10 "ParrotLog" "log" "LParrotLog$Log;", Cond.fieldLink RX2 50 "ParrotLog" "stormOn" "Z", Cond.fieldLink RX2 59 "ParrotLog" "stormCount" "I", Cond.fieldLink RX2 16 "ParrotLog" "saidInStorm" "[I", Cond.instanceMethod yX0_markFirst, Cond.initialized RX0, Cond.selects RX0 yX0_markFirst yX0_markFirst, Cond.code yX0_markFirst cX0_markFirst 2 none, Cond.fieldLink RX0 28 "ParrotLog$Log" "size" "I", Cond.fieldLink RX0 24 "ParrotLog$Log" "marked" "[Z", Cond.methodLink RX2 78 yX2_dropMarked, Cond.instanceMethod yX2_dropMarked, Cond.selects RX2 yX2_dropMarked yX2_dropMarked, Cond.code yX2_dropMarked cX2_dropMarked 2 (some .int)]
def wsX2_say_r2 : List Cond := [Cond.fieldLink RX2 90 "ParrotLog" "shipCount" "I", Cond.fieldLink RX2 22 "ParrotLog" "fleet" "[LParrotLog$Ship;", Cond.instanceMethod yX0_countMarkedFrom, Cond.selects RX0 yX0_countMarkedFrom yX0_countMarkedFrom, Cond.code yX0_countMarkedFrom cX0_countMarkedFrom 4 (some .int), Cond.methodLink RX0 43 yX0_positionFrom, Cond.instanceMethod yX0_positionFrom, Cond.selects RX0 yX0_positionFrom yX0_positionFrom, Cond.code yX0_positionFrom cX0_positionFrom 3 (some .int), Cond.fieldLink RX0 9 "ParrotLog$Log" "offsets" "[I", Cond.instanceMethod yX0_removeMarked, Cond.selects RX0 yX0_removeMarked yX0_removeMarked, Cond.code yX0_removeMarked cX0_removeMarked 3 (some .int), Cond.fieldLink RX0 15 "ParrotLog$Log" "keys" "[I", Cond.fieldLink RX0 18 "ParrotLog$Log" "values" "[I", Cond.fieldLink RX0 21 "ParrotLog$Log" "stormNumbers" "[I", Cond.fieldLink RX0 46 "ParrotLog$Log" "droppedInAll" "I", Cond.instanceMethod yX0_append, Cond.selects RX0 yX0_append yX0_append, Cond.code yX0_append cX0_append 4 (some .int), Cond.fieldLink RX0 32 "ParrotLog$Log" "next" "I"]
def wsX2_say : List Cond := .code yX2_say cX2_say 3 (some .int) :: ((wsX2_say_r1 ++ wsX2_say_r2) ++ wsX20 ++ wsX00 ++ wsX10 ++ (vx_atS RX2 41 "java/lang/IllegalArgumentException" ["java/lang/RuntimeException", "java/lang/Exception"]).filter goodWord)
def wsX2_startStorm : List Cond := .code yX2_startStorm cX2_startStorm 1 (some .int) :: ([.classLink RX2 54 "java/lang/IllegalStateException", .initialized "java/lang/IllegalStateException", .fieldLink RX2 50 "ParrotLog" "stormOn" "Z", .fieldLink RX2 59 "ParrotLog" "stormCount" "I"] ++ wsX20 ++ (vx_atS RX2 58 "java/lang/IllegalStateException" ["java/lang/RuntimeException", "java/lang/Exception"]).filter goodWord)
def wsX2_endStorm : List Cond := .code yX2_endStorm cX2_endStorm 1 (some .int) :: ([.classLink RX2 54 "java/lang/IllegalStateException", .initialized "java/lang/IllegalStateException", .fieldLink RX2 50 "ParrotLog" "stormOn" "Z", .fieldLink RX2 16 "ParrotLog" "saidInStorm" "[I", .fieldLink RX2 59 "ParrotLog" "stormCount" "I"] ++ wsX20 ++ (vx_atS RX2 58 "java/lang/IllegalStateException" ["java/lang/RuntimeException", "java/lang/Exception"]).filter goodWord)
def wsX2_checkStorm : List Cond := .code yX2_checkStorm cX2_checkStorm 2 none :: ([.classLink RX2 243 "java/lang/IndexOutOfBoundsException", .initialized "java/lang/IndexOutOfBoundsException", .fieldLink RX2 59 "ParrotLog" "stormCount" "I"] ++ wsX20 ++ (vx_atS RX2 245 "java/lang/IndexOutOfBoundsException" ["java/lang/RuntimeException", "java/lang/Exception"]).filter goodWord)
def wsX2_replay_r1 : List Cond := [Cond.classLink RX2 54 "java/lang/IllegalStateException", Cond.initialized "java/lang/IllegalStateException", Cond.fieldLink RX2 50 "ParrotLog" "stormOn" "Z", Cond.fieldLink RX2 10 "ParrotLog" "log" "LParrotLog$Log;", Cond.fieldLink RX2 27 "ParrotLog" "replayKeys" "[I", Cond.fieldLink RX2 30 "ParrotLog" "replayValues" "[I", Cond.methodLink RX2 67 yX2_checkStorm, Cond.instanceMethod yX2_checkStorm, Cond.selects RX2 yX2_checkStorm yX2_checkStorm, Cond.initialized RX2, Cond.code yX2_checkStorm cX2_checkStorm 2 none, Cond.classLink RX2 243 "java/lang/IndexOutOfBoundsException", Cond.initialized "java/lang/IndexOutOfBoundsException", Cond.fieldLink RX2 59 "ParrotLog" "stormCount" "I", Cond.instanceMethod yX0_copyStorm, Cond.initialized RX0, Cond.selects RX0 yX0_copyStorm yX0_copyStorm, Cond.code yX0_copyStorm cX0_copyStorm 6 (some .int), Cond.fieldLink RX0 28 "ParrotLog$Log" "size" "I", Cond.fieldLink RX0 21 "ParrotLog$Log" "stormNumbers" "[I", Cond.fieldLink RX0 15 "ParrotLog$Log" "keys" "[I", Cond.fieldLink RX0 18 "ParrotLog$Log" "values" "[I", Cond.methodLink RX2 46 yX2_speak, Cond.instanceMethod yX2_speak]
def wsX2_replay_r2 : List Cond := [Cond.selects RX2 yX2_speak yX2_speak, Cond.code yX2_speak cX2_speak 4 (some .int), Cond.fieldLink RX2 16 "ParrotLog" "saidInStorm" "[I", Cond.instanceMethod yX0_markFirst, Cond.selects RX0 yX0_markFirst yX0_markFirst, Cond.code yX0_markFirst cX0_markFirst 2 none, Cond.fieldLink RX0 24 "ParrotLog$Log" "marked" "[Z", Cond.methodLink RX2 78 yX2_dropMarked, Cond.instanceMethod yX2_dropMarked, Cond.selects RX2 yX2_dropMarked yX2_dropMarked, Cond.code yX2_dropMarked cX2_dropMarked 2 (some .int), Cond.fieldLink RX2 90 "ParrotLog" "shipCount" "I", Cond.fieldLink RX2 22 "ParrotLog" "fleet" "[LParrotLog$Ship;", Cond.instanceMethod yX0_countMarkedFrom, Cond.selects RX0 yX0_countMarkedFrom yX0_countMarkedFrom, Cond.code yX0_countMarkedFrom cX0_countMarkedFrom 4 (some .int), Cond.methodLink RX0 43 yX0_positionFrom, Cond.instanceMethod yX0_positionFrom, Cond.selects RX0 yX0_positionFrom yX0_positionFrom, Cond.code yX0_positionFrom cX0_positionFrom 3 (some .int), Cond.fieldLink RX0 9 "ParrotLog$Log" "offsets" "[I", Cond.instanceMethod yX0_removeMarked, Cond.selects RX0 yX0_removeMarked yX0_removeMarked, Cond.code yX0_removeMarked cX0_removeMarked 3 (some .int)]
def wsX2_replay_r3 : List Cond := [Cond.fieldLink RX0 46 "ParrotLog$Log" "droppedInAll" "I", Cond.instanceMethod yX0_append, Cond.selects RX0 yX0_append yX0_append, Cond.code yX0_append cX0_append 4 (some .int), Cond.fieldLink RX0 32 "ParrotLog$Log" "next" "I"]
def wsX2_replay : List Cond := .code yX2_replay cX2_replay 4 (some .int) :: ((wsX2_replay_r1 ++ (wsX2_replay_r2 ++ wsX2_replay_r3)) ++ wsX20 ++ wsX00 ++ wsX10 ++ (vx_atS RX2 58 "java/lang/IllegalStateException" ["java/lang/RuntimeException", "java/lang/Exception"]).filter goodWord ++ (vx_atS RX2 245 "java/lang/IndexOutOfBoundsException" ["java/lang/RuntimeException", "java/lang/Exception"]).filter goodWord)
def wsX2_leastShipOffset : List Cond := .code yX2_leastShipOffset cX2_leastShipOffset 3 (some .int) :: ([.fieldLink RX2 10 "ParrotLog" "log" "LParrotLog$Log;", .fieldLink RX2 90 "ParrotLog" "shipCount" "I", .fieldLink RX2 22 "ParrotLog" "fleet" "[LParrotLog$Ship;", .methodLink RX2 225 Lib.Math.min.name, .static Lib.Math.min.name, .initialized "java/lang/Math", .code Lib.Math.min.name Lib.Math.min.code 2 (some .int)] ++ wsX20 ++ wsX00 ++ wsX10)
def wsX2_markCompacted_r1 : List Cond := [Cond.fieldLink RX2 10 "ParrotLog" "log" "LParrotLog$Log;", Cond.methodLink RX2 220 yX2_leastShipOffset, Cond.instanceMethod yX2_leastShipOffset, Cond.selects RX2 yX2_leastShipOffset yX2_leastShipOffset, Cond.initialized RX2, Cond.code yX2_leastShipOffset cX2_leastShipOffset 3 (some .int), Cond.fieldLink RX2 90 "ParrotLog" "shipCount" "I", Cond.fieldLink RX2 22 "ParrotLog" "fleet" "[LParrotLog$Ship;", Cond.methodLink RX2 225 Lib.Math.min.name, Cond.static Lib.Math.min.name, Cond.initialized "java/lang/Math", Cond.code Lib.Math.min.name Lib.Math.min.code 2 (some .int), Cond.instanceMethod yX0_markCompacted, Cond.initialized RX0, Cond.selects RX0 yX0_markCompacted yX0_markCompacted, Cond.code yX0_markCompacted cX0_markCompacted 5 none, Cond.fieldLink RX0 28 "ParrotLog$Log" "size" "I", Cond.fieldLink RX0 15 "ParrotLog$Log" "keys" "[I", Cond.fieldLink RX0 18 "ParrotLog$Log" "values" "[I", Cond.fieldLink RX0 9 "ParrotLog$Log" "offsets" "[I", Cond.fieldLink RX0 24 "ParrotLog$Log" "marked" "[Z", Cond.methodLink RX0 35 yX0_latestPosition, Cond.instanceMethod yX0_latestPosition, Cond.selects RX0 yX0_latestPosition yX0_latestPosition]
def wsX2_markCompacted_r2 : List Cond := [Cond.code yX0_latestPosition cX0_latestPosition 5 (some .int)]
def wsX2_markCompacted : List Cond := .code yX2_markCompacted cX2_markCompacted 1 none :: ((wsX2_markCompacted_r1 ++ wsX2_markCompacted_r2) ++ wsX20 ++ wsX00 ++ wsX10)
def wsX2_compact_r1 : List Cond := [Cond.methodLink RX2 75 yX2_markCompacted, Cond.instanceMethod yX2_markCompacted, Cond.selects RX2 yX2_markCompacted yX2_markCompacted, Cond.initialized RX2, Cond.code yX2_markCompacted cX2_markCompacted 1 none, Cond.fieldLink RX2 10 "ParrotLog" "log" "LParrotLog$Log;", Cond.methodLink RX2 220 yX2_leastShipOffset, Cond.instanceMethod yX2_leastShipOffset, Cond.selects RX2 yX2_leastShipOffset yX2_leastShipOffset, Cond.code yX2_leastShipOffset cX2_leastShipOffset 3 (some .int), Cond.fieldLink RX2 90 "ParrotLog" "shipCount" "I", Cond.fieldLink RX2 22 "ParrotLog" "fleet" "[LParrotLog$Ship;", Cond.methodLink RX2 225 Lib.Math.min.name, Cond.static Lib.Math.min.name, Cond.initialized "java/lang/Math", Cond.code Lib.Math.min.name Lib.Math.min.code 2 (some .int), Cond.instanceMethod yX0_markCompacted, Cond.initialized RX0, Cond.selects RX0 yX0_markCompacted yX0_markCompacted, Cond.code yX0_markCompacted cX0_markCompacted 5 none, Cond.fieldLink RX0 28 "ParrotLog$Log" "size" "I", Cond.fieldLink RX0 15 "ParrotLog$Log" "keys" "[I", Cond.fieldLink RX0 18 "ParrotLog$Log" "values" "[I", Cond.fieldLink RX0 9 "ParrotLog$Log" "offsets" "[I"]
def wsX2_compact_r2 : List Cond := [Cond.fieldLink RX0 24 "ParrotLog$Log" "marked" "[Z", Cond.methodLink RX0 35 yX0_latestPosition, Cond.instanceMethod yX0_latestPosition, Cond.selects RX0 yX0_latestPosition yX0_latestPosition, Cond.code yX0_latestPosition cX0_latestPosition 5 (some .int), Cond.methodLink RX2 78 yX2_dropMarked, Cond.instanceMethod yX2_dropMarked, Cond.selects RX2 yX2_dropMarked yX2_dropMarked, Cond.code yX2_dropMarked cX2_dropMarked 2 (some .int), Cond.instanceMethod yX0_countMarkedFrom, Cond.selects RX0 yX0_countMarkedFrom yX0_countMarkedFrom, Cond.code yX0_countMarkedFrom cX0_countMarkedFrom 4 (some .int), Cond.methodLink RX0 43 yX0_positionFrom, Cond.instanceMethod yX0_positionFrom, Cond.selects RX0 yX0_positionFrom yX0_positionFrom, Cond.code yX0_positionFrom cX0_positionFrom 3 (some .int), Cond.instanceMethod yX0_removeMarked, Cond.selects RX0 yX0_removeMarked yX0_removeMarked, Cond.code yX0_removeMarked cX0_removeMarked 3 (some .int), Cond.fieldLink RX0 21 "ParrotLog$Log" "stormNumbers" "[I", Cond.fieldLink RX0 46 "ParrotLog$Log" "droppedInAll" "I"]
def wsX2_compact : List Cond := .code yX2_compact cX2_compact 1 (some .int) :: ((wsX2_compact_r1 ++ wsX2_compact_r2) ++ wsX20 ++ wsX00 ++ wsX10)
def wsX2_checkReachable : List Cond := .code yX2_checkReachable cX2_checkReachable 2 none :: ([.classLink RX2 37 "java/lang/IllegalArgumentException", .initialized "java/lang/IllegalArgumentException", .fieldLink RX2 10 "ParrotLog" "log" "LParrotLog$Log;"] ++ wsX20 ++ wsX00 ++ (vx_atS RX2 41 "java/lang/IllegalArgumentException" ["java/lang/RuntimeException", "java/lang/Exception"]).filter goodWord)
def wsX2_trimTo_r1 : List Cond := [Cond.fieldLink RX2 10 "ParrotLog" "log" "LParrotLog$Log;", Cond.methodLink RX2 82 yX2_checkReachable, Cond.instanceMethod yX2_checkReachable, Cond.selects RX2 yX2_checkReachable yX2_checkReachable, Cond.initialized RX2, Cond.code yX2_checkReachable cX2_checkReachable 2 none, Cond.classLink RX2 37 "java/lang/IllegalArgumentException", Cond.initialized "java/lang/IllegalArgumentException", Cond.instanceMethod yX0_markAhead, Cond.initialized RX0, Cond.selects RX0 yX0_markAhead yX0_markAhead, Cond.code yX0_markAhead cX0_markAhead 3 none, Cond.fieldLink RX0 28 "ParrotLog$Log" "size" "I", Cond.fieldLink RX0 24 "ParrotLog$Log" "marked" "[Z", Cond.fieldLink RX0 9 "ParrotLog$Log" "offsets" "[I", Cond.methodLink RX2 78 yX2_dropMarked, Cond.instanceMethod yX2_dropMarked, Cond.selects RX2 yX2_dropMarked yX2_dropMarked, Cond.code yX2_dropMarked cX2_dropMarked 2 (some .int), Cond.fieldLink RX2 90 "ParrotLog" "shipCount" "I", Cond.fieldLink RX2 22 "ParrotLog" "fleet" "[LParrotLog$Ship;", Cond.instanceMethod yX0_countMarkedFrom, Cond.selects RX0 yX0_countMarkedFrom yX0_countMarkedFrom, Cond.code yX0_countMarkedFrom cX0_countMarkedFrom 4 (some .int)]
def wsX2_trimTo_r2 : List Cond := [Cond.methodLink RX0 43 yX0_positionFrom, Cond.instanceMethod yX0_positionFrom, Cond.selects RX0 yX0_positionFrom yX0_positionFrom, Cond.code yX0_positionFrom cX0_positionFrom 3 (some .int), Cond.instanceMethod yX0_removeMarked, Cond.selects RX0 yX0_removeMarked yX0_removeMarked, Cond.code yX0_removeMarked cX0_removeMarked 3 (some .int), Cond.fieldLink RX0 15 "ParrotLog$Log" "keys" "[I", Cond.fieldLink RX0 18 "ParrotLog$Log" "values" "[I", Cond.fieldLink RX0 21 "ParrotLog$Log" "stormNumbers" "[I", Cond.fieldLink RX0 46 "ParrotLog$Log" "droppedInAll" "I"]
def wsX2_trimTo : List Cond := .code yX2_trimTo cX2_trimTo 2 (some .int) :: ((wsX2_trimTo_r1 ++ wsX2_trimTo_r2) ++ wsX20 ++ wsX00 ++ wsX10 ++ (vx_atS RX2 41 "java/lang/IllegalArgumentException" ["java/lang/RuntimeException", "java/lang/Exception"]).filter goodWord)
def wsX2_addShip : List Cond := .code yX2_addShip cX2_addShip 4 (some .int) :: ([.classLink RX2 37 "java/lang/IllegalArgumentException", .initialized "java/lang/IllegalArgumentException", .classLink RX2 54 "java/lang/IllegalStateException", .initialized "java/lang/IllegalStateException", .fieldLink RX2 90 "ParrotLog" "shipCount" "I", .fieldLink RX2 22 "ParrotLog" "fleet" "[LParrotLog$Ship;", .methodLink RX2 82 yX2_checkReachable, .instanceMethod yX2_checkReachable, .selects RX2 yX2_checkReachable yX2_checkReachable, .initialized RX2, .code yX2_checkReachable cX2_checkReachable 2 none, .fieldLink RX2 10 "ParrotLog" "log" "LParrotLog$Log;"] ++ wsX20 ++ wsX10 ++ wsX00 ++ (vx_atS RX2 41 "java/lang/IllegalArgumentException" ["java/lang/RuntimeException", "java/lang/Exception"]).filter goodWord ++ (vx_atS RX2 58 "java/lang/IllegalStateException" ["java/lang/RuntimeException", "java/lang/Exception"]).filter goodWord)
def wsX2_shipNumbered : List Cond := .code yX2_shipNumbered cX2_shipNumbered 2 (some (.object "ParrotLog$Ship")) :: ([.classLink RX2 243 "java/lang/IndexOutOfBoundsException", .initialized "java/lang/IndexOutOfBoundsException", .fieldLink RX2 90 "ParrotLog" "shipCount" "I", .fieldLink RX2 22 "ParrotLog" "fleet" "[LParrotLog$Ship;"] ++ wsX20 ++ (vx_atS RX2 245 "java/lang/IndexOutOfBoundsException" ["java/lang/RuntimeException", "java/lang/Exception"]).filter goodWord)
def wsX2_seek : List Cond := .code yX2_seek cX2_seek 5 (some .int) :: ([.methodLink RX2 101 yX2_shipNumbered, .instanceMethod yX2_shipNumbered, .selects RX2 yX2_shipNumbered yX2_shipNumbered, .initialized RX2, .code yX2_shipNumbered cX2_shipNumbered 2 (some (.object "ParrotLog$Ship")), .classLink RX2 243 "java/lang/IndexOutOfBoundsException", .initialized "java/lang/IndexOutOfBoundsException", .fieldLink RX2 90 "ParrotLog" "shipCount" "I", .fieldLink RX2 22 "ParrotLog" "fleet" "[LParrotLog$Ship;", .methodLink RX2 82 yX2_checkReachable, .instanceMethod yX2_checkReachable, .selects RX2 yX2_checkReachable yX2_checkReachable, .code yX2_checkReachable cX2_checkReachable 2 none, .classLink RX2 37 "java/lang/IllegalArgumentException", .initialized "java/lang/IllegalArgumentException", .fieldLink RX2 10 "ParrotLog" "log" "LParrotLog$Log;"] ++ wsX10 ++ wsX20 ++ wsX00 ++ (vx_atS RX2 245 "java/lang/IndexOutOfBoundsException" ["java/lang/RuntimeException", "java/lang/Exception"]).filter goodWord ++ (vx_atS RX2 41 "java/lang/IllegalArgumentException" ["java/lang/RuntimeException", "java/lang/Exception"]).filter goodWord)
def wsX2_checkHours : List Cond := .code yX2_checkHours cX2_checkHours 1 none :: ([.classLink RX2 37 "java/lang/IllegalArgumentException", .initialized "java/lang/IllegalArgumentException"] ++ (vx_atS RX2 41 "java/lang/IllegalArgumentException" ["java/lang/RuntimeException", "java/lang/Exception"]).filter goodWord)
def wsX2_mostHeard : List Cond := .code yX2_mostHeard cX2_mostHeard 3 (some .int) :: ([.fieldLink RX2 50 "ParrotLog" "stormOn" "Z"] ++ wsX20)
def wsX2_hearNext : List Cond := .code yX2_hearNext cX2_hearNext 6 (some .int) :: ([.fieldLink RX2 10 "ParrotLog" "log" "LParrotLog$Log;", .methodLink RX2 225 Lib.Math.min.name, .static Lib.Math.min.name, .initialized "java/lang/Math", .code Lib.Math.min.name Lib.Math.min.code 2 (some .int), .instanceMethod yX0_positionFrom, .initialized RX0, .selects RX0 yX0_positionFrom yX0_positionFrom, .code yX0_positionFrom cX0_positionFrom 3 (some .int), .fieldLink RX0 28 "ParrotLog$Log" "size" "I", .fieldLink RX0 9 "ParrotLog$Log" "offsets" "[I", .instanceMethod yX1_hear, .initialized RX1, .selects RX1 yX1_hear yX1_hear, .code yX1_hear cX1_hear 4 none, .fieldLink RX1 9 "ParrotLog$Ship" "known" "[I", .fieldLink RX1 15 "ParrotLog$Ship" "offset" "I", .fieldLink RX1 19 "ParrotLog$Ship" "heard" "I"] ++ wsX20 ++ wsX10 ++ wsX00)
def wsX2_passHours_r1 : List Cond := [Cond.fieldLink RX2 90 "ParrotLog" "shipCount" "I", Cond.fieldLink RX2 22 "ParrotLog" "fleet" "[LParrotLog$Ship;", Cond.fieldLink RX2 115 "ParrotLog" "hour" "I", Cond.methodLink RX2 105 yX2_checkHours, Cond.static yX2_checkHours, Cond.initialized RX2, Cond.code yX2_checkHours cX2_checkHours 1 none, Cond.classLink RX2 37 "java/lang/IllegalArgumentException", Cond.initialized "java/lang/IllegalArgumentException", Cond.methodLink RX2 108 yX2_mostHeard, Cond.instanceMethod yX2_mostHeard, Cond.selects RX2 yX2_mostHeard yX2_mostHeard, Cond.code yX2_mostHeard cX2_mostHeard 3 (some .int), Cond.fieldLink RX2 50 "ParrotLog" "stormOn" "Z", Cond.methodLink RX2 111 yX2_hearNext, Cond.instanceMethod yX2_hearNext, Cond.selects RX2 yX2_hearNext yX2_hearNext, Cond.code yX2_hearNext cX2_hearNext 6 (some .int), Cond.fieldLink RX2 10 "ParrotLog" "log" "LParrotLog$Log;", Cond.methodLink RX2 225 Lib.Math.min.name, Cond.static Lib.Math.min.name, Cond.initialized "java/lang/Math", Cond.code Lib.Math.min.name Lib.Math.min.code 2 (some .int), Cond.instanceMethod yX0_positionFrom]
def wsX2_passHours_r2 : List Cond := [Cond.initialized RX0, Cond.selects RX0 yX0_positionFrom yX0_positionFrom, Cond.code yX0_positionFrom cX0_positionFrom 3 (some .int), Cond.fieldLink RX0 28 "ParrotLog$Log" "size" "I", Cond.fieldLink RX0 9 "ParrotLog$Log" "offsets" "[I", Cond.instanceMethod yX1_hear, Cond.initialized RX1, Cond.selects RX1 yX1_hear yX1_hear, Cond.code yX1_hear cX1_hear 4 none, Cond.fieldLink RX1 9 "ParrotLog$Ship" "known" "[I", Cond.fieldLink RX1 15 "ParrotLog$Ship" "offset" "I", Cond.fieldLink RX1 19 "ParrotLog$Ship" "heard" "I"]
def wsX2_passHours : List Cond := .code yX2_passHours cX2_passHours 4 (some .int) :: ((wsX2_passHours_r1 ++ wsX2_passHours_r2) ++ wsX20 ++ wsX10 ++ wsX00 ++ (vx_atS RX2 41 "java/lang/IllegalArgumentException" ["java/lang/RuntimeException", "java/lang/Exception"]).filter goodWord)
def wsX2_hours : List Cond := .code yX2_hours cX2_hours 1 (some .int) :: ([.fieldLink RX2 115 "ParrotLog" "hour" "I"] ++ wsX20)
def wsX2_phrases : List Cond := .code yX2_phrases cX2_phrases 1 (some .int) :: ([.fieldLink RX2 10 "ParrotLog" "log" "LParrotLog$Log;"] ++ wsX20 ++ wsX00)
def wsX2_nextOffset : List Cond := .code yX2_nextOffset cX2_nextOffset 1 (some .int) :: ([.fieldLink RX2 10 "ParrotLog" "log" "LParrotLog$Log;"] ++ wsX20 ++ wsX00)
def wsX2_firstOffset : List Cond := .code yX2_firstOffset cX2_firstOffset 1 (some .int) :: ([.fieldLink RX2 10 "ParrotLog" "log" "LParrotLog$Log;"] ++ wsX20 ++ wsX00)
def wsX2_dropped : List Cond := .code yX2_dropped cX2_dropped 1 (some .int) :: ([.fieldLink RX2 10 "ParrotLog" "log" "LParrotLog$Log;"] ++ wsX20 ++ wsX00)
def wsX2_isKept : List Cond := .code yX2_isKept cX2_isKept 2 (some .boolean) :: ([.fieldLink RX2 10 "ParrotLog" "log" "LParrotLog$Log;", .instanceMethod yX0_positionOf, .initialized RX0, .selects RX0 yX0_positionOf yX0_positionOf, .code yX0_positionOf cX0_positionOf 3 (some .int), .fieldLink RX0 28 "ParrotLog$Log" "size" "I", .fieldLink RX0 9 "ParrotLog$Log" "offsets" "[I", .methodLink RX0 43 yX0_positionFrom, .instanceMethod yX0_positionFrom, .selects RX0 yX0_positionFrom yX0_positionFrom, .code yX0_positionFrom cX0_positionFrom 3 (some .int)] ++ wsX20 ++ wsX00)
def wsX2_keptPosition : List Cond := .code yX2_keptPosition cX2_keptPosition 3 (some .int) :: ([.classLink RX2 243 "java/lang/IndexOutOfBoundsException", .initialized "java/lang/IndexOutOfBoundsException", .fieldLink RX2 10 "ParrotLog" "log" "LParrotLog$Log;", .instanceMethod yX0_positionOf, .initialized RX0, .selects RX0 yX0_positionOf yX0_positionOf, .code yX0_positionOf cX0_positionOf 3 (some .int), .fieldLink RX0 28 "ParrotLog$Log" "size" "I", .fieldLink RX0 9 "ParrotLog$Log" "offsets" "[I", .methodLink RX0 43 yX0_positionFrom, .instanceMethod yX0_positionFrom, .selects RX0 yX0_positionFrom yX0_positionFrom, .code yX0_positionFrom cX0_positionFrom 3 (some .int)] ++ wsX20 ++ wsX00 ++ (vx_atS RX2 245 "java/lang/IndexOutOfBoundsException" ["java/lang/RuntimeException", "java/lang/Exception"]).filter goodWord)
def wsX2_keyAt : List Cond := .code yX2_keyAt cX2_keyAt 2 (some .int) :: ([.fieldLink RX2 10 "ParrotLog" "log" "LParrotLog$Log;", .methodLink RX2 137 yX2_keptPosition, .instanceMethod yX2_keptPosition, .selects RX2 yX2_keptPosition yX2_keptPosition, .initialized RX2, .code yX2_keptPosition cX2_keptPosition 3 (some .int), .classLink RX2 243 "java/lang/IndexOutOfBoundsException", .initialized "java/lang/IndexOutOfBoundsException", .instanceMethod yX0_positionOf, .initialized RX0, .selects RX0 yX0_positionOf yX0_positionOf, .code yX0_positionOf cX0_positionOf 3 (some .int), .fieldLink RX0 28 "ParrotLog$Log" "size" "I", .fieldLink RX0 9 "ParrotLog$Log" "offsets" "[I", .methodLink RX0 43 yX0_positionFrom, .instanceMethod yX0_positionFrom, .selects RX0 yX0_positionFrom yX0_positionFrom, .code yX0_positionFrom cX0_positionFrom 3 (some .int)] ++ wsX20 ++ wsX00 ++ (vx_atS RX2 245 "java/lang/IndexOutOfBoundsException" ["java/lang/RuntimeException", "java/lang/Exception"]).filter goodWord)
def wsX2_valueAt : List Cond := .code yX2_valueAt cX2_valueAt 2 (some .int) :: ([.fieldLink RX2 10 "ParrotLog" "log" "LParrotLog$Log;", .methodLink RX2 137 yX2_keptPosition, .instanceMethod yX2_keptPosition, .selects RX2 yX2_keptPosition yX2_keptPosition, .initialized RX2, .code yX2_keptPosition cX2_keptPosition 3 (some .int), .classLink RX2 243 "java/lang/IndexOutOfBoundsException", .initialized "java/lang/IndexOutOfBoundsException", .instanceMethod yX0_positionOf, .initialized RX0, .selects RX0 yX0_positionOf yX0_positionOf, .code yX0_positionOf cX0_positionOf 3 (some .int), .fieldLink RX0 28 "ParrotLog$Log" "size" "I", .fieldLink RX0 9 "ParrotLog$Log" "offsets" "[I", .methodLink RX0 43 yX0_positionFrom, .instanceMethod yX0_positionFrom, .selects RX0 yX0_positionFrom yX0_positionFrom, .code yX0_positionFrom cX0_positionFrom 3 (some .int)] ++ wsX20 ++ wsX00 ++ (vx_atS RX2 245 "java/lang/IndexOutOfBoundsException" ["java/lang/RuntimeException", "java/lang/Exception"]).filter goodWord)
def wsX2_stormAt : List Cond := .code yX2_stormAt cX2_stormAt 2 (some .int) :: ([.fieldLink RX2 10 "ParrotLog" "log" "LParrotLog$Log;", .methodLink RX2 137 yX2_keptPosition, .instanceMethod yX2_keptPosition, .selects RX2 yX2_keptPosition yX2_keptPosition, .initialized RX2, .code yX2_keptPosition cX2_keptPosition 3 (some .int), .classLink RX2 243 "java/lang/IndexOutOfBoundsException", .initialized "java/lang/IndexOutOfBoundsException", .instanceMethod yX0_positionOf, .initialized RX0, .selects RX0 yX0_positionOf yX0_positionOf, .code yX0_positionOf cX0_positionOf 3 (some .int), .fieldLink RX0 28 "ParrotLog$Log" "size" "I", .fieldLink RX0 9 "ParrotLog$Log" "offsets" "[I", .methodLink RX0 43 yX0_positionFrom, .instanceMethod yX0_positionFrom, .selects RX0 yX0_positionFrom yX0_positionFrom, .code yX0_positionFrom cX0_positionFrom 3 (some .int)] ++ wsX20 ++ wsX00 ++ (vx_atS RX2 245 "java/lang/IndexOutOfBoundsException" ["java/lang/RuntimeException", "java/lang/Exception"]).filter goodWord)
def wsX2_checkKey : List Cond := .code yX2_checkKey cX2_checkKey 1 none :: ([.classLink RX2 243 "java/lang/IndexOutOfBoundsException", .initialized "java/lang/IndexOutOfBoundsException", .methodLink RX2 33 yX2_isKey, .static yX2_isKey, .initialized RX2, .code yX2_isKey cX2_isKey 1 (some .boolean)] ++ (vx_atS RX2 245 "java/lang/IndexOutOfBoundsException" ["java/lang/RuntimeException", "java/lang/Exception"]).filter goodWord)
def wsX2_latestOf : List Cond := .code yX2_latestOf cX2_latestOf 2 (some .int) :: ([.fieldLink RX2 10 "ParrotLog" "log" "LParrotLog$Log;", .methodLink RX2 146 yX2_checkKey, .static yX2_checkKey, .initialized RX2, .code yX2_checkKey cX2_checkKey 1 none, .classLink RX2 243 "java/lang/IndexOutOfBoundsException", .initialized "java/lang/IndexOutOfBoundsException", .methodLink RX2 33 yX2_isKey, .static yX2_isKey, .code yX2_isKey cX2_isKey 1 (some .boolean), .instanceMethod yX0_latestOffset, .initialized RX0, .selects RX0 yX0_latestOffset yX0_latestOffset, .code yX0_latestOffset cX0_latestOffset 3 (some .int), .fieldLink RX0 28 "ParrotLog$Log" "size" "I", .fieldLink RX0 9 "ParrotLog$Log" "offsets" "[I", .methodLink RX0 35 yX0_latestPosition, .instanceMethod yX0_latestPosition, .selects RX0 yX0_latestPosition yX0_latestPosition, .code yX0_latestPosition cX0_latestPosition 5 (some .int), .fieldLink RX0 15 "ParrotLog$Log" "keys" "[I"] ++ wsX20 ++ wsX00 ++ (vx_atS RX2 245 "java/lang/IndexOutOfBoundsException" ["java/lang/RuntimeException", "java/lang/Exception"]).filter goodWord)
def wsX2_valueOf : List Cond := .code yX2_valueOf cX2_valueOf 2 (some .int) :: ([.fieldLink RX2 10 "ParrotLog" "log" "LParrotLog$Log;", .methodLink RX2 146 yX2_checkKey, .static yX2_checkKey, .initialized RX2, .code yX2_checkKey cX2_checkKey 1 none, .classLink RX2 243 "java/lang/IndexOutOfBoundsException", .initialized "java/lang/IndexOutOfBoundsException", .methodLink RX2 33 yX2_isKey, .static yX2_isKey, .code yX2_isKey cX2_isKey 1 (some .boolean), .instanceMethod yX0_latestValue, .initialized RX0, .selects RX0 yX0_latestValue yX0_latestValue, .code yX0_latestValue cX0_latestValue 3 (some .int), .fieldLink RX0 28 "ParrotLog$Log" "size" "I", .fieldLink RX0 18 "ParrotLog$Log" "values" "[I", .methodLink RX0 35 yX0_latestPosition, .instanceMethod yX0_latestPosition, .selects RX0 yX0_latestPosition yX0_latestPosition, .code yX0_latestPosition cX0_latestPosition 5 (some .int), .fieldLink RX0 15 "ParrotLog$Log" "keys" "[I"] ++ wsX20 ++ wsX00 ++ (vx_atS RX2 245 "java/lang/IndexOutOfBoundsException" ["java/lang/RuntimeException", "java/lang/Exception"]).filter goodWord)
def wsX2_countOf : List Cond := .code yX2_countOf cX2_countOf 2 (some .int) :: ([.fieldLink RX2 10 "ParrotLog" "log" "LParrotLog$Log;", .methodLink RX2 146 yX2_checkKey, .static yX2_checkKey, .initialized RX2, .code yX2_checkKey cX2_checkKey 1 none, .classLink RX2 243 "java/lang/IndexOutOfBoundsException", .initialized "java/lang/IndexOutOfBoundsException", .methodLink RX2 33 yX2_isKey, .static yX2_isKey, .code yX2_isKey cX2_isKey 1 (some .boolean), .instanceMethod yX0_countKey, .initialized RX0, .selects RX0 yX0_countKey yX0_countKey, .code yX0_countKey cX0_countKey 2 (some .int), .fieldLink RX0 15 "ParrotLog$Log" "keys" "[I", .methodLink RX0 49 yX0_countEqual, .instanceMethod yX0_countEqual, .selects RX0 yX0_countEqual yX0_countEqual, .code yX0_countEqual cX0_countEqual 5 (some .int), .fieldLink RX0 28 "ParrotLog$Log" "size" "I"] ++ wsX20 ++ wsX00 ++ (vx_atS RX2 245 "java/lang/IndexOutOfBoundsException" ["java/lang/RuntimeException", "java/lang/Exception"]).filter goodWord)
def wsX2_storms : List Cond := .code yX2_storms cX2_storms 1 (some .int) :: ([.fieldLink RX2 59 "ParrotLog" "stormCount" "I"] ++ wsX20)
def wsX2_isStormy : List Cond := .code yX2_isStormy cX2_isStormy 1 (some .boolean) :: ([.fieldLink RX2 50 "ParrotLog" "stormOn" "Z"] ++ wsX20)
def wsX2_saidIn : List Cond := .code yX2_saidIn cX2_saidIn 2 (some .int) :: ([.fieldLink RX2 16 "ParrotLog" "saidInStorm" "[I", .methodLink RX2 67 yX2_checkStorm, .instanceMethod yX2_checkStorm, .selects RX2 yX2_checkStorm yX2_checkStorm, .initialized RX2, .code yX2_checkStorm cX2_checkStorm 2 none, .classLink RX2 243 "java/lang/IndexOutOfBoundsException", .initialized "java/lang/IndexOutOfBoundsException", .fieldLink RX2 59 "ParrotLog" "stormCount" "I"] ++ wsX20 ++ (vx_atS RX2 245 "java/lang/IndexOutOfBoundsException" ["java/lang/RuntimeException", "java/lang/Exception"]).filter goodWord)
def wsX2_keptOf : List Cond := .code yX2_keptOf cX2_keptOf 2 (some .int) :: ([.fieldLink RX2 10 "ParrotLog" "log" "LParrotLog$Log;", .methodLink RX2 67 yX2_checkStorm, .instanceMethod yX2_checkStorm, .selects RX2 yX2_checkStorm yX2_checkStorm, .initialized RX2, .code yX2_checkStorm cX2_checkStorm 2 none, .classLink RX2 243 "java/lang/IndexOutOfBoundsException", .initialized "java/lang/IndexOutOfBoundsException", .fieldLink RX2 59 "ParrotLog" "stormCount" "I", .instanceMethod yX0_countStorm, .initialized RX0, .selects RX0 yX0_countStorm yX0_countStorm, .code yX0_countStorm cX0_countStorm 2 (some .int), .fieldLink RX0 21 "ParrotLog$Log" "stormNumbers" "[I", .methodLink RX0 49 yX0_countEqual, .instanceMethod yX0_countEqual, .selects RX0 yX0_countEqual yX0_countEqual, .code yX0_countEqual cX0_countEqual 5 (some .int), .fieldLink RX0 28 "ParrotLog$Log" "size" "I"] ++ wsX20 ++ wsX00 ++ (vx_atS RX2 245 "java/lang/IndexOutOfBoundsException" ["java/lang/RuntimeException", "java/lang/Exception"]).filter goodWord)
def wsX2_ships : List Cond := .code yX2_ships cX2_ships 1 (some .int) :: ([.fieldLink RX2 90 "ParrotLog" "shipCount" "I"] ++ wsX20)
def wsX2_offsetOf : List Cond := .code yX2_offsetOf cX2_offsetOf 2 (some .int) :: ([.methodLink RX2 101 yX2_shipNumbered, .instanceMethod yX2_shipNumbered, .selects RX2 yX2_shipNumbered yX2_shipNumbered, .initialized RX2, .code yX2_shipNumbered cX2_shipNumbered 2 (some (.object "ParrotLog$Ship")), .classLink RX2 243 "java/lang/IndexOutOfBoundsException", .initialized "java/lang/IndexOutOfBoundsException", .fieldLink RX2 90 "ParrotLog" "shipCount" "I", .fieldLink RX2 22 "ParrotLog" "fleet" "[LParrotLog$Ship;"] ++ wsX10 ++ wsX20 ++ (vx_atS RX2 245 "java/lang/IndexOutOfBoundsException" ["java/lang/RuntimeException", "java/lang/Exception"]).filter goodWord)
def wsX2_lag : List Cond := .code yX2_lag cX2_lag 2 (some .int) :: ([.fieldLink RX2 10 "ParrotLog" "log" "LParrotLog$Log;", .instanceMethod yX0_positionFrom, .initialized RX0, .selects RX0 yX0_positionFrom yX0_positionFrom, .code yX0_positionFrom cX0_positionFrom 3 (some .int), .fieldLink RX0 28 "ParrotLog$Log" "size" "I", .fieldLink RX0 9 "ParrotLog$Log" "offsets" "[I"] ++ wsX20 ++ wsX00 ++ wsX10)
def wsX2_lagOf : List Cond := .code yX2_lagOf cX2_lagOf 2 (some .int) :: ([.methodLink RX2 101 yX2_shipNumbered, .instanceMethod yX2_shipNumbered, .selects RX2 yX2_shipNumbered yX2_shipNumbered, .initialized RX2, .code yX2_shipNumbered cX2_shipNumbered 2 (some (.object "ParrotLog$Ship")), .classLink RX2 243 "java/lang/IndexOutOfBoundsException", .initialized "java/lang/IndexOutOfBoundsException", .fieldLink RX2 90 "ParrotLog" "shipCount" "I", .fieldLink RX2 22 "ParrotLog" "fleet" "[LParrotLog$Ship;", .methodLink RX2 161 yX2_lag, .instanceMethod yX2_lag, .selects RX2 yX2_lag yX2_lag, .code yX2_lag cX2_lag 2 (some .int), .fieldLink RX2 10 "ParrotLog" "log" "LParrotLog$Log;", .instanceMethod yX0_positionFrom, .initialized RX0, .selects RX0 yX0_positionFrom yX0_positionFrom, .code yX0_positionFrom cX0_positionFrom 3 (some .int), .fieldLink RX0 28 "ParrotLog$Log" "size" "I", .fieldLink RX0 9 "ParrotLog$Log" "offsets" "[I"] ++ wsX20 ++ wsX00 ++ wsX10 ++ (vx_atS RX2 245 "java/lang/IndexOutOfBoundsException" ["java/lang/RuntimeException", "java/lang/Exception"]).filter goodWord)
def wsX2_heardBy : List Cond := .code yX2_heardBy cX2_heardBy 2 (some .int) :: ([.methodLink RX2 101 yX2_shipNumbered, .instanceMethod yX2_shipNumbered, .selects RX2 yX2_shipNumbered yX2_shipNumbered, .initialized RX2, .code yX2_shipNumbered cX2_shipNumbered 2 (some (.object "ParrotLog$Ship")), .classLink RX2 243 "java/lang/IndexOutOfBoundsException", .initialized "java/lang/IndexOutOfBoundsException", .fieldLink RX2 90 "ParrotLog" "shipCount" "I", .fieldLink RX2 22 "ParrotLog" "fleet" "[LParrotLog$Ship;"] ++ wsX10 ++ wsX20 ++ (vx_atS RX2 245 "java/lang/IndexOutOfBoundsException" ["java/lang/RuntimeException", "java/lang/Exception"]).filter goodWord)
def wsX2_missedBy : List Cond := .code yX2_missedBy cX2_missedBy 2 (some .int) :: ([.methodLink RX2 101 yX2_shipNumbered, .instanceMethod yX2_shipNumbered, .selects RX2 yX2_shipNumbered yX2_shipNumbered, .initialized RX2, .code yX2_shipNumbered cX2_shipNumbered 2 (some (.object "ParrotLog$Ship")), .classLink RX2 243 "java/lang/IndexOutOfBoundsException", .initialized "java/lang/IndexOutOfBoundsException", .fieldLink RX2 90 "ParrotLog" "shipCount" "I", .fieldLink RX2 22 "ParrotLog" "fleet" "[LParrotLog$Ship;"] ++ wsX10 ++ wsX20 ++ (vx_atS RX2 245 "java/lang/IndexOutOfBoundsException" ["java/lang/RuntimeException", "java/lang/Exception"]).filter goodWord)
def wsX2_knownBy : List Cond := .code yX2_knownBy cX2_knownBy 4 (some .int) :: ([.methodLink RX2 101 yX2_shipNumbered, .instanceMethod yX2_shipNumbered, .selects RX2 yX2_shipNumbered yX2_shipNumbered, .initialized RX2, .code yX2_shipNumbered cX2_shipNumbered 2 (some (.object "ParrotLog$Ship")), .classLink RX2 243 "java/lang/IndexOutOfBoundsException", .initialized "java/lang/IndexOutOfBoundsException", .fieldLink RX2 90 "ParrotLog" "shipCount" "I", .fieldLink RX2 22 "ParrotLog" "fleet" "[LParrotLog$Ship;", .methodLink RX2 146 yX2_checkKey, .static yX2_checkKey, .code yX2_checkKey cX2_checkKey 1 none, .methodLink RX2 33 yX2_isKey, .static yX2_isKey, .code yX2_isKey cX2_isKey 1 (some .boolean)] ++ wsX10 ++ wsX20 ++ (vx_atS RX2 245 "java/lang/IndexOutOfBoundsException" ["java/lang/RuntimeException", "java/lang/Exception"]).filter goodWord)
def wsX2_errorsAfter : List Cond := .code yX2_errorsAfter cX2_errorsAfter 9 (some .int) :: ([.fieldLink RX2 10 "ParrotLog" "log" "LParrotLog$Log;", .methodLink RX2 225 Lib.Math.min.name, .static Lib.Math.min.name, .initialized "java/lang/Math", .code Lib.Math.min.name Lib.Math.min.code 2 (some .int), .instanceMethod yX0_positionFrom, .initialized RX0, .selects RX0 yX0_positionFrom yX0_positionFrom, .code yX0_positionFrom cX0_positionFrom 3 (some .int), .fieldLink RX0 28 "ParrotLog$Log" "size" "I", .fieldLink RX0 9 "ParrotLog$Log" "offsets" "[I", .instanceMethod yX0_latestPosition, .selects RX0 yX0_latestPosition yX0_latestPosition, .code yX0_latestPosition cX0_latestPosition 5 (some .int), .fieldLink RX0 15 "ParrotLog$Log" "keys" "[I", .instanceMethod yX0_latestValue, .selects RX0 yX0_latestValue yX0_latestValue, .code yX0_latestValue cX0_latestValue 3 (some .int), .fieldLink RX0 18 "ParrotLog$Log" "values" "[I", .methodLink RX0 35 yX0_latestPosition] ++ wsX20 ++ wsX10 ++ wsX00)
def wsX2_errorsOf_r1 : List Cond := [Cond.methodLink RX2 101 yX2_shipNumbered, Cond.instanceMethod yX2_shipNumbered, Cond.selects RX2 yX2_shipNumbered yX2_shipNumbered, Cond.initialized RX2, Cond.code yX2_shipNumbered cX2_shipNumbered 2 (some (.object "ParrotLog$Ship")), Cond.classLink RX2 243 "java/lang/IndexOutOfBoundsException", Cond.initialized "java/lang/IndexOutOfBoundsException", Cond.fieldLink RX2 90 "ParrotLog" "shipCount" "I", Cond.fieldLink RX2 22 "ParrotLog" "fleet" "[LParrotLog$Ship;", Cond.methodLink RX2 174 yX2_errorsAfter, Cond.instanceMethod yX2_errorsAfter, Cond.selects RX2 yX2_errorsAfter yX2_errorsAfter, Cond.code yX2_errorsAfter cX2_errorsAfter 9 (some .int), Cond.fieldLink RX2 10 "ParrotLog" "log" "LParrotLog$Log;", Cond.methodLink RX2 225 Lib.Math.min.name, Cond.static Lib.Math.min.name, Cond.initialized "java/lang/Math", Cond.code Lib.Math.min.name Lib.Math.min.code 2 (some .int), Cond.instanceMethod yX0_positionFrom, Cond.initialized RX0, Cond.selects RX0 yX0_positionFrom yX0_positionFrom, Cond.code yX0_positionFrom cX0_positionFrom 3 (some .int), Cond.fieldLink RX0 28 "ParrotLog$Log" "size" "I", Cond.fieldLink RX0 9 "ParrotLog$Log" "offsets" "[I"]
def wsX2_errorsOf_r2 : List Cond := [Cond.instanceMethod yX0_latestPosition, Cond.selects RX0 yX0_latestPosition yX0_latestPosition, Cond.code yX0_latestPosition cX0_latestPosition 5 (some .int), Cond.fieldLink RX0 15 "ParrotLog$Log" "keys" "[I", Cond.instanceMethod yX0_latestValue, Cond.selects RX0 yX0_latestValue yX0_latestValue, Cond.code yX0_latestValue cX0_latestValue 3 (some .int), Cond.fieldLink RX0 18 "ParrotLog$Log" "values" "[I", Cond.methodLink RX0 35 yX0_latestPosition]
def wsX2_errorsOf : List Cond := .code yX2_errorsOf cX2_errorsOf 2 (some .int) :: ((wsX2_errorsOf_r1 ++ wsX2_errorsOf_r2) ++ wsX20 ++ wsX10 ++ wsX00 ++ (vx_atS RX2 245 "java/lang/IndexOutOfBoundsException" ["java/lang/RuntimeException", "java/lang/Exception"]).filter goodWord)
def wsX2_farthestBehind : List Cond := .code yX2_farthestBehind cX2_farthestBehind 5 (some .int) :: ([.fieldLink RX2 90 "ParrotLog" "shipCount" "I", .fieldLink RX2 22 "ParrotLog" "fleet" "[LParrotLog$Ship;", .methodLink RX2 161 yX2_lag, .instanceMethod yX2_lag, .selects RX2 yX2_lag yX2_lag, .initialized RX2, .code yX2_lag cX2_lag 2 (some .int), .fieldLink RX2 10 "ParrotLog" "log" "LParrotLog$Log;", .instanceMethod yX0_positionFrom, .initialized RX0, .selects RX0 yX0_positionFrom yX0_positionFrom, .code yX0_positionFrom cX0_positionFrom 3 (some .int), .fieldLink RX0 28 "ParrotLog$Log" "size" "I", .fieldLink RX0 9 "ParrotLog$Log" "offsets" "[I"] ++ wsX20 ++ wsX00 ++ wsX10)
def wsX2_hoursToGo : List Cond := .code yX2_hoursToGo cX2_hoursToGo 4 (some .int) :: ([.methodLink RX2 161 yX2_lag, .instanceMethod yX2_lag, .selects RX2 yX2_lag yX2_lag, .initialized RX2, .code yX2_lag cX2_lag 2 (some .int), .fieldLink RX2 10 "ParrotLog" "log" "LParrotLog$Log;", .instanceMethod yX0_positionFrom, .initialized RX0, .selects RX0 yX0_positionFrom yX0_positionFrom, .code yX0_positionFrom cX0_positionFrom 3 (some .int), .fieldLink RX0 28 "ParrotLog$Log" "size" "I", .fieldLink RX0 9 "ParrotLog$Log" "offsets" "[I", .methodLink RX2 108 yX2_mostHeard, .instanceMethod yX2_mostHeard, .selects RX2 yX2_mostHeard yX2_mostHeard, .code yX2_mostHeard cX2_mostHeard 3 (some .int), .fieldLink RX2 50 "ParrotLog" "stormOn" "Z"] ++ wsX10 ++ wsX20 ++ wsX00)
def wsX2_hoursUntilCaughtUp_r1 : List Cond := [Cond.methodLink RX2 101 yX2_shipNumbered, Cond.instanceMethod yX2_shipNumbered, Cond.selects RX2 yX2_shipNumbered yX2_shipNumbered, Cond.initialized RX2, Cond.code yX2_shipNumbered cX2_shipNumbered 2 (some (.object "ParrotLog$Ship")), Cond.classLink RX2 243 "java/lang/IndexOutOfBoundsException", Cond.initialized "java/lang/IndexOutOfBoundsException", Cond.fieldLink RX2 90 "ParrotLog" "shipCount" "I", Cond.fieldLink RX2 22 "ParrotLog" "fleet" "[LParrotLog$Ship;", Cond.methodLink RX2 177 yX2_hoursToGo, Cond.instanceMethod yX2_hoursToGo, Cond.selects RX2 yX2_hoursToGo yX2_hoursToGo, Cond.code yX2_hoursToGo cX2_hoursToGo 4 (some .int), Cond.methodLink RX2 161 yX2_lag, Cond.instanceMethod yX2_lag, Cond.selects RX2 yX2_lag yX2_lag, Cond.code yX2_lag cX2_lag 2 (some .int), Cond.fieldLink RX2 10 "ParrotLog" "log" "LParrotLog$Log;", Cond.instanceMethod yX0_positionFrom, Cond.initialized RX0, Cond.selects RX0 yX0_positionFrom yX0_positionFrom, Cond.code yX0_positionFrom cX0_positionFrom 3 (some .int), Cond.fieldLink RX0 28 "ParrotLog$Log" "size" "I", Cond.fieldLink RX0 9 "ParrotLog$Log" "offsets" "[I"]
def wsX2_hoursUntilCaughtUp_r2 : List Cond := [Cond.methodLink RX2 108 yX2_mostHeard, Cond.instanceMethod yX2_mostHeard, Cond.selects RX2 yX2_mostHeard yX2_mostHeard, Cond.code yX2_mostHeard cX2_mostHeard 3 (some .int), Cond.fieldLink RX2 50 "ParrotLog" "stormOn" "Z"]
def wsX2_hoursUntilCaughtUp : List Cond := .code yX2_hoursUntilCaughtUp cX2_hoursUntilCaughtUp 2 (some .int) :: ((wsX2_hoursUntilCaughtUp_r1 ++ wsX2_hoursUntilCaughtUp_r2) ++ wsX20 ++ wsX10 ++ wsX00 ++ (vx_atS RX2 245 "java/lang/IndexOutOfBoundsException" ["java/lang/RuntimeException", "java/lang/Exception"]).filter goodWord)
def wsX2_errorsIn_r1 : List Cond := [Cond.methodLink RX2 101 yX2_shipNumbered, Cond.instanceMethod yX2_shipNumbered, Cond.selects RX2 yX2_shipNumbered yX2_shipNumbered, Cond.initialized RX2, Cond.code yX2_shipNumbered cX2_shipNumbered 2 (some (.object "ParrotLog$Ship")), Cond.classLink RX2 243 "java/lang/IndexOutOfBoundsException", Cond.initialized "java/lang/IndexOutOfBoundsException", Cond.fieldLink RX2 90 "ParrotLog" "shipCount" "I", Cond.fieldLink RX2 22 "ParrotLog" "fleet" "[LParrotLog$Ship;", Cond.methodLink RX2 105 yX2_checkHours, Cond.static yX2_checkHours, Cond.code yX2_checkHours cX2_checkHours 1 none, Cond.classLink RX2 37 "java/lang/IllegalArgumentException", Cond.initialized "java/lang/IllegalArgumentException", Cond.methodLink RX2 108 yX2_mostHeard, Cond.instanceMethod yX2_mostHeard, Cond.selects RX2 yX2_mostHeard yX2_mostHeard, Cond.code yX2_mostHeard cX2_mostHeard 3 (some .int), Cond.fieldLink RX2 50 "ParrotLog" "stormOn" "Z", Cond.methodLink RX2 174 yX2_errorsAfter, Cond.instanceMethod yX2_errorsAfter, Cond.selects RX2 yX2_errorsAfter yX2_errorsAfter, Cond.code yX2_errorsAfter cX2_errorsAfter 9 (some .int), Cond.fieldLink RX2 10 "ParrotLog" "log" "LParrotLog$Log;"]
def wsX2_errorsIn_r2 : List Cond := [Cond.methodLink RX2 225 Lib.Math.min.name, Cond.static Lib.Math.min.name, Cond.initialized "java/lang/Math", Cond.code Lib.Math.min.name Lib.Math.min.code 2 (some .int), Cond.instanceMethod yX0_positionFrom, Cond.initialized RX0, Cond.selects RX0 yX0_positionFrom yX0_positionFrom, Cond.code yX0_positionFrom cX0_positionFrom 3 (some .int), Cond.fieldLink RX0 28 "ParrotLog$Log" "size" "I", Cond.fieldLink RX0 9 "ParrotLog$Log" "offsets" "[I", Cond.instanceMethod yX0_latestPosition, Cond.selects RX0 yX0_latestPosition yX0_latestPosition, Cond.code yX0_latestPosition cX0_latestPosition 5 (some .int), Cond.fieldLink RX0 15 "ParrotLog$Log" "keys" "[I", Cond.instanceMethod yX0_latestValue, Cond.selects RX0 yX0_latestValue yX0_latestValue, Cond.code yX0_latestValue cX0_latestValue 3 (some .int), Cond.fieldLink RX0 18 "ParrotLog$Log" "values" "[I", Cond.methodLink RX0 35 yX0_latestPosition]
def wsX2_errorsIn : List Cond := .code yX2_errorsIn cX2_errorsIn 4 (some .int) :: ((wsX2_errorsIn_r1 ++ wsX2_errorsIn_r2) ++ wsX10 ++ wsX20 ++ wsX00 ++ (vx_atS RX2 245 "java/lang/IndexOutOfBoundsException" ["java/lang/RuntimeException", "java/lang/Exception"]).filter goodWord ++ (vx_atS RX2 41 "java/lang/IllegalArgumentException" ["java/lang/RuntimeException", "java/lang/Exception"]).filter goodWord)
def wsX2_paceWanted_r1 : List Cond := [Cond.methodLink RX2 101 yX2_shipNumbered, Cond.instanceMethod yX2_shipNumbered, Cond.selects RX2 yX2_shipNumbered yX2_shipNumbered, Cond.initialized RX2, Cond.code yX2_shipNumbered cX2_shipNumbered 2 (some (.object "ParrotLog$Ship")), Cond.classLink RX2 243 "java/lang/IndexOutOfBoundsException", Cond.initialized "java/lang/IndexOutOfBoundsException", Cond.fieldLink RX2 90 "ParrotLog" "shipCount" "I", Cond.fieldLink RX2 22 "ParrotLog" "fleet" "[LParrotLog$Ship;", Cond.methodLink RX2 161 yX2_lag, Cond.instanceMethod yX2_lag, Cond.selects RX2 yX2_lag yX2_lag, Cond.code yX2_lag cX2_lag 2 (some .int), Cond.fieldLink RX2 10 "ParrotLog" "log" "LParrotLog$Log;", Cond.instanceMethod yX0_positionFrom, Cond.initialized RX0, Cond.selects RX0 yX0_positionFrom yX0_positionFrom, Cond.code yX0_positionFrom cX0_positionFrom 3 (some .int), Cond.fieldLink RX0 28 "ParrotLog$Log" "size" "I", Cond.fieldLink RX0 9 "ParrotLog$Log" "offsets" "[I", Cond.methodLink RX2 105 yX2_checkHours, Cond.static yX2_checkHours, Cond.code yX2_checkHours cX2_checkHours 1 none, Cond.classLink RX2 37 "java/lang/IllegalArgumentException"]
def wsX2_paceWanted_r2 : List Cond := [Cond.initialized "java/lang/IllegalArgumentException", Cond.methodLink RX2 108 yX2_mostHeard, Cond.instanceMethod yX2_mostHeard, Cond.selects RX2 yX2_mostHeard yX2_mostHeard, Cond.code yX2_mostHeard cX2_mostHeard 3 (some .int), Cond.fieldLink RX2 50 "ParrotLog" "stormOn" "Z"]
def wsX2_paceWanted : List Cond := .code yX2_paceWanted cX2_paceWanted 5 (some .int) :: ((wsX2_paceWanted_r1 ++ wsX2_paceWanted_r2) ++ wsX20 ++ wsX00 ++ wsX10 ++ (vx_atS RX2 245 "java/lang/IndexOutOfBoundsException" ["java/lang/RuntimeException", "java/lang/Exception"]).filter goodWord ++ (vx_atS RX2 41 "java/lang/IllegalArgumentException" ["java/lang/RuntimeException", "java/lang/Exception"]).filter goodWord)
def wsX2_wouldCompact_r1 : List Cond := [Cond.fieldLink RX2 10 "ParrotLog" "log" "LParrotLog$Log;", Cond.methodLink RX2 75 yX2_markCompacted, Cond.instanceMethod yX2_markCompacted, Cond.selects RX2 yX2_markCompacted yX2_markCompacted, Cond.initialized RX2, Cond.code yX2_markCompacted cX2_markCompacted 1 none, Cond.methodLink RX2 220 yX2_leastShipOffset, Cond.instanceMethod yX2_leastShipOffset, Cond.selects RX2 yX2_leastShipOffset yX2_leastShipOffset, Cond.code yX2_leastShipOffset cX2_leastShipOffset 3 (some .int), Cond.fieldLink RX2 90 "ParrotLog" "shipCount" "I", Cond.fieldLink RX2 22 "ParrotLog" "fleet" "[LParrotLog$Ship;", Cond.methodLink RX2 225 Lib.Math.min.name, Cond.static Lib.Math.min.name, Cond.initialized "java/lang/Math", Cond.code Lib.Math.min.name Lib.Math.min.code 2 (some .int), Cond.instanceMethod yX0_markCompacted, Cond.initialized RX0, Cond.selects RX0 yX0_markCompacted yX0_markCompacted, Cond.code yX0_markCompacted cX0_markCompacted 5 none, Cond.fieldLink RX0 28 "ParrotLog$Log" "size" "I", Cond.fieldLink RX0 15 "ParrotLog$Log" "keys" "[I", Cond.fieldLink RX0 18 "ParrotLog$Log" "values" "[I", Cond.fieldLink RX0 9 "ParrotLog$Log" "offsets" "[I"]
def wsX2_wouldCompact_r2 : List Cond := [Cond.fieldLink RX0 24 "ParrotLog$Log" "marked" "[Z", Cond.methodLink RX0 35 yX0_latestPosition, Cond.instanceMethod yX0_latestPosition, Cond.selects RX0 yX0_latestPosition yX0_latestPosition, Cond.code yX0_latestPosition cX0_latestPosition 5 (some .int), Cond.instanceMethod yX0_countMarked, Cond.selects RX0 yX0_countMarked yX0_countMarked, Cond.code yX0_countMarked cX0_countMarked 1 (some .int), Cond.methodLink RX0 39 yX0_countMarkedFrom, Cond.instanceMethod yX0_countMarkedFrom, Cond.selects RX0 yX0_countMarkedFrom yX0_countMarkedFrom, Cond.code yX0_countMarkedFrom cX0_countMarkedFrom 4 (some .int), Cond.methodLink RX0 43 yX0_positionFrom, Cond.instanceMethod yX0_positionFrom, Cond.selects RX0 yX0_positionFrom yX0_positionFrom, Cond.code yX0_positionFrom cX0_positionFrom 3 (some .int)]
def wsX2_wouldCompact : List Cond := .code yX2_wouldCompact cX2_wouldCompact 1 (some .int) :: ((wsX2_wouldCompact_r1 ++ wsX2_wouldCompact_r2) ++ wsX20 ++ wsX00 ++ wsX10)
def wsX2_wouldMiss_r1 : List Cond := [Cond.fieldLink RX2 10 "ParrotLog" "log" "LParrotLog$Log;", Cond.methodLink RX2 101 yX2_shipNumbered, Cond.instanceMethod yX2_shipNumbered, Cond.selects RX2 yX2_shipNumbered yX2_shipNumbered, Cond.initialized RX2, Cond.code yX2_shipNumbered cX2_shipNumbered 2 (some (.object "ParrotLog$Ship")), Cond.classLink RX2 243 "java/lang/IndexOutOfBoundsException", Cond.initialized "java/lang/IndexOutOfBoundsException", Cond.fieldLink RX2 90 "ParrotLog" "shipCount" "I", Cond.fieldLink RX2 22 "ParrotLog" "fleet" "[LParrotLog$Ship;", Cond.methodLink RX2 75 yX2_markCompacted, Cond.instanceMethod yX2_markCompacted, Cond.selects RX2 yX2_markCompacted yX2_markCompacted, Cond.code yX2_markCompacted cX2_markCompacted 1 none, Cond.methodLink RX2 220 yX2_leastShipOffset, Cond.instanceMethod yX2_leastShipOffset, Cond.selects RX2 yX2_leastShipOffset yX2_leastShipOffset, Cond.code yX2_leastShipOffset cX2_leastShipOffset 3 (some .int), Cond.methodLink RX2 225 Lib.Math.min.name, Cond.static Lib.Math.min.name, Cond.initialized "java/lang/Math", Cond.code Lib.Math.min.name Lib.Math.min.code 2 (some .int), Cond.instanceMethod yX0_markCompacted, Cond.initialized RX0]
def wsX2_wouldMiss_r2 : List Cond := [Cond.selects RX0 yX0_markCompacted yX0_markCompacted, Cond.code yX0_markCompacted cX0_markCompacted 5 none, Cond.fieldLink RX0 28 "ParrotLog$Log" "size" "I", Cond.fieldLink RX0 15 "ParrotLog$Log" "keys" "[I", Cond.fieldLink RX0 18 "ParrotLog$Log" "values" "[I", Cond.fieldLink RX0 9 "ParrotLog$Log" "offsets" "[I", Cond.fieldLink RX0 24 "ParrotLog$Log" "marked" "[Z", Cond.methodLink RX0 35 yX0_latestPosition, Cond.instanceMethod yX0_latestPosition, Cond.selects RX0 yX0_latestPosition yX0_latestPosition, Cond.code yX0_latestPosition cX0_latestPosition 5 (some .int), Cond.instanceMethod yX0_countMarkedFrom, Cond.selects RX0 yX0_countMarkedFrom yX0_countMarkedFrom, Cond.code yX0_countMarkedFrom cX0_countMarkedFrom 4 (some .int), Cond.methodLink RX0 43 yX0_positionFrom, Cond.instanceMethod yX0_positionFrom, Cond.selects RX0 yX0_positionFrom yX0_positionFrom, Cond.code yX0_positionFrom cX0_positionFrom 3 (some .int)]
def wsX2_wouldMiss : List Cond := .code yX2_wouldMiss cX2_wouldMiss 3 (some .int) :: ((wsX2_wouldMiss_r1 ++ wsX2_wouldMiss_r2) ++ wsX20 ++ wsX10 ++ wsX00 ++ (vx_atS RX2 245 "java/lang/IndexOutOfBoundsException" ["java/lang/RuntimeException", "java/lang/Exception"]).filter goodWord)
def wsX2_meanLag : List Cond := .code yX2_meanLag cX2_meanLag 3 (some .double) :: ([.fieldLink RX2 90 "ParrotLog" "shipCount" "I", .fieldLink RX2 22 "ParrotLog" "fleet" "[LParrotLog$Ship;", .methodLink RX2 161 yX2_lag, .instanceMethod yX2_lag, .selects RX2 yX2_lag yX2_lag, .initialized RX2, .code yX2_lag cX2_lag 2 (some .int), .fieldLink RX2 10 "ParrotLog" "log" "LParrotLog$Log;", .instanceMethod yX0_positionFrom, .initialized RX0, .selects RX0 yX0_positionFrom yX0_positionFrom, .code yX0_positionFrom cX0_positionFrom 3 (some .int), .fieldLink RX0 28 "ParrotLog$Log" "size" "I", .fieldLink RX0 9 "ParrotLog$Log" "offsets" "[I"] ++ wsX20 ++ wsX00 ++ wsX10)
def wsX2_mix : List Cond := .code yX2_mix cX2_mix 4 (some .long) :: ([.constantLong RX2 211 (31)])
def wsX2_mixKeys_r1 : List Cond := [Cond.fieldLink RX2 10 "ParrotLog" "log" "LParrotLog$Log;", Cond.instanceMethod yX0_latestOffset, Cond.initialized RX0, Cond.selects RX0 yX0_latestOffset yX0_latestOffset, Cond.code yX0_latestOffset cX0_latestOffset 3 (some .int), Cond.fieldLink RX0 28 "ParrotLog$Log" "size" "I", Cond.fieldLink RX0 9 "ParrotLog$Log" "offsets" "[I", Cond.methodLink RX0 35 yX0_latestPosition, Cond.instanceMethod yX0_latestPosition, Cond.selects RX0 yX0_latestPosition yX0_latestPosition, Cond.code yX0_latestPosition cX0_latestPosition 5 (some .int), Cond.fieldLink RX0 15 "ParrotLog$Log" "keys" "[I", Cond.methodLink RX2 188 yX2_mix, Cond.static yX2_mix, Cond.initialized RX2, Cond.code yX2_mix cX2_mix 4 (some .long), Cond.constantLong RX2 211 (31), Cond.instanceMethod yX0_latestValue, Cond.selects RX0 yX0_latestValue yX0_latestValue, Cond.code yX0_latestValue cX0_latestValue 3 (some .int), Cond.fieldLink RX0 18 "ParrotLog$Log" "values" "[I", Cond.instanceMethod yX0_countKey, Cond.selects RX0 yX0_countKey yX0_countKey, Cond.code yX0_countKey cX0_countKey 2 (some .int)]
def wsX2_mixKeys_r2 : List Cond := [Cond.methodLink RX0 49 yX0_countEqual, Cond.instanceMethod yX0_countEqual, Cond.selects RX0 yX0_countEqual yX0_countEqual, Cond.code yX0_countEqual cX0_countEqual 5 (some .int)]
def wsX2_mixKeys : List Cond := .code yX2_mixKeys cX2_mixKeys 6 (some .long) :: ((wsX2_mixKeys_r1 ++ wsX2_mixKeys_r2) ++ wsX20 ++ wsX00)
def wsX2_mixStorms : List Cond := .code yX2_mixStorms cX2_mixStorms 6 (some .long) :: ([.fieldLink RX2 59 "ParrotLog" "stormCount" "I", .fieldLink RX2 16 "ParrotLog" "saidInStorm" "[I", .fieldLink RX2 10 "ParrotLog" "log" "LParrotLog$Log;", .methodLink RX2 188 yX2_mix, .static yX2_mix, .initialized RX2, .code yX2_mix cX2_mix 4 (some .long), .constantLong RX2 211 (31), .instanceMethod yX0_countStorm, .initialized RX0, .selects RX0 yX0_countStorm yX0_countStorm, .code yX0_countStorm cX0_countStorm 2 (some .int), .fieldLink RX0 21 "ParrotLog$Log" "stormNumbers" "[I", .methodLink RX0 49 yX0_countEqual, .instanceMethod yX0_countEqual, .selects RX0 yX0_countEqual yX0_countEqual, .code yX0_countEqual cX0_countEqual 5 (some .int), .fieldLink RX0 28 "ParrotLog$Log" "size" "I"] ++ wsX20 ++ wsX00)
def wsX2_mixShips_r1 : List Cond := [Cond.fieldLink RX2 90 "ParrotLog" "shipCount" "I", Cond.fieldLink RX2 22 "ParrotLog" "fleet" "[LParrotLog$Ship;", Cond.fieldLink RX2 10 "ParrotLog" "log" "LParrotLog$Log;", Cond.methodLink RX2 75 yX2_markCompacted, Cond.instanceMethod yX2_markCompacted, Cond.selects RX2 yX2_markCompacted yX2_markCompacted, Cond.initialized RX2, Cond.code yX2_markCompacted cX2_markCompacted 1 none, Cond.methodLink RX2 220 yX2_leastShipOffset, Cond.instanceMethod yX2_leastShipOffset, Cond.selects RX2 yX2_leastShipOffset yX2_leastShipOffset, Cond.code yX2_leastShipOffset cX2_leastShipOffset 3 (some .int), Cond.methodLink RX2 225 Lib.Math.min.name, Cond.static Lib.Math.min.name, Cond.initialized "java/lang/Math", Cond.code Lib.Math.min.name Lib.Math.min.code 2 (some .int), Cond.instanceMethod yX0_markCompacted, Cond.initialized RX0, Cond.selects RX0 yX0_markCompacted yX0_markCompacted, Cond.code yX0_markCompacted cX0_markCompacted 5 none, Cond.fieldLink RX0 28 "ParrotLog$Log" "size" "I", Cond.fieldLink RX0 15 "ParrotLog$Log" "keys" "[I", Cond.fieldLink RX0 18 "ParrotLog$Log" "values" "[I", Cond.fieldLink RX0 9 "ParrotLog$Log" "offsets" "[I"]
def wsX2_mixShips_r2 : List Cond := [Cond.fieldLink RX0 24 "ParrotLog$Log" "marked" "[Z", Cond.methodLink RX0 35 yX0_latestPosition, Cond.instanceMethod yX0_latestPosition, Cond.selects RX0 yX0_latestPosition yX0_latestPosition, Cond.code yX0_latestPosition cX0_latestPosition 5 (some .int), Cond.methodLink RX2 188 yX2_mix, Cond.static yX2_mix, Cond.code yX2_mix cX2_mix 4 (some .long), Cond.constantLong RX2 211 (31), Cond.methodLink RX2 161 yX2_lag, Cond.instanceMethod yX2_lag, Cond.selects RX2 yX2_lag yX2_lag, Cond.code yX2_lag cX2_lag 2 (some .int), Cond.instanceMethod yX0_positionFrom, Cond.selects RX0 yX0_positionFrom yX0_positionFrom, Cond.code yX0_positionFrom cX0_positionFrom 3 (some .int), Cond.methodLink RX2 174 yX2_errorsAfter, Cond.instanceMethod yX2_errorsAfter, Cond.selects RX2 yX2_errorsAfter yX2_errorsAfter, Cond.code yX2_errorsAfter cX2_errorsAfter 9 (some .int), Cond.instanceMethod yX0_latestValue, Cond.selects RX0 yX0_latestValue yX0_latestValue, Cond.code yX0_latestValue cX0_latestValue 3 (some .int), Cond.methodLink RX2 177 yX2_hoursToGo]
def wsX2_mixShips_r3 : List Cond := [Cond.instanceMethod yX2_hoursToGo, Cond.selects RX2 yX2_hoursToGo yX2_hoursToGo, Cond.code yX2_hoursToGo cX2_hoursToGo 4 (some .int), Cond.methodLink RX2 108 yX2_mostHeard, Cond.instanceMethod yX2_mostHeard, Cond.selects RX2 yX2_mostHeard yX2_mostHeard, Cond.code yX2_mostHeard cX2_mostHeard 3 (some .int), Cond.fieldLink RX2 50 "ParrotLog" "stormOn" "Z", Cond.instanceMethod yX0_countMarkedFrom, Cond.selects RX0 yX0_countMarkedFrom yX0_countMarkedFrom, Cond.code yX0_countMarkedFrom cX0_countMarkedFrom 4 (some .int), Cond.methodLink RX0 43 yX0_positionFrom]
def wsX2_mixShips : List Cond := .code yX2_mixShips cX2_mixShips 7 (some .long) :: ((wsX2_mixShips_r1 ++ (wsX2_mixShips_r2 ++ wsX2_mixShips_r3)) ++ wsX20 ++ wsX10 ++ wsX00)
def wsX2_digest_r1 : List Cond := [Cond.constantLong RX2 186 (1787), Cond.fieldLink RX2 115 "ParrotLog" "hour" "I", Cond.fieldLink RX2 10 "ParrotLog" "log" "LParrotLog$Log;", Cond.fieldLink RX2 59 "ParrotLog" "stormCount" "I", Cond.fieldLink RX2 50 "ParrotLog" "stormOn" "Z", Cond.fieldLink RX2 90 "ParrotLog" "shipCount" "I", Cond.methodLink RX2 188 yX2_mix, Cond.static yX2_mix, Cond.initialized RX2, Cond.code yX2_mix cX2_mix 4 (some .long), Cond.constantLong RX2 211 (31), Cond.methodLink RX2 192 yX2_firstOffset, Cond.instanceMethod yX2_firstOffset, Cond.selects RX2 yX2_firstOffset yX2_firstOffset, Cond.code yX2_firstOffset cX2_firstOffset 1 (some .int), Cond.methodLink RX2 195 yX2_farthestBehind, Cond.instanceMethod yX2_farthestBehind, Cond.selects RX2 yX2_farthestBehind yX2_farthestBehind, Cond.code yX2_farthestBehind cX2_farthestBehind 5 (some .int), Cond.fieldLink RX2 22 "ParrotLog" "fleet" "[LParrotLog$Ship;", Cond.methodLink RX2 161 yX2_lag, Cond.instanceMethod yX2_lag, Cond.selects RX2 yX2_lag yX2_lag, Cond.code yX2_lag cX2_lag 2 (some .int)]
def wsX2_digest_r2 : List Cond := [Cond.instanceMethod yX0_positionFrom, Cond.initialized RX0, Cond.selects RX0 yX0_positionFrom yX0_positionFrom, Cond.code yX0_positionFrom cX0_positionFrom 3 (some .int), Cond.fieldLink RX0 28 "ParrotLog$Log" "size" "I", Cond.fieldLink RX0 9 "ParrotLog$Log" "offsets" "[I", Cond.methodLink RX2 198 yX2_wouldCompact, Cond.instanceMethod yX2_wouldCompact, Cond.selects RX2 yX2_wouldCompact yX2_wouldCompact, Cond.code yX2_wouldCompact cX2_wouldCompact 1 (some .int), Cond.methodLink RX2 75 yX2_markCompacted, Cond.instanceMethod yX2_markCompacted, Cond.selects RX2 yX2_markCompacted yX2_markCompacted, Cond.code yX2_markCompacted cX2_markCompacted 1 none, Cond.methodLink RX2 220 yX2_leastShipOffset, Cond.instanceMethod yX2_leastShipOffset, Cond.selects RX2 yX2_leastShipOffset yX2_leastShipOffset, Cond.code yX2_leastShipOffset cX2_leastShipOffset 3 (some .int), Cond.methodLink RX2 225 Lib.Math.min.name, Cond.static Lib.Math.min.name, Cond.initialized "java/lang/Math", Cond.code Lib.Math.min.name Lib.Math.min.code 2 (some .int), Cond.instanceMethod yX0_markCompacted, Cond.selects RX0 yX0_markCompacted yX0_markCompacted]
def wsX2_digest_r3 : List Cond := [Cond.code yX0_markCompacted cX0_markCompacted 5 none, Cond.fieldLink RX0 15 "ParrotLog$Log" "keys" "[I", Cond.fieldLink RX0 18 "ParrotLog$Log" "values" "[I", Cond.fieldLink RX0 24 "ParrotLog$Log" "marked" "[Z", Cond.methodLink RX0 35 yX0_latestPosition, Cond.instanceMethod yX0_latestPosition, Cond.selects RX0 yX0_latestPosition yX0_latestPosition, Cond.code yX0_latestPosition cX0_latestPosition 5 (some .int), Cond.instanceMethod yX0_countMarked, Cond.selects RX0 yX0_countMarked yX0_countMarked, Cond.code yX0_countMarked cX0_countMarked 1 (some .int), Cond.methodLink RX0 39 yX0_countMarkedFrom, Cond.instanceMethod yX0_countMarkedFrom, Cond.selects RX0 yX0_countMarkedFrom yX0_countMarkedFrom, Cond.code yX0_countMarkedFrom cX0_countMarkedFrom 4 (some .int), Cond.methodLink RX0 43 yX0_positionFrom, Cond.methodLink RX2 201 yX2_mixKeys, Cond.instanceMethod yX2_mixKeys, Cond.selects RX2 yX2_mixKeys yX2_mixKeys, Cond.code yX2_mixKeys cX2_mixKeys 6 (some .long), Cond.instanceMethod yX0_latestOffset, Cond.selects RX0 yX0_latestOffset yX0_latestOffset, Cond.code yX0_latestOffset cX0_latestOffset 3 (some .int), Cond.instanceMethod yX0_latestValue]
def wsX2_digest_r4 : List Cond := [Cond.selects RX0 yX0_latestValue yX0_latestValue, Cond.code yX0_latestValue cX0_latestValue 3 (some .int), Cond.instanceMethod yX0_countKey, Cond.selects RX0 yX0_countKey yX0_countKey, Cond.code yX0_countKey cX0_countKey 2 (some .int), Cond.methodLink RX0 49 yX0_countEqual, Cond.instanceMethod yX0_countEqual, Cond.selects RX0 yX0_countEqual yX0_countEqual, Cond.code yX0_countEqual cX0_countEqual 5 (some .int), Cond.methodLink RX2 205 yX2_mixStorms, Cond.instanceMethod yX2_mixStorms, Cond.selects RX2 yX2_mixStorms yX2_mixStorms, Cond.code yX2_mixStorms cX2_mixStorms 6 (some .long), Cond.fieldLink RX2 16 "ParrotLog" "saidInStorm" "[I", Cond.instanceMethod yX0_countStorm, Cond.selects RX0 yX0_countStorm yX0_countStorm, Cond.code yX0_countStorm cX0_countStorm 2 (some .int), Cond.fieldLink RX0 21 "ParrotLog$Log" "stormNumbers" "[I", Cond.methodLink RX2 208 yX2_mixShips, Cond.instanceMethod yX2_mixShips, Cond.selects RX2 yX2_mixShips yX2_mixShips, Cond.code yX2_mixShips cX2_mixShips 7 (some .long), Cond.methodLink RX2 174 yX2_errorsAfter, Cond.instanceMethod yX2_errorsAfter]
def wsX2_digest_r5 : List Cond := [Cond.selects RX2 yX2_errorsAfter yX2_errorsAfter, Cond.code yX2_errorsAfter cX2_errorsAfter 9 (some .int), Cond.methodLink RX2 177 yX2_hoursToGo, Cond.instanceMethod yX2_hoursToGo, Cond.selects RX2 yX2_hoursToGo yX2_hoursToGo, Cond.code yX2_hoursToGo cX2_hoursToGo 4 (some .int), Cond.methodLink RX2 108 yX2_mostHeard, Cond.instanceMethod yX2_mostHeard, Cond.selects RX2 yX2_mostHeard yX2_mostHeard, Cond.code yX2_mostHeard cX2_mostHeard 3 (some .int)]
def wsX2_digest : List Cond := .code yX2_digest cX2_digest 3 (some .long) :: ((wsX2_digest_r1 ++ (wsX2_digest_r2 ++ (wsX2_digest_r3 ++ (wsX2_digest_r4 ++ wsX2_digest_r5)))) ++ wsX20 ++ wsX00 ++ wsX10)
def wsX3_init : List Cond := .code yX3_init cX3_init 1 none :: ([.methodLink RX3 1 objectInit, .instanceMethod objectInit, .code objectInit ⟨#[0xb1]⟩ 1 none, .arrayClass .int, .fieldLink RX3 9 "ParrotLogModel" "offset" "[I", .fieldLink RX3 13 "ParrotLogModel" "key" "[I", .fieldLink RX3 16 "ParrotLogModel" "value" "[I", .fieldLink RX3 19 "ParrotLogModel" "storm" "[I", .arrayClass .boolean, .fieldLink RX3 22 "ParrotLogModel" "goes" "[Z", .fieldLink RX3 26 "ParrotLogModel" "said" "[I", .fieldLink RX3 29 "ParrotLogModel" "pace" "[I", .fieldLink RX3 32 "ParrotLogModel" "at" "[I", .fieldLink RX3 35 "ParrotLogModel" "heard" "[I", .fieldLink RX3 38 "ParrotLogModel" "missed" "[I", .fieldLink RX3 41 "ParrotLogModel" "known" "[I"] ++ wsX30)
def wsX3_thrown : List Cond := .code yX3_thrown cX3_thrown 1 (some .int) :: ([.fieldLink RX3 44 "ParrotLogModel" "thrown" "I"] ++ wsX30)
def wsX3_fail : List Cond := .code yX3_fail cX3_fail 2 (some .int) :: ([.fieldLink RX3 44 "ParrotLogModel" "thrown" "I"] ++ wsX30)
def wsX3_told : List Cond := .code yX3_told cX3_told 2 (some .int) :: ([.fieldLink RX3 44 "ParrotLogModel" "thrown" "I"] ++ wsX30)
def wsX3_isIn : List Cond := .code yX3_isIn cX3_isIn 3 (some .boolean) :: ([])
def wsX3_isShip : List Cond := .code yX3_isShip cX3_isShip 2 (some .boolean) :: ([.fieldLink RX3 48 "ParrotLogModel" "ships" "I", .methodLink RX3 51 yX3_isIn, .static yX3_isIn, .initialized RX3, .code yX3_isIn cX3_isIn 3 (some .boolean)] ++ wsX30)
def wsX3_isStorm : List Cond := .code yX3_isStorm cX3_isStorm 2 (some .boolean) :: ([.fieldLink RX3 55 "ParrotLogModel" "storms" "I", .methodLink RX3 51 yX3_isIn, .static yX3_isIn, .initialized RX3, .code yX3_isIn cX3_isIn 3 (some .boolean)] ++ wsX30)
def wsX3_isKey : List Cond := .code yX3_isKey cX3_isKey 1 (some .boolean) :: ([.methodLink RX3 51 yX3_isIn, .static yX3_isIn, .initialized RX3, .code yX3_isIn cX3_isIn 3 (some .boolean)])
def wsX3_drop : List Cond := .code yX3_drop cX3_drop 4 (some .int) :: ([.fieldLink RX3 58 "ParrotLogModel" "many" "I", .fieldLink RX3 22 "ParrotLogModel" "goes" "[Z", .fieldLink RX3 48 "ParrotLogModel" "ships" "I", .fieldLink RX3 38 "ParrotLogModel" "missed" "[I", .fieldLink RX3 32 "ParrotLogModel" "at" "[I", .fieldLink RX3 9 "ParrotLogModel" "offset" "[I", .fieldLink RX3 13 "ParrotLogModel" "key" "[I", .fieldLink RX3 16 "ParrotLogModel" "value" "[I", .fieldLink RX3 19 "ParrotLogModel" "storm" "[I", .fieldLink RX3 61 "ParrotLogModel" "dropped" "I"] ++ wsX30)
def wsX3_put : List Cond := .code yX3_put cX3_put 4 none :: ([.fieldLink RX3 58 "ParrotLogModel" "many" "I", .fieldLink RX3 22 "ParrotLogModel" "goes" "[Z", .fieldLink RX3 9 "ParrotLogModel" "offset" "[I", .fieldLink RX3 68 "ParrotLogModel" "next" "I", .fieldLink RX3 13 "ParrotLogModel" "key" "[I", .fieldLink RX3 16 "ParrotLogModel" "value" "[I", .fieldLink RX3 19 "ParrotLogModel" "storm" "[I", .fieldLink RX3 71 "ParrotLogModel" "isOn" "Z", .fieldLink RX3 55 "ParrotLogModel" "storms" "I", .fieldLink RX3 26 "ParrotLogModel" "said" "[I", .methodLink RX3 64 yX3_drop, .instanceMethod yX3_drop, .selects RX3 yX3_drop yX3_drop, .initialized RX3, .code yX3_drop cX3_drop 4 (some .int), .fieldLink RX3 48 "ParrotLogModel" "ships" "I", .fieldLink RX3 38 "ParrotLogModel" "missed" "[I", .fieldLink RX3 32 "ParrotLogModel" "at" "[I", .fieldLink RX3 61 "ParrotLogModel" "dropped" "I"] ++ wsX30)
def wsX3_mark : List Cond := .code yX3_mark cX3_mark 5 (some .int) :: ([.fieldLink RX3 68 "ParrotLogModel" "next" "I", .fieldLink RX3 48 "ParrotLogModel" "ships" "I", .fieldLink RX3 32 "ParrotLogModel" "at" "[I", .methodLink RX3 75 Lib.Math.min.name, .static Lib.Math.min.name, .initialized "java/lang/Math", .code Lib.Math.min.name Lib.Math.min.code 2 (some .int), .arrayClass .boolean, .fieldLink RX3 58 "ParrotLogModel" "many" "I", .fieldLink RX3 22 "ParrotLogModel" "goes" "[Z", .fieldLink RX3 13 "ParrotLogModel" "key" "[I", .fieldLink RX3 16 "ParrotLogModel" "value" "[I", .fieldLink RX3 9 "ParrotLogModel" "offset" "[I"] ++ wsX30)
def wsX3_say_r1 : List Cond := [Cond.fieldLink RX3 44 "ParrotLogModel" "thrown" "I", Cond.fieldLink RX3 68 "ParrotLogModel" "next" "I", Cond.methodLink RX3 81 yX3_isKey, Cond.static yX3_isKey, Cond.initialized RX3, Cond.code yX3_isKey cX3_isKey 1 (some .boolean), Cond.methodLink RX3 51 yX3_isIn, Cond.static yX3_isIn, Cond.code yX3_isIn cX3_isIn 3 (some .boolean), Cond.methodLink RX3 85 yX3_fail, Cond.instanceMethod yX3_fail, Cond.selects RX3 yX3_fail yX3_fail, Cond.code yX3_fail cX3_fail 2 (some .int), Cond.methodLink RX3 89 yX3_put, Cond.instanceMethod yX3_put, Cond.selects RX3 yX3_put yX3_put, Cond.code yX3_put cX3_put 4 none, Cond.fieldLink RX3 58 "ParrotLogModel" "many" "I", Cond.fieldLink RX3 22 "ParrotLogModel" "goes" "[Z", Cond.fieldLink RX3 9 "ParrotLogModel" "offset" "[I", Cond.fieldLink RX3 13 "ParrotLogModel" "key" "[I", Cond.fieldLink RX3 16 "ParrotLogModel" "value" "[I", Cond.fieldLink RX3 19 "ParrotLogModel" "storm" "[I", Cond.fieldLink RX3 71 "ParrotLogModel" "isOn" "Z"]
def wsX3_say_r2 : List Cond := [Cond.fieldLink RX3 55 "ParrotLogModel" "storms" "I", Cond.fieldLink RX3 26 "ParrotLogModel" "said" "[I", Cond.methodLink RX3 64 yX3_drop, Cond.instanceMethod yX3_drop, Cond.selects RX3 yX3_drop yX3_drop, Cond.code yX3_drop cX3_drop 4 (some .int), Cond.fieldLink RX3 48 "ParrotLogModel" "ships" "I", Cond.fieldLink RX3 38 "ParrotLogModel" "missed" "[I", Cond.fieldLink RX3 32 "ParrotLogModel" "at" "[I", Cond.fieldLink RX3 61 "ParrotLogModel" "dropped" "I"]
def wsX3_say : List Cond := .code yX3_say cX3_say 3 (some .int) :: ((wsX3_say_r1 ++ wsX3_say_r2) ++ wsX30)
def wsX3_startStorm : List Cond := .code yX3_startStorm cX3_startStorm 1 (some .int) :: ([.fieldLink RX3 44 "ParrotLogModel" "thrown" "I", .fieldLink RX3 71 "ParrotLogModel" "isOn" "Z", .fieldLink RX3 55 "ParrotLogModel" "storms" "I", .methodLink RX3 85 yX3_fail, .instanceMethod yX3_fail, .selects RX3 yX3_fail yX3_fail, .initialized RX3, .code yX3_fail cX3_fail 2 (some .int)] ++ wsX30)
def wsX3_endStorm : List Cond := .code yX3_endStorm cX3_endStorm 1 (some .int) :: ([.fieldLink RX3 44 "ParrotLogModel" "thrown" "I", .fieldLink RX3 71 "ParrotLogModel" "isOn" "Z", .fieldLink RX3 26 "ParrotLogModel" "said" "[I", .fieldLink RX3 55 "ParrotLogModel" "storms" "I", .methodLink RX3 85 yX3_fail, .instanceMethod yX3_fail, .selects RX3 yX3_fail yX3_fail, .initialized RX3, .code yX3_fail cX3_fail 2 (some .int)] ++ wsX30)
def wsX3_replay_r1 : List Cond := [Cond.fieldLink RX3 44 "ParrotLogModel" "thrown" "I", Cond.fieldLink RX3 71 "ParrotLogModel" "isOn" "Z", Cond.arrayClass .int, Cond.fieldLink RX3 58 "ParrotLogModel" "many" "I", Cond.fieldLink RX3 19 "ParrotLogModel" "storm" "[I", Cond.fieldLink RX3 13 "ParrotLogModel" "key" "[I", Cond.fieldLink RX3 16 "ParrotLogModel" "value" "[I", Cond.methodLink RX3 93 yX3_isStorm, Cond.instanceMethod yX3_isStorm, Cond.selects RX3 yX3_isStorm yX3_isStorm, Cond.initialized RX3, Cond.code yX3_isStorm cX3_isStorm 2 (some .boolean), Cond.fieldLink RX3 55 "ParrotLogModel" "storms" "I", Cond.methodLink RX3 51 yX3_isIn, Cond.static yX3_isIn, Cond.code yX3_isIn cX3_isIn 3 (some .boolean), Cond.methodLink RX3 85 yX3_fail, Cond.instanceMethod yX3_fail, Cond.selects RX3 yX3_fail yX3_fail, Cond.code yX3_fail cX3_fail 2 (some .int), Cond.methodLink RX3 89 yX3_put, Cond.instanceMethod yX3_put, Cond.selects RX3 yX3_put yX3_put, Cond.code yX3_put cX3_put 4 none]
def wsX3_replay_r2 : List Cond := [Cond.fieldLink RX3 22 "ParrotLogModel" "goes" "[Z", Cond.fieldLink RX3 9 "ParrotLogModel" "offset" "[I", Cond.fieldLink RX3 68 "ParrotLogModel" "next" "I", Cond.fieldLink RX3 26 "ParrotLogModel" "said" "[I", Cond.methodLink RX3 64 yX3_drop, Cond.instanceMethod yX3_drop, Cond.selects RX3 yX3_drop yX3_drop, Cond.code yX3_drop cX3_drop 4 (some .int), Cond.fieldLink RX3 48 "ParrotLogModel" "ships" "I", Cond.fieldLink RX3 38 "ParrotLogModel" "missed" "[I", Cond.fieldLink RX3 32 "ParrotLogModel" "at" "[I", Cond.fieldLink RX3 61 "ParrotLogModel" "dropped" "I"]
def wsX3_replay : List Cond := .code yX3_replay cX3_replay 6 (some .int) :: ((wsX3_replay_r1 ++ wsX3_replay_r2) ++ wsX30)
def wsX3_compact_r1 : List Cond := [Cond.fieldLink RX3 44 "ParrotLogModel" "thrown" "I", Cond.methodLink RX3 96 yX3_mark, Cond.instanceMethod yX3_mark, Cond.selects RX3 yX3_mark yX3_mark, Cond.initialized RX3, Cond.code yX3_mark cX3_mark 5 (some .int), Cond.fieldLink RX3 68 "ParrotLogModel" "next" "I", Cond.fieldLink RX3 48 "ParrotLogModel" "ships" "I", Cond.fieldLink RX3 32 "ParrotLogModel" "at" "[I", Cond.methodLink RX3 75 Lib.Math.min.name, Cond.static Lib.Math.min.name, Cond.initialized "java/lang/Math", Cond.code Lib.Math.min.name Lib.Math.min.code 2 (some .int), Cond.arrayClass .boolean, Cond.fieldLink RX3 58 "ParrotLogModel" "many" "I", Cond.fieldLink RX3 22 "ParrotLogModel" "goes" "[Z", Cond.fieldLink RX3 13 "ParrotLogModel" "key" "[I", Cond.fieldLink RX3 16 "ParrotLogModel" "value" "[I", Cond.fieldLink RX3 9 "ParrotLogModel" "offset" "[I", Cond.methodLink RX3 64 yX3_drop, Cond.instanceMethod yX3_drop, Cond.selects RX3 yX3_drop yX3_drop, Cond.code yX3_drop cX3_drop 4 (some .int), Cond.fieldLink RX3 38 "ParrotLogModel" "missed" "[I"]
def wsX3_compact_r2 : List Cond := [Cond.fieldLink RX3 19 "ParrotLogModel" "storm" "[I", Cond.fieldLink RX3 61 "ParrotLogModel" "dropped" "I"]
def wsX3_compact : List Cond := .code yX3_compact cX3_compact 1 (some .int) :: ((wsX3_compact_r1 ++ wsX3_compact_r2) ++ wsX30)
def wsX3_trimTo : List Cond := .code yX3_trimTo cX3_trimTo 3 (some .int) :: ([.fieldLink RX3 44 "ParrotLogModel" "thrown" "I", .fieldLink RX3 68 "ParrotLogModel" "next" "I", .fieldLink RX3 58 "ParrotLogModel" "many" "I", .fieldLink RX3 22 "ParrotLogModel" "goes" "[Z", .fieldLink RX3 9 "ParrotLogModel" "offset" "[I", .methodLink RX3 51 yX3_isIn, .static yX3_isIn, .initialized RX3, .code yX3_isIn cX3_isIn 3 (some .boolean), .methodLink RX3 85 yX3_fail, .instanceMethod yX3_fail, .selects RX3 yX3_fail yX3_fail, .code yX3_fail cX3_fail 2 (some .int), .methodLink RX3 64 yX3_drop, .instanceMethod yX3_drop, .selects RX3 yX3_drop yX3_drop, .code yX3_drop cX3_drop 4 (some .int), .fieldLink RX3 48 "ParrotLogModel" "ships" "I", .fieldLink RX3 38 "ParrotLogModel" "missed" "[I", .fieldLink RX3 32 "ParrotLogModel" "at" "[I", .fieldLink RX3 13 "ParrotLogModel" "key" "[I", .fieldLink RX3 16 "ParrotLogModel" "value" "[I", .fieldLink RX3 19 "ParrotLogModel" "storm" "[I", .fieldLink RX3 61 "ParrotLogModel" "dropped" "I"] ++ wsX30)
def wsX3_addShip : List Cond := .code yX3_addShip cX3_addShip 3 (some .int) :: ([.fieldLink RX3 44 "ParrotLogModel" "thrown" "I", .fieldLink RX3 68 "ParrotLogModel" "next" "I", .fieldLink RX3 48 "ParrotLogModel" "ships" "I", .fieldLink RX3 29 "ParrotLogModel" "pace" "[I", .fieldLink RX3 32 "ParrotLogModel" "at" "[I", .methodLink RX3 51 yX3_isIn, .static yX3_isIn, .initialized RX3, .code yX3_isIn cX3_isIn 3 (some .boolean), .methodLink RX3 85 yX3_fail, .instanceMethod yX3_fail, .selects RX3 yX3_fail yX3_fail, .code yX3_fail cX3_fail 2 (some .int)] ++ wsX30)
def wsX3_seek : List Cond := .code yX3_seek cX3_seek 4 (some .int) :: ([.fieldLink RX3 44 "ParrotLogModel" "thrown" "I", .fieldLink RX3 68 "ParrotLogModel" "next" "I", .fieldLink RX3 32 "ParrotLogModel" "at" "[I", .methodLink RX3 99 yX3_isShip, .instanceMethod yX3_isShip, .selects RX3 yX3_isShip yX3_isShip, .initialized RX3, .code yX3_isShip cX3_isShip 2 (some .boolean), .fieldLink RX3 48 "ParrotLogModel" "ships" "I", .methodLink RX3 51 yX3_isIn, .static yX3_isIn, .code yX3_isIn cX3_isIn 3 (some .boolean), .methodLink RX3 85 yX3_fail, .instanceMethod yX3_fail, .selects RX3 yX3_fail yX3_fail, .code yX3_fail cX3_fail 2 (some .int)] ++ wsX30)
def wsX3_from : List Cond := .code yX3_from cX3_from 3 (some .int) :: ([.fieldLink RX3 58 "ParrotLogModel" "many" "I", .fieldLink RX3 9 "ParrotLogModel" "offset" "[I"] ++ wsX30)
def wsX3_lag : List Cond := .code yX3_lag cX3_lag 2 (some .int) :: ([.fieldLink RX3 58 "ParrotLogModel" "many" "I", .fieldLink RX3 32 "ParrotLogModel" "at" "[I", .methodLink RX3 102 yX3_from, .instanceMethod yX3_from, .selects RX3 yX3_from yX3_from, .initialized RX3, .code yX3_from cX3_from 3 (some .int), .fieldLink RX3 9 "ParrotLogModel" "offset" "[I"] ++ wsX30)
def wsX3_passHours_r1 : List Cond := [Cond.fieldLink RX3 44 "ParrotLogModel" "thrown" "I", Cond.fieldLink RX3 105 "ParrotLogModel" "hours" "I", Cond.fieldLink RX3 48 "ParrotLogModel" "ships" "I", Cond.fieldLink RX3 71 "ParrotLogModel" "isOn" "Z", Cond.fieldLink RX3 32 "ParrotLogModel" "at" "[I", Cond.fieldLink RX3 58 "ParrotLogModel" "many" "I", Cond.fieldLink RX3 29 "ParrotLogModel" "pace" "[I", Cond.methodLink RX3 75 Lib.Math.min.name, Cond.static Lib.Math.min.name, Cond.initialized "java/lang/Math", Cond.code Lib.Math.min.name Lib.Math.min.code 2 (some .int), Cond.fieldLink RX3 41 "ParrotLogModel" "known" "[I", Cond.fieldLink RX3 13 "ParrotLogModel" "key" "[I", Cond.fieldLink RX3 16 "ParrotLogModel" "value" "[I", Cond.fieldLink RX3 9 "ParrotLogModel" "offset" "[I", Cond.fieldLink RX3 35 "ParrotLogModel" "heard" "[I", Cond.methodLink RX3 51 yX3_isIn, Cond.static yX3_isIn, Cond.initialized RX3, Cond.code yX3_isIn cX3_isIn 3 (some .boolean), Cond.methodLink RX3 85 yX3_fail, Cond.instanceMethod yX3_fail, Cond.selects RX3 yX3_fail yX3_fail, Cond.code yX3_fail cX3_fail 2 (some .int)]
def wsX3_passHours_r2 : List Cond := [Cond.methodLink RX3 102 yX3_from, Cond.instanceMethod yX3_from, Cond.selects RX3 yX3_from yX3_from, Cond.code yX3_from cX3_from 3 (some .int)]
def wsX3_passHours : List Cond := .code yX3_passHours cX3_passHours 7 (some .int) :: ((wsX3_passHours_r1 ++ wsX3_passHours_r2) ++ wsX30)
def wsX3_hours : List Cond := .code yX3_hours cX3_hours 1 (some .int) :: ([.fieldLink RX3 105 "ParrotLogModel" "hours" "I", .methodLink RX3 108 yX3_told, .instanceMethod yX3_told, .selects RX3 yX3_told yX3_told, .initialized RX3, .code yX3_told cX3_told 2 (some .int), .fieldLink RX3 44 "ParrotLogModel" "thrown" "I"] ++ wsX30)
def wsX3_phrases : List Cond := .code yX3_phrases cX3_phrases 1 (some .int) :: ([.fieldLink RX3 58 "ParrotLogModel" "many" "I", .methodLink RX3 108 yX3_told, .instanceMethod yX3_told, .selects RX3 yX3_told yX3_told, .initialized RX3, .code yX3_told cX3_told 2 (some .int), .fieldLink RX3 44 "ParrotLogModel" "thrown" "I"] ++ wsX30)
def wsX3_nextOffset : List Cond := .code yX3_nextOffset cX3_nextOffset 1 (some .int) :: ([.fieldLink RX3 68 "ParrotLogModel" "next" "I", .methodLink RX3 108 yX3_told, .instanceMethod yX3_told, .selects RX3 yX3_told yX3_told, .initialized RX3, .code yX3_told cX3_told 2 (some .int), .fieldLink RX3 44 "ParrotLogModel" "thrown" "I"] ++ wsX30)
def wsX3_first : List Cond := .code yX3_first cX3_first 1 (some .int) :: ([.fieldLink RX3 58 "ParrotLogModel" "many" "I", .fieldLink RX3 9 "ParrotLogModel" "offset" "[I"] ++ wsX30)
def wsX3_firstOffset : List Cond := .code yX3_firstOffset cX3_firstOffset 1 (some .int) :: ([.methodLink RX3 111 yX3_first, .instanceMethod yX3_first, .selects RX3 yX3_first yX3_first, .initialized RX3, .code yX3_first cX3_first 1 (some .int), .fieldLink RX3 58 "ParrotLogModel" "many" "I", .fieldLink RX3 9 "ParrotLogModel" "offset" "[I", .methodLink RX3 108 yX3_told, .instanceMethod yX3_told, .selects RX3 yX3_told yX3_told, .code yX3_told cX3_told 2 (some .int), .fieldLink RX3 44 "ParrotLogModel" "thrown" "I"] ++ wsX30)
def wsX3_dropped : List Cond := .code yX3_dropped cX3_dropped 1 (some .int) :: ([.fieldLink RX3 61 "ParrotLogModel" "dropped" "I", .methodLink RX3 108 yX3_told, .instanceMethod yX3_told, .selects RX3 yX3_told yX3_told, .initialized RX3, .code yX3_told cX3_told 2 (some .int), .fieldLink RX3 44 "ParrotLogModel" "thrown" "I"] ++ wsX30)
def wsX3_place : List Cond := .code yX3_place cX3_place 3 (some .int) :: ([.fieldLink RX3 58 "ParrotLogModel" "many" "I", .fieldLink RX3 9 "ParrotLogModel" "offset" "[I", .methodLink RX3 102 yX3_from, .instanceMethod yX3_from, .selects RX3 yX3_from yX3_from, .initialized RX3, .code yX3_from cX3_from 3 (some .int)] ++ wsX30)
def wsX3_isKept : List Cond := .code yX3_isKept cX3_isKept 2 (some .boolean) :: ([.fieldLink RX3 44 "ParrotLogModel" "thrown" "I", .methodLink RX3 114 yX3_place, .instanceMethod yX3_place, .selects RX3 yX3_place yX3_place, .initialized RX3, .code yX3_place cX3_place 3 (some .int), .fieldLink RX3 58 "ParrotLogModel" "many" "I", .fieldLink RX3 9 "ParrotLogModel" "offset" "[I", .methodLink RX3 102 yX3_from, .instanceMethod yX3_from, .selects RX3 yX3_from yX3_from, .code yX3_from cX3_from 3 (some .int)] ++ wsX30)
def wsX3_of : List Cond := .code yX3_of cX3_of 4 (some .int) :: ([.fieldLink RX3 44 "ParrotLogModel" "thrown" "I", .methodLink RX3 114 yX3_place, .instanceMethod yX3_place, .selects RX3 yX3_place yX3_place, .initialized RX3, .code yX3_place cX3_place 3 (some .int), .fieldLink RX3 58 "ParrotLogModel" "many" "I", .fieldLink RX3 9 "ParrotLogModel" "offset" "[I", .methodLink RX3 102 yX3_from, .instanceMethod yX3_from, .selects RX3 yX3_from yX3_from, .code yX3_from cX3_from 3 (some .int), .methodLink RX3 85 yX3_fail, .instanceMethod yX3_fail, .selects RX3 yX3_fail yX3_fail, .code yX3_fail cX3_fail 2 (some .int)] ++ wsX30)
def wsX3_keyAt : List Cond := .code yX3_keyAt cX3_keyAt 2 (some .int) :: ([.fieldLink RX3 13 "ParrotLogModel" "key" "[I", .methodLink RX3 117 yX3_of, .instanceMethod yX3_of, .selects RX3 yX3_of yX3_of, .initialized RX3, .code yX3_of cX3_of 4 (some .int), .fieldLink RX3 44 "ParrotLogModel" "thrown" "I", .methodLink RX3 114 yX3_place, .instanceMethod yX3_place, .selects RX3 yX3_place yX3_place, .code yX3_place cX3_place 3 (some .int), .fieldLink RX3 58 "ParrotLogModel" "many" "I", .fieldLink RX3 9 "ParrotLogModel" "offset" "[I", .methodLink RX3 102 yX3_from, .instanceMethod yX3_from, .selects RX3 yX3_from yX3_from, .code yX3_from cX3_from 3 (some .int), .methodLink RX3 85 yX3_fail, .instanceMethod yX3_fail, .selects RX3 yX3_fail yX3_fail, .code yX3_fail cX3_fail 2 (some .int)] ++ wsX30)
def wsX3_valueAt : List Cond := .code yX3_valueAt cX3_valueAt 2 (some .int) :: ([.fieldLink RX3 16 "ParrotLogModel" "value" "[I", .methodLink RX3 117 yX3_of, .instanceMethod yX3_of, .selects RX3 yX3_of yX3_of, .initialized RX3, .code yX3_of cX3_of 4 (some .int), .fieldLink RX3 44 "ParrotLogModel" "thrown" "I", .methodLink RX3 114 yX3_place, .instanceMethod yX3_place, .selects RX3 yX3_place yX3_place, .code yX3_place cX3_place 3 (some .int), .fieldLink RX3 58 "ParrotLogModel" "many" "I", .fieldLink RX3 9 "ParrotLogModel" "offset" "[I", .methodLink RX3 102 yX3_from, .instanceMethod yX3_from, .selects RX3 yX3_from yX3_from, .code yX3_from cX3_from 3 (some .int), .methodLink RX3 85 yX3_fail, .instanceMethod yX3_fail, .selects RX3 yX3_fail yX3_fail, .code yX3_fail cX3_fail 2 (some .int)] ++ wsX30)
def wsX3_stormAt : List Cond := .code yX3_stormAt cX3_stormAt 2 (some .int) :: ([.fieldLink RX3 19 "ParrotLogModel" "storm" "[I", .methodLink RX3 117 yX3_of, .instanceMethod yX3_of, .selects RX3 yX3_of yX3_of, .initialized RX3, .code yX3_of cX3_of 4 (some .int), .fieldLink RX3 44 "ParrotLogModel" "thrown" "I", .methodLink RX3 114 yX3_place, .instanceMethod yX3_place, .selects RX3 yX3_place yX3_place, .code yX3_place cX3_place 3 (some .int), .fieldLink RX3 58 "ParrotLogModel" "many" "I", .fieldLink RX3 9 "ParrotLogModel" "offset" "[I", .methodLink RX3 102 yX3_from, .instanceMethod yX3_from, .selects RX3 yX3_from yX3_from, .code yX3_from cX3_from 3 (some .int), .methodLink RX3 85 yX3_fail, .instanceMethod yX3_fail, .selects RX3 yX3_fail yX3_fail, .code yX3_fail cX3_fail 2 (some .int)] ++ wsX30)
def wsX3_last : List Cond := .code yX3_last cX3_last 3 (some .int) :: ([.fieldLink RX3 58 "ParrotLogModel" "many" "I", .fieldLink RX3 13 "ParrotLogModel" "key" "[I"] ++ wsX30)
def wsX3_latest : List Cond := .code yX3_latest cX3_latest 2 (some .int) :: ([.fieldLink RX3 9 "ParrotLogModel" "offset" "[I", .methodLink RX3 121 yX3_last, .instanceMethod yX3_last, .selects RX3 yX3_last yX3_last, .initialized RX3, .code yX3_last cX3_last 3 (some .int), .fieldLink RX3 58 "ParrotLogModel" "many" "I", .fieldLink RX3 13 "ParrotLogModel" "key" "[I"] ++ wsX30)
def wsX3_worth : List Cond := .code yX3_worth cX3_worth 2 (some .int) :: ([.fieldLink RX3 16 "ParrotLogModel" "value" "[I", .methodLink RX3 121 yX3_last, .instanceMethod yX3_last, .selects RX3 yX3_last yX3_last, .initialized RX3, .code yX3_last cX3_last 3 (some .int), .fieldLink RX3 58 "ParrotLogModel" "many" "I", .fieldLink RX3 13 "ParrotLogModel" "key" "[I"] ++ wsX30)
def wsX3_count : List Cond := .code yX3_count cX3_count 4 (some .int) :: ([.fieldLink RX3 58 "ParrotLogModel" "many" "I", .fieldLink RX3 13 "ParrotLogModel" "key" "[I"] ++ wsX30)
def wsX3_latestOf : List Cond := .code yX3_latestOf cX3_latestOf 2 (some .int) :: ([.fieldLink RX3 44 "ParrotLogModel" "thrown" "I", .methodLink RX3 81 yX3_isKey, .static yX3_isKey, .initialized RX3, .code yX3_isKey cX3_isKey 1 (some .boolean), .methodLink RX3 51 yX3_isIn, .static yX3_isIn, .code yX3_isIn cX3_isIn 3 (some .boolean), .methodLink RX3 124 yX3_latest, .instanceMethod yX3_latest, .selects RX3 yX3_latest yX3_latest, .code yX3_latest cX3_latest 2 (some .int), .fieldLink RX3 9 "ParrotLogModel" "offset" "[I", .methodLink RX3 121 yX3_last, .instanceMethod yX3_last, .selects RX3 yX3_last yX3_last, .code yX3_last cX3_last 3 (some .int), .fieldLink RX3 58 "ParrotLogModel" "many" "I", .fieldLink RX3 13 "ParrotLogModel" "key" "[I", .methodLink RX3 85 yX3_fail, .instanceMethod yX3_fail, .selects RX3 yX3_fail yX3_fail, .code yX3_fail cX3_fail 2 (some .int)] ++ wsX30)
def wsX3_valueOf : List Cond := .code yX3_valueOf cX3_valueOf 2 (some .int) :: ([.fieldLink RX3 44 "ParrotLogModel" "thrown" "I", .methodLink RX3 81 yX3_isKey, .static yX3_isKey, .initialized RX3, .code yX3_isKey cX3_isKey 1 (some .boolean), .methodLink RX3 51 yX3_isIn, .static yX3_isIn, .code yX3_isIn cX3_isIn 3 (some .boolean), .methodLink RX3 127 yX3_worth, .instanceMethod yX3_worth, .selects RX3 yX3_worth yX3_worth, .code yX3_worth cX3_worth 2 (some .int), .fieldLink RX3 16 "ParrotLogModel" "value" "[I", .methodLink RX3 121 yX3_last, .instanceMethod yX3_last, .selects RX3 yX3_last yX3_last, .code yX3_last cX3_last 3 (some .int), .fieldLink RX3 58 "ParrotLogModel" "many" "I", .fieldLink RX3 13 "ParrotLogModel" "key" "[I", .methodLink RX3 85 yX3_fail, .instanceMethod yX3_fail, .selects RX3 yX3_fail yX3_fail, .code yX3_fail cX3_fail 2 (some .int)] ++ wsX30)
def wsX3_countOf : List Cond := .code yX3_countOf cX3_countOf 2 (some .int) :: ([.fieldLink RX3 44 "ParrotLogModel" "thrown" "I", .methodLink RX3 81 yX3_isKey, .static yX3_isKey, .initialized RX3, .code yX3_isKey cX3_isKey 1 (some .boolean), .methodLink RX3 51 yX3_isIn, .static yX3_isIn, .code yX3_isIn cX3_isIn 3 (some .boolean), .methodLink RX3 130 yX3_count, .instanceMethod yX3_count, .selects RX3 yX3_count yX3_count, .code yX3_count cX3_count 4 (some .int), .fieldLink RX3 58 "ParrotLogModel" "many" "I", .fieldLink RX3 13 "ParrotLogModel" "key" "[I", .methodLink RX3 85 yX3_fail, .instanceMethod yX3_fail, .selects RX3 yX3_fail yX3_fail, .code yX3_fail cX3_fail 2 (some .int)] ++ wsX30)
def wsX3_storms : List Cond := .code yX3_storms cX3_storms 1 (some .int) :: ([.fieldLink RX3 55 "ParrotLogModel" "storms" "I", .methodLink RX3 108 yX3_told, .instanceMethod yX3_told, .selects RX3 yX3_told yX3_told, .initialized RX3, .code yX3_told cX3_told 2 (some .int), .fieldLink RX3 44 "ParrotLogModel" "thrown" "I"] ++ wsX30)
def wsX3_isStormy : List Cond := .code yX3_isStormy cX3_isStormy 1 (some .boolean) :: ([.fieldLink RX3 44 "ParrotLogModel" "thrown" "I", .fieldLink RX3 71 "ParrotLogModel" "isOn" "Z"] ++ wsX30)
def wsX3_saidIn : List Cond := .code yX3_saidIn cX3_saidIn 2 (some .int) :: ([.fieldLink RX3 44 "ParrotLogModel" "thrown" "I", .fieldLink RX3 26 "ParrotLogModel" "said" "[I", .methodLink RX3 93 yX3_isStorm, .instanceMethod yX3_isStorm, .selects RX3 yX3_isStorm yX3_isStorm, .initialized RX3, .code yX3_isStorm cX3_isStorm 2 (some .boolean), .fieldLink RX3 55 "ParrotLogModel" "storms" "I", .methodLink RX3 51 yX3_isIn, .static yX3_isIn, .code yX3_isIn cX3_isIn 3 (some .boolean), .methodLink RX3 85 yX3_fail, .instanceMethod yX3_fail, .selects RX3 yX3_fail yX3_fail, .code yX3_fail cX3_fail 2 (some .int)] ++ wsX30)
def wsX3_kept : List Cond := .code yX3_kept cX3_kept 4 (some .int) :: ([.fieldLink RX3 58 "ParrotLogModel" "many" "I", .fieldLink RX3 19 "ParrotLogModel" "storm" "[I"] ++ wsX30)
def wsX3_keptOf : List Cond := .code yX3_keptOf cX3_keptOf 2 (some .int) :: ([.fieldLink RX3 44 "ParrotLogModel" "thrown" "I", .methodLink RX3 93 yX3_isStorm, .instanceMethod yX3_isStorm, .selects RX3 yX3_isStorm yX3_isStorm, .initialized RX3, .code yX3_isStorm cX3_isStorm 2 (some .boolean), .fieldLink RX3 55 "ParrotLogModel" "storms" "I", .methodLink RX3 51 yX3_isIn, .static yX3_isIn, .code yX3_isIn cX3_isIn 3 (some .boolean), .methodLink RX3 133 yX3_kept, .instanceMethod yX3_kept, .selects RX3 yX3_kept yX3_kept, .code yX3_kept cX3_kept 4 (some .int), .fieldLink RX3 58 "ParrotLogModel" "many" "I", .fieldLink RX3 19 "ParrotLogModel" "storm" "[I", .methodLink RX3 85 yX3_fail, .instanceMethod yX3_fail, .selects RX3 yX3_fail yX3_fail, .code yX3_fail cX3_fail 2 (some .int)] ++ wsX30)
def wsX3_ships : List Cond := .code yX3_ships cX3_ships 1 (some .int) :: ([.fieldLink RX3 48 "ParrotLogModel" "ships" "I", .methodLink RX3 108 yX3_told, .instanceMethod yX3_told, .selects RX3 yX3_told yX3_told, .initialized RX3, .code yX3_told cX3_told 2 (some .int), .fieldLink RX3 44 "ParrotLogModel" "thrown" "I"] ++ wsX30)
def wsX3_ship : List Cond := .code yX3_ship cX3_ship 3 (some .int) :: ([.fieldLink RX3 44 "ParrotLogModel" "thrown" "I", .methodLink RX3 99 yX3_isShip, .instanceMethod yX3_isShip, .selects RX3 yX3_isShip yX3_isShip, .initialized RX3, .code yX3_isShip cX3_isShip 2 (some .boolean), .fieldLink RX3 48 "ParrotLogModel" "ships" "I", .methodLink RX3 51 yX3_isIn, .static yX3_isIn, .code yX3_isIn cX3_isIn 3 (some .boolean), .methodLink RX3 85 yX3_fail, .instanceMethod yX3_fail, .selects RX3 yX3_fail yX3_fail, .code yX3_fail cX3_fail 2 (some .int)] ++ wsX30)
def wsX3_offsetOf : List Cond := .code yX3_offsetOf cX3_offsetOf 2 (some .int) :: ([.fieldLink RX3 32 "ParrotLogModel" "at" "[I", .methodLink RX3 136 yX3_ship, .instanceMethod yX3_ship, .selects RX3 yX3_ship yX3_ship, .initialized RX3, .code yX3_ship cX3_ship 3 (some .int), .fieldLink RX3 44 "ParrotLogModel" "thrown" "I", .methodLink RX3 99 yX3_isShip, .instanceMethod yX3_isShip, .selects RX3 yX3_isShip yX3_isShip, .code yX3_isShip cX3_isShip 2 (some .boolean), .fieldLink RX3 48 "ParrotLogModel" "ships" "I", .methodLink RX3 51 yX3_isIn, .static yX3_isIn, .code yX3_isIn cX3_isIn 3 (some .boolean), .methodLink RX3 85 yX3_fail, .instanceMethod yX3_fail, .selects RX3 yX3_fail yX3_fail, .code yX3_fail cX3_fail 2 (some .int)] ++ wsX30)
def wsX3_lagOf_r1 : List Cond := [Cond.fieldLink RX3 44 "ParrotLogModel" "thrown" "I", Cond.methodLink RX3 99 yX3_isShip, Cond.instanceMethod yX3_isShip, Cond.selects RX3 yX3_isShip yX3_isShip, Cond.initialized RX3, Cond.code yX3_isShip cX3_isShip 2 (some .boolean), Cond.fieldLink RX3 48 "ParrotLogModel" "ships" "I", Cond.methodLink RX3 51 yX3_isIn, Cond.static yX3_isIn, Cond.code yX3_isIn cX3_isIn 3 (some .boolean), Cond.methodLink RX3 139 yX3_lag, Cond.instanceMethod yX3_lag, Cond.selects RX3 yX3_lag yX3_lag, Cond.code yX3_lag cX3_lag 2 (some .int), Cond.fieldLink RX3 58 "ParrotLogModel" "many" "I", Cond.fieldLink RX3 32 "ParrotLogModel" "at" "[I", Cond.methodLink RX3 102 yX3_from, Cond.instanceMethod yX3_from, Cond.selects RX3 yX3_from yX3_from, Cond.code yX3_from cX3_from 3 (some .int), Cond.fieldLink RX3 9 "ParrotLogModel" "offset" "[I", Cond.methodLink RX3 85 yX3_fail, Cond.instanceMethod yX3_fail, Cond.selects RX3 yX3_fail yX3_fail]
def wsX3_lagOf_r2 : List Cond := [Cond.code yX3_fail cX3_fail 2 (some .int)]
def wsX3_lagOf : List Cond := .code yX3_lagOf cX3_lagOf 2 (some .int) :: ((wsX3_lagOf_r1 ++ wsX3_lagOf_r2) ++ wsX30)
def wsX3_heardBy : List Cond := .code yX3_heardBy cX3_heardBy 2 (some .int) :: ([.fieldLink RX3 35 "ParrotLogModel" "heard" "[I", .methodLink RX3 136 yX3_ship, .instanceMethod yX3_ship, .selects RX3 yX3_ship yX3_ship, .initialized RX3, .code yX3_ship cX3_ship 3 (some .int), .fieldLink RX3 44 "ParrotLogModel" "thrown" "I", .methodLink RX3 99 yX3_isShip, .instanceMethod yX3_isShip, .selects RX3 yX3_isShip yX3_isShip, .code yX3_isShip cX3_isShip 2 (some .boolean), .fieldLink RX3 48 "ParrotLogModel" "ships" "I", .methodLink RX3 51 yX3_isIn, .static yX3_isIn, .code yX3_isIn cX3_isIn 3 (some .boolean), .methodLink RX3 85 yX3_fail, .instanceMethod yX3_fail, .selects RX3 yX3_fail yX3_fail, .code yX3_fail cX3_fail 2 (some .int)] ++ wsX30)
def wsX3_missedBy : List Cond := .code yX3_missedBy cX3_missedBy 2 (some .int) :: ([.fieldLink RX3 38 "ParrotLogModel" "missed" "[I", .methodLink RX3 136 yX3_ship, .instanceMethod yX3_ship, .selects RX3 yX3_ship yX3_ship, .initialized RX3, .code yX3_ship cX3_ship 3 (some .int), .fieldLink RX3 44 "ParrotLogModel" "thrown" "I", .methodLink RX3 99 yX3_isShip, .instanceMethod yX3_isShip, .selects RX3 yX3_isShip yX3_isShip, .code yX3_isShip cX3_isShip 2 (some .boolean), .fieldLink RX3 48 "ParrotLogModel" "ships" "I", .methodLink RX3 51 yX3_isIn, .static yX3_isIn, .code yX3_isIn cX3_isIn 3 (some .boolean), .methodLink RX3 85 yX3_fail, .instanceMethod yX3_fail, .selects RX3 yX3_fail yX3_fail, .code yX3_fail cX3_fail 2 (some .int)] ++ wsX30)
def wsX3_knownBy : List Cond := .code yX3_knownBy cX3_knownBy 3 (some .int) :: ([.fieldLink RX3 44 "ParrotLogModel" "thrown" "I", .fieldLink RX3 41 "ParrotLogModel" "known" "[I", .methodLink RX3 99 yX3_isShip, .instanceMethod yX3_isShip, .selects RX3 yX3_isShip yX3_isShip, .initialized RX3, .code yX3_isShip cX3_isShip 2 (some .boolean), .fieldLink RX3 48 "ParrotLogModel" "ships" "I", .methodLink RX3 51 yX3_isIn, .static yX3_isIn, .code yX3_isIn cX3_isIn 3 (some .boolean), .methodLink RX3 81 yX3_isKey, .static yX3_isKey, .code yX3_isKey cX3_isKey 1 (some .boolean), .methodLink RX3 85 yX3_fail, .instanceMethod yX3_fail, .selects RX3 yX3_fail yX3_fail, .code yX3_fail cX3_fail 2 (some .int)] ++ wsX30)
def wsX3_errors : List Cond := .code yX3_errors cX3_errors 7 (some .int) :: ([.arrayClass .int, .fieldLink RX3 41 "ParrotLogModel" "known" "[I", .fieldLink RX3 32 "ParrotLogModel" "at" "[I", .fieldLink RX3 58 "ParrotLogModel" "many" "I", .fieldLink RX3 13 "ParrotLogModel" "key" "[I", .fieldLink RX3 16 "ParrotLogModel" "value" "[I", .methodLink RX3 102 yX3_from, .instanceMethod yX3_from, .selects RX3 yX3_from yX3_from, .initialized RX3, .code yX3_from cX3_from 3 (some .int), .fieldLink RX3 9 "ParrotLogModel" "offset" "[I", .methodLink RX3 127 yX3_worth, .instanceMethod yX3_worth, .selects RX3 yX3_worth yX3_worth, .code yX3_worth cX3_worth 2 (some .int), .methodLink RX3 121 yX3_last, .instanceMethod yX3_last, .selects RX3 yX3_last yX3_last, .code yX3_last cX3_last 3 (some .int)] ++ wsX30)
def wsX3_errorsOf_r1 : List Cond := [Cond.fieldLink RX3 44 "ParrotLogModel" "thrown" "I", Cond.methodLink RX3 99 yX3_isShip, Cond.instanceMethod yX3_isShip, Cond.selects RX3 yX3_isShip yX3_isShip, Cond.initialized RX3, Cond.code yX3_isShip cX3_isShip 2 (some .boolean), Cond.fieldLink RX3 48 "ParrotLogModel" "ships" "I", Cond.methodLink RX3 51 yX3_isIn, Cond.static yX3_isIn, Cond.code yX3_isIn cX3_isIn 3 (some .boolean), Cond.methodLink RX3 142 yX3_errors, Cond.instanceMethod yX3_errors, Cond.selects RX3 yX3_errors yX3_errors, Cond.code yX3_errors cX3_errors 7 (some .int), Cond.arrayClass .int, Cond.fieldLink RX3 41 "ParrotLogModel" "known" "[I", Cond.fieldLink RX3 32 "ParrotLogModel" "at" "[I", Cond.fieldLink RX3 58 "ParrotLogModel" "many" "I", Cond.fieldLink RX3 13 "ParrotLogModel" "key" "[I", Cond.fieldLink RX3 16 "ParrotLogModel" "value" "[I", Cond.methodLink RX3 102 yX3_from, Cond.instanceMethod yX3_from, Cond.selects RX3 yX3_from yX3_from, Cond.code yX3_from cX3_from 3 (some .int)]
def wsX3_errorsOf_r2 : List Cond := [Cond.fieldLink RX3 9 "ParrotLogModel" "offset" "[I", Cond.methodLink RX3 127 yX3_worth, Cond.instanceMethod yX3_worth, Cond.selects RX3 yX3_worth yX3_worth, Cond.code yX3_worth cX3_worth 2 (some .int), Cond.methodLink RX3 121 yX3_last, Cond.instanceMethod yX3_last, Cond.selects RX3 yX3_last yX3_last, Cond.code yX3_last cX3_last 3 (some .int), Cond.methodLink RX3 85 yX3_fail, Cond.instanceMethod yX3_fail, Cond.selects RX3 yX3_fail yX3_fail, Cond.code yX3_fail cX3_fail 2 (some .int)]
def wsX3_errorsOf : List Cond := .code yX3_errorsOf cX3_errorsOf 2 (some .int) :: ((wsX3_errorsOf_r1 ++ wsX3_errorsOf_r2) ++ wsX30)
def wsX3_behind : List Cond := .code yX3_behind cX3_behind 3 (some .int) :: ([.fieldLink RX3 48 "ParrotLogModel" "ships" "I", .methodLink RX3 139 yX3_lag, .instanceMethod yX3_lag, .selects RX3 yX3_lag yX3_lag, .initialized RX3, .code yX3_lag cX3_lag 2 (some .int), .fieldLink RX3 58 "ParrotLogModel" "many" "I", .fieldLink RX3 32 "ParrotLogModel" "at" "[I", .methodLink RX3 102 yX3_from, .instanceMethod yX3_from, .selects RX3 yX3_from yX3_from, .code yX3_from cX3_from 3 (some .int), .fieldLink RX3 9 "ParrotLogModel" "offset" "[I"] ++ wsX30)
def wsX3_farthestBehind : List Cond := .code yX3_farthestBehind cX3_farthestBehind 1 (some .int) :: ([.methodLink RX3 145 yX3_behind, .instanceMethod yX3_behind, .selects RX3 yX3_behind yX3_behind, .initialized RX3, .code yX3_behind cX3_behind 3 (some .int), .fieldLink RX3 48 "ParrotLogModel" "ships" "I", .methodLink RX3 139 yX3_lag, .instanceMethod yX3_lag, .selects RX3 yX3_lag yX3_lag, .code yX3_lag cX3_lag 2 (some .int), .fieldLink RX3 58 "ParrotLogModel" "many" "I", .fieldLink RX3 32 "ParrotLogModel" "at" "[I", .methodLink RX3 102 yX3_from, .instanceMethod yX3_from, .selects RX3 yX3_from yX3_from, .code yX3_from cX3_from 3 (some .int), .fieldLink RX3 9 "ParrotLogModel" "offset" "[I", .methodLink RX3 108 yX3_told, .instanceMethod yX3_told, .selects RX3 yX3_told yX3_told, .code yX3_told cX3_told 2 (some .int), .fieldLink RX3 44 "ParrotLogModel" "thrown" "I"] ++ wsX30)
def wsX3_until : List Cond := .code yX3_until cX3_until 3 (some .int) :: ([.fieldLink RX3 71 "ParrotLogModel" "isOn" "Z", .fieldLink RX3 29 "ParrotLogModel" "pace" "[I", .methodLink RX3 139 yX3_lag, .instanceMethod yX3_lag, .selects RX3 yX3_lag yX3_lag, .initialized RX3, .code yX3_lag cX3_lag 2 (some .int), .fieldLink RX3 58 "ParrotLogModel" "many" "I", .fieldLink RX3 32 "ParrotLogModel" "at" "[I", .methodLink RX3 102 yX3_from, .instanceMethod yX3_from, .selects RX3 yX3_from yX3_from, .code yX3_from cX3_from 3 (some .int), .fieldLink RX3 9 "ParrotLogModel" "offset" "[I"] ++ wsX30)
def wsX3_hoursUntilCaughtUp_r1 : List Cond := [Cond.fieldLink RX3 44 "ParrotLogModel" "thrown" "I", Cond.methodLink RX3 99 yX3_isShip, Cond.instanceMethod yX3_isShip, Cond.selects RX3 yX3_isShip yX3_isShip, Cond.initialized RX3, Cond.code yX3_isShip cX3_isShip 2 (some .boolean), Cond.fieldLink RX3 48 "ParrotLogModel" "ships" "I", Cond.methodLink RX3 51 yX3_isIn, Cond.static yX3_isIn, Cond.code yX3_isIn cX3_isIn 3 (some .boolean), Cond.methodLink RX3 148 yX3_until, Cond.instanceMethod yX3_until, Cond.selects RX3 yX3_until yX3_until, Cond.code yX3_until cX3_until 3 (some .int), Cond.fieldLink RX3 71 "ParrotLogModel" "isOn" "Z", Cond.fieldLink RX3 29 "ParrotLogModel" "pace" "[I", Cond.methodLink RX3 139 yX3_lag, Cond.instanceMethod yX3_lag, Cond.selects RX3 yX3_lag yX3_lag, Cond.code yX3_lag cX3_lag 2 (some .int), Cond.fieldLink RX3 58 "ParrotLogModel" "many" "I", Cond.fieldLink RX3 32 "ParrotLogModel" "at" "[I", Cond.methodLink RX3 102 yX3_from, Cond.instanceMethod yX3_from]
def wsX3_hoursUntilCaughtUp_r2 : List Cond := [Cond.selects RX3 yX3_from yX3_from, Cond.code yX3_from cX3_from 3 (some .int), Cond.fieldLink RX3 9 "ParrotLogModel" "offset" "[I", Cond.methodLink RX3 85 yX3_fail, Cond.instanceMethod yX3_fail, Cond.selects RX3 yX3_fail yX3_fail, Cond.code yX3_fail cX3_fail 2 (some .int)]
def wsX3_hoursUntilCaughtUp : List Cond := .code yX3_hoursUntilCaughtUp cX3_hoursUntilCaughtUp 2 (some .int) :: ((wsX3_hoursUntilCaughtUp_r1 ++ wsX3_hoursUntilCaughtUp_r2) ++ wsX30)
def wsX3_errorsIn_r1 : List Cond := [Cond.fieldLink RX3 44 "ParrotLogModel" "thrown" "I", Cond.fieldLink RX3 71 "ParrotLogModel" "isOn" "Z", Cond.fieldLink RX3 29 "ParrotLogModel" "pace" "[I", Cond.methodLink RX3 99 yX3_isShip, Cond.instanceMethod yX3_isShip, Cond.selects RX3 yX3_isShip yX3_isShip, Cond.initialized RX3, Cond.code yX3_isShip cX3_isShip 2 (some .boolean), Cond.fieldLink RX3 48 "ParrotLogModel" "ships" "I", Cond.methodLink RX3 51 yX3_isIn, Cond.static yX3_isIn, Cond.code yX3_isIn cX3_isIn 3 (some .boolean), Cond.methodLink RX3 85 yX3_fail, Cond.instanceMethod yX3_fail, Cond.selects RX3 yX3_fail yX3_fail, Cond.code yX3_fail cX3_fail 2 (some .int), Cond.methodLink RX3 142 yX3_errors, Cond.instanceMethod yX3_errors, Cond.selects RX3 yX3_errors yX3_errors, Cond.code yX3_errors cX3_errors 7 (some .int), Cond.arrayClass .int, Cond.fieldLink RX3 41 "ParrotLogModel" "known" "[I", Cond.fieldLink RX3 32 "ParrotLogModel" "at" "[I", Cond.fieldLink RX3 58 "ParrotLogModel" "many" "I"]
def wsX3_errorsIn_r2 : List Cond := [Cond.fieldLink RX3 13 "ParrotLogModel" "key" "[I", Cond.fieldLink RX3 16 "ParrotLogModel" "value" "[I", Cond.methodLink RX3 102 yX3_from, Cond.instanceMethod yX3_from, Cond.selects RX3 yX3_from yX3_from, Cond.code yX3_from cX3_from 3 (some .int), Cond.fieldLink RX3 9 "ParrotLogModel" "offset" "[I", Cond.methodLink RX3 127 yX3_worth, Cond.instanceMethod yX3_worth, Cond.selects RX3 yX3_worth yX3_worth, Cond.code yX3_worth cX3_worth 2 (some .int), Cond.methodLink RX3 121 yX3_last, Cond.instanceMethod yX3_last, Cond.selects RX3 yX3_last yX3_last, Cond.code yX3_last cX3_last 3 (some .int)]
def wsX3_errorsIn : List Cond := .code yX3_errorsIn cX3_errorsIn 3 (some .int) :: ((wsX3_errorsIn_r1 ++ wsX3_errorsIn_r2) ++ wsX30)
def wsX3_paceWanted_r1 : List Cond := [Cond.fieldLink RX3 44 "ParrotLogModel" "thrown" "I", Cond.methodLink RX3 151 Lib.Math.max.name, Cond.static Lib.Math.max.name, Cond.initialized "java/lang/Math", Cond.code Lib.Math.max.name Lib.Math.max.code 2 (some .int), Cond.fieldLink RX3 71 "ParrotLogModel" "isOn" "Z", Cond.methodLink RX3 99 yX3_isShip, Cond.instanceMethod yX3_isShip, Cond.selects RX3 yX3_isShip yX3_isShip, Cond.initialized RX3, Cond.code yX3_isShip cX3_isShip 2 (some .boolean), Cond.fieldLink RX3 48 "ParrotLogModel" "ships" "I", Cond.methodLink RX3 51 yX3_isIn, Cond.static yX3_isIn, Cond.code yX3_isIn cX3_isIn 3 (some .boolean), Cond.methodLink RX3 85 yX3_fail, Cond.instanceMethod yX3_fail, Cond.selects RX3 yX3_fail yX3_fail, Cond.code yX3_fail cX3_fail 2 (some .int), Cond.methodLink RX3 139 yX3_lag, Cond.instanceMethod yX3_lag, Cond.selects RX3 yX3_lag yX3_lag, Cond.code yX3_lag cX3_lag 2 (some .int), Cond.fieldLink RX3 58 "ParrotLogModel" "many" "I"]
def wsX3_paceWanted_r2 : List Cond := [Cond.fieldLink RX3 32 "ParrotLogModel" "at" "[I", Cond.methodLink RX3 102 yX3_from, Cond.instanceMethod yX3_from, Cond.selects RX3 yX3_from yX3_from, Cond.code yX3_from cX3_from 3 (some .int), Cond.fieldLink RX3 9 "ParrotLogModel" "offset" "[I"]
def wsX3_paceWanted : List Cond := .code yX3_paceWanted cX3_paceWanted 5 (some .int) :: ((wsX3_paceWanted_r1 ++ wsX3_paceWanted_r2) ++ wsX30)
def wsX3_wouldCompact : List Cond := .code yX3_wouldCompact cX3_wouldCompact 1 (some .int) :: ([.fieldLink RX3 44 "ParrotLogModel" "thrown" "I", .methodLink RX3 96 yX3_mark, .instanceMethod yX3_mark, .selects RX3 yX3_mark yX3_mark, .initialized RX3, .code yX3_mark cX3_mark 5 (some .int), .fieldLink RX3 68 "ParrotLogModel" "next" "I", .fieldLink RX3 48 "ParrotLogModel" "ships" "I", .fieldLink RX3 32 "ParrotLogModel" "at" "[I", .methodLink RX3 75 Lib.Math.min.name, .static Lib.Math.min.name, .initialized "java/lang/Math", .code Lib.Math.min.name Lib.Math.min.code 2 (some .int), .arrayClass .boolean, .fieldLink RX3 58 "ParrotLogModel" "many" "I", .fieldLink RX3 22 "ParrotLogModel" "goes" "[Z", .fieldLink RX3 13 "ParrotLogModel" "key" "[I", .fieldLink RX3 16 "ParrotLogModel" "value" "[I", .fieldLink RX3 9 "ParrotLogModel" "offset" "[I"] ++ wsX30)
def wsX3_misses : List Cond := .code yX3_misses cX3_misses 4 (some .int) :: ([.fieldLink RX3 32 "ParrotLogModel" "at" "[I", .fieldLink RX3 58 "ParrotLogModel" "many" "I", .fieldLink RX3 22 "ParrotLogModel" "goes" "[Z", .methodLink RX3 96 yX3_mark, .instanceMethod yX3_mark, .selects RX3 yX3_mark yX3_mark, .initialized RX3, .code yX3_mark cX3_mark 5 (some .int), .fieldLink RX3 68 "ParrotLogModel" "next" "I", .fieldLink RX3 48 "ParrotLogModel" "ships" "I", .methodLink RX3 75 Lib.Math.min.name, .static Lib.Math.min.name, .initialized "java/lang/Math", .code Lib.Math.min.name Lib.Math.min.code 2 (some .int), .arrayClass .boolean, .fieldLink RX3 13 "ParrotLogModel" "key" "[I", .fieldLink RX3 16 "ParrotLogModel" "value" "[I", .fieldLink RX3 9 "ParrotLogModel" "offset" "[I", .methodLink RX3 102 yX3_from, .instanceMethod yX3_from, .selects RX3 yX3_from yX3_from, .code yX3_from cX3_from 3 (some .int)] ++ wsX30)
def wsX3_wouldMiss_r1 : List Cond := [Cond.fieldLink RX3 44 "ParrotLogModel" "thrown" "I", Cond.methodLink RX3 99 yX3_isShip, Cond.instanceMethod yX3_isShip, Cond.selects RX3 yX3_isShip yX3_isShip, Cond.initialized RX3, Cond.code yX3_isShip cX3_isShip 2 (some .boolean), Cond.fieldLink RX3 48 "ParrotLogModel" "ships" "I", Cond.methodLink RX3 51 yX3_isIn, Cond.static yX3_isIn, Cond.code yX3_isIn cX3_isIn 3 (some .boolean), Cond.methodLink RX3 154 yX3_misses, Cond.instanceMethod yX3_misses, Cond.selects RX3 yX3_misses yX3_misses, Cond.code yX3_misses cX3_misses 4 (some .int), Cond.fieldLink RX3 32 "ParrotLogModel" "at" "[I", Cond.fieldLink RX3 58 "ParrotLogModel" "many" "I", Cond.fieldLink RX3 22 "ParrotLogModel" "goes" "[Z", Cond.methodLink RX3 96 yX3_mark, Cond.instanceMethod yX3_mark, Cond.selects RX3 yX3_mark yX3_mark, Cond.code yX3_mark cX3_mark 5 (some .int), Cond.fieldLink RX3 68 "ParrotLogModel" "next" "I", Cond.methodLink RX3 75 Lib.Math.min.name, Cond.static Lib.Math.min.name]
def wsX3_wouldMiss_r2 : List Cond := [Cond.initialized "java/lang/Math", Cond.code Lib.Math.min.name Lib.Math.min.code 2 (some .int), Cond.arrayClass .boolean, Cond.fieldLink RX3 13 "ParrotLogModel" "key" "[I", Cond.fieldLink RX3 16 "ParrotLogModel" "value" "[I", Cond.fieldLink RX3 9 "ParrotLogModel" "offset" "[I", Cond.methodLink RX3 102 yX3_from, Cond.instanceMethod yX3_from, Cond.selects RX3 yX3_from yX3_from, Cond.code yX3_from cX3_from 3 (some .int), Cond.methodLink RX3 85 yX3_fail, Cond.instanceMethod yX3_fail, Cond.selects RX3 yX3_fail yX3_fail, Cond.code yX3_fail cX3_fail 2 (some .int)]
def wsX3_wouldMiss : List Cond := .code yX3_wouldMiss cX3_wouldMiss 2 (some .int) :: ((wsX3_wouldMiss_r1 ++ wsX3_wouldMiss_r2) ++ wsX30)
def wsX3_meanLag : List Cond := .code yX3_meanLag cX3_meanLag 3 (some .double) :: ([.fieldLink RX3 44 "ParrotLogModel" "thrown" "I", .fieldLink RX3 48 "ParrotLogModel" "ships" "I", .methodLink RX3 139 yX3_lag, .instanceMethod yX3_lag, .selects RX3 yX3_lag yX3_lag, .initialized RX3, .code yX3_lag cX3_lag 2 (some .int), .fieldLink RX3 58 "ParrotLogModel" "many" "I", .fieldLink RX3 32 "ParrotLogModel" "at" "[I", .methodLink RX3 102 yX3_from, .instanceMethod yX3_from, .selects RX3 yX3_from yX3_from, .code yX3_from cX3_from 3 (some .int), .fieldLink RX3 9 "ParrotLogModel" "offset" "[I"] ++ wsX30)
def wsX3_digest_r1 : List Cond := [Cond.fieldLink RX3 44 "ParrotLogModel" "thrown" "I", Cond.arrayClass .int, Cond.fieldLink RX3 105 "ParrotLogModel" "hours" "I", Cond.fieldLink RX3 58 "ParrotLogModel" "many" "I", Cond.fieldLink RX3 68 "ParrotLogModel" "next" "I", Cond.fieldLink RX3 61 "ParrotLogModel" "dropped" "I", Cond.fieldLink RX3 55 "ParrotLogModel" "storms" "I", Cond.fieldLink RX3 71 "ParrotLogModel" "isOn" "Z", Cond.fieldLink RX3 48 "ParrotLogModel" "ships" "I", Cond.constantLong RX3 157 (1787), Cond.constantLong RX3 159 (31), Cond.fieldLink RX3 26 "ParrotLogModel" "said" "[I", Cond.fieldLink RX3 32 "ParrotLogModel" "at" "[I", Cond.fieldLink RX3 35 "ParrotLogModel" "heard" "[I", Cond.fieldLink RX3 38 "ParrotLogModel" "missed" "[I", Cond.methodLink RX3 111 yX3_first, Cond.instanceMethod yX3_first, Cond.selects RX3 yX3_first yX3_first, Cond.initialized RX3, Cond.code yX3_first cX3_first 1 (some .int), Cond.fieldLink RX3 9 "ParrotLogModel" "offset" "[I", Cond.methodLink RX3 145 yX3_behind, Cond.instanceMethod yX3_behind, Cond.selects RX3 yX3_behind yX3_behind]
def wsX3_digest_r2 : List Cond := [Cond.code yX3_behind cX3_behind 3 (some .int), Cond.methodLink RX3 139 yX3_lag, Cond.instanceMethod yX3_lag, Cond.selects RX3 yX3_lag yX3_lag, Cond.code yX3_lag cX3_lag 2 (some .int), Cond.methodLink RX3 102 yX3_from, Cond.instanceMethod yX3_from, Cond.selects RX3 yX3_from yX3_from, Cond.code yX3_from cX3_from 3 (some .int), Cond.methodLink RX3 96 yX3_mark, Cond.instanceMethod yX3_mark, Cond.selects RX3 yX3_mark yX3_mark, Cond.code yX3_mark cX3_mark 5 (some .int), Cond.methodLink RX3 75 Lib.Math.min.name, Cond.static Lib.Math.min.name, Cond.initialized "java/lang/Math", Cond.code Lib.Math.min.name Lib.Math.min.code 2 (some .int), Cond.arrayClass .boolean, Cond.fieldLink RX3 22 "ParrotLogModel" "goes" "[Z", Cond.fieldLink RX3 13 "ParrotLogModel" "key" "[I", Cond.fieldLink RX3 16 "ParrotLogModel" "value" "[I", Cond.methodLink RX3 124 yX3_latest, Cond.instanceMethod yX3_latest, Cond.selects RX3 yX3_latest yX3_latest]
def wsX3_digest_r3 : List Cond := [Cond.code yX3_latest cX3_latest 2 (some .int), Cond.methodLink RX3 121 yX3_last, Cond.instanceMethod yX3_last, Cond.selects RX3 yX3_last yX3_last, Cond.code yX3_last cX3_last 3 (some .int), Cond.methodLink RX3 127 yX3_worth, Cond.instanceMethod yX3_worth, Cond.selects RX3 yX3_worth yX3_worth, Cond.code yX3_worth cX3_worth 2 (some .int), Cond.methodLink RX3 130 yX3_count, Cond.instanceMethod yX3_count, Cond.selects RX3 yX3_count yX3_count, Cond.code yX3_count cX3_count 4 (some .int), Cond.methodLink RX3 133 yX3_kept, Cond.instanceMethod yX3_kept, Cond.selects RX3 yX3_kept yX3_kept, Cond.code yX3_kept cX3_kept 4 (some .int), Cond.fieldLink RX3 19 "ParrotLogModel" "storm" "[I", Cond.methodLink RX3 142 yX3_errors, Cond.instanceMethod yX3_errors, Cond.selects RX3 yX3_errors yX3_errors, Cond.code yX3_errors cX3_errors 7 (some .int), Cond.fieldLink RX3 41 "ParrotLogModel" "known" "[I", Cond.methodLink RX3 148 yX3_until]
def wsX3_digest_r4 : List Cond := [Cond.instanceMethod yX3_until, Cond.selects RX3 yX3_until yX3_until, Cond.code yX3_until cX3_until 3 (some .int), Cond.fieldLink RX3 29 "ParrotLogModel" "pace" "[I", Cond.methodLink RX3 154 yX3_misses, Cond.instanceMethod yX3_misses, Cond.selects RX3 yX3_misses yX3_misses, Cond.code yX3_misses cX3_misses 4 (some .int)]
def wsX3_digest : List Cond := .code yX3_digest cX3_digest 10 (some .long) :: ((wsX3_digest_r1 ++ (wsX3_digest_r2 ++ (wsX3_digest_r3 ++ wsX3_digest_r4))) ++ wsX30)
def wsJ9_max_7cf53 : List Cond := .code yJ9_max_7cf53 cJ9_max_7cf53 2 (some .int) :: ([])
def wsJ9_min_7cf53 : List Cond := .code yJ9_min_7cf53 cJ9_min_7cf53 2 (some .int) :: ([])
def wsL_say_r1 : List Cond := [Cond.classLink RL 13 "java/lang/IllegalArgumentException", Cond.methodLink RL 7 yX2_say, Cond.instanceMethod yX2_say, Cond.selects RX2 yX2_say yX2_say, Cond.initialized RX2, Cond.code yX2_say cX2_say 3 (some .int), Cond.classLink RX2 37 "java/lang/IllegalArgumentException", Cond.initialized "java/lang/IllegalArgumentException", Cond.methodLink RX2 33 yX2_isKey, Cond.static yX2_isKey, Cond.code yX2_isKey cX2_isKey 1 (some .boolean), Cond.methodLink RX2 46 yX2_speak, Cond.instanceMethod yX2_speak, Cond.selects RX2 yX2_speak yX2_speak, Cond.code yX2_speak cX2_speak 4 (some .int), Cond.fieldLink RX2 10 "ParrotLog" "log" "LParrotLog$Log;", Cond.fieldLink RX2 50 "ParrotLog" "stormOn" "Z", Cond.fieldLink RX2 59 "ParrotLog" "stormCount" "I", Cond.fieldLink RX2 16 "ParrotLog" "saidInStorm" "[I", Cond.instanceMethod yX0_markFirst, Cond.initialized RX0, Cond.selects RX0 yX0_markFirst yX0_markFirst, Cond.code yX0_markFirst cX0_markFirst 2 none, Cond.fieldLink RX0 28 "ParrotLog$Log" "size" "I"]
def wsL_say_r2 : List Cond := [Cond.fieldLink RX0 24 "ParrotLog$Log" "marked" "[Z", Cond.methodLink RX2 78 yX2_dropMarked, Cond.instanceMethod yX2_dropMarked, Cond.selects RX2 yX2_dropMarked yX2_dropMarked, Cond.code yX2_dropMarked cX2_dropMarked 2 (some .int), Cond.fieldLink RX2 90 "ParrotLog" "shipCount" "I", Cond.fieldLink RX2 22 "ParrotLog" "fleet" "[LParrotLog$Ship;", Cond.instanceMethod yX0_countMarkedFrom, Cond.selects RX0 yX0_countMarkedFrom yX0_countMarkedFrom, Cond.code yX0_countMarkedFrom cX0_countMarkedFrom 4 (some .int), Cond.methodLink RX0 43 yX0_positionFrom, Cond.instanceMethod yX0_positionFrom, Cond.selects RX0 yX0_positionFrom yX0_positionFrom, Cond.code yX0_positionFrom cX0_positionFrom 3 (some .int), Cond.fieldLink RX0 9 "ParrotLog$Log" "offsets" "[I", Cond.instanceMethod yX0_removeMarked, Cond.selects RX0 yX0_removeMarked yX0_removeMarked, Cond.code yX0_removeMarked cX0_removeMarked 3 (some .int), Cond.fieldLink RX0 15 "ParrotLog$Log" "keys" "[I", Cond.fieldLink RX0 18 "ParrotLog$Log" "values" "[I", Cond.fieldLink RX0 21 "ParrotLog$Log" "stormNumbers" "[I", Cond.fieldLink RX0 46 "ParrotLog$Log" "droppedInAll" "I", Cond.instanceMethod yX0_append, Cond.selects RX0 yX0_append yX0_append]
def wsL_say_r3 : List Cond := [Cond.code yX0_append cX0_append 4 (some .int), Cond.fieldLink RX0 32 "ParrotLog$Log" "next" "I"]
def wsL_say : List Cond := .codeWith yL_say cL_say 5 (some .int) [(0, 10, 13, 13)] :: ((wsL_say_r1 ++ (wsL_say_r2 ++ wsL_say_r3)) ++ wsX20 ++ wsX00 ++ wsX10 ++ (vx_atS RX2 41 "java/lang/IllegalArgumentException" ["java/lang/RuntimeException", "java/lang/Exception"]).filter goodWord)
def wsL_startStorm : List Cond := .codeWith yL_startStorm cL_startStorm 3 (some .int) [(0, 8, 11, 19)] :: ([.classLink RL 19 "java/lang/IllegalStateException", .methodLink RL 15 yX2_startStorm, .instanceMethod yX2_startStorm, .selects RX2 yX2_startStorm yX2_startStorm, .initialized RX2, .code yX2_startStorm cX2_startStorm 1 (some .int), .classLink RX2 54 "java/lang/IllegalStateException", .initialized "java/lang/IllegalStateException", .fieldLink RX2 50 "ParrotLog" "stormOn" "Z", .fieldLink RX2 59 "ParrotLog" "stormCount" "I"] ++ wsX20 ++ (vx_atS RX2 58 "java/lang/IllegalStateException" ["java/lang/RuntimeException", "java/lang/Exception"]).filter goodWord)
def wsL_endStorm : List Cond := .codeWith yL_endStorm cL_endStorm 3 (some .int) [(0, 8, 11, 19)] :: ([.classLink RL 19 "java/lang/IllegalStateException", .methodLink RL 21 yX2_endStorm, .instanceMethod yX2_endStorm, .selects RX2 yX2_endStorm yX2_endStorm, .initialized RX2, .code yX2_endStorm cX2_endStorm 1 (some .int), .classLink RX2 54 "java/lang/IllegalStateException", .initialized "java/lang/IllegalStateException", .fieldLink RX2 50 "ParrotLog" "stormOn" "Z", .fieldLink RX2 16 "ParrotLog" "saidInStorm" "[I", .fieldLink RX2 59 "ParrotLog" "stormCount" "I"] ++ wsX20 ++ (vx_atS RX2 58 "java/lang/IllegalStateException" ["java/lang/RuntimeException", "java/lang/Exception"]).filter goodWord)
def wsL_replay_r1 : List Cond := [Cond.classLink RL 28 "java/lang/IndexOutOfBoundsException", Cond.classLink RL 19 "java/lang/IllegalStateException", Cond.methodLink RL 24 yX2_replay, Cond.instanceMethod yX2_replay, Cond.selects RX2 yX2_replay yX2_replay, Cond.initialized RX2, Cond.code yX2_replay cX2_replay 4 (some .int), Cond.classLink RX2 54 "java/lang/IllegalStateException", Cond.initialized "java/lang/IllegalStateException", Cond.fieldLink RX2 50 "ParrotLog" "stormOn" "Z", Cond.fieldLink RX2 10 "ParrotLog" "log" "LParrotLog$Log;", Cond.fieldLink RX2 27 "ParrotLog" "replayKeys" "[I", Cond.fieldLink RX2 30 "ParrotLog" "replayValues" "[I", Cond.methodLink RX2 67 yX2_checkStorm, Cond.instanceMethod yX2_checkStorm, Cond.selects RX2 yX2_checkStorm yX2_checkStorm, Cond.code yX2_checkStorm cX2_checkStorm 2 none, Cond.classLink RX2 243 "java/lang/IndexOutOfBoundsException", Cond.initialized "java/lang/IndexOutOfBoundsException", Cond.fieldLink RX2 59 "ParrotLog" "stormCount" "I", Cond.instanceMethod yX0_copyStorm, Cond.initialized RX0, Cond.selects RX0 yX0_copyStorm yX0_copyStorm, Cond.code yX0_copyStorm cX0_copyStorm 6 (some .int)]
def wsL_replay_r2 : List Cond := [Cond.fieldLink RX0 28 "ParrotLog$Log" "size" "I", Cond.fieldLink RX0 21 "ParrotLog$Log" "stormNumbers" "[I", Cond.fieldLink RX0 15 "ParrotLog$Log" "keys" "[I", Cond.fieldLink RX0 18 "ParrotLog$Log" "values" "[I", Cond.methodLink RX2 46 yX2_speak, Cond.instanceMethod yX2_speak, Cond.selects RX2 yX2_speak yX2_speak, Cond.code yX2_speak cX2_speak 4 (some .int), Cond.fieldLink RX2 16 "ParrotLog" "saidInStorm" "[I", Cond.instanceMethod yX0_markFirst, Cond.selects RX0 yX0_markFirst yX0_markFirst, Cond.code yX0_markFirst cX0_markFirst 2 none, Cond.fieldLink RX0 24 "ParrotLog$Log" "marked" "[Z", Cond.methodLink RX2 78 yX2_dropMarked, Cond.instanceMethod yX2_dropMarked, Cond.selects RX2 yX2_dropMarked yX2_dropMarked, Cond.code yX2_dropMarked cX2_dropMarked 2 (some .int), Cond.fieldLink RX2 90 "ParrotLog" "shipCount" "I", Cond.fieldLink RX2 22 "ParrotLog" "fleet" "[LParrotLog$Ship;", Cond.instanceMethod yX0_countMarkedFrom, Cond.selects RX0 yX0_countMarkedFrom yX0_countMarkedFrom, Cond.code yX0_countMarkedFrom cX0_countMarkedFrom 4 (some .int), Cond.methodLink RX0 43 yX0_positionFrom, Cond.instanceMethod yX0_positionFrom]
def wsL_replay_r3 : List Cond := [Cond.selects RX0 yX0_positionFrom yX0_positionFrom, Cond.code yX0_positionFrom cX0_positionFrom 3 (some .int), Cond.fieldLink RX0 9 "ParrotLog$Log" "offsets" "[I", Cond.instanceMethod yX0_removeMarked, Cond.selects RX0 yX0_removeMarked yX0_removeMarked, Cond.code yX0_removeMarked cX0_removeMarked 3 (some .int), Cond.fieldLink RX0 46 "ParrotLog$Log" "droppedInAll" "I", Cond.instanceMethod yX0_append, Cond.selects RX0 yX0_append yX0_append, Cond.code yX0_append cX0_append 4 (some .int), Cond.fieldLink RX0 32 "ParrotLog$Log" "next" "I"]
def wsL_replay : List Cond := .codeWith yL_replay cL_replay 4 (some .int) [(0, 9, 12, 28), (0, 9, 15, 19)] :: ((wsL_replay_r1 ++ (wsL_replay_r2 ++ wsL_replay_r3)) ++ wsX20 ++ wsX00 ++ wsX10 ++ (vx_atS RX2 58 "java/lang/IllegalStateException" ["java/lang/RuntimeException", "java/lang/Exception"]).filter goodWord ++ (vx_atS RX2 245 "java/lang/IndexOutOfBoundsException" ["java/lang/RuntimeException", "java/lang/Exception"]).filter goodWord)
def wsL_trimTo_r1 : List Cond := [Cond.classLink RL 13 "java/lang/IllegalArgumentException", Cond.methodLink RL 30 yX2_trimTo, Cond.instanceMethod yX2_trimTo, Cond.selects RX2 yX2_trimTo yX2_trimTo, Cond.initialized RX2, Cond.code yX2_trimTo cX2_trimTo 2 (some .int), Cond.fieldLink RX2 10 "ParrotLog" "log" "LParrotLog$Log;", Cond.methodLink RX2 82 yX2_checkReachable, Cond.instanceMethod yX2_checkReachable, Cond.selects RX2 yX2_checkReachable yX2_checkReachable, Cond.code yX2_checkReachable cX2_checkReachable 2 none, Cond.classLink RX2 37 "java/lang/IllegalArgumentException", Cond.initialized "java/lang/IllegalArgumentException", Cond.instanceMethod yX0_markAhead, Cond.initialized RX0, Cond.selects RX0 yX0_markAhead yX0_markAhead, Cond.code yX0_markAhead cX0_markAhead 3 none, Cond.fieldLink RX0 28 "ParrotLog$Log" "size" "I", Cond.fieldLink RX0 24 "ParrotLog$Log" "marked" "[Z", Cond.fieldLink RX0 9 "ParrotLog$Log" "offsets" "[I", Cond.methodLink RX2 78 yX2_dropMarked, Cond.instanceMethod yX2_dropMarked, Cond.selects RX2 yX2_dropMarked yX2_dropMarked, Cond.code yX2_dropMarked cX2_dropMarked 2 (some .int)]
def wsL_trimTo_r2 : List Cond := [Cond.fieldLink RX2 90 "ParrotLog" "shipCount" "I", Cond.fieldLink RX2 22 "ParrotLog" "fleet" "[LParrotLog$Ship;", Cond.instanceMethod yX0_countMarkedFrom, Cond.selects RX0 yX0_countMarkedFrom yX0_countMarkedFrom, Cond.code yX0_countMarkedFrom cX0_countMarkedFrom 4 (some .int), Cond.methodLink RX0 43 yX0_positionFrom, Cond.instanceMethod yX0_positionFrom, Cond.selects RX0 yX0_positionFrom yX0_positionFrom, Cond.code yX0_positionFrom cX0_positionFrom 3 (some .int), Cond.instanceMethod yX0_removeMarked, Cond.selects RX0 yX0_removeMarked yX0_removeMarked, Cond.code yX0_removeMarked cX0_removeMarked 3 (some .int), Cond.fieldLink RX0 15 "ParrotLog$Log" "keys" "[I", Cond.fieldLink RX0 18 "ParrotLog$Log" "values" "[I", Cond.fieldLink RX0 21 "ParrotLog$Log" "stormNumbers" "[I", Cond.fieldLink RX0 46 "ParrotLog$Log" "droppedInAll" "I"]
def wsL_trimTo : List Cond := .codeWith yL_trimTo cL_trimTo 4 (some .int) [(0, 9, 12, 13)] :: ((wsL_trimTo_r1 ++ wsL_trimTo_r2) ++ wsX20 ++ wsX00 ++ wsX10 ++ (vx_atS RX2 41 "java/lang/IllegalArgumentException" ["java/lang/RuntimeException", "java/lang/Exception"]).filter goodWord)
def wsL_addShip : List Cond := .codeWith yL_addShip cL_addShip 5 (some .int) [(0, 10, 13, 13), (0, 10, 17, 19)] :: ([.classLink RL 13 "java/lang/IllegalArgumentException", .classLink RL 19 "java/lang/IllegalStateException", .methodLink RL 33 yX2_addShip, .instanceMethod yX2_addShip, .selects RX2 yX2_addShip yX2_addShip, .initialized RX2, .code yX2_addShip cX2_addShip 4 (some .int), .classLink RX2 37 "java/lang/IllegalArgumentException", .initialized "java/lang/IllegalArgumentException", .classLink RX2 54 "java/lang/IllegalStateException", .initialized "java/lang/IllegalStateException", .fieldLink RX2 90 "ParrotLog" "shipCount" "I", .fieldLink RX2 22 "ParrotLog" "fleet" "[LParrotLog$Ship;", .methodLink RX2 82 yX2_checkReachable, .instanceMethod yX2_checkReachable, .selects RX2 yX2_checkReachable yX2_checkReachable, .code yX2_checkReachable cX2_checkReachable 2 none, .fieldLink RX2 10 "ParrotLog" "log" "LParrotLog$Log;"] ++ wsX20 ++ wsX10 ++ wsX00 ++ (vx_atS RX2 41 "java/lang/IllegalArgumentException" ["java/lang/RuntimeException", "java/lang/Exception"]).filter goodWord ++ (vx_atS RX2 58 "java/lang/IllegalStateException" ["java/lang/RuntimeException", "java/lang/Exception"]).filter goodWord)
def wsL_seek : List Cond := .codeWith yL_seek cL_seek 5 (some .int) [(0, 10, 13, 28), (0, 10, 17, 13)] :: ([.classLink RL 28 "java/lang/IndexOutOfBoundsException", .classLink RL 13 "java/lang/IllegalArgumentException", .methodLink RL 36 yX2_seek, .instanceMethod yX2_seek, .selects RX2 yX2_seek yX2_seek, .initialized RX2, .code yX2_seek cX2_seek 5 (some .int), .methodLink RX2 101 yX2_shipNumbered, .instanceMethod yX2_shipNumbered, .selects RX2 yX2_shipNumbered yX2_shipNumbered, .code yX2_shipNumbered cX2_shipNumbered 2 (some (.object "ParrotLog$Ship")), .classLink RX2 243 "java/lang/IndexOutOfBoundsException", .initialized "java/lang/IndexOutOfBoundsException", .fieldLink RX2 90 "ParrotLog" "shipCount" "I", .fieldLink RX2 22 "ParrotLog" "fleet" "[LParrotLog$Ship;", .methodLink RX2 82 yX2_checkReachable, .instanceMethod yX2_checkReachable, .selects RX2 yX2_checkReachable yX2_checkReachable, .code yX2_checkReachable cX2_checkReachable 2 none, .classLink RX2 37 "java/lang/IllegalArgumentException", .initialized "java/lang/IllegalArgumentException", .fieldLink RX2 10 "ParrotLog" "log" "LParrotLog$Log;"] ++ wsX10 ++ wsX20 ++ wsX00 ++ (vx_atS RX2 245 "java/lang/IndexOutOfBoundsException" ["java/lang/RuntimeException", "java/lang/Exception"]).filter goodWord ++ (vx_atS RX2 41 "java/lang/IllegalArgumentException" ["java/lang/RuntimeException", "java/lang/Exception"]).filter goodWord)
def wsL_passHours_r1 : List Cond := [Cond.classLink RL 13 "java/lang/IllegalArgumentException", Cond.methodLink RL 39 yX2_passHours, Cond.instanceMethod yX2_passHours, Cond.selects RX2 yX2_passHours yX2_passHours, Cond.initialized RX2, Cond.code yX2_passHours cX2_passHours 4 (some .int), Cond.fieldLink RX2 90 "ParrotLog" "shipCount" "I", Cond.fieldLink RX2 22 "ParrotLog" "fleet" "[LParrotLog$Ship;", Cond.fieldLink RX2 115 "ParrotLog" "hour" "I", Cond.methodLink RX2 105 yX2_checkHours, Cond.static yX2_checkHours, Cond.code yX2_checkHours cX2_checkHours 1 none, Cond.classLink RX2 37 "java/lang/IllegalArgumentException", Cond.initialized "java/lang/IllegalArgumentException", Cond.methodLink RX2 108 yX2_mostHeard, Cond.instanceMethod yX2_mostHeard, Cond.selects RX2 yX2_mostHeard yX2_mostHeard, Cond.code yX2_mostHeard cX2_mostHeard 3 (some .int), Cond.fieldLink RX2 50 "ParrotLog" "stormOn" "Z", Cond.methodLink RX2 111 yX2_hearNext, Cond.instanceMethod yX2_hearNext, Cond.selects RX2 yX2_hearNext yX2_hearNext, Cond.code yX2_hearNext cX2_hearNext 6 (some .int), Cond.fieldLink RX2 10 "ParrotLog" "log" "LParrotLog$Log;"]
def wsL_passHours_r2 : List Cond := [Cond.methodLink RX2 225 Lib.Math.min.name, Cond.static Lib.Math.min.name, Cond.initialized "java/lang/Math", Cond.code Lib.Math.min.name Lib.Math.min.code 2 (some .int), Cond.instanceMethod yX0_positionFrom, Cond.initialized RX0, Cond.selects RX0 yX0_positionFrom yX0_positionFrom, Cond.code yX0_positionFrom cX0_positionFrom 3 (some .int), Cond.fieldLink RX0 28 "ParrotLog$Log" "size" "I", Cond.fieldLink RX0 9 "ParrotLog$Log" "offsets" "[I", Cond.instanceMethod yX1_hear, Cond.initialized RX1, Cond.selects RX1 yX1_hear yX1_hear, Cond.code yX1_hear cX1_hear 4 none, Cond.fieldLink RX1 9 "ParrotLog$Ship" "known" "[I", Cond.fieldLink RX1 15 "ParrotLog$Ship" "offset" "I", Cond.fieldLink RX1 19 "ParrotLog$Ship" "heard" "I"]
def wsL_passHours : List Cond := .codeWith yL_passHours cL_passHours 4 (some .int) [(0, 9, 12, 13)] :: ((wsL_passHours_r1 ++ wsL_passHours_r2) ++ wsX20 ++ wsX10 ++ wsX00 ++ (vx_atS RX2 41 "java/lang/IllegalArgumentException" ["java/lang/RuntimeException", "java/lang/Exception"]).filter goodWord)
def wsL_keyAt : List Cond := .codeWith yL_keyAt cL_keyAt 4 (some .int) [(0, 9, 12, 28)] :: ([.classLink RL 28 "java/lang/IndexOutOfBoundsException", .methodLink RL 42 yX2_keyAt, .instanceMethod yX2_keyAt, .selects RX2 yX2_keyAt yX2_keyAt, .initialized RX2, .code yX2_keyAt cX2_keyAt 2 (some .int), .fieldLink RX2 10 "ParrotLog" "log" "LParrotLog$Log;", .methodLink RX2 137 yX2_keptPosition, .instanceMethod yX2_keptPosition, .selects RX2 yX2_keptPosition yX2_keptPosition, .code yX2_keptPosition cX2_keptPosition 3 (some .int), .classLink RX2 243 "java/lang/IndexOutOfBoundsException", .initialized "java/lang/IndexOutOfBoundsException", .instanceMethod yX0_positionOf, .initialized RX0, .selects RX0 yX0_positionOf yX0_positionOf, .code yX0_positionOf cX0_positionOf 3 (some .int), .fieldLink RX0 28 "ParrotLog$Log" "size" "I", .fieldLink RX0 9 "ParrotLog$Log" "offsets" "[I", .methodLink RX0 43 yX0_positionFrom, .instanceMethod yX0_positionFrom, .selects RX0 yX0_positionFrom yX0_positionFrom, .code yX0_positionFrom cX0_positionFrom 3 (some .int)] ++ wsX20 ++ wsX00 ++ (vx_atS RX2 245 "java/lang/IndexOutOfBoundsException" ["java/lang/RuntimeException", "java/lang/Exception"]).filter goodWord)
def wsL_valueAt : List Cond := .codeWith yL_valueAt cL_valueAt 4 (some .int) [(0, 9, 12, 28)] :: ([.classLink RL 28 "java/lang/IndexOutOfBoundsException", .methodLink RL 45 yX2_valueAt, .instanceMethod yX2_valueAt, .selects RX2 yX2_valueAt yX2_valueAt, .initialized RX2, .code yX2_valueAt cX2_valueAt 2 (some .int), .fieldLink RX2 10 "ParrotLog" "log" "LParrotLog$Log;", .methodLink RX2 137 yX2_keptPosition, .instanceMethod yX2_keptPosition, .selects RX2 yX2_keptPosition yX2_keptPosition, .code yX2_keptPosition cX2_keptPosition 3 (some .int), .classLink RX2 243 "java/lang/IndexOutOfBoundsException", .initialized "java/lang/IndexOutOfBoundsException", .instanceMethod yX0_positionOf, .initialized RX0, .selects RX0 yX0_positionOf yX0_positionOf, .code yX0_positionOf cX0_positionOf 3 (some .int), .fieldLink RX0 28 "ParrotLog$Log" "size" "I", .fieldLink RX0 9 "ParrotLog$Log" "offsets" "[I", .methodLink RX0 43 yX0_positionFrom, .instanceMethod yX0_positionFrom, .selects RX0 yX0_positionFrom yX0_positionFrom, .code yX0_positionFrom cX0_positionFrom 3 (some .int)] ++ wsX20 ++ wsX00 ++ (vx_atS RX2 245 "java/lang/IndexOutOfBoundsException" ["java/lang/RuntimeException", "java/lang/Exception"]).filter goodWord)
def wsL_stormAt : List Cond := .codeWith yL_stormAt cL_stormAt 4 (some .int) [(0, 9, 12, 28)] :: ([.classLink RL 28 "java/lang/IndexOutOfBoundsException", .methodLink RL 48 yX2_stormAt, .instanceMethod yX2_stormAt, .selects RX2 yX2_stormAt yX2_stormAt, .initialized RX2, .code yX2_stormAt cX2_stormAt 2 (some .int), .fieldLink RX2 10 "ParrotLog" "log" "LParrotLog$Log;", .methodLink RX2 137 yX2_keptPosition, .instanceMethod yX2_keptPosition, .selects RX2 yX2_keptPosition yX2_keptPosition, .code yX2_keptPosition cX2_keptPosition 3 (some .int), .classLink RX2 243 "java/lang/IndexOutOfBoundsException", .initialized "java/lang/IndexOutOfBoundsException", .instanceMethod yX0_positionOf, .initialized RX0, .selects RX0 yX0_positionOf yX0_positionOf, .code yX0_positionOf cX0_positionOf 3 (some .int), .fieldLink RX0 28 "ParrotLog$Log" "size" "I", .fieldLink RX0 9 "ParrotLog$Log" "offsets" "[I", .methodLink RX0 43 yX0_positionFrom, .instanceMethod yX0_positionFrom, .selects RX0 yX0_positionFrom yX0_positionFrom, .code yX0_positionFrom cX0_positionFrom 3 (some .int)] ++ wsX20 ++ wsX00 ++ (vx_atS RX2 245 "java/lang/IndexOutOfBoundsException" ["java/lang/RuntimeException", "java/lang/Exception"]).filter goodWord)
def wsL_latestOf_r1 : List Cond := [Cond.classLink RL 28 "java/lang/IndexOutOfBoundsException", Cond.methodLink RL 51 yX2_latestOf, Cond.instanceMethod yX2_latestOf, Cond.selects RX2 yX2_latestOf yX2_latestOf, Cond.initialized RX2, Cond.code yX2_latestOf cX2_latestOf 2 (some .int), Cond.fieldLink RX2 10 "ParrotLog" "log" "LParrotLog$Log;", Cond.methodLink RX2 146 yX2_checkKey, Cond.static yX2_checkKey, Cond.code yX2_checkKey cX2_checkKey 1 none, Cond.classLink RX2 243 "java/lang/IndexOutOfBoundsException", Cond.initialized "java/lang/IndexOutOfBoundsException", Cond.methodLink RX2 33 yX2_isKey, Cond.static yX2_isKey, Cond.code yX2_isKey cX2_isKey 1 (some .boolean), Cond.instanceMethod yX0_latestOffset, Cond.initialized RX0, Cond.selects RX0 yX0_latestOffset yX0_latestOffset, Cond.code yX0_latestOffset cX0_latestOffset 3 (some .int), Cond.fieldLink RX0 28 "ParrotLog$Log" "size" "I", Cond.fieldLink RX0 9 "ParrotLog$Log" "offsets" "[I", Cond.methodLink RX0 35 yX0_latestPosition, Cond.instanceMethod yX0_latestPosition, Cond.selects RX0 yX0_latestPosition yX0_latestPosition]
def wsL_latestOf_r2 : List Cond := [Cond.code yX0_latestPosition cX0_latestPosition 5 (some .int), Cond.fieldLink RX0 15 "ParrotLog$Log" "keys" "[I"]
def wsL_latestOf : List Cond := .codeWith yL_latestOf cL_latestOf 4 (some .int) [(0, 9, 12, 28)] :: ((wsL_latestOf_r1 ++ wsL_latestOf_r2) ++ wsX20 ++ wsX00 ++ (vx_atS RX2 245 "java/lang/IndexOutOfBoundsException" ["java/lang/RuntimeException", "java/lang/Exception"]).filter goodWord)
def wsL_valueOf_r1 : List Cond := [Cond.classLink RL 28 "java/lang/IndexOutOfBoundsException", Cond.methodLink RL 54 yX2_valueOf, Cond.instanceMethod yX2_valueOf, Cond.selects RX2 yX2_valueOf yX2_valueOf, Cond.initialized RX2, Cond.code yX2_valueOf cX2_valueOf 2 (some .int), Cond.fieldLink RX2 10 "ParrotLog" "log" "LParrotLog$Log;", Cond.methodLink RX2 146 yX2_checkKey, Cond.static yX2_checkKey, Cond.code yX2_checkKey cX2_checkKey 1 none, Cond.classLink RX2 243 "java/lang/IndexOutOfBoundsException", Cond.initialized "java/lang/IndexOutOfBoundsException", Cond.methodLink RX2 33 yX2_isKey, Cond.static yX2_isKey, Cond.code yX2_isKey cX2_isKey 1 (some .boolean), Cond.instanceMethod yX0_latestValue, Cond.initialized RX0, Cond.selects RX0 yX0_latestValue yX0_latestValue, Cond.code yX0_latestValue cX0_latestValue 3 (some .int), Cond.fieldLink RX0 28 "ParrotLog$Log" "size" "I", Cond.fieldLink RX0 18 "ParrotLog$Log" "values" "[I", Cond.methodLink RX0 35 yX0_latestPosition, Cond.instanceMethod yX0_latestPosition, Cond.selects RX0 yX0_latestPosition yX0_latestPosition]
def wsL_valueOf_r2 : List Cond := [Cond.code yX0_latestPosition cX0_latestPosition 5 (some .int), Cond.fieldLink RX0 15 "ParrotLog$Log" "keys" "[I"]
def wsL_valueOf : List Cond := .codeWith yL_valueOf cL_valueOf 4 (some .int) [(0, 9, 12, 28)] :: ((wsL_valueOf_r1 ++ wsL_valueOf_r2) ++ wsX20 ++ wsX00 ++ (vx_atS RX2 245 "java/lang/IndexOutOfBoundsException" ["java/lang/RuntimeException", "java/lang/Exception"]).filter goodWord)
def wsL_countOf_r1 : List Cond := [Cond.classLink RL 28 "java/lang/IndexOutOfBoundsException", Cond.methodLink RL 57 yX2_countOf, Cond.instanceMethod yX2_countOf, Cond.selects RX2 yX2_countOf yX2_countOf, Cond.initialized RX2, Cond.code yX2_countOf cX2_countOf 2 (some .int), Cond.fieldLink RX2 10 "ParrotLog" "log" "LParrotLog$Log;", Cond.methodLink RX2 146 yX2_checkKey, Cond.static yX2_checkKey, Cond.code yX2_checkKey cX2_checkKey 1 none, Cond.classLink RX2 243 "java/lang/IndexOutOfBoundsException", Cond.initialized "java/lang/IndexOutOfBoundsException", Cond.methodLink RX2 33 yX2_isKey, Cond.static yX2_isKey, Cond.code yX2_isKey cX2_isKey 1 (some .boolean), Cond.instanceMethod yX0_countKey, Cond.initialized RX0, Cond.selects RX0 yX0_countKey yX0_countKey, Cond.code yX0_countKey cX0_countKey 2 (some .int), Cond.fieldLink RX0 15 "ParrotLog$Log" "keys" "[I", Cond.methodLink RX0 49 yX0_countEqual, Cond.instanceMethod yX0_countEqual, Cond.selects RX0 yX0_countEqual yX0_countEqual, Cond.code yX0_countEqual cX0_countEqual 5 (some .int)]
def wsL_countOf_r2 : List Cond := [Cond.fieldLink RX0 28 "ParrotLog$Log" "size" "I"]
def wsL_countOf : List Cond := .codeWith yL_countOf cL_countOf 4 (some .int) [(0, 9, 12, 28)] :: ((wsL_countOf_r1 ++ wsL_countOf_r2) ++ wsX20 ++ wsX00 ++ (vx_atS RX2 245 "java/lang/IndexOutOfBoundsException" ["java/lang/RuntimeException", "java/lang/Exception"]).filter goodWord)
def wsL_saidIn : List Cond := .codeWith yL_saidIn cL_saidIn 4 (some .int) [(0, 9, 12, 28)] :: ([.classLink RL 28 "java/lang/IndexOutOfBoundsException", .methodLink RL 60 yX2_saidIn, .instanceMethod yX2_saidIn, .selects RX2 yX2_saidIn yX2_saidIn, .initialized RX2, .code yX2_saidIn cX2_saidIn 2 (some .int), .fieldLink RX2 16 "ParrotLog" "saidInStorm" "[I", .methodLink RX2 67 yX2_checkStorm, .instanceMethod yX2_checkStorm, .selects RX2 yX2_checkStorm yX2_checkStorm, .code yX2_checkStorm cX2_checkStorm 2 none, .classLink RX2 243 "java/lang/IndexOutOfBoundsException", .initialized "java/lang/IndexOutOfBoundsException", .fieldLink RX2 59 "ParrotLog" "stormCount" "I"] ++ wsX20 ++ (vx_atS RX2 245 "java/lang/IndexOutOfBoundsException" ["java/lang/RuntimeException", "java/lang/Exception"]).filter goodWord)
def wsL_keptOf : List Cond := .codeWith yL_keptOf cL_keptOf 4 (some .int) [(0, 9, 12, 28)] :: ([.classLink RL 28 "java/lang/IndexOutOfBoundsException", .methodLink RL 63 yX2_keptOf, .instanceMethod yX2_keptOf, .selects RX2 yX2_keptOf yX2_keptOf, .initialized RX2, .code yX2_keptOf cX2_keptOf 2 (some .int), .fieldLink RX2 10 "ParrotLog" "log" "LParrotLog$Log;", .methodLink RX2 67 yX2_checkStorm, .instanceMethod yX2_checkStorm, .selects RX2 yX2_checkStorm yX2_checkStorm, .code yX2_checkStorm cX2_checkStorm 2 none, .classLink RX2 243 "java/lang/IndexOutOfBoundsException", .initialized "java/lang/IndexOutOfBoundsException", .fieldLink RX2 59 "ParrotLog" "stormCount" "I", .instanceMethod yX0_countStorm, .initialized RX0, .selects RX0 yX0_countStorm yX0_countStorm, .code yX0_countStorm cX0_countStorm 2 (some .int), .fieldLink RX0 21 "ParrotLog$Log" "stormNumbers" "[I", .methodLink RX0 49 yX0_countEqual, .instanceMethod yX0_countEqual, .selects RX0 yX0_countEqual yX0_countEqual, .code yX0_countEqual cX0_countEqual 5 (some .int), .fieldLink RX0 28 "ParrotLog$Log" "size" "I"] ++ wsX20 ++ wsX00 ++ (vx_atS RX2 245 "java/lang/IndexOutOfBoundsException" ["java/lang/RuntimeException", "java/lang/Exception"]).filter goodWord)
def wsL_offsetOf : List Cond := .codeWith yL_offsetOf cL_offsetOf 4 (some .int) [(0, 9, 12, 28)] :: ([.classLink RL 28 "java/lang/IndexOutOfBoundsException", .methodLink RL 66 yX2_offsetOf, .instanceMethod yX2_offsetOf, .selects RX2 yX2_offsetOf yX2_offsetOf, .initialized RX2, .code yX2_offsetOf cX2_offsetOf 2 (some .int), .methodLink RX2 101 yX2_shipNumbered, .instanceMethod yX2_shipNumbered, .selects RX2 yX2_shipNumbered yX2_shipNumbered, .code yX2_shipNumbered cX2_shipNumbered 2 (some (.object "ParrotLog$Ship")), .classLink RX2 243 "java/lang/IndexOutOfBoundsException", .initialized "java/lang/IndexOutOfBoundsException", .fieldLink RX2 90 "ParrotLog" "shipCount" "I", .fieldLink RX2 22 "ParrotLog" "fleet" "[LParrotLog$Ship;"] ++ wsX10 ++ wsX20 ++ (vx_atS RX2 245 "java/lang/IndexOutOfBoundsException" ["java/lang/RuntimeException", "java/lang/Exception"]).filter goodWord)
def wsL_lagOf_r1 : List Cond := [Cond.classLink RL 28 "java/lang/IndexOutOfBoundsException", Cond.methodLink RL 69 yX2_lagOf, Cond.instanceMethod yX2_lagOf, Cond.selects RX2 yX2_lagOf yX2_lagOf, Cond.initialized RX2, Cond.code yX2_lagOf cX2_lagOf 2 (some .int), Cond.methodLink RX2 101 yX2_shipNumbered, Cond.instanceMethod yX2_shipNumbered, Cond.selects RX2 yX2_shipNumbered yX2_shipNumbered, Cond.code yX2_shipNumbered cX2_shipNumbered 2 (some (.object "ParrotLog$Ship")), Cond.classLink RX2 243 "java/lang/IndexOutOfBoundsException", Cond.initialized "java/lang/IndexOutOfBoundsException", Cond.fieldLink RX2 90 "ParrotLog" "shipCount" "I", Cond.fieldLink RX2 22 "ParrotLog" "fleet" "[LParrotLog$Ship;", Cond.methodLink RX2 161 yX2_lag, Cond.instanceMethod yX2_lag, Cond.selects RX2 yX2_lag yX2_lag, Cond.code yX2_lag cX2_lag 2 (some .int), Cond.fieldLink RX2 10 "ParrotLog" "log" "LParrotLog$Log;", Cond.instanceMethod yX0_positionFrom, Cond.initialized RX0, Cond.selects RX0 yX0_positionFrom yX0_positionFrom, Cond.code yX0_positionFrom cX0_positionFrom 3 (some .int), Cond.fieldLink RX0 28 "ParrotLog$Log" "size" "I"]
def wsL_lagOf_r2 : List Cond := [Cond.fieldLink RX0 9 "ParrotLog$Log" "offsets" "[I"]
def wsL_lagOf : List Cond := .codeWith yL_lagOf cL_lagOf 4 (some .int) [(0, 9, 12, 28)] :: ((wsL_lagOf_r1 ++ wsL_lagOf_r2) ++ wsX20 ++ wsX00 ++ wsX10 ++ (vx_atS RX2 245 "java/lang/IndexOutOfBoundsException" ["java/lang/RuntimeException", "java/lang/Exception"]).filter goodWord)
def wsL_heardBy : List Cond := .codeWith yL_heardBy cL_heardBy 4 (some .int) [(0, 9, 12, 28)] :: ([.classLink RL 28 "java/lang/IndexOutOfBoundsException", .methodLink RL 72 yX2_heardBy, .instanceMethod yX2_heardBy, .selects RX2 yX2_heardBy yX2_heardBy, .initialized RX2, .code yX2_heardBy cX2_heardBy 2 (some .int), .methodLink RX2 101 yX2_shipNumbered, .instanceMethod yX2_shipNumbered, .selects RX2 yX2_shipNumbered yX2_shipNumbered, .code yX2_shipNumbered cX2_shipNumbered 2 (some (.object "ParrotLog$Ship")), .classLink RX2 243 "java/lang/IndexOutOfBoundsException", .initialized "java/lang/IndexOutOfBoundsException", .fieldLink RX2 90 "ParrotLog" "shipCount" "I", .fieldLink RX2 22 "ParrotLog" "fleet" "[LParrotLog$Ship;"] ++ wsX10 ++ wsX20 ++ (vx_atS RX2 245 "java/lang/IndexOutOfBoundsException" ["java/lang/RuntimeException", "java/lang/Exception"]).filter goodWord)
def wsL_missedBy : List Cond := .codeWith yL_missedBy cL_missedBy 4 (some .int) [(0, 9, 12, 28)] :: ([.classLink RL 28 "java/lang/IndexOutOfBoundsException", .methodLink RL 75 yX2_missedBy, .instanceMethod yX2_missedBy, .selects RX2 yX2_missedBy yX2_missedBy, .initialized RX2, .code yX2_missedBy cX2_missedBy 2 (some .int), .methodLink RX2 101 yX2_shipNumbered, .instanceMethod yX2_shipNumbered, .selects RX2 yX2_shipNumbered yX2_shipNumbered, .code yX2_shipNumbered cX2_shipNumbered 2 (some (.object "ParrotLog$Ship")), .classLink RX2 243 "java/lang/IndexOutOfBoundsException", .initialized "java/lang/IndexOutOfBoundsException", .fieldLink RX2 90 "ParrotLog" "shipCount" "I", .fieldLink RX2 22 "ParrotLog" "fleet" "[LParrotLog$Ship;"] ++ wsX10 ++ wsX20 ++ (vx_atS RX2 245 "java/lang/IndexOutOfBoundsException" ["java/lang/RuntimeException", "java/lang/Exception"]).filter goodWord)
def wsL_knownBy : List Cond := .codeWith yL_knownBy cL_knownBy 5 (some .int) [(0, 10, 13, 28)] :: ([.classLink RL 28 "java/lang/IndexOutOfBoundsException", .methodLink RL 78 yX2_knownBy, .instanceMethod yX2_knownBy, .selects RX2 yX2_knownBy yX2_knownBy, .initialized RX2, .code yX2_knownBy cX2_knownBy 4 (some .int), .methodLink RX2 101 yX2_shipNumbered, .instanceMethod yX2_shipNumbered, .selects RX2 yX2_shipNumbered yX2_shipNumbered, .code yX2_shipNumbered cX2_shipNumbered 2 (some (.object "ParrotLog$Ship")), .classLink RX2 243 "java/lang/IndexOutOfBoundsException", .initialized "java/lang/IndexOutOfBoundsException", .fieldLink RX2 90 "ParrotLog" "shipCount" "I", .fieldLink RX2 22 "ParrotLog" "fleet" "[LParrotLog$Ship;", .methodLink RX2 146 yX2_checkKey, .static yX2_checkKey, .code yX2_checkKey cX2_checkKey 1 none, .methodLink RX2 33 yX2_isKey, .static yX2_isKey, .code yX2_isKey cX2_isKey 1 (some .boolean)] ++ wsX10 ++ wsX20 ++ (vx_atS RX2 245 "java/lang/IndexOutOfBoundsException" ["java/lang/RuntimeException", "java/lang/Exception"]).filter goodWord)
def wsL_errorsOf_r1 : List Cond := [Cond.classLink RL 28 "java/lang/IndexOutOfBoundsException", Cond.methodLink RL 81 yX2_errorsOf, Cond.instanceMethod yX2_errorsOf, Cond.selects RX2 yX2_errorsOf yX2_errorsOf, Cond.initialized RX2, Cond.code yX2_errorsOf cX2_errorsOf 2 (some .int), Cond.methodLink RX2 101 yX2_shipNumbered, Cond.instanceMethod yX2_shipNumbered, Cond.selects RX2 yX2_shipNumbered yX2_shipNumbered, Cond.code yX2_shipNumbered cX2_shipNumbered 2 (some (.object "ParrotLog$Ship")), Cond.classLink RX2 243 "java/lang/IndexOutOfBoundsException", Cond.initialized "java/lang/IndexOutOfBoundsException", Cond.fieldLink RX2 90 "ParrotLog" "shipCount" "I", Cond.fieldLink RX2 22 "ParrotLog" "fleet" "[LParrotLog$Ship;", Cond.methodLink RX2 174 yX2_errorsAfter, Cond.instanceMethod yX2_errorsAfter, Cond.selects RX2 yX2_errorsAfter yX2_errorsAfter, Cond.code yX2_errorsAfter cX2_errorsAfter 9 (some .int), Cond.fieldLink RX2 10 "ParrotLog" "log" "LParrotLog$Log;", Cond.methodLink RX2 225 Lib.Math.min.name, Cond.static Lib.Math.min.name, Cond.initialized "java/lang/Math", Cond.code Lib.Math.min.name Lib.Math.min.code 2 (some .int), Cond.instanceMethod yX0_positionFrom]
def wsL_errorsOf_r2 : List Cond := [Cond.initialized RX0, Cond.selects RX0 yX0_positionFrom yX0_positionFrom, Cond.code yX0_positionFrom cX0_positionFrom 3 (some .int), Cond.fieldLink RX0 28 "ParrotLog$Log" "size" "I", Cond.fieldLink RX0 9 "ParrotLog$Log" "offsets" "[I", Cond.instanceMethod yX0_latestPosition, Cond.selects RX0 yX0_latestPosition yX0_latestPosition, Cond.code yX0_latestPosition cX0_latestPosition 5 (some .int), Cond.fieldLink RX0 15 "ParrotLog$Log" "keys" "[I", Cond.instanceMethod yX0_latestValue, Cond.selects RX0 yX0_latestValue yX0_latestValue, Cond.code yX0_latestValue cX0_latestValue 3 (some .int), Cond.fieldLink RX0 18 "ParrotLog$Log" "values" "[I", Cond.methodLink RX0 35 yX0_latestPosition]
def wsL_errorsOf : List Cond := .codeWith yL_errorsOf cL_errorsOf 4 (some .int) [(0, 9, 12, 28)] :: ((wsL_errorsOf_r1 ++ wsL_errorsOf_r2) ++ wsX20 ++ wsX10 ++ wsX00 ++ (vx_atS RX2 245 "java/lang/IndexOutOfBoundsException" ["java/lang/RuntimeException", "java/lang/Exception"]).filter goodWord)
def wsL_hoursUntilCaughtUp_r1 : List Cond := [Cond.classLink RL 28 "java/lang/IndexOutOfBoundsException", Cond.methodLink RL 84 yX2_hoursUntilCaughtUp, Cond.instanceMethod yX2_hoursUntilCaughtUp, Cond.selects RX2 yX2_hoursUntilCaughtUp yX2_hoursUntilCaughtUp, Cond.initialized RX2, Cond.code yX2_hoursUntilCaughtUp cX2_hoursUntilCaughtUp 2 (some .int), Cond.methodLink RX2 101 yX2_shipNumbered, Cond.instanceMethod yX2_shipNumbered, Cond.selects RX2 yX2_shipNumbered yX2_shipNumbered, Cond.code yX2_shipNumbered cX2_shipNumbered 2 (some (.object "ParrotLog$Ship")), Cond.classLink RX2 243 "java/lang/IndexOutOfBoundsException", Cond.initialized "java/lang/IndexOutOfBoundsException", Cond.fieldLink RX2 90 "ParrotLog" "shipCount" "I", Cond.fieldLink RX2 22 "ParrotLog" "fleet" "[LParrotLog$Ship;", Cond.methodLink RX2 177 yX2_hoursToGo, Cond.instanceMethod yX2_hoursToGo, Cond.selects RX2 yX2_hoursToGo yX2_hoursToGo, Cond.code yX2_hoursToGo cX2_hoursToGo 4 (some .int), Cond.methodLink RX2 161 yX2_lag, Cond.instanceMethod yX2_lag, Cond.selects RX2 yX2_lag yX2_lag, Cond.code yX2_lag cX2_lag 2 (some .int), Cond.fieldLink RX2 10 "ParrotLog" "log" "LParrotLog$Log;", Cond.instanceMethod yX0_positionFrom]
def wsL_hoursUntilCaughtUp_r2 : List Cond := [Cond.initialized RX0, Cond.selects RX0 yX0_positionFrom yX0_positionFrom, Cond.code yX0_positionFrom cX0_positionFrom 3 (some .int), Cond.fieldLink RX0 28 "ParrotLog$Log" "size" "I", Cond.fieldLink RX0 9 "ParrotLog$Log" "offsets" "[I", Cond.methodLink RX2 108 yX2_mostHeard, Cond.instanceMethod yX2_mostHeard, Cond.selects RX2 yX2_mostHeard yX2_mostHeard, Cond.code yX2_mostHeard cX2_mostHeard 3 (some .int), Cond.fieldLink RX2 50 "ParrotLog" "stormOn" "Z"]
def wsL_hoursUntilCaughtUp : List Cond := .codeWith yL_hoursUntilCaughtUp cL_hoursUntilCaughtUp 4 (some .int) [(0, 9, 12, 28)] :: ((wsL_hoursUntilCaughtUp_r1 ++ wsL_hoursUntilCaughtUp_r2) ++ wsX20 ++ wsX10 ++ wsX00 ++ (vx_atS RX2 245 "java/lang/IndexOutOfBoundsException" ["java/lang/RuntimeException", "java/lang/Exception"]).filter goodWord)
def wsL_errorsIn_r1 : List Cond := [Cond.classLink RL 28 "java/lang/IndexOutOfBoundsException", Cond.classLink RL 13 "java/lang/IllegalArgumentException", Cond.methodLink RL 87 yX2_errorsIn, Cond.instanceMethod yX2_errorsIn, Cond.selects RX2 yX2_errorsIn yX2_errorsIn, Cond.initialized RX2, Cond.code yX2_errorsIn cX2_errorsIn 4 (some .int), Cond.methodLink RX2 101 yX2_shipNumbered, Cond.instanceMethod yX2_shipNumbered, Cond.selects RX2 yX2_shipNumbered yX2_shipNumbered, Cond.code yX2_shipNumbered cX2_shipNumbered 2 (some (.object "ParrotLog$Ship")), Cond.classLink RX2 243 "java/lang/IndexOutOfBoundsException", Cond.initialized "java/lang/IndexOutOfBoundsException", Cond.fieldLink RX2 90 "ParrotLog" "shipCount" "I", Cond.fieldLink RX2 22 "ParrotLog" "fleet" "[LParrotLog$Ship;", Cond.methodLink RX2 105 yX2_checkHours, Cond.static yX2_checkHours, Cond.code yX2_checkHours cX2_checkHours 1 none, Cond.classLink RX2 37 "java/lang/IllegalArgumentException", Cond.initialized "java/lang/IllegalArgumentException", Cond.methodLink RX2 108 yX2_mostHeard, Cond.instanceMethod yX2_mostHeard, Cond.selects RX2 yX2_mostHeard yX2_mostHeard, Cond.code yX2_mostHeard cX2_mostHeard 3 (some .int)]
def wsL_errorsIn_r2 : List Cond := [Cond.fieldLink RX2 50 "ParrotLog" "stormOn" "Z", Cond.methodLink RX2 174 yX2_errorsAfter, Cond.instanceMethod yX2_errorsAfter, Cond.selects RX2 yX2_errorsAfter yX2_errorsAfter, Cond.code yX2_errorsAfter cX2_errorsAfter 9 (some .int), Cond.fieldLink RX2 10 "ParrotLog" "log" "LParrotLog$Log;", Cond.methodLink RX2 225 Lib.Math.min.name, Cond.static Lib.Math.min.name, Cond.initialized "java/lang/Math", Cond.code Lib.Math.min.name Lib.Math.min.code 2 (some .int), Cond.instanceMethod yX0_positionFrom, Cond.initialized RX0, Cond.selects RX0 yX0_positionFrom yX0_positionFrom, Cond.code yX0_positionFrom cX0_positionFrom 3 (some .int), Cond.fieldLink RX0 28 "ParrotLog$Log" "size" "I", Cond.fieldLink RX0 9 "ParrotLog$Log" "offsets" "[I", Cond.instanceMethod yX0_latestPosition, Cond.selects RX0 yX0_latestPosition yX0_latestPosition, Cond.code yX0_latestPosition cX0_latestPosition 5 (some .int), Cond.fieldLink RX0 15 "ParrotLog$Log" "keys" "[I", Cond.instanceMethod yX0_latestValue, Cond.selects RX0 yX0_latestValue yX0_latestValue, Cond.code yX0_latestValue cX0_latestValue 3 (some .int), Cond.fieldLink RX0 18 "ParrotLog$Log" "values" "[I"]
def wsL_errorsIn_r3 : List Cond := [Cond.methodLink RX0 35 yX0_latestPosition]
def wsL_errorsIn : List Cond := .codeWith yL_errorsIn cL_errorsIn 5 (some .int) [(0, 10, 13, 28), (0, 10, 17, 13)] :: ((wsL_errorsIn_r1 ++ (wsL_errorsIn_r2 ++ wsL_errorsIn_r3)) ++ wsX10 ++ wsX20 ++ wsX00 ++ (vx_atS RX2 245 "java/lang/IndexOutOfBoundsException" ["java/lang/RuntimeException", "java/lang/Exception"]).filter goodWord ++ (vx_atS RX2 41 "java/lang/IllegalArgumentException" ["java/lang/RuntimeException", "java/lang/Exception"]).filter goodWord)
def wsL_paceWanted_r1 : List Cond := [Cond.classLink RL 28 "java/lang/IndexOutOfBoundsException", Cond.classLink RL 13 "java/lang/IllegalArgumentException", Cond.methodLink RL 90 yX2_paceWanted, Cond.instanceMethod yX2_paceWanted, Cond.selects RX2 yX2_paceWanted yX2_paceWanted, Cond.initialized RX2, Cond.code yX2_paceWanted cX2_paceWanted 5 (some .int), Cond.methodLink RX2 101 yX2_shipNumbered, Cond.instanceMethod yX2_shipNumbered, Cond.selects RX2 yX2_shipNumbered yX2_shipNumbered, Cond.code yX2_shipNumbered cX2_shipNumbered 2 (some (.object "ParrotLog$Ship")), Cond.classLink RX2 243 "java/lang/IndexOutOfBoundsException", Cond.initialized "java/lang/IndexOutOfBoundsException", Cond.fieldLink RX2 90 "ParrotLog" "shipCount" "I", Cond.fieldLink RX2 22 "ParrotLog" "fleet" "[LParrotLog$Ship;", Cond.methodLink RX2 161 yX2_lag, Cond.instanceMethod yX2_lag, Cond.selects RX2 yX2_lag yX2_lag, Cond.code yX2_lag cX2_lag 2 (some .int), Cond.fieldLink RX2 10 "ParrotLog" "log" "LParrotLog$Log;", Cond.instanceMethod yX0_positionFrom, Cond.initialized RX0, Cond.selects RX0 yX0_positionFrom yX0_positionFrom, Cond.code yX0_positionFrom cX0_positionFrom 3 (some .int)]
def wsL_paceWanted_r2 : List Cond := [Cond.fieldLink RX0 28 "ParrotLog$Log" "size" "I", Cond.fieldLink RX0 9 "ParrotLog$Log" "offsets" "[I", Cond.methodLink RX2 105 yX2_checkHours, Cond.static yX2_checkHours, Cond.code yX2_checkHours cX2_checkHours 1 none, Cond.classLink RX2 37 "java/lang/IllegalArgumentException", Cond.initialized "java/lang/IllegalArgumentException", Cond.methodLink RX2 108 yX2_mostHeard, Cond.instanceMethod yX2_mostHeard, Cond.selects RX2 yX2_mostHeard yX2_mostHeard, Cond.code yX2_mostHeard cX2_mostHeard 3 (some .int), Cond.fieldLink RX2 50 "ParrotLog" "stormOn" "Z"]
def wsL_paceWanted : List Cond := .codeWith yL_paceWanted cL_paceWanted 5 (some .int) [(0, 10, 13, 28), (0, 10, 17, 13)] :: ((wsL_paceWanted_r1 ++ wsL_paceWanted_r2) ++ wsX20 ++ wsX00 ++ wsX10 ++ (vx_atS RX2 245 "java/lang/IndexOutOfBoundsException" ["java/lang/RuntimeException", "java/lang/Exception"]).filter goodWord ++ (vx_atS RX2 41 "java/lang/IllegalArgumentException" ["java/lang/RuntimeException", "java/lang/Exception"]).filter goodWord)
def wsL_wouldMiss_r1 : List Cond := [Cond.classLink RL 28 "java/lang/IndexOutOfBoundsException", Cond.methodLink RL 93 yX2_wouldMiss, Cond.instanceMethod yX2_wouldMiss, Cond.selects RX2 yX2_wouldMiss yX2_wouldMiss, Cond.initialized RX2, Cond.code yX2_wouldMiss cX2_wouldMiss 3 (some .int), Cond.fieldLink RX2 10 "ParrotLog" "log" "LParrotLog$Log;", Cond.methodLink RX2 101 yX2_shipNumbered, Cond.instanceMethod yX2_shipNumbered, Cond.selects RX2 yX2_shipNumbered yX2_shipNumbered, Cond.code yX2_shipNumbered cX2_shipNumbered 2 (some (.object "ParrotLog$Ship")), Cond.classLink RX2 243 "java/lang/IndexOutOfBoundsException", Cond.initialized "java/lang/IndexOutOfBoundsException", Cond.fieldLink RX2 90 "ParrotLog" "shipCount" "I", Cond.fieldLink RX2 22 "ParrotLog" "fleet" "[LParrotLog$Ship;", Cond.methodLink RX2 75 yX2_markCompacted, Cond.instanceMethod yX2_markCompacted, Cond.selects RX2 yX2_markCompacted yX2_markCompacted, Cond.code yX2_markCompacted cX2_markCompacted 1 none, Cond.methodLink RX2 220 yX2_leastShipOffset, Cond.instanceMethod yX2_leastShipOffset, Cond.selects RX2 yX2_leastShipOffset yX2_leastShipOffset, Cond.code yX2_leastShipOffset cX2_leastShipOffset 3 (some .int), Cond.methodLink RX2 225 Lib.Math.min.name]
def wsL_wouldMiss_r2 : List Cond := [Cond.static Lib.Math.min.name, Cond.initialized "java/lang/Math", Cond.code Lib.Math.min.name Lib.Math.min.code 2 (some .int), Cond.instanceMethod yX0_markCompacted, Cond.initialized RX0, Cond.selects RX0 yX0_markCompacted yX0_markCompacted, Cond.code yX0_markCompacted cX0_markCompacted 5 none, Cond.fieldLink RX0 28 "ParrotLog$Log" "size" "I", Cond.fieldLink RX0 15 "ParrotLog$Log" "keys" "[I", Cond.fieldLink RX0 18 "ParrotLog$Log" "values" "[I", Cond.fieldLink RX0 9 "ParrotLog$Log" "offsets" "[I", Cond.fieldLink RX0 24 "ParrotLog$Log" "marked" "[Z", Cond.methodLink RX0 35 yX0_latestPosition, Cond.instanceMethod yX0_latestPosition, Cond.selects RX0 yX0_latestPosition yX0_latestPosition, Cond.code yX0_latestPosition cX0_latestPosition 5 (some .int), Cond.instanceMethod yX0_countMarkedFrom, Cond.selects RX0 yX0_countMarkedFrom yX0_countMarkedFrom, Cond.code yX0_countMarkedFrom cX0_countMarkedFrom 4 (some .int), Cond.methodLink RX0 43 yX0_positionFrom, Cond.instanceMethod yX0_positionFrom, Cond.selects RX0 yX0_positionFrom yX0_positionFrom, Cond.code yX0_positionFrom cX0_positionFrom 3 (some .int)]
def wsL_wouldMiss : List Cond := .codeWith yL_wouldMiss cL_wouldMiss 4 (some .int) [(0, 9, 12, 28)] :: ((wsL_wouldMiss_r1 ++ wsL_wouldMiss_r2) ++ wsX20 ++ wsX10 ++ wsX00 ++ (vx_atS RX2 245 "java/lang/IndexOutOfBoundsException" ["java/lang/RuntimeException", "java/lang/Exception"]).filter goodWord)
def wsL_law0_r1 : List Cond := [Cond.classLink RL 8 RX2, Cond.instantiable RX2 9, Cond.initialized RX2, Cond.classLink RL 97 RX3, Cond.instantiable RX3 19, Cond.initialized RX3, Cond.arrayClass .long, Cond.methodLink RL 96 yX2_init, Cond.instanceMethod yX2_init, Cond.code yX2_init cX2_init 2 none, Cond.methodLink RX2 1 objectInit, Cond.instanceMethod objectInit, Cond.code objectInit ⟨#[0xb1]⟩ 1 none, Cond.classLink RX2 7 RX0, Cond.instantiable RX0 8, Cond.initialized RX0, Cond.fieldLink RX2 10 "ParrotLog" "log" "LParrotLog$Log;", Cond.arrayClass .int, Cond.fieldLink RX2 16 "ParrotLog" "saidInStorm" "[I", Cond.classLink RX2 20 RX1, Cond.fieldLink RX2 22 "ParrotLog" "fleet" "[LParrotLog$Ship;", Cond.instantiable RX1 5, Cond.initialized RX1, Cond.fieldLink RX2 27 "ParrotLog" "replayKeys" "[I"]
def wsL_law0_r2 : List Cond := [Cond.fieldLink RX2 30 "ParrotLog" "replayValues" "[I", Cond.instanceMethod yX0_init, Cond.code yX0_init cX0_init 1 none, Cond.methodLink RX0 3 objectInit, Cond.fieldLink RX0 9 "ParrotLog$Log" "offsets" "[I", Cond.fieldLink RX0 15 "ParrotLog$Log" "keys" "[I", Cond.fieldLink RX0 18 "ParrotLog$Log" "values" "[I", Cond.fieldLink RX0 21 "ParrotLog$Log" "stormNumbers" "[I", Cond.arrayClass .boolean, Cond.fieldLink RX0 24 "ParrotLog$Log" "marked" "[Z", Cond.instanceMethod yX1_init, Cond.code yX1_init cX1_init 1 none, Cond.methodLink RX1 3 objectInit, Cond.fieldLink RX1 9 "ParrotLog$Ship" "known" "[I", Cond.methodLink RL 99 yX3_init, Cond.instanceMethod yX3_init, Cond.code yX3_init cX3_init 1 none, Cond.methodLink RX3 1 objectInit, Cond.fieldLink RX3 9 "ParrotLogModel" "offset" "[I", Cond.fieldLink RX3 13 "ParrotLogModel" "key" "[I", Cond.fieldLink RX3 16 "ParrotLogModel" "value" "[I", Cond.fieldLink RX3 19 "ParrotLogModel" "storm" "[I", Cond.fieldLink RX3 22 "ParrotLogModel" "goes" "[Z", Cond.fieldLink RX3 26 "ParrotLogModel" "said" "[I"]
def wsL_law0_r3 : List Cond := [Cond.fieldLink RX3 29 "ParrotLogModel" "pace" "[I", Cond.fieldLink RX3 32 "ParrotLogModel" "at" "[I", Cond.fieldLink RX3 35 "ParrotLogModel" "heard" "[I", Cond.fieldLink RX3 38 "ParrotLogModel" "missed" "[I", Cond.fieldLink RX3 41 "ParrotLogModel" "known" "[I", Cond.methodLink RL 100 yL_say, Cond.static yL_say, Cond.initialized RL, Cond.codeWith yL_say cL_say 5 (some .int) [(0, 10, 13, 13)], Cond.classLink RL 13 "java/lang/IllegalArgumentException", Cond.methodLink RL 7 yX2_say, Cond.instanceMethod yX2_say, Cond.selects RX2 yX2_say yX2_say, Cond.code yX2_say cX2_say 3 (some .int), Cond.classLink RX2 37 "java/lang/IllegalArgumentException", Cond.initialized "java/lang/IllegalArgumentException", Cond.methodLink RX2 33 yX2_isKey, Cond.static yX2_isKey, Cond.code yX2_isKey cX2_isKey 1 (some .boolean), Cond.methodLink RX2 46 yX2_speak, Cond.instanceMethod yX2_speak, Cond.selects RX2 yX2_speak yX2_speak, Cond.code yX2_speak cX2_speak 4 (some .int), Cond.fieldLink RX2 50 "ParrotLog" "stormOn" "Z"]
def wsL_law0_r4 : List Cond := [Cond.fieldLink RX2 59 "ParrotLog" "stormCount" "I", Cond.instanceMethod yX0_markFirst, Cond.selects RX0 yX0_markFirst yX0_markFirst, Cond.code yX0_markFirst cX0_markFirst 2 none, Cond.fieldLink RX0 28 "ParrotLog$Log" "size" "I", Cond.methodLink RX2 78 yX2_dropMarked, Cond.instanceMethod yX2_dropMarked, Cond.selects RX2 yX2_dropMarked yX2_dropMarked, Cond.code yX2_dropMarked cX2_dropMarked 2 (some .int), Cond.fieldLink RX2 90 "ParrotLog" "shipCount" "I", Cond.instanceMethod yX0_countMarkedFrom, Cond.selects RX0 yX0_countMarkedFrom yX0_countMarkedFrom, Cond.code yX0_countMarkedFrom cX0_countMarkedFrom 4 (some .int), Cond.methodLink RX0 43 yX0_positionFrom, Cond.instanceMethod yX0_positionFrom, Cond.selects RX0 yX0_positionFrom yX0_positionFrom, Cond.code yX0_positionFrom cX0_positionFrom 3 (some .int), Cond.instanceMethod yX0_removeMarked, Cond.selects RX0 yX0_removeMarked yX0_removeMarked, Cond.code yX0_removeMarked cX0_removeMarked 3 (some .int), Cond.fieldLink RX0 46 "ParrotLog$Log" "droppedInAll" "I", Cond.instanceMethod yX0_append, Cond.selects RX0 yX0_append yX0_append, Cond.code yX0_append cX0_append 4 (some .int)]
def wsL_law0_r5 : List Cond := [Cond.fieldLink RX0 32 "ParrotLog$Log" "next" "I", Cond.methodLink RL 105 yX3_say, Cond.instanceMethod yX3_say, Cond.selects RX3 yX3_say yX3_say, Cond.code yX3_say cX3_say 3 (some .int), Cond.fieldLink RX3 44 "ParrotLogModel" "thrown" "I", Cond.fieldLink RX3 68 "ParrotLogModel" "next" "I", Cond.methodLink RX3 81 yX3_isKey, Cond.static yX3_isKey, Cond.code yX3_isKey cX3_isKey 1 (some .boolean), Cond.methodLink RX3 51 yX3_isIn, Cond.static yX3_isIn, Cond.code yX3_isIn cX3_isIn 3 (some .boolean), Cond.methodLink RX3 85 yX3_fail, Cond.instanceMethod yX3_fail, Cond.selects RX3 yX3_fail yX3_fail, Cond.code yX3_fail cX3_fail 2 (some .int), Cond.methodLink RX3 89 yX3_put, Cond.instanceMethod yX3_put, Cond.selects RX3 yX3_put yX3_put, Cond.code yX3_put cX3_put 4 none, Cond.fieldLink RX3 58 "ParrotLogModel" "many" "I", Cond.fieldLink RX3 71 "ParrotLogModel" "isOn" "Z", Cond.fieldLink RX3 55 "ParrotLogModel" "storms" "I"]
def wsL_law0_r6 : List Cond := [Cond.methodLink RX3 64 yX3_drop, Cond.instanceMethod yX3_drop, Cond.selects RX3 yX3_drop yX3_drop, Cond.code yX3_drop cX3_drop 4 (some .int), Cond.fieldLink RX3 48 "ParrotLogModel" "ships" "I", Cond.fieldLink RX3 61 "ParrotLogModel" "dropped" "I", Cond.methodLink RL 106 yX3_thrown, Cond.instanceMethod yX3_thrown, Cond.selects RX3 yX3_thrown yX3_thrown, Cond.code yX3_thrown cX3_thrown 1 (some .int), Cond.methodLink RL 109 yL_startStorm, Cond.static yL_startStorm, Cond.codeWith yL_startStorm cL_startStorm 3 (some .int) [(0, 8, 11, 19)], Cond.classLink RL 19 "java/lang/IllegalStateException", Cond.methodLink RL 15 yX2_startStorm, Cond.instanceMethod yX2_startStorm, Cond.selects RX2 yX2_startStorm yX2_startStorm, Cond.code yX2_startStorm cX2_startStorm 1 (some .int), Cond.classLink RX2 54 "java/lang/IllegalStateException", Cond.initialized "java/lang/IllegalStateException", Cond.methodLink RL 112 yX3_startStorm, Cond.instanceMethod yX3_startStorm, Cond.selects RX3 yX3_startStorm yX3_startStorm, Cond.code yX3_startStorm cX3_startStorm 1 (some .int)]
def wsL_law0_r7 : List Cond := [Cond.methodLink RL 113 yL_endStorm, Cond.static yL_endStorm, Cond.codeWith yL_endStorm cL_endStorm 3 (some .int) [(0, 8, 11, 19)], Cond.methodLink RL 21 yX2_endStorm, Cond.instanceMethod yX2_endStorm, Cond.selects RX2 yX2_endStorm yX2_endStorm, Cond.code yX2_endStorm cX2_endStorm 1 (some .int), Cond.methodLink RL 115 yX3_endStorm, Cond.instanceMethod yX3_endStorm, Cond.selects RX3 yX3_endStorm yX3_endStorm, Cond.code yX3_endStorm cX3_endStorm 1 (some .int), Cond.methodLink RL 116 yL_replay, Cond.static yL_replay, Cond.codeWith yL_replay cL_replay 4 (some .int) [(0, 9, 12, 28), (0, 9, 15, 19)], Cond.classLink RL 28 "java/lang/IndexOutOfBoundsException", Cond.methodLink RL 24 yX2_replay, Cond.instanceMethod yX2_replay, Cond.selects RX2 yX2_replay yX2_replay, Cond.code yX2_replay cX2_replay 4 (some .int), Cond.methodLink RX2 67 yX2_checkStorm, Cond.instanceMethod yX2_checkStorm, Cond.selects RX2 yX2_checkStorm yX2_checkStorm, Cond.code yX2_checkStorm cX2_checkStorm 2 none, Cond.classLink RX2 243 "java/lang/IndexOutOfBoundsException"]
def wsL_law0_r8 : List Cond := [Cond.initialized "java/lang/IndexOutOfBoundsException", Cond.instanceMethod yX0_copyStorm, Cond.selects RX0 yX0_copyStorm yX0_copyStorm, Cond.code yX0_copyStorm cX0_copyStorm 6 (some .int), Cond.methodLink RL 119 yX3_replay, Cond.instanceMethod yX3_replay, Cond.selects RX3 yX3_replay yX3_replay, Cond.code yX3_replay cX3_replay 6 (some .int), Cond.methodLink RX3 93 yX3_isStorm, Cond.instanceMethod yX3_isStorm, Cond.selects RX3 yX3_isStorm yX3_isStorm, Cond.code yX3_isStorm cX3_isStorm 2 (some .boolean), Cond.methodLink RL 120 yX2_compact, Cond.instanceMethod yX2_compact, Cond.selects RX2 yX2_compact yX2_compact, Cond.code yX2_compact cX2_compact 1 (some .int), Cond.methodLink RX2 75 yX2_markCompacted, Cond.instanceMethod yX2_markCompacted, Cond.selects RX2 yX2_markCompacted yX2_markCompacted, Cond.code yX2_markCompacted cX2_markCompacted 1 none, Cond.methodLink RX2 220 yX2_leastShipOffset, Cond.instanceMethod yX2_leastShipOffset, Cond.selects RX2 yX2_leastShipOffset yX2_leastShipOffset, Cond.code yX2_leastShipOffset cX2_leastShipOffset 3 (some .int)]
def wsL_law0_r9 : List Cond := [Cond.methodLink RX2 225 Lib.Math.min.name, Cond.static Lib.Math.min.name, Cond.initialized "java/lang/Math", Cond.code Lib.Math.min.name Lib.Math.min.code 2 (some .int), Cond.instanceMethod yX0_markCompacted, Cond.selects RX0 yX0_markCompacted yX0_markCompacted, Cond.code yX0_markCompacted cX0_markCompacted 5 none, Cond.methodLink RX0 35 yX0_latestPosition, Cond.instanceMethod yX0_latestPosition, Cond.selects RX0 yX0_latestPosition yX0_latestPosition, Cond.code yX0_latestPosition cX0_latestPosition 5 (some .int), Cond.methodLink RL 123 yX3_compact, Cond.instanceMethod yX3_compact, Cond.selects RX3 yX3_compact yX3_compact, Cond.code yX3_compact cX3_compact 1 (some .int), Cond.methodLink RX3 96 yX3_mark, Cond.instanceMethod yX3_mark, Cond.selects RX3 yX3_mark yX3_mark, Cond.code yX3_mark cX3_mark 5 (some .int), Cond.methodLink RX3 75 Lib.Math.min.name, Cond.methodLink RL 124 yL_trimTo, Cond.static yL_trimTo, Cond.codeWith yL_trimTo cL_trimTo 4 (some .int) [(0, 9, 12, 13)], Cond.methodLink RL 30 yX2_trimTo]
def wsL_law0_r10 : List Cond := [Cond.instanceMethod yX2_trimTo, Cond.selects RX2 yX2_trimTo yX2_trimTo, Cond.code yX2_trimTo cX2_trimTo 2 (some .int), Cond.methodLink RX2 82 yX2_checkReachable, Cond.instanceMethod yX2_checkReachable, Cond.selects RX2 yX2_checkReachable yX2_checkReachable, Cond.code yX2_checkReachable cX2_checkReachable 2 none, Cond.instanceMethod yX0_markAhead, Cond.selects RX0 yX0_markAhead yX0_markAhead, Cond.code yX0_markAhead cX0_markAhead 3 none, Cond.methodLink RL 126 yX3_trimTo, Cond.instanceMethod yX3_trimTo, Cond.selects RX3 yX3_trimTo yX3_trimTo, Cond.code yX3_trimTo cX3_trimTo 3 (some .int), Cond.methodLink RL 127 yL_addShip, Cond.static yL_addShip, Cond.codeWith yL_addShip cL_addShip 5 (some .int) [(0, 10, 13, 13), (0, 10, 17, 19)], Cond.methodLink RL 33 yX2_addShip, Cond.instanceMethod yX2_addShip, Cond.selects RX2 yX2_addShip yX2_addShip, Cond.code yX2_addShip cX2_addShip 4 (some .int), Cond.methodLink RL 129 yX3_addShip, Cond.instanceMethod yX3_addShip, Cond.selects RX3 yX3_addShip yX3_addShip]
def wsL_law0_r11 : List Cond := [Cond.code yX3_addShip cX3_addShip 3 (some .int), Cond.methodLink RL 130 yL_seek, Cond.static yL_seek, Cond.codeWith yL_seek cL_seek 5 (some .int) [(0, 10, 13, 28), (0, 10, 17, 13)], Cond.methodLink RL 36 yX2_seek, Cond.instanceMethod yX2_seek, Cond.selects RX2 yX2_seek yX2_seek, Cond.code yX2_seek cX2_seek 5 (some .int), Cond.methodLink RX2 101 yX2_shipNumbered, Cond.instanceMethod yX2_shipNumbered, Cond.selects RX2 yX2_shipNumbered yX2_shipNumbered, Cond.code yX2_shipNumbered cX2_shipNumbered 2 (some (.object "ParrotLog$Ship")), Cond.methodLink RL 132 yX3_seek, Cond.instanceMethod yX3_seek, Cond.selects RX3 yX3_seek yX3_seek, Cond.code yX3_seek cX3_seek 4 (some .int), Cond.methodLink RX3 99 yX3_isShip, Cond.instanceMethod yX3_isShip, Cond.selects RX3 yX3_isShip yX3_isShip, Cond.code yX3_isShip cX3_isShip 2 (some .boolean), Cond.methodLink RL 133 yL_passHours, Cond.static yL_passHours, Cond.codeWith yL_passHours cL_passHours 4 (some .int) [(0, 9, 12, 13)], Cond.methodLink RL 39 yX2_passHours]
def wsL_law0_r12 : List Cond := [Cond.instanceMethod yX2_passHours, Cond.selects RX2 yX2_passHours yX2_passHours, Cond.code yX2_passHours cX2_passHours 4 (some .int), Cond.fieldLink RX2 115 "ParrotLog" "hour" "I", Cond.methodLink RX2 105 yX2_checkHours, Cond.static yX2_checkHours, Cond.code yX2_checkHours cX2_checkHours 1 none, Cond.methodLink RX2 108 yX2_mostHeard, Cond.instanceMethod yX2_mostHeard, Cond.selects RX2 yX2_mostHeard yX2_mostHeard, Cond.code yX2_mostHeard cX2_mostHeard 3 (some .int), Cond.methodLink RX2 111 yX2_hearNext, Cond.instanceMethod yX2_hearNext, Cond.selects RX2 yX2_hearNext yX2_hearNext, Cond.code yX2_hearNext cX2_hearNext 6 (some .int), Cond.instanceMethod yX1_hear, Cond.selects RX1 yX1_hear yX1_hear, Cond.code yX1_hear cX1_hear 4 none, Cond.fieldLink RX1 15 "ParrotLog$Ship" "offset" "I", Cond.fieldLink RX1 19 "ParrotLog$Ship" "heard" "I", Cond.methodLink RL 135 yX3_passHours, Cond.instanceMethod yX3_passHours, Cond.selects RX3 yX3_passHours yX3_passHours, Cond.code yX3_passHours cX3_passHours 7 (some .int)]
def wsL_law0_r13 : List Cond := [Cond.fieldLink RX3 105 "ParrotLogModel" "hours" "I", Cond.methodLink RX3 102 yX3_from, Cond.instanceMethod yX3_from, Cond.selects RX3 yX3_from yX3_from, Cond.code yX3_from cX3_from 3 (some .int), Cond.methodLink RL 136 yX2_hours, Cond.instanceMethod yX2_hours, Cond.selects RX2 yX2_hours yX2_hours, Cond.code yX2_hours cX2_hours 1 (some .int), Cond.methodLink RL 139 yX3_hours, Cond.instanceMethod yX3_hours, Cond.selects RX3 yX3_hours yX3_hours, Cond.code yX3_hours cX3_hours 1 (some .int), Cond.methodLink RX3 108 yX3_told, Cond.instanceMethod yX3_told, Cond.selects RX3 yX3_told yX3_told, Cond.code yX3_told cX3_told 2 (some .int), Cond.methodLink RL 140 yX2_phrases, Cond.instanceMethod yX2_phrases, Cond.selects RX2 yX2_phrases yX2_phrases, Cond.code yX2_phrases cX2_phrases 1 (some .int), Cond.methodLink RL 143 yX3_phrases, Cond.instanceMethod yX3_phrases, Cond.selects RX3 yX3_phrases yX3_phrases]
def wsL_law0_r14 : List Cond := [Cond.code yX3_phrases cX3_phrases 1 (some .int), Cond.methodLink RL 144 yX2_nextOffset, Cond.instanceMethod yX2_nextOffset, Cond.selects RX2 yX2_nextOffset yX2_nextOffset, Cond.code yX2_nextOffset cX2_nextOffset 1 (some .int), Cond.methodLink RL 147 yX3_nextOffset, Cond.instanceMethod yX3_nextOffset, Cond.selects RX3 yX3_nextOffset yX3_nextOffset, Cond.code yX3_nextOffset cX3_nextOffset 1 (some .int), Cond.methodLink RL 148 yX2_firstOffset, Cond.instanceMethod yX2_firstOffset, Cond.selects RX2 yX2_firstOffset yX2_firstOffset, Cond.code yX2_firstOffset cX2_firstOffset 1 (some .int), Cond.methodLink RL 151 yX3_firstOffset, Cond.instanceMethod yX3_firstOffset, Cond.selects RX3 yX3_firstOffset yX3_firstOffset, Cond.code yX3_firstOffset cX3_firstOffset 1 (some .int), Cond.methodLink RX3 111 yX3_first, Cond.instanceMethod yX3_first, Cond.selects RX3 yX3_first yX3_first, Cond.code yX3_first cX3_first 1 (some .int), Cond.methodLink RL 152 yX2_dropped, Cond.instanceMethod yX2_dropped, Cond.selects RX2 yX2_dropped yX2_dropped]
def wsL_law0_r15 : List Cond := [Cond.code yX2_dropped cX2_dropped 1 (some .int), Cond.methodLink RL 155 yX3_dropped, Cond.instanceMethod yX3_dropped, Cond.selects RX3 yX3_dropped yX3_dropped, Cond.code yX3_dropped cX3_dropped 1 (some .int), Cond.methodLink RL 156 yX2_isKept, Cond.instanceMethod yX2_isKept, Cond.selects RX2 yX2_isKept yX2_isKept, Cond.code yX2_isKept cX2_isKept 2 (some .boolean), Cond.instanceMethod yX0_positionOf, Cond.selects RX0 yX0_positionOf yX0_positionOf, Cond.code yX0_positionOf cX0_positionOf 3 (some .int), Cond.methodLink RL 160 yX3_isKept, Cond.instanceMethod yX3_isKept, Cond.selects RX3 yX3_isKept yX3_isKept, Cond.code yX3_isKept cX3_isKept 2 (some .boolean), Cond.methodLink RX3 114 yX3_place, Cond.instanceMethod yX3_place, Cond.selects RX3 yX3_place yX3_place, Cond.code yX3_place cX3_place 3 (some .int), Cond.methodLink RL 161 yL_keyAt, Cond.static yL_keyAt, Cond.codeWith yL_keyAt cL_keyAt 4 (some .int) [(0, 9, 12, 28)], Cond.methodLink RL 42 yX2_keyAt]
def wsL_law0_r16 : List Cond := [Cond.instanceMethod yX2_keyAt, Cond.selects RX2 yX2_keyAt yX2_keyAt, Cond.code yX2_keyAt cX2_keyAt 2 (some .int), Cond.methodLink RX2 137 yX2_keptPosition, Cond.instanceMethod yX2_keptPosition, Cond.selects RX2 yX2_keptPosition yX2_keptPosition, Cond.code yX2_keptPosition cX2_keptPosition 3 (some .int), Cond.methodLink RL 163 yX3_keyAt, Cond.instanceMethod yX3_keyAt, Cond.selects RX3 yX3_keyAt yX3_keyAt, Cond.code yX3_keyAt cX3_keyAt 2 (some .int), Cond.methodLink RX3 117 yX3_of, Cond.instanceMethod yX3_of, Cond.selects RX3 yX3_of yX3_of, Cond.code yX3_of cX3_of 4 (some .int), Cond.methodLink RL 164 yL_valueAt, Cond.static yL_valueAt, Cond.codeWith yL_valueAt cL_valueAt 4 (some .int) [(0, 9, 12, 28)], Cond.methodLink RL 45 yX2_valueAt, Cond.instanceMethod yX2_valueAt, Cond.selects RX2 yX2_valueAt yX2_valueAt, Cond.code yX2_valueAt cX2_valueAt 2 (some .int), Cond.methodLink RL 166 yX3_valueAt, Cond.instanceMethod yX3_valueAt]
def wsL_law0_r17 : List Cond := [Cond.selects RX3 yX3_valueAt yX3_valueAt, Cond.code yX3_valueAt cX3_valueAt 2 (some .int), Cond.methodLink RL 167 yL_stormAt, Cond.static yL_stormAt, Cond.codeWith yL_stormAt cL_stormAt 4 (some .int) [(0, 9, 12, 28)], Cond.methodLink RL 48 yX2_stormAt, Cond.instanceMethod yX2_stormAt, Cond.selects RX2 yX2_stormAt yX2_stormAt, Cond.code yX2_stormAt cX2_stormAt 2 (some .int), Cond.methodLink RL 169 yX3_stormAt, Cond.instanceMethod yX3_stormAt, Cond.selects RX3 yX3_stormAt yX3_stormAt, Cond.code yX3_stormAt cX3_stormAt 2 (some .int), Cond.methodLink RL 170 yL_latestOf, Cond.static yL_latestOf, Cond.codeWith yL_latestOf cL_latestOf 4 (some .int) [(0, 9, 12, 28)], Cond.methodLink RL 51 yX2_latestOf, Cond.instanceMethod yX2_latestOf, Cond.selects RX2 yX2_latestOf yX2_latestOf, Cond.code yX2_latestOf cX2_latestOf 2 (some .int), Cond.methodLink RX2 146 yX2_checkKey, Cond.static yX2_checkKey, Cond.code yX2_checkKey cX2_checkKey 1 none, Cond.instanceMethod yX0_latestOffset]
def wsL_law0_r18 : List Cond := [Cond.selects RX0 yX0_latestOffset yX0_latestOffset, Cond.code yX0_latestOffset cX0_latestOffset 3 (some .int), Cond.methodLink RL 172 yX3_latestOf, Cond.instanceMethod yX3_latestOf, Cond.selects RX3 yX3_latestOf yX3_latestOf, Cond.code yX3_latestOf cX3_latestOf 2 (some .int), Cond.methodLink RX3 124 yX3_latest, Cond.instanceMethod yX3_latest, Cond.selects RX3 yX3_latest yX3_latest, Cond.code yX3_latest cX3_latest 2 (some .int), Cond.methodLink RX3 121 yX3_last, Cond.instanceMethod yX3_last, Cond.selects RX3 yX3_last yX3_last, Cond.code yX3_last cX3_last 3 (some .int), Cond.methodLink RL 173 yL_valueOf, Cond.static yL_valueOf, Cond.codeWith yL_valueOf cL_valueOf 4 (some .int) [(0, 9, 12, 28)], Cond.methodLink RL 54 yX2_valueOf, Cond.instanceMethod yX2_valueOf, Cond.selects RX2 yX2_valueOf yX2_valueOf, Cond.code yX2_valueOf cX2_valueOf 2 (some .int), Cond.instanceMethod yX0_latestValue, Cond.selects RX0 yX0_latestValue yX0_latestValue, Cond.code yX0_latestValue cX0_latestValue 3 (some .int)]
def wsL_law0_r19 : List Cond := [Cond.methodLink RL 175 yX3_valueOf, Cond.instanceMethod yX3_valueOf, Cond.selects RX3 yX3_valueOf yX3_valueOf, Cond.code yX3_valueOf cX3_valueOf 2 (some .int), Cond.methodLink RX3 127 yX3_worth, Cond.instanceMethod yX3_worth, Cond.selects RX3 yX3_worth yX3_worth, Cond.code yX3_worth cX3_worth 2 (some .int), Cond.methodLink RL 176 yL_countOf, Cond.static yL_countOf, Cond.codeWith yL_countOf cL_countOf 4 (some .int) [(0, 9, 12, 28)], Cond.methodLink RL 57 yX2_countOf, Cond.instanceMethod yX2_countOf, Cond.selects RX2 yX2_countOf yX2_countOf, Cond.code yX2_countOf cX2_countOf 2 (some .int), Cond.instanceMethod yX0_countKey, Cond.selects RX0 yX0_countKey yX0_countKey, Cond.code yX0_countKey cX0_countKey 2 (some .int), Cond.methodLink RX0 49 yX0_countEqual, Cond.instanceMethod yX0_countEqual, Cond.selects RX0 yX0_countEqual yX0_countEqual, Cond.code yX0_countEqual cX0_countEqual 5 (some .int), Cond.methodLink RL 178 yX3_countOf, Cond.instanceMethod yX3_countOf]
def wsL_law0_r20 : List Cond := [Cond.selects RX3 yX3_countOf yX3_countOf, Cond.code yX3_countOf cX3_countOf 2 (some .int), Cond.methodLink RX3 130 yX3_count, Cond.instanceMethod yX3_count, Cond.selects RX3 yX3_count yX3_count, Cond.code yX3_count cX3_count 4 (some .int), Cond.methodLink RL 179 yX2_storms, Cond.instanceMethod yX2_storms, Cond.selects RX2 yX2_storms yX2_storms, Cond.code yX2_storms cX2_storms 1 (some .int), Cond.methodLink RL 182 yX3_storms, Cond.instanceMethod yX3_storms, Cond.selects RX3 yX3_storms yX3_storms, Cond.code yX3_storms cX3_storms 1 (some .int), Cond.methodLink RL 183 yX2_isStormy, Cond.instanceMethod yX2_isStormy, Cond.selects RX2 yX2_isStormy yX2_isStormy, Cond.code yX2_isStormy cX2_isStormy 1 (some .boolean), Cond.methodLink RL 187 yX3_isStormy, Cond.instanceMethod yX3_isStormy, Cond.selects RX3 yX3_isStormy yX3_isStormy, Cond.code yX3_isStormy cX3_isStormy 1 (some .boolean), Cond.methodLink RL 188 yL_saidIn, Cond.static yL_saidIn]
def wsL_law0_r21 : List Cond := [Cond.codeWith yL_saidIn cL_saidIn 4 (some .int) [(0, 9, 12, 28)], Cond.methodLink RL 60 yX2_saidIn, Cond.instanceMethod yX2_saidIn, Cond.selects RX2 yX2_saidIn yX2_saidIn, Cond.code yX2_saidIn cX2_saidIn 2 (some .int), Cond.methodLink RL 190 yX3_saidIn, Cond.instanceMethod yX3_saidIn, Cond.selects RX3 yX3_saidIn yX3_saidIn, Cond.code yX3_saidIn cX3_saidIn 2 (some .int), Cond.methodLink RL 191 yL_keptOf, Cond.static yL_keptOf, Cond.codeWith yL_keptOf cL_keptOf 4 (some .int) [(0, 9, 12, 28)], Cond.methodLink RL 63 yX2_keptOf, Cond.instanceMethod yX2_keptOf, Cond.selects RX2 yX2_keptOf yX2_keptOf, Cond.code yX2_keptOf cX2_keptOf 2 (some .int), Cond.instanceMethod yX0_countStorm, Cond.selects RX0 yX0_countStorm yX0_countStorm, Cond.code yX0_countStorm cX0_countStorm 2 (some .int), Cond.methodLink RL 193 yX3_keptOf, Cond.instanceMethod yX3_keptOf, Cond.selects RX3 yX3_keptOf yX3_keptOf, Cond.code yX3_keptOf cX3_keptOf 2 (some .int), Cond.methodLink RX3 133 yX3_kept]
def wsL_law0_r22 : List Cond := [Cond.instanceMethod yX3_kept, Cond.selects RX3 yX3_kept yX3_kept, Cond.code yX3_kept cX3_kept 4 (some .int), Cond.methodLink RL 194 yX2_ships, Cond.instanceMethod yX2_ships, Cond.selects RX2 yX2_ships yX2_ships, Cond.code yX2_ships cX2_ships 1 (some .int), Cond.methodLink RL 197 yX3_ships, Cond.instanceMethod yX3_ships, Cond.selects RX3 yX3_ships yX3_ships, Cond.code yX3_ships cX3_ships 1 (some .int), Cond.methodLink RL 198 yL_offsetOf, Cond.static yL_offsetOf, Cond.codeWith yL_offsetOf cL_offsetOf 4 (some .int) [(0, 9, 12, 28)], Cond.methodLink RL 66 yX2_offsetOf, Cond.instanceMethod yX2_offsetOf, Cond.selects RX2 yX2_offsetOf yX2_offsetOf, Cond.code yX2_offsetOf cX2_offsetOf 2 (some .int), Cond.methodLink RL 200 yX3_offsetOf, Cond.instanceMethod yX3_offsetOf, Cond.selects RX3 yX3_offsetOf yX3_offsetOf, Cond.code yX3_offsetOf cX3_offsetOf 2 (some .int), Cond.methodLink RX3 136 yX3_ship, Cond.instanceMethod yX3_ship]
def wsL_law0_r23 : List Cond := [Cond.selects RX3 yX3_ship yX3_ship, Cond.code yX3_ship cX3_ship 3 (some .int), Cond.methodLink RL 201 yL_lagOf, Cond.static yL_lagOf, Cond.codeWith yL_lagOf cL_lagOf 4 (some .int) [(0, 9, 12, 28)], Cond.methodLink RL 69 yX2_lagOf, Cond.instanceMethod yX2_lagOf, Cond.selects RX2 yX2_lagOf yX2_lagOf, Cond.code yX2_lagOf cX2_lagOf 2 (some .int), Cond.methodLink RX2 161 yX2_lag, Cond.instanceMethod yX2_lag, Cond.selects RX2 yX2_lag yX2_lag, Cond.code yX2_lag cX2_lag 2 (some .int), Cond.methodLink RL 203 yX3_lagOf, Cond.instanceMethod yX3_lagOf, Cond.selects RX3 yX3_lagOf yX3_lagOf, Cond.code yX3_lagOf cX3_lagOf 2 (some .int), Cond.methodLink RX3 139 yX3_lag, Cond.instanceMethod yX3_lag, Cond.selects RX3 yX3_lag yX3_lag, Cond.code yX3_lag cX3_lag 2 (some .int), Cond.methodLink RL 204 yL_heardBy, Cond.static yL_heardBy, Cond.codeWith yL_heardBy cL_heardBy 4 (some .int) [(0, 9, 12, 28)]]
def wsL_law0_r24 : List Cond := [Cond.methodLink RL 72 yX2_heardBy, Cond.instanceMethod yX2_heardBy, Cond.selects RX2 yX2_heardBy yX2_heardBy, Cond.code yX2_heardBy cX2_heardBy 2 (some .int), Cond.methodLink RL 206 yX3_heardBy, Cond.instanceMethod yX3_heardBy, Cond.selects RX3 yX3_heardBy yX3_heardBy, Cond.code yX3_heardBy cX3_heardBy 2 (some .int), Cond.methodLink RL 207 yL_missedBy, Cond.static yL_missedBy, Cond.codeWith yL_missedBy cL_missedBy 4 (some .int) [(0, 9, 12, 28)], Cond.methodLink RL 75 yX2_missedBy, Cond.instanceMethod yX2_missedBy, Cond.selects RX2 yX2_missedBy yX2_missedBy, Cond.code yX2_missedBy cX2_missedBy 2 (some .int), Cond.methodLink RL 209 yX3_missedBy, Cond.instanceMethod yX3_missedBy, Cond.selects RX3 yX3_missedBy yX3_missedBy, Cond.code yX3_missedBy cX3_missedBy 2 (some .int), Cond.methodLink RL 210 yL_knownBy, Cond.static yL_knownBy, Cond.codeWith yL_knownBy cL_knownBy 5 (some .int) [(0, 10, 13, 28)], Cond.methodLink RL 78 yX2_knownBy, Cond.instanceMethod yX2_knownBy]
def wsL_law0_r25 : List Cond := [Cond.selects RX2 yX2_knownBy yX2_knownBy, Cond.code yX2_knownBy cX2_knownBy 4 (some .int), Cond.methodLink RL 212 yX3_knownBy, Cond.instanceMethod yX3_knownBy, Cond.selects RX3 yX3_knownBy yX3_knownBy, Cond.code yX3_knownBy cX3_knownBy 3 (some .int), Cond.methodLink RL 213 yL_errorsOf, Cond.static yL_errorsOf, Cond.codeWith yL_errorsOf cL_errorsOf 4 (some .int) [(0, 9, 12, 28)], Cond.methodLink RL 81 yX2_errorsOf, Cond.instanceMethod yX2_errorsOf, Cond.selects RX2 yX2_errorsOf yX2_errorsOf, Cond.code yX2_errorsOf cX2_errorsOf 2 (some .int), Cond.methodLink RX2 174 yX2_errorsAfter, Cond.instanceMethod yX2_errorsAfter, Cond.selects RX2 yX2_errorsAfter yX2_errorsAfter, Cond.code yX2_errorsAfter cX2_errorsAfter 9 (some .int), Cond.methodLink RL 215 yX3_errorsOf, Cond.instanceMethod yX3_errorsOf, Cond.selects RX3 yX3_errorsOf yX3_errorsOf, Cond.code yX3_errorsOf cX3_errorsOf 2 (some .int), Cond.methodLink RX3 142 yX3_errors, Cond.instanceMethod yX3_errors, Cond.selects RX3 yX3_errors yX3_errors]
def wsL_law0_r26 : List Cond := [Cond.code yX3_errors cX3_errors 7 (some .int), Cond.methodLink RL 216 yX2_farthestBehind, Cond.instanceMethod yX2_farthestBehind, Cond.selects RX2 yX2_farthestBehind yX2_farthestBehind, Cond.code yX2_farthestBehind cX2_farthestBehind 5 (some .int), Cond.methodLink RL 219 yX3_farthestBehind, Cond.instanceMethod yX3_farthestBehind, Cond.selects RX3 yX3_farthestBehind yX3_farthestBehind, Cond.code yX3_farthestBehind cX3_farthestBehind 1 (some .int), Cond.methodLink RX3 145 yX3_behind, Cond.instanceMethod yX3_behind, Cond.selects RX3 yX3_behind yX3_behind, Cond.code yX3_behind cX3_behind 3 (some .int), Cond.methodLink RL 220 yL_hoursUntilCaughtUp, Cond.static yL_hoursUntilCaughtUp, Cond.codeWith yL_hoursUntilCaughtUp cL_hoursUntilCaughtUp 4 (some .int) [(0, 9, 12, 28)], Cond.methodLink RL 84 yX2_hoursUntilCaughtUp, Cond.instanceMethod yX2_hoursUntilCaughtUp, Cond.selects RX2 yX2_hoursUntilCaughtUp yX2_hoursUntilCaughtUp, Cond.code yX2_hoursUntilCaughtUp cX2_hoursUntilCaughtUp 2 (some .int), Cond.methodLink RX2 177 yX2_hoursToGo, Cond.instanceMethod yX2_hoursToGo, Cond.selects RX2 yX2_hoursToGo yX2_hoursToGo, Cond.code yX2_hoursToGo cX2_hoursToGo 4 (some .int)]
def wsL_law0_r27 : List Cond := [Cond.methodLink RL 222 yX3_hoursUntilCaughtUp, Cond.instanceMethod yX3_hoursUntilCaughtUp, Cond.selects RX3 yX3_hoursUntilCaughtUp yX3_hoursUntilCaughtUp, Cond.code yX3_hoursUntilCaughtUp cX3_hoursUntilCaughtUp 2 (some .int), Cond.methodLink RX3 148 yX3_until, Cond.instanceMethod yX3_until, Cond.selects RX3 yX3_until yX3_until, Cond.code yX3_until cX3_until 3 (some .int), Cond.methodLink RL 223 yL_errorsIn, Cond.static yL_errorsIn, Cond.codeWith yL_errorsIn cL_errorsIn 5 (some .int) [(0, 10, 13, 28), (0, 10, 17, 13)], Cond.methodLink RL 87 yX2_errorsIn, Cond.instanceMethod yX2_errorsIn, Cond.selects RX2 yX2_errorsIn yX2_errorsIn, Cond.code yX2_errorsIn cX2_errorsIn 4 (some .int), Cond.methodLink RL 225 yX3_errorsIn, Cond.instanceMethod yX3_errorsIn, Cond.selects RX3 yX3_errorsIn yX3_errorsIn, Cond.code yX3_errorsIn cX3_errorsIn 3 (some .int), Cond.methodLink RL 226 yL_paceWanted, Cond.static yL_paceWanted, Cond.codeWith yL_paceWanted cL_paceWanted 5 (some .int) [(0, 10, 13, 28), (0, 10, 17, 13)], Cond.methodLink RL 90 yX2_paceWanted, Cond.instanceMethod yX2_paceWanted]
def wsL_law0_r28 : List Cond := [Cond.selects RX2 yX2_paceWanted yX2_paceWanted, Cond.code yX2_paceWanted cX2_paceWanted 5 (some .int), Cond.methodLink RL 228 yX3_paceWanted, Cond.instanceMethod yX3_paceWanted, Cond.selects RX3 yX3_paceWanted yX3_paceWanted, Cond.code yX3_paceWanted cX3_paceWanted 5 (some .int), Cond.methodLink RX3 151 Lib.Math.max.name, Cond.static Lib.Math.max.name, Cond.code Lib.Math.max.name Lib.Math.max.code 2 (some .int), Cond.methodLink RL 229 yX2_wouldCompact, Cond.instanceMethod yX2_wouldCompact, Cond.selects RX2 yX2_wouldCompact yX2_wouldCompact, Cond.code yX2_wouldCompact cX2_wouldCompact 1 (some .int), Cond.instanceMethod yX0_countMarked, Cond.selects RX0 yX0_countMarked yX0_countMarked, Cond.code yX0_countMarked cX0_countMarked 1 (some .int), Cond.methodLink RX0 39 yX0_countMarkedFrom, Cond.methodLink RL 232 yX3_wouldCompact, Cond.instanceMethod yX3_wouldCompact, Cond.selects RX3 yX3_wouldCompact yX3_wouldCompact, Cond.code yX3_wouldCompact cX3_wouldCompact 1 (some .int), Cond.methodLink RL 233 yL_wouldMiss, Cond.static yL_wouldMiss, Cond.codeWith yL_wouldMiss cL_wouldMiss 4 (some .int) [(0, 9, 12, 28)]]
def wsL_law0_r29 : List Cond := [Cond.methodLink RL 93 yX2_wouldMiss, Cond.instanceMethod yX2_wouldMiss, Cond.selects RX2 yX2_wouldMiss yX2_wouldMiss, Cond.code yX2_wouldMiss cX2_wouldMiss 3 (some .int), Cond.methodLink RL 235 yX3_wouldMiss, Cond.instanceMethod yX3_wouldMiss, Cond.selects RX3 yX3_wouldMiss yX3_wouldMiss, Cond.code yX3_wouldMiss cX3_wouldMiss 2 (some .int), Cond.methodLink RX3 154 yX3_misses, Cond.instanceMethod yX3_misses, Cond.selects RX3 yX3_misses yX3_misses, Cond.code yX3_misses cX3_misses 4 (some .int), Cond.methodLink RL 236 yX2_meanLag, Cond.instanceMethod yX2_meanLag, Cond.selects RX2 yX2_meanLag yX2_meanLag, Cond.code yX2_meanLag cX2_meanLag 3 (some .double), Cond.methodLink RL 240 yX3_meanLag, Cond.instanceMethod yX3_meanLag, Cond.selects RX3 yX3_meanLag yX3_meanLag, Cond.code yX3_meanLag cX3_meanLag 3 (some .double), Cond.methodLink RL 241 yX2_digest, Cond.instanceMethod yX2_digest, Cond.selects RX2 yX2_digest yX2_digest, Cond.code yX2_digest cX2_digest 3 (some .long)]
def wsL_law0_r30 : List Cond := [Cond.constantLong RX2 186 (1787), Cond.methodLink RX2 188 yX2_mix, Cond.static yX2_mix, Cond.code yX2_mix cX2_mix 4 (some .long), Cond.constantLong RX2 211 (31), Cond.methodLink RX2 192 yX2_firstOffset, Cond.methodLink RX2 195 yX2_farthestBehind, Cond.methodLink RX2 198 yX2_wouldCompact, Cond.methodLink RX2 201 yX2_mixKeys, Cond.instanceMethod yX2_mixKeys, Cond.selects RX2 yX2_mixKeys yX2_mixKeys, Cond.code yX2_mixKeys cX2_mixKeys 6 (some .long), Cond.methodLink RX2 205 yX2_mixStorms, Cond.instanceMethod yX2_mixStorms, Cond.selects RX2 yX2_mixStorms yX2_mixStorms, Cond.code yX2_mixStorms cX2_mixStorms 6 (some .long), Cond.methodLink RX2 208 yX2_mixShips, Cond.instanceMethod yX2_mixShips, Cond.selects RX2 yX2_mixShips yX2_mixShips, Cond.code yX2_mixShips cX2_mixShips 7 (some .long), Cond.methodLink RL 245 yX3_digest, Cond.instanceMethod yX3_digest, Cond.selects RX3 yX3_digest yX3_digest, Cond.code yX3_digest cX3_digest 10 (some .long)]
def wsL_law0_r31 : List Cond := [Cond.constantLong RX3 157 (1787), Cond.constantLong RX3 159 (31)]
def wsL_law0 : List Cond := (wsL_law0_r1 ++ (wsL_law0_r2 ++ (wsL_law0_r3 ++ (wsL_law0_r4 ++ (wsL_law0_r5 ++ (wsL_law0_r6 ++ (wsL_law0_r7 ++ (wsL_law0_r8 ++ (wsL_law0_r9 ++ (wsL_law0_r10 ++ (wsL_law0_r11 ++ (wsL_law0_r12 ++ (wsL_law0_r13 ++ (wsL_law0_r14 ++ (wsL_law0_r15 ++ (wsL_law0_r16 ++ (wsL_law0_r17 ++ (wsL_law0_r18 ++ (wsL_law0_r19 ++ (wsL_law0_r20 ++ (wsL_law0_r21 ++ (wsL_law0_r22 ++ (wsL_law0_r23 ++ (wsL_law0_r24 ++ (wsL_law0_r25 ++ (wsL_law0_r26 ++ (wsL_law0_r27 ++ (wsL_law0_r28 ++ (wsL_law0_r29 ++ (wsL_law0_r30 ++ wsL_law0_r31)))))))))))))))))))))))))))))) ++ wsX20 ++ wsX30 ++ wsX00 ++ wsX10 ++ ([] : List Cond)
def wsL_law : List Cond := wsL_law0 ++ (vx_atS RX2 41 "java/lang/IllegalArgumentException" ["java/lang/RuntimeException", "java/lang/Exception"]).filter goodWord ++ (vx_atS RX2 58 "java/lang/IllegalStateException" ["java/lang/RuntimeException", "java/lang/Exception"]).filter goodWord ++ (vx_atS RX2 245 "java/lang/IndexOutOfBoundsException" ["java/lang/RuntimeException", "java/lang/Exception"]).filter goodWord
abbrev vwCl : List vw_C := [(RX0, TX0, 8), (RX1, TX1, 5), (RX2, TX2, 9), (RX3, TX3, 19)]
end
section
set_option maxRecDepth 20000 in
theorem wsL_law0_r1_in : ∀ w ∈ wsL_law0_r1, w ∈ lw_tbl := fun w h => (goodIn_p wsL_law0_r1 [72, 75] (by decide +kernel) (by decide +kernel) w h).1
set_option maxRecDepth 20000 in
theorem wsL_law0_r2_in : ∀ w ∈ wsL_law0_r2, w ∈ lw_tbl := fun w h => (goodIn_p wsL_law0_r2 [80, 121, 679] (by decide +kernel) (by decide +kernel) w h).1
set_option maxRecDepth 20000 in
theorem wsL_law0_r3_in : ∀ w ∈ wsL_law0_r3, w ∈ lw_tbl := fun w h => (goodIn_p wsL_law0_r3 [335, 338, 411] (by decide +kernel) (by decide +kernel) w h).1
set_option maxRecDepth 20000 in
theorem wsL_law0_r4_in : ∀ w ∈ wsL_law0_r4, w ∈ lw_tbl := fun w h => (goodIn_p wsL_law0_r4 [415, 196, 200, 204, 208, 419] (by decide +kernel) (by decide +kernel) w h).1
set_option maxRecDepth 20000 in
theorem wsL_law0_r5_in : ∀ w ∈ wsL_law0_r5, w ∈ lw_tbl := fun w h => (goodIn_p wsL_law0_r5 [746, 749, 752, 756, 760] (by decide +kernel) (by decide +kernel) w h).1
set_option maxRecDepth 20000 in
theorem wsL_law0_r6_in : ∀ w ∈ wsL_law0_r6, w ∈ lw_tbl := fun w h => (goodIn_p wsL_law0_r6 [764, 742, 427, 768] (by decide +kernel) (by decide +kernel) w h).1
set_option maxRecDepth 20000 in
theorem wsL_law0_r7_in : ∀ w ∈ wsL_law0_r7, w ∈ lw_tbl := fun w h => (goodIn_p wsL_law0_r7 [451, 772, 460, 464] (by decide +kernel) (by decide +kernel) w h).1
set_option maxRecDepth 20000 in
theorem wsL_law0_r8_in : ∀ w ∈ wsL_law0_r8, w ∈ lw_tbl := fun w h => (goodIn_p wsL_law0_r8 [484, 776, 780, 173, 177, 181] (by decide +kernel) (by decide +kernel) w h).1
set_option maxRecDepth 20000 in
theorem wsL_law0_r9_in : ∀ w ∈ wsL_law0_r9, w ∈ lw_tbl := fun w h => (goodIn_p wsL_law0_r9 [184, 188, 192, 784, 788] (by decide +kernel) (by decide +kernel) w h).1
set_option maxRecDepth 20000 in
theorem wsL_law0_r10_in : ∀ w ∈ wsL_law0_r10, w ∈ lw_tbl := fun w h => (goodIn_p wsL_law0_r10 [491, 495, 500, 793, 507] (by decide +kernel) (by decide +kernel) w h).1
end
section
set_option maxRecDepth 20000 in
theorem wsL_law0_r11_in : ∀ w ∈ wsL_law0_r11, w ∈ lw_tbl := fun w h => (goodIn_p wsL_law0_r11 [797, 516, 520, 801, 805] (by decide +kernel) (by decide +kernel) w h).1
set_option maxRecDepth 20000 in
theorem wsL_law0_r12_in : ∀ w ∈ wsL_law0_r12, w ∈ lw_tbl := fun w h => (goodIn_p wsL_law0_r12 [528, 531, 327, 536, 540, 809] (by decide +kernel) (by decide +kernel) w h).1
set_option maxRecDepth 20000 in
theorem wsL_law0_r13_in : ∀ w ∈ wsL_law0_r13, w ∈ lw_tbl := fun w h => (goodIn_p wsL_law0_r13 [813, 212, 817, 821, 216] (by decide +kernel) (by decide +kernel) w h).1
set_option maxRecDepth 20000 in
theorem wsL_law0_r14_in : ∀ w ∈ wsL_law0_r14, w ∈ lw_tbl := fun w h => (goodIn_p wsL_law0_r14 [825, 220, 829, 224, 833, 837] (by decide +kernel) (by decide +kernel) w h).1
set_option maxRecDepth 20000 in
theorem wsL_law0_r15_in : ∀ w ∈ wsL_law0_r15, w ∈ lw_tbl := fun w h => (goodIn_p wsL_law0_r15 [228, 841, 232, 236, 845, 849] (by decide +kernel) (by decide +kernel) w h).1
set_option maxRecDepth 20000 in
theorem wsL_law0_r16_in : ∀ w ∈ wsL_law0_r16, w ∈ lw_tbl := fun w h => (goodIn_p wsL_law0_r16 [547, 551, 853, 857, 559] (by decide +kernel) (by decide +kernel) w h).1
set_option maxRecDepth 20000 in
theorem wsL_law0_r17_in : ∀ w ∈ wsL_law0_r17, w ∈ lw_tbl := fun w h => (goodIn_p wsL_law0_r17 [861, 566, 865, 573, 576] (by decide +kernel) (by decide +kernel) w h).1
set_option maxRecDepth 20000 in
theorem wsL_law0_r18_in : ∀ w ∈ wsL_law0_r18, w ∈ lw_tbl := fun w h => (goodIn_p wsL_law0_r18 [290, 869, 873, 877, 583, 294] (by decide +kernel) (by decide +kernel) w h).1
set_option maxRecDepth 20000 in
theorem wsL_law0_r19_in : ∀ w ∈ wsL_law0_r19, w ∈ lw_tbl := fun w h => (goodIn_p wsL_law0_r19 [881, 885, 590, 298, 302] (by decide +kernel) (by decide +kernel) w h).1
set_option maxRecDepth 20000 in
theorem wsL_law0_r20_in : ∀ w ∈ wsL_law0_r20, w ∈ lw_tbl := fun w h => (goodIn_p wsL_law0_r20 [889, 893, 240, 897, 244, 901] (by decide +kernel) (by decide +kernel) w h).1
end
section
set_option maxRecDepth 20000 in
theorem wsL_law0_r21_in : ∀ w ∈ wsL_law0_r21, w ∈ lw_tbl := fun w h => (goodIn_p wsL_law0_r21 [597, 905, 604, 310, 909] (by decide +kernel) (by decide +kernel) w h).1
set_option maxRecDepth 20000 in
theorem wsL_law0_r22_in : ∀ w ∈ wsL_law0_r22, w ∈ lw_tbl := fun w h => (goodIn_p wsL_law0_r22 [913, 248, 917, 611, 921] (by decide +kernel) (by decide +kernel) w h).1
set_option maxRecDepth 20000 in
theorem wsL_law0_r23_in : ∀ w ∈ wsL_law0_r23, w ∈ lw_tbl := fun w h => (goodIn_p wsL_law0_r23 [925, 618, 256, 929, 933] (by decide +kernel) (by decide +kernel) w h).1
set_option maxRecDepth 20000 in
theorem wsL_law0_r24_in : ∀ w ∈ wsL_law0_r24, w ∈ lw_tbl := fun w h => (goodIn_p wsL_law0_r24 [625, 937, 632, 941] (by decide +kernel) (by decide +kernel) w h).1
set_option maxRecDepth 20000 in
theorem wsL_law0_r25_in : ∀ w ∈ wsL_law0_r25, w ∈ lw_tbl := fun w h => (goodIn_p wsL_law0_r25 [639, 945, 646, 318, 949] (by decide +kernel) (by decide +kernel) w h).1
set_option maxRecDepth 20000 in
theorem wsL_law0_r26_in : ∀ w ∈ wsL_law0_r26, w ∈ lw_tbl := fun w h => (goodIn_p wsL_law0_r26 [953, 252, 957, 961, 653, 323] (by decide +kernel) (by decide +kernel) w h).1
set_option maxRecDepth 20000 in
theorem wsL_law0_r27_in : ∀ w ∈ wsL_law0_r27, w ∈ lw_tbl := fun w h => (goodIn_p wsL_law0_r27 [965, 969, 660, 973] (by decide +kernel) (by decide +kernel) w h).1
set_option maxRecDepth 20000 in
theorem wsL_law0_r28_in : ∀ w ∈ wsL_law0_r28, w ∈ lw_tbl := fun w h => (goodIn_p wsL_law0_r28 [667, 977, 980, 261, 265, 984] (by decide +kernel) (by decide +kernel) w h).1
set_option maxRecDepth 20000 in
theorem wsL_law0_r29_in : ∀ w ∈ wsL_law0_r29, w ∈ lw_tbl := fun w h => (goodIn_p wsL_law0_r29 [674, 988, 992, 270, 996, 274] (by decide +kernel) (by decide +kernel) w h).1
set_option maxRecDepth 20000 in
theorem wsL_law0_r30_in : ∀ w ∈ wsL_law0_r30, w ∈ lw_tbl := fun w h => (goodIn_p wsL_law0_r30 [278, 286, 306, 314, 1000] (by decide +kernel) (by decide +kernel) w h).1
set_option maxRecDepth 20000 in
theorem wsL_law0_r31_in : ∀ w ∈ wsL_law0_r31, w ∈ lw_tbl := fun w h => (goodIn_p wsL_law0_r31 [] (by decide +kernel) (by decide +kernel) w h).1
theorem wsX20_i9 : ∀ w ∈ wsX20, w ∈ lw_tbl := by decide +kernel
theorem wsX30_i9 : ∀ w ∈ wsX30, w ∈ lw_tbl := by decide +kernel
theorem wsX00_i9 : ∀ w ∈ wsX00, w ∈ lw_tbl := by decide +kernel
theorem wsX10_i9 : ∀ w ∈ wsX10, w ∈ lw_tbl := by decide +kernel
theorem wsL_law_in0 : ∀ w ∈ wsL_law0, w ∈ lw_tbl := by
  intro w h
  unfold wsL_law0 at h
  rcases List.mem_append.mp h with h | h
  case inr => exact absurd h List.not_mem_nil
  rcases List.mem_append.mp h with h | h
  case inr => first | exact wsX10_i9 w h | exact absurd h List.not_mem_nil
  rcases List.mem_append.mp h with h | h
  case inr => first | exact wsX00_i9 w h | exact absurd h List.not_mem_nil
  rcases List.mem_append.mp h with h | h
  case inr => first | exact wsX30_i9 w h | exact absurd h List.not_mem_nil
  rcases List.mem_append.mp h with h | h
  case inr => first | exact wsX20_i9 w h | exact absurd h List.not_mem_nil
  rcases List.mem_append.mp h with h | h
  case inl => exact wsL_law0_r1_in w h
  rcases List.mem_append.mp h with h | h
  case inl => exact wsL_law0_r2_in w h
  rcases List.mem_append.mp h with h | h
  case inl => exact wsL_law0_r3_in w h
  rcases List.mem_append.mp h with h | h
  case inl => exact wsL_law0_r4_in w h
  rcases List.mem_append.mp h with h | h
  case inl => exact wsL_law0_r5_in w h
  rcases List.mem_append.mp h with h | h
  case inl => exact wsL_law0_r6_in w h
  rcases List.mem_append.mp h with h | h
  case inl => exact wsL_law0_r7_in w h
  rcases List.mem_append.mp h with h | h
  case inl => exact wsL_law0_r8_in w h
  rcases List.mem_append.mp h with h | h
  case inl => exact wsL_law0_r9_in w h
  rcases List.mem_append.mp h with h | h
  case inl => exact wsL_law0_r10_in w h
  rcases List.mem_append.mp h with h | h
  case inl => exact wsL_law0_r11_in w h
  rcases List.mem_append.mp h with h | h
  case inl => exact wsL_law0_r12_in w h
  rcases List.mem_append.mp h with h | h
  case inl => exact wsL_law0_r13_in w h
  rcases List.mem_append.mp h with h | h
  case inl => exact wsL_law0_r14_in w h
  rcases List.mem_append.mp h with h | h
  case inl => exact wsL_law0_r15_in w h
  rcases List.mem_append.mp h with h | h
  case inl => exact wsL_law0_r16_in w h
  rcases List.mem_append.mp h with h | h
  case inl => exact wsL_law0_r17_in w h
  rcases List.mem_append.mp h with h | h
  case inl => exact wsL_law0_r18_in w h
  rcases List.mem_append.mp h with h | h
  case inl => exact wsL_law0_r19_in w h
  rcases List.mem_append.mp h with h | h
  case inl => exact wsL_law0_r20_in w h
  rcases List.mem_append.mp h with h | h
  case inl => exact wsL_law0_r21_in w h
  rcases List.mem_append.mp h with h | h
  case inl => exact wsL_law0_r22_in w h
  rcases List.mem_append.mp h with h | h
  case inl => exact wsL_law0_r23_in w h
  rcases List.mem_append.mp h with h | h
  case inl => exact wsL_law0_r24_in w h
  rcases List.mem_append.mp h with h | h
  case inl => exact wsL_law0_r25_in w h
  rcases List.mem_append.mp h with h | h
  case inl => exact wsL_law0_r26_in w h
  rcases List.mem_append.mp h with h | h
  case inl => exact wsL_law0_r27_in w h
  rcases List.mem_append.mp h with h | h
  case inl => exact wsL_law0_r28_in w h
  rcases List.mem_append.mp h with h | h
  case inl => exact wsL_law0_r29_in w h
  rcases List.mem_append.mp h with h | h
  case inl => exact wsL_law0_r30_in w h
  exact wsL_law0_r31_in w h
end
section
theorem wsL_law_x0 : ∀ w ∈ (vx_atS RX2 41 "java/lang/IllegalArgumentException" ["java/lang/RuntimeException", "java/lang/Exception"]).filter goodWord, w ∈ lw_tbl := by decide +kernel
theorem wsL_law_x1 : ∀ w ∈ (vx_atS RX2 58 "java/lang/IllegalStateException" ["java/lang/RuntimeException", "java/lang/Exception"]).filter goodWord, w ∈ lw_tbl := by decide +kernel
theorem wsL_law_x2 : ∀ w ∈ (vx_atS RX2 245 "java/lang/IndexOutOfBoundsException" ["java/lang/RuntimeException", "java/lang/Exception"]).filter goodWord, w ∈ lw_tbl := by decide +kernel
theorem wsL_law_in : ∀ w ∈ wsL_law, w ∈ lw_tbl := fun w h => (List.mem_append.mp h).elim (fun h => (List.mem_append.mp h).elim (fun h => (List.mem_append.mp h).elim (fun h => wsL_law_in0 w h) (fun h => wsL_law_x0 w h)) (fun h => wsL_law_x1 w h)) (fun h => wsL_law_x2 w h)
theorem inlX0 : ∀ w ∈ wsX00, w ∈ wsL_law := fun _ h => List.mem_append_left _ (List.mem_append_left _ (List.mem_append_left _ (List.mem_append_left _ (List.mem_append_left _ (List.mem_append_right _ h)))))
theorem inX0 : ∀ w ∈ wsX00, w ∈ lw_tbl := fun w h => wsL_law_in w (inlX0 w h)
theorem inlX1 : ∀ w ∈ wsX10, w ∈ wsL_law := fun _ h => List.mem_append_left _ (List.mem_append_left _ (List.mem_append_left _ (List.mem_append_left _ (List.mem_append_right _ h))))
theorem inX1 : ∀ w ∈ wsX10, w ∈ lw_tbl := fun w h => wsL_law_in w (inlX1 w h)
theorem inlX2 : ∀ w ∈ wsX20, w ∈ wsL_law := fun _ h => List.mem_append_left _ (List.mem_append_left _ (List.mem_append_left _ (List.mem_append_left _ (List.mem_append_left _ (List.mem_append_left _ (List.mem_append_left _ (List.mem_append_right _ h)))))))
theorem inX2 : ∀ w ∈ wsX20, w ∈ lw_tbl := fun w h => wsL_law_in w (inlX2 w h)
theorem inlX3 : ∀ w ∈ wsX30, w ∈ wsL_law := fun _ h => List.mem_append_left _ (List.mem_append_left _ (List.mem_append_left _ (List.mem_append_left _ (List.mem_append_left _ (List.mem_append_left _ (List.mem_append_right _ h))))))
theorem inX3 : ∀ w ∈ wsX30, w ∈ lw_tbl := fun w h => wsL_law_in w (inlX3 w h)
theorem inJ9 : ∀ w ∈ wsJ90, w ∈ lw_tbl := by decide +kernel
theorem inJ0 : ∀ w ∈ wsJ00, w ∈ lw_tbl := by decide +kernel
end
section
theorem dX0_init_0 : decode cX0_init 0 = .ok (.aload_n 0, 1) := by decide +kernel
theorem dX0_init_1 : decode cX0_init 1 = .ok (.invokespecial 3, 3) := by decide +kernel
theorem dX0_init_4 : decode cX0_init 4 = .ok (.aload_n 0, 1) := by decide +kernel
theorem dX0_init_5 : decode cX0_init 5 = .ok (.bipush 48, 2) := by decide +kernel
theorem dX0_init_7 : decode cX0_init 7 = .ok (.newarray .int, 2) := by decide +kernel
theorem dX0_init_9 : decode cX0_init 9 = .ok (.putfield 9, 3) := by decide +kernel
theorem dX0_init_12 : decode cX0_init 12 = .ok (.aload_n 0, 1) := by decide +kernel
theorem dX0_init_13 : decode cX0_init 13 = .ok (.bipush 48, 2) := by decide +kernel
theorem dX0_init_15 : decode cX0_init 15 = .ok (.newarray .int, 2) := by decide +kernel
theorem dX0_init_17 : decode cX0_init 17 = .ok (.putfield 15, 3) := by decide +kernel
theorem dX0_init_20 : decode cX0_init 20 = .ok (.aload_n 0, 1) := by decide +kernel
theorem dX0_init_21 : decode cX0_init 21 = .ok (.bipush 48, 2) := by decide +kernel
theorem dX0_init_23 : decode cX0_init 23 = .ok (.newarray .int, 2) := by decide +kernel
theorem dX0_init_25 : decode cX0_init 25 = .ok (.putfield 18, 3) := by decide +kernel
theorem dX0_init_28 : decode cX0_init 28 = .ok (.aload_n 0, 1) := by decide +kernel
theorem dX0_init_29 : decode cX0_init 29 = .ok (.bipush 48, 2) := by decide +kernel
theorem dX0_init_31 : decode cX0_init 31 = .ok (.newarray .int, 2) := by decide +kernel
theorem dX0_init_33 : decode cX0_init 33 = .ok (.putfield 21, 3) := by decide +kernel
theorem dX0_init_36 : decode cX0_init 36 = .ok (.aload_n 0, 1) := by decide +kernel
theorem dX0_init_37 : decode cX0_init 37 = .ok (.bipush 48, 2) := by decide +kernel
theorem dX0_init_39 : decode cX0_init 39 = .ok (.newarray .boolean, 2) := by decide +kernel
theorem dX0_init_41 : decode cX0_init 41 = .ok (.putfield 24, 3) := by decide +kernel
theorem dX0_init_44 : decode cX0_init 44 = .ok (.return_, 1) := by decide +kernel
theorem dX0_append_0 : decode cX0_append 0 = .ok (.aload_n 0, 1) := by decide +kernel
theorem dX0_append_1 : decode cX0_append 1 = .ok (.getfield 9, 3) := by decide +kernel
theorem dX0_append_4 : decode cX0_append 4 = .ok (.aload_n 0, 1) := by decide +kernel
theorem dX0_append_5 : decode cX0_append 5 = .ok (.getfield 28, 3) := by decide +kernel
theorem dX0_append_8 : decode cX0_append 8 = .ok (.aload_n 0, 1) := by decide +kernel
theorem dX0_append_9 : decode cX0_append 9 = .ok (.getfield 32, 3) := by decide +kernel
theorem dX0_append_12 : decode cX0_append 12 = .ok (.iastore, 1) := by decide +kernel
theorem dX0_append_13 : decode cX0_append 13 = .ok (.aload_n 0, 1) := by decide +kernel
theorem dX0_append_14 : decode cX0_append 14 = .ok (.getfield 15, 3) := by decide +kernel
theorem dX0_append_17 : decode cX0_append 17 = .ok (.aload_n 0, 1) := by decide +kernel
theorem dX0_append_18 : decode cX0_append 18 = .ok (.getfield 28, 3) := by decide +kernel
theorem dX0_append_21 : decode cX0_append 21 = .ok (.iload_n 1, 1) := by decide +kernel
theorem dX0_append_22 : decode cX0_append 22 = .ok (.iastore, 1) := by decide +kernel
theorem dX0_append_23 : decode cX0_append 23 = .ok (.aload_n 0, 1) := by decide +kernel
theorem dX0_append_24 : decode cX0_append 24 = .ok (.getfield 18, 3) := by decide +kernel
theorem dX0_append_27 : decode cX0_append 27 = .ok (.aload_n 0, 1) := by decide +kernel
theorem dX0_append_28 : decode cX0_append 28 = .ok (.getfield 28, 3) := by decide +kernel
theorem dX0_append_31 : decode cX0_append 31 = .ok (.iload_n 2, 1) := by decide +kernel
theorem dX0_append_32 : decode cX0_append 32 = .ok (.iastore, 1) := by decide +kernel
theorem dX0_append_33 : decode cX0_append 33 = .ok (.aload_n 0, 1) := by decide +kernel
theorem dX0_append_34 : decode cX0_append 34 = .ok (.getfield 21, 3) := by decide +kernel
theorem dX0_append_37 : decode cX0_append 37 = .ok (.aload_n 0, 1) := by decide +kernel
theorem dX0_append_38 : decode cX0_append 38 = .ok (.getfield 28, 3) := by decide +kernel
theorem dX0_append_41 : decode cX0_append 41 = .ok (.iload_n 3, 1) := by decide +kernel
theorem dX0_append_42 : decode cX0_append 42 = .ok (.iastore, 1) := by decide +kernel
theorem dX0_append_43 : decode cX0_append 43 = .ok (.aload_n 0, 1) := by decide +kernel
theorem dX0_append_44 : decode cX0_append 44 = .ok (.dup, 1) := by decide +kernel
theorem dX0_append_45 : decode cX0_append 45 = .ok (.getfield 28, 3) := by decide +kernel
theorem dX0_append_48 : decode cX0_append 48 = .ok (.iconst 1, 1) := by decide +kernel
theorem dX0_append_49 : decode cX0_append 49 = .ok (.iadd, 1) := by decide +kernel
theorem dX0_append_50 : decode cX0_append 50 = .ok (.putfield 28, 3) := by decide +kernel
theorem dX0_append_53 : decode cX0_append 53 = .ok (.aload_n 0, 1) := by decide +kernel
theorem dX0_append_54 : decode cX0_append 54 = .ok (.dup, 1) := by decide +kernel
theorem dX0_append_55 : decode cX0_append 55 = .ok (.getfield 32, 3) := by decide +kernel
theorem dX0_append_58 : decode cX0_append 58 = .ok (.iconst 1, 1) := by decide +kernel
theorem dX0_append_59 : decode cX0_append 59 = .ok (.iadd, 1) := by decide +kernel
theorem dX0_append_60 : decode cX0_append 60 = .ok (.putfield 32, 3) := by decide +kernel
theorem dX0_append_63 : decode cX0_append 63 = .ok (.aload_n 0, 1) := by decide +kernel
theorem dX0_append_64 : decode cX0_append 64 = .ok (.getfield 32, 3) := by decide +kernel
theorem dX0_append_67 : decode cX0_append 67 = .ok (.iconst 1, 1) := by decide +kernel
theorem dX0_append_68 : decode cX0_append 68 = .ok (.isub, 1) := by decide +kernel
theorem dX0_append_69 : decode cX0_append 69 = .ok (.ireturn, 1) := by decide +kernel
theorem dX0_markFirst_0 : decode cX0_markFirst 0 = .ok (.iconst 0, 1) := by decide +kernel
theorem dX0_markFirst_1 : decode cX0_markFirst 1 = .ok (.istore_n 1, 1) := by decide +kernel
theorem dX0_markFirst_2 : decode cX0_markFirst 2 = .ok (.iload_n 1, 1) := by decide +kernel
theorem dX0_markFirst_3 : decode cX0_markFirst 3 = .ok (.aload_n 0, 1) := by decide +kernel
theorem dX0_markFirst_4 : decode cX0_markFirst 4 = .ok (.getfield 28, 3) := by decide +kernel
theorem dX0_markFirst_7 : decode cX0_markFirst 7 = .ok (.if_icmp .ge 24, 3) := by decide +kernel
theorem dX0_markFirst_10 : decode cX0_markFirst 10 = .ok (.aload_n 0, 1) := by decide +kernel
theorem dX0_markFirst_11 : decode cX0_markFirst 11 = .ok (.getfield 24, 3) := by decide +kernel
theorem dX0_markFirst_14 : decode cX0_markFirst 14 = .ok (.iload_n 1, 1) := by decide +kernel
theorem dX0_markFirst_15 : decode cX0_markFirst 15 = .ok (.iload_n 1, 1) := by decide +kernel
theorem dX0_markFirst_16 : decode cX0_markFirst 16 = .ok (.ifCond .ne 7, 3) := by decide +kernel
theorem dX0_markFirst_19 : decode cX0_markFirst 19 = .ok (.iconst 1, 1) := by decide +kernel
theorem dX0_markFirst_20 : decode cX0_markFirst 20 = .ok (.goto 4, 3) := by decide +kernel
theorem dX0_markFirst_23 : decode cX0_markFirst 23 = .ok (.iconst 0, 1) := by decide +kernel
theorem dX0_markFirst_24 : decode cX0_markFirst 24 = .ok (.bastore, 1) := by decide +kernel
theorem dX0_markFirst_25 : decode cX0_markFirst 25 = .ok (.iinc 1 1, 3) := by decide +kernel
theorem dX0_markFirst_28 : decode cX0_markFirst 28 = .ok (.goto (-26), 3) := by decide +kernel
theorem dX0_markFirst_31 : decode cX0_markFirst 31 = .ok (.return_, 1) := by decide +kernel
theorem dX0_markAhead_0 : decode cX0_markAhead 0 = .ok (.iconst 0, 1) := by decide +kernel
theorem dX0_markAhead_1 : decode cX0_markAhead 1 = .ok (.istore_n 2, 1) := by decide +kernel
theorem dX0_markAhead_2 : decode cX0_markAhead 2 = .ok (.iload_n 2, 1) := by decide +kernel
theorem dX0_markAhead_3 : decode cX0_markAhead 3 = .ok (.aload_n 0, 1) := by decide +kernel
theorem dX0_markAhead_4 : decode cX0_markAhead 4 = .ok (.getfield 28, 3) := by decide +kernel
theorem dX0_markAhead_7 : decode cX0_markAhead 7 = .ok (.if_icmp .ge 30, 3) := by decide +kernel
theorem dX0_markAhead_10 : decode cX0_markAhead 10 = .ok (.aload_n 0, 1) := by decide +kernel
theorem dX0_markAhead_11 : decode cX0_markAhead 11 = .ok (.getfield 24, 3) := by decide +kernel
theorem dX0_markAhead_14 : decode cX0_markAhead 14 = .ok (.iload_n 2, 1) := by decide +kernel
theorem dX0_markAhead_15 : decode cX0_markAhead 15 = .ok (.aload_n 0, 1) := by decide +kernel
theorem dX0_markAhead_16 : decode cX0_markAhead 16 = .ok (.getfield 9, 3) := by decide +kernel
theorem dX0_markAhead_19 : decode cX0_markAhead 19 = .ok (.iload_n 2, 1) := by decide +kernel
theorem dX0_markAhead_20 : decode cX0_markAhead 20 = .ok (.iaload, 1) := by decide +kernel
theorem dX0_markAhead_21 : decode cX0_markAhead 21 = .ok (.iload_n 1, 1) := by decide +kernel
theorem dX0_markAhead_22 : decode cX0_markAhead 22 = .ok (.if_icmp .ge 7, 3) := by decide +kernel
theorem dX0_markAhead_25 : decode cX0_markAhead 25 = .ok (.iconst 1, 1) := by decide +kernel
theorem dX0_markAhead_26 : decode cX0_markAhead 26 = .ok (.goto 4, 3) := by decide +kernel
theorem dX0_markAhead_29 : decode cX0_markAhead 29 = .ok (.iconst 0, 1) := by decide +kernel
theorem dX0_markAhead_30 : decode cX0_markAhead 30 = .ok (.bastore, 1) := by decide +kernel
theorem dX0_markAhead_31 : decode cX0_markAhead 31 = .ok (.iinc 2 1, 3) := by decide +kernel
theorem dX0_markAhead_34 : decode cX0_markAhead 34 = .ok (.goto (-32), 3) := by decide +kernel
theorem dX0_markAhead_37 : decode cX0_markAhead 37 = .ok (.return_, 1) := by decide +kernel
set_option maxRecDepth 20000 in
theorem ggX0_markCompacted_X0_latestPosition : GoodIn wsX0_markCompacted wsX0_latestPosition := goodIn_r _ [10, 2, 11, 12, 13, 14, 15, 16, 17, 18] (by decide +kernel) (by decide +kernel)
set_option maxRecDepth 20000 in
theorem gX0_markCompacted_X0_latestPosition : GoodIn wsX0_markCompacted (wsV RX0 35 RX0 yX0_latestPosition wsX0_latestPosition) := goodIn_app (goodIn_of _ (by decide +kernel)) ggX0_markCompacted_X0_latestPosition
theorem dX0_markCompacted_0 : decode cX0_markCompacted 0 = .ok (.iconst 0, 1) := by decide +kernel
theorem dX0_markCompacted_1 : decode cX0_markCompacted 1 = .ok (.istore_n 2, 1) := by decide +kernel
theorem dX0_markCompacted_2 : decode cX0_markCompacted 2 = .ok (.iload_n 2, 1) := by decide +kernel
theorem dX0_markCompacted_3 : decode cX0_markCompacted 3 = .ok (.aload_n 0, 1) := by decide +kernel
theorem dX0_markCompacted_4 : decode cX0_markCompacted 4 = .ok (.getfield 28, 3) := by decide +kernel
theorem dX0_markCompacted_7 : decode cX0_markCompacted 7 = .ok (.if_icmp .ge 82, 3) := by decide +kernel
theorem dX0_markCompacted_10 : decode cX0_markCompacted 10 = .ok (.aload_n 0, 1) := by decide +kernel
theorem dX0_markCompacted_11 : decode cX0_markCompacted 11 = .ok (.aload_n 0, 1) := by decide +kernel
theorem dX0_markCompacted_12 : decode cX0_markCompacted 12 = .ok (.getfield 15, 3) := by decide +kernel
theorem dX0_markCompacted_15 : decode cX0_markCompacted 15 = .ok (.iload_n 2, 1) := by decide +kernel
theorem dX0_markCompacted_16 : decode cX0_markCompacted 16 = .ok (.iaload, 1) := by decide +kernel
theorem dX0_markCompacted_17 : decode cX0_markCompacted 17 = .ok (.iload_n 2, 1) := by decide +kernel
theorem dX0_markCompacted_18 : decode cX0_markCompacted 18 = .ok (.iconst 1, 1) := by decide +kernel
theorem dX0_markCompacted_19 : decode cX0_markCompacted 19 = .ok (.iadd, 1) := by decide +kernel
theorem dX0_markCompacted_20 : decode cX0_markCompacted 20 = .ok (.aload_n 0, 1) := by decide +kernel
theorem dX0_markCompacted_21 : decode cX0_markCompacted 21 = .ok (.getfield 28, 3) := by decide +kernel
theorem dX0_markCompacted_24 : decode cX0_markCompacted 24 = .ok (.invokevirtual 35, 3) := by decide +kernel
theorem dX0_markCompacted_27 : decode cX0_markCompacted 27 = .ok (.iconst (-1), 1) := by decide +kernel
theorem dX0_markCompacted_28 : decode cX0_markCompacted 28 = .ok (.if_icmp .eq 7, 3) := by decide +kernel
theorem dX0_markCompacted_31 : decode cX0_markCompacted 31 = .ok (.iconst 1, 1) := by decide +kernel
theorem dX0_markCompacted_32 : decode cX0_markCompacted 32 = .ok (.goto 4, 3) := by decide +kernel
theorem dX0_markCompacted_35 : decode cX0_markCompacted 35 = .ok (.iconst 0, 1) := by decide +kernel
theorem dX0_markCompacted_36 : decode cX0_markCompacted 36 = .ok (.istore_n 3, 1) := by decide +kernel
theorem dX0_markCompacted_37 : decode cX0_markCompacted 37 = .ok (.aload_n 0, 1) := by decide +kernel
theorem dX0_markCompacted_38 : decode cX0_markCompacted 38 = .ok (.getfield 18, 3) := by decide +kernel
theorem dX0_markCompacted_41 : decode cX0_markCompacted 41 = .ok (.iload_n 2, 1) := by decide +kernel
theorem dX0_markCompacted_42 : decode cX0_markCompacted 42 = .ok (.iaload, 1) := by decide +kernel
theorem dX0_markCompacted_43 : decode cX0_markCompacted 43 = .ok (.ifCond .ne 17, 3) := by decide +kernel
theorem dX0_markCompacted_46 : decode cX0_markCompacted 46 = .ok (.aload_n 0, 1) := by decide +kernel
theorem dX0_markCompacted_47 : decode cX0_markCompacted 47 = .ok (.getfield 9, 3) := by decide +kernel
theorem dX0_markCompacted_50 : decode cX0_markCompacted 50 = .ok (.iload_n 2, 1) := by decide +kernel
theorem dX0_markCompacted_51 : decode cX0_markCompacted 51 = .ok (.iaload, 1) := by decide +kernel
theorem dX0_markCompacted_52 : decode cX0_markCompacted 52 = .ok (.iload_n 1, 1) := by decide +kernel
theorem dX0_markCompacted_53 : decode cX0_markCompacted 53 = .ok (.if_icmp .ge 7, 3) := by decide +kernel
theorem dX0_markCompacted_56 : decode cX0_markCompacted 56 = .ok (.iconst 1, 1) := by decide +kernel
theorem dX0_markCompacted_57 : decode cX0_markCompacted 57 = .ok (.goto 4, 3) := by decide +kernel
theorem dX0_markCompacted_60 : decode cX0_markCompacted 60 = .ok (.iconst 0, 1) := by decide +kernel
theorem dX0_markCompacted_61 : decode cX0_markCompacted 61 = .ok (.istore 4, 2) := by decide +kernel
theorem dX0_markCompacted_63 : decode cX0_markCompacted 63 = .ok (.aload_n 0, 1) := by decide +kernel
theorem dX0_markCompacted_64 : decode cX0_markCompacted 64 = .ok (.getfield 24, 3) := by decide +kernel
theorem dX0_markCompacted_67 : decode cX0_markCompacted 67 = .ok (.iload_n 2, 1) := by decide +kernel
theorem dX0_markCompacted_68 : decode cX0_markCompacted 68 = .ok (.iload_n 3, 1) := by decide +kernel
theorem dX0_markCompacted_69 : decode cX0_markCompacted 69 = .ok (.ifCond .ne 8, 3) := by decide +kernel
theorem dX0_markCompacted_72 : decode cX0_markCompacted 72 = .ok (.iload 4, 2) := by decide +kernel
theorem dX0_markCompacted_74 : decode cX0_markCompacted 74 = .ok (.ifCond .eq 7, 3) := by decide +kernel
theorem dX0_markCompacted_77 : decode cX0_markCompacted 77 = .ok (.iconst 1, 1) := by decide +kernel
theorem dX0_markCompacted_78 : decode cX0_markCompacted 78 = .ok (.goto 4, 3) := by decide +kernel
theorem dX0_markCompacted_81 : decode cX0_markCompacted 81 = .ok (.iconst 0, 1) := by decide +kernel
theorem dX0_markCompacted_82 : decode cX0_markCompacted 82 = .ok (.bastore, 1) := by decide +kernel
theorem dX0_markCompacted_83 : decode cX0_markCompacted 83 = .ok (.iinc 2 1, 3) := by decide +kernel
theorem dX0_markCompacted_86 : decode cX0_markCompacted 86 = .ok (.goto (-84), 3) := by decide +kernel
theorem dX0_markCompacted_89 : decode cX0_markCompacted 89 = .ok (.return_, 1) := by decide +kernel
set_option maxRecDepth 20000 in
theorem ggX0_countMarked_X0_countMarkedFrom : GoodIn wsX0_countMarked wsX0_countMarkedFrom := goodIn_r _ [5, 6, 7, 8, 9, 10, 4, 11, 12, 13, 14, 15, 16, 17, 18, 19, 20] (by decide +kernel) (by decide +kernel)
set_option maxRecDepth 20000 in
theorem gX0_countMarked_X0_countMarkedFrom : GoodIn wsX0_countMarked (wsV RX0 39 RX0 yX0_countMarkedFrom wsX0_countMarkedFrom) := goodIn_app (goodIn_of _ (by decide +kernel)) ggX0_countMarked_X0_countMarkedFrom
theorem dX0_countMarked_0 : decode cX0_countMarked 0 = .ok (.aload_n 0, 1) := by decide +kernel
theorem dX0_countMarked_1 : decode cX0_countMarked 1 = .ok (.iconst 0, 1) := by decide +kernel
theorem dX0_countMarked_2 : decode cX0_countMarked 2 = .ok (.invokevirtual 39, 3) := by decide +kernel
theorem dX0_countMarked_5 : decode cX0_countMarked 5 = .ok (.ireturn, 1) := by decide +kernel
set_option maxRecDepth 20000 in
theorem ggX0_countMarkedFrom_X0_positionFrom : GoodIn wsX0_countMarkedFrom wsX0_positionFrom := goodIn_r _ [7, 1, 8, 9, 10, 11, 12, 13, 14, 15, 16] (by decide +kernel) (by decide +kernel)
set_option maxRecDepth 20000 in
theorem gX0_countMarkedFrom_X0_positionFrom : GoodIn wsX0_countMarkedFrom (wsV RX0 43 RX0 yX0_positionFrom wsX0_positionFrom) := goodIn_app (goodIn_of _ (by decide +kernel)) ggX0_countMarkedFrom_X0_positionFrom
theorem dX0_countMarkedFrom_0 : decode cX0_countMarkedFrom 0 = .ok (.iconst 0, 1) := by decide +kernel
theorem dX0_countMarkedFrom_1 : decode cX0_countMarkedFrom 1 = .ok (.istore_n 2, 1) := by decide +kernel
theorem dX0_countMarkedFrom_2 : decode cX0_countMarkedFrom 2 = .ok (.aload_n 0, 1) := by decide +kernel
theorem dX0_countMarkedFrom_3 : decode cX0_countMarkedFrom 3 = .ok (.iload_n 1, 1) := by decide +kernel
theorem dX0_countMarkedFrom_4 : decode cX0_countMarkedFrom 4 = .ok (.invokevirtual 43, 3) := by decide +kernel
theorem dX0_countMarkedFrom_7 : decode cX0_countMarkedFrom 7 = .ok (.istore_n 3, 1) := by decide +kernel
theorem dX0_countMarkedFrom_8 : decode cX0_countMarkedFrom 8 = .ok (.iload_n 3, 1) := by decide +kernel
theorem dX0_countMarkedFrom_9 : decode cX0_countMarkedFrom 9 = .ok (.aload_n 0, 1) := by decide +kernel
theorem dX0_countMarkedFrom_10 : decode cX0_countMarkedFrom 10 = .ok (.getfield 28, 3) := by decide +kernel
theorem dX0_countMarkedFrom_13 : decode cX0_countMarkedFrom 13 = .ok (.if_icmp .ge 21, 3) := by decide +kernel
theorem dX0_countMarkedFrom_16 : decode cX0_countMarkedFrom 16 = .ok (.aload_n 0, 1) := by decide +kernel
theorem dX0_countMarkedFrom_17 : decode cX0_countMarkedFrom 17 = .ok (.getfield 24, 3) := by decide +kernel
theorem dX0_countMarkedFrom_20 : decode cX0_countMarkedFrom 20 = .ok (.iload_n 3, 1) := by decide +kernel
theorem dX0_countMarkedFrom_21 : decode cX0_countMarkedFrom 21 = .ok (.baload, 1) := by decide +kernel
theorem dX0_countMarkedFrom_22 : decode cX0_countMarkedFrom 22 = .ok (.ifCond .eq 6, 3) := by decide +kernel
theorem dX0_countMarkedFrom_25 : decode cX0_countMarkedFrom 25 = .ok (.iinc 2 1, 3) := by decide +kernel
theorem dX0_countMarkedFrom_28 : decode cX0_countMarkedFrom 28 = .ok (.iinc 3 1, 3) := by decide +kernel
theorem dX0_countMarkedFrom_31 : decode cX0_countMarkedFrom 31 = .ok (.goto (-23), 3) := by decide +kernel
theorem dX0_countMarkedFrom_34 : decode cX0_countMarkedFrom 34 = .ok (.iload_n 2, 1) := by decide +kernel
theorem dX0_countMarkedFrom_35 : decode cX0_countMarkedFrom 35 = .ok (.ireturn, 1) := by decide +kernel
theorem dX0_removeMarked_0 : decode cX0_removeMarked 0 = .ok (.iconst 0, 1) := by decide +kernel
theorem dX0_removeMarked_1 : decode cX0_removeMarked 1 = .ok (.istore_n 1, 1) := by decide +kernel
theorem dX0_removeMarked_2 : decode cX0_removeMarked 2 = .ok (.iconst 0, 1) := by decide +kernel
theorem dX0_removeMarked_3 : decode cX0_removeMarked 3 = .ok (.istore_n 2, 1) := by decide +kernel
theorem dX0_removeMarked_4 : decode cX0_removeMarked 4 = .ok (.iload_n 2, 1) := by decide +kernel
theorem dX0_removeMarked_5 : decode cX0_removeMarked 5 = .ok (.aload_n 0, 1) := by decide +kernel
theorem dX0_removeMarked_6 : decode cX0_removeMarked 6 = .ok (.getfield 28, 3) := by decide +kernel
theorem dX0_removeMarked_9 : decode cX0_removeMarked 9 = .ok (.if_icmp .ge 69, 3) := by decide +kernel
theorem dX0_removeMarked_12 : decode cX0_removeMarked 12 = .ok (.aload_n 0, 1) := by decide +kernel
theorem dX0_removeMarked_13 : decode cX0_removeMarked 13 = .ok (.getfield 24, 3) := by decide +kernel
theorem dX0_removeMarked_16 : decode cX0_removeMarked 16 = .ok (.iload_n 2, 1) := by decide +kernel
theorem dX0_removeMarked_17 : decode cX0_removeMarked 17 = .ok (.baload, 1) := by decide +kernel
theorem dX0_removeMarked_18 : decode cX0_removeMarked 18 = .ok (.ifCond .ne 54, 3) := by decide +kernel
theorem dX0_removeMarked_21 : decode cX0_removeMarked 21 = .ok (.aload_n 0, 1) := by decide +kernel
theorem dX0_removeMarked_22 : decode cX0_removeMarked 22 = .ok (.getfield 9, 3) := by decide +kernel
theorem dX0_removeMarked_25 : decode cX0_removeMarked 25 = .ok (.iload_n 1, 1) := by decide +kernel
theorem dX0_removeMarked_26 : decode cX0_removeMarked 26 = .ok (.aload_n 0, 1) := by decide +kernel
theorem dX0_removeMarked_27 : decode cX0_removeMarked 27 = .ok (.getfield 9, 3) := by decide +kernel
theorem dX0_removeMarked_30 : decode cX0_removeMarked 30 = .ok (.iload_n 2, 1) := by decide +kernel
theorem dX0_removeMarked_31 : decode cX0_removeMarked 31 = .ok (.iaload, 1) := by decide +kernel
theorem dX0_removeMarked_32 : decode cX0_removeMarked 32 = .ok (.iastore, 1) := by decide +kernel
theorem dX0_removeMarked_33 : decode cX0_removeMarked 33 = .ok (.aload_n 0, 1) := by decide +kernel
theorem dX0_removeMarked_34 : decode cX0_removeMarked 34 = .ok (.getfield 15, 3) := by decide +kernel
theorem dX0_removeMarked_37 : decode cX0_removeMarked 37 = .ok (.iload_n 1, 1) := by decide +kernel
theorem dX0_removeMarked_38 : decode cX0_removeMarked 38 = .ok (.aload_n 0, 1) := by decide +kernel
theorem dX0_removeMarked_39 : decode cX0_removeMarked 39 = .ok (.getfield 15, 3) := by decide +kernel
theorem dX0_removeMarked_42 : decode cX0_removeMarked 42 = .ok (.iload_n 2, 1) := by decide +kernel
theorem dX0_removeMarked_43 : decode cX0_removeMarked 43 = .ok (.iaload, 1) := by decide +kernel
theorem dX0_removeMarked_44 : decode cX0_removeMarked 44 = .ok (.iastore, 1) := by decide +kernel
theorem dX0_removeMarked_45 : decode cX0_removeMarked 45 = .ok (.aload_n 0, 1) := by decide +kernel
theorem dX0_removeMarked_46 : decode cX0_removeMarked 46 = .ok (.getfield 18, 3) := by decide +kernel
theorem dX0_removeMarked_49 : decode cX0_removeMarked 49 = .ok (.iload_n 1, 1) := by decide +kernel
theorem dX0_removeMarked_50 : decode cX0_removeMarked 50 = .ok (.aload_n 0, 1) := by decide +kernel
theorem dX0_removeMarked_51 : decode cX0_removeMarked 51 = .ok (.getfield 18, 3) := by decide +kernel
theorem dX0_removeMarked_54 : decode cX0_removeMarked 54 = .ok (.iload_n 2, 1) := by decide +kernel
theorem dX0_removeMarked_55 : decode cX0_removeMarked 55 = .ok (.iaload, 1) := by decide +kernel
theorem dX0_removeMarked_56 : decode cX0_removeMarked 56 = .ok (.iastore, 1) := by decide +kernel
theorem dX0_removeMarked_57 : decode cX0_removeMarked 57 = .ok (.aload_n 0, 1) := by decide +kernel
theorem dX0_removeMarked_58 : decode cX0_removeMarked 58 = .ok (.getfield 21, 3) := by decide +kernel
theorem dX0_removeMarked_61 : decode cX0_removeMarked 61 = .ok (.iload_n 1, 1) := by decide +kernel
theorem dX0_removeMarked_62 : decode cX0_removeMarked 62 = .ok (.aload_n 0, 1) := by decide +kernel
theorem dX0_removeMarked_63 : decode cX0_removeMarked 63 = .ok (.getfield 21, 3) := by decide +kernel
theorem dX0_removeMarked_66 : decode cX0_removeMarked 66 = .ok (.iload_n 2, 1) := by decide +kernel
theorem dX0_removeMarked_67 : decode cX0_removeMarked 67 = .ok (.iaload, 1) := by decide +kernel
theorem dX0_removeMarked_68 : decode cX0_removeMarked 68 = .ok (.iastore, 1) := by decide +kernel
theorem dX0_removeMarked_69 : decode cX0_removeMarked 69 = .ok (.iinc 1 1, 3) := by decide +kernel
theorem dX0_removeMarked_72 : decode cX0_removeMarked 72 = .ok (.iinc 2 1, 3) := by decide +kernel
theorem dX0_removeMarked_75 : decode cX0_removeMarked 75 = .ok (.goto (-71), 3) := by decide +kernel
theorem dX0_removeMarked_78 : decode cX0_removeMarked 78 = .ok (.aload_n 0, 1) := by decide +kernel
theorem dX0_removeMarked_79 : decode cX0_removeMarked 79 = .ok (.getfield 28, 3) := by decide +kernel
theorem dX0_removeMarked_82 : decode cX0_removeMarked 82 = .ok (.iload_n 1, 1) := by decide +kernel
theorem dX0_removeMarked_83 : decode cX0_removeMarked 83 = .ok (.isub, 1) := by decide +kernel
theorem dX0_removeMarked_84 : decode cX0_removeMarked 84 = .ok (.istore_n 2, 1) := by decide +kernel
theorem dX0_removeMarked_85 : decode cX0_removeMarked 85 = .ok (.aload_n 0, 1) := by decide +kernel
theorem dX0_removeMarked_86 : decode cX0_removeMarked 86 = .ok (.iload_n 1, 1) := by decide +kernel
theorem dX0_removeMarked_87 : decode cX0_removeMarked 87 = .ok (.putfield 28, 3) := by decide +kernel
theorem dX0_removeMarked_90 : decode cX0_removeMarked 90 = .ok (.aload_n 0, 1) := by decide +kernel
theorem dX0_removeMarked_91 : decode cX0_removeMarked 91 = .ok (.dup, 1) := by decide +kernel
theorem dX0_removeMarked_92 : decode cX0_removeMarked 92 = .ok (.getfield 46, 3) := by decide +kernel
theorem dX0_removeMarked_95 : decode cX0_removeMarked 95 = .ok (.iload_n 2, 1) := by decide +kernel
theorem dX0_removeMarked_96 : decode cX0_removeMarked 96 = .ok (.iadd, 1) := by decide +kernel
theorem dX0_removeMarked_97 : decode cX0_removeMarked 97 = .ok (.putfield 46, 3) := by decide +kernel
theorem dX0_removeMarked_100 : decode cX0_removeMarked 100 = .ok (.iload_n 2, 1) := by decide +kernel
theorem dX0_removeMarked_101 : decode cX0_removeMarked 101 = .ok (.ireturn, 1) := by decide +kernel
theorem dX0_positionFrom_0 : decode cX0_positionFrom 0 = .ok (.iconst 0, 1) := by decide +kernel
theorem dX0_positionFrom_1 : decode cX0_positionFrom 1 = .ok (.istore_n 2, 1) := by decide +kernel
theorem dX0_positionFrom_2 : decode cX0_positionFrom 2 = .ok (.iload_n 2, 1) := by decide +kernel
theorem dX0_positionFrom_3 : decode cX0_positionFrom 3 = .ok (.aload_n 0, 1) := by decide +kernel
theorem dX0_positionFrom_4 : decode cX0_positionFrom 4 = .ok (.getfield 28, 3) := by decide +kernel
theorem dX0_positionFrom_7 : decode cX0_positionFrom 7 = .ok (.if_icmp .ge 19, 3) := by decide +kernel
theorem dX0_positionFrom_10 : decode cX0_positionFrom 10 = .ok (.aload_n 0, 1) := by decide +kernel
theorem dX0_positionFrom_11 : decode cX0_positionFrom 11 = .ok (.getfield 9, 3) := by decide +kernel
theorem dX0_positionFrom_14 : decode cX0_positionFrom 14 = .ok (.iload_n 2, 1) := by decide +kernel
theorem dX0_positionFrom_15 : decode cX0_positionFrom 15 = .ok (.iaload, 1) := by decide +kernel
theorem dX0_positionFrom_16 : decode cX0_positionFrom 16 = .ok (.iload_n 1, 1) := by decide +kernel
theorem dX0_positionFrom_17 : decode cX0_positionFrom 17 = .ok (.if_icmp .ge 9, 3) := by decide +kernel
theorem dX0_positionFrom_20 : decode cX0_positionFrom 20 = .ok (.iinc 2 1, 3) := by decide +kernel
theorem dX0_positionFrom_23 : decode cX0_positionFrom 23 = .ok (.goto (-21), 3) := by decide +kernel
theorem dX0_positionFrom_26 : decode cX0_positionFrom 26 = .ok (.iload_n 2, 1) := by decide +kernel
theorem dX0_positionFrom_27 : decode cX0_positionFrom 27 = .ok (.ireturn, 1) := by decide +kernel
set_option maxRecDepth 20000 in
theorem ggX0_positionOf_X0_positionFrom : GoodIn wsX0_positionOf wsX0_positionFrom := goodIn_r _ [7, 1, 2, 8, 9, 10, 11, 12, 13, 14, 15] (by decide +kernel) (by decide +kernel)
set_option maxRecDepth 20000 in
theorem gX0_positionOf_X0_positionFrom : GoodIn wsX0_positionOf (wsV RX0 43 RX0 yX0_positionFrom wsX0_positionFrom) := goodIn_app (goodIn_of _ (by decide +kernel)) ggX0_positionOf_X0_positionFrom
theorem dX0_positionOf_0 : decode cX0_positionOf 0 = .ok (.aload_n 0, 1) := by decide +kernel
theorem dX0_positionOf_1 : decode cX0_positionOf 1 = .ok (.iload_n 1, 1) := by decide +kernel
theorem dX0_positionOf_2 : decode cX0_positionOf 2 = .ok (.invokevirtual 43, 3) := by decide +kernel
theorem dX0_positionOf_5 : decode cX0_positionOf 5 = .ok (.istore_n 2, 1) := by decide +kernel
theorem dX0_positionOf_6 : decode cX0_positionOf 6 = .ok (.iload_n 2, 1) := by decide +kernel
theorem dX0_positionOf_7 : decode cX0_positionOf 7 = .ok (.aload_n 0, 1) := by decide +kernel
theorem dX0_positionOf_8 : decode cX0_positionOf 8 = .ok (.getfield 28, 3) := by decide +kernel
theorem dX0_positionOf_11 : decode cX0_positionOf 11 = .ok (.if_icmp .ge 17, 3) := by decide +kernel
theorem dX0_positionOf_14 : decode cX0_positionOf 14 = .ok (.aload_n 0, 1) := by decide +kernel
theorem dX0_positionOf_15 : decode cX0_positionOf 15 = .ok (.getfield 9, 3) := by decide +kernel
theorem dX0_positionOf_18 : decode cX0_positionOf 18 = .ok (.iload_n 2, 1) := by decide +kernel
theorem dX0_positionOf_19 : decode cX0_positionOf 19 = .ok (.iaload, 1) := by decide +kernel
theorem dX0_positionOf_20 : decode cX0_positionOf 20 = .ok (.iload_n 1, 1) := by decide +kernel
theorem dX0_positionOf_21 : decode cX0_positionOf 21 = .ok (.if_icmp .ne 7, 3) := by decide +kernel
theorem dX0_positionOf_24 : decode cX0_positionOf 24 = .ok (.iload_n 2, 1) := by decide +kernel
theorem dX0_positionOf_25 : decode cX0_positionOf 25 = .ok (.goto 4, 3) := by decide +kernel
theorem dX0_positionOf_28 : decode cX0_positionOf 28 = .ok (.iconst (-1), 1) := by decide +kernel
theorem dX0_positionOf_29 : decode cX0_positionOf 29 = .ok (.ireturn, 1) := by decide +kernel
theorem dX0_latestPosition_0 : decode cX0_latestPosition 0 = .ok (.iload_n 3, 1) := by decide +kernel
theorem dX0_latestPosition_1 : decode cX0_latestPosition 1 = .ok (.iconst 1, 1) := by decide +kernel
theorem dX0_latestPosition_2 : decode cX0_latestPosition 2 = .ok (.isub, 1) := by decide +kernel
theorem dX0_latestPosition_3 : decode cX0_latestPosition 3 = .ok (.istore 4, 2) := by decide +kernel
theorem dX0_latestPosition_5 : decode cX0_latestPosition 5 = .ok (.iload 4, 2) := by decide +kernel
theorem dX0_latestPosition_7 : decode cX0_latestPosition 7 = .ok (.iload_n 2, 1) := by decide +kernel
theorem dX0_latestPosition_8 : decode cX0_latestPosition 8 = .ok (.if_icmp .lt 23, 3) := by decide +kernel
theorem dX0_latestPosition_11 : decode cX0_latestPosition 11 = .ok (.aload_n 0, 1) := by decide +kernel
theorem dX0_latestPosition_12 : decode cX0_latestPosition 12 = .ok (.getfield 15, 3) := by decide +kernel
theorem dX0_latestPosition_15 : decode cX0_latestPosition 15 = .ok (.iload 4, 2) := by decide +kernel
theorem dX0_latestPosition_17 : decode cX0_latestPosition 17 = .ok (.iaload, 1) := by decide +kernel
theorem dX0_latestPosition_18 : decode cX0_latestPosition 18 = .ok (.iload_n 1, 1) := by decide +kernel
theorem dX0_latestPosition_19 : decode cX0_latestPosition 19 = .ok (.if_icmp .ne 6, 3) := by decide +kernel
theorem dX0_latestPosition_22 : decode cX0_latestPosition 22 = .ok (.iload 4, 2) := by decide +kernel
theorem dX0_latestPosition_24 : decode cX0_latestPosition 24 = .ok (.ireturn, 1) := by decide +kernel
theorem dX0_latestPosition_25 : decode cX0_latestPosition 25 = .ok (.iinc 4 (-1), 3) := by decide +kernel
theorem dX0_latestPosition_28 : decode cX0_latestPosition 28 = .ok (.goto (-23), 3) := by decide +kernel
theorem dX0_latestPosition_31 : decode cX0_latestPosition 31 = .ok (.iconst (-1), 1) := by decide +kernel
theorem dX0_latestPosition_32 : decode cX0_latestPosition 32 = .ok (.ireturn, 1) := by decide +kernel
set_option maxRecDepth 20000 in
theorem ggX0_latestOffset_X0_latestPosition : GoodIn wsX0_latestOffset wsX0_latestPosition := goodIn_r _ [7, 8, 9, 10, 11, 12, 13, 14, 15, 16] (by decide +kernel) (by decide +kernel)
set_option maxRecDepth 20000 in
theorem gX0_latestOffset_X0_latestPosition : GoodIn wsX0_latestOffset (wsV RX0 35 RX0 yX0_latestPosition wsX0_latestPosition) := goodIn_app (goodIn_of _ (by decide +kernel)) ggX0_latestOffset_X0_latestPosition
theorem dX0_latestOffset_0 : decode cX0_latestOffset 0 = .ok (.aload_n 0, 1) := by decide +kernel
theorem dX0_latestOffset_1 : decode cX0_latestOffset 1 = .ok (.iload_n 1, 1) := by decide +kernel
theorem dX0_latestOffset_2 : decode cX0_latestOffset 2 = .ok (.iconst 0, 1) := by decide +kernel
theorem dX0_latestOffset_3 : decode cX0_latestOffset 3 = .ok (.aload_n 0, 1) := by decide +kernel
theorem dX0_latestOffset_4 : decode cX0_latestOffset 4 = .ok (.getfield 28, 3) := by decide +kernel
theorem dX0_latestOffset_7 : decode cX0_latestOffset 7 = .ok (.invokevirtual 35, 3) := by decide +kernel
theorem dX0_latestOffset_10 : decode cX0_latestOffset 10 = .ok (.istore_n 2, 1) := by decide +kernel
theorem dX0_latestOffset_11 : decode cX0_latestOffset 11 = .ok (.iload_n 2, 1) := by decide +kernel
theorem dX0_latestOffset_12 : decode cX0_latestOffset 12 = .ok (.iconst (-1), 1) := by decide +kernel
theorem dX0_latestOffset_13 : decode cX0_latestOffset 13 = .ok (.if_icmp .ne 7, 3) := by decide +kernel
theorem dX0_latestOffset_16 : decode cX0_latestOffset 16 = .ok (.iconst (-1), 1) := by decide +kernel
theorem dX0_latestOffset_17 : decode cX0_latestOffset 17 = .ok (.goto 9, 3) := by decide +kernel
theorem dX0_latestOffset_20 : decode cX0_latestOffset 20 = .ok (.aload_n 0, 1) := by decide +kernel
theorem dX0_latestOffset_21 : decode cX0_latestOffset 21 = .ok (.getfield 9, 3) := by decide +kernel
theorem dX0_latestOffset_24 : decode cX0_latestOffset 24 = .ok (.iload_n 2, 1) := by decide +kernel
theorem dX0_latestOffset_25 : decode cX0_latestOffset 25 = .ok (.iaload, 1) := by decide +kernel
theorem dX0_latestOffset_26 : decode cX0_latestOffset 26 = .ok (.ireturn, 1) := by decide +kernel
set_option maxRecDepth 20000 in
theorem ggX0_latestValue_X0_latestPosition : GoodIn wsX0_latestValue wsX0_latestPosition := goodIn_r _ [7, 8, 9, 10, 11, 12, 13, 14, 15, 16] (by decide +kernel) (by decide +kernel)
set_option maxRecDepth 20000 in
theorem gX0_latestValue_X0_latestPosition : GoodIn wsX0_latestValue (wsV RX0 35 RX0 yX0_latestPosition wsX0_latestPosition) := goodIn_app (goodIn_of _ (by decide +kernel)) ggX0_latestValue_X0_latestPosition
theorem dX0_latestValue_0 : decode cX0_latestValue 0 = .ok (.aload_n 0, 1) := by decide +kernel
theorem dX0_latestValue_1 : decode cX0_latestValue 1 = .ok (.iload_n 1, 1) := by decide +kernel
theorem dX0_latestValue_2 : decode cX0_latestValue 2 = .ok (.iconst 0, 1) := by decide +kernel
theorem dX0_latestValue_3 : decode cX0_latestValue 3 = .ok (.aload_n 0, 1) := by decide +kernel
theorem dX0_latestValue_4 : decode cX0_latestValue 4 = .ok (.getfield 28, 3) := by decide +kernel
theorem dX0_latestValue_7 : decode cX0_latestValue 7 = .ok (.invokevirtual 35, 3) := by decide +kernel
theorem dX0_latestValue_10 : decode cX0_latestValue 10 = .ok (.istore_n 2, 1) := by decide +kernel
theorem dX0_latestValue_11 : decode cX0_latestValue 11 = .ok (.iload_n 2, 1) := by decide +kernel
theorem dX0_latestValue_12 : decode cX0_latestValue 12 = .ok (.iconst (-1), 1) := by decide +kernel
theorem dX0_latestValue_13 : decode cX0_latestValue 13 = .ok (.if_icmp .ne 7, 3) := by decide +kernel
theorem dX0_latestValue_16 : decode cX0_latestValue 16 = .ok (.iconst 0, 1) := by decide +kernel
theorem dX0_latestValue_17 : decode cX0_latestValue 17 = .ok (.goto 9, 3) := by decide +kernel
theorem dX0_latestValue_20 : decode cX0_latestValue 20 = .ok (.aload_n 0, 1) := by decide +kernel
theorem dX0_latestValue_21 : decode cX0_latestValue 21 = .ok (.getfield 18, 3) := by decide +kernel
theorem dX0_latestValue_24 : decode cX0_latestValue 24 = .ok (.iload_n 2, 1) := by decide +kernel
theorem dX0_latestValue_25 : decode cX0_latestValue 25 = .ok (.iaload, 1) := by decide +kernel
theorem dX0_latestValue_26 : decode cX0_latestValue 26 = .ok (.ireturn, 1) := by decide +kernel
set_option maxRecDepth 20000 in
theorem ggX0_countKey_X0_countEqual : GoodIn wsX0_countKey wsX0_countEqual := goodIn_r _ [6, 7, 8, 9, 10, 11, 12, 13, 14, 15] (by decide +kernel) (by decide +kernel)
set_option maxRecDepth 20000 in
theorem gX0_countKey_X0_countEqual : GoodIn wsX0_countKey (wsV RX0 49 RX0 yX0_countEqual wsX0_countEqual) := goodIn_app (goodIn_of _ (by decide +kernel)) ggX0_countKey_X0_countEqual
theorem dX0_countKey_0 : decode cX0_countKey 0 = .ok (.aload_n 0, 1) := by decide +kernel
theorem dX0_countKey_1 : decode cX0_countKey 1 = .ok (.aload_n 0, 1) := by decide +kernel
theorem dX0_countKey_2 : decode cX0_countKey 2 = .ok (.getfield 15, 3) := by decide +kernel
theorem dX0_countKey_5 : decode cX0_countKey 5 = .ok (.iload_n 1, 1) := by decide +kernel
theorem dX0_countKey_6 : decode cX0_countKey 6 = .ok (.invokevirtual 49, 3) := by decide +kernel
theorem dX0_countKey_9 : decode cX0_countKey 9 = .ok (.ireturn, 1) := by decide +kernel
set_option maxRecDepth 20000 in
theorem ggX0_countStorm_X0_countEqual : GoodIn wsX0_countStorm wsX0_countEqual := goodIn_r _ [6, 7, 8, 9, 10, 11, 12, 13, 14, 15] (by decide +kernel) (by decide +kernel)
set_option maxRecDepth 20000 in
theorem gX0_countStorm_X0_countEqual : GoodIn wsX0_countStorm (wsV RX0 49 RX0 yX0_countEqual wsX0_countEqual) := goodIn_app (goodIn_of _ (by decide +kernel)) ggX0_countStorm_X0_countEqual
theorem dX0_countStorm_0 : decode cX0_countStorm 0 = .ok (.aload_n 0, 1) := by decide +kernel
theorem dX0_countStorm_1 : decode cX0_countStorm 1 = .ok (.aload_n 0, 1) := by decide +kernel
theorem dX0_countStorm_2 : decode cX0_countStorm 2 = .ok (.getfield 21, 3) := by decide +kernel
theorem dX0_countStorm_5 : decode cX0_countStorm 5 = .ok (.iload_n 1, 1) := by decide +kernel
theorem dX0_countStorm_6 : decode cX0_countStorm 6 = .ok (.invokevirtual 49, 3) := by decide +kernel
theorem dX0_countStorm_9 : decode cX0_countStorm 9 = .ok (.ireturn, 1) := by decide +kernel
theorem dX0_countEqual_0 : decode cX0_countEqual 0 = .ok (.iconst 0, 1) := by decide +kernel
theorem dX0_countEqual_1 : decode cX0_countEqual 1 = .ok (.istore_n 3, 1) := by decide +kernel
theorem dX0_countEqual_2 : decode cX0_countEqual 2 = .ok (.iconst 0, 1) := by decide +kernel
theorem dX0_countEqual_3 : decode cX0_countEqual 3 = .ok (.istore 4, 2) := by decide +kernel
theorem dX0_countEqual_5 : decode cX0_countEqual 5 = .ok (.iload 4, 2) := by decide +kernel
theorem dX0_countEqual_7 : decode cX0_countEqual 7 = .ok (.aload_n 0, 1) := by decide +kernel
theorem dX0_countEqual_8 : decode cX0_countEqual 8 = .ok (.getfield 28, 3) := by decide +kernel
theorem dX0_countEqual_11 : decode cX0_countEqual 11 = .ok (.if_icmp .ge 20, 3) := by decide +kernel
theorem dX0_countEqual_14 : decode cX0_countEqual 14 = .ok (.aload_n 1, 1) := by decide +kernel
theorem dX0_countEqual_15 : decode cX0_countEqual 15 = .ok (.iload 4, 2) := by decide +kernel
theorem dX0_countEqual_17 : decode cX0_countEqual 17 = .ok (.iaload, 1) := by decide +kernel
theorem dX0_countEqual_18 : decode cX0_countEqual 18 = .ok (.iload_n 2, 1) := by decide +kernel
theorem dX0_countEqual_19 : decode cX0_countEqual 19 = .ok (.if_icmp .ne 6, 3) := by decide +kernel
theorem dX0_countEqual_22 : decode cX0_countEqual 22 = .ok (.iinc 3 1, 3) := by decide +kernel
theorem dX0_countEqual_25 : decode cX0_countEqual 25 = .ok (.iinc 4 1, 3) := by decide +kernel
theorem dX0_countEqual_28 : decode cX0_countEqual 28 = .ok (.goto (-23), 3) := by decide +kernel
theorem dX0_countEqual_31 : decode cX0_countEqual 31 = .ok (.iload_n 3, 1) := by decide +kernel
theorem dX0_countEqual_32 : decode cX0_countEqual 32 = .ok (.ireturn, 1) := by decide +kernel
theorem dX0_copyStorm_0 : decode cX0_copyStorm 0 = .ok (.iconst 0, 1) := by decide +kernel
theorem dX0_copyStorm_1 : decode cX0_copyStorm 1 = .ok (.istore 4, 2) := by decide +kernel
theorem dX0_copyStorm_3 : decode cX0_copyStorm 3 = .ok (.iconst 0, 1) := by decide +kernel
theorem dX0_copyStorm_4 : decode cX0_copyStorm 4 = .ok (.istore 5, 2) := by decide +kernel
theorem dX0_copyStorm_6 : decode cX0_copyStorm 6 = .ok (.iload 5, 2) := by decide +kernel
theorem dX0_copyStorm_8 : decode cX0_copyStorm 8 = .ok (.aload_n 0, 1) := by decide +kernel
theorem dX0_copyStorm_9 : decode cX0_copyStorm 9 = .ok (.getfield 28, 3) := by decide +kernel
theorem dX0_copyStorm_12 : decode cX0_copyStorm 12 = .ok (.if_icmp .ge 45, 3) := by decide +kernel
theorem dX0_copyStorm_15 : decode cX0_copyStorm 15 = .ok (.aload_n 0, 1) := by decide +kernel
theorem dX0_copyStorm_16 : decode cX0_copyStorm 16 = .ok (.getfield 21, 3) := by decide +kernel
theorem dX0_copyStorm_19 : decode cX0_copyStorm 19 = .ok (.iload 5, 2) := by decide +kernel
theorem dX0_copyStorm_21 : decode cX0_copyStorm 21 = .ok (.iaload, 1) := by decide +kernel
theorem dX0_copyStorm_22 : decode cX0_copyStorm 22 = .ok (.iload_n 1, 1) := by decide +kernel
theorem dX0_copyStorm_23 : decode cX0_copyStorm 23 = .ok (.if_icmp .ne 28, 3) := by decide +kernel
theorem dX0_copyStorm_26 : decode cX0_copyStorm 26 = .ok (.aload_n 2, 1) := by decide +kernel
theorem dX0_copyStorm_27 : decode cX0_copyStorm 27 = .ok (.iload 4, 2) := by decide +kernel
theorem dX0_copyStorm_29 : decode cX0_copyStorm 29 = .ok (.aload_n 0, 1) := by decide +kernel
theorem dX0_copyStorm_30 : decode cX0_copyStorm 30 = .ok (.getfield 15, 3) := by decide +kernel
theorem dX0_copyStorm_33 : decode cX0_copyStorm 33 = .ok (.iload 5, 2) := by decide +kernel
theorem dX0_copyStorm_35 : decode cX0_copyStorm 35 = .ok (.iaload, 1) := by decide +kernel
theorem dX0_copyStorm_36 : decode cX0_copyStorm 36 = .ok (.iastore, 1) := by decide +kernel
theorem dX0_copyStorm_37 : decode cX0_copyStorm 37 = .ok (.aload_n 3, 1) := by decide +kernel
theorem dX0_copyStorm_38 : decode cX0_copyStorm 38 = .ok (.iload 4, 2) := by decide +kernel
theorem dX0_copyStorm_40 : decode cX0_copyStorm 40 = .ok (.aload_n 0, 1) := by decide +kernel
theorem dX0_copyStorm_41 : decode cX0_copyStorm 41 = .ok (.getfield 18, 3) := by decide +kernel
theorem dX0_copyStorm_44 : decode cX0_copyStorm 44 = .ok (.iload 5, 2) := by decide +kernel
theorem dX0_copyStorm_46 : decode cX0_copyStorm 46 = .ok (.iaload, 1) := by decide +kernel
theorem dX0_copyStorm_47 : decode cX0_copyStorm 47 = .ok (.iastore, 1) := by decide +kernel
theorem dX0_copyStorm_48 : decode cX0_copyStorm 48 = .ok (.iinc 4 1, 3) := by decide +kernel
theorem dX0_copyStorm_51 : decode cX0_copyStorm 51 = .ok (.iinc 5 1, 3) := by decide +kernel
theorem dX0_copyStorm_54 : decode cX0_copyStorm 54 = .ok (.goto (-48), 3) := by decide +kernel
theorem dX0_copyStorm_57 : decode cX0_copyStorm 57 = .ok (.iload 4, 2) := by decide +kernel
theorem dX0_copyStorm_59 : decode cX0_copyStorm 59 = .ok (.ireturn, 1) := by decide +kernel
theorem dX1_init_0 : decode cX1_init 0 = .ok (.aload_n 0, 1) := by decide +kernel
theorem dX1_init_1 : decode cX1_init 1 = .ok (.invokespecial 3, 3) := by decide +kernel
theorem dX1_init_4 : decode cX1_init 4 = .ok (.aload_n 0, 1) := by decide +kernel
theorem dX1_init_5 : decode cX1_init 5 = .ok (.bipush 10, 2) := by decide +kernel
theorem dX1_init_7 : decode cX1_init 7 = .ok (.newarray .int, 2) := by decide +kernel
theorem dX1_init_9 : decode cX1_init 9 = .ok (.putfield 9, 3) := by decide +kernel
theorem dX1_init_12 : decode cX1_init 12 = .ok (.return_, 1) := by decide +kernel
theorem dX1_hear_0 : decode cX1_hear 0 = .ok (.aload_n 0, 1) := by decide +kernel
theorem dX1_hear_1 : decode cX1_hear 1 = .ok (.getfield 9, 3) := by decide +kernel
theorem dX1_hear_4 : decode cX1_hear 4 = .ok (.iload_n 2, 1) := by decide +kernel
theorem dX1_hear_5 : decode cX1_hear 5 = .ok (.iload_n 3, 1) := by decide +kernel
theorem dX1_hear_6 : decode cX1_hear 6 = .ok (.iastore, 1) := by decide +kernel
theorem dX1_hear_7 : decode cX1_hear 7 = .ok (.aload_n 0, 1) := by decide +kernel
theorem dX1_hear_8 : decode cX1_hear 8 = .ok (.iload_n 1, 1) := by decide +kernel
theorem dX1_hear_9 : decode cX1_hear 9 = .ok (.iconst 1, 1) := by decide +kernel
theorem dX1_hear_10 : decode cX1_hear 10 = .ok (.iadd, 1) := by decide +kernel
theorem dX1_hear_11 : decode cX1_hear 11 = .ok (.putfield 15, 3) := by decide +kernel
theorem dX1_hear_14 : decode cX1_hear 14 = .ok (.aload_n 0, 1) := by decide +kernel
theorem dX1_hear_15 : decode cX1_hear 15 = .ok (.dup, 1) := by decide +kernel
theorem dX1_hear_16 : decode cX1_hear 16 = .ok (.getfield 19, 3) := by decide +kernel
theorem dX1_hear_19 : decode cX1_hear 19 = .ok (.iconst 1, 1) := by decide +kernel
theorem dX1_hear_20 : decode cX1_hear 20 = .ok (.iadd, 1) := by decide +kernel
theorem dX1_hear_21 : decode cX1_hear 21 = .ok (.putfield 19, 3) := by decide +kernel
theorem dX1_hear_24 : decode cX1_hear 24 = .ok (.return_, 1) := by decide +kernel
end
section
set_option maxRecDepth 20000 in
theorem ggX2_init_X0_init : GoodIn wsX2_init wsX0_init := goodIn_r _ [17, 18, 2, 3, 8, 19, 20, 21, 22, 23, 24, 29, 30, 31, 32, 33, 34, 35, 36] (by decide +kernel) (by decide +kernel)
set_option maxRecDepth 20000 in
theorem gX2_init_X0_init_n9 : GoodIn wsX2_init (wsX0_init) := ggX2_init_X0_init
set_option maxRecDepth 20000 in
theorem ggX2_init_X1_init : GoodIn wsX2_init wsX1_init := goodIn_r _ [26, 27, 2, 3, 8, 28, 46, 47, 48, 49, 50] (by decide +kernel) (by decide +kernel)
set_option maxRecDepth 20000 in
theorem gX2_init_X1_init_n26 : GoodIn wsX2_init (wsX1_init) := ggX2_init_X1_init
theorem dX2_init_0 : decode cX2_init 0 = .ok (.aload_n 0, 1) := by decide +kernel
theorem dX2_init_1 : decode cX2_init 1 = .ok (.invokespecial 1, 3) := by decide +kernel
theorem dX2_init_4 : decode cX2_init 4 = .ok (.aload_n 0, 1) := by decide +kernel
theorem dX2_init_5 : decode cX2_init 5 = .ok (.new 7, 3) := by decide +kernel
theorem dX2_init_8 : decode cX2_init 8 = .ok (.dup, 1) := by decide +kernel
theorem dX2_init_9 : decode cX2_init 9 = .ok (.invokespecial 9, 3) := by decide +kernel
theorem dX2_init_12 : decode cX2_init 12 = .ok (.putfield 10, 3) := by decide +kernel
theorem dX2_init_15 : decode cX2_init 15 = .ok (.aload_n 0, 1) := by decide +kernel
theorem dX2_init_16 : decode cX2_init 16 = .ok (.bipush 8, 2) := by decide +kernel
theorem dX2_init_18 : decode cX2_init 18 = .ok (.newarray .int, 2) := by decide +kernel
theorem dX2_init_20 : decode cX2_init 20 = .ok (.putfield 16, 3) := by decide +kernel
theorem dX2_init_23 : decode cX2_init 23 = .ok (.aload_n 0, 1) := by decide +kernel
theorem dX2_init_24 : decode cX2_init 24 = .ok (.bipush 6, 2) := by decide +kernel
theorem dX2_init_26 : decode cX2_init 26 = .ok (.anewarray 20, 3) := by decide +kernel
theorem dX2_init_29 : decode cX2_init 29 = .ok (.putfield 22, 3) := by decide +kernel
theorem dX2_init_32 : decode cX2_init 32 = .ok (.iconst 0, 1) := by decide +kernel
theorem dX2_init_33 : decode cX2_init 33 = .ok (.istore_n 1, 1) := by decide +kernel
theorem dX2_init_34 : decode cX2_init 34 = .ok (.iload_n 1, 1) := by decide +kernel
theorem dX2_init_35 : decode cX2_init 35 = .ok (.bipush 6, 2) := by decide +kernel
theorem dX2_init_37 : decode cX2_init 37 = .ok (.if_icmp .ge 22, 3) := by decide +kernel
theorem dX2_init_40 : decode cX2_init 40 = .ok (.aload_n 0, 1) := by decide +kernel
theorem dX2_init_41 : decode cX2_init 41 = .ok (.getfield 22, 3) := by decide +kernel
theorem dX2_init_44 : decode cX2_init 44 = .ok (.iload_n 1, 1) := by decide +kernel
theorem dX2_init_45 : decode cX2_init 45 = .ok (.new 20, 3) := by decide +kernel
theorem dX2_init_48 : decode cX2_init 48 = .ok (.dup, 1) := by decide +kernel
theorem dX2_init_49 : decode cX2_init 49 = .ok (.invokespecial 26, 3) := by decide +kernel
theorem dX2_init_52 : decode cX2_init 52 = .ok (.aastore, 1) := by decide +kernel
theorem dX2_init_53 : decode cX2_init 53 = .ok (.iinc 1 1, 3) := by decide +kernel
theorem dX2_init_56 : decode cX2_init 56 = .ok (.goto (-22), 3) := by decide +kernel
theorem dX2_init_59 : decode cX2_init 59 = .ok (.aload_n 0, 1) := by decide +kernel
theorem dX2_init_60 : decode cX2_init 60 = .ok (.bipush 48, 2) := by decide +kernel
theorem dX2_init_62 : decode cX2_init 62 = .ok (.newarray .int, 2) := by decide +kernel
theorem dX2_init_64 : decode cX2_init 64 = .ok (.putfield 27, 3) := by decide +kernel
theorem dX2_init_67 : decode cX2_init 67 = .ok (.aload_n 0, 1) := by decide +kernel
theorem dX2_init_68 : decode cX2_init 68 = .ok (.bipush 48, 2) := by decide +kernel
theorem dX2_init_70 : decode cX2_init 70 = .ok (.newarray .int, 2) := by decide +kernel
theorem dX2_init_72 : decode cX2_init 72 = .ok (.putfield 30, 3) := by decide +kernel
theorem dX2_init_75 : decode cX2_init 75 = .ok (.return_, 1) := by decide +kernel
set_option maxRecDepth 20000 in
theorem ggX2_say_X2_isKey : GoodIn wsX2_say wsX2_isKey := goodIn_r _ [6] (by decide +kernel) (by decide +kernel)
set_option maxRecDepth 20000 in
theorem gX2_say_X2_isKey : GoodIn wsX2_say (va_wsS RX2 33 yX2_isKey wsX2_isKey) := goodIn_app (goodIn_of _ (by decide +kernel)) ggX2_say_X2_isKey
set_option maxRecDepth 20000 in
theorem ggX2_say_X2_speak : GoodIn wsX2_say wsX2_speak := goodIn_r _ [10, 11, 12, 13, 14, 15, 16, 17, 18, 19, 20, 21, 22, 23, 5, 24, 25, 26, 27, 28, 29, 30, 31, 32, 33, 34, 35, 36, 37, 38, 39, 40, 41, 42, 43, 44, 45, 46, 47, 48, 49, 50, 51, 52, 53, 54, 55, 56, 57, 58, 59, 60, 61, 62, 63, 64, 65, 66, 67] (by decide +kernel) (by decide +kernel)
set_option maxRecDepth 20000 in
theorem gX2_say_X2_speak : GoodIn wsX2_say (wsV RX2 46 RX2 yX2_speak wsX2_speak) := goodIn_app (goodIn_of _ (by decide +kernel)) ggX2_say_X2_speak
theorem dX2_say_0 : decode cX2_say 0 = .ok (.iload_n 1, 1) := by decide +kernel
theorem dX2_say_1 : decode cX2_say 1 = .ok (.invokestatic 33, 3) := by decide +kernel
theorem dX2_say_4 : decode cX2_say 4 = .ok (.ifCond .ne 13, 3) := by decide +kernel
theorem dX2_say_7 : decode cX2_say 7 = .ok (.new 37, 3) := by decide +kernel
theorem dX2_say_10 : decode cX2_say 10 = .ok (.dup, 1) := by decide +kernel
theorem dX2_say_11 : decode cX2_say 11 = .ok (.ldc 39, 2) := by decide +kernel
theorem dX2_say_13 : decode cX2_say 13 = .ok (.invokespecial 41, 3) := by decide +kernel
theorem dX2_say_16 : decode cX2_say 16 = .ok (.athrow, 1) := by decide +kernel
theorem dX2_say_17 : decode cX2_say 17 = .ok (.iload_n 2, 1) := by decide +kernel
theorem dX2_say_18 : decode cX2_say 18 = .ok (.sipush (-999), 3) := by decide +kernel
theorem dX2_say_21 : decode cX2_say 21 = .ok (.if_icmp .lt 10, 3) := by decide +kernel
theorem dX2_say_24 : decode cX2_say 24 = .ok (.iload_n 2, 1) := by decide +kernel
theorem dX2_say_25 : decode cX2_say 25 = .ok (.sipush 999, 3) := by decide +kernel
theorem dX2_say_28 : decode cX2_say 28 = .ok (.if_icmp .le 13, 3) := by decide +kernel
theorem dX2_say_31 : decode cX2_say 31 = .ok (.new 37, 3) := by decide +kernel
theorem dX2_say_34 : decode cX2_say 34 = .ok (.dup, 1) := by decide +kernel
theorem dX2_say_35 : decode cX2_say 35 = .ok (.ldc 44, 2) := by decide +kernel
theorem dX2_say_37 : decode cX2_say 37 = .ok (.invokespecial 41, 3) := by decide +kernel
theorem dX2_say_40 : decode cX2_say 40 = .ok (.athrow, 1) := by decide +kernel
theorem dX2_say_41 : decode cX2_say 41 = .ok (.aload_n 0, 1) := by decide +kernel
theorem dX2_say_42 : decode cX2_say 42 = .ok (.iload_n 1, 1) := by decide +kernel
theorem dX2_say_43 : decode cX2_say 43 = .ok (.iload_n 2, 1) := by decide +kernel
theorem dX2_say_44 : decode cX2_say 44 = .ok (.invokevirtual 46, 3) := by decide +kernel
theorem dX2_say_47 : decode cX2_say 47 = .ok (.ireturn, 1) := by decide +kernel
theorem dX2_startStorm_0 : decode cX2_startStorm 0 = .ok (.aload_n 0, 1) := by decide +kernel
theorem dX2_startStorm_1 : decode cX2_startStorm 1 = .ok (.getfield 50, 3) := by decide +kernel
theorem dX2_startStorm_4 : decode cX2_startStorm 4 = .ok (.ifCond .eq 13, 3) := by decide +kernel
theorem dX2_startStorm_7 : decode cX2_startStorm 7 = .ok (.new 54, 3) := by decide +kernel
theorem dX2_startStorm_10 : decode cX2_startStorm 10 = .ok (.dup, 1) := by decide +kernel
theorem dX2_startStorm_11 : decode cX2_startStorm 11 = .ok (.ldc 56, 2) := by decide +kernel
theorem dX2_startStorm_13 : decode cX2_startStorm 13 = .ok (.invokespecial 58, 3) := by decide +kernel
theorem dX2_startStorm_16 : decode cX2_startStorm 16 = .ok (.athrow, 1) := by decide +kernel
theorem dX2_startStorm_17 : decode cX2_startStorm 17 = .ok (.aload_n 0, 1) := by decide +kernel
theorem dX2_startStorm_18 : decode cX2_startStorm 18 = .ok (.getfield 59, 3) := by decide +kernel
theorem dX2_startStorm_21 : decode cX2_startStorm 21 = .ok (.bipush 8, 2) := by decide +kernel
theorem dX2_startStorm_23 : decode cX2_startStorm 23 = .ok (.if_icmp .lt 13, 3) := by decide +kernel
theorem dX2_startStorm_26 : decode cX2_startStorm 26 = .ok (.new 54, 3) := by decide +kernel
theorem dX2_startStorm_29 : decode cX2_startStorm 29 = .ok (.dup, 1) := by decide +kernel
theorem dX2_startStorm_30 : decode cX2_startStorm 30 = .ok (.ldc 63, 2) := by decide +kernel
theorem dX2_startStorm_32 : decode cX2_startStorm 32 = .ok (.invokespecial 58, 3) := by decide +kernel
theorem dX2_startStorm_35 : decode cX2_startStorm 35 = .ok (.athrow, 1) := by decide +kernel
theorem dX2_startStorm_36 : decode cX2_startStorm 36 = .ok (.aload_n 0, 1) := by decide +kernel
theorem dX2_startStorm_37 : decode cX2_startStorm 37 = .ok (.iconst 1, 1) := by decide +kernel
theorem dX2_startStorm_38 : decode cX2_startStorm 38 = .ok (.putfield 50, 3) := by decide +kernel
theorem dX2_startStorm_41 : decode cX2_startStorm 41 = .ok (.aload_n 0, 1) := by decide +kernel
theorem dX2_startStorm_42 : decode cX2_startStorm 42 = .ok (.dup, 1) := by decide +kernel
theorem dX2_startStorm_43 : decode cX2_startStorm 43 = .ok (.getfield 59, 3) := by decide +kernel
theorem dX2_startStorm_46 : decode cX2_startStorm 46 = .ok (.iconst 1, 1) := by decide +kernel
theorem dX2_startStorm_47 : decode cX2_startStorm 47 = .ok (.iadd, 1) := by decide +kernel
theorem dX2_startStorm_48 : decode cX2_startStorm 48 = .ok (.putfield 59, 3) := by decide +kernel
theorem dX2_startStorm_51 : decode cX2_startStorm 51 = .ok (.aload_n 0, 1) := by decide +kernel
theorem dX2_startStorm_52 : decode cX2_startStorm 52 = .ok (.getfield 59, 3) := by decide +kernel
theorem dX2_startStorm_55 : decode cX2_startStorm 55 = .ok (.iconst 1, 1) := by decide +kernel
theorem dX2_startStorm_56 : decode cX2_startStorm 56 = .ok (.isub, 1) := by decide +kernel
theorem dX2_startStorm_57 : decode cX2_startStorm 57 = .ok (.ireturn, 1) := by decide +kernel
theorem dX2_endStorm_0 : decode cX2_endStorm 0 = .ok (.aload_n 0, 1) := by decide +kernel
theorem dX2_endStorm_1 : decode cX2_endStorm 1 = .ok (.getfield 50, 3) := by decide +kernel
theorem dX2_endStorm_4 : decode cX2_endStorm 4 = .ok (.ifCond .ne 13, 3) := by decide +kernel
theorem dX2_endStorm_7 : decode cX2_endStorm 7 = .ok (.new 54, 3) := by decide +kernel
theorem dX2_endStorm_10 : decode cX2_endStorm 10 = .ok (.dup, 1) := by decide +kernel
theorem dX2_endStorm_11 : decode cX2_endStorm 11 = .ok (.ldc 65, 2) := by decide +kernel
theorem dX2_endStorm_13 : decode cX2_endStorm 13 = .ok (.invokespecial 58, 3) := by decide +kernel
theorem dX2_endStorm_16 : decode cX2_endStorm 16 = .ok (.athrow, 1) := by decide +kernel
theorem dX2_endStorm_17 : decode cX2_endStorm 17 = .ok (.aload_n 0, 1) := by decide +kernel
theorem dX2_endStorm_18 : decode cX2_endStorm 18 = .ok (.iconst 0, 1) := by decide +kernel
theorem dX2_endStorm_19 : decode cX2_endStorm 19 = .ok (.putfield 50, 3) := by decide +kernel
theorem dX2_endStorm_22 : decode cX2_endStorm 22 = .ok (.aload_n 0, 1) := by decide +kernel
theorem dX2_endStorm_23 : decode cX2_endStorm 23 = .ok (.getfield 16, 3) := by decide +kernel
theorem dX2_endStorm_26 : decode cX2_endStorm 26 = .ok (.aload_n 0, 1) := by decide +kernel
theorem dX2_endStorm_27 : decode cX2_endStorm 27 = .ok (.getfield 59, 3) := by decide +kernel
theorem dX2_endStorm_30 : decode cX2_endStorm 30 = .ok (.iconst 1, 1) := by decide +kernel
theorem dX2_endStorm_31 : decode cX2_endStorm 31 = .ok (.isub, 1) := by decide +kernel
theorem dX2_endStorm_32 : decode cX2_endStorm 32 = .ok (.iaload, 1) := by decide +kernel
theorem dX2_endStorm_33 : decode cX2_endStorm 33 = .ok (.ireturn, 1) := by decide +kernel
set_option maxRecDepth 20000 in
theorem ggX2_replay_X2_checkStorm : GoodIn wsX2_replay wsX2_checkStorm := goodIn_ca (goodIn_r _ [11, 12, 13, 14, 54, 55, 56, 57, 58, 59, 60, 61, 62] (by decide +kernel) (by decide +kernel)) (goodIn_sub (fun _ h => List.mem_cons_of_mem _ (List.mem_append_right _ h)) (by decide +kernel))
set_option maxRecDepth 20000 in
theorem gX2_replay_X2_checkStorm : GoodIn wsX2_replay (wsV RX2 67 RX2 yX2_checkStorm wsX2_checkStorm) := goodIn_app (goodIn_of _ (by decide +kernel)) ggX2_replay_X2_checkStorm
set_option maxRecDepth 20000 in
theorem ggX2_replay_X0_copyStorm : GoodIn wsX2_replay wsX0_copyStorm := goodIn_r _ [18, 19, 20, 21, 22, 63, 64, 65, 66, 67, 68, 69, 70] (by decide +kernel) (by decide +kernel)
set_option maxRecDepth 20000 in
theorem gX2_replay_X0_copyStorm_n71 : GoodIn wsX2_replay (wsX0_copyStorm) := ggX2_replay_X0_copyStorm
set_option maxRecDepth 20000 in
theorem ggX2_replay_X2_speak : GoodIn wsX2_replay wsX2_speak := goodIn_r _ [26, 4, 3, 14, 27, 28, 16, 29, 30, 19, 31, 32, 33, 34, 10, 35, 36, 37, 38, 39, 40, 41, 42, 43, 44, 45, 46, 47, 48, 21, 22, 20, 49, 50, 51, 52, 53, 54, 55, 56, 57, 58, 59, 60, 61, 62, 63, 64, 65, 66, 67, 68, 69, 70, 71, 72, 73, 74, 75] (by decide +kernel) (by decide +kernel)
set_option maxRecDepth 20000 in
theorem gX2_replay_X2_speak : GoodIn wsX2_replay (wsV RX2 46 RX2 yX2_speak wsX2_speak) := goodIn_app (goodIn_of _ (by decide +kernel)) ggX2_replay_X2_speak
theorem dX2_replay_0 : decode cX2_replay 0 = .ok (.aload_n 0, 1) := by decide +kernel
theorem dX2_replay_1 : decode cX2_replay 1 = .ok (.iload_n 1, 1) := by decide +kernel
theorem dX2_replay_2 : decode cX2_replay 2 = .ok (.invokevirtual 67, 3) := by decide +kernel
theorem dX2_replay_5 : decode cX2_replay 5 = .ok (.aload_n 0, 1) := by decide +kernel
theorem dX2_replay_6 : decode cX2_replay 6 = .ok (.getfield 50, 3) := by decide +kernel
theorem dX2_replay_9 : decode cX2_replay 9 = .ok (.ifCond .eq 13, 3) := by decide +kernel
theorem dX2_replay_12 : decode cX2_replay 12 = .ok (.new 54, 3) := by decide +kernel
theorem dX2_replay_15 : decode cX2_replay 15 = .ok (.dup, 1) := by decide +kernel
theorem dX2_replay_16 : decode cX2_replay 16 = .ok (.ldc 56, 2) := by decide +kernel
theorem dX2_replay_18 : decode cX2_replay 18 = .ok (.invokespecial 58, 3) := by decide +kernel
theorem dX2_replay_21 : decode cX2_replay 21 = .ok (.athrow, 1) := by decide +kernel
theorem dX2_replay_22 : decode cX2_replay 22 = .ok (.aload_n 0, 1) := by decide +kernel
theorem dX2_replay_23 : decode cX2_replay 23 = .ok (.getfield 10, 3) := by decide +kernel
theorem dX2_replay_26 : decode cX2_replay 26 = .ok (.iload_n 1, 1) := by decide +kernel
theorem dX2_replay_27 : decode cX2_replay 27 = .ok (.aload_n 0, 1) := by decide +kernel
theorem dX2_replay_28 : decode cX2_replay 28 = .ok (.getfield 27, 3) := by decide +kernel
theorem dX2_replay_31 : decode cX2_replay 31 = .ok (.aload_n 0, 1) := by decide +kernel
theorem dX2_replay_32 : decode cX2_replay 32 = .ok (.getfield 30, 3) := by decide +kernel
theorem dX2_replay_35 : decode cX2_replay 35 = .ok (.invokevirtual 71, 3) := by decide +kernel
theorem dX2_replay_38 : decode cX2_replay 38 = .ok (.istore_n 2, 1) := by decide +kernel
theorem dX2_replay_39 : decode cX2_replay 39 = .ok (.iconst 0, 1) := by decide +kernel
theorem dX2_replay_40 : decode cX2_replay 40 = .ok (.istore_n 3, 1) := by decide +kernel
theorem dX2_replay_41 : decode cX2_replay 41 = .ok (.iload_n 3, 1) := by decide +kernel
theorem dX2_replay_42 : decode cX2_replay 42 = .ok (.iload_n 2, 1) := by decide +kernel
theorem dX2_replay_43 : decode cX2_replay 43 = .ok (.if_icmp .ge 26, 3) := by decide +kernel
theorem dX2_replay_46 : decode cX2_replay 46 = .ok (.aload_n 0, 1) := by decide +kernel
theorem dX2_replay_47 : decode cX2_replay 47 = .ok (.aload_n 0, 1) := by decide +kernel
theorem dX2_replay_48 : decode cX2_replay 48 = .ok (.getfield 27, 3) := by decide +kernel
theorem dX2_replay_51 : decode cX2_replay 51 = .ok (.iload_n 3, 1) := by decide +kernel
theorem dX2_replay_52 : decode cX2_replay 52 = .ok (.iaload, 1) := by decide +kernel
theorem dX2_replay_53 : decode cX2_replay 53 = .ok (.aload_n 0, 1) := by decide +kernel
theorem dX2_replay_54 : decode cX2_replay 54 = .ok (.getfield 30, 3) := by decide +kernel
theorem dX2_replay_57 : decode cX2_replay 57 = .ok (.iload_n 3, 1) := by decide +kernel
theorem dX2_replay_58 : decode cX2_replay 58 = .ok (.iaload, 1) := by decide +kernel
theorem dX2_replay_59 : decode cX2_replay 59 = .ok (.invokevirtual 46, 3) := by decide +kernel
theorem dX2_replay_62 : decode cX2_replay 62 = .ok (.pop, 1) := by decide +kernel
theorem dX2_replay_63 : decode cX2_replay 63 = .ok (.iinc 3 1, 3) := by decide +kernel
theorem dX2_replay_66 : decode cX2_replay 66 = .ok (.goto (-25), 3) := by decide +kernel
theorem dX2_replay_69 : decode cX2_replay 69 = .ok (.iload_n 2, 1) := by decide +kernel
theorem dX2_replay_70 : decode cX2_replay 70 = .ok (.ireturn, 1) := by decide +kernel
set_option maxRecDepth 20000 in
theorem ggX2_compact_X2_markCompacted : GoodIn wsX2_compact wsX2_markCompacted := goodIn_r _ [5, 6, 7, 8, 9, 4, 10, 11, 12, 13, 14, 15, 16, 17, 18, 19, 20, 21, 22, 23, 24, 25, 26, 27, 28, 29, 46, 47, 48, 49, 50, 51, 52, 53, 54, 55, 56, 57, 58, 59, 60, 61, 62, 63, 64, 65, 66, 67] (by decide +kernel) (by decide +kernel)
set_option maxRecDepth 20000 in
theorem gX2_compact_X2_markCompacted : GoodIn wsX2_compact (wsV RX2 75 RX2 yX2_markCompacted wsX2_markCompacted) := goodIn_app (goodIn_of _ (by decide +kernel)) ggX2_compact_X2_markCompacted
set_option maxRecDepth 20000 in
theorem ggX2_compact_X2_dropMarked : GoodIn wsX2_compact wsX2_dropMarked := goodIn_r _ [33, 11, 12, 6, 34, 18, 35, 36, 21, 25, 37, 38, 39, 40, 24, 41, 42, 43, 22, 23, 44, 45, 46, 47, 48, 49, 50, 51, 52, 53, 54, 63, 64, 65, 66, 67, 55, 56, 57, 58, 59, 60, 61, 62] (by decide +kernel) (by decide +kernel)
set_option maxRecDepth 20000 in
theorem gX2_compact_X2_dropMarked : GoodIn wsX2_compact (wsV RX2 78 RX2 yX2_dropMarked wsX2_dropMarked) := goodIn_app (goodIn_of _ (by decide +kernel)) ggX2_compact_X2_dropMarked
theorem dX2_compact_0 : decode cX2_compact 0 = .ok (.aload_n 0, 1) := by decide +kernel
theorem dX2_compact_1 : decode cX2_compact 1 = .ok (.invokevirtual 75, 3) := by decide +kernel
theorem dX2_compact_4 : decode cX2_compact 4 = .ok (.aload_n 0, 1) := by decide +kernel
theorem dX2_compact_5 : decode cX2_compact 5 = .ok (.invokevirtual 78, 3) := by decide +kernel
theorem dX2_compact_8 : decode cX2_compact 8 = .ok (.ireturn, 1) := by decide +kernel
set_option maxRecDepth 20000 in
theorem ggX2_trimTo_X2_checkReachable : GoodIn wsX2_trimTo wsX2_checkReachable := goodIn_ca (goodIn_r _ [6, 7, 8, 1, 36, 37, 38, 39, 40, 41, 42, 43, 44, 45, 46, 47, 48, 49, 50, 51, 52] (by decide +kernel) (by decide +kernel)) (goodIn_sub (fun _ h => List.mem_cons_of_mem _ (List.mem_append_right _ h)) (by decide +kernel))
set_option maxRecDepth 20000 in
theorem gX2_trimTo_X2_checkReachable : GoodIn wsX2_trimTo (wsV RX2 82 RX2 yX2_checkReachable wsX2_checkReachable) := goodIn_app (goodIn_of _ (by decide +kernel)) ggX2_trimTo_X2_checkReachable
set_option maxRecDepth 20000 in
theorem ggX2_trimTo_X0_markAhead : GoodIn wsX2_trimTo wsX0_markAhead := goodIn_r _ [12, 13, 14, 15, 45, 46, 47, 48, 49, 50, 51, 52] (by decide +kernel) (by decide +kernel)
set_option maxRecDepth 20000 in
theorem gX2_trimTo_X0_markAhead_n85 : GoodIn wsX2_trimTo (wsX0_markAhead) := ggX2_trimTo_X0_markAhead
set_option maxRecDepth 20000 in
theorem ggX2_trimTo_X2_dropMarked : GoodIn wsX2_trimTo wsX2_dropMarked := goodIn_r _ [19, 20, 21, 1, 22, 10, 23, 24, 13, 14, 25, 26, 27, 28, 15, 29, 30, 31, 32, 33, 34, 35, 36, 37, 38, 39, 40, 41, 42, 43, 44, 53, 54, 55, 56, 57, 45, 46, 47, 48, 49, 50, 51, 52] (by decide +kernel) (by decide +kernel)
set_option maxRecDepth 20000 in
theorem gX2_trimTo_X2_dropMarked : GoodIn wsX2_trimTo (wsV RX2 78 RX2 yX2_dropMarked wsX2_dropMarked) := goodIn_app (goodIn_of _ (by decide +kernel)) ggX2_trimTo_X2_dropMarked
theorem dX2_trimTo_0 : decode cX2_trimTo 0 = .ok (.aload_n 0, 1) := by decide +kernel
theorem dX2_trimTo_1 : decode cX2_trimTo 1 = .ok (.iload_n 1, 1) := by decide +kernel
theorem dX2_trimTo_2 : decode cX2_trimTo 2 = .ok (.invokevirtual 82, 3) := by decide +kernel
theorem dX2_trimTo_5 : decode cX2_trimTo 5 = .ok (.aload_n 0, 1) := by decide +kernel
theorem dX2_trimTo_6 : decode cX2_trimTo 6 = .ok (.getfield 10, 3) := by decide +kernel
theorem dX2_trimTo_9 : decode cX2_trimTo 9 = .ok (.iload_n 1, 1) := by decide +kernel
theorem dX2_trimTo_10 : decode cX2_trimTo 10 = .ok (.invokevirtual 85, 3) := by decide +kernel
theorem dX2_trimTo_13 : decode cX2_trimTo 13 = .ok (.aload_n 0, 1) := by decide +kernel
theorem dX2_trimTo_14 : decode cX2_trimTo 14 = .ok (.invokevirtual 78, 3) := by decide +kernel
theorem dX2_trimTo_17 : decode cX2_trimTo 17 = .ok (.ireturn, 1) := by decide +kernel
set_option maxRecDepth 20000 in
theorem ggX2_addShip_X2_checkReachable : GoodIn wsX2_addShip wsX2_checkReachable := goodIn_ca (goodIn_r _ [11, 1, 2, 12, 13, 14, 15, 16, 17, 18, 19, 20, 21, 27, 28, 29, 30, 31, 32, 33, 34] (by decide +kernel) (by decide +kernel)) (goodIn_sub (fun _ h => List.mem_cons_of_mem _ (List.mem_append_left _ (List.mem_append_right _ h))) (by decide +kernel))
set_option maxRecDepth 20000 in
theorem gX2_addShip_X2_checkReachable : GoodIn wsX2_addShip (wsV RX2 82 RX2 yX2_checkReachable wsX2_checkReachable) := goodIn_app (goodIn_of _ (by decide +kernel)) ggX2_addShip_X2_checkReachable
theorem dX2_addShip_0 : decode cX2_addShip 0 = .ok (.iload_n 1, 1) := by decide +kernel
theorem dX2_addShip_1 : decode cX2_addShip 1 = .ok (.iconst 1, 1) := by decide +kernel
theorem dX2_addShip_2 : decode cX2_addShip 2 = .ok (.if_icmp .lt 8, 3) := by decide +kernel
theorem dX2_addShip_5 : decode cX2_addShip 5 = .ok (.iload_n 1, 1) := by decide +kernel
theorem dX2_addShip_6 : decode cX2_addShip 6 = .ok (.iconst 5, 1) := by decide +kernel
theorem dX2_addShip_7 : decode cX2_addShip 7 = .ok (.if_icmp .le 13, 3) := by decide +kernel
theorem dX2_addShip_10 : decode cX2_addShip 10 = .ok (.new 37, 3) := by decide +kernel
theorem dX2_addShip_13 : decode cX2_addShip 13 = .ok (.dup, 1) := by decide +kernel
theorem dX2_addShip_14 : decode cX2_addShip 14 = .ok (.ldc 88, 2) := by decide +kernel
theorem dX2_addShip_16 : decode cX2_addShip 16 = .ok (.invokespecial 41, 3) := by decide +kernel
theorem dX2_addShip_19 : decode cX2_addShip 19 = .ok (.athrow, 1) := by decide +kernel
theorem dX2_addShip_20 : decode cX2_addShip 20 = .ok (.aload_n 0, 1) := by decide +kernel
theorem dX2_addShip_21 : decode cX2_addShip 21 = .ok (.iload_n 2, 1) := by decide +kernel
theorem dX2_addShip_22 : decode cX2_addShip 22 = .ok (.invokevirtual 82, 3) := by decide +kernel
theorem dX2_addShip_25 : decode cX2_addShip 25 = .ok (.aload_n 0, 1) := by decide +kernel
theorem dX2_addShip_26 : decode cX2_addShip 26 = .ok (.getfield 90, 3) := by decide +kernel
theorem dX2_addShip_29 : decode cX2_addShip 29 = .ok (.bipush 6, 2) := by decide +kernel
theorem dX2_addShip_31 : decode cX2_addShip 31 = .ok (.if_icmp .lt 13, 3) := by decide +kernel
theorem dX2_addShip_34 : decode cX2_addShip 34 = .ok (.new 54, 3) := by decide +kernel
theorem dX2_addShip_37 : decode cX2_addShip 37 = .ok (.dup, 1) := by decide +kernel
theorem dX2_addShip_38 : decode cX2_addShip 38 = .ok (.ldc 93, 2) := by decide +kernel
theorem dX2_addShip_40 : decode cX2_addShip 40 = .ok (.invokespecial 58, 3) := by decide +kernel
theorem dX2_addShip_43 : decode cX2_addShip 43 = .ok (.athrow, 1) := by decide +kernel
theorem dX2_addShip_44 : decode cX2_addShip 44 = .ok (.aload_n 0, 1) := by decide +kernel
theorem dX2_addShip_45 : decode cX2_addShip 45 = .ok (.getfield 22, 3) := by decide +kernel
theorem dX2_addShip_48 : decode cX2_addShip 48 = .ok (.aload_n 0, 1) := by decide +kernel
theorem dX2_addShip_49 : decode cX2_addShip 49 = .ok (.getfield 90, 3) := by decide +kernel
theorem dX2_addShip_52 : decode cX2_addShip 52 = .ok (.aaload, 1) := by decide +kernel
theorem dX2_addShip_53 : decode cX2_addShip 53 = .ok (.astore_n 3, 1) := by decide +kernel
theorem dX2_addShip_54 : decode cX2_addShip 54 = .ok (.aload_n 3, 1) := by decide +kernel
theorem dX2_addShip_55 : decode cX2_addShip 55 = .ok (.iload_n 1, 1) := by decide +kernel
theorem dX2_addShip_56 : decode cX2_addShip 56 = .ok (.putfield 95, 3) := by decide +kernel
theorem dX2_addShip_59 : decode cX2_addShip 59 = .ok (.aload_n 3, 1) := by decide +kernel
theorem dX2_addShip_60 : decode cX2_addShip 60 = .ok (.iload_n 2, 1) := by decide +kernel
theorem dX2_addShip_61 : decode cX2_addShip 61 = .ok (.putfield 98, 3) := by decide +kernel
theorem dX2_addShip_64 : decode cX2_addShip 64 = .ok (.aload_n 0, 1) := by decide +kernel
theorem dX2_addShip_65 : decode cX2_addShip 65 = .ok (.dup, 1) := by decide +kernel
theorem dX2_addShip_66 : decode cX2_addShip 66 = .ok (.getfield 90, 3) := by decide +kernel
theorem dX2_addShip_69 : decode cX2_addShip 69 = .ok (.iconst 1, 1) := by decide +kernel
theorem dX2_addShip_70 : decode cX2_addShip 70 = .ok (.iadd, 1) := by decide +kernel
theorem dX2_addShip_71 : decode cX2_addShip 71 = .ok (.putfield 90, 3) := by decide +kernel
theorem dX2_addShip_74 : decode cX2_addShip 74 = .ok (.aload_n 0, 1) := by decide +kernel
theorem dX2_addShip_75 : decode cX2_addShip 75 = .ok (.getfield 90, 3) := by decide +kernel
theorem dX2_addShip_78 : decode cX2_addShip 78 = .ok (.iconst 1, 1) := by decide +kernel
theorem dX2_addShip_79 : decode cX2_addShip 79 = .ok (.isub, 1) := by decide +kernel
theorem dX2_addShip_80 : decode cX2_addShip 80 = .ok (.ireturn, 1) := by decide +kernel
set_option maxRecDepth 20000 in
theorem ggX2_seek_X2_shipNumbered : GoodIn wsX2_seek wsX2_shipNumbered := goodIn_ca (goodIn_r _ [5, 6, 7, 8, 9, 22, 23, 24, 25, 26, 27, 28, 29, 30] (by decide +kernel) (by decide +kernel)) (goodIn_sub (fun _ h => List.mem_cons_of_mem _ (List.mem_append_left _ (List.mem_append_right _ h))) (by decide +kernel))
set_option maxRecDepth 20000 in
theorem gX2_seek_X2_shipNumbered : GoodIn wsX2_seek (wsV RX2 101 RX2 yX2_shipNumbered wsX2_shipNumbered) := goodIn_app (goodIn_of _ (by decide +kernel)) ggX2_seek_X2_shipNumbered
set_option maxRecDepth 20000 in
theorem ggX2_seek_X2_checkReachable : GoodIn wsX2_seek wsX2_checkReachable := goodIn_ca (goodIn_r _ [13, 14, 15, 16, 22, 23, 24, 25, 26, 27, 28, 29, 30, 31, 32, 33, 34, 35, 36, 37, 38] (by decide +kernel) (by decide +kernel)) (goodIn_sub (fun _ h => List.mem_cons_of_mem _ (List.mem_append_right _ h)) (by decide +kernel))
set_option maxRecDepth 20000 in
theorem gX2_seek_X2_checkReachable : GoodIn wsX2_seek (wsV RX2 82 RX2 yX2_checkReachable wsX2_checkReachable) := goodIn_app (goodIn_of _ (by decide +kernel)) ggX2_seek_X2_checkReachable
theorem dX2_seek_0 : decode cX2_seek 0 = .ok (.aload_n 0, 1) := by decide +kernel
theorem dX2_seek_1 : decode cX2_seek 1 = .ok (.iload_n 1, 1) := by decide +kernel
theorem dX2_seek_2 : decode cX2_seek 2 = .ok (.invokevirtual 101, 3) := by decide +kernel
theorem dX2_seek_5 : decode cX2_seek 5 = .ok (.astore_n 3, 1) := by decide +kernel
theorem dX2_seek_6 : decode cX2_seek 6 = .ok (.aload_n 0, 1) := by decide +kernel
theorem dX2_seek_7 : decode cX2_seek 7 = .ok (.iload_n 2, 1) := by decide +kernel
theorem dX2_seek_8 : decode cX2_seek 8 = .ok (.invokevirtual 82, 3) := by decide +kernel
theorem dX2_seek_11 : decode cX2_seek 11 = .ok (.aload_n 3, 1) := by decide +kernel
theorem dX2_seek_12 : decode cX2_seek 12 = .ok (.getfield 98, 3) := by decide +kernel
theorem dX2_seek_15 : decode cX2_seek 15 = .ok (.istore 4, 2) := by decide +kernel
theorem dX2_seek_17 : decode cX2_seek 17 = .ok (.aload_n 3, 1) := by decide +kernel
theorem dX2_seek_18 : decode cX2_seek 18 = .ok (.iload_n 2, 1) := by decide +kernel
theorem dX2_seek_19 : decode cX2_seek 19 = .ok (.putfield 98, 3) := by decide +kernel
theorem dX2_seek_22 : decode cX2_seek 22 = .ok (.iload 4, 2) := by decide +kernel
theorem dX2_seek_24 : decode cX2_seek 24 = .ok (.ireturn, 1) := by decide +kernel
set_option maxRecDepth 20000 in
theorem ggX2_passHours_X2_checkHours : GoodIn wsX2_passHours wsX2_checkHours := goodIn_ca (goodIn_r _ [7, 8, 9] (by decide +kernel) (by decide +kernel)) (goodIn_sub (fun _ h => List.mem_cons_of_mem _ (List.mem_append_right _ h)) (by decide +kernel))
set_option maxRecDepth 20000 in
theorem gX2_passHours_X2_checkHours : GoodIn wsX2_passHours (va_wsS RX2 105 yX2_checkHours wsX2_checkHours) := goodIn_app (goodIn_of _ (by decide +kernel)) ggX2_passHours_X2_checkHours
set_option maxRecDepth 20000 in
theorem ggX2_passHours_X2_mostHeard : GoodIn wsX2_passHours wsX2_mostHeard := goodIn_r _ [13, 14, 37, 38, 39, 40, 41, 42, 43, 44, 45] (by decide +kernel) (by decide +kernel)
set_option maxRecDepth 20000 in
theorem gX2_passHours_X2_mostHeard : GoodIn wsX2_passHours (wsV RX2 108 RX2 yX2_mostHeard wsX2_mostHeard) := goodIn_app (goodIn_of _ (by decide +kernel)) ggX2_passHours_X2_mostHeard
set_option maxRecDepth 20000 in
theorem ggX2_passHours_X2_hearNext : GoodIn wsX2_passHours wsX2_hearNext := goodIn_r _ [18, 19, 20, 21, 22, 23, 24, 25, 26, 27, 28, 29, 30, 31, 32, 33, 34, 35, 36, 37, 38, 39, 40, 41, 42, 43, 44, 45, 46, 47, 48, 49, 50, 51, 52, 53, 54, 55, 56, 57, 58] (by decide +kernel) (by decide +kernel)
set_option maxRecDepth 20000 in
theorem gX2_passHours_X2_hearNext : GoodIn wsX2_passHours (wsV RX2 111 RX2 yX2_hearNext wsX2_hearNext) := goodIn_app (goodIn_of _ (by decide +kernel)) ggX2_passHours_X2_hearNext
theorem dX2_passHours_0 : decode cX2_passHours 0 = .ok (.iload_n 1, 1) := by decide +kernel
theorem dX2_passHours_1 : decode cX2_passHours 1 = .ok (.invokestatic 105, 3) := by decide +kernel
theorem dX2_passHours_4 : decode cX2_passHours 4 = .ok (.iconst 0, 1) := by decide +kernel
theorem dX2_passHours_5 : decode cX2_passHours 5 = .ok (.istore_n 2, 1) := by decide +kernel
theorem dX2_passHours_6 : decode cX2_passHours 6 = .ok (.iconst 0, 1) := by decide +kernel
theorem dX2_passHours_7 : decode cX2_passHours 7 = .ok (.istore_n 3, 1) := by decide +kernel
theorem dX2_passHours_8 : decode cX2_passHours 8 = .ok (.iload_n 3, 1) := by decide +kernel
theorem dX2_passHours_9 : decode cX2_passHours 9 = .ok (.aload_n 0, 1) := by decide +kernel
theorem dX2_passHours_10 : decode cX2_passHours 10 = .ok (.getfield 90, 3) := by decide +kernel
theorem dX2_passHours_13 : decode cX2_passHours 13 = .ok (.if_icmp .ge 36, 3) := by decide +kernel
theorem dX2_passHours_16 : decode cX2_passHours 16 = .ok (.iload_n 2, 1) := by decide +kernel
theorem dX2_passHours_17 : decode cX2_passHours 17 = .ok (.aload_n 0, 1) := by decide +kernel
theorem dX2_passHours_18 : decode cX2_passHours 18 = .ok (.aload_n 0, 1) := by decide +kernel
theorem dX2_passHours_19 : decode cX2_passHours 19 = .ok (.getfield 22, 3) := by decide +kernel
theorem dX2_passHours_22 : decode cX2_passHours 22 = .ok (.iload_n 3, 1) := by decide +kernel
theorem dX2_passHours_23 : decode cX2_passHours 23 = .ok (.aaload, 1) := by decide +kernel
theorem dX2_passHours_24 : decode cX2_passHours 24 = .ok (.aload_n 0, 1) := by decide +kernel
theorem dX2_passHours_25 : decode cX2_passHours 25 = .ok (.iload_n 1, 1) := by decide +kernel
theorem dX2_passHours_26 : decode cX2_passHours 26 = .ok (.aload_n 0, 1) := by decide +kernel
theorem dX2_passHours_27 : decode cX2_passHours 27 = .ok (.getfield 22, 3) := by decide +kernel
theorem dX2_passHours_30 : decode cX2_passHours 30 = .ok (.iload_n 3, 1) := by decide +kernel
theorem dX2_passHours_31 : decode cX2_passHours 31 = .ok (.aaload, 1) := by decide +kernel
theorem dX2_passHours_32 : decode cX2_passHours 32 = .ok (.getfield 95, 3) := by decide +kernel
theorem dX2_passHours_35 : decode cX2_passHours 35 = .ok (.invokevirtual 108, 3) := by decide +kernel
theorem dX2_passHours_38 : decode cX2_passHours 38 = .ok (.invokevirtual 111, 3) := by decide +kernel
theorem dX2_passHours_41 : decode cX2_passHours 41 = .ok (.iadd, 1) := by decide +kernel
theorem dX2_passHours_42 : decode cX2_passHours 42 = .ok (.istore_n 2, 1) := by decide +kernel
theorem dX2_passHours_43 : decode cX2_passHours 43 = .ok (.iinc 3 1, 3) := by decide +kernel
theorem dX2_passHours_46 : decode cX2_passHours 46 = .ok (.goto (-38), 3) := by decide +kernel
theorem dX2_passHours_49 : decode cX2_passHours 49 = .ok (.aload_n 0, 1) := by decide +kernel
theorem dX2_passHours_50 : decode cX2_passHours 50 = .ok (.dup, 1) := by decide +kernel
theorem dX2_passHours_51 : decode cX2_passHours 51 = .ok (.getfield 115, 3) := by decide +kernel
theorem dX2_passHours_54 : decode cX2_passHours 54 = .ok (.iload_n 1, 1) := by decide +kernel
theorem dX2_passHours_55 : decode cX2_passHours 55 = .ok (.iadd, 1) := by decide +kernel
theorem dX2_passHours_56 : decode cX2_passHours 56 = .ok (.putfield 115, 3) := by decide +kernel
theorem dX2_passHours_59 : decode cX2_passHours 59 = .ok (.iload_n 2, 1) := by decide +kernel
theorem dX2_passHours_60 : decode cX2_passHours 60 = .ok (.ireturn, 1) := by decide +kernel
theorem dX2_hours_0 : decode cX2_hours 0 = .ok (.aload_n 0, 1) := by decide +kernel
theorem dX2_hours_1 : decode cX2_hours 1 = .ok (.getfield 115, 3) := by decide +kernel
theorem dX2_hours_4 : decode cX2_hours 4 = .ok (.ireturn, 1) := by decide +kernel
theorem dX2_phrases_0 : decode cX2_phrases 0 = .ok (.aload_n 0, 1) := by decide +kernel
theorem dX2_phrases_1 : decode cX2_phrases 1 = .ok (.getfield 10, 3) := by decide +kernel
theorem dX2_phrases_4 : decode cX2_phrases 4 = .ok (.getfield 118, 3) := by decide +kernel
theorem dX2_phrases_7 : decode cX2_phrases 7 = .ok (.ireturn, 1) := by decide +kernel
theorem dX2_nextOffset_0 : decode cX2_nextOffset 0 = .ok (.aload_n 0, 1) := by decide +kernel
theorem dX2_nextOffset_1 : decode cX2_nextOffset 1 = .ok (.getfield 10, 3) := by decide +kernel
theorem dX2_nextOffset_4 : decode cX2_nextOffset 4 = .ok (.getfield 121, 3) := by decide +kernel
theorem dX2_nextOffset_7 : decode cX2_nextOffset 7 = .ok (.ireturn, 1) := by decide +kernel
theorem dX2_firstOffset_0 : decode cX2_firstOffset 0 = .ok (.aload_n 0, 1) := by decide +kernel
theorem dX2_firstOffset_1 : decode cX2_firstOffset 1 = .ok (.getfield 10, 3) := by decide +kernel
theorem dX2_firstOffset_4 : decode cX2_firstOffset 4 = .ok (.getfield 118, 3) := by decide +kernel
theorem dX2_firstOffset_7 : decode cX2_firstOffset 7 = .ok (.ifCond .ne 7, 3) := by decide +kernel
theorem dX2_firstOffset_10 : decode cX2_firstOffset 10 = .ok (.iconst (-1), 1) := by decide +kernel
theorem dX2_firstOffset_11 : decode cX2_firstOffset 11 = .ok (.goto 12, 3) := by decide +kernel
theorem dX2_firstOffset_14 : decode cX2_firstOffset 14 = .ok (.aload_n 0, 1) := by decide +kernel
theorem dX2_firstOffset_15 : decode cX2_firstOffset 15 = .ok (.getfield 10, 3) := by decide +kernel
theorem dX2_firstOffset_18 : decode cX2_firstOffset 18 = .ok (.getfield 124, 3) := by decide +kernel
theorem dX2_firstOffset_21 : decode cX2_firstOffset 21 = .ok (.iconst 0, 1) := by decide +kernel
theorem dX2_firstOffset_22 : decode cX2_firstOffset 22 = .ok (.iaload, 1) := by decide +kernel
theorem dX2_firstOffset_23 : decode cX2_firstOffset 23 = .ok (.ireturn, 1) := by decide +kernel
theorem dX2_dropped_0 : decode cX2_dropped 0 = .ok (.aload_n 0, 1) := by decide +kernel
theorem dX2_dropped_1 : decode cX2_dropped 1 = .ok (.getfield 10, 3) := by decide +kernel
theorem dX2_dropped_4 : decode cX2_dropped 4 = .ok (.getfield 127, 3) := by decide +kernel
theorem dX2_dropped_7 : decode cX2_dropped 7 = .ok (.ireturn, 1) := by decide +kernel
set_option maxRecDepth 20000 in
theorem ggX2_isKept_X0_positionOf : GoodIn wsX2_isKept wsX0_positionOf := goodIn_r _ [5, 6, 7, 8, 9, 10, 3, 11, 21, 22, 23, 24, 25, 26, 27, 28] (by decide +kernel) (by decide +kernel)
set_option maxRecDepth 20000 in
theorem gX2_isKept_X0_positionOf_n130 : GoodIn wsX2_isKept (wsX0_positionOf) := ggX2_isKept_X0_positionOf
theorem dX2_isKept_0 : decode cX2_isKept 0 = .ok (.aload_n 0, 1) := by decide +kernel
theorem dX2_isKept_1 : decode cX2_isKept 1 = .ok (.getfield 10, 3) := by decide +kernel
theorem dX2_isKept_4 : decode cX2_isKept 4 = .ok (.iload_n 1, 1) := by decide +kernel
theorem dX2_isKept_5 : decode cX2_isKept 5 = .ok (.invokevirtual 130, 3) := by decide +kernel
theorem dX2_isKept_8 : decode cX2_isKept 8 = .ok (.iconst (-1), 1) := by decide +kernel
theorem dX2_isKept_9 : decode cX2_isKept 9 = .ok (.if_icmp .eq 7, 3) := by decide +kernel
theorem dX2_isKept_12 : decode cX2_isKept 12 = .ok (.iconst 1, 1) := by decide +kernel
theorem dX2_isKept_13 : decode cX2_isKept 13 = .ok (.goto 4, 3) := by decide +kernel
theorem dX2_isKept_16 : decode cX2_isKept 16 = .ok (.iconst 0, 1) := by decide +kernel
theorem dX2_isKept_17 : decode cX2_isKept 17 = .ok (.ireturn, 1) := by decide +kernel
set_option maxRecDepth 20000 in
theorem ggX2_keyAt_X2_keptPosition : GoodIn wsX2_keyAt wsX2_keptPosition := goodIn_ca (goodIn_r _ [6, 7, 8, 1, 9, 10, 11, 12, 13, 14, 15, 16, 17, 18, 19, 20, 21, 22, 23, 24, 25, 26, 27, 28, 29, 30, 31, 32, 33, 34, 35] (by decide +kernel) (by decide +kernel)) (goodIn_sub (fun _ h => List.mem_cons_of_mem _ (List.mem_append_right _ h)) (by decide +kernel))
set_option maxRecDepth 20000 in
theorem gX2_keyAt_X2_keptPosition : GoodIn wsX2_keyAt (wsV RX2 137 RX2 yX2_keptPosition wsX2_keptPosition) := goodIn_app (goodIn_of _ (by decide +kernel)) ggX2_keyAt_X2_keptPosition
theorem dX2_keyAt_0 : decode cX2_keyAt 0 = .ok (.aload_n 0, 1) := by decide +kernel
theorem dX2_keyAt_1 : decode cX2_keyAt 1 = .ok (.getfield 10, 3) := by decide +kernel
theorem dX2_keyAt_4 : decode cX2_keyAt 4 = .ok (.getfield 134, 3) := by decide +kernel
theorem dX2_keyAt_7 : decode cX2_keyAt 7 = .ok (.aload_n 0, 1) := by decide +kernel
theorem dX2_keyAt_8 : decode cX2_keyAt 8 = .ok (.iload_n 1, 1) := by decide +kernel
theorem dX2_keyAt_9 : decode cX2_keyAt 9 = .ok (.invokevirtual 137, 3) := by decide +kernel
theorem dX2_keyAt_12 : decode cX2_keyAt 12 = .ok (.iaload, 1) := by decide +kernel
theorem dX2_keyAt_13 : decode cX2_keyAt 13 = .ok (.ireturn, 1) := by decide +kernel
set_option maxRecDepth 20000 in
theorem ggX2_valueAt_X2_keptPosition : GoodIn wsX2_valueAt wsX2_keptPosition := goodIn_ca (goodIn_r _ [6, 7, 8, 1, 9, 10, 11, 12, 13, 14, 15, 16, 17, 18, 19, 20, 21, 22, 23, 24, 25, 26, 27, 28, 29, 30, 31, 32, 33, 34, 35] (by decide +kernel) (by decide +kernel)) (goodIn_sub (fun _ h => List.mem_cons_of_mem _ (List.mem_append_right _ h)) (by decide +kernel))
set_option maxRecDepth 20000 in
theorem gX2_valueAt_X2_keptPosition : GoodIn wsX2_valueAt (wsV RX2 137 RX2 yX2_keptPosition wsX2_keptPosition) := goodIn_app (goodIn_of _ (by decide +kernel)) ggX2_valueAt_X2_keptPosition
theorem dX2_valueAt_0 : decode cX2_valueAt 0 = .ok (.aload_n 0, 1) := by decide +kernel
theorem dX2_valueAt_1 : decode cX2_valueAt 1 = .ok (.getfield 10, 3) := by decide +kernel
theorem dX2_valueAt_4 : decode cX2_valueAt 4 = .ok (.getfield 140, 3) := by decide +kernel
theorem dX2_valueAt_7 : decode cX2_valueAt 7 = .ok (.aload_n 0, 1) := by decide +kernel
theorem dX2_valueAt_8 : decode cX2_valueAt 8 = .ok (.iload_n 1, 1) := by decide +kernel
theorem dX2_valueAt_9 : decode cX2_valueAt 9 = .ok (.invokevirtual 137, 3) := by decide +kernel
theorem dX2_valueAt_12 : decode cX2_valueAt 12 = .ok (.iaload, 1) := by decide +kernel
theorem dX2_valueAt_13 : decode cX2_valueAt 13 = .ok (.ireturn, 1) := by decide +kernel
set_option maxRecDepth 20000 in
theorem ggX2_stormAt_X2_keptPosition : GoodIn wsX2_stormAt wsX2_keptPosition := goodIn_ca (goodIn_r _ [6, 7, 8, 1, 9, 10, 11, 12, 13, 14, 15, 16, 17, 18, 19, 20, 21, 22, 23, 24, 25, 26, 27, 28, 29, 30, 31, 32, 33, 34, 35] (by decide +kernel) (by decide +kernel)) (goodIn_sub (fun _ h => List.mem_cons_of_mem _ (List.mem_append_right _ h)) (by decide +kernel))
set_option maxRecDepth 20000 in
theorem gX2_stormAt_X2_keptPosition : GoodIn wsX2_stormAt (wsV RX2 137 RX2 yX2_keptPosition wsX2_keptPosition) := goodIn_app (goodIn_of _ (by decide +kernel)) ggX2_stormAt_X2_keptPosition
theorem dX2_stormAt_0 : decode cX2_stormAt 0 = .ok (.aload_n 0, 1) := by decide +kernel
theorem dX2_stormAt_1 : decode cX2_stormAt 1 = .ok (.getfield 10, 3) := by decide +kernel
theorem dX2_stormAt_4 : decode cX2_stormAt 4 = .ok (.getfield 143, 3) := by decide +kernel
theorem dX2_stormAt_7 : decode cX2_stormAt 7 = .ok (.aload_n 0, 1) := by decide +kernel
theorem dX2_stormAt_8 : decode cX2_stormAt 8 = .ok (.iload_n 1, 1) := by decide +kernel
theorem dX2_stormAt_9 : decode cX2_stormAt 9 = .ok (.invokevirtual 137, 3) := by decide +kernel
theorem dX2_stormAt_12 : decode cX2_stormAt 12 = .ok (.iaload, 1) := by decide +kernel
theorem dX2_stormAt_13 : decode cX2_stormAt 13 = .ok (.ireturn, 1) := by decide +kernel
set_option maxRecDepth 20000 in
theorem ggX2_latestOf_X2_checkKey : GoodIn wsX2_latestOf wsX2_checkKey := goodIn_ca (goodIn_r _ [5, 6, 7, 8, 9, 4, 10] (by decide +kernel) (by decide +kernel)) (goodIn_sub (fun _ h => List.mem_cons_of_mem _ (List.mem_append_right _ h)) (by decide +kernel))
set_option maxRecDepth 20000 in
theorem gX2_latestOf_X2_checkKey : GoodIn wsX2_latestOf (va_wsS RX2 146 yX2_checkKey wsX2_checkKey) := goodIn_app (goodIn_of _ (by decide +kernel)) ggX2_latestOf_X2_checkKey
set_option maxRecDepth 20000 in
theorem ggX2_latestOf_X0_latestOffset : GoodIn wsX2_latestOf wsX0_latestOffset := goodIn_r _ [14, 15, 16, 17, 18, 19, 12, 20, 21, 31, 32, 33, 34, 35, 36, 37, 38] (by decide +kernel) (by decide +kernel)
set_option maxRecDepth 20000 in
theorem gX2_latestOf_X0_latestOffset_n149 : GoodIn wsX2_latestOf (wsX0_latestOffset) := ggX2_latestOf_X0_latestOffset
theorem dX2_latestOf_0 : decode cX2_latestOf 0 = .ok (.iload_n 1, 1) := by decide +kernel
theorem dX2_latestOf_1 : decode cX2_latestOf 1 = .ok (.invokestatic 146, 3) := by decide +kernel
theorem dX2_latestOf_4 : decode cX2_latestOf 4 = .ok (.aload_n 0, 1) := by decide +kernel
theorem dX2_latestOf_5 : decode cX2_latestOf 5 = .ok (.getfield 10, 3) := by decide +kernel
theorem dX2_latestOf_8 : decode cX2_latestOf 8 = .ok (.iload_n 1, 1) := by decide +kernel
theorem dX2_latestOf_9 : decode cX2_latestOf 9 = .ok (.invokevirtual 149, 3) := by decide +kernel
theorem dX2_latestOf_12 : decode cX2_latestOf 12 = .ok (.ireturn, 1) := by decide +kernel
set_option maxRecDepth 20000 in
theorem ggX2_valueOf_X2_checkKey : GoodIn wsX2_valueOf wsX2_checkKey := goodIn_ca (goodIn_r _ [5, 6, 7, 8, 9, 4, 10] (by decide +kernel) (by decide +kernel)) (goodIn_sub (fun _ h => List.mem_cons_of_mem _ (List.mem_append_right _ h)) (by decide +kernel))
set_option maxRecDepth 20000 in
theorem gX2_valueOf_X2_checkKey : GoodIn wsX2_valueOf (va_wsS RX2 146 yX2_checkKey wsX2_checkKey) := goodIn_app (goodIn_of _ (by decide +kernel)) ggX2_valueOf_X2_checkKey
set_option maxRecDepth 20000 in
theorem ggX2_valueOf_X0_latestValue : GoodIn wsX2_valueOf wsX0_latestValue := goodIn_r _ [14, 15, 16, 17, 18, 19, 12, 20, 21, 31, 32, 33, 34, 35, 36, 37, 38] (by decide +kernel) (by decide +kernel)
set_option maxRecDepth 20000 in
theorem gX2_valueOf_X0_latestValue_n152 : GoodIn wsX2_valueOf (wsX0_latestValue) := ggX2_valueOf_X0_latestValue
theorem dX2_valueOf_0 : decode cX2_valueOf 0 = .ok (.iload_n 1, 1) := by decide +kernel
theorem dX2_valueOf_1 : decode cX2_valueOf 1 = .ok (.invokestatic 146, 3) := by decide +kernel
theorem dX2_valueOf_4 : decode cX2_valueOf 4 = .ok (.aload_n 0, 1) := by decide +kernel
theorem dX2_valueOf_5 : decode cX2_valueOf 5 = .ok (.getfield 10, 3) := by decide +kernel
theorem dX2_valueOf_8 : decode cX2_valueOf 8 = .ok (.iload_n 1, 1) := by decide +kernel
theorem dX2_valueOf_9 : decode cX2_valueOf 9 = .ok (.invokevirtual 152, 3) := by decide +kernel
theorem dX2_valueOf_12 : decode cX2_valueOf 12 = .ok (.ireturn, 1) := by decide +kernel
set_option maxRecDepth 20000 in
theorem ggX2_countOf_X2_checkKey : GoodIn wsX2_countOf wsX2_checkKey := goodIn_ca (goodIn_r _ [5, 6, 7, 8, 9, 4, 10] (by decide +kernel) (by decide +kernel)) (goodIn_sub (fun _ h => List.mem_cons_of_mem _ (List.mem_append_right _ h)) (by decide +kernel))
set_option maxRecDepth 20000 in
theorem gX2_countOf_X2_checkKey : GoodIn wsX2_countOf (va_wsS RX2 146 yX2_checkKey wsX2_checkKey) := goodIn_app (goodIn_of _ (by decide +kernel)) ggX2_countOf_X2_checkKey
set_option maxRecDepth 20000 in
theorem ggX2_countOf_X0_countKey : GoodIn wsX2_countOf wsX0_countKey := goodIn_r _ [14, 15, 16, 17, 18, 12, 19, 20, 30, 31, 32, 33, 34, 35, 36, 37] (by decide +kernel) (by decide +kernel)
set_option maxRecDepth 20000 in
theorem gX2_countOf_X0_countKey_n155 : GoodIn wsX2_countOf (wsX0_countKey) := ggX2_countOf_X0_countKey
theorem dX2_countOf_0 : decode cX2_countOf 0 = .ok (.iload_n 1, 1) := by decide +kernel
theorem dX2_countOf_1 : decode cX2_countOf 1 = .ok (.invokestatic 146, 3) := by decide +kernel
theorem dX2_countOf_4 : decode cX2_countOf 4 = .ok (.aload_n 0, 1) := by decide +kernel
theorem dX2_countOf_5 : decode cX2_countOf 5 = .ok (.getfield 10, 3) := by decide +kernel
theorem dX2_countOf_8 : decode cX2_countOf 8 = .ok (.iload_n 1, 1) := by decide +kernel
theorem dX2_countOf_9 : decode cX2_countOf 9 = .ok (.invokevirtual 155, 3) := by decide +kernel
theorem dX2_countOf_12 : decode cX2_countOf 12 = .ok (.ireturn, 1) := by decide +kernel
theorem dX2_storms_0 : decode cX2_storms 0 = .ok (.aload_n 0, 1) := by decide +kernel
theorem dX2_storms_1 : decode cX2_storms 1 = .ok (.getfield 59, 3) := by decide +kernel
theorem dX2_storms_4 : decode cX2_storms 4 = .ok (.ireturn, 1) := by decide +kernel
theorem dX2_isStormy_0 : decode cX2_isStormy 0 = .ok (.aload_n 0, 1) := by decide +kernel
theorem dX2_isStormy_1 : decode cX2_isStormy 1 = .ok (.getfield 50, 3) := by decide +kernel
theorem dX2_isStormy_4 : decode cX2_isStormy 4 = .ok (.ireturn, 1) := by decide +kernel
set_option maxRecDepth 20000 in
theorem ggX2_saidIn_X2_checkStorm : GoodIn wsX2_saidIn wsX2_checkStorm := goodIn_ca (goodIn_r _ [6, 7, 8, 9, 10, 11, 12, 13, 14, 15, 16, 17, 18] (by decide +kernel) (by decide +kernel)) (goodIn_sub (fun _ h => List.mem_cons_of_mem _ (List.mem_append_right _ h)) (by decide +kernel))
set_option maxRecDepth 20000 in
theorem gX2_saidIn_X2_checkStorm : GoodIn wsX2_saidIn (wsV RX2 67 RX2 yX2_checkStorm wsX2_checkStorm) := goodIn_app (goodIn_of _ (by decide +kernel)) ggX2_saidIn_X2_checkStorm
theorem dX2_saidIn_0 : decode cX2_saidIn 0 = .ok (.aload_n 0, 1) := by decide +kernel
theorem dX2_saidIn_1 : decode cX2_saidIn 1 = .ok (.iload_n 1, 1) := by decide +kernel
theorem dX2_saidIn_2 : decode cX2_saidIn 2 = .ok (.invokevirtual 67, 3) := by decide +kernel
theorem dX2_saidIn_5 : decode cX2_saidIn 5 = .ok (.aload_n 0, 1) := by decide +kernel
theorem dX2_saidIn_6 : decode cX2_saidIn 6 = .ok (.getfield 16, 3) := by decide +kernel
theorem dX2_saidIn_9 : decode cX2_saidIn 9 = .ok (.iload_n 1, 1) := by decide +kernel
theorem dX2_saidIn_10 : decode cX2_saidIn 10 = .ok (.iaload, 1) := by decide +kernel
theorem dX2_saidIn_11 : decode cX2_saidIn 11 = .ok (.ireturn, 1) := by decide +kernel
set_option maxRecDepth 20000 in
theorem ggX2_keptOf_X2_checkStorm : GoodIn wsX2_keptOf wsX2_checkStorm := goodIn_ca (goodIn_r _ [6, 7, 8, 9, 20, 21, 22, 23, 24, 25, 26, 27, 28] (by decide +kernel) (by decide +kernel)) (goodIn_sub (fun _ h => List.mem_cons_of_mem _ (List.mem_append_right _ h)) (by decide +kernel))
set_option maxRecDepth 20000 in
theorem gX2_keptOf_X2_checkStorm : GoodIn wsX2_keptOf (wsV RX2 67 RX2 yX2_checkStorm wsX2_checkStorm) := goodIn_app (goodIn_of _ (by decide +kernel)) ggX2_keptOf_X2_checkStorm
set_option maxRecDepth 20000 in
theorem ggX2_keptOf_X0_countStorm : GoodIn wsX2_keptOf wsX0_countStorm := goodIn_r _ [13, 14, 15, 16, 17, 11, 18, 19, 29, 30, 31, 32, 33, 34, 35, 36] (by decide +kernel) (by decide +kernel)
set_option maxRecDepth 20000 in
theorem gX2_keptOf_X0_countStorm_n158 : GoodIn wsX2_keptOf (wsX0_countStorm) := ggX2_keptOf_X0_countStorm
theorem dX2_keptOf_0 : decode cX2_keptOf 0 = .ok (.aload_n 0, 1) := by decide +kernel
theorem dX2_keptOf_1 : decode cX2_keptOf 1 = .ok (.iload_n 1, 1) := by decide +kernel
theorem dX2_keptOf_2 : decode cX2_keptOf 2 = .ok (.invokevirtual 67, 3) := by decide +kernel
theorem dX2_keptOf_5 : decode cX2_keptOf 5 = .ok (.aload_n 0, 1) := by decide +kernel
theorem dX2_keptOf_6 : decode cX2_keptOf 6 = .ok (.getfield 10, 3) := by decide +kernel
theorem dX2_keptOf_9 : decode cX2_keptOf 9 = .ok (.iload_n 1, 1) := by decide +kernel
theorem dX2_keptOf_10 : decode cX2_keptOf 10 = .ok (.invokevirtual 158, 3) := by decide +kernel
theorem dX2_keptOf_13 : decode cX2_keptOf 13 = .ok (.ireturn, 1) := by decide +kernel
theorem dX2_ships_0 : decode cX2_ships 0 = .ok (.aload_n 0, 1) := by decide +kernel
theorem dX2_ships_1 : decode cX2_ships 1 = .ok (.getfield 90, 3) := by decide +kernel
theorem dX2_ships_4 : decode cX2_ships 4 = .ok (.ireturn, 1) := by decide +kernel
set_option maxRecDepth 20000 in
theorem ggX2_offsetOf_X2_shipNumbered : GoodIn wsX2_offsetOf wsX2_shipNumbered := goodIn_ca (goodIn_r _ [5, 6, 7, 8, 9, 15, 16, 17, 18, 19, 20, 21, 22, 23] (by decide +kernel) (by decide +kernel)) (goodIn_sub (fun _ h => List.mem_cons_of_mem _ (List.mem_append_right _ h)) (by decide +kernel))
set_option maxRecDepth 20000 in
theorem gX2_offsetOf_X2_shipNumbered : GoodIn wsX2_offsetOf (wsV RX2 101 RX2 yX2_shipNumbered wsX2_shipNumbered) := goodIn_app (goodIn_of _ (by decide +kernel)) ggX2_offsetOf_X2_shipNumbered
theorem dX2_offsetOf_0 : decode cX2_offsetOf 0 = .ok (.aload_n 0, 1) := by decide +kernel
theorem dX2_offsetOf_1 : decode cX2_offsetOf 1 = .ok (.iload_n 1, 1) := by decide +kernel
theorem dX2_offsetOf_2 : decode cX2_offsetOf 2 = .ok (.invokevirtual 101, 3) := by decide +kernel
theorem dX2_offsetOf_5 : decode cX2_offsetOf 5 = .ok (.getfield 98, 3) := by decide +kernel
theorem dX2_offsetOf_8 : decode cX2_offsetOf 8 = .ok (.ireturn, 1) := by decide +kernel
set_option maxRecDepth 20000 in
theorem ggX2_lagOf_X2_shipNumbered : GoodIn wsX2_lagOf wsX2_shipNumbered := goodIn_ca (goodIn_r _ [5, 6, 7, 8, 9, 21, 22, 23, 24, 25, 26, 27, 28, 29] (by decide +kernel) (by decide +kernel)) (goodIn_sub (fun _ h => List.mem_cons_of_mem _ (List.mem_append_right _ h)) (by decide +kernel))
set_option maxRecDepth 20000 in
theorem gX2_lagOf_X2_shipNumbered : GoodIn wsX2_lagOf (wsV RX2 101 RX2 yX2_shipNumbered wsX2_shipNumbered) := goodIn_app (goodIn_of _ (by decide +kernel)) ggX2_lagOf_X2_shipNumbered
set_option maxRecDepth 20000 in
theorem ggX2_lagOf_X2_lag : GoodIn wsX2_lagOf wsX2_lag := goodIn_r _ [13, 14, 15, 16, 17, 18, 19, 20, 21, 22, 23, 24, 25, 26, 27, 28, 29, 30, 31, 32, 33, 34, 35, 36, 37, 38, 39, 40, 41, 42] (by decide +kernel) (by decide +kernel)
set_option maxRecDepth 20000 in
theorem gX2_lagOf_X2_lag : GoodIn wsX2_lagOf (wsV RX2 161 RX2 yX2_lag wsX2_lag) := goodIn_app (goodIn_of _ (by decide +kernel)) ggX2_lagOf_X2_lag
theorem dX2_lagOf_0 : decode cX2_lagOf 0 = .ok (.aload_n 0, 1) := by decide +kernel
theorem dX2_lagOf_1 : decode cX2_lagOf 1 = .ok (.aload_n 0, 1) := by decide +kernel
theorem dX2_lagOf_2 : decode cX2_lagOf 2 = .ok (.iload_n 1, 1) := by decide +kernel
theorem dX2_lagOf_3 : decode cX2_lagOf 3 = .ok (.invokevirtual 101, 3) := by decide +kernel
theorem dX2_lagOf_6 : decode cX2_lagOf 6 = .ok (.invokevirtual 161, 3) := by decide +kernel
theorem dX2_lagOf_9 : decode cX2_lagOf 9 = .ok (.ireturn, 1) := by decide +kernel
set_option maxRecDepth 20000 in
theorem ggX2_heardBy_X2_shipNumbered : GoodIn wsX2_heardBy wsX2_shipNumbered := goodIn_ca (goodIn_r _ [5, 6, 7, 8, 9, 15, 16, 17, 18, 19, 20, 21, 22, 23] (by decide +kernel) (by decide +kernel)) (goodIn_sub (fun _ h => List.mem_cons_of_mem _ (List.mem_append_right _ h)) (by decide +kernel))
set_option maxRecDepth 20000 in
theorem gX2_heardBy_X2_shipNumbered : GoodIn wsX2_heardBy (wsV RX2 101 RX2 yX2_shipNumbered wsX2_shipNumbered) := goodIn_app (goodIn_of _ (by decide +kernel)) ggX2_heardBy_X2_shipNumbered
theorem dX2_heardBy_0 : decode cX2_heardBy 0 = .ok (.aload_n 0, 1) := by decide +kernel
theorem dX2_heardBy_1 : decode cX2_heardBy 1 = .ok (.iload_n 1, 1) := by decide +kernel
theorem dX2_heardBy_2 : decode cX2_heardBy 2 = .ok (.invokevirtual 101, 3) := by decide +kernel
theorem dX2_heardBy_5 : decode cX2_heardBy 5 = .ok (.getfield 165, 3) := by decide +kernel
theorem dX2_heardBy_8 : decode cX2_heardBy 8 = .ok (.ireturn, 1) := by decide +kernel
set_option maxRecDepth 20000 in
theorem ggX2_missedBy_X2_shipNumbered : GoodIn wsX2_missedBy wsX2_shipNumbered := goodIn_ca (goodIn_r _ [5, 6, 7, 8, 9, 15, 16, 17, 18, 19, 20, 21, 22, 23] (by decide +kernel) (by decide +kernel)) (goodIn_sub (fun _ h => List.mem_cons_of_mem _ (List.mem_append_right _ h)) (by decide +kernel))
set_option maxRecDepth 20000 in
theorem gX2_missedBy_X2_shipNumbered : GoodIn wsX2_missedBy (wsV RX2 101 RX2 yX2_shipNumbered wsX2_shipNumbered) := goodIn_app (goodIn_of _ (by decide +kernel)) ggX2_missedBy_X2_shipNumbered
theorem dX2_missedBy_0 : decode cX2_missedBy 0 = .ok (.aload_n 0, 1) := by decide +kernel
theorem dX2_missedBy_1 : decode cX2_missedBy 1 = .ok (.iload_n 1, 1) := by decide +kernel
theorem dX2_missedBy_2 : decode cX2_missedBy 2 = .ok (.invokevirtual 101, 3) := by decide +kernel
theorem dX2_missedBy_5 : decode cX2_missedBy 5 = .ok (.getfield 168, 3) := by decide +kernel
theorem dX2_missedBy_8 : decode cX2_missedBy 8 = .ok (.ireturn, 1) := by decide +kernel
set_option maxRecDepth 20000 in
theorem ggX2_knownBy_X2_shipNumbered : GoodIn wsX2_knownBy wsX2_shipNumbered := goodIn_ca (goodIn_r _ [5, 6, 7, 8, 9, 21, 22, 23, 24, 25, 26, 27, 28, 29] (by decide +kernel) (by decide +kernel)) (goodIn_sub (fun _ h => List.mem_cons_of_mem _ (List.mem_append_right _ h)) (by decide +kernel))
set_option maxRecDepth 20000 in
theorem gX2_knownBy_X2_shipNumbered : GoodIn wsX2_knownBy (wsV RX2 101 RX2 yX2_shipNumbered wsX2_shipNumbered) := goodIn_app (goodIn_of _ (by decide +kernel)) ggX2_knownBy_X2_shipNumbered
set_option maxRecDepth 20000 in
theorem ggX2_knownBy_X2_checkKey : GoodIn wsX2_knownBy wsX2_checkKey := goodIn_ca (goodIn_r _ [12, 6, 7, 13, 14, 4, 15] (by decide +kernel) (by decide +kernel)) (goodIn_sub (fun _ h => List.mem_cons_of_mem _ (List.mem_append_right _ h)) (by decide +kernel))
set_option maxRecDepth 20000 in
theorem gX2_knownBy_X2_checkKey : GoodIn wsX2_knownBy (va_wsS RX2 146 yX2_checkKey wsX2_checkKey) := goodIn_app (goodIn_of _ (by decide +kernel)) ggX2_knownBy_X2_checkKey
theorem dX2_knownBy_0 : decode cX2_knownBy 0 = .ok (.aload_n 0, 1) := by decide +kernel
theorem dX2_knownBy_1 : decode cX2_knownBy 1 = .ok (.iload_n 1, 1) := by decide +kernel
theorem dX2_knownBy_2 : decode cX2_knownBy 2 = .ok (.invokevirtual 101, 3) := by decide +kernel
theorem dX2_knownBy_5 : decode cX2_knownBy 5 = .ok (.astore_n 3, 1) := by decide +kernel
theorem dX2_knownBy_6 : decode cX2_knownBy 6 = .ok (.iload_n 2, 1) := by decide +kernel
theorem dX2_knownBy_7 : decode cX2_knownBy 7 = .ok (.invokestatic 146, 3) := by decide +kernel
theorem dX2_knownBy_10 : decode cX2_knownBy 10 = .ok (.aload_n 3, 1) := by decide +kernel
theorem dX2_knownBy_11 : decode cX2_knownBy 11 = .ok (.getfield 171, 3) := by decide +kernel
theorem dX2_knownBy_14 : decode cX2_knownBy 14 = .ok (.iload_n 2, 1) := by decide +kernel
theorem dX2_knownBy_15 : decode cX2_knownBy 15 = .ok (.iaload, 1) := by decide +kernel
theorem dX2_knownBy_16 : decode cX2_knownBy 16 = .ok (.ireturn, 1) := by decide +kernel
set_option maxRecDepth 20000 in
theorem ggX2_errorsOf_X2_shipNumbered : GoodIn wsX2_errorsOf wsX2_shipNumbered := goodIn_ca (goodIn_r _ [5, 6, 7, 8, 9, 34, 35, 36, 37, 38, 39, 40, 41, 42] (by decide +kernel) (by decide +kernel)) (goodIn_sub (fun _ h => List.mem_cons_of_mem _ (List.mem_append_right _ h)) (by decide +kernel))
set_option maxRecDepth 20000 in
theorem gX2_errorsOf_X2_shipNumbered : GoodIn wsX2_errorsOf (wsV RX2 101 RX2 yX2_shipNumbered wsX2_shipNumbered) := goodIn_app (goodIn_of _ (by decide +kernel)) ggX2_errorsOf_X2_shipNumbered
set_option maxRecDepth 20000 in
theorem ggX2_errorsOf_X2_errorsAfter : GoodIn wsX2_errorsOf wsX2_errorsAfter := goodIn_r _ [13, 14, 15, 16, 17, 18, 19, 20, 21, 22, 23, 24, 25, 26, 27, 28, 29, 30, 31, 32, 33, 34, 35, 36, 37, 38, 39, 40, 41, 42, 43, 44, 45, 46, 47, 48, 49, 50, 51, 52, 53, 54, 55] (by decide +kernel) (by decide +kernel)
set_option maxRecDepth 20000 in
theorem gX2_errorsOf_X2_errorsAfter : GoodIn wsX2_errorsOf (wsV RX2 174 RX2 yX2_errorsAfter wsX2_errorsAfter) := goodIn_app (goodIn_of _ (by decide +kernel)) ggX2_errorsOf_X2_errorsAfter
theorem dX2_errorsOf_0 : decode cX2_errorsOf 0 = .ok (.aload_n 0, 1) := by decide +kernel
theorem dX2_errorsOf_1 : decode cX2_errorsOf 1 = .ok (.aload_n 0, 1) := by decide +kernel
theorem dX2_errorsOf_2 : decode cX2_errorsOf 2 = .ok (.iload_n 1, 1) := by decide +kernel
theorem dX2_errorsOf_3 : decode cX2_errorsOf 3 = .ok (.invokevirtual 101, 3) := by decide +kernel
theorem dX2_errorsOf_6 : decode cX2_errorsOf 6 = .ok (.iconst 0, 1) := by decide +kernel
theorem dX2_errorsOf_7 : decode cX2_errorsOf 7 = .ok (.invokevirtual 174, 3) := by decide +kernel
theorem dX2_errorsOf_10 : decode cX2_errorsOf 10 = .ok (.ireturn, 1) := by decide +kernel
set_option maxRecDepth 20000 in
theorem ggX2_farthestBehind_X2_lag : GoodIn wsX2_farthestBehind wsX2_lag := goodIn_r _ [7, 8, 9, 10, 11, 12, 13, 14, 15, 16, 17, 18, 19, 20, 21, 22, 23, 24, 25, 26, 27, 28, 29, 30, 31, 32, 33, 34, 35, 36] (by decide +kernel) (by decide +kernel)
set_option maxRecDepth 20000 in
theorem gX2_farthestBehind_X2_lag : GoodIn wsX2_farthestBehind (wsV RX2 161 RX2 yX2_lag wsX2_lag) := goodIn_app (goodIn_of _ (by decide +kernel)) ggX2_farthestBehind_X2_lag
theorem dX2_farthestBehind_0 : decode cX2_farthestBehind 0 = .ok (.iconst (-1), 1) := by decide +kernel
theorem dX2_farthestBehind_1 : decode cX2_farthestBehind 1 = .ok (.istore_n 1, 1) := by decide +kernel
theorem dX2_farthestBehind_2 : decode cX2_farthestBehind 2 = .ok (.iconst (-1), 1) := by decide +kernel
theorem dX2_farthestBehind_3 : decode cX2_farthestBehind 3 = .ok (.istore_n 2, 1) := by decide +kernel
theorem dX2_farthestBehind_4 : decode cX2_farthestBehind 4 = .ok (.iconst 0, 1) := by decide +kernel
theorem dX2_farthestBehind_5 : decode cX2_farthestBehind 5 = .ok (.istore_n 3, 1) := by decide +kernel
theorem dX2_farthestBehind_6 : decode cX2_farthestBehind 6 = .ok (.iload_n 3, 1) := by decide +kernel
theorem dX2_farthestBehind_7 : decode cX2_farthestBehind 7 = .ok (.aload_n 0, 1) := by decide +kernel
theorem dX2_farthestBehind_8 : decode cX2_farthestBehind 8 = .ok (.getfield 90, 3) := by decide +kernel
theorem dX2_farthestBehind_11 : decode cX2_farthestBehind 11 = .ok (.if_icmp .ge 32, 3) := by decide +kernel
theorem dX2_farthestBehind_14 : decode cX2_farthestBehind 14 = .ok (.aload_n 0, 1) := by decide +kernel
theorem dX2_farthestBehind_15 : decode cX2_farthestBehind 15 = .ok (.aload_n 0, 1) := by decide +kernel
theorem dX2_farthestBehind_16 : decode cX2_farthestBehind 16 = .ok (.getfield 22, 3) := by decide +kernel
theorem dX2_farthestBehind_19 : decode cX2_farthestBehind 19 = .ok (.iload_n 3, 1) := by decide +kernel
theorem dX2_farthestBehind_20 : decode cX2_farthestBehind 20 = .ok (.aaload, 1) := by decide +kernel
theorem dX2_farthestBehind_21 : decode cX2_farthestBehind 21 = .ok (.invokevirtual 161, 3) := by decide +kernel
theorem dX2_farthestBehind_24 : decode cX2_farthestBehind 24 = .ok (.istore 4, 2) := by decide +kernel
theorem dX2_farthestBehind_26 : decode cX2_farthestBehind 26 = .ok (.iload 4, 2) := by decide +kernel
theorem dX2_farthestBehind_28 : decode cX2_farthestBehind 28 = .ok (.iload_n 2, 1) := by decide +kernel
theorem dX2_farthestBehind_29 : decode cX2_farthestBehind 29 = .ok (.if_icmp .le 8, 3) := by decide +kernel
theorem dX2_farthestBehind_32 : decode cX2_farthestBehind 32 = .ok (.iload_n 3, 1) := by decide +kernel
theorem dX2_farthestBehind_33 : decode cX2_farthestBehind 33 = .ok (.istore_n 1, 1) := by decide +kernel
theorem dX2_farthestBehind_34 : decode cX2_farthestBehind 34 = .ok (.iload 4, 2) := by decide +kernel
theorem dX2_farthestBehind_36 : decode cX2_farthestBehind 36 = .ok (.istore_n 2, 1) := by decide +kernel
theorem dX2_farthestBehind_37 : decode cX2_farthestBehind 37 = .ok (.iinc 3 1, 3) := by decide +kernel
theorem dX2_farthestBehind_40 : decode cX2_farthestBehind 40 = .ok (.goto (-34), 3) := by decide +kernel
theorem dX2_farthestBehind_43 : decode cX2_farthestBehind 43 = .ok (.iload_n 1, 1) := by decide +kernel
theorem dX2_farthestBehind_44 : decode cX2_farthestBehind 44 = .ok (.ireturn, 1) := by decide +kernel
set_option maxRecDepth 20000 in
theorem ggX2_hoursUntilCaughtUp_X2_shipNumbered : GoodIn wsX2_hoursUntilCaughtUp wsX2_shipNumbered := goodIn_ca (goodIn_r _ [5, 6, 7, 8, 9, 30, 31, 32, 33, 34, 35, 36, 37, 38] (by decide +kernel) (by decide +kernel)) (goodIn_sub (fun _ h => List.mem_cons_of_mem _ (List.mem_append_right _ h)) (by decide +kernel))
set_option maxRecDepth 20000 in
theorem gX2_hoursUntilCaughtUp_X2_shipNumbered : GoodIn wsX2_hoursUntilCaughtUp (wsV RX2 101 RX2 yX2_shipNumbered wsX2_shipNumbered) := goodIn_app (goodIn_of _ (by decide +kernel)) ggX2_hoursUntilCaughtUp_X2_shipNumbered
set_option maxRecDepth 20000 in
theorem ggX2_hoursUntilCaughtUp_X2_hoursToGo : GoodIn wsX2_hoursUntilCaughtUp wsX2_hoursToGo := goodIn_r _ [13, 14, 15, 16, 4, 17, 18, 19, 20, 21, 22, 23, 24, 25, 26, 27, 28, 29, 39, 40, 41, 42, 43, 30, 31, 32, 33, 34, 35, 36, 37, 38, 44, 45, 46, 47, 48, 49, 50, 51] (by decide +kernel) (by decide +kernel)
set_option maxRecDepth 20000 in
theorem gX2_hoursUntilCaughtUp_X2_hoursToGo : GoodIn wsX2_hoursUntilCaughtUp (wsV RX2 177 RX2 yX2_hoursToGo wsX2_hoursToGo) := goodIn_app (goodIn_of _ (by decide +kernel)) ggX2_hoursUntilCaughtUp_X2_hoursToGo
theorem dX2_hoursUntilCaughtUp_0 : decode cX2_hoursUntilCaughtUp 0 = .ok (.aload_n 0, 1) := by decide +kernel
theorem dX2_hoursUntilCaughtUp_1 : decode cX2_hoursUntilCaughtUp 1 = .ok (.aload_n 0, 1) := by decide +kernel
theorem dX2_hoursUntilCaughtUp_2 : decode cX2_hoursUntilCaughtUp 2 = .ok (.iload_n 1, 1) := by decide +kernel
theorem dX2_hoursUntilCaughtUp_3 : decode cX2_hoursUntilCaughtUp 3 = .ok (.invokevirtual 101, 3) := by decide +kernel
theorem dX2_hoursUntilCaughtUp_6 : decode cX2_hoursUntilCaughtUp 6 = .ok (.invokevirtual 177, 3) := by decide +kernel
theorem dX2_hoursUntilCaughtUp_9 : decode cX2_hoursUntilCaughtUp 9 = .ok (.ireturn, 1) := by decide +kernel
set_option maxRecDepth 20000 in
theorem ggX2_errorsIn_X2_shipNumbered : GoodIn wsX2_errorsIn wsX2_shipNumbered := goodIn_ca (goodIn_r _ [5, 6, 7, 8, 9, 49, 50, 51, 52, 53, 54, 55, 56, 57] (by decide +kernel) (by decide +kernel)) (goodIn_sub (fun _ h => List.mem_cons_of_mem _ (List.mem_append_left _ (List.mem_append_right _ h))) (by decide +kernel))
set_option maxRecDepth 20000 in
theorem gX2_errorsIn_X2_shipNumbered : GoodIn wsX2_errorsIn (wsV RX2 101 RX2 yX2_shipNumbered wsX2_shipNumbered) := goodIn_app (goodIn_of _ (by decide +kernel)) ggX2_errorsIn_X2_shipNumbered
set_option maxRecDepth 20000 in
theorem ggX2_errorsIn_X2_checkHours : GoodIn wsX2_errorsIn wsX2_checkHours := goodIn_ca (goodIn_r _ [12, 13, 14] (by decide +kernel) (by decide +kernel)) (goodIn_sub (fun _ h => List.mem_cons_of_mem _ (List.mem_append_right _ h)) (by decide +kernel))
set_option maxRecDepth 20000 in
theorem gX2_errorsIn_X2_checkHours : GoodIn wsX2_errorsIn (va_wsS RX2 105 yX2_checkHours wsX2_checkHours) := goodIn_app (goodIn_of _ (by decide +kernel)) ggX2_errorsIn_X2_checkHours
set_option maxRecDepth 20000 in
theorem ggX2_errorsIn_X2_mostHeard : GoodIn wsX2_errorsIn wsX2_mostHeard := goodIn_r _ [18, 19, 49, 50, 51, 52, 53, 54, 55, 56, 57] (by decide +kernel) (by decide +kernel)
set_option maxRecDepth 20000 in
theorem gX2_errorsIn_X2_mostHeard : GoodIn wsX2_errorsIn (wsV RX2 108 RX2 yX2_mostHeard wsX2_mostHeard) := goodIn_app (goodIn_of _ (by decide +kernel)) ggX2_errorsIn_X2_mostHeard
set_option maxRecDepth 20000 in
theorem ggX2_errorsIn_X2_errorsAfter : GoodIn wsX2_errorsIn wsX2_errorsAfter := goodIn_r _ [23, 24, 25, 26, 27, 28, 29, 30, 31, 32, 33, 34, 35, 36, 37, 38, 39, 40, 41, 42, 43, 49, 50, 51, 52, 53, 54, 55, 56, 57, 44, 45, 46, 47, 48, 58, 59, 60, 61, 62, 63, 64, 65] (by decide +kernel) (by decide +kernel)
set_option maxRecDepth 20000 in
theorem gX2_errorsIn_X2_errorsAfter : GoodIn wsX2_errorsIn (wsV RX2 174 RX2 yX2_errorsAfter wsX2_errorsAfter) := goodIn_app (goodIn_of _ (by decide +kernel)) ggX2_errorsIn_X2_errorsAfter
theorem dX2_errorsIn_0 : decode cX2_errorsIn 0 = .ok (.aload_n 0, 1) := by decide +kernel
theorem dX2_errorsIn_1 : decode cX2_errorsIn 1 = .ok (.iload_n 1, 1) := by decide +kernel
theorem dX2_errorsIn_2 : decode cX2_errorsIn 2 = .ok (.invokevirtual 101, 3) := by decide +kernel
theorem dX2_errorsIn_5 : decode cX2_errorsIn 5 = .ok (.astore_n 3, 1) := by decide +kernel
theorem dX2_errorsIn_6 : decode cX2_errorsIn 6 = .ok (.iload_n 2, 1) := by decide +kernel
theorem dX2_errorsIn_7 : decode cX2_errorsIn 7 = .ok (.invokestatic 105, 3) := by decide +kernel
theorem dX2_errorsIn_10 : decode cX2_errorsIn 10 = .ok (.aload_n 0, 1) := by decide +kernel
theorem dX2_errorsIn_11 : decode cX2_errorsIn 11 = .ok (.aload_n 3, 1) := by decide +kernel
theorem dX2_errorsIn_12 : decode cX2_errorsIn 12 = .ok (.aload_n 0, 1) := by decide +kernel
theorem dX2_errorsIn_13 : decode cX2_errorsIn 13 = .ok (.iload_n 2, 1) := by decide +kernel
theorem dX2_errorsIn_14 : decode cX2_errorsIn 14 = .ok (.aload_n 3, 1) := by decide +kernel
theorem dX2_errorsIn_15 : decode cX2_errorsIn 15 = .ok (.getfield 95, 3) := by decide +kernel
theorem dX2_errorsIn_18 : decode cX2_errorsIn 18 = .ok (.invokevirtual 108, 3) := by decide +kernel
theorem dX2_errorsIn_21 : decode cX2_errorsIn 21 = .ok (.invokevirtual 174, 3) := by decide +kernel
theorem dX2_errorsIn_24 : decode cX2_errorsIn 24 = .ok (.ireturn, 1) := by decide +kernel
set_option maxRecDepth 20000 in
theorem ggX2_paceWanted_X2_shipNumbered : GoodIn wsX2_paceWanted wsX2_shipNumbered := goodIn_ca (goodIn_r _ [5, 6, 7, 8, 9, 31, 32, 33, 34, 35, 36, 37, 38, 39] (by decide +kernel) (by decide +kernel)) (goodIn_sub (fun _ h => List.mem_cons_of_mem _ (List.mem_append_left _ (List.mem_append_right _ h))) (by decide +kernel))
set_option maxRecDepth 20000 in
theorem gX2_paceWanted_X2_shipNumbered : GoodIn wsX2_paceWanted (wsV RX2 101 RX2 yX2_shipNumbered wsX2_shipNumbered) := goodIn_app (goodIn_of _ (by decide +kernel)) ggX2_paceWanted_X2_shipNumbered
set_option maxRecDepth 20000 in
theorem ggX2_paceWanted_X2_lag : GoodIn wsX2_paceWanted wsX2_lag := goodIn_r _ [13, 14, 15, 16, 17, 18, 19, 20, 31, 32, 33, 34, 35, 36, 37, 38, 39, 40, 41, 42, 43, 44, 45, 46, 47, 48, 49, 50, 51, 52] (by decide +kernel) (by decide +kernel)
set_option maxRecDepth 20000 in
theorem gX2_paceWanted_X2_lag : GoodIn wsX2_paceWanted (wsV RX2 161 RX2 yX2_lag wsX2_lag) := goodIn_app (goodIn_of _ (by decide +kernel)) ggX2_paceWanted_X2_lag
set_option maxRecDepth 20000 in
theorem ggX2_paceWanted_X2_checkHours : GoodIn wsX2_paceWanted wsX2_checkHours := goodIn_ca (goodIn_r _ [23, 24, 25] (by decide +kernel) (by decide +kernel)) (goodIn_sub (fun _ h => List.mem_cons_of_mem _ (List.mem_append_right _ h)) (by decide +kernel))
set_option maxRecDepth 20000 in
theorem gX2_paceWanted_X2_checkHours : GoodIn wsX2_paceWanted (va_wsS RX2 105 yX2_checkHours wsX2_checkHours) := goodIn_app (goodIn_of _ (by decide +kernel)) ggX2_paceWanted_X2_checkHours
set_option maxRecDepth 20000 in
theorem ggX2_paceWanted_X2_mostHeard : GoodIn wsX2_paceWanted wsX2_mostHeard := goodIn_r _ [29, 30, 31, 32, 33, 34, 35, 36, 37, 38, 39] (by decide +kernel) (by decide +kernel)
set_option maxRecDepth 20000 in
theorem gX2_paceWanted_X2_mostHeard : GoodIn wsX2_paceWanted (wsV RX2 108 RX2 yX2_mostHeard wsX2_mostHeard) := goodIn_app (goodIn_of _ (by decide +kernel)) ggX2_paceWanted_X2_mostHeard
theorem dX2_paceWanted_0 : decode cX2_paceWanted 0 = .ok (.aload_n 0, 1) := by decide +kernel
theorem dX2_paceWanted_1 : decode cX2_paceWanted 1 = .ok (.aload_n 0, 1) := by decide +kernel
theorem dX2_paceWanted_2 : decode cX2_paceWanted 2 = .ok (.iload_n 1, 1) := by decide +kernel
theorem dX2_paceWanted_3 : decode cX2_paceWanted 3 = .ok (.invokevirtual 101, 3) := by decide +kernel
theorem dX2_paceWanted_6 : decode cX2_paceWanted 6 = .ok (.invokevirtual 161, 3) := by decide +kernel
theorem dX2_paceWanted_9 : decode cX2_paceWanted 9 = .ok (.istore_n 3, 1) := by decide +kernel
theorem dX2_paceWanted_10 : decode cX2_paceWanted 10 = .ok (.iload_n 2, 1) := by decide +kernel
theorem dX2_paceWanted_11 : decode cX2_paceWanted 11 = .ok (.invokestatic 105, 3) := by decide +kernel
theorem dX2_paceWanted_14 : decode cX2_paceWanted 14 = .ok (.iconst 1, 1) := by decide +kernel
theorem dX2_paceWanted_15 : decode cX2_paceWanted 15 = .ok (.istore 4, 2) := by decide +kernel
theorem dX2_paceWanted_17 : decode cX2_paceWanted 17 = .ok (.iload 4, 2) := by decide +kernel
theorem dX2_paceWanted_19 : decode cX2_paceWanted 19 = .ok (.iconst 5, 1) := by decide +kernel
theorem dX2_paceWanted_20 : decode cX2_paceWanted 20 = .ok (.if_icmp .gt 23, 3) := by decide +kernel
theorem dX2_paceWanted_23 : decode cX2_paceWanted 23 = .ok (.aload_n 0, 1) := by decide +kernel
theorem dX2_paceWanted_24 : decode cX2_paceWanted 24 = .ok (.iload_n 2, 1) := by decide +kernel
theorem dX2_paceWanted_25 : decode cX2_paceWanted 25 = .ok (.iload 4, 2) := by decide +kernel
theorem dX2_paceWanted_27 : decode cX2_paceWanted 27 = .ok (.invokevirtual 108, 3) := by decide +kernel
theorem dX2_paceWanted_30 : decode cX2_paceWanted 30 = .ok (.iload_n 3, 1) := by decide +kernel
theorem dX2_paceWanted_31 : decode cX2_paceWanted 31 = .ok (.if_icmp .lt 6, 3) := by decide +kernel
theorem dX2_paceWanted_34 : decode cX2_paceWanted 34 = .ok (.iload 4, 2) := by decide +kernel
theorem dX2_paceWanted_36 : decode cX2_paceWanted 36 = .ok (.ireturn, 1) := by decide +kernel
theorem dX2_paceWanted_37 : decode cX2_paceWanted 37 = .ok (.iinc 4 1, 3) := by decide +kernel
theorem dX2_paceWanted_40 : decode cX2_paceWanted 40 = .ok (.goto (-23), 3) := by decide +kernel
theorem dX2_paceWanted_43 : decode cX2_paceWanted 43 = .ok (.iconst (-1), 1) := by decide +kernel
theorem dX2_paceWanted_44 : decode cX2_paceWanted 44 = .ok (.ireturn, 1) := by decide +kernel
set_option maxRecDepth 20000 in
theorem ggX2_wouldCompact_X2_markCompacted : GoodIn wsX2_wouldCompact wsX2_markCompacted := goodIn_r _ [6, 1, 7, 8, 9, 5, 10, 11, 12, 13, 14, 15, 16, 17, 18, 19, 20, 21, 22, 23, 24, 25, 26, 27, 28, 29, 41, 42, 43, 44, 45, 46, 47, 48, 49, 50, 51, 52, 53, 54, 55, 56, 57, 58, 59, 60, 61, 62] (by decide +kernel) (by decide +kernel)
set_option maxRecDepth 20000 in
theorem gX2_wouldCompact_X2_markCompacted : GoodIn wsX2_wouldCompact (wsV RX2 75 RX2 yX2_markCompacted wsX2_markCompacted) := goodIn_app (goodIn_of _ (by decide +kernel)) ggX2_wouldCompact_X2_markCompacted
set_option maxRecDepth 20000 in
theorem ggX2_wouldCompact_X0_countMarked : GoodIn wsX2_wouldCompact wsX0_countMarked := goodIn_r _ [32, 33, 34, 35, 18, 36, 21, 25, 37, 38, 39, 40, 24, 50, 51, 52, 53, 54, 55, 56, 57] (by decide +kernel) (by decide +kernel)
set_option maxRecDepth 20000 in
theorem gX2_wouldCompact_X0_countMarked_n180 : GoodIn wsX2_wouldCompact (wsX0_countMarked) := ggX2_wouldCompact_X0_countMarked
theorem dX2_wouldCompact_0 : decode cX2_wouldCompact 0 = .ok (.aload_n 0, 1) := by decide +kernel
theorem dX2_wouldCompact_1 : decode cX2_wouldCompact 1 = .ok (.invokevirtual 75, 3) := by decide +kernel
theorem dX2_wouldCompact_4 : decode cX2_wouldCompact 4 = .ok (.aload_n 0, 1) := by decide +kernel
theorem dX2_wouldCompact_5 : decode cX2_wouldCompact 5 = .ok (.getfield 10, 3) := by decide +kernel
theorem dX2_wouldCompact_8 : decode cX2_wouldCompact 8 = .ok (.invokevirtual 180, 3) := by decide +kernel
theorem dX2_wouldCompact_11 : decode cX2_wouldCompact 11 = .ok (.ireturn, 1) := by decide +kernel
set_option maxRecDepth 20000 in
theorem ggX2_wouldMiss_X2_shipNumbered : GoodIn wsX2_wouldMiss wsX2_shipNumbered := goodIn_ca (goodIn_r _ [6, 7, 8, 9, 10, 43, 44, 45, 46, 47, 48, 49, 50, 51] (by decide +kernel) (by decide +kernel)) (goodIn_sub (fun _ h => List.mem_cons_of_mem _ (List.mem_append_right _ h)) (by decide +kernel))
set_option maxRecDepth 20000 in
theorem gX2_wouldMiss_X2_shipNumbered : GoodIn wsX2_wouldMiss (wsV RX2 101 RX2 yX2_shipNumbered wsX2_shipNumbered) := goodIn_app (goodIn_of _ (by decide +kernel)) ggX2_wouldMiss_X2_shipNumbered
set_option maxRecDepth 20000 in
theorem ggX2_wouldMiss_X2_markCompacted : GoodIn wsX2_wouldMiss wsX2_markCompacted := goodIn_r _ [14, 1, 15, 16, 17, 5, 18, 9, 10, 19, 20, 21, 22, 23, 24, 25, 26, 27, 28, 29, 30, 31, 32, 33, 34, 35, 43, 44, 45, 46, 47, 48, 49, 50, 51, 57, 58, 59, 60, 61, 62, 63, 64, 52, 53, 54, 55, 56] (by decide +kernel) (by decide +kernel)
set_option maxRecDepth 20000 in
theorem gX2_wouldMiss_X2_markCompacted : GoodIn wsX2_wouldMiss (wsV RX2 75 RX2 yX2_markCompacted wsX2_markCompacted) := goodIn_app (goodIn_of _ (by decide +kernel)) ggX2_wouldMiss_X2_markCompacted
set_option maxRecDepth 20000 in
theorem ggX2_wouldMiss_X0_countMarkedFrom : GoodIn wsX2_wouldMiss wsX0_countMarkedFrom := goodIn_r _ [38, 27, 31, 39, 40, 41, 24, 42, 30, 57, 58, 59, 60, 61, 62, 63, 64] (by decide +kernel) (by decide +kernel)
set_option maxRecDepth 20000 in
theorem gX2_wouldMiss_X0_countMarkedFrom_n183 : GoodIn wsX2_wouldMiss (wsX0_countMarkedFrom) := ggX2_wouldMiss_X0_countMarkedFrom
theorem dX2_wouldMiss_0 : decode cX2_wouldMiss 0 = .ok (.aload_n 0, 1) := by decide +kernel
theorem dX2_wouldMiss_1 : decode cX2_wouldMiss 1 = .ok (.iload_n 1, 1) := by decide +kernel
theorem dX2_wouldMiss_2 : decode cX2_wouldMiss 2 = .ok (.invokevirtual 101, 3) := by decide +kernel
theorem dX2_wouldMiss_5 : decode cX2_wouldMiss 5 = .ok (.astore_n 2, 1) := by decide +kernel
theorem dX2_wouldMiss_6 : decode cX2_wouldMiss 6 = .ok (.aload_n 0, 1) := by decide +kernel
theorem dX2_wouldMiss_7 : decode cX2_wouldMiss 7 = .ok (.invokevirtual 75, 3) := by decide +kernel
theorem dX2_wouldMiss_10 : decode cX2_wouldMiss 10 = .ok (.aload_n 0, 1) := by decide +kernel
theorem dX2_wouldMiss_11 : decode cX2_wouldMiss 11 = .ok (.getfield 10, 3) := by decide +kernel
theorem dX2_wouldMiss_14 : decode cX2_wouldMiss 14 = .ok (.aload_n 2, 1) := by decide +kernel
theorem dX2_wouldMiss_15 : decode cX2_wouldMiss 15 = .ok (.getfield 98, 3) := by decide +kernel
theorem dX2_wouldMiss_18 : decode cX2_wouldMiss 18 = .ok (.invokevirtual 183, 3) := by decide +kernel
theorem dX2_wouldMiss_21 : decode cX2_wouldMiss 21 = .ok (.ireturn, 1) := by decide +kernel
set_option maxRecDepth 20000 in
theorem ggX2_meanLag_X2_lag : GoodIn wsX2_meanLag wsX2_lag := goodIn_r _ [7, 8, 9, 10, 11, 12, 13, 14, 15, 16, 17, 18, 19, 20, 21, 22, 23, 24, 25, 26, 27, 28, 29, 30, 31, 32, 33, 34, 35, 36] (by decide +kernel) (by decide +kernel)
set_option maxRecDepth 20000 in
theorem gX2_meanLag_X2_lag : GoodIn wsX2_meanLag (wsV RX2 161 RX2 yX2_lag wsX2_lag) := goodIn_app (goodIn_of _ (by decide +kernel)) ggX2_meanLag_X2_lag
theorem dX2_meanLag_0 : decode cX2_meanLag 0 = .ok (.aload_n 0, 1) := by decide +kernel
theorem dX2_meanLag_1 : decode cX2_meanLag 1 = .ok (.getfield 90, 3) := by decide +kernel
theorem dX2_meanLag_4 : decode cX2_meanLag 4 = .ok (.ifCond .ne 5, 3) := by decide +kernel
theorem dX2_meanLag_7 : decode cX2_meanLag 7 = .ok (.dconst 0, 1) := by decide +kernel
theorem dX2_meanLag_8 : decode cX2_meanLag 8 = .ok (.dreturn, 1) := by decide +kernel
theorem dX2_meanLag_9 : decode cX2_meanLag 9 = .ok (.iconst 0, 1) := by decide +kernel
theorem dX2_meanLag_10 : decode cX2_meanLag 10 = .ok (.istore_n 1, 1) := by decide +kernel
theorem dX2_meanLag_11 : decode cX2_meanLag 11 = .ok (.iconst 0, 1) := by decide +kernel
theorem dX2_meanLag_12 : decode cX2_meanLag 12 = .ok (.istore_n 2, 1) := by decide +kernel
theorem dX2_meanLag_13 : decode cX2_meanLag 13 = .ok (.iload_n 2, 1) := by decide +kernel
theorem dX2_meanLag_14 : decode cX2_meanLag 14 = .ok (.aload_n 0, 1) := by decide +kernel
theorem dX2_meanLag_15 : decode cX2_meanLag 15 = .ok (.getfield 90, 3) := by decide +kernel
theorem dX2_meanLag_18 : decode cX2_meanLag 18 = .ok (.if_icmp .ge 22, 3) := by decide +kernel
theorem dX2_meanLag_21 : decode cX2_meanLag 21 = .ok (.iload_n 1, 1) := by decide +kernel
theorem dX2_meanLag_22 : decode cX2_meanLag 22 = .ok (.aload_n 0, 1) := by decide +kernel
theorem dX2_meanLag_23 : decode cX2_meanLag 23 = .ok (.aload_n 0, 1) := by decide +kernel
theorem dX2_meanLag_24 : decode cX2_meanLag 24 = .ok (.getfield 22, 3) := by decide +kernel
theorem dX2_meanLag_27 : decode cX2_meanLag 27 = .ok (.iload_n 2, 1) := by decide +kernel
theorem dX2_meanLag_28 : decode cX2_meanLag 28 = .ok (.aaload, 1) := by decide +kernel
theorem dX2_meanLag_29 : decode cX2_meanLag 29 = .ok (.invokevirtual 161, 3) := by decide +kernel
theorem dX2_meanLag_32 : decode cX2_meanLag 32 = .ok (.iadd, 1) := by decide +kernel
theorem dX2_meanLag_33 : decode cX2_meanLag 33 = .ok (.istore_n 1, 1) := by decide +kernel
theorem dX2_meanLag_34 : decode cX2_meanLag 34 = .ok (.iinc 2 1, 3) := by decide +kernel
theorem dX2_meanLag_37 : decode cX2_meanLag 37 = .ok (.goto (-24), 3) := by decide +kernel
theorem dX2_meanLag_40 : decode cX2_meanLag 40 = .ok (.iload_n 1, 1) := by decide +kernel
theorem dX2_meanLag_41 : decode cX2_meanLag 41 = .ok (.i2d, 1) := by decide +kernel
theorem dX2_meanLag_42 : decode cX2_meanLag 42 = .ok (.aload_n 0, 1) := by decide +kernel
theorem dX2_meanLag_43 : decode cX2_meanLag 43 = .ok (.getfield 90, 3) := by decide +kernel
theorem dX2_meanLag_46 : decode cX2_meanLag 46 = .ok (.i2d, 1) := by decide +kernel
theorem dX2_meanLag_47 : decode cX2_meanLag 47 = .ok (.ddiv, 1) := by decide +kernel
theorem dX2_meanLag_48 : decode cX2_meanLag 48 = .ok (.dreturn, 1) := by decide +kernel
set_option maxRecDepth 20000 in
theorem ggX2_digest_X2_mix : GoodIn wsX2_digest wsX2_mix := goodIn_r _ [10, 11] (by decide +kernel) (by decide +kernel)
set_option maxRecDepth 20000 in
theorem gX2_digest_X2_mix : GoodIn wsX2_digest (va_wsS RX2 188 yX2_mix wsX2_mix) := goodIn_app (goodIn_of _ (by decide +kernel)) ggX2_digest_X2_mix
set_option maxRecDepth 20000 in
theorem ggX2_digest_X2_firstOffset : GoodIn wsX2_digest wsX2_firstOffset := goodIn_r _ [15, 3, 107, 108, 109, 110, 111, 112, 113, 114, 115, 116, 117, 118, 119, 120, 121, 122, 123] (by decide +kernel) (by decide +kernel)
set_option maxRecDepth 20000 in
theorem gX2_digest_X2_firstOffset : GoodIn wsX2_digest (wsV RX2 192 RX2 yX2_firstOffset wsX2_firstOffset) := goodIn_app (goodIn_of _ (by decide +kernel)) ggX2_digest_X2_firstOffset
set_option maxRecDepth 20000 in
theorem ggX2_digest_X2_farthestBehind : GoodIn wsX2_digest wsX2_farthestBehind := goodIn_r _ [19, 6, 20, 21, 22, 23, 9, 24, 3, 25, 26, 27, 28, 29, 30, 107, 108, 109, 110, 111, 112, 113, 114, 115, 116, 117, 118, 119, 120, 121, 122, 123, 124, 125, 126, 127, 128] (by decide +kernel) (by decide +kernel)
set_option maxRecDepth 20000 in
theorem gX2_digest_X2_farthestBehind : GoodIn wsX2_digest (wsV RX2 195 RX2 yX2_farthestBehind wsX2_farthestBehind) := goodIn_app (goodIn_of _ (by decide +kernel)) ggX2_digest_X2_farthestBehind
set_option maxRecDepth 20000 in
theorem ggX2_digest_X2_wouldCompact : GoodIn wsX2_digest wsX2_wouldCompact := goodIn_r _ [34, 3, 35, 36, 37, 9, 38, 39, 40, 41, 42, 6, 20, 43, 44, 45, 46, 47, 26, 48, 49, 29, 50, 51, 30, 52, 53, 54, 55, 56, 57, 58, 59, 60, 61, 62, 63, 64, 25, 27, 28, 107, 108, 109, 110, 111, 112, 113, 114, 115, 116, 117, 118, 119, 120, 121, 122, 123, 124, 125, 126, 127, 128] (by decide +kernel) (by decide +kernel)
set_option maxRecDepth 20000 in
theorem gX2_digest_X2_wouldCompact : GoodIn wsX2_digest (wsV RX2 198 RX2 yX2_wouldCompact wsX2_wouldCompact) := goodIn_app (goodIn_of _ (by decide +kernel)) ggX2_digest_X2_wouldCompact
set_option maxRecDepth 20000 in
theorem ggX2_digest_X2_mixKeys : GoodIn wsX2_digest wsX2_mixKeys := goodIn_r _ [68, 3, 69, 26, 70, 71, 29, 30, 53, 54, 55, 56, 50, 7, 8, 9, 10, 11, 72, 73, 74, 51, 75, 76, 77, 78, 79, 80, 81, 107, 108, 109, 110, 111, 112, 113, 114, 115, 116, 117, 118, 119, 120, 121, 122, 123] (by decide +kernel) (by decide +kernel)
set_option maxRecDepth 20000 in
theorem gX2_digest_X2_mixKeys : GoodIn wsX2_digest (wsV RX2 201 RX2 yX2_mixKeys wsX2_mixKeys) := goodIn_app (goodIn_of _ (by decide +kernel)) ggX2_digest_X2_mixKeys
set_option maxRecDepth 20000 in
theorem ggX2_digest_X2_mixStorms : GoodIn wsX2_digest wsX2_mixStorms := goodIn_r _ [85, 4, 86, 3, 7, 8, 9, 10, 11, 87, 26, 88, 89, 90, 78, 79, 80, 81, 29, 107, 108, 109, 110, 111, 112, 113, 114, 115, 116, 117, 118, 119, 120, 121, 122, 123] (by decide +kernel) (by decide +kernel)
set_option maxRecDepth 20000 in
theorem gX2_digest_X2_mixStorms : GoodIn wsX2_digest (wsV RX2 205 RX2 yX2_mixStorms wsX2_mixStorms) := goodIn_app (goodIn_of _ (by decide +kernel)) ggX2_digest_X2_mixStorms
set_option maxRecDepth 20000 in
theorem ggX2_digest_X2_mixShips : GoodIn wsX2_digest wsX2_mixShips := goodIn_r _ [94, 6, 20, 3, 35, 36, 37, 9, 38, 39, 40, 41, 42, 43, 44, 45, 46, 47, 26, 48, 49, 29, 50, 51, 30, 52, 53, 54, 55, 56, 7, 8, 10, 11, 21, 22, 23, 24, 25, 27, 28, 95, 96, 97, 98, 72, 73, 74, 99, 100, 101, 102, 103, 104, 105, 106, 5, 61, 62, 63, 64, 107, 108, 109, 110, 111, 112, 113, 114, 115, 124, 125, 126, 127, 128, 116, 117, 118, 119, 120, 121, 122, 123] (by decide +kernel) (by decide +kernel)
set_option maxRecDepth 20000 in
theorem gX2_digest_X2_mixShips : GoodIn wsX2_digest (wsV RX2 208 RX2 yX2_mixShips wsX2_mixShips) := goodIn_app (goodIn_of _ (by decide +kernel)) ggX2_digest_X2_mixShips
theorem dX2_digest_0 : decode cX2_digest 0 = .ok (.ldc2_w 186, 3) := by decide +kernel
theorem dX2_digest_3 : decode cX2_digest 3 = .ok (.aload_n 0, 1) := by decide +kernel
theorem dX2_digest_4 : decode cX2_digest 4 = .ok (.getfield 115, 3) := by decide +kernel
theorem dX2_digest_7 : decode cX2_digest 7 = .ok (.i2l, 1) := by decide +kernel
theorem dX2_digest_8 : decode cX2_digest 8 = .ok (.invokestatic 188, 3) := by decide +kernel
theorem dX2_digest_11 : decode cX2_digest 11 = .ok (.lstore_n 1, 1) := by decide +kernel
theorem dX2_digest_12 : decode cX2_digest 12 = .ok (.lload_n 1, 1) := by decide +kernel
theorem dX2_digest_13 : decode cX2_digest 13 = .ok (.aload_n 0, 1) := by decide +kernel
theorem dX2_digest_14 : decode cX2_digest 14 = .ok (.getfield 10, 3) := by decide +kernel
theorem dX2_digest_17 : decode cX2_digest 17 = .ok (.getfield 118, 3) := by decide +kernel
theorem dX2_digest_20 : decode cX2_digest 20 = .ok (.i2l, 1) := by decide +kernel
theorem dX2_digest_21 : decode cX2_digest 21 = .ok (.invokestatic 188, 3) := by decide +kernel
theorem dX2_digest_24 : decode cX2_digest 24 = .ok (.lstore_n 1, 1) := by decide +kernel
theorem dX2_digest_25 : decode cX2_digest 25 = .ok (.lload_n 1, 1) := by decide +kernel
theorem dX2_digest_26 : decode cX2_digest 26 = .ok (.aload_n 0, 1) := by decide +kernel
theorem dX2_digest_27 : decode cX2_digest 27 = .ok (.getfield 10, 3) := by decide +kernel
theorem dX2_digest_30 : decode cX2_digest 30 = .ok (.getfield 121, 3) := by decide +kernel
theorem dX2_digest_33 : decode cX2_digest 33 = .ok (.i2l, 1) := by decide +kernel
theorem dX2_digest_34 : decode cX2_digest 34 = .ok (.invokestatic 188, 3) := by decide +kernel
theorem dX2_digest_37 : decode cX2_digest 37 = .ok (.lstore_n 1, 1) := by decide +kernel
theorem dX2_digest_38 : decode cX2_digest 38 = .ok (.lload_n 1, 1) := by decide +kernel
theorem dX2_digest_39 : decode cX2_digest 39 = .ok (.aload_n 0, 1) := by decide +kernel
theorem dX2_digest_40 : decode cX2_digest 40 = .ok (.invokevirtual 192, 3) := by decide +kernel
theorem dX2_digest_43 : decode cX2_digest 43 = .ok (.i2l, 1) := by decide +kernel
theorem dX2_digest_44 : decode cX2_digest 44 = .ok (.invokestatic 188, 3) := by decide +kernel
theorem dX2_digest_47 : decode cX2_digest 47 = .ok (.lstore_n 1, 1) := by decide +kernel
theorem dX2_digest_48 : decode cX2_digest 48 = .ok (.lload_n 1, 1) := by decide +kernel
theorem dX2_digest_49 : decode cX2_digest 49 = .ok (.aload_n 0, 1) := by decide +kernel
theorem dX2_digest_50 : decode cX2_digest 50 = .ok (.getfield 10, 3) := by decide +kernel
theorem dX2_digest_53 : decode cX2_digest 53 = .ok (.getfield 127, 3) := by decide +kernel
theorem dX2_digest_56 : decode cX2_digest 56 = .ok (.i2l, 1) := by decide +kernel
theorem dX2_digest_57 : decode cX2_digest 57 = .ok (.invokestatic 188, 3) := by decide +kernel
theorem dX2_digest_60 : decode cX2_digest 60 = .ok (.lstore_n 1, 1) := by decide +kernel
theorem dX2_digest_61 : decode cX2_digest 61 = .ok (.lload_n 1, 1) := by decide +kernel
theorem dX2_digest_62 : decode cX2_digest 62 = .ok (.aload_n 0, 1) := by decide +kernel
theorem dX2_digest_63 : decode cX2_digest 63 = .ok (.getfield 59, 3) := by decide +kernel
theorem dX2_digest_66 : decode cX2_digest 66 = .ok (.i2l, 1) := by decide +kernel
theorem dX2_digest_67 : decode cX2_digest 67 = .ok (.invokestatic 188, 3) := by decide +kernel
theorem dX2_digest_70 : decode cX2_digest 70 = .ok (.lstore_n 1, 1) := by decide +kernel
theorem dX2_digest_71 : decode cX2_digest 71 = .ok (.lload_n 1, 1) := by decide +kernel
theorem dX2_digest_72 : decode cX2_digest 72 = .ok (.aload_n 0, 1) := by decide +kernel
theorem dX2_digest_73 : decode cX2_digest 73 = .ok (.getfield 50, 3) := by decide +kernel
theorem dX2_digest_76 : decode cX2_digest 76 = .ok (.ifCond .eq 7, 3) := by decide +kernel
theorem dX2_digest_79 : decode cX2_digest 79 = .ok (.lconst 1, 1) := by decide +kernel
theorem dX2_digest_80 : decode cX2_digest 80 = .ok (.goto 4, 3) := by decide +kernel
theorem dX2_digest_83 : decode cX2_digest 83 = .ok (.lconst 0, 1) := by decide +kernel
theorem dX2_digest_84 : decode cX2_digest 84 = .ok (.invokestatic 188, 3) := by decide +kernel
theorem dX2_digest_87 : decode cX2_digest 87 = .ok (.lstore_n 1, 1) := by decide +kernel
theorem dX2_digest_88 : decode cX2_digest 88 = .ok (.lload_n 1, 1) := by decide +kernel
theorem dX2_digest_89 : decode cX2_digest 89 = .ok (.aload_n 0, 1) := by decide +kernel
theorem dX2_digest_90 : decode cX2_digest 90 = .ok (.getfield 90, 3) := by decide +kernel
theorem dX2_digest_93 : decode cX2_digest 93 = .ok (.i2l, 1) := by decide +kernel
theorem dX2_digest_94 : decode cX2_digest 94 = .ok (.invokestatic 188, 3) := by decide +kernel
theorem dX2_digest_97 : decode cX2_digest 97 = .ok (.lstore_n 1, 1) := by decide +kernel
theorem dX2_digest_98 : decode cX2_digest 98 = .ok (.lload_n 1, 1) := by decide +kernel
theorem dX2_digest_99 : decode cX2_digest 99 = .ok (.aload_n 0, 1) := by decide +kernel
theorem dX2_digest_100 : decode cX2_digest 100 = .ok (.invokevirtual 195, 3) := by decide +kernel
theorem dX2_digest_103 : decode cX2_digest 103 = .ok (.i2l, 1) := by decide +kernel
theorem dX2_digest_104 : decode cX2_digest 104 = .ok (.invokestatic 188, 3) := by decide +kernel
theorem dX2_digest_107 : decode cX2_digest 107 = .ok (.lstore_n 1, 1) := by decide +kernel
theorem dX2_digest_108 : decode cX2_digest 108 = .ok (.lload_n 1, 1) := by decide +kernel
theorem dX2_digest_109 : decode cX2_digest 109 = .ok (.aload_n 0, 1) := by decide +kernel
theorem dX2_digest_110 : decode cX2_digest 110 = .ok (.invokevirtual 198, 3) := by decide +kernel
theorem dX2_digest_113 : decode cX2_digest 113 = .ok (.i2l, 1) := by decide +kernel
theorem dX2_digest_114 : decode cX2_digest 114 = .ok (.invokestatic 188, 3) := by decide +kernel
theorem dX2_digest_117 : decode cX2_digest 117 = .ok (.lstore_n 1, 1) := by decide +kernel
theorem dX2_digest_118 : decode cX2_digest 118 = .ok (.aload_n 0, 1) := by decide +kernel
theorem dX2_digest_119 : decode cX2_digest 119 = .ok (.lload_n 1, 1) := by decide +kernel
theorem dX2_digest_120 : decode cX2_digest 120 = .ok (.invokevirtual 201, 3) := by decide +kernel
theorem dX2_digest_123 : decode cX2_digest 123 = .ok (.lstore_n 1, 1) := by decide +kernel
theorem dX2_digest_124 : decode cX2_digest 124 = .ok (.aload_n 0, 1) := by decide +kernel
theorem dX2_digest_125 : decode cX2_digest 125 = .ok (.lload_n 1, 1) := by decide +kernel
theorem dX2_digest_126 : decode cX2_digest 126 = .ok (.invokevirtual 205, 3) := by decide +kernel
theorem dX2_digest_129 : decode cX2_digest 129 = .ok (.lstore_n 1, 1) := by decide +kernel
theorem dX2_digest_130 : decode cX2_digest 130 = .ok (.aload_n 0, 1) := by decide +kernel
theorem dX2_digest_131 : decode cX2_digest 131 = .ok (.lload_n 1, 1) := by decide +kernel
theorem dX2_digest_132 : decode cX2_digest 132 = .ok (.invokevirtual 208, 3) := by decide +kernel
theorem dX2_digest_135 : decode cX2_digest 135 = .ok (.lreturn, 1) := by decide +kernel
set_option maxRecDepth 20000 in
theorem ggX2_mixKeys_X0_latestOffset : GoodIn wsX2_mixKeys wsX0_latestOffset := goodIn_r _ [5, 6, 7, 8, 9, 10, 3, 11, 12, 38, 39, 40, 41, 42, 43, 44, 45] (by decide +kernel) (by decide +kernel)
set_option maxRecDepth 20000 in
theorem gX2_mixKeys_X0_latestOffset_n149 : GoodIn wsX2_mixKeys (wsX0_latestOffset) := ggX2_mixKeys_X0_latestOffset
set_option maxRecDepth 20000 in
theorem ggX2_mixKeys_X2_mix : GoodIn wsX2_mixKeys wsX2_mix := goodIn_r _ [16, 17] (by decide +kernel) (by decide +kernel)
set_option maxRecDepth 20000 in
theorem gX2_mixKeys_X2_mix : GoodIn wsX2_mixKeys (va_wsS RX2 188 yX2_mix wsX2_mix) := goodIn_app (goodIn_of _ (by decide +kernel)) ggX2_mixKeys_X2_mix
set_option maxRecDepth 20000 in
theorem ggX2_mixKeys_X0_latestValue : GoodIn wsX2_mixKeys wsX0_latestValue := goodIn_r _ [20, 6, 21, 8, 9, 10, 3, 11, 12, 38, 39, 40, 41, 42, 43, 44, 45] (by decide +kernel) (by decide +kernel)
set_option maxRecDepth 20000 in
theorem gX2_mixKeys_X0_latestValue_n152 : GoodIn wsX2_mixKeys (wsX0_latestValue) := ggX2_mixKeys_X0_latestValue
set_option maxRecDepth 20000 in
theorem ggX2_mixKeys_X0_countKey : GoodIn wsX2_mixKeys wsX0_countKey := goodIn_r _ [24, 12, 25, 26, 27, 3, 28, 6, 38, 39, 40, 41, 42, 43, 44, 45] (by decide +kernel) (by decide +kernel)
set_option maxRecDepth 20000 in
theorem gX2_mixKeys_X0_countKey_n155 : GoodIn wsX2_mixKeys (wsX0_countKey) := ggX2_mixKeys_X0_countKey
theorem dX2_mixKeys_0 : decode cX2_mixKeys 0 = .ok (.lload_n 1, 1) := by decide +kernel
theorem dX2_mixKeys_1 : decode cX2_mixKeys 1 = .ok (.lstore_n 3, 1) := by decide +kernel
theorem dX2_mixKeys_2 : decode cX2_mixKeys 2 = .ok (.iconst 0, 1) := by decide +kernel
theorem dX2_mixKeys_3 : decode cX2_mixKeys 3 = .ok (.istore 5, 2) := by decide +kernel
theorem dX2_mixKeys_5 : decode cX2_mixKeys 5 = .ok (.iload 5, 2) := by decide +kernel
theorem dX2_mixKeys_7 : decode cX2_mixKeys 7 = .ok (.bipush 10, 2) := by decide +kernel
theorem dX2_mixKeys_9 : decode cX2_mixKeys 9 = .ok (.if_icmp .ge 54, 3) := by decide +kernel
theorem dX2_mixKeys_12 : decode cX2_mixKeys 12 = .ok (.lload_n 3, 1) := by decide +kernel
theorem dX2_mixKeys_13 : decode cX2_mixKeys 13 = .ok (.aload_n 0, 1) := by decide +kernel
theorem dX2_mixKeys_14 : decode cX2_mixKeys 14 = .ok (.getfield 10, 3) := by decide +kernel
theorem dX2_mixKeys_17 : decode cX2_mixKeys 17 = .ok (.iload 5, 2) := by decide +kernel
theorem dX2_mixKeys_19 : decode cX2_mixKeys 19 = .ok (.invokevirtual 149, 3) := by decide +kernel
theorem dX2_mixKeys_22 : decode cX2_mixKeys 22 = .ok (.i2l, 1) := by decide +kernel
theorem dX2_mixKeys_23 : decode cX2_mixKeys 23 = .ok (.invokestatic 188, 3) := by decide +kernel
theorem dX2_mixKeys_26 : decode cX2_mixKeys 26 = .ok (.lstore_n 3, 1) := by decide +kernel
theorem dX2_mixKeys_27 : decode cX2_mixKeys 27 = .ok (.lload_n 3, 1) := by decide +kernel
theorem dX2_mixKeys_28 : decode cX2_mixKeys 28 = .ok (.aload_n 0, 1) := by decide +kernel
theorem dX2_mixKeys_29 : decode cX2_mixKeys 29 = .ok (.getfield 10, 3) := by decide +kernel
theorem dX2_mixKeys_32 : decode cX2_mixKeys 32 = .ok (.iload 5, 2) := by decide +kernel
theorem dX2_mixKeys_34 : decode cX2_mixKeys 34 = .ok (.invokevirtual 152, 3) := by decide +kernel
theorem dX2_mixKeys_37 : decode cX2_mixKeys 37 = .ok (.i2l, 1) := by decide +kernel
theorem dX2_mixKeys_38 : decode cX2_mixKeys 38 = .ok (.invokestatic 188, 3) := by decide +kernel
theorem dX2_mixKeys_41 : decode cX2_mixKeys 41 = .ok (.lstore_n 3, 1) := by decide +kernel
theorem dX2_mixKeys_42 : decode cX2_mixKeys 42 = .ok (.lload_n 3, 1) := by decide +kernel
theorem dX2_mixKeys_43 : decode cX2_mixKeys 43 = .ok (.aload_n 0, 1) := by decide +kernel
theorem dX2_mixKeys_44 : decode cX2_mixKeys 44 = .ok (.getfield 10, 3) := by decide +kernel
theorem dX2_mixKeys_47 : decode cX2_mixKeys 47 = .ok (.iload 5, 2) := by decide +kernel
theorem dX2_mixKeys_49 : decode cX2_mixKeys 49 = .ok (.invokevirtual 155, 3) := by decide +kernel
theorem dX2_mixKeys_52 : decode cX2_mixKeys 52 = .ok (.i2l, 1) := by decide +kernel
theorem dX2_mixKeys_53 : decode cX2_mixKeys 53 = .ok (.invokestatic 188, 3) := by decide +kernel
theorem dX2_mixKeys_56 : decode cX2_mixKeys 56 = .ok (.lstore_n 3, 1) := by decide +kernel
theorem dX2_mixKeys_57 : decode cX2_mixKeys 57 = .ok (.iinc 5 1, 3) := by decide +kernel
theorem dX2_mixKeys_60 : decode cX2_mixKeys 60 = .ok (.goto (-55), 3) := by decide +kernel
theorem dX2_mixKeys_63 : decode cX2_mixKeys 63 = .ok (.lload_n 3, 1) := by decide +kernel
theorem dX2_mixKeys_64 : decode cX2_mixKeys 64 = .ok (.lreturn, 1) := by decide +kernel
set_option maxRecDepth 20000 in
theorem ggX2_mixStorms_X2_mix : GoodIn wsX2_mixStorms wsX2_mix := goodIn_r _ [7, 8] (by decide +kernel) (by decide +kernel)
set_option maxRecDepth 20000 in
theorem gX2_mixStorms_X2_mix : GoodIn wsX2_mixStorms (va_wsS RX2 188 yX2_mix wsX2_mix) := goodIn_app (goodIn_of _ (by decide +kernel)) ggX2_mixStorms_X2_mix
set_option maxRecDepth 20000 in
theorem ggX2_mixStorms_X0_countStorm : GoodIn wsX2_mixStorms wsX0_countStorm := goodIn_r _ [12, 13, 14, 15, 16, 10, 17, 18, 28, 29, 30, 31, 32, 33, 34, 35] (by decide +kernel) (by decide +kernel)
set_option maxRecDepth 20000 in
theorem gX2_mixStorms_X0_countStorm_n158 : GoodIn wsX2_mixStorms (wsX0_countStorm) := ggX2_mixStorms_X0_countStorm
theorem dX2_mixStorms_0 : decode cX2_mixStorms 0 = .ok (.lload_n 1, 1) := by decide +kernel
theorem dX2_mixStorms_1 : decode cX2_mixStorms 1 = .ok (.lstore_n 3, 1) := by decide +kernel
theorem dX2_mixStorms_2 : decode cX2_mixStorms 2 = .ok (.iconst 0, 1) := by decide +kernel
theorem dX2_mixStorms_3 : decode cX2_mixStorms 3 = .ok (.istore 5, 2) := by decide +kernel
theorem dX2_mixStorms_5 : decode cX2_mixStorms 5 = .ok (.iload 5, 2) := by decide +kernel
theorem dX2_mixStorms_7 : decode cX2_mixStorms 7 = .ok (.aload_n 0, 1) := by decide +kernel
theorem dX2_mixStorms_8 : decode cX2_mixStorms 8 = .ok (.getfield 59, 3) := by decide +kernel
theorem dX2_mixStorms_11 : decode cX2_mixStorms 11 = .ok (.if_icmp .ge 37, 3) := by decide +kernel
theorem dX2_mixStorms_14 : decode cX2_mixStorms 14 = .ok (.lload_n 3, 1) := by decide +kernel
theorem dX2_mixStorms_15 : decode cX2_mixStorms 15 = .ok (.aload_n 0, 1) := by decide +kernel
theorem dX2_mixStorms_16 : decode cX2_mixStorms 16 = .ok (.getfield 16, 3) := by decide +kernel
theorem dX2_mixStorms_19 : decode cX2_mixStorms 19 = .ok (.iload 5, 2) := by decide +kernel
theorem dX2_mixStorms_21 : decode cX2_mixStorms 21 = .ok (.iaload, 1) := by decide +kernel
theorem dX2_mixStorms_22 : decode cX2_mixStorms 22 = .ok (.i2l, 1) := by decide +kernel
theorem dX2_mixStorms_23 : decode cX2_mixStorms 23 = .ok (.invokestatic 188, 3) := by decide +kernel
theorem dX2_mixStorms_26 : decode cX2_mixStorms 26 = .ok (.lstore_n 3, 1) := by decide +kernel
theorem dX2_mixStorms_27 : decode cX2_mixStorms 27 = .ok (.lload_n 3, 1) := by decide +kernel
theorem dX2_mixStorms_28 : decode cX2_mixStorms 28 = .ok (.aload_n 0, 1) := by decide +kernel
theorem dX2_mixStorms_29 : decode cX2_mixStorms 29 = .ok (.getfield 10, 3) := by decide +kernel
theorem dX2_mixStorms_32 : decode cX2_mixStorms 32 = .ok (.iload 5, 2) := by decide +kernel
theorem dX2_mixStorms_34 : decode cX2_mixStorms 34 = .ok (.invokevirtual 158, 3) := by decide +kernel
theorem dX2_mixStorms_37 : decode cX2_mixStorms 37 = .ok (.i2l, 1) := by decide +kernel
theorem dX2_mixStorms_38 : decode cX2_mixStorms 38 = .ok (.invokestatic 188, 3) := by decide +kernel
theorem dX2_mixStorms_41 : decode cX2_mixStorms 41 = .ok (.lstore_n 3, 1) := by decide +kernel
theorem dX2_mixStorms_42 : decode cX2_mixStorms 42 = .ok (.iinc 5 1, 3) := by decide +kernel
theorem dX2_mixStorms_45 : decode cX2_mixStorms 45 = .ok (.goto (-40), 3) := by decide +kernel
theorem dX2_mixStorms_48 : decode cX2_mixStorms 48 = .ok (.lload_n 3, 1) := by decide +kernel
theorem dX2_mixStorms_49 : decode cX2_mixStorms 49 = .ok (.lreturn, 1) := by decide +kernel
set_option maxRecDepth 20000 in
theorem ggX2_mixShips_X2_markCompacted : GoodIn wsX2_mixShips wsX2_markCompacted := goodIn_r _ [8, 3, 9, 10, 11, 7, 12, 1, 2, 13, 14, 15, 16, 17, 18, 19, 20, 21, 22, 23, 24, 25, 26, 27, 28, 29, 61, 62, 63, 64, 65, 66, 67, 68, 69, 75, 76, 77, 78, 79, 80, 81, 82, 70, 71, 72, 73, 74] (by decide +kernel) (by decide +kernel)
set_option maxRecDepth 20000 in
theorem gX2_mixShips_X2_markCompacted : GoodIn wsX2_mixShips (wsV RX2 75 RX2 yX2_markCompacted wsX2_markCompacted) := goodIn_app (goodIn_of _ (by decide +kernel)) ggX2_mixShips_X2_markCompacted
set_option maxRecDepth 20000 in
theorem ggX2_mixShips_X2_mix : GoodIn wsX2_mixShips wsX2_mix := goodIn_r _ [32, 33] (by decide +kernel) (by decide +kernel)
set_option maxRecDepth 20000 in
theorem gX2_mixShips_X2_mix : GoodIn wsX2_mixShips (va_wsS RX2 188 yX2_mix wsX2_mix) := goodIn_app (goodIn_of _ (by decide +kernel)) ggX2_mixShips_X2_mix
set_option maxRecDepth 20000 in
theorem ggX2_mixShips_X2_lag : GoodIn wsX2_mixShips wsX2_lag := goodIn_r _ [37, 3, 38, 18, 39, 40, 21, 24, 61, 62, 63, 64, 65, 66, 67, 68, 69, 75, 76, 77, 78, 79, 80, 81, 82, 70, 71, 72, 73, 74] (by decide +kernel) (by decide +kernel)
set_option maxRecDepth 20000 in
theorem gX2_mixShips_X2_lag : GoodIn wsX2_mixShips (wsV RX2 161 RX2 yX2_lag wsX2_lag) := goodIn_app (goodIn_of _ (by decide +kernel)) ggX2_mixShips_X2_lag
set_option maxRecDepth 20000 in
theorem ggX2_mixShips_X2_errorsAfter : GoodIn wsX2_mixShips wsX2_errorsAfter := goodIn_r _ [44, 3, 13, 14, 15, 16, 38, 18, 39, 40, 21, 24, 27, 28, 29, 22, 45, 46, 47, 23, 26, 61, 62, 63, 64, 65, 66, 67, 68, 69, 70, 71, 72, 73, 74, 75, 76, 77, 78, 79, 80, 81, 82] (by decide +kernel) (by decide +kernel)
set_option maxRecDepth 20000 in
theorem gX2_mixShips_X2_errorsAfter : GoodIn wsX2_mixShips (wsV RX2 174 RX2 yX2_errorsAfter wsX2_errorsAfter) := goodIn_app (goodIn_of _ (by decide +kernel)) ggX2_mixShips_X2_errorsAfter
set_option maxRecDepth 20000 in
theorem ggX2_mixShips_X2_hoursToGo : GoodIn wsX2_mixShips wsX2_hoursToGo := goodIn_r _ [51, 34, 35, 36, 7, 37, 3, 38, 18, 39, 40, 21, 24, 52, 53, 54, 55, 56, 70, 71, 72, 73, 74, 61, 62, 63, 64, 65, 66, 67, 68, 69, 75, 76, 77, 78, 79, 80, 81, 82] (by decide +kernel) (by decide +kernel)
set_option maxRecDepth 20000 in
theorem gX2_mixShips_X2_hoursToGo : GoodIn wsX2_mixShips (wsV RX2 177 RX2 yX2_hoursToGo wsX2_hoursToGo) := goodIn_app (goodIn_of _ (by decide +kernel)) ggX2_mixShips_X2_hoursToGo
set_option maxRecDepth 20000 in
theorem ggX2_mixShips_X0_countMarkedFrom : GoodIn wsX2_mixShips wsX0_countMarkedFrom := goodIn_r _ [59, 21, 25, 60, 38, 39, 18, 40, 24, 75, 76, 77, 78, 79, 80, 81, 82] (by decide +kernel) (by decide +kernel)
set_option maxRecDepth 20000 in
theorem gX2_mixShips_X0_countMarkedFrom_n183 : GoodIn wsX2_mixShips (wsX0_countMarkedFrom) := ggX2_mixShips_X0_countMarkedFrom
theorem dX2_mixShips_0 : decode cX2_mixShips 0 = .ok (.lload_n 1, 1) := by decide +kernel
theorem dX2_mixShips_1 : decode cX2_mixShips 1 = .ok (.lstore_n 3, 1) := by decide +kernel
theorem dX2_mixShips_2 : decode cX2_mixShips 2 = .ok (.aload_n 0, 1) := by decide +kernel
theorem dX2_mixShips_3 : decode cX2_mixShips 3 = .ok (.invokevirtual 75, 3) := by decide +kernel
theorem dX2_mixShips_6 : decode cX2_mixShips 6 = .ok (.iconst 0, 1) := by decide +kernel
theorem dX2_mixShips_7 : decode cX2_mixShips 7 = .ok (.istore 5, 2) := by decide +kernel
theorem dX2_mixShips_9 : decode cX2_mixShips 9 = .ok (.iload 5, 2) := by decide +kernel
theorem dX2_mixShips_11 : decode cX2_mixShips 11 = .ok (.aload_n 0, 1) := by decide +kernel
theorem dX2_mixShips_12 : decode cX2_mixShips 12 = .ok (.getfield 90, 3) := by decide +kernel
theorem dX2_mixShips_15 : decode cX2_mixShips 15 = .ok (.if_icmp .ge 106, 3) := by decide +kernel
theorem dX2_mixShips_18 : decode cX2_mixShips 18 = .ok (.aload_n 0, 1) := by decide +kernel
theorem dX2_mixShips_19 : decode cX2_mixShips 19 = .ok (.getfield 22, 3) := by decide +kernel
theorem dX2_mixShips_22 : decode cX2_mixShips 22 = .ok (.iload 5, 2) := by decide +kernel
theorem dX2_mixShips_24 : decode cX2_mixShips 24 = .ok (.aaload, 1) := by decide +kernel
theorem dX2_mixShips_25 : decode cX2_mixShips 25 = .ok (.astore 6, 2) := by decide +kernel
theorem dX2_mixShips_27 : decode cX2_mixShips 27 = .ok (.lload_n 3, 1) := by decide +kernel
theorem dX2_mixShips_28 : decode cX2_mixShips 28 = .ok (.aload 6, 2) := by decide +kernel
theorem dX2_mixShips_30 : decode cX2_mixShips 30 = .ok (.getfield 98, 3) := by decide +kernel
theorem dX2_mixShips_33 : decode cX2_mixShips 33 = .ok (.i2l, 1) := by decide +kernel
theorem dX2_mixShips_34 : decode cX2_mixShips 34 = .ok (.invokestatic 188, 3) := by decide +kernel
theorem dX2_mixShips_37 : decode cX2_mixShips 37 = .ok (.lstore_n 3, 1) := by decide +kernel
theorem dX2_mixShips_38 : decode cX2_mixShips 38 = .ok (.lload_n 3, 1) := by decide +kernel
theorem dX2_mixShips_39 : decode cX2_mixShips 39 = .ok (.aload_n 0, 1) := by decide +kernel
theorem dX2_mixShips_40 : decode cX2_mixShips 40 = .ok (.aload 6, 2) := by decide +kernel
theorem dX2_mixShips_42 : decode cX2_mixShips 42 = .ok (.invokevirtual 161, 3) := by decide +kernel
theorem dX2_mixShips_45 : decode cX2_mixShips 45 = .ok (.i2l, 1) := by decide +kernel
theorem dX2_mixShips_46 : decode cX2_mixShips 46 = .ok (.invokestatic 188, 3) := by decide +kernel
theorem dX2_mixShips_49 : decode cX2_mixShips 49 = .ok (.lstore_n 3, 1) := by decide +kernel
theorem dX2_mixShips_50 : decode cX2_mixShips 50 = .ok (.lload_n 3, 1) := by decide +kernel
theorem dX2_mixShips_51 : decode cX2_mixShips 51 = .ok (.aload 6, 2) := by decide +kernel
theorem dX2_mixShips_53 : decode cX2_mixShips 53 = .ok (.getfield 165, 3) := by decide +kernel
theorem dX2_mixShips_56 : decode cX2_mixShips 56 = .ok (.i2l, 1) := by decide +kernel
theorem dX2_mixShips_57 : decode cX2_mixShips 57 = .ok (.invokestatic 188, 3) := by decide +kernel
theorem dX2_mixShips_60 : decode cX2_mixShips 60 = .ok (.lstore_n 3, 1) := by decide +kernel
theorem dX2_mixShips_61 : decode cX2_mixShips 61 = .ok (.lload_n 3, 1) := by decide +kernel
theorem dX2_mixShips_62 : decode cX2_mixShips 62 = .ok (.aload 6, 2) := by decide +kernel
theorem dX2_mixShips_64 : decode cX2_mixShips 64 = .ok (.getfield 168, 3) := by decide +kernel
theorem dX2_mixShips_67 : decode cX2_mixShips 67 = .ok (.i2l, 1) := by decide +kernel
theorem dX2_mixShips_68 : decode cX2_mixShips 68 = .ok (.invokestatic 188, 3) := by decide +kernel
theorem dX2_mixShips_71 : decode cX2_mixShips 71 = .ok (.lstore_n 3, 1) := by decide +kernel
theorem dX2_mixShips_72 : decode cX2_mixShips 72 = .ok (.lload_n 3, 1) := by decide +kernel
theorem dX2_mixShips_73 : decode cX2_mixShips 73 = .ok (.aload_n 0, 1) := by decide +kernel
theorem dX2_mixShips_74 : decode cX2_mixShips 74 = .ok (.aload 6, 2) := by decide +kernel
theorem dX2_mixShips_76 : decode cX2_mixShips 76 = .ok (.iconst 0, 1) := by decide +kernel
theorem dX2_mixShips_77 : decode cX2_mixShips 77 = .ok (.invokevirtual 174, 3) := by decide +kernel
theorem dX2_mixShips_80 : decode cX2_mixShips 80 = .ok (.i2l, 1) := by decide +kernel
theorem dX2_mixShips_81 : decode cX2_mixShips 81 = .ok (.invokestatic 188, 3) := by decide +kernel
theorem dX2_mixShips_84 : decode cX2_mixShips 84 = .ok (.lstore_n 3, 1) := by decide +kernel
theorem dX2_mixShips_85 : decode cX2_mixShips 85 = .ok (.lload_n 3, 1) := by decide +kernel
theorem dX2_mixShips_86 : decode cX2_mixShips 86 = .ok (.aload_n 0, 1) := by decide +kernel
theorem dX2_mixShips_87 : decode cX2_mixShips 87 = .ok (.aload 6, 2) := by decide +kernel
theorem dX2_mixShips_89 : decode cX2_mixShips 89 = .ok (.invokevirtual 177, 3) := by decide +kernel
theorem dX2_mixShips_92 : decode cX2_mixShips 92 = .ok (.i2l, 1) := by decide +kernel
theorem dX2_mixShips_93 : decode cX2_mixShips 93 = .ok (.invokestatic 188, 3) := by decide +kernel
theorem dX2_mixShips_96 : decode cX2_mixShips 96 = .ok (.lstore_n 3, 1) := by decide +kernel
theorem dX2_mixShips_97 : decode cX2_mixShips 97 = .ok (.lload_n 3, 1) := by decide +kernel
theorem dX2_mixShips_98 : decode cX2_mixShips 98 = .ok (.aload_n 0, 1) := by decide +kernel
theorem dX2_mixShips_99 : decode cX2_mixShips 99 = .ok (.getfield 10, 3) := by decide +kernel
theorem dX2_mixShips_102 : decode cX2_mixShips 102 = .ok (.aload 6, 2) := by decide +kernel
theorem dX2_mixShips_104 : decode cX2_mixShips 104 = .ok (.getfield 98, 3) := by decide +kernel
theorem dX2_mixShips_107 : decode cX2_mixShips 107 = .ok (.invokevirtual 183, 3) := by decide +kernel
theorem dX2_mixShips_110 : decode cX2_mixShips 110 = .ok (.i2l, 1) := by decide +kernel
theorem dX2_mixShips_111 : decode cX2_mixShips 111 = .ok (.invokestatic 188, 3) := by decide +kernel
theorem dX2_mixShips_114 : decode cX2_mixShips 114 = .ok (.lstore_n 3, 1) := by decide +kernel
theorem dX2_mixShips_115 : decode cX2_mixShips 115 = .ok (.iinc 5 1, 3) := by decide +kernel
theorem dX2_mixShips_118 : decode cX2_mixShips 118 = .ok (.goto (-109), 3) := by decide +kernel
theorem dX2_mixShips_121 : decode cX2_mixShips 121 = .ok (.lload_n 3, 1) := by decide +kernel
theorem dX2_mixShips_122 : decode cX2_mixShips 122 = .ok (.lreturn, 1) := by decide +kernel
theorem dX2_mix_0 : decode cX2_mix 0 = .ok (.lload_n 0, 1) := by decide +kernel
theorem dX2_mix_1 : decode cX2_mix 1 = .ok (.ldc2_w 211, 3) := by decide +kernel
theorem dX2_mix_4 : decode cX2_mix 4 = .ok (.lmul, 1) := by decide +kernel
theorem dX2_mix_5 : decode cX2_mix 5 = .ok (.lload_n 2, 1) := by decide +kernel
theorem dX2_mix_6 : decode cX2_mix 6 = .ok (.ladd, 1) := by decide +kernel
theorem dX2_mix_7 : decode cX2_mix 7 = .ok (.lreturn, 1) := by decide +kernel
set_option maxRecDepth 20000 in
theorem ggX2_speak_X0_markFirst : GoodIn wsX2_speak wsX0_markFirst := goodIn_r _ [8, 9, 10, 46, 47, 48, 49, 50, 51, 52, 53] (by decide +kernel) (by decide +kernel)
set_option maxRecDepth 20000 in
theorem gX2_speak_X0_markFirst_n213 : GoodIn wsX2_speak (wsX0_markFirst) := ggX2_speak_X0_markFirst
set_option maxRecDepth 20000 in
theorem ggX2_speak_X2_dropMarked : GoodIn wsX2_speak wsX2_dropMarked := goodIn_r _ [15, 16, 17, 1, 18, 6, 19, 20, 9, 10, 21, 22, 23, 24, 25, 26, 27, 28, 29, 30, 31, 32, 37, 38, 39, 40, 41, 42, 43, 44, 45, 54, 55, 56, 57, 58, 46, 47, 48, 49, 50, 51, 52, 53] (by decide +kernel) (by decide +kernel)
set_option maxRecDepth 20000 in
theorem gX2_speak_X2_dropMarked : GoodIn wsX2_speak (wsV RX2 78 RX2 yX2_dropMarked wsX2_dropMarked) := goodIn_app (goodIn_of _ (by decide +kernel)) ggX2_speak_X2_dropMarked
set_option maxRecDepth 20000 in
theorem ggX2_speak_X0_append : GoodIn wsX2_speak wsX0_append := goodIn_r _ [35, 25, 9, 36, 29, 30, 31, 46, 47, 48, 49, 50, 51, 52, 53] (by decide +kernel) (by decide +kernel)
set_option maxRecDepth 20000 in
theorem gX2_speak_X0_append_n216 : GoodIn wsX2_speak (wsX0_append) := ggX2_speak_X0_append
theorem dX2_speak_0 : decode cX2_speak 0 = .ok (.aload_n 0, 1) := by decide +kernel
theorem dX2_speak_1 : decode cX2_speak 1 = .ok (.getfield 10, 3) := by decide +kernel
theorem dX2_speak_4 : decode cX2_speak 4 = .ok (.getfield 118, 3) := by decide +kernel
theorem dX2_speak_7 : decode cX2_speak 7 = .ok (.bipush 48, 2) := by decide +kernel
theorem dX2_speak_9 : decode cX2_speak 9 = .ok (.if_icmp .lt 15, 3) := by decide +kernel
theorem dX2_speak_12 : decode cX2_speak 12 = .ok (.aload_n 0, 1) := by decide +kernel
theorem dX2_speak_13 : decode cX2_speak 13 = .ok (.getfield 10, 3) := by decide +kernel
theorem dX2_speak_16 : decode cX2_speak 16 = .ok (.invokevirtual 213, 3) := by decide +kernel
theorem dX2_speak_19 : decode cX2_speak 19 = .ok (.aload_n 0, 1) := by decide +kernel
theorem dX2_speak_20 : decode cX2_speak 20 = .ok (.invokevirtual 78, 3) := by decide +kernel
theorem dX2_speak_23 : decode cX2_speak 23 = .ok (.pop, 1) := by decide +kernel
theorem dX2_speak_24 : decode cX2_speak 24 = .ok (.iconst (-1), 1) := by decide +kernel
theorem dX2_speak_25 : decode cX2_speak 25 = .ok (.istore_n 3, 1) := by decide +kernel
theorem dX2_speak_26 : decode cX2_speak 26 = .ok (.aload_n 0, 1) := by decide +kernel
theorem dX2_speak_27 : decode cX2_speak 27 = .ok (.getfield 50, 3) := by decide +kernel
theorem dX2_speak_30 : decode cX2_speak 30 = .ok (.ifCond .eq 20, 3) := by decide +kernel
theorem dX2_speak_33 : decode cX2_speak 33 = .ok (.aload_n 0, 1) := by decide +kernel
theorem dX2_speak_34 : decode cX2_speak 34 = .ok (.getfield 59, 3) := by decide +kernel
theorem dX2_speak_37 : decode cX2_speak 37 = .ok (.iconst 1, 1) := by decide +kernel
theorem dX2_speak_38 : decode cX2_speak 38 = .ok (.isub, 1) := by decide +kernel
theorem dX2_speak_39 : decode cX2_speak 39 = .ok (.istore_n 3, 1) := by decide +kernel
theorem dX2_speak_40 : decode cX2_speak 40 = .ok (.aload_n 0, 1) := by decide +kernel
theorem dX2_speak_41 : decode cX2_speak 41 = .ok (.getfield 16, 3) := by decide +kernel
theorem dX2_speak_44 : decode cX2_speak 44 = .ok (.iload_n 3, 1) := by decide +kernel
theorem dX2_speak_45 : decode cX2_speak 45 = .ok (.dup2, 1) := by decide +kernel
theorem dX2_speak_46 : decode cX2_speak 46 = .ok (.iaload, 1) := by decide +kernel
theorem dX2_speak_47 : decode cX2_speak 47 = .ok (.iconst 1, 1) := by decide +kernel
theorem dX2_speak_48 : decode cX2_speak 48 = .ok (.iadd, 1) := by decide +kernel
theorem dX2_speak_49 : decode cX2_speak 49 = .ok (.iastore, 1) := by decide +kernel
theorem dX2_speak_50 : decode cX2_speak 50 = .ok (.aload_n 0, 1) := by decide +kernel
theorem dX2_speak_51 : decode cX2_speak 51 = .ok (.getfield 10, 3) := by decide +kernel
theorem dX2_speak_54 : decode cX2_speak 54 = .ok (.iload_n 1, 1) := by decide +kernel
theorem dX2_speak_55 : decode cX2_speak 55 = .ok (.iload_n 2, 1) := by decide +kernel
theorem dX2_speak_56 : decode cX2_speak 56 = .ok (.iload_n 3, 1) := by decide +kernel
theorem dX2_speak_57 : decode cX2_speak 57 = .ok (.invokevirtual 216, 3) := by decide +kernel
theorem dX2_speak_60 : decode cX2_speak 60 = .ok (.ireturn, 1) := by decide +kernel
set_option maxRecDepth 20000 in
theorem ggX2_markCompacted_X2_leastShipOffset : GoodIn wsX2_markCompacted wsX2_leastShipOffset := goodIn_r _ [6, 1, 7, 8, 9, 10, 11, 12, 26, 27, 28, 29, 30, 31, 32, 33, 34, 35, 36, 37, 38, 39, 40, 41, 42, 43, 44, 45, 46, 47] (by decide +kernel) (by decide +kernel)
set_option maxRecDepth 20000 in
theorem gX2_markCompacted_X2_leastShipOffset : GoodIn wsX2_markCompacted (wsV RX2 220 RX2 yX2_leastShipOffset wsX2_leastShipOffset) := goodIn_app (goodIn_of _ (by decide +kernel)) ggX2_markCompacted_X2_leastShipOffset
set_option maxRecDepth 20000 in
theorem ggX2_markCompacted_X0_markCompacted : GoodIn wsX2_markCompacted wsX0_markCompacted := goodIn_r _ [16, 17, 18, 19, 20, 21, 22, 23, 24, 14, 25, 35, 36, 37, 38, 39, 40, 41, 42] (by decide +kernel) (by decide +kernel)
set_option maxRecDepth 20000 in
theorem gX2_markCompacted_X0_markCompacted_n223 : GoodIn wsX2_markCompacted (wsX0_markCompacted) := ggX2_markCompacted_X0_markCompacted
theorem dX2_markCompacted_0 : decode cX2_markCompacted 0 = .ok (.aload_n 0, 1) := by decide +kernel
theorem dX2_markCompacted_1 : decode cX2_markCompacted 1 = .ok (.getfield 10, 3) := by decide +kernel
theorem dX2_markCompacted_4 : decode cX2_markCompacted 4 = .ok (.aload_n 0, 1) := by decide +kernel
theorem dX2_markCompacted_5 : decode cX2_markCompacted 5 = .ok (.invokevirtual 220, 3) := by decide +kernel
theorem dX2_markCompacted_8 : decode cX2_markCompacted 8 = .ok (.invokevirtual 223, 3) := by decide +kernel
theorem dX2_markCompacted_11 : decode cX2_markCompacted 11 = .ok (.return_, 1) := by decide +kernel
theorem dX2_leastShipOffset_0 : decode cX2_leastShipOffset 0 = .ok (.aload_n 0, 1) := by decide +kernel
theorem dX2_leastShipOffset_1 : decode cX2_leastShipOffset 1 = .ok (.getfield 10, 3) := by decide +kernel
theorem dX2_leastShipOffset_4 : decode cX2_leastShipOffset 4 = .ok (.getfield 121, 3) := by decide +kernel
theorem dX2_leastShipOffset_7 : decode cX2_leastShipOffset 7 = .ok (.istore_n 1, 1) := by decide +kernel
theorem dX2_leastShipOffset_8 : decode cX2_leastShipOffset 8 = .ok (.iconst 0, 1) := by decide +kernel
theorem dX2_leastShipOffset_9 : decode cX2_leastShipOffset 9 = .ok (.istore_n 2, 1) := by decide +kernel
theorem dX2_leastShipOffset_10 : decode cX2_leastShipOffset 10 = .ok (.iload_n 2, 1) := by decide +kernel
theorem dX2_leastShipOffset_11 : decode cX2_leastShipOffset 11 = .ok (.aload_n 0, 1) := by decide +kernel
theorem dX2_leastShipOffset_12 : decode cX2_leastShipOffset 12 = .ok (.getfield 90, 3) := by decide +kernel
theorem dX2_leastShipOffset_15 : decode cX2_leastShipOffset 15 = .ok (.if_icmp .ge 23, 3) := by decide +kernel
theorem dX2_leastShipOffset_18 : decode cX2_leastShipOffset 18 = .ok (.iload_n 1, 1) := by decide +kernel
theorem dX2_leastShipOffset_19 : decode cX2_leastShipOffset 19 = .ok (.aload_n 0, 1) := by decide +kernel
theorem dX2_leastShipOffset_20 : decode cX2_leastShipOffset 20 = .ok (.getfield 22, 3) := by decide +kernel
theorem dX2_leastShipOffset_23 : decode cX2_leastShipOffset 23 = .ok (.iload_n 2, 1) := by decide +kernel
theorem dX2_leastShipOffset_24 : decode cX2_leastShipOffset 24 = .ok (.aaload, 1) := by decide +kernel
theorem dX2_leastShipOffset_25 : decode cX2_leastShipOffset 25 = .ok (.getfield 98, 3) := by decide +kernel
theorem dX2_leastShipOffset_28 : decode cX2_leastShipOffset 28 = .ok (.invokestatic 225, 3) := by decide +kernel
theorem dX2_leastShipOffset_31 : decode cX2_leastShipOffset 31 = .ok (.istore_n 1, 1) := by decide +kernel
theorem dX2_leastShipOffset_32 : decode cX2_leastShipOffset 32 = .ok (.iinc 2 1, 3) := by decide +kernel
theorem dX2_leastShipOffset_35 : decode cX2_leastShipOffset 35 = .ok (.goto (-25), 3) := by decide +kernel
theorem dX2_leastShipOffset_38 : decode cX2_leastShipOffset 38 = .ok (.iload_n 1, 1) := by decide +kernel
theorem dX2_leastShipOffset_39 : decode cX2_leastShipOffset 39 = .ok (.ireturn, 1) := by decide +kernel
set_option maxRecDepth 20000 in
theorem ggX2_dropMarked_X0_countMarkedFrom : GoodIn wsX2_dropMarked wsX0_countMarkedFrom := goodIn_r _ [7, 8, 9, 10, 11, 12, 5, 13, 14, 36, 37, 38, 39, 40, 41, 42, 43] (by decide +kernel) (by decide +kernel)
set_option maxRecDepth 20000 in
theorem gX2_dropMarked_X0_countMarkedFrom_n183 : GoodIn wsX2_dropMarked (wsX0_countMarkedFrom) := ggX2_dropMarked_X0_countMarkedFrom
set_option maxRecDepth 20000 in
theorem ggX2_dropMarked_X0_removeMarked : GoodIn wsX2_dropMarked wsX0_removeMarked := goodIn_r _ [17, 8, 9, 14, 18, 19, 20, 21, 36, 37, 38, 39, 40, 41, 42, 43] (by decide +kernel) (by decide +kernel)
set_option maxRecDepth 20000 in
theorem gX2_dropMarked_X0_removeMarked_n230 : GoodIn wsX2_dropMarked (wsX0_removeMarked) := ggX2_dropMarked_X0_removeMarked
theorem dX2_dropMarked_0 : decode cX2_dropMarked 0 = .ok (.iconst 0, 1) := by decide +kernel
theorem dX2_dropMarked_1 : decode cX2_dropMarked 1 = .ok (.istore_n 1, 1) := by decide +kernel
theorem dX2_dropMarked_2 : decode cX2_dropMarked 2 = .ok (.iload_n 1, 1) := by decide +kernel
theorem dX2_dropMarked_3 : decode cX2_dropMarked 3 = .ok (.aload_n 0, 1) := by decide +kernel
theorem dX2_dropMarked_4 : decode cX2_dropMarked 4 = .ok (.getfield 90, 3) := by decide +kernel
theorem dX2_dropMarked_7 : decode cX2_dropMarked 7 = .ok (.if_icmp .ge 39, 3) := by decide +kernel
theorem dX2_dropMarked_10 : decode cX2_dropMarked 10 = .ok (.aload_n 0, 1) := by decide +kernel
theorem dX2_dropMarked_11 : decode cX2_dropMarked 11 = .ok (.getfield 22, 3) := by decide +kernel
theorem dX2_dropMarked_14 : decode cX2_dropMarked 14 = .ok (.iload_n 1, 1) := by decide +kernel
theorem dX2_dropMarked_15 : decode cX2_dropMarked 15 = .ok (.aaload, 1) := by decide +kernel
theorem dX2_dropMarked_16 : decode cX2_dropMarked 16 = .ok (.dup, 1) := by decide +kernel
theorem dX2_dropMarked_17 : decode cX2_dropMarked 17 = .ok (.getfield 168, 3) := by decide +kernel
theorem dX2_dropMarked_20 : decode cX2_dropMarked 20 = .ok (.aload_n 0, 1) := by decide +kernel
theorem dX2_dropMarked_21 : decode cX2_dropMarked 21 = .ok (.getfield 10, 3) := by decide +kernel
theorem dX2_dropMarked_24 : decode cX2_dropMarked 24 = .ok (.aload_n 0, 1) := by decide +kernel
theorem dX2_dropMarked_25 : decode cX2_dropMarked 25 = .ok (.getfield 22, 3) := by decide +kernel
theorem dX2_dropMarked_28 : decode cX2_dropMarked 28 = .ok (.iload_n 1, 1) := by decide +kernel
theorem dX2_dropMarked_29 : decode cX2_dropMarked 29 = .ok (.aaload, 1) := by decide +kernel
theorem dX2_dropMarked_30 : decode cX2_dropMarked 30 = .ok (.getfield 98, 3) := by decide +kernel
theorem dX2_dropMarked_33 : decode cX2_dropMarked 33 = .ok (.invokevirtual 183, 3) := by decide +kernel
theorem dX2_dropMarked_36 : decode cX2_dropMarked 36 = .ok (.iadd, 1) := by decide +kernel
theorem dX2_dropMarked_37 : decode cX2_dropMarked 37 = .ok (.putfield 168, 3) := by decide +kernel
theorem dX2_dropMarked_40 : decode cX2_dropMarked 40 = .ok (.iinc 1 1, 3) := by decide +kernel
theorem dX2_dropMarked_43 : decode cX2_dropMarked 43 = .ok (.goto (-41), 3) := by decide +kernel
theorem dX2_dropMarked_46 : decode cX2_dropMarked 46 = .ok (.aload_n 0, 1) := by decide +kernel
theorem dX2_dropMarked_47 : decode cX2_dropMarked 47 = .ok (.getfield 10, 3) := by decide +kernel
theorem dX2_dropMarked_50 : decode cX2_dropMarked 50 = .ok (.invokevirtual 230, 3) := by decide +kernel
theorem dX2_dropMarked_53 : decode cX2_dropMarked 53 = .ok (.ireturn, 1) := by decide +kernel
set_option maxRecDepth 20000 in
theorem ggX2_lag_X0_positionFrom : GoodIn wsX2_lag wsX0_positionFrom := goodIn_r _ [5, 6, 7, 17, 18, 19, 20, 21, 22, 23, 24] (by decide +kernel) (by decide +kernel)
set_option maxRecDepth 20000 in
theorem gX2_lag_X0_positionFrom_n233 : GoodIn wsX2_lag (wsX0_positionFrom) := ggX2_lag_X0_positionFrom
theorem dX2_lag_0 : decode cX2_lag 0 = .ok (.aload_n 0, 1) := by decide +kernel
theorem dX2_lag_1 : decode cX2_lag 1 = .ok (.getfield 10, 3) := by decide +kernel
theorem dX2_lag_4 : decode cX2_lag 4 = .ok (.getfield 118, 3) := by decide +kernel
theorem dX2_lag_7 : decode cX2_lag 7 = .ok (.aload_n 0, 1) := by decide +kernel
theorem dX2_lag_8 : decode cX2_lag 8 = .ok (.getfield 10, 3) := by decide +kernel
theorem dX2_lag_11 : decode cX2_lag 11 = .ok (.aload_n 1, 1) := by decide +kernel
theorem dX2_lag_12 : decode cX2_lag 12 = .ok (.getfield 98, 3) := by decide +kernel
theorem dX2_lag_15 : decode cX2_lag 15 = .ok (.invokevirtual 233, 3) := by decide +kernel
theorem dX2_lag_18 : decode cX2_lag 18 = .ok (.isub, 1) := by decide +kernel
theorem dX2_lag_19 : decode cX2_lag 19 = .ok (.ireturn, 1) := by decide +kernel
theorem dX2_mostHeard_0 : decode cX2_mostHeard 0 = .ok (.aload_n 0, 1) := by decide +kernel
theorem dX2_mostHeard_1 : decode cX2_mostHeard 1 = .ok (.getfield 50, 3) := by decide +kernel
theorem dX2_mostHeard_4 : decode cX2_mostHeard 4 = .ok (.ifCond .eq 7, 3) := by decide +kernel
theorem dX2_mostHeard_7 : decode cX2_mostHeard 7 = .ok (.iconst 0, 1) := by decide +kernel
theorem dX2_mostHeard_8 : decode cX2_mostHeard 8 = .ok (.goto 6, 3) := by decide +kernel
theorem dX2_mostHeard_11 : decode cX2_mostHeard 11 = .ok (.iload_n 1, 1) := by decide +kernel
theorem dX2_mostHeard_12 : decode cX2_mostHeard 12 = .ok (.iload_n 2, 1) := by decide +kernel
theorem dX2_mostHeard_13 : decode cX2_mostHeard 13 = .ok (.imul, 1) := by decide +kernel
theorem dX2_mostHeard_14 : decode cX2_mostHeard 14 = .ok (.ireturn, 1) := by decide +kernel
set_option maxRecDepth 20000 in
theorem ggX2_hearNext_X0_positionFrom : GoodIn wsX2_hearNext wsX0_positionFrom := goodIn_r _ [9, 10, 11, 33, 34, 35, 36, 37, 38, 39, 40] (by decide +kernel) (by decide +kernel)
set_option maxRecDepth 20000 in
theorem gX2_hearNext_X0_positionFrom_n233 : GoodIn wsX2_hearNext (wsX0_positionFrom) := ggX2_hearNext_X0_positionFrom
set_option maxRecDepth 20000 in
theorem ggX2_hearNext_X1_hear : GoodIn wsX2_hearNext wsX1_hear := goodIn_r _ [15, 16, 17, 18, 28, 29, 30, 31, 32] (by decide +kernel) (by decide +kernel)
set_option maxRecDepth 20000 in
theorem gX2_hearNext_X1_hear_n236 : GoodIn wsX2_hearNext (wsX1_hear) := ggX2_hearNext_X1_hear
theorem dX2_hearNext_0 : decode cX2_hearNext 0 = .ok (.aload_n 0, 1) := by decide +kernel
theorem dX2_hearNext_1 : decode cX2_hearNext 1 = .ok (.getfield 10, 3) := by decide +kernel
theorem dX2_hearNext_4 : decode cX2_hearNext 4 = .ok (.aload_n 1, 1) := by decide +kernel
theorem dX2_hearNext_5 : decode cX2_hearNext 5 = .ok (.getfield 98, 3) := by decide +kernel
theorem dX2_hearNext_8 : decode cX2_hearNext 8 = .ok (.invokevirtual 233, 3) := by decide +kernel
theorem dX2_hearNext_11 : decode cX2_hearNext 11 = .ok (.istore_n 3, 1) := by decide +kernel
theorem dX2_hearNext_12 : decode cX2_hearNext 12 = .ok (.aload_n 0, 1) := by decide +kernel
theorem dX2_hearNext_13 : decode cX2_hearNext 13 = .ok (.getfield 10, 3) := by decide +kernel
theorem dX2_hearNext_16 : decode cX2_hearNext 16 = .ok (.getfield 118, 3) := by decide +kernel
theorem dX2_hearNext_19 : decode cX2_hearNext 19 = .ok (.iload_n 3, 1) := by decide +kernel
theorem dX2_hearNext_20 : decode cX2_hearNext 20 = .ok (.iload_n 2, 1) := by decide +kernel
theorem dX2_hearNext_21 : decode cX2_hearNext 21 = .ok (.iadd, 1) := by decide +kernel
theorem dX2_hearNext_22 : decode cX2_hearNext 22 = .ok (.invokestatic 225, 3) := by decide +kernel
theorem dX2_hearNext_25 : decode cX2_hearNext 25 = .ok (.istore 4, 2) := by decide +kernel
theorem dX2_hearNext_27 : decode cX2_hearNext 27 = .ok (.iload_n 3, 1) := by decide +kernel
theorem dX2_hearNext_28 : decode cX2_hearNext 28 = .ok (.istore 5, 2) := by decide +kernel
theorem dX2_hearNext_30 : decode cX2_hearNext 30 = .ok (.iload 5, 2) := by decide +kernel
theorem dX2_hearNext_32 : decode cX2_hearNext 32 = .ok (.iload 4, 2) := by decide +kernel
theorem dX2_hearNext_34 : decode cX2_hearNext 34 = .ok (.if_icmp .ge 43, 3) := by decide +kernel
theorem dX2_hearNext_37 : decode cX2_hearNext 37 = .ok (.aload_n 1, 1) := by decide +kernel
theorem dX2_hearNext_38 : decode cX2_hearNext 38 = .ok (.aload_n 0, 1) := by decide +kernel
theorem dX2_hearNext_39 : decode cX2_hearNext 39 = .ok (.getfield 10, 3) := by decide +kernel
theorem dX2_hearNext_42 : decode cX2_hearNext 42 = .ok (.getfield 124, 3) := by decide +kernel
theorem dX2_hearNext_45 : decode cX2_hearNext 45 = .ok (.iload 5, 2) := by decide +kernel
theorem dX2_hearNext_47 : decode cX2_hearNext 47 = .ok (.iaload, 1) := by decide +kernel
theorem dX2_hearNext_48 : decode cX2_hearNext 48 = .ok (.aload_n 0, 1) := by decide +kernel
theorem dX2_hearNext_49 : decode cX2_hearNext 49 = .ok (.getfield 10, 3) := by decide +kernel
theorem dX2_hearNext_52 : decode cX2_hearNext 52 = .ok (.getfield 134, 3) := by decide +kernel
theorem dX2_hearNext_55 : decode cX2_hearNext 55 = .ok (.iload 5, 2) := by decide +kernel
theorem dX2_hearNext_57 : decode cX2_hearNext 57 = .ok (.iaload, 1) := by decide +kernel
theorem dX2_hearNext_58 : decode cX2_hearNext 58 = .ok (.aload_n 0, 1) := by decide +kernel
theorem dX2_hearNext_59 : decode cX2_hearNext 59 = .ok (.getfield 10, 3) := by decide +kernel
theorem dX2_hearNext_62 : decode cX2_hearNext 62 = .ok (.getfield 140, 3) := by decide +kernel
theorem dX2_hearNext_65 : decode cX2_hearNext 65 = .ok (.iload 5, 2) := by decide +kernel
theorem dX2_hearNext_67 : decode cX2_hearNext 67 = .ok (.iaload, 1) := by decide +kernel
theorem dX2_hearNext_68 : decode cX2_hearNext 68 = .ok (.invokevirtual 236, 3) := by decide +kernel
theorem dX2_hearNext_71 : decode cX2_hearNext 71 = .ok (.iinc 5 1, 3) := by decide +kernel
theorem dX2_hearNext_74 : decode cX2_hearNext 74 = .ok (.goto (-44), 3) := by decide +kernel
theorem dX2_hearNext_77 : decode cX2_hearNext 77 = .ok (.iload 4, 2) := by decide +kernel
theorem dX2_hearNext_79 : decode cX2_hearNext 79 = .ok (.iload_n 3, 1) := by decide +kernel
theorem dX2_hearNext_80 : decode cX2_hearNext 80 = .ok (.isub, 1) := by decide +kernel
theorem dX2_hearNext_81 : decode cX2_hearNext 81 = .ok (.ireturn, 1) := by decide +kernel
set_option maxRecDepth 20000 in
theorem ggX2_hoursToGo_X2_lag : GoodIn wsX2_hoursToGo wsX2_lag := goodIn_r _ [5, 6, 7, 8, 9, 10, 11, 12, 23, 24, 25, 26, 27, 28, 29, 30, 31, 32, 33, 34, 35, 36, 37, 38, 39, 18, 19, 20, 21, 22] (by decide +kernel) (by decide +kernel)
set_option maxRecDepth 20000 in
theorem gX2_hoursToGo_X2_lag : GoodIn wsX2_hoursToGo (wsV RX2 161 RX2 yX2_lag wsX2_lag) := goodIn_app (goodIn_of _ (by decide +kernel)) ggX2_hoursToGo_X2_lag
set_option maxRecDepth 20000 in
theorem ggX2_hoursToGo_X2_mostHeard : GoodIn wsX2_hoursToGo wsX2_mostHeard := goodIn_r _ [16, 17, 23, 24, 25, 26, 27, 28, 29, 30, 31] (by decide +kernel) (by decide +kernel)
set_option maxRecDepth 20000 in
theorem gX2_hoursToGo_X2_mostHeard : GoodIn wsX2_hoursToGo (wsV RX2 108 RX2 yX2_mostHeard wsX2_mostHeard) := goodIn_app (goodIn_of _ (by decide +kernel)) ggX2_hoursToGo_X2_mostHeard
theorem dX2_hoursToGo_0 : decode cX2_hoursToGo 0 = .ok (.aload_n 0, 1) := by decide +kernel
theorem dX2_hoursToGo_1 : decode cX2_hoursToGo 1 = .ok (.aload_n 1, 1) := by decide +kernel
theorem dX2_hoursToGo_2 : decode cX2_hoursToGo 2 = .ok (.invokevirtual 161, 3) := by decide +kernel
theorem dX2_hoursToGo_5 : decode cX2_hoursToGo 5 = .ok (.istore_n 2, 1) := by decide +kernel
theorem dX2_hoursToGo_6 : decode cX2_hoursToGo 6 = .ok (.iconst 0, 1) := by decide +kernel
theorem dX2_hoursToGo_7 : decode cX2_hoursToGo 7 = .ok (.istore_n 3, 1) := by decide +kernel
theorem dX2_hoursToGo_8 : decode cX2_hoursToGo 8 = .ok (.iload_n 3, 1) := by decide +kernel
theorem dX2_hoursToGo_9 : decode cX2_hoursToGo 9 = .ok (.bipush 60, 2) := by decide +kernel
theorem dX2_hoursToGo_11 : decode cX2_hoursToGo 11 = .ok (.if_icmp .gt 24, 3) := by decide +kernel
theorem dX2_hoursToGo_14 : decode cX2_hoursToGo 14 = .ok (.aload_n 0, 1) := by decide +kernel
theorem dX2_hoursToGo_15 : decode cX2_hoursToGo 15 = .ok (.iload_n 3, 1) := by decide +kernel
theorem dX2_hoursToGo_16 : decode cX2_hoursToGo 16 = .ok (.aload_n 1, 1) := by decide +kernel
theorem dX2_hoursToGo_17 : decode cX2_hoursToGo 17 = .ok (.getfield 95, 3) := by decide +kernel
theorem dX2_hoursToGo_20 : decode cX2_hoursToGo 20 = .ok (.invokevirtual 108, 3) := by decide +kernel
theorem dX2_hoursToGo_23 : decode cX2_hoursToGo 23 = .ok (.iload_n 2, 1) := by decide +kernel
theorem dX2_hoursToGo_24 : decode cX2_hoursToGo 24 = .ok (.if_icmp .lt 5, 3) := by decide +kernel
theorem dX2_hoursToGo_27 : decode cX2_hoursToGo 27 = .ok (.iload_n 3, 1) := by decide +kernel
theorem dX2_hoursToGo_28 : decode cX2_hoursToGo 28 = .ok (.ireturn, 1) := by decide +kernel
theorem dX2_hoursToGo_29 : decode cX2_hoursToGo 29 = .ok (.iinc 3 1, 3) := by decide +kernel
theorem dX2_hoursToGo_32 : decode cX2_hoursToGo 32 = .ok (.goto (-24), 3) := by decide +kernel
theorem dX2_hoursToGo_35 : decode cX2_hoursToGo 35 = .ok (.iconst (-1), 1) := by decide +kernel
theorem dX2_hoursToGo_36 : decode cX2_hoursToGo 36 = .ok (.ireturn, 1) := by decide +kernel
set_option maxRecDepth 20000 in
theorem ggX2_errorsAfter_X0_positionFrom : GoodIn wsX2_errorsAfter wsX0_positionFrom := goodIn_r _ [9, 10, 11, 35, 36, 37, 38, 39, 40, 41, 42] (by decide +kernel) (by decide +kernel)
set_option maxRecDepth 20000 in
theorem gX2_errorsAfter_X0_positionFrom_n233 : GoodIn wsX2_errorsAfter (wsX0_positionFrom) := ggX2_errorsAfter_X0_positionFrom
set_option maxRecDepth 20000 in
theorem ggX2_errorsAfter_X0_latestPosition : GoodIn wsX2_errorsAfter wsX0_latestPosition := goodIn_r _ [14, 15, 35, 36, 37, 38, 39, 40, 41, 42] (by decide +kernel) (by decide +kernel)
set_option maxRecDepth 20000 in
theorem gX2_errorsAfter_X0_latestPosition_n240 : GoodIn wsX2_errorsAfter (wsX0_latestPosition) := ggX2_errorsAfter_X0_latestPosition
set_option maxRecDepth 20000 in
theorem ggX2_errorsAfter_X0_latestValue : GoodIn wsX2_errorsAfter wsX0_latestValue := goodIn_r _ [18, 10, 19, 20, 12, 13, 7, 14, 15, 35, 36, 37, 38, 39, 40, 41, 42] (by decide +kernel) (by decide +kernel)
set_option maxRecDepth 20000 in
theorem gX2_errorsAfter_X0_latestValue_n152 : GoodIn wsX2_errorsAfter (wsX0_latestValue) := ggX2_errorsAfter_X0_latestValue
theorem dX2_errorsAfter_0 : decode cX2_errorsAfter 0 = .ok (.aload_n 0, 1) := by decide +kernel
theorem dX2_errorsAfter_1 : decode cX2_errorsAfter 1 = .ok (.getfield 10, 3) := by decide +kernel
theorem dX2_errorsAfter_4 : decode cX2_errorsAfter 4 = .ok (.aload_n 1, 1) := by decide +kernel
theorem dX2_errorsAfter_5 : decode cX2_errorsAfter 5 = .ok (.getfield 98, 3) := by decide +kernel
theorem dX2_errorsAfter_8 : decode cX2_errorsAfter 8 = .ok (.invokevirtual 233, 3) := by decide +kernel
theorem dX2_errorsAfter_11 : decode cX2_errorsAfter 11 = .ok (.istore_n 3, 1) := by decide +kernel
theorem dX2_errorsAfter_12 : decode cX2_errorsAfter 12 = .ok (.aload_n 0, 1) := by decide +kernel
theorem dX2_errorsAfter_13 : decode cX2_errorsAfter 13 = .ok (.getfield 10, 3) := by decide +kernel
theorem dX2_errorsAfter_16 : decode cX2_errorsAfter 16 = .ok (.getfield 118, 3) := by decide +kernel
theorem dX2_errorsAfter_19 : decode cX2_errorsAfter 19 = .ok (.iload_n 3, 1) := by decide +kernel
theorem dX2_errorsAfter_20 : decode cX2_errorsAfter 20 = .ok (.iload_n 2, 1) := by decide +kernel
theorem dX2_errorsAfter_21 : decode cX2_errorsAfter 21 = .ok (.iadd, 1) := by decide +kernel
theorem dX2_errorsAfter_22 : decode cX2_errorsAfter 22 = .ok (.invokestatic 225, 3) := by decide +kernel
theorem dX2_errorsAfter_25 : decode cX2_errorsAfter 25 = .ok (.istore 4, 2) := by decide +kernel
theorem dX2_errorsAfter_27 : decode cX2_errorsAfter 27 = .ok (.iconst 0, 1) := by decide +kernel
theorem dX2_errorsAfter_28 : decode cX2_errorsAfter 28 = .ok (.istore 5, 2) := by decide +kernel
theorem dX2_errorsAfter_30 : decode cX2_errorsAfter 30 = .ok (.iconst 0, 1) := by decide +kernel
theorem dX2_errorsAfter_31 : decode cX2_errorsAfter 31 = .ok (.istore 6, 2) := by decide +kernel
theorem dX2_errorsAfter_33 : decode cX2_errorsAfter 33 = .ok (.iload 6, 2) := by decide +kernel
theorem dX2_errorsAfter_35 : decode cX2_errorsAfter 35 = .ok (.bipush 10, 2) := by decide +kernel
theorem dX2_errorsAfter_37 : decode cX2_errorsAfter 37 = .ok (.if_icmp .ge 68, 3) := by decide +kernel
theorem dX2_errorsAfter_40 : decode cX2_errorsAfter 40 = .ok (.aload_n 0, 1) := by decide +kernel
theorem dX2_errorsAfter_41 : decode cX2_errorsAfter 41 = .ok (.getfield 10, 3) := by decide +kernel
theorem dX2_errorsAfter_44 : decode cX2_errorsAfter 44 = .ok (.iload 6, 2) := by decide +kernel
theorem dX2_errorsAfter_46 : decode cX2_errorsAfter 46 = .ok (.iload_n 3, 1) := by decide +kernel
theorem dX2_errorsAfter_47 : decode cX2_errorsAfter 47 = .ok (.iload 4, 2) := by decide +kernel
theorem dX2_errorsAfter_49 : decode cX2_errorsAfter 49 = .ok (.invokevirtual 240, 3) := by decide +kernel
theorem dX2_errorsAfter_52 : decode cX2_errorsAfter 52 = .ok (.istore 7, 2) := by decide +kernel
theorem dX2_errorsAfter_54 : decode cX2_errorsAfter 54 = .ok (.iload 7, 2) := by decide +kernel
theorem dX2_errorsAfter_56 : decode cX2_errorsAfter 56 = .ok (.iconst (-1), 1) := by decide +kernel
theorem dX2_errorsAfter_57 : decode cX2_errorsAfter 57 = .ok (.if_icmp .ne 13, 3) := by decide +kernel
theorem dX2_errorsAfter_60 : decode cX2_errorsAfter 60 = .ok (.aload_n 1, 1) := by decide +kernel
theorem dX2_errorsAfter_61 : decode cX2_errorsAfter 61 = .ok (.getfield 171, 3) := by decide +kernel
theorem dX2_errorsAfter_64 : decode cX2_errorsAfter 64 = .ok (.iload 6, 2) := by decide +kernel
theorem dX2_errorsAfter_66 : decode cX2_errorsAfter 66 = .ok (.iaload, 1) := by decide +kernel
theorem dX2_errorsAfter_67 : decode cX2_errorsAfter 67 = .ok (.goto 13, 3) := by decide +kernel
theorem dX2_errorsAfter_70 : decode cX2_errorsAfter 70 = .ok (.aload_n 0, 1) := by decide +kernel
theorem dX2_errorsAfter_71 : decode cX2_errorsAfter 71 = .ok (.getfield 10, 3) := by decide +kernel
theorem dX2_errorsAfter_74 : decode cX2_errorsAfter 74 = .ok (.getfield 140, 3) := by decide +kernel
theorem dX2_errorsAfter_77 : decode cX2_errorsAfter 77 = .ok (.iload 7, 2) := by decide +kernel
theorem dX2_errorsAfter_79 : decode cX2_errorsAfter 79 = .ok (.iaload, 1) := by decide +kernel
theorem dX2_errorsAfter_80 : decode cX2_errorsAfter 80 = .ok (.istore 8, 2) := by decide +kernel
theorem dX2_errorsAfter_82 : decode cX2_errorsAfter 82 = .ok (.iload 8, 2) := by decide +kernel
theorem dX2_errorsAfter_84 : decode cX2_errorsAfter 84 = .ok (.aload_n 0, 1) := by decide +kernel
theorem dX2_errorsAfter_85 : decode cX2_errorsAfter 85 = .ok (.getfield 10, 3) := by decide +kernel
theorem dX2_errorsAfter_88 : decode cX2_errorsAfter 88 = .ok (.iload 6, 2) := by decide +kernel
theorem dX2_errorsAfter_90 : decode cX2_errorsAfter 90 = .ok (.invokevirtual 152, 3) := by decide +kernel
theorem dX2_errorsAfter_93 : decode cX2_errorsAfter 93 = .ok (.if_icmp .eq 6, 3) := by decide +kernel
theorem dX2_errorsAfter_96 : decode cX2_errorsAfter 96 = .ok (.iinc 5 1, 3) := by decide +kernel
theorem dX2_errorsAfter_99 : decode cX2_errorsAfter 99 = .ok (.iinc 6 1, 3) := by decide +kernel
theorem dX2_errorsAfter_102 : decode cX2_errorsAfter 102 = .ok (.goto (-69), 3) := by decide +kernel
theorem dX2_errorsAfter_105 : decode cX2_errorsAfter 105 = .ok (.iload 5, 2) := by decide +kernel
theorem dX2_errorsAfter_107 : decode cX2_errorsAfter 107 = .ok (.ireturn, 1) := by decide +kernel
theorem dX2_isKey_0 : decode cX2_isKey 0 = .ok (.iload_n 0, 1) := by decide +kernel
theorem dX2_isKey_1 : decode cX2_isKey 1 = .ok (.ifCond .lt 13, 3) := by decide +kernel
theorem dX2_isKey_4 : decode cX2_isKey 4 = .ok (.iload_n 0, 1) := by decide +kernel
theorem dX2_isKey_5 : decode cX2_isKey 5 = .ok (.bipush 10, 2) := by decide +kernel
theorem dX2_isKey_7 : decode cX2_isKey 7 = .ok (.if_icmp .ge 7, 3) := by decide +kernel
theorem dX2_isKey_10 : decode cX2_isKey 10 = .ok (.iconst 1, 1) := by decide +kernel
theorem dX2_isKey_11 : decode cX2_isKey 11 = .ok (.goto 4, 3) := by decide +kernel
theorem dX2_isKey_14 : decode cX2_isKey 14 = .ok (.iconst 0, 1) := by decide +kernel
theorem dX2_isKey_15 : decode cX2_isKey 15 = .ok (.ireturn, 1) := by decide +kernel
set_option maxRecDepth 20000 in
theorem ggX2_checkKey_X2_isKey : GoodIn wsX2_checkKey wsX2_isKey := goodIn_r _ [6] (by decide +kernel) (by decide +kernel)
set_option maxRecDepth 20000 in
theorem gX2_checkKey_X2_isKey : GoodIn wsX2_checkKey (va_wsS RX2 33 yX2_isKey wsX2_isKey) := goodIn_app (goodIn_of _ (by decide +kernel)) ggX2_checkKey_X2_isKey
theorem dX2_checkKey_0 : decode cX2_checkKey 0 = .ok (.iload_n 0, 1) := by decide +kernel
theorem dX2_checkKey_1 : decode cX2_checkKey 1 = .ok (.invokestatic 33, 3) := by decide +kernel
theorem dX2_checkKey_4 : decode cX2_checkKey 4 = .ok (.ifCond .ne 13, 3) := by decide +kernel
theorem dX2_checkKey_7 : decode cX2_checkKey 7 = .ok (.new 243, 3) := by decide +kernel
theorem dX2_checkKey_10 : decode cX2_checkKey 10 = .ok (.dup, 1) := by decide +kernel
theorem dX2_checkKey_11 : decode cX2_checkKey 11 = .ok (.ldc 39, 2) := by decide +kernel
theorem dX2_checkKey_13 : decode cX2_checkKey 13 = .ok (.invokespecial 245, 3) := by decide +kernel
theorem dX2_checkKey_16 : decode cX2_checkKey 16 = .ok (.athrow, 1) := by decide +kernel
theorem dX2_checkKey_17 : decode cX2_checkKey 17 = .ok (.return_, 1) := by decide +kernel
theorem dX2_checkHours_0 : decode cX2_checkHours 0 = .ok (.iload_n 0, 1) := by decide +kernel
theorem dX2_checkHours_1 : decode cX2_checkHours 1 = .ok (.iconst 1, 1) := by decide +kernel
theorem dX2_checkHours_2 : decode cX2_checkHours 2 = .ok (.if_icmp .lt 9, 3) := by decide +kernel
theorem dX2_checkHours_5 : decode cX2_checkHours 5 = .ok (.iload_n 0, 1) := by decide +kernel
theorem dX2_checkHours_6 : decode cX2_checkHours 6 = .ok (.bipush 60, 2) := by decide +kernel
theorem dX2_checkHours_8 : decode cX2_checkHours 8 = .ok (.if_icmp .le 13, 3) := by decide +kernel
theorem dX2_checkHours_11 : decode cX2_checkHours 11 = .ok (.new 37, 3) := by decide +kernel
theorem dX2_checkHours_14 : decode cX2_checkHours 14 = .ok (.dup, 1) := by decide +kernel
theorem dX2_checkHours_15 : decode cX2_checkHours 15 = .ok (.ldc 246, 2) := by decide +kernel
theorem dX2_checkHours_17 : decode cX2_checkHours 17 = .ok (.invokespecial 41, 3) := by decide +kernel
theorem dX2_checkHours_20 : decode cX2_checkHours 20 = .ok (.athrow, 1) := by decide +kernel
theorem dX2_checkHours_21 : decode cX2_checkHours 21 = .ok (.return_, 1) := by decide +kernel
theorem dX2_checkReachable_0 : decode cX2_checkReachable 0 = .ok (.iload_n 1, 1) := by decide +kernel
theorem dX2_checkReachable_1 : decode cX2_checkReachable 1 = .ok (.ifCond .lt 14, 3) := by decide +kernel
theorem dX2_checkReachable_4 : decode cX2_checkReachable 4 = .ok (.iload_n 1, 1) := by decide +kernel
theorem dX2_checkReachable_5 : decode cX2_checkReachable 5 = .ok (.aload_n 0, 1) := by decide +kernel
theorem dX2_checkReachable_6 : decode cX2_checkReachable 6 = .ok (.getfield 10, 3) := by decide +kernel
theorem dX2_checkReachable_9 : decode cX2_checkReachable 9 = .ok (.getfield 121, 3) := by decide +kernel
theorem dX2_checkReachable_12 : decode cX2_checkReachable 12 = .ok (.if_icmp .le 13, 3) := by decide +kernel
theorem dX2_checkReachable_15 : decode cX2_checkReachable 15 = .ok (.new 37, 3) := by decide +kernel
theorem dX2_checkReachable_18 : decode cX2_checkReachable 18 = .ok (.dup, 1) := by decide +kernel
theorem dX2_checkReachable_19 : decode cX2_checkReachable 19 = .ok (.ldc 248, 2) := by decide +kernel
theorem dX2_checkReachable_21 : decode cX2_checkReachable 21 = .ok (.invokespecial 41, 3) := by decide +kernel
theorem dX2_checkReachable_24 : decode cX2_checkReachable 24 = .ok (.athrow, 1) := by decide +kernel
theorem dX2_checkReachable_25 : decode cX2_checkReachable 25 = .ok (.return_, 1) := by decide +kernel
theorem dX2_checkStorm_0 : decode cX2_checkStorm 0 = .ok (.iload_n 1, 1) := by decide +kernel
theorem dX2_checkStorm_1 : decode cX2_checkStorm 1 = .ok (.ifCond .lt 11, 3) := by decide +kernel
theorem dX2_checkStorm_4 : decode cX2_checkStorm 4 = .ok (.iload_n 1, 1) := by decide +kernel
theorem dX2_checkStorm_5 : decode cX2_checkStorm 5 = .ok (.aload_n 0, 1) := by decide +kernel
theorem dX2_checkStorm_6 : decode cX2_checkStorm 6 = .ok (.getfield 59, 3) := by decide +kernel
theorem dX2_checkStorm_9 : decode cX2_checkStorm 9 = .ok (.if_icmp .lt 13, 3) := by decide +kernel
theorem dX2_checkStorm_12 : decode cX2_checkStorm 12 = .ok (.new 243, 3) := by decide +kernel
theorem dX2_checkStorm_15 : decode cX2_checkStorm 15 = .ok (.dup, 1) := by decide +kernel
theorem dX2_checkStorm_16 : decode cX2_checkStorm 16 = .ok (.ldc 250, 2) := by decide +kernel
theorem dX2_checkStorm_18 : decode cX2_checkStorm 18 = .ok (.invokespecial 245, 3) := by decide +kernel
theorem dX2_checkStorm_21 : decode cX2_checkStorm 21 = .ok (.athrow, 1) := by decide +kernel
theorem dX2_checkStorm_22 : decode cX2_checkStorm 22 = .ok (.return_, 1) := by decide +kernel
theorem dX2_shipNumbered_0 : decode cX2_shipNumbered 0 = .ok (.iload_n 1, 1) := by decide +kernel
theorem dX2_shipNumbered_1 : decode cX2_shipNumbered 1 = .ok (.ifCond .lt 11, 3) := by decide +kernel
theorem dX2_shipNumbered_4 : decode cX2_shipNumbered 4 = .ok (.iload_n 1, 1) := by decide +kernel
theorem dX2_shipNumbered_5 : decode cX2_shipNumbered 5 = .ok (.aload_n 0, 1) := by decide +kernel
theorem dX2_shipNumbered_6 : decode cX2_shipNumbered 6 = .ok (.getfield 90, 3) := by decide +kernel
theorem dX2_shipNumbered_9 : decode cX2_shipNumbered 9 = .ok (.if_icmp .lt 13, 3) := by decide +kernel
theorem dX2_shipNumbered_12 : decode cX2_shipNumbered 12 = .ok (.new 243, 3) := by decide +kernel
theorem dX2_shipNumbered_15 : decode cX2_shipNumbered 15 = .ok (.dup, 1) := by decide +kernel
theorem dX2_shipNumbered_16 : decode cX2_shipNumbered 16 = .ok (.ldc 252, 2) := by decide +kernel
theorem dX2_shipNumbered_18 : decode cX2_shipNumbered 18 = .ok (.invokespecial 245, 3) := by decide +kernel
theorem dX2_shipNumbered_21 : decode cX2_shipNumbered 21 = .ok (.athrow, 1) := by decide +kernel
theorem dX2_shipNumbered_22 : decode cX2_shipNumbered 22 = .ok (.aload_n 0, 1) := by decide +kernel
theorem dX2_shipNumbered_23 : decode cX2_shipNumbered 23 = .ok (.getfield 22, 3) := by decide +kernel
theorem dX2_shipNumbered_26 : decode cX2_shipNumbered 26 = .ok (.iload_n 1, 1) := by decide +kernel
theorem dX2_shipNumbered_27 : decode cX2_shipNumbered 27 = .ok (.aaload, 1) := by decide +kernel
theorem dX2_shipNumbered_28 : decode cX2_shipNumbered 28 = .ok (.areturn, 1) := by decide +kernel
set_option maxRecDepth 20000 in
theorem ggX2_keptPosition_X0_positionOf : GoodIn wsX2_keptPosition wsX0_positionOf := goodIn_r _ [7, 8, 9, 10, 11, 12, 5, 13, 23, 24, 25, 26, 27, 28, 29, 30] (by decide +kernel) (by decide +kernel)
set_option maxRecDepth 20000 in
theorem gX2_keptPosition_X0_positionOf_n130 : GoodIn wsX2_keptPosition (wsX0_positionOf) := ggX2_keptPosition_X0_positionOf
theorem dX2_keptPosition_0 : decode cX2_keptPosition 0 = .ok (.aload_n 0, 1) := by decide +kernel
theorem dX2_keptPosition_1 : decode cX2_keptPosition 1 = .ok (.getfield 10, 3) := by decide +kernel
theorem dX2_keptPosition_4 : decode cX2_keptPosition 4 = .ok (.iload_n 1, 1) := by decide +kernel
theorem dX2_keptPosition_5 : decode cX2_keptPosition 5 = .ok (.invokevirtual 130, 3) := by decide +kernel
theorem dX2_keptPosition_8 : decode cX2_keptPosition 8 = .ok (.istore_n 2, 1) := by decide +kernel
theorem dX2_keptPosition_9 : decode cX2_keptPosition 9 = .ok (.iload_n 2, 1) := by decide +kernel
theorem dX2_keptPosition_10 : decode cX2_keptPosition 10 = .ok (.iconst (-1), 1) := by decide +kernel
theorem dX2_keptPosition_11 : decode cX2_keptPosition 11 = .ok (.if_icmp .ne 13, 3) := by decide +kernel
theorem dX2_keptPosition_14 : decode cX2_keptPosition 14 = .ok (.new 243, 3) := by decide +kernel
theorem dX2_keptPosition_17 : decode cX2_keptPosition 17 = .ok (.dup, 1) := by decide +kernel
theorem dX2_keptPosition_18 : decode cX2_keptPosition 18 = .ok (.ldc 254, 2) := by decide +kernel
theorem dX2_keptPosition_20 : decode cX2_keptPosition 20 = .ok (.invokespecial 245, 3) := by decide +kernel
theorem dX2_keptPosition_23 : decode cX2_keptPosition 23 = .ok (.athrow, 1) := by decide +kernel
theorem dX2_keptPosition_24 : decode cX2_keptPosition 24 = .ok (.iload_n 2, 1) := by decide +kernel
theorem dX2_keptPosition_25 : decode cX2_keptPosition 25 = .ok (.ireturn, 1) := by decide +kernel
end
section
theorem dX3_init_0 : decode cX3_init 0 = .ok (.aload_n 0, 1) := by decide +kernel
theorem dX3_init_1 : decode cX3_init 1 = .ok (.invokespecial 1, 3) := by decide +kernel
theorem dX3_init_4 : decode cX3_init 4 = .ok (.aload_n 0, 1) := by decide +kernel
theorem dX3_init_5 : decode cX3_init 5 = .ok (.bipush 48, 2) := by decide +kernel
theorem dX3_init_7 : decode cX3_init 7 = .ok (.newarray .int, 2) := by decide +kernel
theorem dX3_init_9 : decode cX3_init 9 = .ok (.putfield 9, 3) := by decide +kernel
theorem dX3_init_12 : decode cX3_init 12 = .ok (.aload_n 0, 1) := by decide +kernel
theorem dX3_init_13 : decode cX3_init 13 = .ok (.bipush 48, 2) := by decide +kernel
theorem dX3_init_15 : decode cX3_init 15 = .ok (.newarray .int, 2) := by decide +kernel
theorem dX3_init_17 : decode cX3_init 17 = .ok (.putfield 13, 3) := by decide +kernel
theorem dX3_init_20 : decode cX3_init 20 = .ok (.aload_n 0, 1) := by decide +kernel
theorem dX3_init_21 : decode cX3_init 21 = .ok (.bipush 48, 2) := by decide +kernel
theorem dX3_init_23 : decode cX3_init 23 = .ok (.newarray .int, 2) := by decide +kernel
theorem dX3_init_25 : decode cX3_init 25 = .ok (.putfield 16, 3) := by decide +kernel
theorem dX3_init_28 : decode cX3_init 28 = .ok (.aload_n 0, 1) := by decide +kernel
theorem dX3_init_29 : decode cX3_init 29 = .ok (.bipush 48, 2) := by decide +kernel
theorem dX3_init_31 : decode cX3_init 31 = .ok (.newarray .int, 2) := by decide +kernel
theorem dX3_init_33 : decode cX3_init 33 = .ok (.putfield 19, 3) := by decide +kernel
theorem dX3_init_36 : decode cX3_init 36 = .ok (.aload_n 0, 1) := by decide +kernel
theorem dX3_init_37 : decode cX3_init 37 = .ok (.bipush 48, 2) := by decide +kernel
theorem dX3_init_39 : decode cX3_init 39 = .ok (.newarray .boolean, 2) := by decide +kernel
theorem dX3_init_41 : decode cX3_init 41 = .ok (.putfield 22, 3) := by decide +kernel
theorem dX3_init_44 : decode cX3_init 44 = .ok (.aload_n 0, 1) := by decide +kernel
theorem dX3_init_45 : decode cX3_init 45 = .ok (.bipush 8, 2) := by decide +kernel
theorem dX3_init_47 : decode cX3_init 47 = .ok (.newarray .int, 2) := by decide +kernel
theorem dX3_init_49 : decode cX3_init 49 = .ok (.putfield 26, 3) := by decide +kernel
theorem dX3_init_52 : decode cX3_init 52 = .ok (.aload_n 0, 1) := by decide +kernel
theorem dX3_init_53 : decode cX3_init 53 = .ok (.bipush 6, 2) := by decide +kernel
theorem dX3_init_55 : decode cX3_init 55 = .ok (.newarray .int, 2) := by decide +kernel
theorem dX3_init_57 : decode cX3_init 57 = .ok (.putfield 29, 3) := by decide +kernel
theorem dX3_init_60 : decode cX3_init 60 = .ok (.aload_n 0, 1) := by decide +kernel
theorem dX3_init_61 : decode cX3_init 61 = .ok (.bipush 6, 2) := by decide +kernel
theorem dX3_init_63 : decode cX3_init 63 = .ok (.newarray .int, 2) := by decide +kernel
theorem dX3_init_65 : decode cX3_init 65 = .ok (.putfield 32, 3) := by decide +kernel
theorem dX3_init_68 : decode cX3_init 68 = .ok (.aload_n 0, 1) := by decide +kernel
theorem dX3_init_69 : decode cX3_init 69 = .ok (.bipush 6, 2) := by decide +kernel
theorem dX3_init_71 : decode cX3_init 71 = .ok (.newarray .int, 2) := by decide +kernel
theorem dX3_init_73 : decode cX3_init 73 = .ok (.putfield 35, 3) := by decide +kernel
theorem dX3_init_76 : decode cX3_init 76 = .ok (.aload_n 0, 1) := by decide +kernel
theorem dX3_init_77 : decode cX3_init 77 = .ok (.bipush 6, 2) := by decide +kernel
theorem dX3_init_79 : decode cX3_init 79 = .ok (.newarray .int, 2) := by decide +kernel
theorem dX3_init_81 : decode cX3_init 81 = .ok (.putfield 38, 3) := by decide +kernel
theorem dX3_init_84 : decode cX3_init 84 = .ok (.aload_n 0, 1) := by decide +kernel
theorem dX3_init_85 : decode cX3_init 85 = .ok (.bipush 60, 2) := by decide +kernel
theorem dX3_init_87 : decode cX3_init 87 = .ok (.newarray .int, 2) := by decide +kernel
theorem dX3_init_89 : decode cX3_init 89 = .ok (.putfield 41, 3) := by decide +kernel
theorem dX3_init_92 : decode cX3_init 92 = .ok (.return_, 1) := by decide +kernel
theorem dX3_thrown_0 : decode cX3_thrown 0 = .ok (.aload_n 0, 1) := by decide +kernel
theorem dX3_thrown_1 : decode cX3_thrown 1 = .ok (.getfield 44, 3) := by decide +kernel
theorem dX3_thrown_4 : decode cX3_thrown 4 = .ok (.ireturn, 1) := by decide +kernel
theorem dX3_fail_0 : decode cX3_fail 0 = .ok (.aload_n 0, 1) := by decide +kernel
theorem dX3_fail_1 : decode cX3_fail 1 = .ok (.iload_n 1, 1) := by decide +kernel
theorem dX3_fail_2 : decode cX3_fail 2 = .ok (.putfield 44, 3) := by decide +kernel
theorem dX3_fail_5 : decode cX3_fail 5 = .ok (.iconst 0, 1) := by decide +kernel
theorem dX3_fail_6 : decode cX3_fail 6 = .ok (.ireturn, 1) := by decide +kernel
theorem dX3_told_0 : decode cX3_told 0 = .ok (.aload_n 0, 1) := by decide +kernel
theorem dX3_told_1 : decode cX3_told 1 = .ok (.iconst 0, 1) := by decide +kernel
theorem dX3_told_2 : decode cX3_told 2 = .ok (.putfield 44, 3) := by decide +kernel
theorem dX3_told_5 : decode cX3_told 5 = .ok (.iload_n 1, 1) := by decide +kernel
theorem dX3_told_6 : decode cX3_told 6 = .ok (.ireturn, 1) := by decide +kernel
theorem dX3_isIn_0 : decode cX3_isIn 0 = .ok (.iload_n 0, 1) := by decide +kernel
theorem dX3_isIn_1 : decode cX3_isIn 1 = .ok (.iload_n 1, 1) := by decide +kernel
theorem dX3_isIn_2 : decode cX3_isIn 2 = .ok (.if_icmp .lt 12, 3) := by decide +kernel
theorem dX3_isIn_5 : decode cX3_isIn 5 = .ok (.iload_n 0, 1) := by decide +kernel
theorem dX3_isIn_6 : decode cX3_isIn 6 = .ok (.iload_n 2, 1) := by decide +kernel
theorem dX3_isIn_7 : decode cX3_isIn 7 = .ok (.if_icmp .gt 7, 3) := by decide +kernel
theorem dX3_isIn_10 : decode cX3_isIn 10 = .ok (.iconst 1, 1) := by decide +kernel
theorem dX3_isIn_11 : decode cX3_isIn 11 = .ok (.goto 4, 3) := by decide +kernel
theorem dX3_isIn_14 : decode cX3_isIn 14 = .ok (.iconst 0, 1) := by decide +kernel
theorem dX3_isIn_15 : decode cX3_isIn 15 = .ok (.ireturn, 1) := by decide +kernel
set_option maxRecDepth 20000 in
theorem ggX3_isShip_X3_isIn : GoodIn wsX3_isShip wsX3_isIn := goodIn_r _ [5] (by decide +kernel) (by decide +kernel)
set_option maxRecDepth 20000 in
theorem gX3_isShip_X3_isIn : GoodIn wsX3_isShip (va_wsS RX3 51 yX3_isIn wsX3_isIn) := goodIn_app (goodIn_of _ (by decide +kernel)) ggX3_isShip_X3_isIn
theorem dX3_isShip_0 : decode cX3_isShip 0 = .ok (.iload_n 1, 1) := by decide +kernel
theorem dX3_isShip_1 : decode cX3_isShip 1 = .ok (.iconst 0, 1) := by decide +kernel
theorem dX3_isShip_2 : decode cX3_isShip 2 = .ok (.aload_n 0, 1) := by decide +kernel
theorem dX3_isShip_3 : decode cX3_isShip 3 = .ok (.getfield 48, 3) := by decide +kernel
theorem dX3_isShip_6 : decode cX3_isShip 6 = .ok (.iconst 1, 1) := by decide +kernel
theorem dX3_isShip_7 : decode cX3_isShip 7 = .ok (.isub, 1) := by decide +kernel
theorem dX3_isShip_8 : decode cX3_isShip 8 = .ok (.invokestatic 51, 3) := by decide +kernel
theorem dX3_isShip_11 : decode cX3_isShip 11 = .ok (.ireturn, 1) := by decide +kernel
set_option maxRecDepth 20000 in
theorem ggX3_isStorm_X3_isIn : GoodIn wsX3_isStorm wsX3_isIn := goodIn_r _ [5] (by decide +kernel) (by decide +kernel)
set_option maxRecDepth 20000 in
theorem gX3_isStorm_X3_isIn : GoodIn wsX3_isStorm (va_wsS RX3 51 yX3_isIn wsX3_isIn) := goodIn_app (goodIn_of _ (by decide +kernel)) ggX3_isStorm_X3_isIn
theorem dX3_isStorm_0 : decode cX3_isStorm 0 = .ok (.iload_n 1, 1) := by decide +kernel
theorem dX3_isStorm_1 : decode cX3_isStorm 1 = .ok (.iconst 0, 1) := by decide +kernel
theorem dX3_isStorm_2 : decode cX3_isStorm 2 = .ok (.aload_n 0, 1) := by decide +kernel
theorem dX3_isStorm_3 : decode cX3_isStorm 3 = .ok (.getfield 55, 3) := by decide +kernel
theorem dX3_isStorm_6 : decode cX3_isStorm 6 = .ok (.iconst 1, 1) := by decide +kernel
theorem dX3_isStorm_7 : decode cX3_isStorm 7 = .ok (.isub, 1) := by decide +kernel
theorem dX3_isStorm_8 : decode cX3_isStorm 8 = .ok (.invokestatic 51, 3) := by decide +kernel
theorem dX3_isStorm_11 : decode cX3_isStorm 11 = .ok (.ireturn, 1) := by decide +kernel
set_option maxRecDepth 20000 in
theorem ggX3_isKey_X3_isIn : GoodIn wsX3_isKey wsX3_isIn := goodIn_r _ [4] (by decide +kernel) (by decide +kernel)
set_option maxRecDepth 20000 in
theorem gX3_isKey_X3_isIn : GoodIn wsX3_isKey (va_wsS RX3 51 yX3_isIn wsX3_isIn) := goodIn_app (goodIn_of _ (by decide +kernel)) ggX3_isKey_X3_isIn
theorem dX3_isKey_0 : decode cX3_isKey 0 = .ok (.iload_n 0, 1) := by decide +kernel
theorem dX3_isKey_1 : decode cX3_isKey 1 = .ok (.iconst 0, 1) := by decide +kernel
theorem dX3_isKey_2 : decode cX3_isKey 2 = .ok (.bipush 9, 2) := by decide +kernel
theorem dX3_isKey_4 : decode cX3_isKey 4 = .ok (.invokestatic 51, 3) := by decide +kernel
theorem dX3_isKey_7 : decode cX3_isKey 7 = .ok (.ireturn, 1) := by decide +kernel
theorem dX3_drop_0 : decode cX3_drop 0 = .ok (.iconst 0, 1) := by decide +kernel
theorem dX3_drop_1 : decode cX3_drop 1 = .ok (.istore_n 1, 1) := by decide +kernel
theorem dX3_drop_2 : decode cX3_drop 2 = .ok (.iconst 0, 1) := by decide +kernel
theorem dX3_drop_3 : decode cX3_drop 3 = .ok (.istore_n 2, 1) := by decide +kernel
theorem dX3_drop_4 : decode cX3_drop 4 = .ok (.iload_n 2, 1) := by decide +kernel
theorem dX3_drop_5 : decode cX3_drop 5 = .ok (.aload_n 0, 1) := by decide +kernel
theorem dX3_drop_6 : decode cX3_drop 6 = .ok (.getfield 58, 3) := by decide +kernel
theorem dX3_drop_9 : decode cX3_drop 9 = .ok (.if_icmp .ge 117, 3) := by decide +kernel
theorem dX3_drop_12 : decode cX3_drop 12 = .ok (.aload_n 0, 1) := by decide +kernel
theorem dX3_drop_13 : decode cX3_drop 13 = .ok (.getfield 22, 3) := by decide +kernel
theorem dX3_drop_16 : decode cX3_drop 16 = .ok (.iload_n 2, 1) := by decide +kernel
theorem dX3_drop_17 : decode cX3_drop 17 = .ok (.baload, 1) := by decide +kernel
theorem dX3_drop_18 : decode cX3_drop 18 = .ok (.ifCond .eq 51, 3) := by decide +kernel
theorem dX3_drop_21 : decode cX3_drop 21 = .ok (.iconst 0, 1) := by decide +kernel
theorem dX3_drop_22 : decode cX3_drop 22 = .ok (.istore_n 3, 1) := by decide +kernel
theorem dX3_drop_23 : decode cX3_drop 23 = .ok (.iload_n 3, 1) := by decide +kernel
theorem dX3_drop_24 : decode cX3_drop 24 = .ok (.aload_n 0, 1) := by decide +kernel
theorem dX3_drop_25 : decode cX3_drop 25 = .ok (.getfield 48, 3) := by decide +kernel
theorem dX3_drop_28 : decode cX3_drop 28 = .ok (.if_icmp .ge 38, 3) := by decide +kernel
theorem dX3_drop_31 : decode cX3_drop 31 = .ok (.aload_n 0, 1) := by decide +kernel
theorem dX3_drop_32 : decode cX3_drop 32 = .ok (.getfield 38, 3) := by decide +kernel
theorem dX3_drop_35 : decode cX3_drop 35 = .ok (.iload_n 3, 1) := by decide +kernel
theorem dX3_drop_36 : decode cX3_drop 36 = .ok (.dup2, 1) := by decide +kernel
theorem dX3_drop_37 : decode cX3_drop 37 = .ok (.iaload, 1) := by decide +kernel
theorem dX3_drop_38 : decode cX3_drop 38 = .ok (.aload_n 0, 1) := by decide +kernel
theorem dX3_drop_39 : decode cX3_drop 39 = .ok (.getfield 32, 3) := by decide +kernel
theorem dX3_drop_42 : decode cX3_drop 42 = .ok (.iload_n 3, 1) := by decide +kernel
theorem dX3_drop_43 : decode cX3_drop 43 = .ok (.iaload, 1) := by decide +kernel
theorem dX3_drop_44 : decode cX3_drop 44 = .ok (.aload_n 0, 1) := by decide +kernel
theorem dX3_drop_45 : decode cX3_drop 45 = .ok (.getfield 9, 3) := by decide +kernel
theorem dX3_drop_48 : decode cX3_drop 48 = .ok (.iload_n 2, 1) := by decide +kernel
theorem dX3_drop_49 : decode cX3_drop 49 = .ok (.iaload, 1) := by decide +kernel
theorem dX3_drop_50 : decode cX3_drop 50 = .ok (.if_icmp .gt 7, 3) := by decide +kernel
theorem dX3_drop_53 : decode cX3_drop 53 = .ok (.iconst 1, 1) := by decide +kernel
theorem dX3_drop_54 : decode cX3_drop 54 = .ok (.goto 4, 3) := by decide +kernel
theorem dX3_drop_57 : decode cX3_drop 57 = .ok (.iconst 0, 1) := by decide +kernel
theorem dX3_drop_58 : decode cX3_drop 58 = .ok (.iadd, 1) := by decide +kernel
theorem dX3_drop_59 : decode cX3_drop 59 = .ok (.iastore, 1) := by decide +kernel
theorem dX3_drop_60 : decode cX3_drop 60 = .ok (.iinc 3 1, 3) := by decide +kernel
theorem dX3_drop_63 : decode cX3_drop 63 = .ok (.goto (-40), 3) := by decide +kernel
theorem dX3_drop_66 : decode cX3_drop 66 = .ok (.goto 54, 3) := by decide +kernel
theorem dX3_drop_69 : decode cX3_drop 69 = .ok (.aload_n 0, 1) := by decide +kernel
theorem dX3_drop_70 : decode cX3_drop 70 = .ok (.getfield 9, 3) := by decide +kernel
theorem dX3_drop_73 : decode cX3_drop 73 = .ok (.iload_n 1, 1) := by decide +kernel
theorem dX3_drop_74 : decode cX3_drop 74 = .ok (.aload_n 0, 1) := by decide +kernel
theorem dX3_drop_75 : decode cX3_drop 75 = .ok (.getfield 9, 3) := by decide +kernel
theorem dX3_drop_78 : decode cX3_drop 78 = .ok (.iload_n 2, 1) := by decide +kernel
theorem dX3_drop_79 : decode cX3_drop 79 = .ok (.iaload, 1) := by decide +kernel
theorem dX3_drop_80 : decode cX3_drop 80 = .ok (.iastore, 1) := by decide +kernel
theorem dX3_drop_81 : decode cX3_drop 81 = .ok (.aload_n 0, 1) := by decide +kernel
theorem dX3_drop_82 : decode cX3_drop 82 = .ok (.getfield 13, 3) := by decide +kernel
theorem dX3_drop_85 : decode cX3_drop 85 = .ok (.iload_n 1, 1) := by decide +kernel
theorem dX3_drop_86 : decode cX3_drop 86 = .ok (.aload_n 0, 1) := by decide +kernel
theorem dX3_drop_87 : decode cX3_drop 87 = .ok (.getfield 13, 3) := by decide +kernel
theorem dX3_drop_90 : decode cX3_drop 90 = .ok (.iload_n 2, 1) := by decide +kernel
theorem dX3_drop_91 : decode cX3_drop 91 = .ok (.iaload, 1) := by decide +kernel
theorem dX3_drop_92 : decode cX3_drop 92 = .ok (.iastore, 1) := by decide +kernel
theorem dX3_drop_93 : decode cX3_drop 93 = .ok (.aload_n 0, 1) := by decide +kernel
theorem dX3_drop_94 : decode cX3_drop 94 = .ok (.getfield 16, 3) := by decide +kernel
theorem dX3_drop_97 : decode cX3_drop 97 = .ok (.iload_n 1, 1) := by decide +kernel
theorem dX3_drop_98 : decode cX3_drop 98 = .ok (.aload_n 0, 1) := by decide +kernel
theorem dX3_drop_99 : decode cX3_drop 99 = .ok (.getfield 16, 3) := by decide +kernel
theorem dX3_drop_102 : decode cX3_drop 102 = .ok (.iload_n 2, 1) := by decide +kernel
theorem dX3_drop_103 : decode cX3_drop 103 = .ok (.iaload, 1) := by decide +kernel
theorem dX3_drop_104 : decode cX3_drop 104 = .ok (.iastore, 1) := by decide +kernel
theorem dX3_drop_105 : decode cX3_drop 105 = .ok (.aload_n 0, 1) := by decide +kernel
theorem dX3_drop_106 : decode cX3_drop 106 = .ok (.getfield 19, 3) := by decide +kernel
theorem dX3_drop_109 : decode cX3_drop 109 = .ok (.iload_n 1, 1) := by decide +kernel
theorem dX3_drop_110 : decode cX3_drop 110 = .ok (.aload_n 0, 1) := by decide +kernel
theorem dX3_drop_111 : decode cX3_drop 111 = .ok (.getfield 19, 3) := by decide +kernel
theorem dX3_drop_114 : decode cX3_drop 114 = .ok (.iload_n 2, 1) := by decide +kernel
theorem dX3_drop_115 : decode cX3_drop 115 = .ok (.iaload, 1) := by decide +kernel
theorem dX3_drop_116 : decode cX3_drop 116 = .ok (.iastore, 1) := by decide +kernel
theorem dX3_drop_117 : decode cX3_drop 117 = .ok (.iinc 1 1, 3) := by decide +kernel
theorem dX3_drop_120 : decode cX3_drop 120 = .ok (.iinc 2 1, 3) := by decide +kernel
theorem dX3_drop_123 : decode cX3_drop 123 = .ok (.goto (-119), 3) := by decide +kernel
theorem dX3_drop_126 : decode cX3_drop 126 = .ok (.aload_n 0, 1) := by decide +kernel
theorem dX3_drop_127 : decode cX3_drop 127 = .ok (.getfield 58, 3) := by decide +kernel
theorem dX3_drop_130 : decode cX3_drop 130 = .ok (.iload_n 1, 1) := by decide +kernel
theorem dX3_drop_131 : decode cX3_drop 131 = .ok (.isub, 1) := by decide +kernel
theorem dX3_drop_132 : decode cX3_drop 132 = .ok (.istore_n 2, 1) := by decide +kernel
theorem dX3_drop_133 : decode cX3_drop 133 = .ok (.aload_n 0, 1) := by decide +kernel
theorem dX3_drop_134 : decode cX3_drop 134 = .ok (.iload_n 1, 1) := by decide +kernel
theorem dX3_drop_135 : decode cX3_drop 135 = .ok (.putfield 58, 3) := by decide +kernel
theorem dX3_drop_138 : decode cX3_drop 138 = .ok (.aload_n 0, 1) := by decide +kernel
theorem dX3_drop_139 : decode cX3_drop 139 = .ok (.dup, 1) := by decide +kernel
theorem dX3_drop_140 : decode cX3_drop 140 = .ok (.getfield 61, 3) := by decide +kernel
theorem dX3_drop_143 : decode cX3_drop 143 = .ok (.iload_n 2, 1) := by decide +kernel
theorem dX3_drop_144 : decode cX3_drop 144 = .ok (.iadd, 1) := by decide +kernel
theorem dX3_drop_145 : decode cX3_drop 145 = .ok (.putfield 61, 3) := by decide +kernel
theorem dX3_drop_148 : decode cX3_drop 148 = .ok (.iload_n 2, 1) := by decide +kernel
theorem dX3_drop_149 : decode cX3_drop 149 = .ok (.ireturn, 1) := by decide +kernel
set_option maxRecDepth 20000 in
theorem ggX3_put_X3_drop : GoodIn wsX3_put wsX3_drop := goodIn_r _ [15, 1, 2, 16, 17, 18, 3, 5, 6, 7, 19, 20, 21, 22, 23, 24, 25, 26, 27, 28, 29, 30, 31, 32, 33, 34, 35, 36, 37, 38] (by decide +kernel) (by decide +kernel)
set_option maxRecDepth 20000 in
theorem gX3_put_X3_drop : GoodIn wsX3_put (wsV RX3 64 RX3 yX3_drop wsX3_drop) := goodIn_app (goodIn_of _ (by decide +kernel)) ggX3_put_X3_drop
theorem dX3_put_0 : decode cX3_put 0 = .ok (.aload_n 0, 1) := by decide +kernel
theorem dX3_put_1 : decode cX3_put 1 = .ok (.getfield 58, 3) := by decide +kernel
theorem dX3_put_4 : decode cX3_put 4 = .ok (.bipush 48, 2) := by decide +kernel
theorem dX3_put_6 : decode cX3_put 6 = .ok (.if_icmp .ne 39, 3) := by decide +kernel
theorem dX3_put_9 : decode cX3_put 9 = .ok (.iconst 0, 1) := by decide +kernel
theorem dX3_put_10 : decode cX3_put 10 = .ok (.istore_n 3, 1) := by decide +kernel
theorem dX3_put_11 : decode cX3_put 11 = .ok (.iload_n 3, 1) := by decide +kernel
theorem dX3_put_12 : decode cX3_put 12 = .ok (.aload_n 0, 1) := by decide +kernel
theorem dX3_put_13 : decode cX3_put 13 = .ok (.getfield 58, 3) := by decide +kernel
theorem dX3_put_16 : decode cX3_put 16 = .ok (.if_icmp .ge 24, 3) := by decide +kernel
theorem dX3_put_19 : decode cX3_put 19 = .ok (.aload_n 0, 1) := by decide +kernel
theorem dX3_put_20 : decode cX3_put 20 = .ok (.getfield 22, 3) := by decide +kernel
theorem dX3_put_23 : decode cX3_put 23 = .ok (.iload_n 3, 1) := by decide +kernel
theorem dX3_put_24 : decode cX3_put 24 = .ok (.iload_n 3, 1) := by decide +kernel
theorem dX3_put_25 : decode cX3_put 25 = .ok (.ifCond .ne 7, 3) := by decide +kernel
theorem dX3_put_28 : decode cX3_put 28 = .ok (.iconst 1, 1) := by decide +kernel
theorem dX3_put_29 : decode cX3_put 29 = .ok (.goto 4, 3) := by decide +kernel
theorem dX3_put_32 : decode cX3_put 32 = .ok (.iconst 0, 1) := by decide +kernel
theorem dX3_put_33 : decode cX3_put 33 = .ok (.bastore, 1) := by decide +kernel
theorem dX3_put_34 : decode cX3_put 34 = .ok (.iinc 3 1, 3) := by decide +kernel
theorem dX3_put_37 : decode cX3_put 37 = .ok (.goto (-26), 3) := by decide +kernel
theorem dX3_put_40 : decode cX3_put 40 = .ok (.aload_n 0, 1) := by decide +kernel
theorem dX3_put_41 : decode cX3_put 41 = .ok (.invokevirtual 64, 3) := by decide +kernel
theorem dX3_put_44 : decode cX3_put 44 = .ok (.pop, 1) := by decide +kernel
theorem dX3_put_45 : decode cX3_put 45 = .ok (.aload_n 0, 1) := by decide +kernel
theorem dX3_put_46 : decode cX3_put 46 = .ok (.getfield 9, 3) := by decide +kernel
theorem dX3_put_49 : decode cX3_put 49 = .ok (.aload_n 0, 1) := by decide +kernel
theorem dX3_put_50 : decode cX3_put 50 = .ok (.getfield 58, 3) := by decide +kernel
theorem dX3_put_53 : decode cX3_put 53 = .ok (.aload_n 0, 1) := by decide +kernel
theorem dX3_put_54 : decode cX3_put 54 = .ok (.getfield 68, 3) := by decide +kernel
theorem dX3_put_57 : decode cX3_put 57 = .ok (.iastore, 1) := by decide +kernel
theorem dX3_put_58 : decode cX3_put 58 = .ok (.aload_n 0, 1) := by decide +kernel
theorem dX3_put_59 : decode cX3_put 59 = .ok (.getfield 13, 3) := by decide +kernel
theorem dX3_put_62 : decode cX3_put 62 = .ok (.aload_n 0, 1) := by decide +kernel
theorem dX3_put_63 : decode cX3_put 63 = .ok (.getfield 58, 3) := by decide +kernel
theorem dX3_put_66 : decode cX3_put 66 = .ok (.iload_n 1, 1) := by decide +kernel
theorem dX3_put_67 : decode cX3_put 67 = .ok (.iastore, 1) := by decide +kernel
theorem dX3_put_68 : decode cX3_put 68 = .ok (.aload_n 0, 1) := by decide +kernel
theorem dX3_put_69 : decode cX3_put 69 = .ok (.getfield 16, 3) := by decide +kernel
theorem dX3_put_72 : decode cX3_put 72 = .ok (.aload_n 0, 1) := by decide +kernel
theorem dX3_put_73 : decode cX3_put 73 = .ok (.getfield 58, 3) := by decide +kernel
theorem dX3_put_76 : decode cX3_put 76 = .ok (.iload_n 2, 1) := by decide +kernel
theorem dX3_put_77 : decode cX3_put 77 = .ok (.iastore, 1) := by decide +kernel
theorem dX3_put_78 : decode cX3_put 78 = .ok (.aload_n 0, 1) := by decide +kernel
theorem dX3_put_79 : decode cX3_put 79 = .ok (.getfield 19, 3) := by decide +kernel
theorem dX3_put_82 : decode cX3_put 82 = .ok (.aload_n 0, 1) := by decide +kernel
theorem dX3_put_83 : decode cX3_put 83 = .ok (.getfield 58, 3) := by decide +kernel
theorem dX3_put_86 : decode cX3_put 86 = .ok (.aload_n 0, 1) := by decide +kernel
theorem dX3_put_87 : decode cX3_put 87 = .ok (.getfield 71, 3) := by decide +kernel
theorem dX3_put_90 : decode cX3_put 90 = .ok (.ifCond .eq 12, 3) := by decide +kernel
theorem dX3_put_93 : decode cX3_put 93 = .ok (.aload_n 0, 1) := by decide +kernel
theorem dX3_put_94 : decode cX3_put 94 = .ok (.getfield 55, 3) := by decide +kernel
theorem dX3_put_97 : decode cX3_put 97 = .ok (.iconst 1, 1) := by decide +kernel
theorem dX3_put_98 : decode cX3_put 98 = .ok (.isub, 1) := by decide +kernel
theorem dX3_put_99 : decode cX3_put 99 = .ok (.goto 4, 3) := by decide +kernel
theorem dX3_put_102 : decode cX3_put 102 = .ok (.iconst (-1), 1) := by decide +kernel
theorem dX3_put_103 : decode cX3_put 103 = .ok (.iastore, 1) := by decide +kernel
theorem dX3_put_104 : decode cX3_put 104 = .ok (.aload_n 0, 1) := by decide +kernel
theorem dX3_put_105 : decode cX3_put 105 = .ok (.getfield 71, 3) := by decide +kernel
theorem dX3_put_108 : decode cX3_put 108 = .ok (.ifCond .eq 18, 3) := by decide +kernel
theorem dX3_put_111 : decode cX3_put 111 = .ok (.aload_n 0, 1) := by decide +kernel
theorem dX3_put_112 : decode cX3_put 112 = .ok (.getfield 26, 3) := by decide +kernel
theorem dX3_put_115 : decode cX3_put 115 = .ok (.aload_n 0, 1) := by decide +kernel
theorem dX3_put_116 : decode cX3_put 116 = .ok (.getfield 55, 3) := by decide +kernel
theorem dX3_put_119 : decode cX3_put 119 = .ok (.iconst 1, 1) := by decide +kernel
theorem dX3_put_120 : decode cX3_put 120 = .ok (.isub, 1) := by decide +kernel
theorem dX3_put_121 : decode cX3_put 121 = .ok (.dup2, 1) := by decide +kernel
theorem dX3_put_122 : decode cX3_put 122 = .ok (.iaload, 1) := by decide +kernel
theorem dX3_put_123 : decode cX3_put 123 = .ok (.iconst 1, 1) := by decide +kernel
theorem dX3_put_124 : decode cX3_put 124 = .ok (.iadd, 1) := by decide +kernel
theorem dX3_put_125 : decode cX3_put 125 = .ok (.iastore, 1) := by decide +kernel
theorem dX3_put_126 : decode cX3_put 126 = .ok (.aload_n 0, 1) := by decide +kernel
theorem dX3_put_127 : decode cX3_put 127 = .ok (.dup, 1) := by decide +kernel
theorem dX3_put_128 : decode cX3_put 128 = .ok (.getfield 58, 3) := by decide +kernel
theorem dX3_put_131 : decode cX3_put 131 = .ok (.iconst 1, 1) := by decide +kernel
theorem dX3_put_132 : decode cX3_put 132 = .ok (.iadd, 1) := by decide +kernel
theorem dX3_put_133 : decode cX3_put 133 = .ok (.putfield 58, 3) := by decide +kernel
theorem dX3_put_136 : decode cX3_put 136 = .ok (.aload_n 0, 1) := by decide +kernel
theorem dX3_put_137 : decode cX3_put 137 = .ok (.dup, 1) := by decide +kernel
theorem dX3_put_138 : decode cX3_put 138 = .ok (.getfield 68, 3) := by decide +kernel
theorem dX3_put_141 : decode cX3_put 141 = .ok (.iconst 1, 1) := by decide +kernel
theorem dX3_put_142 : decode cX3_put 142 = .ok (.iadd, 1) := by decide +kernel
theorem dX3_put_143 : decode cX3_put 143 = .ok (.putfield 68, 3) := by decide +kernel
theorem dX3_put_146 : decode cX3_put 146 = .ok (.return_, 1) := by decide +kernel
theorem dX3_mark_0 : decode cX3_mark 0 = .ok (.aload_n 0, 1) := by decide +kernel
theorem dX3_mark_1 : decode cX3_mark 1 = .ok (.getfield 68, 3) := by decide +kernel
theorem dX3_mark_4 : decode cX3_mark 4 = .ok (.istore_n 1, 1) := by decide +kernel
theorem dX3_mark_5 : decode cX3_mark 5 = .ok (.iconst 0, 1) := by decide +kernel
theorem dX3_mark_6 : decode cX3_mark 6 = .ok (.istore_n 2, 1) := by decide +kernel
theorem dX3_mark_7 : decode cX3_mark 7 = .ok (.iload_n 2, 1) := by decide +kernel
theorem dX3_mark_8 : decode cX3_mark 8 = .ok (.aload_n 0, 1) := by decide +kernel
theorem dX3_mark_9 : decode cX3_mark 9 = .ok (.getfield 48, 3) := by decide +kernel
theorem dX3_mark_12 : decode cX3_mark 12 = .ok (.if_icmp .ge 20, 3) := by decide +kernel
theorem dX3_mark_15 : decode cX3_mark 15 = .ok (.iload_n 1, 1) := by decide +kernel
theorem dX3_mark_16 : decode cX3_mark 16 = .ok (.aload_n 0, 1) := by decide +kernel
theorem dX3_mark_17 : decode cX3_mark 17 = .ok (.getfield 32, 3) := by decide +kernel
theorem dX3_mark_20 : decode cX3_mark 20 = .ok (.iload_n 2, 1) := by decide +kernel
theorem dX3_mark_21 : decode cX3_mark 21 = .ok (.iaload, 1) := by decide +kernel
theorem dX3_mark_22 : decode cX3_mark 22 = .ok (.invokestatic 75, 3) := by decide +kernel
theorem dX3_mark_25 : decode cX3_mark 25 = .ok (.istore_n 1, 1) := by decide +kernel
theorem dX3_mark_26 : decode cX3_mark 26 = .ok (.iinc 2 1, 3) := by decide +kernel
theorem dX3_mark_29 : decode cX3_mark 29 = .ok (.goto (-22), 3) := by decide +kernel
theorem dX3_mark_32 : decode cX3_mark 32 = .ok (.bipush 10, 2) := by decide +kernel
theorem dX3_mark_34 : decode cX3_mark 34 = .ok (.newarray .boolean, 2) := by decide +kernel
theorem dX3_mark_36 : decode cX3_mark 36 = .ok (.astore_n 2, 1) := by decide +kernel
theorem dX3_mark_37 : decode cX3_mark 37 = .ok (.iconst 0, 1) := by decide +kernel
theorem dX3_mark_38 : decode cX3_mark 38 = .ok (.istore_n 3, 1) := by decide +kernel
theorem dX3_mark_39 : decode cX3_mark 39 = .ok (.aload_n 0, 1) := by decide +kernel
theorem dX3_mark_40 : decode cX3_mark 40 = .ok (.getfield 58, 3) := by decide +kernel
theorem dX3_mark_43 : decode cX3_mark 43 = .ok (.iconst 1, 1) := by decide +kernel
theorem dX3_mark_44 : decode cX3_mark 44 = .ok (.isub, 1) := by decide +kernel
theorem dX3_mark_45 : decode cX3_mark 45 = .ok (.istore 4, 2) := by decide +kernel
theorem dX3_mark_47 : decode cX3_mark 47 = .ok (.iload 4, 2) := by decide +kernel
theorem dX3_mark_49 : decode cX3_mark 49 = .ok (.ifCond .lt 82, 3) := by decide +kernel
theorem dX3_mark_52 : decode cX3_mark 52 = .ok (.aload_n 0, 1) := by decide +kernel
theorem dX3_mark_53 : decode cX3_mark 53 = .ok (.getfield 22, 3) := by decide +kernel
theorem dX3_mark_56 : decode cX3_mark 56 = .ok (.iload 4, 2) := by decide +kernel
theorem dX3_mark_58 : decode cX3_mark 58 = .ok (.aload_n 2, 1) := by decide +kernel
theorem dX3_mark_59 : decode cX3_mark 59 = .ok (.aload_n 0, 1) := by decide +kernel
theorem dX3_mark_60 : decode cX3_mark 60 = .ok (.getfield 13, 3) := by decide +kernel
theorem dX3_mark_63 : decode cX3_mark 63 = .ok (.iload 4, 2) := by decide +kernel
theorem dX3_mark_65 : decode cX3_mark 65 = .ok (.iaload, 1) := by decide +kernel
theorem dX3_mark_66 : decode cX3_mark 66 = .ok (.baload, 1) := by decide +kernel
theorem dX3_mark_67 : decode cX3_mark 67 = .ok (.ifCond .ne 24, 3) := by decide +kernel
theorem dX3_mark_70 : decode cX3_mark 70 = .ok (.aload_n 0, 1) := by decide +kernel
theorem dX3_mark_71 : decode cX3_mark 71 = .ok (.getfield 16, 3) := by decide +kernel
theorem dX3_mark_74 : decode cX3_mark 74 = .ok (.iload 4, 2) := by decide +kernel
theorem dX3_mark_76 : decode cX3_mark 76 = .ok (.iaload, 1) := by decide +kernel
theorem dX3_mark_77 : decode cX3_mark 77 = .ok (.ifCond .ne 18, 3) := by decide +kernel
theorem dX3_mark_80 : decode cX3_mark 80 = .ok (.aload_n 0, 1) := by decide +kernel
theorem dX3_mark_81 : decode cX3_mark 81 = .ok (.getfield 9, 3) := by decide +kernel
theorem dX3_mark_84 : decode cX3_mark 84 = .ok (.iload 4, 2) := by decide +kernel
theorem dX3_mark_86 : decode cX3_mark 86 = .ok (.iaload, 1) := by decide +kernel
theorem dX3_mark_87 : decode cX3_mark 87 = .ok (.iload_n 1, 1) := by decide +kernel
theorem dX3_mark_88 : decode cX3_mark 88 = .ok (.if_icmp .ge 7, 3) := by decide +kernel
theorem dX3_mark_91 : decode cX3_mark 91 = .ok (.iconst 1, 1) := by decide +kernel
theorem dX3_mark_92 : decode cX3_mark 92 = .ok (.goto 4, 3) := by decide +kernel
theorem dX3_mark_95 : decode cX3_mark 95 = .ok (.iconst 0, 1) := by decide +kernel
theorem dX3_mark_96 : decode cX3_mark 96 = .ok (.bastore, 1) := by decide +kernel
theorem dX3_mark_97 : decode cX3_mark 97 = .ok (.aload_n 2, 1) := by decide +kernel
theorem dX3_mark_98 : decode cX3_mark 98 = .ok (.aload_n 0, 1) := by decide +kernel
theorem dX3_mark_99 : decode cX3_mark 99 = .ok (.getfield 13, 3) := by decide +kernel
theorem dX3_mark_102 : decode cX3_mark 102 = .ok (.iload 4, 2) := by decide +kernel
theorem dX3_mark_104 : decode cX3_mark 104 = .ok (.iaload, 1) := by decide +kernel
theorem dX3_mark_105 : decode cX3_mark 105 = .ok (.iconst 1, 1) := by decide +kernel
theorem dX3_mark_106 : decode cX3_mark 106 = .ok (.bastore, 1) := by decide +kernel
theorem dX3_mark_107 : decode cX3_mark 107 = .ok (.iload_n 3, 1) := by decide +kernel
theorem dX3_mark_108 : decode cX3_mark 108 = .ok (.aload_n 0, 1) := by decide +kernel
theorem dX3_mark_109 : decode cX3_mark 109 = .ok (.getfield 22, 3) := by decide +kernel
theorem dX3_mark_112 : decode cX3_mark 112 = .ok (.iload 4, 2) := by decide +kernel
theorem dX3_mark_114 : decode cX3_mark 114 = .ok (.baload, 1) := by decide +kernel
theorem dX3_mark_115 : decode cX3_mark 115 = .ok (.ifCond .eq 7, 3) := by decide +kernel
theorem dX3_mark_118 : decode cX3_mark 118 = .ok (.iconst 1, 1) := by decide +kernel
theorem dX3_mark_119 : decode cX3_mark 119 = .ok (.goto 4, 3) := by decide +kernel
theorem dX3_mark_122 : decode cX3_mark 122 = .ok (.iconst 0, 1) := by decide +kernel
theorem dX3_mark_123 : decode cX3_mark 123 = .ok (.iadd, 1) := by decide +kernel
theorem dX3_mark_124 : decode cX3_mark 124 = .ok (.istore_n 3, 1) := by decide +kernel
theorem dX3_mark_125 : decode cX3_mark 125 = .ok (.iinc 4 (-1), 3) := by decide +kernel
theorem dX3_mark_128 : decode cX3_mark 128 = .ok (.goto (-81), 3) := by decide +kernel
theorem dX3_mark_131 : decode cX3_mark 131 = .ok (.iload_n 3, 1) := by decide +kernel
theorem dX3_mark_132 : decode cX3_mark 132 = .ok (.ireturn, 1) := by decide +kernel
set_option maxRecDepth 20000 in
theorem ggX3_say_X3_isKey : GoodIn wsX3_say wsX3_isKey := goodIn_r _ [6, 7, 8, 5, 9] (by decide +kernel) (by decide +kernel)
set_option maxRecDepth 20000 in
theorem gX3_say_X3_isKey : GoodIn wsX3_say (va_wsS RX3 81 yX3_isKey wsX3_isKey) := goodIn_app (goodIn_of _ (by decide +kernel)) ggX3_say_X3_isKey
set_option maxRecDepth 20000 in
theorem ggX3_say_X3_isIn : GoodIn wsX3_say wsX3_isIn := goodIn_r _ [9] (by decide +kernel) (by decide +kernel)
set_option maxRecDepth 20000 in
theorem gX3_say_X3_isIn : GoodIn wsX3_say (va_wsS RX3 51 yX3_isIn wsX3_isIn) := goodIn_app (goodIn_of _ (by decide +kernel)) ggX3_say_X3_isIn
set_option maxRecDepth 20000 in
theorem ggX3_say_X3_fail : GoodIn wsX3_say wsX3_fail := goodIn_r _ [13, 1, 35, 36, 37, 38, 39, 40, 41, 42, 43, 44, 45, 46, 47, 48, 49, 50, 51, 52, 53] (by decide +kernel) (by decide +kernel)
set_option maxRecDepth 20000 in
theorem gX3_say_X3_fail : GoodIn wsX3_say (wsV RX3 85 RX3 yX3_fail wsX3_fail) := goodIn_app (goodIn_of _ (by decide +kernel)) ggX3_say_X3_fail
set_option maxRecDepth 20000 in
theorem ggX3_say_X3_put : GoodIn wsX3_say wsX3_put := goodIn_r _ [17, 18, 19, 20, 2, 21, 22, 23, 24, 25, 26, 27, 28, 29, 5, 30, 31, 32, 33, 34, 35, 36, 37, 38, 39, 40, 41, 42, 43, 44, 45, 46, 47, 48, 49, 50, 51, 52, 53] (by decide +kernel) (by decide +kernel)
set_option maxRecDepth 20000 in
theorem gX3_say_X3_put : GoodIn wsX3_say (wsV RX3 89 RX3 yX3_put wsX3_put) := goodIn_app (goodIn_of _ (by decide +kernel)) ggX3_say_X3_put
theorem dX3_say_0 : decode cX3_say 0 = .ok (.aload_n 0, 1) := by decide +kernel
theorem dX3_say_1 : decode cX3_say 1 = .ok (.iconst 0, 1) := by decide +kernel
theorem dX3_say_2 : decode cX3_say 2 = .ok (.putfield 44, 3) := by decide +kernel
theorem dX3_say_5 : decode cX3_say 5 = .ok (.iload_n 1, 1) := by decide +kernel
theorem dX3_say_6 : decode cX3_say 6 = .ok (.invokestatic 81, 3) := by decide +kernel
theorem dX3_say_9 : decode cX3_say 9 = .ok (.ifCond .eq 16, 3) := by decide +kernel
theorem dX3_say_12 : decode cX3_say 12 = .ok (.iload_n 2, 1) := by decide +kernel
theorem dX3_say_13 : decode cX3_say 13 = .ok (.sipush (-999), 3) := by decide +kernel
theorem dX3_say_16 : decode cX3_say 16 = .ok (.sipush 999, 3) := by decide +kernel
theorem dX3_say_19 : decode cX3_say 19 = .ok (.invokestatic 51, 3) := by decide +kernel
theorem dX3_say_22 : decode cX3_say 22 = .ok (.ifCond .ne 9, 3) := by decide +kernel
theorem dX3_say_25 : decode cX3_say 25 = .ok (.aload_n 0, 1) := by decide +kernel
theorem dX3_say_26 : decode cX3_say 26 = .ok (.iconst 1, 1) := by decide +kernel
theorem dX3_say_27 : decode cX3_say 27 = .ok (.invokevirtual 85, 3) := by decide +kernel
theorem dX3_say_30 : decode cX3_say 30 = .ok (.ireturn, 1) := by decide +kernel
theorem dX3_say_31 : decode cX3_say 31 = .ok (.aload_n 0, 1) := by decide +kernel
theorem dX3_say_32 : decode cX3_say 32 = .ok (.iload_n 1, 1) := by decide +kernel
theorem dX3_say_33 : decode cX3_say 33 = .ok (.iload_n 2, 1) := by decide +kernel
theorem dX3_say_34 : decode cX3_say 34 = .ok (.invokevirtual 89, 3) := by decide +kernel
theorem dX3_say_37 : decode cX3_say 37 = .ok (.aload_n 0, 1) := by decide +kernel
theorem dX3_say_38 : decode cX3_say 38 = .ok (.getfield 68, 3) := by decide +kernel
theorem dX3_say_41 : decode cX3_say 41 = .ok (.iconst 1, 1) := by decide +kernel
theorem dX3_say_42 : decode cX3_say 42 = .ok (.isub, 1) := by decide +kernel
theorem dX3_say_43 : decode cX3_say 43 = .ok (.ireturn, 1) := by decide +kernel
set_option maxRecDepth 20000 in
theorem ggX3_startStorm_X3_fail : GoodIn wsX3_startStorm wsX3_fail := goodIn_r _ [8, 1, 9, 10, 11, 12, 13, 14, 15, 16, 17, 18, 19, 20, 21, 22, 23, 24, 25, 26, 27] (by decide +kernel) (by decide +kernel)
set_option maxRecDepth 20000 in
theorem gX3_startStorm_X3_fail : GoodIn wsX3_startStorm (wsV RX3 85 RX3 yX3_fail wsX3_fail) := goodIn_app (goodIn_of _ (by decide +kernel)) ggX3_startStorm_X3_fail
theorem dX3_startStorm_0 : decode cX3_startStorm 0 = .ok (.aload_n 0, 1) := by decide +kernel
theorem dX3_startStorm_1 : decode cX3_startStorm 1 = .ok (.iconst 0, 1) := by decide +kernel
theorem dX3_startStorm_2 : decode cX3_startStorm 2 = .ok (.putfield 44, 3) := by decide +kernel
theorem dX3_startStorm_5 : decode cX3_startStorm 5 = .ok (.aload_n 0, 1) := by decide +kernel
theorem dX3_startStorm_6 : decode cX3_startStorm 6 = .ok (.getfield 71, 3) := by decide +kernel
theorem dX3_startStorm_9 : decode cX3_startStorm 9 = .ok (.ifCond .ne 12, 3) := by decide +kernel
theorem dX3_startStorm_12 : decode cX3_startStorm 12 = .ok (.aload_n 0, 1) := by decide +kernel
theorem dX3_startStorm_13 : decode cX3_startStorm 13 = .ok (.getfield 55, 3) := by decide +kernel
theorem dX3_startStorm_16 : decode cX3_startStorm 16 = .ok (.bipush 8, 2) := by decide +kernel
theorem dX3_startStorm_18 : decode cX3_startStorm 18 = .ok (.if_icmp .ne 9, 3) := by decide +kernel
theorem dX3_startStorm_21 : decode cX3_startStorm 21 = .ok (.aload_n 0, 1) := by decide +kernel
theorem dX3_startStorm_22 : decode cX3_startStorm 22 = .ok (.iconst 1, 1) := by decide +kernel
theorem dX3_startStorm_23 : decode cX3_startStorm 23 = .ok (.invokevirtual 85, 3) := by decide +kernel
theorem dX3_startStorm_26 : decode cX3_startStorm 26 = .ok (.ireturn, 1) := by decide +kernel
theorem dX3_startStorm_27 : decode cX3_startStorm 27 = .ok (.aload_n 0, 1) := by decide +kernel
theorem dX3_startStorm_28 : decode cX3_startStorm 28 = .ok (.iconst 1, 1) := by decide +kernel
theorem dX3_startStorm_29 : decode cX3_startStorm 29 = .ok (.putfield 71, 3) := by decide +kernel
theorem dX3_startStorm_32 : decode cX3_startStorm 32 = .ok (.aload_n 0, 1) := by decide +kernel
theorem dX3_startStorm_33 : decode cX3_startStorm 33 = .ok (.dup, 1) := by decide +kernel
theorem dX3_startStorm_34 : decode cX3_startStorm 34 = .ok (.getfield 55, 3) := by decide +kernel
theorem dX3_startStorm_37 : decode cX3_startStorm 37 = .ok (.iconst 1, 1) := by decide +kernel
theorem dX3_startStorm_38 : decode cX3_startStorm 38 = .ok (.iadd, 1) := by decide +kernel
theorem dX3_startStorm_39 : decode cX3_startStorm 39 = .ok (.putfield 55, 3) := by decide +kernel
theorem dX3_startStorm_42 : decode cX3_startStorm 42 = .ok (.aload_n 0, 1) := by decide +kernel
theorem dX3_startStorm_43 : decode cX3_startStorm 43 = .ok (.getfield 55, 3) := by decide +kernel
theorem dX3_startStorm_46 : decode cX3_startStorm 46 = .ok (.iconst 1, 1) := by decide +kernel
theorem dX3_startStorm_47 : decode cX3_startStorm 47 = .ok (.isub, 1) := by decide +kernel
theorem dX3_startStorm_48 : decode cX3_startStorm 48 = .ok (.ireturn, 1) := by decide +kernel
set_option maxRecDepth 20000 in
theorem ggX3_endStorm_X3_fail : GoodIn wsX3_endStorm wsX3_fail := goodIn_r _ [9, 1, 10, 11, 12, 13, 14, 15, 16, 17, 18, 19, 20, 21, 22, 23, 24, 25, 26, 27, 28] (by decide +kernel) (by decide +kernel)
set_option maxRecDepth 20000 in
theorem gX3_endStorm_X3_fail : GoodIn wsX3_endStorm (wsV RX3 85 RX3 yX3_fail wsX3_fail) := goodIn_app (goodIn_of _ (by decide +kernel)) ggX3_endStorm_X3_fail
theorem dX3_endStorm_0 : decode cX3_endStorm 0 = .ok (.aload_n 0, 1) := by decide +kernel
theorem dX3_endStorm_1 : decode cX3_endStorm 1 = .ok (.iconst 0, 1) := by decide +kernel
theorem dX3_endStorm_2 : decode cX3_endStorm 2 = .ok (.putfield 44, 3) := by decide +kernel
theorem dX3_endStorm_5 : decode cX3_endStorm 5 = .ok (.aload_n 0, 1) := by decide +kernel
theorem dX3_endStorm_6 : decode cX3_endStorm 6 = .ok (.getfield 71, 3) := by decide +kernel
theorem dX3_endStorm_9 : decode cX3_endStorm 9 = .ok (.ifCond .ne 9, 3) := by decide +kernel
theorem dX3_endStorm_12 : decode cX3_endStorm 12 = .ok (.aload_n 0, 1) := by decide +kernel
theorem dX3_endStorm_13 : decode cX3_endStorm 13 = .ok (.iconst 1, 1) := by decide +kernel
theorem dX3_endStorm_14 : decode cX3_endStorm 14 = .ok (.invokevirtual 85, 3) := by decide +kernel
theorem dX3_endStorm_17 : decode cX3_endStorm 17 = .ok (.ireturn, 1) := by decide +kernel
theorem dX3_endStorm_18 : decode cX3_endStorm 18 = .ok (.aload_n 0, 1) := by decide +kernel
theorem dX3_endStorm_19 : decode cX3_endStorm 19 = .ok (.iconst 0, 1) := by decide +kernel
theorem dX3_endStorm_20 : decode cX3_endStorm 20 = .ok (.putfield 71, 3) := by decide +kernel
theorem dX3_endStorm_23 : decode cX3_endStorm 23 = .ok (.aload_n 0, 1) := by decide +kernel
theorem dX3_endStorm_24 : decode cX3_endStorm 24 = .ok (.getfield 26, 3) := by decide +kernel
theorem dX3_endStorm_27 : decode cX3_endStorm 27 = .ok (.aload_n 0, 1) := by decide +kernel
theorem dX3_endStorm_28 : decode cX3_endStorm 28 = .ok (.getfield 55, 3) := by decide +kernel
theorem dX3_endStorm_31 : decode cX3_endStorm 31 = .ok (.iconst 1, 1) := by decide +kernel
theorem dX3_endStorm_32 : decode cX3_endStorm 32 = .ok (.isub, 1) := by decide +kernel
theorem dX3_endStorm_33 : decode cX3_endStorm 33 = .ok (.iaload, 1) := by decide +kernel
theorem dX3_endStorm_34 : decode cX3_endStorm 34 = .ok (.ireturn, 1) := by decide +kernel
set_option maxRecDepth 20000 in
theorem ggX3_replay_X3_isStorm : GoodIn wsX3_replay wsX3_isStorm := goodIn_r _ [12, 13, 14, 15, 11, 16, 37, 38, 39, 40, 41, 42, 43, 44, 45, 46, 47, 48, 49, 50, 51, 52, 53, 54, 55] (by decide +kernel) (by decide +kernel)
set_option maxRecDepth 20000 in
theorem gX3_replay_X3_isStorm : GoodIn wsX3_replay (wsV RX3 93 RX3 yX3_isStorm wsX3_isStorm) := goodIn_app (goodIn_of _ (by decide +kernel)) ggX3_replay_X3_isStorm
set_option maxRecDepth 20000 in
theorem ggX3_replay_X3_fail : GoodIn wsX3_replay wsX3_fail := goodIn_r _ [20, 1, 37, 38, 39, 40, 41, 42, 43, 44, 45, 46, 47, 48, 49, 50, 51, 52, 53, 54, 55] (by decide +kernel) (by decide +kernel)
set_option maxRecDepth 20000 in
theorem gX3_replay_X3_fail : GoodIn wsX3_replay (wsV RX3 85 RX3 yX3_fail wsX3_fail) := goodIn_app (goodIn_of _ (by decide +kernel)) ggX3_replay_X3_fail
set_option maxRecDepth 20000 in
theorem ggX3_replay_X3_put : GoodIn wsX3_replay wsX3_put := goodIn_r _ [24, 4, 25, 26, 27, 6, 7, 5, 2, 13, 28, 29, 30, 31, 11, 32, 33, 34, 35, 36, 37, 38, 39, 40, 41, 42, 43, 44, 45, 46, 47, 48, 49, 50, 51, 52, 53, 54, 55] (by decide +kernel) (by decide +kernel)
set_option maxRecDepth 20000 in
theorem gX3_replay_X3_put : GoodIn wsX3_replay (wsV RX3 89 RX3 yX3_put wsX3_put) := goodIn_app (goodIn_of _ (by decide +kernel)) ggX3_replay_X3_put
theorem dX3_replay_0 : decode cX3_replay 0 = .ok (.aload_n 0, 1) := by decide +kernel
theorem dX3_replay_1 : decode cX3_replay 1 = .ok (.iconst 0, 1) := by decide +kernel
theorem dX3_replay_2 : decode cX3_replay 2 = .ok (.putfield 44, 3) := by decide +kernel
theorem dX3_replay_5 : decode cX3_replay 5 = .ok (.aload_n 0, 1) := by decide +kernel
theorem dX3_replay_6 : decode cX3_replay 6 = .ok (.iload_n 1, 1) := by decide +kernel
theorem dX3_replay_7 : decode cX3_replay 7 = .ok (.invokevirtual 93, 3) := by decide +kernel
theorem dX3_replay_10 : decode cX3_replay 10 = .ok (.ifCond .ne 9, 3) := by decide +kernel
theorem dX3_replay_13 : decode cX3_replay 13 = .ok (.aload_n 0, 1) := by decide +kernel
theorem dX3_replay_14 : decode cX3_replay 14 = .ok (.iconst 1, 1) := by decide +kernel
theorem dX3_replay_15 : decode cX3_replay 15 = .ok (.invokevirtual 85, 3) := by decide +kernel
theorem dX3_replay_18 : decode cX3_replay 18 = .ok (.ireturn, 1) := by decide +kernel
theorem dX3_replay_19 : decode cX3_replay 19 = .ok (.aload_n 0, 1) := by decide +kernel
theorem dX3_replay_20 : decode cX3_replay 20 = .ok (.getfield 71, 3) := by decide +kernel
theorem dX3_replay_23 : decode cX3_replay 23 = .ok (.ifCond .eq 9, 3) := by decide +kernel
theorem dX3_replay_26 : decode cX3_replay 26 = .ok (.aload_n 0, 1) := by decide +kernel
theorem dX3_replay_27 : decode cX3_replay 27 = .ok (.iconst 2, 1) := by decide +kernel
theorem dX3_replay_28 : decode cX3_replay 28 = .ok (.invokevirtual 85, 3) := by decide +kernel
theorem dX3_replay_31 : decode cX3_replay 31 = .ok (.ireturn, 1) := by decide +kernel
theorem dX3_replay_32 : decode cX3_replay 32 = .ok (.bipush 48, 2) := by decide +kernel
theorem dX3_replay_34 : decode cX3_replay 34 = .ok (.newarray .int, 2) := by decide +kernel
theorem dX3_replay_36 : decode cX3_replay 36 = .ok (.astore_n 2, 1) := by decide +kernel
theorem dX3_replay_37 : decode cX3_replay 37 = .ok (.bipush 48, 2) := by decide +kernel
theorem dX3_replay_39 : decode cX3_replay 39 = .ok (.newarray .int, 2) := by decide +kernel
theorem dX3_replay_41 : decode cX3_replay 41 = .ok (.astore_n 3, 1) := by decide +kernel
theorem dX3_replay_42 : decode cX3_replay 42 = .ok (.iconst 0, 1) := by decide +kernel
theorem dX3_replay_43 : decode cX3_replay 43 = .ok (.istore 4, 2) := by decide +kernel
theorem dX3_replay_45 : decode cX3_replay 45 = .ok (.iconst 0, 1) := by decide +kernel
theorem dX3_replay_46 : decode cX3_replay 46 = .ok (.istore 5, 2) := by decide +kernel
theorem dX3_replay_48 : decode cX3_replay 48 = .ok (.iload 5, 2) := by decide +kernel
theorem dX3_replay_50 : decode cX3_replay 50 = .ok (.aload_n 0, 1) := by decide +kernel
theorem dX3_replay_51 : decode cX3_replay 51 = .ok (.getfield 58, 3) := by decide +kernel
theorem dX3_replay_54 : decode cX3_replay 54 = .ok (.if_icmp .ge 48, 3) := by decide +kernel
theorem dX3_replay_57 : decode cX3_replay 57 = .ok (.aload_n 0, 1) := by decide +kernel
theorem dX3_replay_58 : decode cX3_replay 58 = .ok (.getfield 19, 3) := by decide +kernel
theorem dX3_replay_61 : decode cX3_replay 61 = .ok (.iload 5, 2) := by decide +kernel
theorem dX3_replay_63 : decode cX3_replay 63 = .ok (.iaload, 1) := by decide +kernel
theorem dX3_replay_64 : decode cX3_replay 64 = .ok (.iload_n 1, 1) := by decide +kernel
theorem dX3_replay_65 : decode cX3_replay 65 = .ok (.if_icmp .eq 6, 3) := by decide +kernel
theorem dX3_replay_68 : decode cX3_replay 68 = .ok (.goto 28, 3) := by decide +kernel
theorem dX3_replay_71 : decode cX3_replay 71 = .ok (.aload_n 2, 1) := by decide +kernel
theorem dX3_replay_72 : decode cX3_replay 72 = .ok (.iload 4, 2) := by decide +kernel
theorem dX3_replay_74 : decode cX3_replay 74 = .ok (.aload_n 0, 1) := by decide +kernel
theorem dX3_replay_75 : decode cX3_replay 75 = .ok (.getfield 13, 3) := by decide +kernel
theorem dX3_replay_78 : decode cX3_replay 78 = .ok (.iload 5, 2) := by decide +kernel
theorem dX3_replay_80 : decode cX3_replay 80 = .ok (.iaload, 1) := by decide +kernel
theorem dX3_replay_81 : decode cX3_replay 81 = .ok (.iastore, 1) := by decide +kernel
theorem dX3_replay_82 : decode cX3_replay 82 = .ok (.aload_n 3, 1) := by decide +kernel
theorem dX3_replay_83 : decode cX3_replay 83 = .ok (.iload 4, 2) := by decide +kernel
theorem dX3_replay_85 : decode cX3_replay 85 = .ok (.aload_n 0, 1) := by decide +kernel
theorem dX3_replay_86 : decode cX3_replay 86 = .ok (.getfield 16, 3) := by decide +kernel
theorem dX3_replay_89 : decode cX3_replay 89 = .ok (.iload 5, 2) := by decide +kernel
theorem dX3_replay_91 : decode cX3_replay 91 = .ok (.iaload, 1) := by decide +kernel
theorem dX3_replay_92 : decode cX3_replay 92 = .ok (.iastore, 1) := by decide +kernel
theorem dX3_replay_93 : decode cX3_replay 93 = .ok (.iinc 4 1, 3) := by decide +kernel
theorem dX3_replay_96 : decode cX3_replay 96 = .ok (.iinc 5 1, 3) := by decide +kernel
theorem dX3_replay_99 : decode cX3_replay 99 = .ok (.goto (-51), 3) := by decide +kernel
theorem dX3_replay_102 : decode cX3_replay 102 = .ok (.iconst 0, 1) := by decide +kernel
theorem dX3_replay_103 : decode cX3_replay 103 = .ok (.istore 5, 2) := by decide +kernel
theorem dX3_replay_105 : decode cX3_replay 105 = .ok (.iload 5, 2) := by decide +kernel
theorem dX3_replay_107 : decode cX3_replay 107 = .ok (.iload 4, 2) := by decide +kernel
theorem dX3_replay_109 : decode cX3_replay 109 = .ok (.if_icmp .ge 21, 3) := by decide +kernel
theorem dX3_replay_112 : decode cX3_replay 112 = .ok (.aload_n 0, 1) := by decide +kernel
theorem dX3_replay_113 : decode cX3_replay 113 = .ok (.aload_n 2, 1) := by decide +kernel
theorem dX3_replay_114 : decode cX3_replay 114 = .ok (.iload 5, 2) := by decide +kernel
theorem dX3_replay_116 : decode cX3_replay 116 = .ok (.iaload, 1) := by decide +kernel
theorem dX3_replay_117 : decode cX3_replay 117 = .ok (.aload_n 3, 1) := by decide +kernel
theorem dX3_replay_118 : decode cX3_replay 118 = .ok (.iload 5, 2) := by decide +kernel
theorem dX3_replay_120 : decode cX3_replay 120 = .ok (.iaload, 1) := by decide +kernel
theorem dX3_replay_121 : decode cX3_replay 121 = .ok (.invokevirtual 89, 3) := by decide +kernel
theorem dX3_replay_124 : decode cX3_replay 124 = .ok (.iinc 5 1, 3) := by decide +kernel
theorem dX3_replay_127 : decode cX3_replay 127 = .ok (.goto (-22), 3) := by decide +kernel
theorem dX3_replay_130 : decode cX3_replay 130 = .ok (.iload 4, 2) := by decide +kernel
theorem dX3_replay_132 : decode cX3_replay 132 = .ok (.ireturn, 1) := by decide +kernel
set_option maxRecDepth 20000 in
theorem ggX3_compact_X3_mark : GoodIn wsX3_compact wsX3_mark := goodIn_r _ [6, 7, 8, 9, 10, 11, 12, 13, 14, 15, 16, 17, 18, 19, 27, 28, 29, 30, 31, 32, 33, 34, 35, 36, 37, 38, 39, 40, 41, 42, 43, 44, 45] (by decide +kernel) (by decide +kernel)
set_option maxRecDepth 20000 in
theorem gX3_compact_X3_mark : GoodIn wsX3_compact (wsV RX3 96 RX3 yX3_mark wsX3_mark) := goodIn_app (goodIn_of _ (by decide +kernel)) ggX3_compact_X3_mark
set_option maxRecDepth 20000 in
theorem ggX3_compact_X3_drop : GoodIn wsX3_compact wsX3_drop := goodIn_r _ [23, 15, 16, 8, 24, 9, 19, 17, 18, 25, 26, 27, 28, 29, 30, 31, 32, 33, 34, 35, 36, 37, 38, 39, 40, 41, 42, 43, 44, 45] (by decide +kernel) (by decide +kernel)
set_option maxRecDepth 20000 in
theorem gX3_compact_X3_drop : GoodIn wsX3_compact (wsV RX3 64 RX3 yX3_drop wsX3_drop) := goodIn_app (goodIn_of _ (by decide +kernel)) ggX3_compact_X3_drop
theorem dX3_compact_0 : decode cX3_compact 0 = .ok (.aload_n 0, 1) := by decide +kernel
theorem dX3_compact_1 : decode cX3_compact 1 = .ok (.iconst 0, 1) := by decide +kernel
theorem dX3_compact_2 : decode cX3_compact 2 = .ok (.putfield 44, 3) := by decide +kernel
theorem dX3_compact_5 : decode cX3_compact 5 = .ok (.aload_n 0, 1) := by decide +kernel
theorem dX3_compact_6 : decode cX3_compact 6 = .ok (.invokevirtual 96, 3) := by decide +kernel
theorem dX3_compact_9 : decode cX3_compact 9 = .ok (.pop, 1) := by decide +kernel
theorem dX3_compact_10 : decode cX3_compact 10 = .ok (.aload_n 0, 1) := by decide +kernel
theorem dX3_compact_11 : decode cX3_compact 11 = .ok (.invokevirtual 64, 3) := by decide +kernel
theorem dX3_compact_14 : decode cX3_compact 14 = .ok (.ireturn, 1) := by decide +kernel
set_option maxRecDepth 20000 in
theorem ggX3_trimTo_X3_isIn : GoodIn wsX3_trimTo wsX3_isIn := goodIn_r _ [9] (by decide +kernel) (by decide +kernel)
set_option maxRecDepth 20000 in
theorem gX3_trimTo_X3_isIn : GoodIn wsX3_trimTo (va_wsS RX3 51 yX3_isIn wsX3_isIn) := goodIn_app (goodIn_of _ (by decide +kernel)) ggX3_trimTo_X3_isIn
set_option maxRecDepth 20000 in
theorem ggX3_trimTo_X3_fail : GoodIn wsX3_trimTo wsX3_fail := goodIn_r _ [13, 1, 25, 26, 27, 28, 29, 30, 31, 32, 33, 34, 35, 36, 37, 38, 39, 40, 41, 42, 43] (by decide +kernel) (by decide +kernel)
set_option maxRecDepth 20000 in
theorem gX3_trimTo_X3_fail : GoodIn wsX3_trimTo (wsV RX3 85 RX3 yX3_fail wsX3_fail) := goodIn_app (goodIn_of _ (by decide +kernel)) ggX3_trimTo_X3_fail
set_option maxRecDepth 20000 in
theorem ggX3_trimTo_X3_drop : GoodIn wsX3_trimTo wsX3_drop := goodIn_r _ [17, 3, 4, 18, 19, 20, 5, 21, 22, 23, 24, 25, 26, 27, 28, 29, 30, 31, 32, 33, 34, 35, 36, 37, 38, 39, 40, 41, 42, 43] (by decide +kernel) (by decide +kernel)
set_option maxRecDepth 20000 in
theorem gX3_trimTo_X3_drop : GoodIn wsX3_trimTo (wsV RX3 64 RX3 yX3_drop wsX3_drop) := goodIn_app (goodIn_of _ (by decide +kernel)) ggX3_trimTo_X3_drop
theorem dX3_trimTo_0 : decode cX3_trimTo 0 = .ok (.aload_n 0, 1) := by decide +kernel
theorem dX3_trimTo_1 : decode cX3_trimTo 1 = .ok (.iconst 0, 1) := by decide +kernel
theorem dX3_trimTo_2 : decode cX3_trimTo 2 = .ok (.putfield 44, 3) := by decide +kernel
theorem dX3_trimTo_5 : decode cX3_trimTo 5 = .ok (.iload_n 1, 1) := by decide +kernel
theorem dX3_trimTo_6 : decode cX3_trimTo 6 = .ok (.iconst 0, 1) := by decide +kernel
theorem dX3_trimTo_7 : decode cX3_trimTo 7 = .ok (.aload_n 0, 1) := by decide +kernel
theorem dX3_trimTo_8 : decode cX3_trimTo 8 = .ok (.getfield 68, 3) := by decide +kernel
theorem dX3_trimTo_11 : decode cX3_trimTo 11 = .ok (.invokestatic 51, 3) := by decide +kernel
theorem dX3_trimTo_14 : decode cX3_trimTo 14 = .ok (.ifCond .ne 9, 3) := by decide +kernel
theorem dX3_trimTo_17 : decode cX3_trimTo 17 = .ok (.aload_n 0, 1) := by decide +kernel
theorem dX3_trimTo_18 : decode cX3_trimTo 18 = .ok (.iconst 1, 1) := by decide +kernel
theorem dX3_trimTo_19 : decode cX3_trimTo 19 = .ok (.invokevirtual 85, 3) := by decide +kernel
theorem dX3_trimTo_22 : decode cX3_trimTo 22 = .ok (.ireturn, 1) := by decide +kernel
theorem dX3_trimTo_23 : decode cX3_trimTo 23 = .ok (.iconst 0, 1) := by decide +kernel
theorem dX3_trimTo_24 : decode cX3_trimTo 24 = .ok (.istore_n 2, 1) := by decide +kernel
theorem dX3_trimTo_25 : decode cX3_trimTo 25 = .ok (.iload_n 2, 1) := by decide +kernel
theorem dX3_trimTo_26 : decode cX3_trimTo 26 = .ok (.aload_n 0, 1) := by decide +kernel
theorem dX3_trimTo_27 : decode cX3_trimTo 27 = .ok (.getfield 58, 3) := by decide +kernel
theorem dX3_trimTo_30 : decode cX3_trimTo 30 = .ok (.if_icmp .ge 30, 3) := by decide +kernel
theorem dX3_trimTo_33 : decode cX3_trimTo 33 = .ok (.aload_n 0, 1) := by decide +kernel
theorem dX3_trimTo_34 : decode cX3_trimTo 34 = .ok (.getfield 22, 3) := by decide +kernel
theorem dX3_trimTo_37 : decode cX3_trimTo 37 = .ok (.iload_n 2, 1) := by decide +kernel
theorem dX3_trimTo_38 : decode cX3_trimTo 38 = .ok (.aload_n 0, 1) := by decide +kernel
theorem dX3_trimTo_39 : decode cX3_trimTo 39 = .ok (.getfield 9, 3) := by decide +kernel
theorem dX3_trimTo_42 : decode cX3_trimTo 42 = .ok (.iload_n 2, 1) := by decide +kernel
theorem dX3_trimTo_43 : decode cX3_trimTo 43 = .ok (.iaload, 1) := by decide +kernel
theorem dX3_trimTo_44 : decode cX3_trimTo 44 = .ok (.iload_n 1, 1) := by decide +kernel
theorem dX3_trimTo_45 : decode cX3_trimTo 45 = .ok (.if_icmp .ge 7, 3) := by decide +kernel
theorem dX3_trimTo_48 : decode cX3_trimTo 48 = .ok (.iconst 1, 1) := by decide +kernel
theorem dX3_trimTo_49 : decode cX3_trimTo 49 = .ok (.goto 4, 3) := by decide +kernel
theorem dX3_trimTo_52 : decode cX3_trimTo 52 = .ok (.iconst 0, 1) := by decide +kernel
theorem dX3_trimTo_53 : decode cX3_trimTo 53 = .ok (.bastore, 1) := by decide +kernel
theorem dX3_trimTo_54 : decode cX3_trimTo 54 = .ok (.iinc 2 1, 3) := by decide +kernel
theorem dX3_trimTo_57 : decode cX3_trimTo 57 = .ok (.goto (-32), 3) := by decide +kernel
theorem dX3_trimTo_60 : decode cX3_trimTo 60 = .ok (.aload_n 0, 1) := by decide +kernel
theorem dX3_trimTo_61 : decode cX3_trimTo 61 = .ok (.invokevirtual 64, 3) := by decide +kernel
theorem dX3_trimTo_64 : decode cX3_trimTo 64 = .ok (.ireturn, 1) := by decide +kernel
set_option maxRecDepth 20000 in
theorem ggX3_addShip_X3_isIn : GoodIn wsX3_addShip wsX3_isIn := goodIn_r _ [9] (by decide +kernel) (by decide +kernel)
set_option maxRecDepth 20000 in
theorem gX3_addShip_X3_isIn : GoodIn wsX3_addShip (va_wsS RX3 51 yX3_isIn wsX3_isIn) := goodIn_app (goodIn_of _ (by decide +kernel)) ggX3_addShip_X3_isIn
set_option maxRecDepth 20000 in
theorem ggX3_addShip_X3_fail : GoodIn wsX3_addShip wsX3_fail := goodIn_r _ [13, 1, 14, 15, 16, 17, 18, 19, 20, 21, 22, 23, 24, 25, 26, 27, 28, 29, 30, 31, 32] (by decide +kernel) (by decide +kernel)
set_option maxRecDepth 20000 in
theorem gX3_addShip_X3_fail : GoodIn wsX3_addShip (wsV RX3 85 RX3 yX3_fail wsX3_fail) := goodIn_app (goodIn_of _ (by decide +kernel)) ggX3_addShip_X3_fail
theorem dX3_addShip_0 : decode cX3_addShip 0 = .ok (.aload_n 0, 1) := by decide +kernel
theorem dX3_addShip_1 : decode cX3_addShip 1 = .ok (.iconst 0, 1) := by decide +kernel
theorem dX3_addShip_2 : decode cX3_addShip 2 = .ok (.putfield 44, 3) := by decide +kernel
theorem dX3_addShip_5 : decode cX3_addShip 5 = .ok (.iload_n 1, 1) := by decide +kernel
theorem dX3_addShip_6 : decode cX3_addShip 6 = .ok (.iconst 1, 1) := by decide +kernel
theorem dX3_addShip_7 : decode cX3_addShip 7 = .ok (.iconst 5, 1) := by decide +kernel
theorem dX3_addShip_8 : decode cX3_addShip 8 = .ok (.invokestatic 51, 3) := by decide +kernel
theorem dX3_addShip_11 : decode cX3_addShip 11 = .ok (.ifCond .eq 15, 3) := by decide +kernel
theorem dX3_addShip_14 : decode cX3_addShip 14 = .ok (.iload_n 2, 1) := by decide +kernel
theorem dX3_addShip_15 : decode cX3_addShip 15 = .ok (.iconst 0, 1) := by decide +kernel
theorem dX3_addShip_16 : decode cX3_addShip 16 = .ok (.aload_n 0, 1) := by decide +kernel
theorem dX3_addShip_17 : decode cX3_addShip 17 = .ok (.getfield 68, 3) := by decide +kernel
theorem dX3_addShip_20 : decode cX3_addShip 20 = .ok (.invokestatic 51, 3) := by decide +kernel
theorem dX3_addShip_23 : decode cX3_addShip 23 = .ok (.ifCond .ne 9, 3) := by decide +kernel
theorem dX3_addShip_26 : decode cX3_addShip 26 = .ok (.aload_n 0, 1) := by decide +kernel
theorem dX3_addShip_27 : decode cX3_addShip 27 = .ok (.iconst 1, 1) := by decide +kernel
theorem dX3_addShip_28 : decode cX3_addShip 28 = .ok (.invokevirtual 85, 3) := by decide +kernel
theorem dX3_addShip_31 : decode cX3_addShip 31 = .ok (.ireturn, 1) := by decide +kernel
theorem dX3_addShip_32 : decode cX3_addShip 32 = .ok (.aload_n 0, 1) := by decide +kernel
theorem dX3_addShip_33 : decode cX3_addShip 33 = .ok (.getfield 48, 3) := by decide +kernel
theorem dX3_addShip_36 : decode cX3_addShip 36 = .ok (.bipush 6, 2) := by decide +kernel
theorem dX3_addShip_38 : decode cX3_addShip 38 = .ok (.if_icmp .ne 9, 3) := by decide +kernel
theorem dX3_addShip_41 : decode cX3_addShip 41 = .ok (.aload_n 0, 1) := by decide +kernel
theorem dX3_addShip_42 : decode cX3_addShip 42 = .ok (.iconst 2, 1) := by decide +kernel
theorem dX3_addShip_43 : decode cX3_addShip 43 = .ok (.invokevirtual 85, 3) := by decide +kernel
theorem dX3_addShip_46 : decode cX3_addShip 46 = .ok (.ireturn, 1) := by decide +kernel
theorem dX3_addShip_47 : decode cX3_addShip 47 = .ok (.aload_n 0, 1) := by decide +kernel
theorem dX3_addShip_48 : decode cX3_addShip 48 = .ok (.getfield 29, 3) := by decide +kernel
theorem dX3_addShip_51 : decode cX3_addShip 51 = .ok (.aload_n 0, 1) := by decide +kernel
theorem dX3_addShip_52 : decode cX3_addShip 52 = .ok (.getfield 48, 3) := by decide +kernel
theorem dX3_addShip_55 : decode cX3_addShip 55 = .ok (.iload_n 1, 1) := by decide +kernel
theorem dX3_addShip_56 : decode cX3_addShip 56 = .ok (.iastore, 1) := by decide +kernel
theorem dX3_addShip_57 : decode cX3_addShip 57 = .ok (.aload_n 0, 1) := by decide +kernel
theorem dX3_addShip_58 : decode cX3_addShip 58 = .ok (.getfield 32, 3) := by decide +kernel
theorem dX3_addShip_61 : decode cX3_addShip 61 = .ok (.aload_n 0, 1) := by decide +kernel
theorem dX3_addShip_62 : decode cX3_addShip 62 = .ok (.getfield 48, 3) := by decide +kernel
theorem dX3_addShip_65 : decode cX3_addShip 65 = .ok (.iload_n 2, 1) := by decide +kernel
theorem dX3_addShip_66 : decode cX3_addShip 66 = .ok (.iastore, 1) := by decide +kernel
theorem dX3_addShip_67 : decode cX3_addShip 67 = .ok (.aload_n 0, 1) := by decide +kernel
theorem dX3_addShip_68 : decode cX3_addShip 68 = .ok (.dup, 1) := by decide +kernel
theorem dX3_addShip_69 : decode cX3_addShip 69 = .ok (.getfield 48, 3) := by decide +kernel
theorem dX3_addShip_72 : decode cX3_addShip 72 = .ok (.iconst 1, 1) := by decide +kernel
theorem dX3_addShip_73 : decode cX3_addShip 73 = .ok (.iadd, 1) := by decide +kernel
theorem dX3_addShip_74 : decode cX3_addShip 74 = .ok (.putfield 48, 3) := by decide +kernel
theorem dX3_addShip_77 : decode cX3_addShip 77 = .ok (.aload_n 0, 1) := by decide +kernel
theorem dX3_addShip_78 : decode cX3_addShip 78 = .ok (.getfield 48, 3) := by decide +kernel
theorem dX3_addShip_81 : decode cX3_addShip 81 = .ok (.iconst 1, 1) := by decide +kernel
theorem dX3_addShip_82 : decode cX3_addShip 82 = .ok (.isub, 1) := by decide +kernel
theorem dX3_addShip_83 : decode cX3_addShip 83 = .ok (.ireturn, 1) := by decide +kernel
set_option maxRecDepth 20000 in
theorem ggX3_seek_X3_isShip : GoodIn wsX3_seek wsX3_isShip := goodIn_r _ [8, 9, 10, 11, 7, 12, 17, 18, 19, 20, 21, 22, 23, 24, 25, 26, 27, 28, 29, 30, 31, 32, 33, 34, 35] (by decide +kernel) (by decide +kernel)
set_option maxRecDepth 20000 in
theorem gX3_seek_X3_isShip : GoodIn wsX3_seek (wsV RX3 99 RX3 yX3_isShip wsX3_isShip) := goodIn_app (goodIn_of _ (by decide +kernel)) ggX3_seek_X3_isShip
set_option maxRecDepth 20000 in
theorem ggX3_seek_X3_fail : GoodIn wsX3_seek wsX3_fail := goodIn_r _ [16, 1, 17, 18, 19, 20, 21, 22, 23, 24, 25, 26, 27, 28, 29, 30, 31, 32, 33, 34, 35] (by decide +kernel) (by decide +kernel)
set_option maxRecDepth 20000 in
theorem gX3_seek_X3_fail : GoodIn wsX3_seek (wsV RX3 85 RX3 yX3_fail wsX3_fail) := goodIn_app (goodIn_of _ (by decide +kernel)) ggX3_seek_X3_fail
set_option maxRecDepth 20000 in
theorem ggX3_seek_X3_isIn : GoodIn wsX3_seek wsX3_isIn := goodIn_r _ [12] (by decide +kernel) (by decide +kernel)
set_option maxRecDepth 20000 in
theorem gX3_seek_X3_isIn : GoodIn wsX3_seek (va_wsS RX3 51 yX3_isIn wsX3_isIn) := goodIn_app (goodIn_of _ (by decide +kernel)) ggX3_seek_X3_isIn
theorem dX3_seek_0 : decode cX3_seek 0 = .ok (.aload_n 0, 1) := by decide +kernel
theorem dX3_seek_1 : decode cX3_seek 1 = .ok (.iconst 0, 1) := by decide +kernel
theorem dX3_seek_2 : decode cX3_seek 2 = .ok (.putfield 44, 3) := by decide +kernel
theorem dX3_seek_5 : decode cX3_seek 5 = .ok (.aload_n 0, 1) := by decide +kernel
theorem dX3_seek_6 : decode cX3_seek 6 = .ok (.iload_n 1, 1) := by decide +kernel
theorem dX3_seek_7 : decode cX3_seek 7 = .ok (.invokevirtual 99, 3) := by decide +kernel
theorem dX3_seek_10 : decode cX3_seek 10 = .ok (.ifCond .ne 9, 3) := by decide +kernel
theorem dX3_seek_13 : decode cX3_seek 13 = .ok (.aload_n 0, 1) := by decide +kernel
theorem dX3_seek_14 : decode cX3_seek 14 = .ok (.iconst 1, 1) := by decide +kernel
theorem dX3_seek_15 : decode cX3_seek 15 = .ok (.invokevirtual 85, 3) := by decide +kernel
theorem dX3_seek_18 : decode cX3_seek 18 = .ok (.ireturn, 1) := by decide +kernel
theorem dX3_seek_19 : decode cX3_seek 19 = .ok (.iload_n 2, 1) := by decide +kernel
theorem dX3_seek_20 : decode cX3_seek 20 = .ok (.iconst 0, 1) := by decide +kernel
theorem dX3_seek_21 : decode cX3_seek 21 = .ok (.aload_n 0, 1) := by decide +kernel
theorem dX3_seek_22 : decode cX3_seek 22 = .ok (.getfield 68, 3) := by decide +kernel
theorem dX3_seek_25 : decode cX3_seek 25 = .ok (.invokestatic 51, 3) := by decide +kernel
theorem dX3_seek_28 : decode cX3_seek 28 = .ok (.ifCond .ne 9, 3) := by decide +kernel
theorem dX3_seek_31 : decode cX3_seek 31 = .ok (.aload_n 0, 1) := by decide +kernel
theorem dX3_seek_32 : decode cX3_seek 32 = .ok (.iconst 2, 1) := by decide +kernel
theorem dX3_seek_33 : decode cX3_seek 33 = .ok (.invokevirtual 85, 3) := by decide +kernel
theorem dX3_seek_36 : decode cX3_seek 36 = .ok (.ireturn, 1) := by decide +kernel
theorem dX3_seek_37 : decode cX3_seek 37 = .ok (.aload_n 0, 1) := by decide +kernel
theorem dX3_seek_38 : decode cX3_seek 38 = .ok (.getfield 32, 3) := by decide +kernel
theorem dX3_seek_41 : decode cX3_seek 41 = .ok (.iload_n 1, 1) := by decide +kernel
theorem dX3_seek_42 : decode cX3_seek 42 = .ok (.iaload, 1) := by decide +kernel
theorem dX3_seek_43 : decode cX3_seek 43 = .ok (.istore_n 3, 1) := by decide +kernel
theorem dX3_seek_44 : decode cX3_seek 44 = .ok (.aload_n 0, 1) := by decide +kernel
theorem dX3_seek_45 : decode cX3_seek 45 = .ok (.getfield 32, 3) := by decide +kernel
theorem dX3_seek_48 : decode cX3_seek 48 = .ok (.iload_n 1, 1) := by decide +kernel
theorem dX3_seek_49 : decode cX3_seek 49 = .ok (.iload_n 2, 1) := by decide +kernel
theorem dX3_seek_50 : decode cX3_seek 50 = .ok (.iastore, 1) := by decide +kernel
theorem dX3_seek_51 : decode cX3_seek 51 = .ok (.iload_n 3, 1) := by decide +kernel
theorem dX3_seek_52 : decode cX3_seek 52 = .ok (.ireturn, 1) := by decide +kernel
theorem dX3_from_0 : decode cX3_from 0 = .ok (.iconst 0, 1) := by decide +kernel
theorem dX3_from_1 : decode cX3_from 1 = .ok (.istore_n 2, 1) := by decide +kernel
theorem dX3_from_2 : decode cX3_from 2 = .ok (.iload_n 2, 1) := by decide +kernel
theorem dX3_from_3 : decode cX3_from 3 = .ok (.aload_n 0, 1) := by decide +kernel
theorem dX3_from_4 : decode cX3_from 4 = .ok (.getfield 58, 3) := by decide +kernel
theorem dX3_from_7 : decode cX3_from 7 = .ok (.if_icmp .ge 19, 3) := by decide +kernel
theorem dX3_from_10 : decode cX3_from 10 = .ok (.aload_n 0, 1) := by decide +kernel
theorem dX3_from_11 : decode cX3_from 11 = .ok (.getfield 9, 3) := by decide +kernel
theorem dX3_from_14 : decode cX3_from 14 = .ok (.iload_n 2, 1) := by decide +kernel
theorem dX3_from_15 : decode cX3_from 15 = .ok (.iaload, 1) := by decide +kernel
theorem dX3_from_16 : decode cX3_from 16 = .ok (.iload_n 1, 1) := by decide +kernel
theorem dX3_from_17 : decode cX3_from 17 = .ok (.if_icmp .ge 9, 3) := by decide +kernel
theorem dX3_from_20 : decode cX3_from 20 = .ok (.iinc 2 1, 3) := by decide +kernel
theorem dX3_from_23 : decode cX3_from 23 = .ok (.goto (-21), 3) := by decide +kernel
theorem dX3_from_26 : decode cX3_from 26 = .ok (.iload_n 2, 1) := by decide +kernel
theorem dX3_from_27 : decode cX3_from 27 = .ok (.ireturn, 1) := by decide +kernel
set_option maxRecDepth 20000 in
theorem ggX3_lag_X3_from : GoodIn wsX3_lag wsX3_from := goodIn_r _ [7, 1, 8, 9, 10, 11, 12, 13, 14, 15, 16, 17, 18, 19, 20, 21, 22, 23, 24, 25, 26, 27] (by decide +kernel) (by decide +kernel)
set_option maxRecDepth 20000 in
theorem gX3_lag_X3_from : GoodIn wsX3_lag (wsV RX3 102 RX3 yX3_from wsX3_from) := goodIn_app (goodIn_of _ (by decide +kernel)) ggX3_lag_X3_from
theorem dX3_lag_0 : decode cX3_lag 0 = .ok (.aload_n 0, 1) := by decide +kernel
theorem dX3_lag_1 : decode cX3_lag 1 = .ok (.getfield 58, 3) := by decide +kernel
theorem dX3_lag_4 : decode cX3_lag 4 = .ok (.aload_n 0, 1) := by decide +kernel
theorem dX3_lag_5 : decode cX3_lag 5 = .ok (.aload_n 0, 1) := by decide +kernel
theorem dX3_lag_6 : decode cX3_lag 6 = .ok (.getfield 32, 3) := by decide +kernel
theorem dX3_lag_9 : decode cX3_lag 9 = .ok (.iload_n 1, 1) := by decide +kernel
theorem dX3_lag_10 : decode cX3_lag 10 = .ok (.iaload, 1) := by decide +kernel
theorem dX3_lag_11 : decode cX3_lag 11 = .ok (.invokevirtual 102, 3) := by decide +kernel
theorem dX3_lag_14 : decode cX3_lag 14 = .ok (.isub, 1) := by decide +kernel
theorem dX3_lag_15 : decode cX3_lag 15 = .ok (.ireturn, 1) := by decide +kernel
set_option maxRecDepth 20000 in
theorem ggX3_passHours_X3_isIn : GoodIn wsX3_passHours wsX3_isIn := goodIn_r _ [20] (by decide +kernel) (by decide +kernel)
set_option maxRecDepth 20000 in
theorem gX3_passHours_X3_isIn : GoodIn wsX3_passHours (va_wsS RX3 51 yX3_isIn wsX3_isIn) := goodIn_app (goodIn_of _ (by decide +kernel)) ggX3_passHours_X3_isIn
set_option maxRecDepth 20000 in
theorem ggX3_passHours_X3_fail : GoodIn wsX3_passHours wsX3_fail := goodIn_r _ [24, 1, 29, 30, 31, 32, 33, 34, 35, 36, 37, 38, 39, 40, 41, 42, 43, 44, 45, 46, 47] (by decide +kernel) (by decide +kernel)
set_option maxRecDepth 20000 in
theorem gX3_passHours_X3_fail : GoodIn wsX3_passHours (wsV RX3 85 RX3 yX3_fail wsX3_fail) := goodIn_app (goodIn_of _ (by decide +kernel)) ggX3_passHours_X3_fail
set_option maxRecDepth 20000 in
theorem ggX3_passHours_X3_from : GoodIn wsX3_passHours wsX3_from := goodIn_r _ [28, 6, 15, 29, 30, 31, 32, 33, 34, 35, 36, 37, 38, 39, 40, 41, 42, 43, 44, 45, 46, 47] (by decide +kernel) (by decide +kernel)
set_option maxRecDepth 20000 in
theorem gX3_passHours_X3_from : GoodIn wsX3_passHours (wsV RX3 102 RX3 yX3_from wsX3_from) := goodIn_app (goodIn_of _ (by decide +kernel)) ggX3_passHours_X3_from
theorem dX3_passHours_0 : decode cX3_passHours 0 = .ok (.aload_n 0, 1) := by decide +kernel
theorem dX3_passHours_1 : decode cX3_passHours 1 = .ok (.iconst 0, 1) := by decide +kernel
theorem dX3_passHours_2 : decode cX3_passHours 2 = .ok (.putfield 44, 3) := by decide +kernel
theorem dX3_passHours_5 : decode cX3_passHours 5 = .ok (.iload_n 1, 1) := by decide +kernel
theorem dX3_passHours_6 : decode cX3_passHours 6 = .ok (.iconst 1, 1) := by decide +kernel
theorem dX3_passHours_7 : decode cX3_passHours 7 = .ok (.bipush 60, 2) := by decide +kernel
theorem dX3_passHours_9 : decode cX3_passHours 9 = .ok (.invokestatic 51, 3) := by decide +kernel
theorem dX3_passHours_12 : decode cX3_passHours 12 = .ok (.ifCond .ne 9, 3) := by decide +kernel
theorem dX3_passHours_15 : decode cX3_passHours 15 = .ok (.aload_n 0, 1) := by decide +kernel
theorem dX3_passHours_16 : decode cX3_passHours 16 = .ok (.iconst 1, 1) := by decide +kernel
theorem dX3_passHours_17 : decode cX3_passHours 17 = .ok (.invokevirtual 85, 3) := by decide +kernel
theorem dX3_passHours_20 : decode cX3_passHours 20 = .ok (.ireturn, 1) := by decide +kernel
theorem dX3_passHours_21 : decode cX3_passHours 21 = .ok (.aload_n 0, 1) := by decide +kernel
theorem dX3_passHours_22 : decode cX3_passHours 22 = .ok (.dup, 1) := by decide +kernel
theorem dX3_passHours_23 : decode cX3_passHours 23 = .ok (.getfield 105, 3) := by decide +kernel
theorem dX3_passHours_26 : decode cX3_passHours 26 = .ok (.iload_n 1, 1) := by decide +kernel
theorem dX3_passHours_27 : decode cX3_passHours 27 = .ok (.iadd, 1) := by decide +kernel
theorem dX3_passHours_28 : decode cX3_passHours 28 = .ok (.putfield 105, 3) := by decide +kernel
theorem dX3_passHours_31 : decode cX3_passHours 31 = .ok (.iconst 0, 1) := by decide +kernel
theorem dX3_passHours_32 : decode cX3_passHours 32 = .ok (.istore_n 2, 1) := by decide +kernel
theorem dX3_passHours_33 : decode cX3_passHours 33 = .ok (.iconst 0, 1) := by decide +kernel
theorem dX3_passHours_34 : decode cX3_passHours 34 = .ok (.istore_n 3, 1) := by decide +kernel
theorem dX3_passHours_35 : decode cX3_passHours 35 = .ok (.iload_n 3, 1) := by decide +kernel
theorem dX3_passHours_36 : decode cX3_passHours 36 = .ok (.aload_n 0, 1) := by decide +kernel
theorem dX3_passHours_37 : decode cX3_passHours 37 = .ok (.getfield 48, 3) := by decide +kernel
theorem dX3_passHours_40 : decode cX3_passHours 40 = .ok (.if_icmp .ge 135, 3) := by decide +kernel
theorem dX3_passHours_43 : decode cX3_passHours 43 = .ok (.aload_n 0, 1) := by decide +kernel
theorem dX3_passHours_44 : decode cX3_passHours 44 = .ok (.getfield 71, 3) := by decide +kernel
theorem dX3_passHours_47 : decode cX3_passHours 47 = .ok (.ifCond .ne 128, 3) := by decide +kernel
theorem dX3_passHours_50 : decode cX3_passHours 50 = .ok (.aload_n 0, 1) := by decide +kernel
theorem dX3_passHours_51 : decode cX3_passHours 51 = .ok (.aload_n 0, 1) := by decide +kernel
theorem dX3_passHours_52 : decode cX3_passHours 52 = .ok (.getfield 32, 3) := by decide +kernel
theorem dX3_passHours_55 : decode cX3_passHours 55 = .ok (.iload_n 3, 1) := by decide +kernel
theorem dX3_passHours_56 : decode cX3_passHours 56 = .ok (.iaload, 1) := by decide +kernel
theorem dX3_passHours_57 : decode cX3_passHours 57 = .ok (.invokevirtual 102, 3) := by decide +kernel
theorem dX3_passHours_60 : decode cX3_passHours 60 = .ok (.istore 4, 2) := by decide +kernel
theorem dX3_passHours_62 : decode cX3_passHours 62 = .ok (.aload_n 0, 1) := by decide +kernel
theorem dX3_passHours_63 : decode cX3_passHours 63 = .ok (.getfield 58, 3) := by decide +kernel
theorem dX3_passHours_66 : decode cX3_passHours 66 = .ok (.iload 4, 2) := by decide +kernel
theorem dX3_passHours_68 : decode cX3_passHours 68 = .ok (.iload_n 1, 1) := by decide +kernel
theorem dX3_passHours_69 : decode cX3_passHours 69 = .ok (.aload_n 0, 1) := by decide +kernel
theorem dX3_passHours_70 : decode cX3_passHours 70 = .ok (.getfield 29, 3) := by decide +kernel
theorem dX3_passHours_73 : decode cX3_passHours 73 = .ok (.iload_n 3, 1) := by decide +kernel
theorem dX3_passHours_74 : decode cX3_passHours 74 = .ok (.iaload, 1) := by decide +kernel
theorem dX3_passHours_75 : decode cX3_passHours 75 = .ok (.imul, 1) := by decide +kernel
theorem dX3_passHours_76 : decode cX3_passHours 76 = .ok (.iadd, 1) := by decide +kernel
theorem dX3_passHours_77 : decode cX3_passHours 77 = .ok (.invokestatic 75, 3) := by decide +kernel
theorem dX3_passHours_80 : decode cX3_passHours 80 = .ok (.istore 5, 2) := by decide +kernel
theorem dX3_passHours_82 : decode cX3_passHours 82 = .ok (.iload 4, 2) := by decide +kernel
theorem dX3_passHours_84 : decode cX3_passHours 84 = .ok (.istore 6, 2) := by decide +kernel
theorem dX3_passHours_86 : decode cX3_passHours 86 = .ok (.iload 6, 2) := by decide +kernel
theorem dX3_passHours_88 : decode cX3_passHours 88 = .ok (.iload 5, 2) := by decide +kernel
theorem dX3_passHours_90 : decode cX3_passHours 90 = .ok (.if_icmp .ge 33, 3) := by decide +kernel
theorem dX3_passHours_93 : decode cX3_passHours 93 = .ok (.aload_n 0, 1) := by decide +kernel
theorem dX3_passHours_94 : decode cX3_passHours 94 = .ok (.getfield 41, 3) := by decide +kernel
theorem dX3_passHours_97 : decode cX3_passHours 97 = .ok (.bipush 10, 2) := by decide +kernel
theorem dX3_passHours_99 : decode cX3_passHours 99 = .ok (.iload_n 3, 1) := by decide +kernel
theorem dX3_passHours_100 : decode cX3_passHours 100 = .ok (.imul, 1) := by decide +kernel
theorem dX3_passHours_101 : decode cX3_passHours 101 = .ok (.aload_n 0, 1) := by decide +kernel
theorem dX3_passHours_102 : decode cX3_passHours 102 = .ok (.getfield 13, 3) := by decide +kernel
theorem dX3_passHours_105 : decode cX3_passHours 105 = .ok (.iload 6, 2) := by decide +kernel
theorem dX3_passHours_107 : decode cX3_passHours 107 = .ok (.iaload, 1) := by decide +kernel
theorem dX3_passHours_108 : decode cX3_passHours 108 = .ok (.iadd, 1) := by decide +kernel
theorem dX3_passHours_109 : decode cX3_passHours 109 = .ok (.aload_n 0, 1) := by decide +kernel
theorem dX3_passHours_110 : decode cX3_passHours 110 = .ok (.getfield 16, 3) := by decide +kernel
theorem dX3_passHours_113 : decode cX3_passHours 113 = .ok (.iload 6, 2) := by decide +kernel
theorem dX3_passHours_115 : decode cX3_passHours 115 = .ok (.iaload, 1) := by decide +kernel
theorem dX3_passHours_116 : decode cX3_passHours 116 = .ok (.iastore, 1) := by decide +kernel
theorem dX3_passHours_117 : decode cX3_passHours 117 = .ok (.iinc 6 1, 3) := by decide +kernel
theorem dX3_passHours_120 : decode cX3_passHours 120 = .ok (.goto (-34), 3) := by decide +kernel
theorem dX3_passHours_123 : decode cX3_passHours 123 = .ok (.iload 5, 2) := by decide +kernel
theorem dX3_passHours_125 : decode cX3_passHours 125 = .ok (.iload 4, 2) := by decide +kernel
theorem dX3_passHours_127 : decode cX3_passHours 127 = .ok (.if_icmp .le 20, 3) := by decide +kernel
theorem dX3_passHours_130 : decode cX3_passHours 130 = .ok (.aload_n 0, 1) := by decide +kernel
theorem dX3_passHours_131 : decode cX3_passHours 131 = .ok (.getfield 32, 3) := by decide +kernel
theorem dX3_passHours_134 : decode cX3_passHours 134 = .ok (.iload_n 3, 1) := by decide +kernel
theorem dX3_passHours_135 : decode cX3_passHours 135 = .ok (.aload_n 0, 1) := by decide +kernel
theorem dX3_passHours_136 : decode cX3_passHours 136 = .ok (.getfield 9, 3) := by decide +kernel
theorem dX3_passHours_139 : decode cX3_passHours 139 = .ok (.iload 5, 2) := by decide +kernel
theorem dX3_passHours_141 : decode cX3_passHours 141 = .ok (.iconst 1, 1) := by decide +kernel
theorem dX3_passHours_142 : decode cX3_passHours 142 = .ok (.isub, 1) := by decide +kernel
theorem dX3_passHours_143 : decode cX3_passHours 143 = .ok (.iaload, 1) := by decide +kernel
theorem dX3_passHours_144 : decode cX3_passHours 144 = .ok (.iconst 1, 1) := by decide +kernel
theorem dX3_passHours_145 : decode cX3_passHours 145 = .ok (.iadd, 1) := by decide +kernel
theorem dX3_passHours_146 : decode cX3_passHours 146 = .ok (.iastore, 1) := by decide +kernel
theorem dX3_passHours_147 : decode cX3_passHours 147 = .ok (.aload_n 0, 1) := by decide +kernel
theorem dX3_passHours_148 : decode cX3_passHours 148 = .ok (.getfield 35, 3) := by decide +kernel
theorem dX3_passHours_151 : decode cX3_passHours 151 = .ok (.iload_n 3, 1) := by decide +kernel
theorem dX3_passHours_152 : decode cX3_passHours 152 = .ok (.dup2, 1) := by decide +kernel
theorem dX3_passHours_153 : decode cX3_passHours 153 = .ok (.iaload, 1) := by decide +kernel
theorem dX3_passHours_154 : decode cX3_passHours 154 = .ok (.iload 5, 2) := by decide +kernel
theorem dX3_passHours_156 : decode cX3_passHours 156 = .ok (.iload 4, 2) := by decide +kernel
theorem dX3_passHours_158 : decode cX3_passHours 158 = .ok (.isub, 1) := by decide +kernel
theorem dX3_passHours_159 : decode cX3_passHours 159 = .ok (.iadd, 1) := by decide +kernel
theorem dX3_passHours_160 : decode cX3_passHours 160 = .ok (.iastore, 1) := by decide +kernel
theorem dX3_passHours_161 : decode cX3_passHours 161 = .ok (.iload_n 2, 1) := by decide +kernel
theorem dX3_passHours_162 : decode cX3_passHours 162 = .ok (.iload 5, 2) := by decide +kernel
theorem dX3_passHours_164 : decode cX3_passHours 164 = .ok (.iload 4, 2) := by decide +kernel
theorem dX3_passHours_166 : decode cX3_passHours 166 = .ok (.isub, 1) := by decide +kernel
theorem dX3_passHours_167 : decode cX3_passHours 167 = .ok (.iadd, 1) := by decide +kernel
theorem dX3_passHours_168 : decode cX3_passHours 168 = .ok (.istore_n 2, 1) := by decide +kernel
theorem dX3_passHours_169 : decode cX3_passHours 169 = .ok (.iinc 3 1, 3) := by decide +kernel
theorem dX3_passHours_172 : decode cX3_passHours 172 = .ok (.goto (-137), 3) := by decide +kernel
theorem dX3_passHours_175 : decode cX3_passHours 175 = .ok (.iload_n 2, 1) := by decide +kernel
theorem dX3_passHours_176 : decode cX3_passHours 176 = .ok (.ireturn, 1) := by decide +kernel
set_option maxRecDepth 20000 in
theorem ggX3_hours_X3_told : GoodIn wsX3_hours wsX3_told := goodIn_r _ [6, 7, 8, 9, 10, 11, 12, 13, 14, 15, 16, 17, 18, 19, 20, 21, 22, 23, 24, 25, 26] (by decide +kernel) (by decide +kernel)
set_option maxRecDepth 20000 in
theorem gX3_hours_X3_told : GoodIn wsX3_hours (wsV RX3 108 RX3 yX3_told wsX3_told) := goodIn_app (goodIn_of _ (by decide +kernel)) ggX3_hours_X3_told
theorem dX3_hours_0 : decode cX3_hours 0 = .ok (.aload_n 0, 1) := by decide +kernel
theorem dX3_hours_1 : decode cX3_hours 1 = .ok (.aload_n 0, 1) := by decide +kernel
theorem dX3_hours_2 : decode cX3_hours 2 = .ok (.getfield 105, 3) := by decide +kernel
theorem dX3_hours_5 : decode cX3_hours 5 = .ok (.invokevirtual 108, 3) := by decide +kernel
theorem dX3_hours_8 : decode cX3_hours 8 = .ok (.ireturn, 1) := by decide +kernel
set_option maxRecDepth 20000 in
theorem ggX3_phrases_X3_told : GoodIn wsX3_phrases wsX3_told := goodIn_r _ [6, 7, 8, 9, 10, 11, 12, 13, 14, 15, 16, 17, 18, 19, 20, 21, 22, 23, 24, 25, 26] (by decide +kernel) (by decide +kernel)
set_option maxRecDepth 20000 in
theorem gX3_phrases_X3_told : GoodIn wsX3_phrases (wsV RX3 108 RX3 yX3_told wsX3_told) := goodIn_app (goodIn_of _ (by decide +kernel)) ggX3_phrases_X3_told
theorem dX3_phrases_0 : decode cX3_phrases 0 = .ok (.aload_n 0, 1) := by decide +kernel
theorem dX3_phrases_1 : decode cX3_phrases 1 = .ok (.aload_n 0, 1) := by decide +kernel
theorem dX3_phrases_2 : decode cX3_phrases 2 = .ok (.getfield 58, 3) := by decide +kernel
theorem dX3_phrases_5 : decode cX3_phrases 5 = .ok (.invokevirtual 108, 3) := by decide +kernel
theorem dX3_phrases_8 : decode cX3_phrases 8 = .ok (.ireturn, 1) := by decide +kernel
set_option maxRecDepth 20000 in
theorem ggX3_nextOffset_X3_told : GoodIn wsX3_nextOffset wsX3_told := goodIn_r _ [6, 7, 8, 9, 10, 11, 12, 13, 14, 15, 16, 17, 18, 19, 20, 21, 22, 23, 24, 25, 26] (by decide +kernel) (by decide +kernel)
set_option maxRecDepth 20000 in
theorem gX3_nextOffset_X3_told : GoodIn wsX3_nextOffset (wsV RX3 108 RX3 yX3_told wsX3_told) := goodIn_app (goodIn_of _ (by decide +kernel)) ggX3_nextOffset_X3_told
theorem dX3_nextOffset_0 : decode cX3_nextOffset 0 = .ok (.aload_n 0, 1) := by decide +kernel
theorem dX3_nextOffset_1 : decode cX3_nextOffset 1 = .ok (.aload_n 0, 1) := by decide +kernel
theorem dX3_nextOffset_2 : decode cX3_nextOffset 2 = .ok (.getfield 68, 3) := by decide +kernel
theorem dX3_nextOffset_5 : decode cX3_nextOffset 5 = .ok (.invokevirtual 108, 3) := by decide +kernel
theorem dX3_nextOffset_8 : decode cX3_nextOffset 8 = .ok (.ireturn, 1) := by decide +kernel
theorem dX3_first_0 : decode cX3_first 0 = .ok (.aload_n 0, 1) := by decide +kernel
theorem dX3_first_1 : decode cX3_first 1 = .ok (.getfield 58, 3) := by decide +kernel
theorem dX3_first_4 : decode cX3_first 4 = .ok (.ifCond .ne 7, 3) := by decide +kernel
theorem dX3_first_7 : decode cX3_first 7 = .ok (.iconst (-1), 1) := by decide +kernel
theorem dX3_first_8 : decode cX3_first 8 = .ok (.goto 9, 3) := by decide +kernel
theorem dX3_first_11 : decode cX3_first 11 = .ok (.aload_n 0, 1) := by decide +kernel
theorem dX3_first_12 : decode cX3_first 12 = .ok (.getfield 9, 3) := by decide +kernel
theorem dX3_first_15 : decode cX3_first 15 = .ok (.iconst 0, 1) := by decide +kernel
theorem dX3_first_16 : decode cX3_first 16 = .ok (.iaload, 1) := by decide +kernel
theorem dX3_first_17 : decode cX3_first 17 = .ok (.ireturn, 1) := by decide +kernel
set_option maxRecDepth 20000 in
theorem ggX3_firstOffset_X3_first : GoodIn wsX3_firstOffset wsX3_first := goodIn_r _ [5, 6, 7, 13, 14, 15, 16, 17, 18, 19, 20, 21, 22, 23, 24, 25, 26, 27, 28, 29, 30, 31] (by decide +kernel) (by decide +kernel)
set_option maxRecDepth 20000 in
theorem gX3_firstOffset_X3_first : GoodIn wsX3_firstOffset (wsV RX3 111 RX3 yX3_first wsX3_first) := goodIn_app (goodIn_of _ (by decide +kernel)) ggX3_firstOffset_X3_first
set_option maxRecDepth 20000 in
theorem ggX3_firstOffset_X3_told : GoodIn wsX3_firstOffset wsX3_told := goodIn_r _ [11, 12, 13, 14, 15, 16, 17, 18, 19, 20, 21, 22, 23, 24, 25, 26, 27, 28, 29, 30, 31] (by decide +kernel) (by decide +kernel)
set_option maxRecDepth 20000 in
theorem gX3_firstOffset_X3_told : GoodIn wsX3_firstOffset (wsV RX3 108 RX3 yX3_told wsX3_told) := goodIn_app (goodIn_of _ (by decide +kernel)) ggX3_firstOffset_X3_told
theorem dX3_firstOffset_0 : decode cX3_firstOffset 0 = .ok (.aload_n 0, 1) := by decide +kernel
theorem dX3_firstOffset_1 : decode cX3_firstOffset 1 = .ok (.aload_n 0, 1) := by decide +kernel
theorem dX3_firstOffset_2 : decode cX3_firstOffset 2 = .ok (.invokevirtual 111, 3) := by decide +kernel
theorem dX3_firstOffset_5 : decode cX3_firstOffset 5 = .ok (.invokevirtual 108, 3) := by decide +kernel
theorem dX3_firstOffset_8 : decode cX3_firstOffset 8 = .ok (.ireturn, 1) := by decide +kernel
set_option maxRecDepth 20000 in
theorem ggX3_dropped_X3_told : GoodIn wsX3_dropped wsX3_told := goodIn_r _ [6, 7, 8, 9, 10, 11, 12, 13, 14, 15, 16, 17, 18, 19, 20, 21, 22, 23, 24, 25, 26] (by decide +kernel) (by decide +kernel)
set_option maxRecDepth 20000 in
theorem gX3_dropped_X3_told : GoodIn wsX3_dropped (wsV RX3 108 RX3 yX3_told wsX3_told) := goodIn_app (goodIn_of _ (by decide +kernel)) ggX3_dropped_X3_told
theorem dX3_dropped_0 : decode cX3_dropped 0 = .ok (.aload_n 0, 1) := by decide +kernel
theorem dX3_dropped_1 : decode cX3_dropped 1 = .ok (.aload_n 0, 1) := by decide +kernel
theorem dX3_dropped_2 : decode cX3_dropped 2 = .ok (.getfield 61, 3) := by decide +kernel
theorem dX3_dropped_5 : decode cX3_dropped 5 = .ok (.invokevirtual 108, 3) := by decide +kernel
theorem dX3_dropped_8 : decode cX3_dropped 8 = .ok (.ireturn, 1) := by decide +kernel
set_option maxRecDepth 20000 in
theorem ggX3_place_X3_from : GoodIn wsX3_place wsX3_from := goodIn_r _ [7, 1, 2, 8, 9, 10, 11, 12, 13, 14, 15, 16, 17, 18, 19, 20, 21, 22, 23, 24, 25, 26] (by decide +kernel) (by decide +kernel)
set_option maxRecDepth 20000 in
theorem gX3_place_X3_from : GoodIn wsX3_place (wsV RX3 102 RX3 yX3_from wsX3_from) := goodIn_app (goodIn_of _ (by decide +kernel)) ggX3_place_X3_from
theorem dX3_place_0 : decode cX3_place 0 = .ok (.aload_n 0, 1) := by decide +kernel
theorem dX3_place_1 : decode cX3_place 1 = .ok (.iload_n 1, 1) := by decide +kernel
theorem dX3_place_2 : decode cX3_place 2 = .ok (.invokevirtual 102, 3) := by decide +kernel
theorem dX3_place_5 : decode cX3_place 5 = .ok (.istore_n 2, 1) := by decide +kernel
theorem dX3_place_6 : decode cX3_place 6 = .ok (.iload_n 2, 1) := by decide +kernel
theorem dX3_place_7 : decode cX3_place 7 = .ok (.aload_n 0, 1) := by decide +kernel
theorem dX3_place_8 : decode cX3_place 8 = .ok (.getfield 58, 3) := by decide +kernel
theorem dX3_place_11 : decode cX3_place 11 = .ok (.if_icmp .ge 17, 3) := by decide +kernel
theorem dX3_place_14 : decode cX3_place 14 = .ok (.aload_n 0, 1) := by decide +kernel
theorem dX3_place_15 : decode cX3_place 15 = .ok (.getfield 9, 3) := by decide +kernel
theorem dX3_place_18 : decode cX3_place 18 = .ok (.iload_n 2, 1) := by decide +kernel
theorem dX3_place_19 : decode cX3_place 19 = .ok (.iaload, 1) := by decide +kernel
theorem dX3_place_20 : decode cX3_place 20 = .ok (.iload_n 1, 1) := by decide +kernel
theorem dX3_place_21 : decode cX3_place 21 = .ok (.if_icmp .ne 7, 3) := by decide +kernel
theorem dX3_place_24 : decode cX3_place 24 = .ok (.iload_n 2, 1) := by decide +kernel
theorem dX3_place_25 : decode cX3_place 25 = .ok (.goto 4, 3) := by decide +kernel
theorem dX3_place_28 : decode cX3_place 28 = .ok (.iconst (-1), 1) := by decide +kernel
theorem dX3_place_29 : decode cX3_place 29 = .ok (.ireturn, 1) := by decide +kernel
set_option maxRecDepth 20000 in
theorem ggX3_isKept_X3_place : GoodIn wsX3_isKept wsX3_place := goodIn_r _ [6, 7, 8, 9, 10, 11, 5, 12, 13, 14, 15, 16, 17, 18, 19, 20, 21, 22, 23, 24, 25, 26, 27, 28, 29, 30, 31] (by decide +kernel) (by decide +kernel)
set_option maxRecDepth 20000 in
theorem gX3_isKept_X3_place : GoodIn wsX3_isKept (wsV RX3 114 RX3 yX3_place wsX3_place) := goodIn_app (goodIn_of _ (by decide +kernel)) ggX3_isKept_X3_place
theorem dX3_isKept_0 : decode cX3_isKept 0 = .ok (.aload_n 0, 1) := by decide +kernel
theorem dX3_isKept_1 : decode cX3_isKept 1 = .ok (.iconst 0, 1) := by decide +kernel
theorem dX3_isKept_2 : decode cX3_isKept 2 = .ok (.putfield 44, 3) := by decide +kernel
theorem dX3_isKept_5 : decode cX3_isKept 5 = .ok (.aload_n 0, 1) := by decide +kernel
theorem dX3_isKept_6 : decode cX3_isKept 6 = .ok (.iload_n 1, 1) := by decide +kernel
theorem dX3_isKept_7 : decode cX3_isKept 7 = .ok (.invokevirtual 114, 3) := by decide +kernel
theorem dX3_isKept_10 : decode cX3_isKept 10 = .ok (.iconst (-1), 1) := by decide +kernel
theorem dX3_isKept_11 : decode cX3_isKept 11 = .ok (.if_icmp .eq 7, 3) := by decide +kernel
theorem dX3_isKept_14 : decode cX3_isKept 14 = .ok (.iconst 1, 1) := by decide +kernel
theorem dX3_isKept_15 : decode cX3_isKept 15 = .ok (.goto 4, 3) := by decide +kernel
theorem dX3_isKept_18 : decode cX3_isKept 18 = .ok (.iconst 0, 1) := by decide +kernel
theorem dX3_isKept_19 : decode cX3_isKept 19 = .ok (.ireturn, 1) := by decide +kernel
set_option maxRecDepth 20000 in
theorem ggX3_of_X3_place : GoodIn wsX3_of wsX3_place := goodIn_r _ [6, 7, 8, 9, 10, 11, 5, 12, 17, 18, 19, 20, 21, 22, 23, 24, 25, 26, 27, 28, 29, 30, 31, 32, 33, 34, 35] (by decide +kernel) (by decide +kernel)
set_option maxRecDepth 20000 in
theorem gX3_of_X3_place : GoodIn wsX3_of (wsV RX3 114 RX3 yX3_place wsX3_place) := goodIn_app (goodIn_of _ (by decide +kernel)) ggX3_of_X3_place
set_option maxRecDepth 20000 in
theorem ggX3_of_X3_fail : GoodIn wsX3_of wsX3_fail := goodIn_r _ [16, 1, 17, 18, 19, 20, 21, 22, 23, 24, 25, 26, 27, 28, 29, 30, 31, 32, 33, 34, 35] (by decide +kernel) (by decide +kernel)
set_option maxRecDepth 20000 in
theorem gX3_of_X3_fail : GoodIn wsX3_of (wsV RX3 85 RX3 yX3_fail wsX3_fail) := goodIn_app (goodIn_of _ (by decide +kernel)) ggX3_of_X3_fail
theorem dX3_of_0 : decode cX3_of 0 = .ok (.aload_n 0, 1) := by decide +kernel
theorem dX3_of_1 : decode cX3_of 1 = .ok (.iconst 0, 1) := by decide +kernel
theorem dX3_of_2 : decode cX3_of 2 = .ok (.putfield 44, 3) := by decide +kernel
theorem dX3_of_5 : decode cX3_of 5 = .ok (.aload_n 0, 1) := by decide +kernel
theorem dX3_of_6 : decode cX3_of 6 = .ok (.iload_n 1, 1) := by decide +kernel
theorem dX3_of_7 : decode cX3_of 7 = .ok (.invokevirtual 114, 3) := by decide +kernel
theorem dX3_of_10 : decode cX3_of 10 = .ok (.istore_n 3, 1) := by decide +kernel
theorem dX3_of_11 : decode cX3_of 11 = .ok (.iload_n 3, 1) := by decide +kernel
theorem dX3_of_12 : decode cX3_of 12 = .ok (.iconst (-1), 1) := by decide +kernel
theorem dX3_of_13 : decode cX3_of 13 = .ok (.if_icmp .ne 11, 3) := by decide +kernel
theorem dX3_of_16 : decode cX3_of 16 = .ok (.aload_n 0, 1) := by decide +kernel
theorem dX3_of_17 : decode cX3_of 17 = .ok (.iconst 1, 1) := by decide +kernel
theorem dX3_of_18 : decode cX3_of 18 = .ok (.invokevirtual 85, 3) := by decide +kernel
theorem dX3_of_21 : decode cX3_of 21 = .ok (.goto 6, 3) := by decide +kernel
theorem dX3_of_24 : decode cX3_of 24 = .ok (.aload_n 2, 1) := by decide +kernel
theorem dX3_of_25 : decode cX3_of 25 = .ok (.iload_n 3, 1) := by decide +kernel
theorem dX3_of_26 : decode cX3_of 26 = .ok (.iaload, 1) := by decide +kernel
theorem dX3_of_27 : decode cX3_of 27 = .ok (.ireturn, 1) := by decide +kernel
set_option maxRecDepth 20000 in
theorem ggX3_keyAt_X3_of : GoodIn wsX3_keyAt wsX3_of := goodIn_r _ [6, 7, 8, 9, 10, 5, 11, 12, 13, 14, 15, 16, 17, 18, 19, 20, 21, 22, 23, 24, 25, 26, 27, 28, 29, 30, 31, 32, 33, 34, 35, 36, 37, 38, 39, 40] (by decide +kernel) (by decide +kernel)
set_option maxRecDepth 20000 in
theorem gX3_keyAt_X3_of : GoodIn wsX3_keyAt (wsV RX3 117 RX3 yX3_of wsX3_of) := goodIn_app (goodIn_of _ (by decide +kernel)) ggX3_keyAt_X3_of
theorem dX3_keyAt_0 : decode cX3_keyAt 0 = .ok (.aload_n 0, 1) := by decide +kernel
theorem dX3_keyAt_1 : decode cX3_keyAt 1 = .ok (.iload_n 1, 1) := by decide +kernel
theorem dX3_keyAt_2 : decode cX3_keyAt 2 = .ok (.aload_n 0, 1) := by decide +kernel
theorem dX3_keyAt_3 : decode cX3_keyAt 3 = .ok (.getfield 13, 3) := by decide +kernel
theorem dX3_keyAt_6 : decode cX3_keyAt 6 = .ok (.invokevirtual 117, 3) := by decide +kernel
theorem dX3_keyAt_9 : decode cX3_keyAt 9 = .ok (.ireturn, 1) := by decide +kernel
set_option maxRecDepth 20000 in
theorem ggX3_valueAt_X3_of : GoodIn wsX3_valueAt wsX3_of := goodIn_r _ [6, 7, 8, 9, 10, 5, 11, 12, 13, 14, 15, 16, 17, 18, 19, 20, 21, 22, 23, 24, 25, 26, 27, 28, 29, 30, 31, 32, 33, 34, 35, 36, 37, 38, 39, 40] (by decide +kernel) (by decide +kernel)
set_option maxRecDepth 20000 in
theorem gX3_valueAt_X3_of : GoodIn wsX3_valueAt (wsV RX3 117 RX3 yX3_of wsX3_of) := goodIn_app (goodIn_of _ (by decide +kernel)) ggX3_valueAt_X3_of
theorem dX3_valueAt_0 : decode cX3_valueAt 0 = .ok (.aload_n 0, 1) := by decide +kernel
theorem dX3_valueAt_1 : decode cX3_valueAt 1 = .ok (.iload_n 1, 1) := by decide +kernel
theorem dX3_valueAt_2 : decode cX3_valueAt 2 = .ok (.aload_n 0, 1) := by decide +kernel
theorem dX3_valueAt_3 : decode cX3_valueAt 3 = .ok (.getfield 16, 3) := by decide +kernel
theorem dX3_valueAt_6 : decode cX3_valueAt 6 = .ok (.invokevirtual 117, 3) := by decide +kernel
theorem dX3_valueAt_9 : decode cX3_valueAt 9 = .ok (.ireturn, 1) := by decide +kernel
set_option maxRecDepth 20000 in
theorem ggX3_stormAt_X3_of : GoodIn wsX3_stormAt wsX3_of := goodIn_r _ [6, 7, 8, 9, 10, 5, 11, 12, 13, 14, 15, 16, 17, 18, 19, 20, 21, 22, 23, 24, 25, 26, 27, 28, 29, 30, 31, 32, 33, 34, 35, 36, 37, 38, 39, 40] (by decide +kernel) (by decide +kernel)
set_option maxRecDepth 20000 in
theorem gX3_stormAt_X3_of : GoodIn wsX3_stormAt (wsV RX3 117 RX3 yX3_of wsX3_of) := goodIn_app (goodIn_of _ (by decide +kernel)) ggX3_stormAt_X3_of
theorem dX3_stormAt_0 : decode cX3_stormAt 0 = .ok (.aload_n 0, 1) := by decide +kernel
theorem dX3_stormAt_1 : decode cX3_stormAt 1 = .ok (.iload_n 1, 1) := by decide +kernel
theorem dX3_stormAt_2 : decode cX3_stormAt 2 = .ok (.aload_n 0, 1) := by decide +kernel
theorem dX3_stormAt_3 : decode cX3_stormAt 3 = .ok (.getfield 19, 3) := by decide +kernel
theorem dX3_stormAt_6 : decode cX3_stormAt 6 = .ok (.invokevirtual 117, 3) := by decide +kernel
theorem dX3_stormAt_9 : decode cX3_stormAt 9 = .ok (.ireturn, 1) := by decide +kernel
theorem dX3_last_0 : decode cX3_last 0 = .ok (.aload_n 0, 1) := by decide +kernel
theorem dX3_last_1 : decode cX3_last 1 = .ok (.getfield 58, 3) := by decide +kernel
theorem dX3_last_4 : decode cX3_last 4 = .ok (.iconst 1, 1) := by decide +kernel
theorem dX3_last_5 : decode cX3_last 5 = .ok (.isub, 1) := by decide +kernel
theorem dX3_last_6 : decode cX3_last 6 = .ok (.istore_n 2, 1) := by decide +kernel
theorem dX3_last_7 : decode cX3_last 7 = .ok (.iload_n 2, 1) := by decide +kernel
theorem dX3_last_8 : decode cX3_last 8 = .ok (.ifCond .lt 19, 3) := by decide +kernel
theorem dX3_last_11 : decode cX3_last 11 = .ok (.aload_n 0, 1) := by decide +kernel
theorem dX3_last_12 : decode cX3_last 12 = .ok (.getfield 13, 3) := by decide +kernel
theorem dX3_last_15 : decode cX3_last 15 = .ok (.iload_n 2, 1) := by decide +kernel
theorem dX3_last_16 : decode cX3_last 16 = .ok (.iaload, 1) := by decide +kernel
theorem dX3_last_17 : decode cX3_last 17 = .ok (.iload_n 1, 1) := by decide +kernel
theorem dX3_last_18 : decode cX3_last 18 = .ok (.if_icmp .eq 9, 3) := by decide +kernel
theorem dX3_last_21 : decode cX3_last 21 = .ok (.iinc 2 (-1), 3) := by decide +kernel
theorem dX3_last_24 : decode cX3_last 24 = .ok (.goto (-17), 3) := by decide +kernel
theorem dX3_last_27 : decode cX3_last 27 = .ok (.iload_n 2, 1) := by decide +kernel
theorem dX3_last_28 : decode cX3_last 28 = .ok (.ireturn, 1) := by decide +kernel
set_option maxRecDepth 20000 in
theorem ggX3_latest_X3_last : GoodIn wsX3_latest wsX3_last := goodIn_r _ [6, 7, 8, 9, 10, 11, 12, 13, 14, 15, 16, 17, 18, 19, 20, 21, 22, 23, 24, 25, 26, 27] (by decide +kernel) (by decide +kernel)
set_option maxRecDepth 20000 in
theorem gX3_latest_X3_last : GoodIn wsX3_latest (wsV RX3 121 RX3 yX3_last wsX3_last) := goodIn_app (goodIn_of _ (by decide +kernel)) ggX3_latest_X3_last
theorem dX3_latest_0 : decode cX3_latest 0 = .ok (.aload_n 0, 1) := by decide +kernel
theorem dX3_latest_1 : decode cX3_latest 1 = .ok (.iload_n 1, 1) := by decide +kernel
theorem dX3_latest_2 : decode cX3_latest 2 = .ok (.invokevirtual 121, 3) := by decide +kernel
theorem dX3_latest_5 : decode cX3_latest 5 = .ok (.ifCond .ge 7, 3) := by decide +kernel
theorem dX3_latest_8 : decode cX3_latest 8 = .ok (.iconst (-1), 1) := by decide +kernel
theorem dX3_latest_9 : decode cX3_latest 9 = .ok (.goto 13, 3) := by decide +kernel
theorem dX3_latest_12 : decode cX3_latest 12 = .ok (.aload_n 0, 1) := by decide +kernel
theorem dX3_latest_13 : decode cX3_latest 13 = .ok (.getfield 9, 3) := by decide +kernel
theorem dX3_latest_16 : decode cX3_latest 16 = .ok (.aload_n 0, 1) := by decide +kernel
theorem dX3_latest_17 : decode cX3_latest 17 = .ok (.iload_n 1, 1) := by decide +kernel
theorem dX3_latest_18 : decode cX3_latest 18 = .ok (.invokevirtual 121, 3) := by decide +kernel
theorem dX3_latest_21 : decode cX3_latest 21 = .ok (.iaload, 1) := by decide +kernel
theorem dX3_latest_22 : decode cX3_latest 22 = .ok (.ireturn, 1) := by decide +kernel
set_option maxRecDepth 20000 in
theorem ggX3_worth_X3_last : GoodIn wsX3_worth wsX3_last := goodIn_r _ [6, 7, 8, 9, 10, 11, 12, 13, 14, 15, 16, 17, 18, 19, 20, 21, 22, 23, 24, 25, 26, 27] (by decide +kernel) (by decide +kernel)
set_option maxRecDepth 20000 in
theorem gX3_worth_X3_last : GoodIn wsX3_worth (wsV RX3 121 RX3 yX3_last wsX3_last) := goodIn_app (goodIn_of _ (by decide +kernel)) ggX3_worth_X3_last
theorem dX3_worth_0 : decode cX3_worth 0 = .ok (.aload_n 0, 1) := by decide +kernel
theorem dX3_worth_1 : decode cX3_worth 1 = .ok (.iload_n 1, 1) := by decide +kernel
theorem dX3_worth_2 : decode cX3_worth 2 = .ok (.invokevirtual 121, 3) := by decide +kernel
theorem dX3_worth_5 : decode cX3_worth 5 = .ok (.ifCond .ge 7, 3) := by decide +kernel
theorem dX3_worth_8 : decode cX3_worth 8 = .ok (.iconst 0, 1) := by decide +kernel
theorem dX3_worth_9 : decode cX3_worth 9 = .ok (.goto 13, 3) := by decide +kernel
theorem dX3_worth_12 : decode cX3_worth 12 = .ok (.aload_n 0, 1) := by decide +kernel
theorem dX3_worth_13 : decode cX3_worth 13 = .ok (.getfield 16, 3) := by decide +kernel
theorem dX3_worth_16 : decode cX3_worth 16 = .ok (.aload_n 0, 1) := by decide +kernel
theorem dX3_worth_17 : decode cX3_worth 17 = .ok (.iload_n 1, 1) := by decide +kernel
theorem dX3_worth_18 : decode cX3_worth 18 = .ok (.invokevirtual 121, 3) := by decide +kernel
theorem dX3_worth_21 : decode cX3_worth 21 = .ok (.iaload, 1) := by decide +kernel
theorem dX3_worth_22 : decode cX3_worth 22 = .ok (.ireturn, 1) := by decide +kernel
theorem dX3_count_0 : decode cX3_count 0 = .ok (.iconst 0, 1) := by decide +kernel
theorem dX3_count_1 : decode cX3_count 1 = .ok (.istore_n 2, 1) := by decide +kernel
theorem dX3_count_2 : decode cX3_count 2 = .ok (.iconst 0, 1) := by decide +kernel
theorem dX3_count_3 : decode cX3_count 3 = .ok (.istore_n 3, 1) := by decide +kernel
theorem dX3_count_4 : decode cX3_count 4 = .ok (.iload_n 3, 1) := by decide +kernel
theorem dX3_count_5 : decode cX3_count 5 = .ok (.aload_n 0, 1) := by decide +kernel
theorem dX3_count_6 : decode cX3_count 6 = .ok (.getfield 58, 3) := by decide +kernel
theorem dX3_count_9 : decode cX3_count 9 = .ok (.if_icmp .ge 27, 3) := by decide +kernel
theorem dX3_count_12 : decode cX3_count 12 = .ok (.iload_n 2, 1) := by decide +kernel
theorem dX3_count_13 : decode cX3_count 13 = .ok (.aload_n 0, 1) := by decide +kernel
theorem dX3_count_14 : decode cX3_count 14 = .ok (.getfield 13, 3) := by decide +kernel
theorem dX3_count_17 : decode cX3_count 17 = .ok (.iload_n 3, 1) := by decide +kernel
theorem dX3_count_18 : decode cX3_count 18 = .ok (.iaload, 1) := by decide +kernel
theorem dX3_count_19 : decode cX3_count 19 = .ok (.iload_n 1, 1) := by decide +kernel
theorem dX3_count_20 : decode cX3_count 20 = .ok (.if_icmp .ne 7, 3) := by decide +kernel
theorem dX3_count_23 : decode cX3_count 23 = .ok (.iconst 1, 1) := by decide +kernel
theorem dX3_count_24 : decode cX3_count 24 = .ok (.goto 4, 3) := by decide +kernel
theorem dX3_count_27 : decode cX3_count 27 = .ok (.iconst 0, 1) := by decide +kernel
theorem dX3_count_28 : decode cX3_count 28 = .ok (.iadd, 1) := by decide +kernel
theorem dX3_count_29 : decode cX3_count 29 = .ok (.istore_n 2, 1) := by decide +kernel
theorem dX3_count_30 : decode cX3_count 30 = .ok (.iinc 3 1, 3) := by decide +kernel
theorem dX3_count_33 : decode cX3_count 33 = .ok (.goto (-29), 3) := by decide +kernel
theorem dX3_count_36 : decode cX3_count 36 = .ok (.iload_n 2, 1) := by decide +kernel
theorem dX3_count_37 : decode cX3_count 37 = .ok (.ireturn, 1) := by decide +kernel
set_option maxRecDepth 20000 in
theorem ggX3_latestOf_X3_isKey : GoodIn wsX3_latestOf wsX3_isKey := goodIn_r _ [5, 6, 7, 4, 8] (by decide +kernel) (by decide +kernel)
set_option maxRecDepth 20000 in
theorem gX3_latestOf_X3_isKey : GoodIn wsX3_latestOf (va_wsS RX3 81 yX3_isKey wsX3_isKey) := goodIn_app (goodIn_of _ (by decide +kernel)) ggX3_latestOf_X3_isKey
set_option maxRecDepth 20000 in
theorem ggX3_latestOf_X3_latest : GoodIn wsX3_latestOf wsX3_latest := goodIn_r _ [12, 13, 14, 15, 16, 4, 17, 18, 19, 24, 25, 26, 27, 28, 29, 30, 31, 32, 33, 34, 35, 36, 37, 38, 39, 40, 41, 42] (by decide +kernel) (by decide +kernel)
set_option maxRecDepth 20000 in
theorem gX3_latestOf_X3_latest : GoodIn wsX3_latestOf (wsV RX3 124 RX3 yX3_latest wsX3_latest) := goodIn_app (goodIn_of _ (by decide +kernel)) ggX3_latestOf_X3_latest
set_option maxRecDepth 20000 in
theorem ggX3_latestOf_X3_fail : GoodIn wsX3_latestOf wsX3_fail := goodIn_r _ [23, 1, 24, 25, 26, 27, 28, 29, 30, 31, 32, 33, 34, 35, 36, 37, 38, 39, 40, 41, 42] (by decide +kernel) (by decide +kernel)
set_option maxRecDepth 20000 in
theorem gX3_latestOf_X3_fail : GoodIn wsX3_latestOf (wsV RX3 85 RX3 yX3_fail wsX3_fail) := goodIn_app (goodIn_of _ (by decide +kernel)) ggX3_latestOf_X3_fail
theorem dX3_latestOf_0 : decode cX3_latestOf 0 = .ok (.aload_n 0, 1) := by decide +kernel
theorem dX3_latestOf_1 : decode cX3_latestOf 1 = .ok (.iconst 0, 1) := by decide +kernel
theorem dX3_latestOf_2 : decode cX3_latestOf 2 = .ok (.putfield 44, 3) := by decide +kernel
theorem dX3_latestOf_5 : decode cX3_latestOf 5 = .ok (.iload_n 1, 1) := by decide +kernel
theorem dX3_latestOf_6 : decode cX3_latestOf 6 = .ok (.invokestatic 81, 3) := by decide +kernel
theorem dX3_latestOf_9 : decode cX3_latestOf 9 = .ok (.ifCond .eq 11, 3) := by decide +kernel
theorem dX3_latestOf_12 : decode cX3_latestOf 12 = .ok (.aload_n 0, 1) := by decide +kernel
theorem dX3_latestOf_13 : decode cX3_latestOf 13 = .ok (.iload_n 1, 1) := by decide +kernel
theorem dX3_latestOf_14 : decode cX3_latestOf 14 = .ok (.invokevirtual 124, 3) := by decide +kernel
theorem dX3_latestOf_17 : decode cX3_latestOf 17 = .ok (.goto 8, 3) := by decide +kernel
theorem dX3_latestOf_20 : decode cX3_latestOf 20 = .ok (.aload_n 0, 1) := by decide +kernel
theorem dX3_latestOf_21 : decode cX3_latestOf 21 = .ok (.iconst 1, 1) := by decide +kernel
theorem dX3_latestOf_22 : decode cX3_latestOf 22 = .ok (.invokevirtual 85, 3) := by decide +kernel
theorem dX3_latestOf_25 : decode cX3_latestOf 25 = .ok (.ireturn, 1) := by decide +kernel
set_option maxRecDepth 20000 in
theorem ggX3_valueOf_X3_isKey : GoodIn wsX3_valueOf wsX3_isKey := goodIn_r _ [5, 6, 7, 4, 8] (by decide +kernel) (by decide +kernel)
set_option maxRecDepth 20000 in
theorem gX3_valueOf_X3_isKey : GoodIn wsX3_valueOf (va_wsS RX3 81 yX3_isKey wsX3_isKey) := goodIn_app (goodIn_of _ (by decide +kernel)) ggX3_valueOf_X3_isKey
set_option maxRecDepth 20000 in
theorem ggX3_valueOf_X3_worth : GoodIn wsX3_valueOf wsX3_worth := goodIn_r _ [12, 13, 14, 15, 16, 4, 17, 18, 19, 24, 25, 26, 27, 28, 29, 30, 31, 32, 33, 34, 35, 36, 37, 38, 39, 40, 41, 42] (by decide +kernel) (by decide +kernel)
set_option maxRecDepth 20000 in
theorem gX3_valueOf_X3_worth : GoodIn wsX3_valueOf (wsV RX3 127 RX3 yX3_worth wsX3_worth) := goodIn_app (goodIn_of _ (by decide +kernel)) ggX3_valueOf_X3_worth
set_option maxRecDepth 20000 in
theorem ggX3_valueOf_X3_fail : GoodIn wsX3_valueOf wsX3_fail := goodIn_r _ [23, 1, 24, 25, 26, 27, 28, 29, 30, 31, 32, 33, 34, 35, 36, 37, 38, 39, 40, 41, 42] (by decide +kernel) (by decide +kernel)
set_option maxRecDepth 20000 in
theorem gX3_valueOf_X3_fail : GoodIn wsX3_valueOf (wsV RX3 85 RX3 yX3_fail wsX3_fail) := goodIn_app (goodIn_of _ (by decide +kernel)) ggX3_valueOf_X3_fail
theorem dX3_valueOf_0 : decode cX3_valueOf 0 = .ok (.aload_n 0, 1) := by decide +kernel
theorem dX3_valueOf_1 : decode cX3_valueOf 1 = .ok (.iconst 0, 1) := by decide +kernel
theorem dX3_valueOf_2 : decode cX3_valueOf 2 = .ok (.putfield 44, 3) := by decide +kernel
theorem dX3_valueOf_5 : decode cX3_valueOf 5 = .ok (.iload_n 1, 1) := by decide +kernel
theorem dX3_valueOf_6 : decode cX3_valueOf 6 = .ok (.invokestatic 81, 3) := by decide +kernel
theorem dX3_valueOf_9 : decode cX3_valueOf 9 = .ok (.ifCond .eq 11, 3) := by decide +kernel
theorem dX3_valueOf_12 : decode cX3_valueOf 12 = .ok (.aload_n 0, 1) := by decide +kernel
theorem dX3_valueOf_13 : decode cX3_valueOf 13 = .ok (.iload_n 1, 1) := by decide +kernel
theorem dX3_valueOf_14 : decode cX3_valueOf 14 = .ok (.invokevirtual 127, 3) := by decide +kernel
theorem dX3_valueOf_17 : decode cX3_valueOf 17 = .ok (.goto 8, 3) := by decide +kernel
theorem dX3_valueOf_20 : decode cX3_valueOf 20 = .ok (.aload_n 0, 1) := by decide +kernel
theorem dX3_valueOf_21 : decode cX3_valueOf 21 = .ok (.iconst 1, 1) := by decide +kernel
theorem dX3_valueOf_22 : decode cX3_valueOf 22 = .ok (.invokevirtual 85, 3) := by decide +kernel
theorem dX3_valueOf_25 : decode cX3_valueOf 25 = .ok (.ireturn, 1) := by decide +kernel
set_option maxRecDepth 20000 in
theorem ggX3_countOf_X3_isKey : GoodIn wsX3_countOf wsX3_isKey := goodIn_r _ [5, 6, 7, 4, 8] (by decide +kernel) (by decide +kernel)
set_option maxRecDepth 20000 in
theorem gX3_countOf_X3_isKey : GoodIn wsX3_countOf (va_wsS RX3 81 yX3_isKey wsX3_isKey) := goodIn_app (goodIn_of _ (by decide +kernel)) ggX3_countOf_X3_isKey
set_option maxRecDepth 20000 in
theorem ggX3_countOf_X3_count : GoodIn wsX3_countOf wsX3_count := goodIn_r _ [12, 13, 14, 19, 20, 21, 22, 23, 24, 25, 26, 27, 28, 29, 30, 31, 32, 33, 34, 35, 36, 37] (by decide +kernel) (by decide +kernel)
set_option maxRecDepth 20000 in
theorem gX3_countOf_X3_count : GoodIn wsX3_countOf (wsV RX3 130 RX3 yX3_count wsX3_count) := goodIn_app (goodIn_of _ (by decide +kernel)) ggX3_countOf_X3_count
set_option maxRecDepth 20000 in
theorem ggX3_countOf_X3_fail : GoodIn wsX3_countOf wsX3_fail := goodIn_r _ [18, 1, 19, 20, 21, 22, 23, 24, 25, 26, 27, 28, 29, 30, 31, 32, 33, 34, 35, 36, 37] (by decide +kernel) (by decide +kernel)
set_option maxRecDepth 20000 in
theorem gX3_countOf_X3_fail : GoodIn wsX3_countOf (wsV RX3 85 RX3 yX3_fail wsX3_fail) := goodIn_app (goodIn_of _ (by decide +kernel)) ggX3_countOf_X3_fail
theorem dX3_countOf_0 : decode cX3_countOf 0 = .ok (.aload_n 0, 1) := by decide +kernel
theorem dX3_countOf_1 : decode cX3_countOf 1 = .ok (.iconst 0, 1) := by decide +kernel
theorem dX3_countOf_2 : decode cX3_countOf 2 = .ok (.putfield 44, 3) := by decide +kernel
theorem dX3_countOf_5 : decode cX3_countOf 5 = .ok (.iload_n 1, 1) := by decide +kernel
theorem dX3_countOf_6 : decode cX3_countOf 6 = .ok (.invokestatic 81, 3) := by decide +kernel
theorem dX3_countOf_9 : decode cX3_countOf 9 = .ok (.ifCond .eq 11, 3) := by decide +kernel
theorem dX3_countOf_12 : decode cX3_countOf 12 = .ok (.aload_n 0, 1) := by decide +kernel
theorem dX3_countOf_13 : decode cX3_countOf 13 = .ok (.iload_n 1, 1) := by decide +kernel
theorem dX3_countOf_14 : decode cX3_countOf 14 = .ok (.invokevirtual 130, 3) := by decide +kernel
theorem dX3_countOf_17 : decode cX3_countOf 17 = .ok (.goto 8, 3) := by decide +kernel
theorem dX3_countOf_20 : decode cX3_countOf 20 = .ok (.aload_n 0, 1) := by decide +kernel
theorem dX3_countOf_21 : decode cX3_countOf 21 = .ok (.iconst 1, 1) := by decide +kernel
theorem dX3_countOf_22 : decode cX3_countOf 22 = .ok (.invokevirtual 85, 3) := by decide +kernel
theorem dX3_countOf_25 : decode cX3_countOf 25 = .ok (.ireturn, 1) := by decide +kernel
set_option maxRecDepth 20000 in
theorem ggX3_storms_X3_told : GoodIn wsX3_storms wsX3_told := goodIn_r _ [6, 7, 8, 9, 10, 11, 12, 13, 14, 15, 16, 17, 18, 19, 20, 21, 22, 23, 24, 25, 26] (by decide +kernel) (by decide +kernel)
set_option maxRecDepth 20000 in
theorem gX3_storms_X3_told : GoodIn wsX3_storms (wsV RX3 108 RX3 yX3_told wsX3_told) := goodIn_app (goodIn_of _ (by decide +kernel)) ggX3_storms_X3_told
theorem dX3_storms_0 : decode cX3_storms 0 = .ok (.aload_n 0, 1) := by decide +kernel
theorem dX3_storms_1 : decode cX3_storms 1 = .ok (.aload_n 0, 1) := by decide +kernel
theorem dX3_storms_2 : decode cX3_storms 2 = .ok (.getfield 55, 3) := by decide +kernel
theorem dX3_storms_5 : decode cX3_storms 5 = .ok (.invokevirtual 108, 3) := by decide +kernel
theorem dX3_storms_8 : decode cX3_storms 8 = .ok (.ireturn, 1) := by decide +kernel
theorem dX3_isStormy_0 : decode cX3_isStormy 0 = .ok (.aload_n 0, 1) := by decide +kernel
theorem dX3_isStormy_1 : decode cX3_isStormy 1 = .ok (.iconst 0, 1) := by decide +kernel
theorem dX3_isStormy_2 : decode cX3_isStormy 2 = .ok (.putfield 44, 3) := by decide +kernel
theorem dX3_isStormy_5 : decode cX3_isStormy 5 = .ok (.aload_n 0, 1) := by decide +kernel
theorem dX3_isStormy_6 : decode cX3_isStormy 6 = .ok (.getfield 71, 3) := by decide +kernel
theorem dX3_isStormy_9 : decode cX3_isStormy 9 = .ok (.ireturn, 1) := by decide +kernel
set_option maxRecDepth 20000 in
theorem ggX3_saidIn_X3_isStorm : GoodIn wsX3_saidIn wsX3_isStorm := goodIn_r _ [7, 8, 9, 10, 6, 11, 16, 17, 18, 19, 20, 21, 22, 23, 24, 25, 26, 27, 28, 29, 30, 31, 32, 33, 34] (by decide +kernel) (by decide +kernel)
set_option maxRecDepth 20000 in
theorem gX3_saidIn_X3_isStorm : GoodIn wsX3_saidIn (wsV RX3 93 RX3 yX3_isStorm wsX3_isStorm) := goodIn_app (goodIn_of _ (by decide +kernel)) ggX3_saidIn_X3_isStorm
set_option maxRecDepth 20000 in
theorem ggX3_saidIn_X3_fail : GoodIn wsX3_saidIn wsX3_fail := goodIn_r _ [15, 1, 16, 17, 18, 19, 20, 21, 22, 23, 24, 25, 26, 27, 28, 29, 30, 31, 32, 33, 34] (by decide +kernel) (by decide +kernel)
set_option maxRecDepth 20000 in
theorem gX3_saidIn_X3_fail : GoodIn wsX3_saidIn (wsV RX3 85 RX3 yX3_fail wsX3_fail) := goodIn_app (goodIn_of _ (by decide +kernel)) ggX3_saidIn_X3_fail
theorem dX3_saidIn_0 : decode cX3_saidIn 0 = .ok (.aload_n 0, 1) := by decide +kernel
theorem dX3_saidIn_1 : decode cX3_saidIn 1 = .ok (.iconst 0, 1) := by decide +kernel
theorem dX3_saidIn_2 : decode cX3_saidIn 2 = .ok (.putfield 44, 3) := by decide +kernel
theorem dX3_saidIn_5 : decode cX3_saidIn 5 = .ok (.aload_n 0, 1) := by decide +kernel
theorem dX3_saidIn_6 : decode cX3_saidIn 6 = .ok (.iload_n 1, 1) := by decide +kernel
theorem dX3_saidIn_7 : decode cX3_saidIn 7 = .ok (.invokevirtual 93, 3) := by decide +kernel
theorem dX3_saidIn_10 : decode cX3_saidIn 10 = .ok (.ifCond .eq 12, 3) := by decide +kernel
theorem dX3_saidIn_13 : decode cX3_saidIn 13 = .ok (.aload_n 0, 1) := by decide +kernel
theorem dX3_saidIn_14 : decode cX3_saidIn 14 = .ok (.getfield 26, 3) := by decide +kernel
theorem dX3_saidIn_17 : decode cX3_saidIn 17 = .ok (.iload_n 1, 1) := by decide +kernel
theorem dX3_saidIn_18 : decode cX3_saidIn 18 = .ok (.iaload, 1) := by decide +kernel
theorem dX3_saidIn_19 : decode cX3_saidIn 19 = .ok (.goto 8, 3) := by decide +kernel
theorem dX3_saidIn_22 : decode cX3_saidIn 22 = .ok (.aload_n 0, 1) := by decide +kernel
theorem dX3_saidIn_23 : decode cX3_saidIn 23 = .ok (.iconst 1, 1) := by decide +kernel
theorem dX3_saidIn_24 : decode cX3_saidIn 24 = .ok (.invokevirtual 85, 3) := by decide +kernel
theorem dX3_saidIn_27 : decode cX3_saidIn 27 = .ok (.ireturn, 1) := by decide +kernel
theorem dX3_kept_0 : decode cX3_kept 0 = .ok (.iconst 0, 1) := by decide +kernel
theorem dX3_kept_1 : decode cX3_kept 1 = .ok (.istore_n 2, 1) := by decide +kernel
theorem dX3_kept_2 : decode cX3_kept 2 = .ok (.iconst 0, 1) := by decide +kernel
theorem dX3_kept_3 : decode cX3_kept 3 = .ok (.istore_n 3, 1) := by decide +kernel
theorem dX3_kept_4 : decode cX3_kept 4 = .ok (.iload_n 3, 1) := by decide +kernel
theorem dX3_kept_5 : decode cX3_kept 5 = .ok (.aload_n 0, 1) := by decide +kernel
theorem dX3_kept_6 : decode cX3_kept 6 = .ok (.getfield 58, 3) := by decide +kernel
theorem dX3_kept_9 : decode cX3_kept 9 = .ok (.if_icmp .ge 27, 3) := by decide +kernel
theorem dX3_kept_12 : decode cX3_kept 12 = .ok (.iload_n 2, 1) := by decide +kernel
theorem dX3_kept_13 : decode cX3_kept 13 = .ok (.aload_n 0, 1) := by decide +kernel
theorem dX3_kept_14 : decode cX3_kept 14 = .ok (.getfield 19, 3) := by decide +kernel
theorem dX3_kept_17 : decode cX3_kept 17 = .ok (.iload_n 3, 1) := by decide +kernel
theorem dX3_kept_18 : decode cX3_kept 18 = .ok (.iaload, 1) := by decide +kernel
theorem dX3_kept_19 : decode cX3_kept 19 = .ok (.iload_n 1, 1) := by decide +kernel
theorem dX3_kept_20 : decode cX3_kept 20 = .ok (.if_icmp .ne 7, 3) := by decide +kernel
theorem dX3_kept_23 : decode cX3_kept 23 = .ok (.iconst 1, 1) := by decide +kernel
theorem dX3_kept_24 : decode cX3_kept 24 = .ok (.goto 4, 3) := by decide +kernel
theorem dX3_kept_27 : decode cX3_kept 27 = .ok (.iconst 0, 1) := by decide +kernel
theorem dX3_kept_28 : decode cX3_kept 28 = .ok (.iadd, 1) := by decide +kernel
theorem dX3_kept_29 : decode cX3_kept 29 = .ok (.istore_n 2, 1) := by decide +kernel
theorem dX3_kept_30 : decode cX3_kept 30 = .ok (.iinc 3 1, 3) := by decide +kernel
theorem dX3_kept_33 : decode cX3_kept 33 = .ok (.goto (-29), 3) := by decide +kernel
theorem dX3_kept_36 : decode cX3_kept 36 = .ok (.iload_n 2, 1) := by decide +kernel
theorem dX3_kept_37 : decode cX3_kept 37 = .ok (.ireturn, 1) := by decide +kernel
set_option maxRecDepth 20000 in
theorem ggX3_keptOf_X3_isStorm : GoodIn wsX3_keptOf wsX3_isStorm := goodIn_r _ [6, 7, 8, 9, 5, 10, 21, 22, 23, 24, 25, 26, 27, 28, 29, 30, 31, 32, 33, 34, 35, 36, 37, 38, 39] (by decide +kernel) (by decide +kernel)
set_option maxRecDepth 20000 in
theorem gX3_keptOf_X3_isStorm : GoodIn wsX3_keptOf (wsV RX3 93 RX3 yX3_isStorm wsX3_isStorm) := goodIn_app (goodIn_of _ (by decide +kernel)) ggX3_keptOf_X3_isStorm
set_option maxRecDepth 20000 in
theorem ggX3_keptOf_X3_kept : GoodIn wsX3_keptOf wsX3_kept := goodIn_r _ [14, 15, 16, 21, 22, 23, 24, 25, 26, 27, 28, 29, 30, 31, 32, 33, 34, 35, 36, 37, 38, 39] (by decide +kernel) (by decide +kernel)
set_option maxRecDepth 20000 in
theorem gX3_keptOf_X3_kept : GoodIn wsX3_keptOf (wsV RX3 133 RX3 yX3_kept wsX3_kept) := goodIn_app (goodIn_of _ (by decide +kernel)) ggX3_keptOf_X3_kept
set_option maxRecDepth 20000 in
theorem ggX3_keptOf_X3_fail : GoodIn wsX3_keptOf wsX3_fail := goodIn_r _ [20, 1, 21, 22, 23, 24, 25, 26, 27, 28, 29, 30, 31, 32, 33, 34, 35, 36, 37, 38, 39] (by decide +kernel) (by decide +kernel)
set_option maxRecDepth 20000 in
theorem gX3_keptOf_X3_fail : GoodIn wsX3_keptOf (wsV RX3 85 RX3 yX3_fail wsX3_fail) := goodIn_app (goodIn_of _ (by decide +kernel)) ggX3_keptOf_X3_fail
theorem dX3_keptOf_0 : decode cX3_keptOf 0 = .ok (.aload_n 0, 1) := by decide +kernel
theorem dX3_keptOf_1 : decode cX3_keptOf 1 = .ok (.iconst 0, 1) := by decide +kernel
theorem dX3_keptOf_2 : decode cX3_keptOf 2 = .ok (.putfield 44, 3) := by decide +kernel
theorem dX3_keptOf_5 : decode cX3_keptOf 5 = .ok (.aload_n 0, 1) := by decide +kernel
theorem dX3_keptOf_6 : decode cX3_keptOf 6 = .ok (.iload_n 1, 1) := by decide +kernel
theorem dX3_keptOf_7 : decode cX3_keptOf 7 = .ok (.invokevirtual 93, 3) := by decide +kernel
theorem dX3_keptOf_10 : decode cX3_keptOf 10 = .ok (.ifCond .eq 11, 3) := by decide +kernel
theorem dX3_keptOf_13 : decode cX3_keptOf 13 = .ok (.aload_n 0, 1) := by decide +kernel
theorem dX3_keptOf_14 : decode cX3_keptOf 14 = .ok (.iload_n 1, 1) := by decide +kernel
theorem dX3_keptOf_15 : decode cX3_keptOf 15 = .ok (.invokevirtual 133, 3) := by decide +kernel
theorem dX3_keptOf_18 : decode cX3_keptOf 18 = .ok (.goto 8, 3) := by decide +kernel
theorem dX3_keptOf_21 : decode cX3_keptOf 21 = .ok (.aload_n 0, 1) := by decide +kernel
theorem dX3_keptOf_22 : decode cX3_keptOf 22 = .ok (.iconst 1, 1) := by decide +kernel
theorem dX3_keptOf_23 : decode cX3_keptOf 23 = .ok (.invokevirtual 85, 3) := by decide +kernel
theorem dX3_keptOf_26 : decode cX3_keptOf 26 = .ok (.ireturn, 1) := by decide +kernel
set_option maxRecDepth 20000 in
theorem ggX3_ships_X3_told : GoodIn wsX3_ships wsX3_told := goodIn_r _ [6, 7, 8, 9, 10, 11, 12, 13, 14, 15, 16, 17, 18, 19, 20, 21, 22, 23, 24, 25, 26] (by decide +kernel) (by decide +kernel)
set_option maxRecDepth 20000 in
theorem gX3_ships_X3_told : GoodIn wsX3_ships (wsV RX3 108 RX3 yX3_told wsX3_told) := goodIn_app (goodIn_of _ (by decide +kernel)) ggX3_ships_X3_told
theorem dX3_ships_0 : decode cX3_ships 0 = .ok (.aload_n 0, 1) := by decide +kernel
theorem dX3_ships_1 : decode cX3_ships 1 = .ok (.aload_n 0, 1) := by decide +kernel
theorem dX3_ships_2 : decode cX3_ships 2 = .ok (.getfield 48, 3) := by decide +kernel
theorem dX3_ships_5 : decode cX3_ships 5 = .ok (.invokevirtual 108, 3) := by decide +kernel
theorem dX3_ships_8 : decode cX3_ships 8 = .ok (.ireturn, 1) := by decide +kernel
set_option maxRecDepth 20000 in
theorem ggX3_ship_X3_isShip : GoodIn wsX3_ship wsX3_isShip := goodIn_r _ [6, 7, 8, 9, 5, 10, 15, 16, 17, 18, 19, 20, 21, 22, 23, 24, 25, 26, 27, 28, 29, 30, 31, 32, 33] (by decide +kernel) (by decide +kernel)
set_option maxRecDepth 20000 in
theorem gX3_ship_X3_isShip : GoodIn wsX3_ship (wsV RX3 99 RX3 yX3_isShip wsX3_isShip) := goodIn_app (goodIn_of _ (by decide +kernel)) ggX3_ship_X3_isShip
set_option maxRecDepth 20000 in
theorem ggX3_ship_X3_fail : GoodIn wsX3_ship wsX3_fail := goodIn_r _ [14, 1, 15, 16, 17, 18, 19, 20, 21, 22, 23, 24, 25, 26, 27, 28, 29, 30, 31, 32, 33] (by decide +kernel) (by decide +kernel)
set_option maxRecDepth 20000 in
theorem gX3_ship_X3_fail : GoodIn wsX3_ship (wsV RX3 85 RX3 yX3_fail wsX3_fail) := goodIn_app (goodIn_of _ (by decide +kernel)) ggX3_ship_X3_fail
theorem dX3_ship_0 : decode cX3_ship 0 = .ok (.aload_n 0, 1) := by decide +kernel
theorem dX3_ship_1 : decode cX3_ship 1 = .ok (.iconst 0, 1) := by decide +kernel
theorem dX3_ship_2 : decode cX3_ship 2 = .ok (.putfield 44, 3) := by decide +kernel
theorem dX3_ship_5 : decode cX3_ship 5 = .ok (.aload_n 0, 1) := by decide +kernel
theorem dX3_ship_6 : decode cX3_ship 6 = .ok (.iload_n 1, 1) := by decide +kernel
theorem dX3_ship_7 : decode cX3_ship 7 = .ok (.invokevirtual 99, 3) := by decide +kernel
theorem dX3_ship_10 : decode cX3_ship 10 = .ok (.ifCond .eq 9, 3) := by decide +kernel
theorem dX3_ship_13 : decode cX3_ship 13 = .ok (.aload_n 2, 1) := by decide +kernel
theorem dX3_ship_14 : decode cX3_ship 14 = .ok (.iload_n 1, 1) := by decide +kernel
theorem dX3_ship_15 : decode cX3_ship 15 = .ok (.iaload, 1) := by decide +kernel
theorem dX3_ship_16 : decode cX3_ship 16 = .ok (.goto 8, 3) := by decide +kernel
theorem dX3_ship_19 : decode cX3_ship 19 = .ok (.aload_n 0, 1) := by decide +kernel
theorem dX3_ship_20 : decode cX3_ship 20 = .ok (.iconst 1, 1) := by decide +kernel
theorem dX3_ship_21 : decode cX3_ship 21 = .ok (.invokevirtual 85, 3) := by decide +kernel
theorem dX3_ship_24 : decode cX3_ship 24 = .ok (.ireturn, 1) := by decide +kernel
set_option maxRecDepth 20000 in
theorem ggX3_offsetOf_X3_ship : GoodIn wsX3_offsetOf wsX3_ship := goodIn_r _ [6, 7, 8, 9, 10, 5, 11, 12, 13, 14, 15, 16, 17, 18, 19, 20, 21, 22, 23, 24, 25, 26, 27, 28, 29, 30, 31, 32, 33, 34, 35, 36, 37, 38] (by decide +kernel) (by decide +kernel)
set_option maxRecDepth 20000 in
theorem gX3_offsetOf_X3_ship : GoodIn wsX3_offsetOf (wsV RX3 136 RX3 yX3_ship wsX3_ship) := goodIn_app (goodIn_of _ (by decide +kernel)) ggX3_offsetOf_X3_ship
theorem dX3_offsetOf_0 : decode cX3_offsetOf 0 = .ok (.aload_n 0, 1) := by decide +kernel
theorem dX3_offsetOf_1 : decode cX3_offsetOf 1 = .ok (.iload_n 1, 1) := by decide +kernel
theorem dX3_offsetOf_2 : decode cX3_offsetOf 2 = .ok (.aload_n 0, 1) := by decide +kernel
theorem dX3_offsetOf_3 : decode cX3_offsetOf 3 = .ok (.getfield 32, 3) := by decide +kernel
theorem dX3_offsetOf_6 : decode cX3_offsetOf 6 = .ok (.invokevirtual 136, 3) := by decide +kernel
theorem dX3_offsetOf_9 : decode cX3_offsetOf 9 = .ok (.ireturn, 1) := by decide +kernel
set_option maxRecDepth 20000 in
theorem ggX3_lagOf_X3_isShip : GoodIn wsX3_lagOf wsX3_isShip := goodIn_r _ [6, 7, 8, 9, 5, 10, 26, 27, 28, 29, 30, 31, 32, 33, 34, 35, 36, 37, 38, 39, 40, 41, 42, 43, 44] (by decide +kernel) (by decide +kernel)
set_option maxRecDepth 20000 in
theorem gX3_lagOf_X3_isShip : GoodIn wsX3_lagOf (wsV RX3 99 RX3 yX3_isShip wsX3_isShip) := goodIn_app (goodIn_of _ (by decide +kernel)) ggX3_lagOf_X3_isShip
set_option maxRecDepth 20000 in
theorem ggX3_lagOf_X3_lag : GoodIn wsX3_lagOf wsX3_lag := goodIn_r _ [14, 15, 16, 17, 18, 19, 5, 20, 21, 26, 27, 28, 29, 30, 31, 32, 33, 34, 35, 36, 37, 38, 39, 40, 41, 42, 43, 44] (by decide +kernel) (by decide +kernel)
set_option maxRecDepth 20000 in
theorem gX3_lagOf_X3_lag : GoodIn wsX3_lagOf (wsV RX3 139 RX3 yX3_lag wsX3_lag) := goodIn_app (goodIn_of _ (by decide +kernel)) ggX3_lagOf_X3_lag
set_option maxRecDepth 20000 in
theorem ggX3_lagOf_X3_fail : GoodIn wsX3_lagOf wsX3_fail := goodIn_r _ [25, 1, 26, 27, 28, 29, 30, 31, 32, 33, 34, 35, 36, 37, 38, 39, 40, 41, 42, 43, 44] (by decide +kernel) (by decide +kernel)
set_option maxRecDepth 20000 in
theorem gX3_lagOf_X3_fail : GoodIn wsX3_lagOf (wsV RX3 85 RX3 yX3_fail wsX3_fail) := goodIn_app (goodIn_of _ (by decide +kernel)) ggX3_lagOf_X3_fail
theorem dX3_lagOf_0 : decode cX3_lagOf 0 = .ok (.aload_n 0, 1) := by decide +kernel
theorem dX3_lagOf_1 : decode cX3_lagOf 1 = .ok (.iconst 0, 1) := by decide +kernel
theorem dX3_lagOf_2 : decode cX3_lagOf 2 = .ok (.putfield 44, 3) := by decide +kernel
theorem dX3_lagOf_5 : decode cX3_lagOf 5 = .ok (.aload_n 0, 1) := by decide +kernel
theorem dX3_lagOf_6 : decode cX3_lagOf 6 = .ok (.iload_n 1, 1) := by decide +kernel
theorem dX3_lagOf_7 : decode cX3_lagOf 7 = .ok (.invokevirtual 99, 3) := by decide +kernel
theorem dX3_lagOf_10 : decode cX3_lagOf 10 = .ok (.ifCond .eq 11, 3) := by decide +kernel
theorem dX3_lagOf_13 : decode cX3_lagOf 13 = .ok (.aload_n 0, 1) := by decide +kernel
theorem dX3_lagOf_14 : decode cX3_lagOf 14 = .ok (.iload_n 1, 1) := by decide +kernel
theorem dX3_lagOf_15 : decode cX3_lagOf 15 = .ok (.invokevirtual 139, 3) := by decide +kernel
theorem dX3_lagOf_18 : decode cX3_lagOf 18 = .ok (.goto 8, 3) := by decide +kernel
theorem dX3_lagOf_21 : decode cX3_lagOf 21 = .ok (.aload_n 0, 1) := by decide +kernel
theorem dX3_lagOf_22 : decode cX3_lagOf 22 = .ok (.iconst 1, 1) := by decide +kernel
theorem dX3_lagOf_23 : decode cX3_lagOf 23 = .ok (.invokevirtual 85, 3) := by decide +kernel
theorem dX3_lagOf_26 : decode cX3_lagOf 26 = .ok (.ireturn, 1) := by decide +kernel
set_option maxRecDepth 20000 in
theorem ggX3_heardBy_X3_ship : GoodIn wsX3_heardBy wsX3_ship := goodIn_r _ [6, 7, 8, 9, 10, 5, 11, 12, 13, 14, 15, 16, 17, 18, 19, 20, 21, 22, 23, 24, 25, 26, 27, 28, 29, 30, 31, 32, 33, 34, 35, 36, 37, 38] (by decide +kernel) (by decide +kernel)
set_option maxRecDepth 20000 in
theorem gX3_heardBy_X3_ship : GoodIn wsX3_heardBy (wsV RX3 136 RX3 yX3_ship wsX3_ship) := goodIn_app (goodIn_of _ (by decide +kernel)) ggX3_heardBy_X3_ship
theorem dX3_heardBy_0 : decode cX3_heardBy 0 = .ok (.aload_n 0, 1) := by decide +kernel
theorem dX3_heardBy_1 : decode cX3_heardBy 1 = .ok (.iload_n 1, 1) := by decide +kernel
theorem dX3_heardBy_2 : decode cX3_heardBy 2 = .ok (.aload_n 0, 1) := by decide +kernel
theorem dX3_heardBy_3 : decode cX3_heardBy 3 = .ok (.getfield 35, 3) := by decide +kernel
theorem dX3_heardBy_6 : decode cX3_heardBy 6 = .ok (.invokevirtual 136, 3) := by decide +kernel
theorem dX3_heardBy_9 : decode cX3_heardBy 9 = .ok (.ireturn, 1) := by decide +kernel
set_option maxRecDepth 20000 in
theorem ggX3_missedBy_X3_ship : GoodIn wsX3_missedBy wsX3_ship := goodIn_r _ [6, 7, 8, 9, 10, 5, 11, 12, 13, 14, 15, 16, 17, 18, 19, 20, 21, 22, 23, 24, 25, 26, 27, 28, 29, 30, 31, 32, 33, 34, 35, 36, 37, 38] (by decide +kernel) (by decide +kernel)
set_option maxRecDepth 20000 in
theorem gX3_missedBy_X3_ship : GoodIn wsX3_missedBy (wsV RX3 136 RX3 yX3_ship wsX3_ship) := goodIn_app (goodIn_of _ (by decide +kernel)) ggX3_missedBy_X3_ship
theorem dX3_missedBy_0 : decode cX3_missedBy 0 = .ok (.aload_n 0, 1) := by decide +kernel
theorem dX3_missedBy_1 : decode cX3_missedBy 1 = .ok (.iload_n 1, 1) := by decide +kernel
theorem dX3_missedBy_2 : decode cX3_missedBy 2 = .ok (.aload_n 0, 1) := by decide +kernel
theorem dX3_missedBy_3 : decode cX3_missedBy 3 = .ok (.getfield 38, 3) := by decide +kernel
theorem dX3_missedBy_6 : decode cX3_missedBy 6 = .ok (.invokevirtual 136, 3) := by decide +kernel
theorem dX3_missedBy_9 : decode cX3_missedBy 9 = .ok (.ireturn, 1) := by decide +kernel
set_option maxRecDepth 20000 in
theorem ggX3_knownBy_X3_isShip : GoodIn wsX3_knownBy wsX3_isShip := goodIn_r _ [7, 8, 9, 10, 6, 11, 19, 20, 21, 22, 23, 24, 25, 26, 27, 28, 29, 30, 31, 32, 33, 34, 35, 36, 37] (by decide +kernel) (by decide +kernel)
set_option maxRecDepth 20000 in
theorem gX3_knownBy_X3_isShip : GoodIn wsX3_knownBy (wsV RX3 99 RX3 yX3_isShip wsX3_isShip) := goodIn_app (goodIn_of _ (by decide +kernel)) ggX3_knownBy_X3_isShip
set_option maxRecDepth 20000 in
theorem ggX3_knownBy_X3_isKey : GoodIn wsX3_knownBy wsX3_isKey := goodIn_r _ [14, 9, 10, 6, 11] (by decide +kernel) (by decide +kernel)
set_option maxRecDepth 20000 in
theorem gX3_knownBy_X3_isKey : GoodIn wsX3_knownBy (va_wsS RX3 81 yX3_isKey wsX3_isKey) := goodIn_app (goodIn_of _ (by decide +kernel)) ggX3_knownBy_X3_isKey
set_option maxRecDepth 20000 in
theorem ggX3_knownBy_X3_fail : GoodIn wsX3_knownBy wsX3_fail := goodIn_r _ [18, 1, 19, 20, 21, 22, 23, 24, 25, 26, 27, 28, 29, 30, 31, 32, 33, 34, 35, 36, 37] (by decide +kernel) (by decide +kernel)
set_option maxRecDepth 20000 in
theorem gX3_knownBy_X3_fail : GoodIn wsX3_knownBy (wsV RX3 85 RX3 yX3_fail wsX3_fail) := goodIn_app (goodIn_of _ (by decide +kernel)) ggX3_knownBy_X3_fail
theorem dX3_knownBy_0 : decode cX3_knownBy 0 = .ok (.aload_n 0, 1) := by decide +kernel
theorem dX3_knownBy_1 : decode cX3_knownBy 1 = .ok (.iconst 0, 1) := by decide +kernel
theorem dX3_knownBy_2 : decode cX3_knownBy 2 = .ok (.putfield 44, 3) := by decide +kernel
theorem dX3_knownBy_5 : decode cX3_knownBy 5 = .ok (.aload_n 0, 1) := by decide +kernel
theorem dX3_knownBy_6 : decode cX3_knownBy 6 = .ok (.iload_n 1, 1) := by decide +kernel
theorem dX3_knownBy_7 : decode cX3_knownBy 7 = .ok (.invokevirtual 99, 3) := by decide +kernel
theorem dX3_knownBy_10 : decode cX3_knownBy 10 = .ok (.ifCond .eq 24, 3) := by decide +kernel
theorem dX3_knownBy_13 : decode cX3_knownBy 13 = .ok (.iload_n 2, 1) := by decide +kernel
theorem dX3_knownBy_14 : decode cX3_knownBy 14 = .ok (.invokestatic 81, 3) := by decide +kernel
theorem dX3_knownBy_17 : decode cX3_knownBy 17 = .ok (.ifCond .eq 17, 3) := by decide +kernel
theorem dX3_knownBy_20 : decode cX3_knownBy 20 = .ok (.aload_n 0, 1) := by decide +kernel
theorem dX3_knownBy_21 : decode cX3_knownBy 21 = .ok (.getfield 41, 3) := by decide +kernel
theorem dX3_knownBy_24 : decode cX3_knownBy 24 = .ok (.bipush 10, 2) := by decide +kernel
theorem dX3_knownBy_26 : decode cX3_knownBy 26 = .ok (.iload_n 1, 1) := by decide +kernel
theorem dX3_knownBy_27 : decode cX3_knownBy 27 = .ok (.imul, 1) := by decide +kernel
theorem dX3_knownBy_28 : decode cX3_knownBy 28 = .ok (.iload_n 2, 1) := by decide +kernel
theorem dX3_knownBy_29 : decode cX3_knownBy 29 = .ok (.iadd, 1) := by decide +kernel
theorem dX3_knownBy_30 : decode cX3_knownBy 30 = .ok (.iaload, 1) := by decide +kernel
theorem dX3_knownBy_31 : decode cX3_knownBy 31 = .ok (.goto 8, 3) := by decide +kernel
theorem dX3_knownBy_34 : decode cX3_knownBy 34 = .ok (.aload_n 0, 1) := by decide +kernel
theorem dX3_knownBy_35 : decode cX3_knownBy 35 = .ok (.iconst 1, 1) := by decide +kernel
theorem dX3_knownBy_36 : decode cX3_knownBy 36 = .ok (.invokevirtual 85, 3) := by decide +kernel
theorem dX3_knownBy_39 : decode cX3_knownBy 39 = .ok (.ireturn, 1) := by decide +kernel
set_option maxRecDepth 20000 in
theorem ggX3_errors_X3_from : GoodIn wsX3_errors wsX3_from := goodIn_r _ [11, 4, 12, 21, 22, 23, 24, 25, 26, 27, 28, 29, 30, 31, 32, 33, 34, 35, 36, 37, 38, 39] (by decide +kernel) (by decide +kernel)
set_option maxRecDepth 20000 in
theorem gX3_errors_X3_from : GoodIn wsX3_errors (wsV RX3 102 RX3 yX3_from wsX3_from) := goodIn_app (goodIn_of _ (by decide +kernel)) ggX3_errors_X3_from
set_option maxRecDepth 20000 in
theorem ggX3_errors_X3_worth : GoodIn wsX3_errors wsX3_worth := goodIn_r _ [16, 6, 17, 18, 19, 10, 20, 4, 5, 21, 22, 23, 24, 25, 26, 27, 28, 29, 30, 31, 32, 33, 34, 35, 36, 37, 38, 39] (by decide +kernel) (by decide +kernel)
set_option maxRecDepth 20000 in
theorem gX3_errors_X3_worth : GoodIn wsX3_errors (wsV RX3 127 RX3 yX3_worth wsX3_worth) := goodIn_app (goodIn_of _ (by decide +kernel)) ggX3_errors_X3_worth
theorem dX3_errors_0 : decode cX3_errors 0 = .ok (.bipush 10, 2) := by decide +kernel
theorem dX3_errors_2 : decode cX3_errors 2 = .ok (.newarray .int, 2) := by decide +kernel
theorem dX3_errors_4 : decode cX3_errors 4 = .ok (.astore_n 3, 1) := by decide +kernel
theorem dX3_errors_5 : decode cX3_errors 5 = .ok (.iconst 0, 1) := by decide +kernel
theorem dX3_errors_6 : decode cX3_errors 6 = .ok (.istore 4, 2) := by decide +kernel
theorem dX3_errors_8 : decode cX3_errors 8 = .ok (.iload 4, 2) := by decide +kernel
theorem dX3_errors_10 : decode cX3_errors 10 = .ok (.bipush 10, 2) := by decide +kernel
theorem dX3_errors_12 : decode cX3_errors 12 = .ok (.if_icmp .ge 25, 3) := by decide +kernel
theorem dX3_errors_15 : decode cX3_errors 15 = .ok (.aload_n 3, 1) := by decide +kernel
theorem dX3_errors_16 : decode cX3_errors 16 = .ok (.iload 4, 2) := by decide +kernel
theorem dX3_errors_18 : decode cX3_errors 18 = .ok (.aload_n 0, 1) := by decide +kernel
theorem dX3_errors_19 : decode cX3_errors 19 = .ok (.getfield 41, 3) := by decide +kernel
theorem dX3_errors_22 : decode cX3_errors 22 = .ok (.bipush 10, 2) := by decide +kernel
theorem dX3_errors_24 : decode cX3_errors 24 = .ok (.iload_n 1, 1) := by decide +kernel
theorem dX3_errors_25 : decode cX3_errors 25 = .ok (.imul, 1) := by decide +kernel
theorem dX3_errors_26 : decode cX3_errors 26 = .ok (.iload 4, 2) := by decide +kernel
theorem dX3_errors_28 : decode cX3_errors 28 = .ok (.iadd, 1) := by decide +kernel
theorem dX3_errors_29 : decode cX3_errors 29 = .ok (.iaload, 1) := by decide +kernel
theorem dX3_errors_30 : decode cX3_errors 30 = .ok (.iastore, 1) := by decide +kernel
theorem dX3_errors_31 : decode cX3_errors 31 = .ok (.iinc 4 1, 3) := by decide +kernel
theorem dX3_errors_34 : decode cX3_errors 34 = .ok (.goto (-26), 3) := by decide +kernel
theorem dX3_errors_37 : decode cX3_errors 37 = .ok (.aload_n 0, 1) := by decide +kernel
theorem dX3_errors_38 : decode cX3_errors 38 = .ok (.aload_n 0, 1) := by decide +kernel
theorem dX3_errors_39 : decode cX3_errors 39 = .ok (.getfield 32, 3) := by decide +kernel
theorem dX3_errors_42 : decode cX3_errors 42 = .ok (.iload_n 1, 1) := by decide +kernel
theorem dX3_errors_43 : decode cX3_errors 43 = .ok (.iaload, 1) := by decide +kernel
theorem dX3_errors_44 : decode cX3_errors 44 = .ok (.invokevirtual 102, 3) := by decide +kernel
theorem dX3_errors_47 : decode cX3_errors 47 = .ok (.istore 4, 2) := by decide +kernel
theorem dX3_errors_49 : decode cX3_errors 49 = .ok (.iload 4, 2) := by decide +kernel
theorem dX3_errors_51 : decode cX3_errors 51 = .ok (.istore 5, 2) := by decide +kernel
theorem dX3_errors_53 : decode cX3_errors 53 = .ok (.iload 5, 2) := by decide +kernel
theorem dX3_errors_55 : decode cX3_errors 55 = .ok (.aload_n 0, 1) := by decide +kernel
theorem dX3_errors_56 : decode cX3_errors 56 = .ok (.getfield 58, 3) := by decide +kernel
theorem dX3_errors_59 : decode cX3_errors 59 = .ok (.if_icmp .ge 34, 3) := by decide +kernel
theorem dX3_errors_62 : decode cX3_errors 62 = .ok (.iload 5, 2) := by decide +kernel
theorem dX3_errors_64 : decode cX3_errors 64 = .ok (.iload 4, 2) := by decide +kernel
theorem dX3_errors_66 : decode cX3_errors 66 = .ok (.iload_n 2, 1) := by decide +kernel
theorem dX3_errors_67 : decode cX3_errors 67 = .ok (.iadd, 1) := by decide +kernel
theorem dX3_errors_68 : decode cX3_errors 68 = .ok (.if_icmp .ge 25, 3) := by decide +kernel
theorem dX3_errors_71 : decode cX3_errors 71 = .ok (.aload_n 3, 1) := by decide +kernel
theorem dX3_errors_72 : decode cX3_errors 72 = .ok (.aload_n 0, 1) := by decide +kernel
theorem dX3_errors_73 : decode cX3_errors 73 = .ok (.getfield 13, 3) := by decide +kernel
theorem dX3_errors_76 : decode cX3_errors 76 = .ok (.iload 5, 2) := by decide +kernel
theorem dX3_errors_78 : decode cX3_errors 78 = .ok (.iaload, 1) := by decide +kernel
theorem dX3_errors_79 : decode cX3_errors 79 = .ok (.aload_n 0, 1) := by decide +kernel
theorem dX3_errors_80 : decode cX3_errors 80 = .ok (.getfield 16, 3) := by decide +kernel
theorem dX3_errors_83 : decode cX3_errors 83 = .ok (.iload 5, 2) := by decide +kernel
theorem dX3_errors_85 : decode cX3_errors 85 = .ok (.iaload, 1) := by decide +kernel
theorem dX3_errors_86 : decode cX3_errors 86 = .ok (.iastore, 1) := by decide +kernel
theorem dX3_errors_87 : decode cX3_errors 87 = .ok (.iinc 5 1, 3) := by decide +kernel
theorem dX3_errors_90 : decode cX3_errors 90 = .ok (.goto (-37), 3) := by decide +kernel
theorem dX3_errors_93 : decode cX3_errors 93 = .ok (.iconst 0, 1) := by decide +kernel
theorem dX3_errors_94 : decode cX3_errors 94 = .ok (.istore 5, 2) := by decide +kernel
theorem dX3_errors_96 : decode cX3_errors 96 = .ok (.iconst 0, 1) := by decide +kernel
theorem dX3_errors_97 : decode cX3_errors 97 = .ok (.istore 6, 2) := by decide +kernel
theorem dX3_errors_99 : decode cX3_errors 99 = .ok (.iload 6, 2) := by decide +kernel
theorem dX3_errors_101 : decode cX3_errors 101 = .ok (.bipush 10, 2) := by decide +kernel
theorem dX3_errors_103 : decode cX3_errors 103 = .ok (.if_icmp .ge 32, 3) := by decide +kernel
theorem dX3_errors_106 : decode cX3_errors 106 = .ok (.iload 5, 2) := by decide +kernel
theorem dX3_errors_108 : decode cX3_errors 108 = .ok (.aload_n 3, 1) := by decide +kernel
theorem dX3_errors_109 : decode cX3_errors 109 = .ok (.iload 6, 2) := by decide +kernel
theorem dX3_errors_111 : decode cX3_errors 111 = .ok (.iaload, 1) := by decide +kernel
theorem dX3_errors_112 : decode cX3_errors 112 = .ok (.aload_n 0, 1) := by decide +kernel
theorem dX3_errors_113 : decode cX3_errors 113 = .ok (.iload 6, 2) := by decide +kernel
theorem dX3_errors_115 : decode cX3_errors 115 = .ok (.invokevirtual 127, 3) := by decide +kernel
theorem dX3_errors_118 : decode cX3_errors 118 = .ok (.if_icmp .ne 7, 3) := by decide +kernel
theorem dX3_errors_121 : decode cX3_errors 121 = .ok (.iconst 0, 1) := by decide +kernel
theorem dX3_errors_122 : decode cX3_errors 122 = .ok (.goto 4, 3) := by decide +kernel
theorem dX3_errors_125 : decode cX3_errors 125 = .ok (.iconst 1, 1) := by decide +kernel
theorem dX3_errors_126 : decode cX3_errors 126 = .ok (.iadd, 1) := by decide +kernel
theorem dX3_errors_127 : decode cX3_errors 127 = .ok (.istore 5, 2) := by decide +kernel
theorem dX3_errors_129 : decode cX3_errors 129 = .ok (.iinc 6 1, 3) := by decide +kernel
theorem dX3_errors_132 : decode cX3_errors 132 = .ok (.goto (-33), 3) := by decide +kernel
theorem dX3_errors_135 : decode cX3_errors 135 = .ok (.iload 5, 2) := by decide +kernel
theorem dX3_errors_137 : decode cX3_errors 137 = .ok (.ireturn, 1) := by decide +kernel
set_option maxRecDepth 20000 in
theorem ggX3_errorsOf_X3_isShip : GoodIn wsX3_errorsOf wsX3_isShip := goodIn_r _ [6, 7, 8, 9, 5, 10, 38, 39, 40, 41, 42, 43, 44, 45, 46, 47, 48, 49, 50, 51, 52, 53, 54, 55, 56] (by decide +kernel) (by decide +kernel)
set_option maxRecDepth 20000 in
theorem gX3_errorsOf_X3_isShip : GoodIn wsX3_errorsOf (wsV RX3 99 RX3 yX3_isShip wsX3_isShip) := goodIn_app (goodIn_of _ (by decide +kernel)) ggX3_errorsOf_X3_isShip
set_option maxRecDepth 20000 in
theorem ggX3_errorsOf_X3_errors : GoodIn wsX3_errorsOf wsX3_errors := goodIn_r _ [14, 15, 16, 17, 18, 19, 20, 21, 22, 23, 5, 24, 25, 26, 27, 28, 29, 30, 31, 32, 33, 38, 39, 40, 41, 42, 43, 44, 45, 46, 47, 48, 49, 50, 51, 52, 53, 54, 55, 56] (by decide +kernel) (by decide +kernel)
set_option maxRecDepth 20000 in
theorem gX3_errorsOf_X3_errors : GoodIn wsX3_errorsOf (wsV RX3 142 RX3 yX3_errors wsX3_errors) := goodIn_app (goodIn_of _ (by decide +kernel)) ggX3_errorsOf_X3_errors
set_option maxRecDepth 20000 in
theorem ggX3_errorsOf_X3_fail : GoodIn wsX3_errorsOf wsX3_fail := goodIn_r _ [37, 1, 38, 39, 40, 41, 42, 43, 44, 45, 46, 47, 48, 49, 50, 51, 52, 53, 54, 55, 56] (by decide +kernel) (by decide +kernel)
set_option maxRecDepth 20000 in
theorem gX3_errorsOf_X3_fail : GoodIn wsX3_errorsOf (wsV RX3 85 RX3 yX3_fail wsX3_fail) := goodIn_app (goodIn_of _ (by decide +kernel)) ggX3_errorsOf_X3_fail
theorem dX3_errorsOf_0 : decode cX3_errorsOf 0 = .ok (.aload_n 0, 1) := by decide +kernel
theorem dX3_errorsOf_1 : decode cX3_errorsOf 1 = .ok (.iconst 0, 1) := by decide +kernel
theorem dX3_errorsOf_2 : decode cX3_errorsOf 2 = .ok (.putfield 44, 3) := by decide +kernel
theorem dX3_errorsOf_5 : decode cX3_errorsOf 5 = .ok (.aload_n 0, 1) := by decide +kernel
theorem dX3_errorsOf_6 : decode cX3_errorsOf 6 = .ok (.iload_n 1, 1) := by decide +kernel
theorem dX3_errorsOf_7 : decode cX3_errorsOf 7 = .ok (.invokevirtual 99, 3) := by decide +kernel
theorem dX3_errorsOf_10 : decode cX3_errorsOf 10 = .ok (.ifCond .eq 12, 3) := by decide +kernel
theorem dX3_errorsOf_13 : decode cX3_errorsOf 13 = .ok (.aload_n 0, 1) := by decide +kernel
theorem dX3_errorsOf_14 : decode cX3_errorsOf 14 = .ok (.iload_n 1, 1) := by decide +kernel
theorem dX3_errorsOf_15 : decode cX3_errorsOf 15 = .ok (.iconst 0, 1) := by decide +kernel
theorem dX3_errorsOf_16 : decode cX3_errorsOf 16 = .ok (.invokevirtual 142, 3) := by decide +kernel
theorem dX3_errorsOf_19 : decode cX3_errorsOf 19 = .ok (.goto 8, 3) := by decide +kernel
theorem dX3_errorsOf_22 : decode cX3_errorsOf 22 = .ok (.aload_n 0, 1) := by decide +kernel
theorem dX3_errorsOf_23 : decode cX3_errorsOf 23 = .ok (.iconst 1, 1) := by decide +kernel
theorem dX3_errorsOf_24 : decode cX3_errorsOf 24 = .ok (.invokevirtual 85, 3) := by decide +kernel
theorem dX3_errorsOf_27 : decode cX3_errorsOf 27 = .ok (.ireturn, 1) := by decide +kernel
set_option maxRecDepth 20000 in
theorem ggX3_behind_X3_lag : GoodIn wsX3_behind wsX3_lag := goodIn_r _ [6, 7, 8, 9, 10, 11, 5, 12, 13, 14, 15, 16, 17, 18, 19, 20, 21, 22, 23, 24, 25, 26, 27, 28, 29, 30, 31, 32] (by decide +kernel) (by decide +kernel)
set_option maxRecDepth 20000 in
theorem gX3_behind_X3_lag : GoodIn wsX3_behind (wsV RX3 139 RX3 yX3_lag wsX3_lag) := goodIn_app (goodIn_of _ (by decide +kernel)) ggX3_behind_X3_lag
theorem dX3_behind_0 : decode cX3_behind 0 = .ok (.iconst (-1), 1) := by decide +kernel
theorem dX3_behind_1 : decode cX3_behind 1 = .ok (.istore_n 1, 1) := by decide +kernel
theorem dX3_behind_2 : decode cX3_behind 2 = .ok (.iconst 0, 1) := by decide +kernel
theorem dX3_behind_3 : decode cX3_behind 3 = .ok (.istore_n 2, 1) := by decide +kernel
theorem dX3_behind_4 : decode cX3_behind 4 = .ok (.iload_n 2, 1) := by decide +kernel
theorem dX3_behind_5 : decode cX3_behind 5 = .ok (.aload_n 0, 1) := by decide +kernel
theorem dX3_behind_6 : decode cX3_behind 6 = .ok (.getfield 48, 3) := by decide +kernel
theorem dX3_behind_9 : decode cX3_behind 9 = .ok (.if_icmp .ge 29, 3) := by decide +kernel
theorem dX3_behind_12 : decode cX3_behind 12 = .ok (.iload_n 1, 1) := by decide +kernel
theorem dX3_behind_13 : decode cX3_behind 13 = .ok (.iconst (-1), 1) := by decide +kernel
theorem dX3_behind_14 : decode cX3_behind 14 = .ok (.if_icmp .eq 16, 3) := by decide +kernel
theorem dX3_behind_17 : decode cX3_behind 17 = .ok (.aload_n 0, 1) := by decide +kernel
theorem dX3_behind_18 : decode cX3_behind 18 = .ok (.iload_n 2, 1) := by decide +kernel
theorem dX3_behind_19 : decode cX3_behind 19 = .ok (.invokevirtual 139, 3) := by decide +kernel
theorem dX3_behind_22 : decode cX3_behind 22 = .ok (.aload_n 0, 1) := by decide +kernel
theorem dX3_behind_23 : decode cX3_behind 23 = .ok (.iload_n 1, 1) := by decide +kernel
theorem dX3_behind_24 : decode cX3_behind 24 = .ok (.invokevirtual 139, 3) := by decide +kernel
theorem dX3_behind_27 : decode cX3_behind 27 = .ok (.if_icmp .le 5, 3) := by decide +kernel
theorem dX3_behind_30 : decode cX3_behind 30 = .ok (.iload_n 2, 1) := by decide +kernel
theorem dX3_behind_31 : decode cX3_behind 31 = .ok (.istore_n 1, 1) := by decide +kernel
theorem dX3_behind_32 : decode cX3_behind 32 = .ok (.iinc 2 1, 3) := by decide +kernel
theorem dX3_behind_35 : decode cX3_behind 35 = .ok (.goto (-31), 3) := by decide +kernel
theorem dX3_behind_38 : decode cX3_behind 38 = .ok (.iload_n 1, 1) := by decide +kernel
theorem dX3_behind_39 : decode cX3_behind 39 = .ok (.ireturn, 1) := by decide +kernel
set_option maxRecDepth 20000 in
theorem ggX3_farthestBehind_X3_behind : GoodIn wsX3_farthestBehind wsX3_behind := goodIn_r _ [5, 6, 7, 8, 9, 4, 10, 11, 12, 13, 14, 15, 16, 17, 23, 24, 25, 26, 27, 28, 29, 30, 31, 32, 33, 34, 35, 36, 37, 38, 39, 40, 41] (by decide +kernel) (by decide +kernel)
set_option maxRecDepth 20000 in
theorem gX3_farthestBehind_X3_behind : GoodIn wsX3_farthestBehind (wsV RX3 145 RX3 yX3_behind wsX3_behind) := goodIn_app (goodIn_of _ (by decide +kernel)) ggX3_farthestBehind_X3_behind
set_option maxRecDepth 20000 in
theorem ggX3_farthestBehind_X3_told : GoodIn wsX3_farthestBehind wsX3_told := goodIn_r _ [21, 22, 23, 24, 25, 26, 27, 28, 29, 30, 31, 32, 33, 34, 35, 36, 37, 38, 39, 40, 41] (by decide +kernel) (by decide +kernel)
set_option maxRecDepth 20000 in
theorem gX3_farthestBehind_X3_told : GoodIn wsX3_farthestBehind (wsV RX3 108 RX3 yX3_told wsX3_told) := goodIn_app (goodIn_of _ (by decide +kernel)) ggX3_farthestBehind_X3_told
theorem dX3_farthestBehind_0 : decode cX3_farthestBehind 0 = .ok (.aload_n 0, 1) := by decide +kernel
theorem dX3_farthestBehind_1 : decode cX3_farthestBehind 1 = .ok (.aload_n 0, 1) := by decide +kernel
theorem dX3_farthestBehind_2 : decode cX3_farthestBehind 2 = .ok (.invokevirtual 145, 3) := by decide +kernel
theorem dX3_farthestBehind_5 : decode cX3_farthestBehind 5 = .ok (.invokevirtual 108, 3) := by decide +kernel
theorem dX3_farthestBehind_8 : decode cX3_farthestBehind 8 = .ok (.ireturn, 1) := by decide +kernel
set_option maxRecDepth 20000 in
theorem ggX3_until_X3_lag : GoodIn wsX3_until wsX3_lag := goodIn_r _ [7, 8, 9, 10, 11, 12, 6, 13, 14, 15, 16, 17, 18, 19, 20, 21, 22, 23, 24, 25, 26, 27, 28, 29, 30, 31, 32, 33] (by decide +kernel) (by decide +kernel)
set_option maxRecDepth 20000 in
theorem gX3_until_X3_lag : GoodIn wsX3_until (wsV RX3 139 RX3 yX3_lag wsX3_lag) := goodIn_app (goodIn_of _ (by decide +kernel)) ggX3_until_X3_lag
theorem dX3_until_0 : decode cX3_until 0 = .ok (.aload_n 0, 1) := by decide +kernel
theorem dX3_until_1 : decode cX3_until 1 = .ok (.iload_n 1, 1) := by decide +kernel
theorem dX3_until_2 : decode cX3_until 2 = .ok (.invokevirtual 139, 3) := by decide +kernel
theorem dX3_until_5 : decode cX3_until 5 = .ok (.istore_n 2, 1) := by decide +kernel
theorem dX3_until_6 : decode cX3_until 6 = .ok (.iload_n 2, 1) := by decide +kernel
theorem dX3_until_7 : decode cX3_until 7 = .ok (.ifCond .le 14, 3) := by decide +kernel
theorem dX3_until_10 : decode cX3_until 10 = .ok (.aload_n 0, 1) := by decide +kernel
theorem dX3_until_11 : decode cX3_until 11 = .ok (.getfield 71, 3) := by decide +kernel
theorem dX3_until_14 : decode cX3_until 14 = .ok (.ifCond .eq 7, 3) := by decide +kernel
theorem dX3_until_17 : decode cX3_until 17 = .ok (.iconst (-1), 1) := by decide +kernel
theorem dX3_until_18 : decode cX3_until 18 = .ok (.goto 20, 3) := by decide +kernel
theorem dX3_until_21 : decode cX3_until 21 = .ok (.iload_n 2, 1) := by decide +kernel
theorem dX3_until_22 : decode cX3_until 22 = .ok (.aload_n 0, 1) := by decide +kernel
theorem dX3_until_23 : decode cX3_until 23 = .ok (.getfield 29, 3) := by decide +kernel
theorem dX3_until_26 : decode cX3_until 26 = .ok (.iload_n 1, 1) := by decide +kernel
theorem dX3_until_27 : decode cX3_until 27 = .ok (.iaload, 1) := by decide +kernel
theorem dX3_until_28 : decode cX3_until 28 = .ok (.iadd, 1) := by decide +kernel
theorem dX3_until_29 : decode cX3_until 29 = .ok (.iconst 1, 1) := by decide +kernel
theorem dX3_until_30 : decode cX3_until 30 = .ok (.isub, 1) := by decide +kernel
theorem dX3_until_31 : decode cX3_until 31 = .ok (.aload_n 0, 1) := by decide +kernel
theorem dX3_until_32 : decode cX3_until 32 = .ok (.getfield 29, 3) := by decide +kernel
theorem dX3_until_35 : decode cX3_until 35 = .ok (.iload_n 1, 1) := by decide +kernel
theorem dX3_until_36 : decode cX3_until 36 = .ok (.iaload, 1) := by decide +kernel
theorem dX3_until_37 : decode cX3_until 37 = .ok (.idiv, 1) := by decide +kernel
theorem dX3_until_38 : decode cX3_until 38 = .ok (.ireturn, 1) := by decide +kernel
set_option maxRecDepth 20000 in
theorem ggX3_hoursUntilCaughtUp_X3_isShip : GoodIn wsX3_hoursUntilCaughtUp wsX3_isShip := goodIn_r _ [6, 7, 8, 9, 5, 10, 32, 33, 34, 35, 36, 37, 38, 39, 40, 41, 42, 43, 44, 45, 46, 47, 48, 49, 50] (by decide +kernel) (by decide +kernel)
set_option maxRecDepth 20000 in
theorem gX3_hoursUntilCaughtUp_X3_isShip : GoodIn wsX3_hoursUntilCaughtUp (wsV RX3 99 RX3 yX3_isShip wsX3_isShip) := goodIn_app (goodIn_of _ (by decide +kernel)) ggX3_hoursUntilCaughtUp_X3_isShip
set_option maxRecDepth 20000 in
theorem ggX3_hoursUntilCaughtUp_X3_until : GoodIn wsX3_hoursUntilCaughtUp wsX3_until := goodIn_r _ [14, 15, 16, 17, 18, 19, 5, 20, 21, 22, 23, 24, 25, 26, 27, 32, 33, 34, 35, 36, 37, 38, 39, 40, 41, 42, 43, 44, 45, 46, 47, 48, 49, 50] (by decide +kernel) (by decide +kernel)
set_option maxRecDepth 20000 in
theorem gX3_hoursUntilCaughtUp_X3_until : GoodIn wsX3_hoursUntilCaughtUp (wsV RX3 148 RX3 yX3_until wsX3_until) := goodIn_app (goodIn_of _ (by decide +kernel)) ggX3_hoursUntilCaughtUp_X3_until
set_option maxRecDepth 20000 in
theorem ggX3_hoursUntilCaughtUp_X3_fail : GoodIn wsX3_hoursUntilCaughtUp wsX3_fail := goodIn_r _ [31, 1, 32, 33, 34, 35, 36, 37, 38, 39, 40, 41, 42, 43, 44, 45, 46, 47, 48, 49, 50] (by decide +kernel) (by decide +kernel)
set_option maxRecDepth 20000 in
theorem gX3_hoursUntilCaughtUp_X3_fail : GoodIn wsX3_hoursUntilCaughtUp (wsV RX3 85 RX3 yX3_fail wsX3_fail) := goodIn_app (goodIn_of _ (by decide +kernel)) ggX3_hoursUntilCaughtUp_X3_fail
theorem dX3_hoursUntilCaughtUp_0 : decode cX3_hoursUntilCaughtUp 0 = .ok (.aload_n 0, 1) := by decide +kernel
theorem dX3_hoursUntilCaughtUp_1 : decode cX3_hoursUntilCaughtUp 1 = .ok (.iconst 0, 1) := by decide +kernel
theorem dX3_hoursUntilCaughtUp_2 : decode cX3_hoursUntilCaughtUp 2 = .ok (.putfield 44, 3) := by decide +kernel
theorem dX3_hoursUntilCaughtUp_5 : decode cX3_hoursUntilCaughtUp 5 = .ok (.aload_n 0, 1) := by decide +kernel
theorem dX3_hoursUntilCaughtUp_6 : decode cX3_hoursUntilCaughtUp 6 = .ok (.iload_n 1, 1) := by decide +kernel
theorem dX3_hoursUntilCaughtUp_7 : decode cX3_hoursUntilCaughtUp 7 = .ok (.invokevirtual 99, 3) := by decide +kernel
theorem dX3_hoursUntilCaughtUp_10 : decode cX3_hoursUntilCaughtUp 10 = .ok (.ifCond .eq 11, 3) := by decide +kernel
theorem dX3_hoursUntilCaughtUp_13 : decode cX3_hoursUntilCaughtUp 13 = .ok (.aload_n 0, 1) := by decide +kernel
theorem dX3_hoursUntilCaughtUp_14 : decode cX3_hoursUntilCaughtUp 14 = .ok (.iload_n 1, 1) := by decide +kernel
theorem dX3_hoursUntilCaughtUp_15 : decode cX3_hoursUntilCaughtUp 15 = .ok (.invokevirtual 148, 3) := by decide +kernel
theorem dX3_hoursUntilCaughtUp_18 : decode cX3_hoursUntilCaughtUp 18 = .ok (.goto 8, 3) := by decide +kernel
theorem dX3_hoursUntilCaughtUp_21 : decode cX3_hoursUntilCaughtUp 21 = .ok (.aload_n 0, 1) := by decide +kernel
theorem dX3_hoursUntilCaughtUp_22 : decode cX3_hoursUntilCaughtUp 22 = .ok (.iconst 1, 1) := by decide +kernel
theorem dX3_hoursUntilCaughtUp_23 : decode cX3_hoursUntilCaughtUp 23 = .ok (.invokevirtual 85, 3) := by decide +kernel
theorem dX3_hoursUntilCaughtUp_26 : decode cX3_hoursUntilCaughtUp 26 = .ok (.ireturn, 1) := by decide +kernel
set_option maxRecDepth 20000 in
theorem ggX3_errorsIn_X3_isShip : GoodIn wsX3_errorsIn wsX3_isShip := goodIn_r _ [8, 9, 10, 11, 7, 12, 40, 41, 42, 43, 44, 45, 46, 47, 48, 49, 50, 51, 52, 53, 54, 55, 56, 57, 58] (by decide +kernel) (by decide +kernel)
set_option maxRecDepth 20000 in
theorem gX3_errorsIn_X3_isShip : GoodIn wsX3_errorsIn (wsV RX3 99 RX3 yX3_isShip wsX3_isShip) := goodIn_app (goodIn_of _ (by decide +kernel)) ggX3_errorsIn_X3_isShip
set_option maxRecDepth 20000 in
theorem ggX3_errorsIn_X3_fail : GoodIn wsX3_errorsIn wsX3_fail := goodIn_r _ [16, 1, 40, 41, 42, 43, 44, 45, 46, 47, 48, 49, 50, 51, 52, 53, 54, 55, 56, 57, 58] (by decide +kernel) (by decide +kernel)
set_option maxRecDepth 20000 in
theorem gX3_errorsIn_X3_fail : GoodIn wsX3_errorsIn (wsV RX3 85 RX3 yX3_fail wsX3_fail) := goodIn_app (goodIn_of _ (by decide +kernel)) ggX3_errorsIn_X3_fail
set_option maxRecDepth 20000 in
theorem ggX3_errorsIn_X3_isIn : GoodIn wsX3_errorsIn wsX3_isIn := goodIn_r _ [12] (by decide +kernel) (by decide +kernel)
set_option maxRecDepth 20000 in
theorem gX3_errorsIn_X3_isIn : GoodIn wsX3_errorsIn (va_wsS RX3 51 yX3_isIn wsX3_isIn) := goodIn_app (goodIn_of _ (by decide +kernel)) ggX3_errorsIn_X3_isIn
set_option maxRecDepth 20000 in
theorem ggX3_errorsIn_X3_errors : GoodIn wsX3_errorsIn wsX3_errors := goodIn_r _ [20, 21, 22, 23, 24, 25, 26, 27, 28, 29, 7, 30, 31, 32, 33, 34, 35, 36, 37, 38, 39, 40, 41, 42, 43, 44, 45, 46, 47, 48, 49, 50, 51, 52, 53, 54, 55, 56, 57, 58] (by decide +kernel) (by decide +kernel)
set_option maxRecDepth 20000 in
theorem gX3_errorsIn_X3_errors : GoodIn wsX3_errorsIn (wsV RX3 142 RX3 yX3_errors wsX3_errors) := goodIn_app (goodIn_of _ (by decide +kernel)) ggX3_errorsIn_X3_errors
theorem dX3_errorsIn_0 : decode cX3_errorsIn 0 = .ok (.aload_n 0, 1) := by decide +kernel
theorem dX3_errorsIn_1 : decode cX3_errorsIn 1 = .ok (.iconst 0, 1) := by decide +kernel
theorem dX3_errorsIn_2 : decode cX3_errorsIn 2 = .ok (.putfield 44, 3) := by decide +kernel
theorem dX3_errorsIn_5 : decode cX3_errorsIn 5 = .ok (.aload_n 0, 1) := by decide +kernel
theorem dX3_errorsIn_6 : decode cX3_errorsIn 6 = .ok (.iload_n 1, 1) := by decide +kernel
theorem dX3_errorsIn_7 : decode cX3_errorsIn 7 = .ok (.invokevirtual 99, 3) := by decide +kernel
theorem dX3_errorsIn_10 : decode cX3_errorsIn 10 = .ok (.ifCond .ne 9, 3) := by decide +kernel
theorem dX3_errorsIn_13 : decode cX3_errorsIn 13 = .ok (.aload_n 0, 1) := by decide +kernel
theorem dX3_errorsIn_14 : decode cX3_errorsIn 14 = .ok (.iconst 1, 1) := by decide +kernel
theorem dX3_errorsIn_15 : decode cX3_errorsIn 15 = .ok (.invokevirtual 85, 3) := by decide +kernel
theorem dX3_errorsIn_18 : decode cX3_errorsIn 18 = .ok (.ireturn, 1) := by decide +kernel
theorem dX3_errorsIn_19 : decode cX3_errorsIn 19 = .ok (.iload_n 2, 1) := by decide +kernel
theorem dX3_errorsIn_20 : decode cX3_errorsIn 20 = .ok (.iconst 1, 1) := by decide +kernel
theorem dX3_errorsIn_21 : decode cX3_errorsIn 21 = .ok (.bipush 60, 2) := by decide +kernel
theorem dX3_errorsIn_23 : decode cX3_errorsIn 23 = .ok (.invokestatic 51, 3) := by decide +kernel
theorem dX3_errorsIn_26 : decode cX3_errorsIn 26 = .ok (.ifCond .eq 30, 3) := by decide +kernel
theorem dX3_errorsIn_29 : decode cX3_errorsIn 29 = .ok (.aload_n 0, 1) := by decide +kernel
theorem dX3_errorsIn_30 : decode cX3_errorsIn 30 = .ok (.iload_n 1, 1) := by decide +kernel
theorem dX3_errorsIn_31 : decode cX3_errorsIn 31 = .ok (.aload_n 0, 1) := by decide +kernel
theorem dX3_errorsIn_32 : decode cX3_errorsIn 32 = .ok (.getfield 71, 3) := by decide +kernel
theorem dX3_errorsIn_35 : decode cX3_errorsIn 35 = .ok (.ifCond .eq 7, 3) := by decide +kernel
theorem dX3_errorsIn_38 : decode cX3_errorsIn 38 = .ok (.iconst 0, 1) := by decide +kernel
theorem dX3_errorsIn_39 : decode cX3_errorsIn 39 = .ok (.goto 11, 3) := by decide +kernel
theorem dX3_errorsIn_42 : decode cX3_errorsIn 42 = .ok (.iload_n 2, 1) := by decide +kernel
theorem dX3_errorsIn_43 : decode cX3_errorsIn 43 = .ok (.aload_n 0, 1) := by decide +kernel
theorem dX3_errorsIn_44 : decode cX3_errorsIn 44 = .ok (.getfield 29, 3) := by decide +kernel
theorem dX3_errorsIn_47 : decode cX3_errorsIn 47 = .ok (.iload_n 1, 1) := by decide +kernel
theorem dX3_errorsIn_48 : decode cX3_errorsIn 48 = .ok (.iaload, 1) := by decide +kernel
theorem dX3_errorsIn_49 : decode cX3_errorsIn 49 = .ok (.imul, 1) := by decide +kernel
theorem dX3_errorsIn_50 : decode cX3_errorsIn 50 = .ok (.invokevirtual 142, 3) := by decide +kernel
theorem dX3_errorsIn_53 : decode cX3_errorsIn 53 = .ok (.goto 8, 3) := by decide +kernel
theorem dX3_errorsIn_56 : decode cX3_errorsIn 56 = .ok (.aload_n 0, 1) := by decide +kernel
theorem dX3_errorsIn_57 : decode cX3_errorsIn 57 = .ok (.iconst 2, 1) := by decide +kernel
theorem dX3_errorsIn_58 : decode cX3_errorsIn 58 = .ok (.invokevirtual 85, 3) := by decide +kernel
theorem dX3_errorsIn_61 : decode cX3_errorsIn 61 = .ok (.ireturn, 1) := by decide +kernel
set_option maxRecDepth 20000 in
theorem ggX3_paceWanted_X3_isShip : GoodIn wsX3_paceWanted wsX3_isShip := goodIn_r _ [11, 12, 13, 14, 10, 15, 31, 32, 33, 34, 35, 36, 37, 38, 39, 40, 41, 42, 43, 44, 45, 46, 47, 48, 49] (by decide +kernel) (by decide +kernel)
set_option maxRecDepth 20000 in
theorem gX3_paceWanted_X3_isShip : GoodIn wsX3_paceWanted (wsV RX3 99 RX3 yX3_isShip wsX3_isShip) := goodIn_app (goodIn_of _ (by decide +kernel)) ggX3_paceWanted_X3_isShip
set_option maxRecDepth 20000 in
theorem ggX3_paceWanted_X3_fail : GoodIn wsX3_paceWanted wsX3_fail := goodIn_r _ [19, 1, 31, 32, 33, 34, 35, 36, 37, 38, 39, 40, 41, 42, 43, 44, 45, 46, 47, 48, 49] (by decide +kernel) (by decide +kernel)
set_option maxRecDepth 20000 in
theorem gX3_paceWanted_X3_fail : GoodIn wsX3_paceWanted (wsV RX3 85 RX3 yX3_fail wsX3_fail) := goodIn_app (goodIn_of _ (by decide +kernel)) ggX3_paceWanted_X3_fail
set_option maxRecDepth 20000 in
theorem ggX3_paceWanted_X3_isIn : GoodIn wsX3_paceWanted wsX3_isIn := goodIn_r _ [15] (by decide +kernel) (by decide +kernel)
set_option maxRecDepth 20000 in
theorem gX3_paceWanted_X3_isIn : GoodIn wsX3_paceWanted (va_wsS RX3 51 yX3_isIn wsX3_isIn) := goodIn_app (goodIn_of _ (by decide +kernel)) ggX3_paceWanted_X3_isIn
set_option maxRecDepth 20000 in
theorem ggX3_paceWanted_X3_lag : GoodIn wsX3_paceWanted wsX3_lag := goodIn_r _ [23, 24, 25, 26, 27, 28, 10, 29, 30, 31, 32, 33, 34, 35, 36, 37, 38, 39, 40, 41, 42, 43, 44, 45, 46, 47, 48, 49] (by decide +kernel) (by decide +kernel)
set_option maxRecDepth 20000 in
theorem gX3_paceWanted_X3_lag : GoodIn wsX3_paceWanted (wsV RX3 139 RX3 yX3_lag wsX3_lag) := goodIn_app (goodIn_of _ (by decide +kernel)) ggX3_paceWanted_X3_lag
theorem dX3_paceWanted_0 : decode cX3_paceWanted 0 = .ok (.aload_n 0, 1) := by decide +kernel
theorem dX3_paceWanted_1 : decode cX3_paceWanted 1 = .ok (.iconst 0, 1) := by decide +kernel
theorem dX3_paceWanted_2 : decode cX3_paceWanted 2 = .ok (.putfield 44, 3) := by decide +kernel
theorem dX3_paceWanted_5 : decode cX3_paceWanted 5 = .ok (.aload_n 0, 1) := by decide +kernel
theorem dX3_paceWanted_6 : decode cX3_paceWanted 6 = .ok (.iload_n 1, 1) := by decide +kernel
theorem dX3_paceWanted_7 : decode cX3_paceWanted 7 = .ok (.invokevirtual 99, 3) := by decide +kernel
theorem dX3_paceWanted_10 : decode cX3_paceWanted 10 = .ok (.ifCond .ne 9, 3) := by decide +kernel
theorem dX3_paceWanted_13 : decode cX3_paceWanted 13 = .ok (.aload_n 0, 1) := by decide +kernel
theorem dX3_paceWanted_14 : decode cX3_paceWanted 14 = .ok (.iconst 1, 1) := by decide +kernel
theorem dX3_paceWanted_15 : decode cX3_paceWanted 15 = .ok (.invokevirtual 85, 3) := by decide +kernel
theorem dX3_paceWanted_18 : decode cX3_paceWanted 18 = .ok (.ireturn, 1) := by decide +kernel
theorem dX3_paceWanted_19 : decode cX3_paceWanted 19 = .ok (.iload_n 2, 1) := by decide +kernel
theorem dX3_paceWanted_20 : decode cX3_paceWanted 20 = .ok (.iconst 1, 1) := by decide +kernel
theorem dX3_paceWanted_21 : decode cX3_paceWanted 21 = .ok (.bipush 60, 2) := by decide +kernel
theorem dX3_paceWanted_23 : decode cX3_paceWanted 23 = .ok (.invokestatic 51, 3) := by decide +kernel
theorem dX3_paceWanted_26 : decode cX3_paceWanted 26 = .ok (.ifCond .ne 9, 3) := by decide +kernel
theorem dX3_paceWanted_29 : decode cX3_paceWanted 29 = .ok (.aload_n 0, 1) := by decide +kernel
theorem dX3_paceWanted_30 : decode cX3_paceWanted 30 = .ok (.iconst 2, 1) := by decide +kernel
theorem dX3_paceWanted_31 : decode cX3_paceWanted 31 = .ok (.invokevirtual 85, 3) := by decide +kernel
theorem dX3_paceWanted_34 : decode cX3_paceWanted 34 = .ok (.ireturn, 1) := by decide +kernel
theorem dX3_paceWanted_35 : decode cX3_paceWanted 35 = .ok (.aload_n 0, 1) := by decide +kernel
theorem dX3_paceWanted_36 : decode cX3_paceWanted 36 = .ok (.iload_n 1, 1) := by decide +kernel
theorem dX3_paceWanted_37 : decode cX3_paceWanted 37 = .ok (.invokevirtual 139, 3) := by decide +kernel
theorem dX3_paceWanted_40 : decode cX3_paceWanted 40 = .ok (.istore_n 3, 1) := by decide +kernel
theorem dX3_paceWanted_41 : decode cX3_paceWanted 41 = .ok (.iconst 1, 1) := by decide +kernel
theorem dX3_paceWanted_42 : decode cX3_paceWanted 42 = .ok (.iload_n 3, 1) := by decide +kernel
theorem dX3_paceWanted_43 : decode cX3_paceWanted 43 = .ok (.iload_n 2, 1) := by decide +kernel
theorem dX3_paceWanted_44 : decode cX3_paceWanted 44 = .ok (.iadd, 1) := by decide +kernel
theorem dX3_paceWanted_45 : decode cX3_paceWanted 45 = .ok (.iconst 1, 1) := by decide +kernel
theorem dX3_paceWanted_46 : decode cX3_paceWanted 46 = .ok (.isub, 1) := by decide +kernel
theorem dX3_paceWanted_47 : decode cX3_paceWanted 47 = .ok (.iload_n 2, 1) := by decide +kernel
theorem dX3_paceWanted_48 : decode cX3_paceWanted 48 = .ok (.idiv, 1) := by decide +kernel
theorem dX3_paceWanted_49 : decode cX3_paceWanted 49 = .ok (.invokestatic 151, 3) := by decide +kernel
theorem dX3_paceWanted_52 : decode cX3_paceWanted 52 = .ok (.istore 4, 2) := by decide +kernel
theorem dX3_paceWanted_54 : decode cX3_paceWanted 54 = .ok (.iload_n 3, 1) := by decide +kernel
theorem dX3_paceWanted_55 : decode cX3_paceWanted 55 = .ok (.ifCond .le 10, 3) := by decide +kernel
theorem dX3_paceWanted_58 : decode cX3_paceWanted 58 = .ok (.aload_n 0, 1) := by decide +kernel
theorem dX3_paceWanted_59 : decode cX3_paceWanted 59 = .ok (.getfield 71, 3) := by decide +kernel
theorem dX3_paceWanted_62 : decode cX3_paceWanted 62 = .ok (.ifCond .ne 9, 3) := by decide +kernel
theorem dX3_paceWanted_65 : decode cX3_paceWanted 65 = .ok (.iload 4, 2) := by decide +kernel
theorem dX3_paceWanted_67 : decode cX3_paceWanted 67 = .ok (.iconst 5, 1) := by decide +kernel
theorem dX3_paceWanted_68 : decode cX3_paceWanted 68 = .ok (.if_icmp .le 7, 3) := by decide +kernel
theorem dX3_paceWanted_71 : decode cX3_paceWanted 71 = .ok (.iconst (-1), 1) := by decide +kernel
theorem dX3_paceWanted_72 : decode cX3_paceWanted 72 = .ok (.goto 5, 3) := by decide +kernel
theorem dX3_paceWanted_75 : decode cX3_paceWanted 75 = .ok (.iload 4, 2) := by decide +kernel
theorem dX3_paceWanted_77 : decode cX3_paceWanted 77 = .ok (.ireturn, 1) := by decide +kernel
set_option maxRecDepth 20000 in
theorem ggX3_wouldCompact_X3_mark : GoodIn wsX3_wouldCompact wsX3_mark := goodIn_r _ [6, 7, 8, 9, 10, 11, 12, 13, 14, 15, 16, 17, 18, 19, 20, 21, 22, 23, 24, 25, 26, 27, 28, 29, 30, 31, 32, 33, 34, 35, 36, 37, 38] (by decide +kernel) (by decide +kernel)
set_option maxRecDepth 20000 in
theorem gX3_wouldCompact_X3_mark : GoodIn wsX3_wouldCompact (wsV RX3 96 RX3 yX3_mark wsX3_mark) := goodIn_app (goodIn_of _ (by decide +kernel)) ggX3_wouldCompact_X3_mark
theorem dX3_wouldCompact_0 : decode cX3_wouldCompact 0 = .ok (.aload_n 0, 1) := by decide +kernel
theorem dX3_wouldCompact_1 : decode cX3_wouldCompact 1 = .ok (.iconst 0, 1) := by decide +kernel
theorem dX3_wouldCompact_2 : decode cX3_wouldCompact 2 = .ok (.putfield 44, 3) := by decide +kernel
theorem dX3_wouldCompact_5 : decode cX3_wouldCompact 5 = .ok (.aload_n 0, 1) := by decide +kernel
theorem dX3_wouldCompact_6 : decode cX3_wouldCompact 6 = .ok (.invokevirtual 96, 3) := by decide +kernel
theorem dX3_wouldCompact_9 : decode cX3_wouldCompact 9 = .ok (.ireturn, 1) := by decide +kernel
set_option maxRecDepth 20000 in
theorem ggX3_misses_X3_mark : GoodIn wsX3_misses wsX3_mark := goodIn_r _ [8, 9, 10, 1, 11, 12, 13, 14, 15, 2, 3, 16, 17, 18, 23, 24, 25, 26, 27, 28, 29, 30, 31, 32, 33, 34, 35, 36, 37, 38, 39, 40, 41] (by decide +kernel) (by decide +kernel)
set_option maxRecDepth 20000 in
theorem gX3_misses_X3_mark : GoodIn wsX3_misses (wsV RX3 96 RX3 yX3_mark wsX3_mark) := goodIn_app (goodIn_of _ (by decide +kernel)) ggX3_misses_X3_mark
set_option maxRecDepth 20000 in
theorem ggX3_misses_X3_from : GoodIn wsX3_misses wsX3_from := goodIn_r _ [22, 2, 18, 23, 24, 25, 26, 27, 28, 29, 30, 31, 32, 33, 34, 35, 36, 37, 38, 39, 40, 41] (by decide +kernel) (by decide +kernel)
set_option maxRecDepth 20000 in
theorem gX3_misses_X3_from : GoodIn wsX3_misses (wsV RX3 102 RX3 yX3_from wsX3_from) := goodIn_app (goodIn_of _ (by decide +kernel)) ggX3_misses_X3_from
theorem dX3_misses_0 : decode cX3_misses 0 = .ok (.aload_n 0, 1) := by decide +kernel
theorem dX3_misses_1 : decode cX3_misses 1 = .ok (.invokevirtual 96, 3) := by decide +kernel
theorem dX3_misses_4 : decode cX3_misses 4 = .ok (.pop, 1) := by decide +kernel
theorem dX3_misses_5 : decode cX3_misses 5 = .ok (.iconst 0, 1) := by decide +kernel
theorem dX3_misses_6 : decode cX3_misses 6 = .ok (.istore_n 2, 1) := by decide +kernel
theorem dX3_misses_7 : decode cX3_misses 7 = .ok (.aload_n 0, 1) := by decide +kernel
theorem dX3_misses_8 : decode cX3_misses 8 = .ok (.aload_n 0, 1) := by decide +kernel
theorem dX3_misses_9 : decode cX3_misses 9 = .ok (.getfield 32, 3) := by decide +kernel
theorem dX3_misses_12 : decode cX3_misses 12 = .ok (.iload_n 1, 1) := by decide +kernel
theorem dX3_misses_13 : decode cX3_misses 13 = .ok (.iaload, 1) := by decide +kernel
theorem dX3_misses_14 : decode cX3_misses 14 = .ok (.invokevirtual 102, 3) := by decide +kernel
theorem dX3_misses_17 : decode cX3_misses 17 = .ok (.istore_n 3, 1) := by decide +kernel
theorem dX3_misses_18 : decode cX3_misses 18 = .ok (.iload_n 3, 1) := by decide +kernel
theorem dX3_misses_19 : decode cX3_misses 19 = .ok (.aload_n 0, 1) := by decide +kernel
theorem dX3_misses_20 : decode cX3_misses 20 = .ok (.getfield 58, 3) := by decide +kernel
theorem dX3_misses_23 : decode cX3_misses 23 = .ok (.if_icmp .ge 26, 3) := by decide +kernel
theorem dX3_misses_26 : decode cX3_misses 26 = .ok (.iload_n 2, 1) := by decide +kernel
theorem dX3_misses_27 : decode cX3_misses 27 = .ok (.aload_n 0, 1) := by decide +kernel
theorem dX3_misses_28 : decode cX3_misses 28 = .ok (.getfield 22, 3) := by decide +kernel
theorem dX3_misses_31 : decode cX3_misses 31 = .ok (.iload_n 3, 1) := by decide +kernel
theorem dX3_misses_32 : decode cX3_misses 32 = .ok (.baload, 1) := by decide +kernel
theorem dX3_misses_33 : decode cX3_misses 33 = .ok (.ifCond .eq 7, 3) := by decide +kernel
theorem dX3_misses_36 : decode cX3_misses 36 = .ok (.iconst 1, 1) := by decide +kernel
theorem dX3_misses_37 : decode cX3_misses 37 = .ok (.goto 4, 3) := by decide +kernel
theorem dX3_misses_40 : decode cX3_misses 40 = .ok (.iconst 0, 1) := by decide +kernel
theorem dX3_misses_41 : decode cX3_misses 41 = .ok (.iadd, 1) := by decide +kernel
theorem dX3_misses_42 : decode cX3_misses 42 = .ok (.istore_n 2, 1) := by decide +kernel
theorem dX3_misses_43 : decode cX3_misses 43 = .ok (.iinc 3 1, 3) := by decide +kernel
theorem dX3_misses_46 : decode cX3_misses 46 = .ok (.goto (-28), 3) := by decide +kernel
theorem dX3_misses_49 : decode cX3_misses 49 = .ok (.iload_n 2, 1) := by decide +kernel
theorem dX3_misses_50 : decode cX3_misses 50 = .ok (.ireturn, 1) := by decide +kernel
set_option maxRecDepth 20000 in
theorem ggX3_wouldMiss_X3_isShip : GoodIn wsX3_wouldMiss wsX3_isShip := goodIn_r _ [6, 7, 8, 9, 5, 10, 39, 40, 41, 42, 43, 44, 45, 46, 47, 48, 49, 50, 51, 52, 53, 54, 55, 56, 57] (by decide +kernel) (by decide +kernel)
set_option maxRecDepth 20000 in
theorem gX3_wouldMiss_X3_isShip : GoodIn wsX3_wouldMiss (wsV RX3 99 RX3 yX3_isShip wsX3_isShip) := goodIn_app (goodIn_of _ (by decide +kernel)) ggX3_wouldMiss_X3_isShip
set_option maxRecDepth 20000 in
theorem ggX3_wouldMiss_X3_misses : GoodIn wsX3_wouldMiss wsX3_misses := goodIn_r _ [14, 15, 16, 17, 18, 19, 20, 5, 21, 22, 7, 23, 24, 25, 26, 27, 28, 29, 30, 31, 32, 33, 34, 39, 40, 41, 42, 43, 44, 45, 46, 47, 48, 49, 50, 51, 52, 53, 54, 55, 56, 57] (by decide +kernel) (by decide +kernel)
set_option maxRecDepth 20000 in
theorem gX3_wouldMiss_X3_misses : GoodIn wsX3_wouldMiss (wsV RX3 154 RX3 yX3_misses wsX3_misses) := goodIn_app (goodIn_of _ (by decide +kernel)) ggX3_wouldMiss_X3_misses
set_option maxRecDepth 20000 in
theorem ggX3_wouldMiss_X3_fail : GoodIn wsX3_wouldMiss wsX3_fail := goodIn_r _ [38, 1, 39, 40, 41, 42, 43, 44, 45, 46, 47, 48, 49, 50, 51, 52, 53, 54, 55, 56, 57] (by decide +kernel) (by decide +kernel)
set_option maxRecDepth 20000 in
theorem gX3_wouldMiss_X3_fail : GoodIn wsX3_wouldMiss (wsV RX3 85 RX3 yX3_fail wsX3_fail) := goodIn_app (goodIn_of _ (by decide +kernel)) ggX3_wouldMiss_X3_fail
theorem dX3_wouldMiss_0 : decode cX3_wouldMiss 0 = .ok (.aload_n 0, 1) := by decide +kernel
theorem dX3_wouldMiss_1 : decode cX3_wouldMiss 1 = .ok (.iconst 0, 1) := by decide +kernel
theorem dX3_wouldMiss_2 : decode cX3_wouldMiss 2 = .ok (.putfield 44, 3) := by decide +kernel
theorem dX3_wouldMiss_5 : decode cX3_wouldMiss 5 = .ok (.aload_n 0, 1) := by decide +kernel
theorem dX3_wouldMiss_6 : decode cX3_wouldMiss 6 = .ok (.iload_n 1, 1) := by decide +kernel
theorem dX3_wouldMiss_7 : decode cX3_wouldMiss 7 = .ok (.invokevirtual 99, 3) := by decide +kernel
theorem dX3_wouldMiss_10 : decode cX3_wouldMiss 10 = .ok (.ifCond .eq 11, 3) := by decide +kernel
theorem dX3_wouldMiss_13 : decode cX3_wouldMiss 13 = .ok (.aload_n 0, 1) := by decide +kernel
theorem dX3_wouldMiss_14 : decode cX3_wouldMiss 14 = .ok (.iload_n 1, 1) := by decide +kernel
theorem dX3_wouldMiss_15 : decode cX3_wouldMiss 15 = .ok (.invokevirtual 154, 3) := by decide +kernel
theorem dX3_wouldMiss_18 : decode cX3_wouldMiss 18 = .ok (.goto 8, 3) := by decide +kernel
theorem dX3_wouldMiss_21 : decode cX3_wouldMiss 21 = .ok (.aload_n 0, 1) := by decide +kernel
theorem dX3_wouldMiss_22 : decode cX3_wouldMiss 22 = .ok (.iconst 1, 1) := by decide +kernel
theorem dX3_wouldMiss_23 : decode cX3_wouldMiss 23 = .ok (.invokevirtual 85, 3) := by decide +kernel
theorem dX3_wouldMiss_26 : decode cX3_wouldMiss 26 = .ok (.ireturn, 1) := by decide +kernel
set_option maxRecDepth 20000 in
theorem ggX3_meanLag_X3_lag : GoodIn wsX3_meanLag wsX3_lag := goodIn_r _ [7, 8, 9, 10, 11, 12, 6, 13, 14, 15, 16, 17, 18, 19, 20, 21, 22, 23, 24, 25, 26, 27, 28, 29, 30, 31, 32, 33] (by decide +kernel) (by decide +kernel)
set_option maxRecDepth 20000 in
theorem gX3_meanLag_X3_lag : GoodIn wsX3_meanLag (wsV RX3 139 RX3 yX3_lag wsX3_lag) := goodIn_app (goodIn_of _ (by decide +kernel)) ggX3_meanLag_X3_lag
theorem dX3_meanLag_0 : decode cX3_meanLag 0 = .ok (.aload_n 0, 1) := by decide +kernel
theorem dX3_meanLag_1 : decode cX3_meanLag 1 = .ok (.iconst 0, 1) := by decide +kernel
theorem dX3_meanLag_2 : decode cX3_meanLag 2 = .ok (.putfield 44, 3) := by decide +kernel
theorem dX3_meanLag_5 : decode cX3_meanLag 5 = .ok (.iconst 0, 1) := by decide +kernel
theorem dX3_meanLag_6 : decode cX3_meanLag 6 = .ok (.istore_n 1, 1) := by decide +kernel
theorem dX3_meanLag_7 : decode cX3_meanLag 7 = .ok (.iconst 0, 1) := by decide +kernel
theorem dX3_meanLag_8 : decode cX3_meanLag 8 = .ok (.istore_n 2, 1) := by decide +kernel
theorem dX3_meanLag_9 : decode cX3_meanLag 9 = .ok (.iload_n 2, 1) := by decide +kernel
theorem dX3_meanLag_10 : decode cX3_meanLag 10 = .ok (.aload_n 0, 1) := by decide +kernel
theorem dX3_meanLag_11 : decode cX3_meanLag 11 = .ok (.getfield 48, 3) := by decide +kernel
theorem dX3_meanLag_14 : decode cX3_meanLag 14 = .ok (.if_icmp .ge 17, 3) := by decide +kernel
theorem dX3_meanLag_17 : decode cX3_meanLag 17 = .ok (.iload_n 1, 1) := by decide +kernel
theorem dX3_meanLag_18 : decode cX3_meanLag 18 = .ok (.aload_n 0, 1) := by decide +kernel
theorem dX3_meanLag_19 : decode cX3_meanLag 19 = .ok (.iload_n 2, 1) := by decide +kernel
theorem dX3_meanLag_20 : decode cX3_meanLag 20 = .ok (.invokevirtual 139, 3) := by decide +kernel
theorem dX3_meanLag_23 : decode cX3_meanLag 23 = .ok (.iadd, 1) := by decide +kernel
theorem dX3_meanLag_24 : decode cX3_meanLag 24 = .ok (.istore_n 1, 1) := by decide +kernel
theorem dX3_meanLag_25 : decode cX3_meanLag 25 = .ok (.iinc 2 1, 3) := by decide +kernel
theorem dX3_meanLag_28 : decode cX3_meanLag 28 = .ok (.goto (-19), 3) := by decide +kernel
theorem dX3_meanLag_31 : decode cX3_meanLag 31 = .ok (.aload_n 0, 1) := by decide +kernel
theorem dX3_meanLag_32 : decode cX3_meanLag 32 = .ok (.getfield 48, 3) := by decide +kernel
theorem dX3_meanLag_35 : decode cX3_meanLag 35 = .ok (.ifCond .ne 7, 3) := by decide +kernel
theorem dX3_meanLag_38 : decode cX3_meanLag 38 = .ok (.dconst 0, 1) := by decide +kernel
theorem dX3_meanLag_39 : decode cX3_meanLag 39 = .ok (.goto 11, 3) := by decide +kernel
theorem dX3_meanLag_42 : decode cX3_meanLag 42 = .ok (.iload_n 1, 1) := by decide +kernel
theorem dX3_meanLag_43 : decode cX3_meanLag 43 = .ok (.i2d, 1) := by decide +kernel
theorem dX3_meanLag_44 : decode cX3_meanLag 44 = .ok (.aload_n 0, 1) := by decide +kernel
theorem dX3_meanLag_45 : decode cX3_meanLag 45 = .ok (.getfield 48, 3) := by decide +kernel
theorem dX3_meanLag_48 : decode cX3_meanLag 48 = .ok (.i2d, 1) := by decide +kernel
theorem dX3_meanLag_49 : decode cX3_meanLag 49 = .ok (.ddiv, 1) := by decide +kernel
theorem dX3_meanLag_50 : decode cX3_meanLag 50 = .ok (.dreturn, 1) := by decide +kernel
set_option maxRecDepth 20000 in
theorem ggX3_digest_X3_first : GoodIn wsX3_digest wsX3_first := goodIn_r _ [20, 4, 21, 81, 82, 83, 84, 85, 86, 87, 88, 89, 90, 91, 92, 93, 94, 95, 96, 97, 98, 99] (by decide +kernel) (by decide +kernel)
set_option maxRecDepth 20000 in
theorem gX3_digest_X3_first : GoodIn wsX3_digest (wsV RX3 111 RX3 yX3_first wsX3_first) := goodIn_app (goodIn_of _ (by decide +kernel)) ggX3_digest_X3_first
set_option maxRecDepth 20000 in
theorem ggX3_digest_X3_behind : GoodIn wsX3_digest wsX3_behind := goodIn_r _ [25, 9, 26, 27, 28, 19, 29, 4, 13, 30, 31, 32, 33, 21, 81, 82, 83, 84, 85, 86, 87, 88, 89, 90, 91, 92, 93, 94, 95, 96, 97, 98, 99] (by decide +kernel) (by decide +kernel)
set_option maxRecDepth 20000 in
theorem gX3_digest_X3_behind : GoodIn wsX3_digest (wsV RX3 145 RX3 yX3_behind wsX3_behind) := goodIn_app (goodIn_of _ (by decide +kernel)) ggX3_digest_X3_behind
set_option maxRecDepth 20000 in
theorem ggX3_digest_X3_mark : GoodIn wsX3_digest wsX3_mark := goodIn_r _ [37, 5, 9, 13, 38, 39, 40, 41, 42, 4, 43, 44, 45, 21, 81, 82, 83, 84, 85, 86, 87, 88, 89, 90, 91, 92, 93, 94, 95, 96, 97, 98, 99] (by decide +kernel) (by decide +kernel)
set_option maxRecDepth 20000 in
theorem gX3_digest_X3_mark : GoodIn wsX3_digest (wsV RX3 96 RX3 yX3_mark wsX3_mark) := goodIn_app (goodIn_of _ (by decide +kernel)) ggX3_digest_X3_mark
set_option maxRecDepth 20000 in
theorem ggX3_digest_X3_latest : GoodIn wsX3_digest wsX3_latest := goodIn_r _ [49, 21, 50, 51, 52, 19, 53, 4, 44, 81, 82, 83, 84, 85, 86, 87, 88, 89, 90, 91, 92, 93, 94, 95, 96, 97, 98, 99] (by decide +kernel) (by decide +kernel)
set_option maxRecDepth 20000 in
theorem gX3_digest_X3_latest : GoodIn wsX3_digest (wsV RX3 124 RX3 yX3_latest wsX3_latest) := goodIn_app (goodIn_of _ (by decide +kernel)) ggX3_digest_X3_latest
set_option maxRecDepth 20000 in
theorem ggX3_digest_X3_worth : GoodIn wsX3_digest wsX3_worth := goodIn_r _ [57, 45, 50, 51, 52, 19, 53, 4, 44, 81, 82, 83, 84, 85, 86, 87, 88, 89, 90, 91, 92, 93, 94, 95, 96, 97, 98, 99] (by decide +kernel) (by decide +kernel)
set_option maxRecDepth 20000 in
theorem gX3_digest_X3_worth : GoodIn wsX3_digest (wsV RX3 127 RX3 yX3_worth wsX3_worth) := goodIn_app (goodIn_of _ (by decide +kernel)) ggX3_digest_X3_worth
set_option maxRecDepth 20000 in
theorem ggX3_digest_X3_count : GoodIn wsX3_digest wsX3_count := goodIn_r _ [61, 4, 44, 81, 82, 83, 84, 85, 86, 87, 88, 89, 90, 91, 92, 93, 94, 95, 96, 97, 98, 99] (by decide +kernel) (by decide +kernel)
set_option maxRecDepth 20000 in
theorem gX3_digest_X3_count : GoodIn wsX3_digest (wsV RX3 130 RX3 yX3_count wsX3_count) := goodIn_app (goodIn_of _ (by decide +kernel)) ggX3_digest_X3_count
set_option maxRecDepth 20000 in
theorem ggX3_digest_X3_kept : GoodIn wsX3_digest wsX3_kept := goodIn_r _ [65, 4, 66, 81, 82, 83, 84, 85, 86, 87, 88, 89, 90, 91, 92, 93, 94, 95, 96, 97, 98, 99] (by decide +kernel) (by decide +kernel)
set_option maxRecDepth 20000 in
theorem gX3_digest_X3_kept : GoodIn wsX3_digest (wsV RX3 133 RX3 yX3_kept wsX3_kept) := goodIn_app (goodIn_of _ (by decide +kernel)) ggX3_digest_X3_kept
set_option maxRecDepth 20000 in
theorem ggX3_digest_X3_lag : GoodIn wsX3_digest wsX3_lag := goodIn_r _ [29, 4, 13, 30, 31, 32, 19, 33, 21, 81, 82, 83, 84, 85, 86, 87, 88, 89, 90, 91, 92, 93, 94, 95, 96, 97, 98, 99] (by decide +kernel) (by decide +kernel)
set_option maxRecDepth 20000 in
theorem gX3_digest_X3_lag : GoodIn wsX3_digest (wsV RX3 139 RX3 yX3_lag wsX3_lag) := goodIn_app (goodIn_of _ (by decide +kernel)) ggX3_digest_X3_lag
set_option maxRecDepth 20000 in
theorem ggX3_digest_X3_errors : GoodIn wsX3_digest wsX3_errors := goodIn_r _ [70, 2, 71, 13, 4, 44, 45, 30, 31, 32, 19, 33, 21, 54, 55, 56, 57, 50, 51, 52, 53, 81, 82, 83, 84, 85, 86, 87, 88, 89, 90, 91, 92, 93, 94, 95, 96, 97, 98, 99] (by decide +kernel) (by decide +kernel)
set_option maxRecDepth 20000 in
theorem gX3_digest_X3_errors : GoodIn wsX3_digest (wsV RX3 142 RX3 yX3_errors wsX3_errors) := goodIn_app (goodIn_of _ (by decide +kernel)) ggX3_digest_X3_errors
set_option maxRecDepth 20000 in
theorem ggX3_digest_X3_until : GoodIn wsX3_digest wsX3_until := goodIn_r _ [75, 8, 76, 26, 27, 28, 19, 29, 4, 13, 30, 31, 32, 33, 21, 81, 82, 83, 84, 85, 86, 87, 88, 89, 90, 91, 92, 93, 94, 95, 96, 97, 98, 99] (by decide +kernel) (by decide +kernel)
set_option maxRecDepth 20000 in
theorem gX3_digest_X3_until : GoodIn wsX3_digest (wsV RX3 148 RX3 yX3_until wsX3_until) := goodIn_app (goodIn_of _ (by decide +kernel)) ggX3_digest_X3_until
set_option maxRecDepth 20000 in
theorem ggX3_digest_X3_misses : GoodIn wsX3_digest wsX3_misses := goodIn_r _ [80, 13, 4, 43, 34, 35, 36, 19, 37, 5, 9, 38, 39, 40, 41, 42, 44, 45, 21, 30, 31, 32, 33, 81, 82, 83, 84, 85, 86, 87, 88, 89, 90, 91, 92, 93, 94, 95, 96, 97, 98, 99] (by decide +kernel) (by decide +kernel)
set_option maxRecDepth 20000 in
theorem gX3_digest_X3_misses : GoodIn wsX3_digest (wsV RX3 154 RX3 yX3_misses wsX3_misses) := goodIn_app (goodIn_of _ (by decide +kernel)) ggX3_digest_X3_misses
theorem dX3_digest_0 : decode cX3_digest 0 = .ok (.aload_n 0, 1) := by decide +kernel
theorem dX3_digest_1 : decode cX3_digest 1 = .ok (.iconst 0, 1) := by decide +kernel
theorem dX3_digest_2 : decode cX3_digest 2 = .ok (.putfield 44, 3) := by decide +kernel
theorem dX3_digest_5 : decode cX3_digest 5 = .ok (.bipush 10, 2) := by decide +kernel
theorem dX3_digest_7 : decode cX3_digest 7 = .ok (.newarray .int, 2) := by decide +kernel
theorem dX3_digest_9 : decode cX3_digest 9 = .ok (.dup, 1) := by decide +kernel
theorem dX3_digest_10 : decode cX3_digest 10 = .ok (.iconst 0, 1) := by decide +kernel
theorem dX3_digest_11 : decode cX3_digest 11 = .ok (.aload_n 0, 1) := by decide +kernel
theorem dX3_digest_12 : decode cX3_digest 12 = .ok (.getfield 105, 3) := by decide +kernel
theorem dX3_digest_15 : decode cX3_digest 15 = .ok (.iastore, 1) := by decide +kernel
theorem dX3_digest_16 : decode cX3_digest 16 = .ok (.dup, 1) := by decide +kernel
theorem dX3_digest_17 : decode cX3_digest 17 = .ok (.iconst 1, 1) := by decide +kernel
theorem dX3_digest_18 : decode cX3_digest 18 = .ok (.aload_n 0, 1) := by decide +kernel
theorem dX3_digest_19 : decode cX3_digest 19 = .ok (.getfield 58, 3) := by decide +kernel
theorem dX3_digest_22 : decode cX3_digest 22 = .ok (.iastore, 1) := by decide +kernel
theorem dX3_digest_23 : decode cX3_digest 23 = .ok (.dup, 1) := by decide +kernel
theorem dX3_digest_24 : decode cX3_digest 24 = .ok (.iconst 2, 1) := by decide +kernel
theorem dX3_digest_25 : decode cX3_digest 25 = .ok (.aload_n 0, 1) := by decide +kernel
theorem dX3_digest_26 : decode cX3_digest 26 = .ok (.getfield 68, 3) := by decide +kernel
theorem dX3_digest_29 : decode cX3_digest 29 = .ok (.iastore, 1) := by decide +kernel
theorem dX3_digest_30 : decode cX3_digest 30 = .ok (.dup, 1) := by decide +kernel
theorem dX3_digest_31 : decode cX3_digest 31 = .ok (.iconst 3, 1) := by decide +kernel
theorem dX3_digest_32 : decode cX3_digest 32 = .ok (.aload_n 0, 1) := by decide +kernel
theorem dX3_digest_33 : decode cX3_digest 33 = .ok (.invokevirtual 111, 3) := by decide +kernel
theorem dX3_digest_36 : decode cX3_digest 36 = .ok (.iastore, 1) := by decide +kernel
theorem dX3_digest_37 : decode cX3_digest 37 = .ok (.dup, 1) := by decide +kernel
theorem dX3_digest_38 : decode cX3_digest 38 = .ok (.iconst 4, 1) := by decide +kernel
theorem dX3_digest_39 : decode cX3_digest 39 = .ok (.aload_n 0, 1) := by decide +kernel
theorem dX3_digest_40 : decode cX3_digest 40 = .ok (.getfield 61, 3) := by decide +kernel
theorem dX3_digest_43 : decode cX3_digest 43 = .ok (.iastore, 1) := by decide +kernel
theorem dX3_digest_44 : decode cX3_digest 44 = .ok (.dup, 1) := by decide +kernel
theorem dX3_digest_45 : decode cX3_digest 45 = .ok (.iconst 5, 1) := by decide +kernel
theorem dX3_digest_46 : decode cX3_digest 46 = .ok (.aload_n 0, 1) := by decide +kernel
theorem dX3_digest_47 : decode cX3_digest 47 = .ok (.getfield 55, 3) := by decide +kernel
theorem dX3_digest_50 : decode cX3_digest 50 = .ok (.iastore, 1) := by decide +kernel
theorem dX3_digest_51 : decode cX3_digest 51 = .ok (.dup, 1) := by decide +kernel
theorem dX3_digest_52 : decode cX3_digest 52 = .ok (.bipush 6, 2) := by decide +kernel
theorem dX3_digest_54 : decode cX3_digest 54 = .ok (.aload_n 0, 1) := by decide +kernel
theorem dX3_digest_55 : decode cX3_digest 55 = .ok (.getfield 71, 3) := by decide +kernel
theorem dX3_digest_58 : decode cX3_digest 58 = .ok (.ifCond .eq 7, 3) := by decide +kernel
theorem dX3_digest_61 : decode cX3_digest 61 = .ok (.iconst 1, 1) := by decide +kernel
theorem dX3_digest_62 : decode cX3_digest 62 = .ok (.goto 4, 3) := by decide +kernel
theorem dX3_digest_65 : decode cX3_digest 65 = .ok (.iconst 0, 1) := by decide +kernel
theorem dX3_digest_66 : decode cX3_digest 66 = .ok (.iastore, 1) := by decide +kernel
theorem dX3_digest_67 : decode cX3_digest 67 = .ok (.dup, 1) := by decide +kernel
theorem dX3_digest_68 : decode cX3_digest 68 = .ok (.bipush 7, 2) := by decide +kernel
theorem dX3_digest_70 : decode cX3_digest 70 = .ok (.aload_n 0, 1) := by decide +kernel
theorem dX3_digest_71 : decode cX3_digest 71 = .ok (.getfield 48, 3) := by decide +kernel
theorem dX3_digest_74 : decode cX3_digest 74 = .ok (.iastore, 1) := by decide +kernel
theorem dX3_digest_75 : decode cX3_digest 75 = .ok (.dup, 1) := by decide +kernel
theorem dX3_digest_76 : decode cX3_digest 76 = .ok (.bipush 8, 2) := by decide +kernel
theorem dX3_digest_78 : decode cX3_digest 78 = .ok (.aload_n 0, 1) := by decide +kernel
theorem dX3_digest_79 : decode cX3_digest 79 = .ok (.invokevirtual 145, 3) := by decide +kernel
theorem dX3_digest_82 : decode cX3_digest 82 = .ok (.iastore, 1) := by decide +kernel
theorem dX3_digest_83 : decode cX3_digest 83 = .ok (.dup, 1) := by decide +kernel
theorem dX3_digest_84 : decode cX3_digest 84 = .ok (.bipush 9, 2) := by decide +kernel
theorem dX3_digest_86 : decode cX3_digest 86 = .ok (.aload_n 0, 1) := by decide +kernel
theorem dX3_digest_87 : decode cX3_digest 87 = .ok (.invokevirtual 96, 3) := by decide +kernel
theorem dX3_digest_90 : decode cX3_digest 90 = .ok (.iastore, 1) := by decide +kernel
theorem dX3_digest_91 : decode cX3_digest 91 = .ok (.astore_n 1, 1) := by decide +kernel
theorem dX3_digest_92 : decode cX3_digest 92 = .ok (.ldc2_w 157, 3) := by decide +kernel
theorem dX3_digest_95 : decode cX3_digest 95 = .ok (.lstore_n 2, 1) := by decide +kernel
theorem dX3_digest_96 : decode cX3_digest 96 = .ok (.aload_n 1, 1) := by decide +kernel
theorem dX3_digest_97 : decode cX3_digest 97 = .ok (.astore 4, 2) := by decide +kernel
theorem dX3_digest_99 : decode cX3_digest 99 = .ok (.aload 4, 2) := by decide +kernel
theorem dX3_digest_101 : decode cX3_digest 101 = .ok (.arraylength, 1) := by decide +kernel
theorem dX3_digest_102 : decode cX3_digest 102 = .ok (.istore 5, 2) := by decide +kernel
theorem dX3_digest_104 : decode cX3_digest 104 = .ok (.iconst 0, 1) := by decide +kernel
theorem dX3_digest_105 : decode cX3_digest 105 = .ok (.istore 6, 2) := by decide +kernel
theorem dX3_digest_107 : decode cX3_digest 107 = .ok (.iload 6, 2) := by decide +kernel
theorem dX3_digest_109 : decode cX3_digest 109 = .ok (.iload 5, 2) := by decide +kernel
theorem dX3_digest_111 : decode cX3_digest 111 = .ok (.if_icmp .ge 26, 3) := by decide +kernel
theorem dX3_digest_114 : decode cX3_digest 114 = .ok (.aload 4, 2) := by decide +kernel
theorem dX3_digest_116 : decode cX3_digest 116 = .ok (.iload 6, 2) := by decide +kernel
theorem dX3_digest_118 : decode cX3_digest 118 = .ok (.iaload, 1) := by decide +kernel
theorem dX3_digest_119 : decode cX3_digest 119 = .ok (.istore 7, 2) := by decide +kernel
theorem dX3_digest_121 : decode cX3_digest 121 = .ok (.lload_n 2, 1) := by decide +kernel
theorem dX3_digest_122 : decode cX3_digest 122 = .ok (.ldc2_w 159, 3) := by decide +kernel
theorem dX3_digest_125 : decode cX3_digest 125 = .ok (.lmul, 1) := by decide +kernel
theorem dX3_digest_126 : decode cX3_digest 126 = .ok (.iload 7, 2) := by decide +kernel
theorem dX3_digest_128 : decode cX3_digest 128 = .ok (.i2l, 1) := by decide +kernel
theorem dX3_digest_129 : decode cX3_digest 129 = .ok (.ladd, 1) := by decide +kernel
theorem dX3_digest_130 : decode cX3_digest 130 = .ok (.lstore_n 2, 1) := by decide +kernel
theorem dX3_digest_131 : decode cX3_digest 131 = .ok (.iinc 6 1, 3) := by decide +kernel
theorem dX3_digest_134 : decode cX3_digest 134 = .ok (.goto (-27), 3) := by decide +kernel
theorem dX3_digest_137 : decode cX3_digest 137 = .ok (.iconst 0, 1) := by decide +kernel
theorem dX3_digest_138 : decode cX3_digest 138 = .ok (.istore 4, 2) := by decide +kernel
theorem dX3_digest_140 : decode cX3_digest 140 = .ok (.iload 4, 2) := by decide +kernel
theorem dX3_digest_142 : decode cX3_digest 142 = .ok (.bipush 10, 2) := by decide +kernel
theorem dX3_digest_144 : decode cX3_digest 144 = .ok (.if_icmp .ge 51, 3) := by decide +kernel
theorem dX3_digest_147 : decode cX3_digest 147 = .ok (.lload_n 2, 1) := by decide +kernel
theorem dX3_digest_148 : decode cX3_digest 148 = .ok (.ldc2_w 159, 3) := by decide +kernel
theorem dX3_digest_151 : decode cX3_digest 151 = .ok (.lmul, 1) := by decide +kernel
theorem dX3_digest_152 : decode cX3_digest 152 = .ok (.aload_n 0, 1) := by decide +kernel
theorem dX3_digest_153 : decode cX3_digest 153 = .ok (.iload 4, 2) := by decide +kernel
theorem dX3_digest_155 : decode cX3_digest 155 = .ok (.invokevirtual 124, 3) := by decide +kernel
theorem dX3_digest_158 : decode cX3_digest 158 = .ok (.i2l, 1) := by decide +kernel
theorem dX3_digest_159 : decode cX3_digest 159 = .ok (.ladd, 1) := by decide +kernel
theorem dX3_digest_160 : decode cX3_digest 160 = .ok (.lstore_n 2, 1) := by decide +kernel
theorem dX3_digest_161 : decode cX3_digest 161 = .ok (.lload_n 2, 1) := by decide +kernel
theorem dX3_digest_162 : decode cX3_digest 162 = .ok (.ldc2_w 159, 3) := by decide +kernel
theorem dX3_digest_165 : decode cX3_digest 165 = .ok (.lmul, 1) := by decide +kernel
theorem dX3_digest_166 : decode cX3_digest 166 = .ok (.aload_n 0, 1) := by decide +kernel
theorem dX3_digest_167 : decode cX3_digest 167 = .ok (.iload 4, 2) := by decide +kernel
theorem dX3_digest_169 : decode cX3_digest 169 = .ok (.invokevirtual 127, 3) := by decide +kernel
theorem dX3_digest_172 : decode cX3_digest 172 = .ok (.i2l, 1) := by decide +kernel
theorem dX3_digest_173 : decode cX3_digest 173 = .ok (.ladd, 1) := by decide +kernel
theorem dX3_digest_174 : decode cX3_digest 174 = .ok (.lstore_n 2, 1) := by decide +kernel
theorem dX3_digest_175 : decode cX3_digest 175 = .ok (.lload_n 2, 1) := by decide +kernel
theorem dX3_digest_176 : decode cX3_digest 176 = .ok (.ldc2_w 159, 3) := by decide +kernel
theorem dX3_digest_179 : decode cX3_digest 179 = .ok (.lmul, 1) := by decide +kernel
theorem dX3_digest_180 : decode cX3_digest 180 = .ok (.aload_n 0, 1) := by decide +kernel
theorem dX3_digest_181 : decode cX3_digest 181 = .ok (.iload 4, 2) := by decide +kernel
theorem dX3_digest_183 : decode cX3_digest 183 = .ok (.invokevirtual 130, 3) := by decide +kernel
theorem dX3_digest_186 : decode cX3_digest 186 = .ok (.i2l, 1) := by decide +kernel
theorem dX3_digest_187 : decode cX3_digest 187 = .ok (.ladd, 1) := by decide +kernel
theorem dX3_digest_188 : decode cX3_digest 188 = .ok (.lstore_n 2, 1) := by decide +kernel
theorem dX3_digest_189 : decode cX3_digest 189 = .ok (.iinc 4 1, 3) := by decide +kernel
theorem dX3_digest_192 : decode cX3_digest 192 = .ok (.goto (-52), 3) := by decide +kernel
theorem dX3_digest_195 : decode cX3_digest 195 = .ok (.iconst 0, 1) := by decide +kernel
theorem dX3_digest_196 : decode cX3_digest 196 = .ok (.istore 4, 2) := by decide +kernel
theorem dX3_digest_198 : decode cX3_digest 198 = .ok (.iload 4, 2) := by decide +kernel
theorem dX3_digest_200 : decode cX3_digest 200 = .ok (.aload_n 0, 1) := by decide +kernel
theorem dX3_digest_201 : decode cX3_digest 201 = .ok (.getfield 55, 3) := by decide +kernel
theorem dX3_digest_204 : decode cX3_digest 204 = .ok (.if_icmp .ge 38, 3) := by decide +kernel
theorem dX3_digest_207 : decode cX3_digest 207 = .ok (.lload_n 2, 1) := by decide +kernel
theorem dX3_digest_208 : decode cX3_digest 208 = .ok (.ldc2_w 159, 3) := by decide +kernel
theorem dX3_digest_211 : decode cX3_digest 211 = .ok (.lmul, 1) := by decide +kernel
theorem dX3_digest_212 : decode cX3_digest 212 = .ok (.aload_n 0, 1) := by decide +kernel
theorem dX3_digest_213 : decode cX3_digest 213 = .ok (.getfield 26, 3) := by decide +kernel
theorem dX3_digest_216 : decode cX3_digest 216 = .ok (.iload 4, 2) := by decide +kernel
theorem dX3_digest_218 : decode cX3_digest 218 = .ok (.iaload, 1) := by decide +kernel
theorem dX3_digest_219 : decode cX3_digest 219 = .ok (.i2l, 1) := by decide +kernel
theorem dX3_digest_220 : decode cX3_digest 220 = .ok (.ladd, 1) := by decide +kernel
theorem dX3_digest_221 : decode cX3_digest 221 = .ok (.lstore_n 2, 1) := by decide +kernel
theorem dX3_digest_222 : decode cX3_digest 222 = .ok (.lload_n 2, 1) := by decide +kernel
theorem dX3_digest_223 : decode cX3_digest 223 = .ok (.ldc2_w 159, 3) := by decide +kernel
theorem dX3_digest_226 : decode cX3_digest 226 = .ok (.lmul, 1) := by decide +kernel
theorem dX3_digest_227 : decode cX3_digest 227 = .ok (.aload_n 0, 1) := by decide +kernel
theorem dX3_digest_228 : decode cX3_digest 228 = .ok (.iload 4, 2) := by decide +kernel
theorem dX3_digest_230 : decode cX3_digest 230 = .ok (.invokevirtual 133, 3) := by decide +kernel
theorem dX3_digest_233 : decode cX3_digest 233 = .ok (.i2l, 1) := by decide +kernel
theorem dX3_digest_234 : decode cX3_digest 234 = .ok (.ladd, 1) := by decide +kernel
theorem dX3_digest_235 : decode cX3_digest 235 = .ok (.lstore_n 2, 1) := by decide +kernel
theorem dX3_digest_236 : decode cX3_digest 236 = .ok (.iinc 4 1, 3) := by decide +kernel
theorem dX3_digest_239 : decode cX3_digest 239 = .ok (.goto (-41), 3) := by decide +kernel
theorem dX3_digest_242 : decode cX3_digest 242 = .ok (.iconst 0, 1) := by decide +kernel
theorem dX3_digest_243 : decode cX3_digest 243 = .ok (.istore 4, 2) := by decide +kernel
theorem dX3_digest_245 : decode cX3_digest 245 = .ok (.iload 4, 2) := by decide +kernel
theorem dX3_digest_247 : decode cX3_digest 247 = .ok (.aload_n 0, 1) := by decide +kernel
theorem dX3_digest_248 : decode cX3_digest 248 = .ok (.getfield 48, 3) := by decide +kernel
theorem dX3_digest_251 : decode cX3_digest 251 = .ok (.if_icmp .ge 125, 3) := by decide +kernel
theorem dX3_digest_254 : decode cX3_digest 254 = .ok (.bipush 7, 2) := by decide +kernel
theorem dX3_digest_256 : decode cX3_digest 256 = .ok (.newarray .int, 2) := by decide +kernel
theorem dX3_digest_258 : decode cX3_digest 258 = .ok (.dup, 1) := by decide +kernel
theorem dX3_digest_259 : decode cX3_digest 259 = .ok (.iconst 0, 1) := by decide +kernel
theorem dX3_digest_260 : decode cX3_digest 260 = .ok (.aload_n 0, 1) := by decide +kernel
theorem dX3_digest_261 : decode cX3_digest 261 = .ok (.getfield 32, 3) := by decide +kernel
theorem dX3_digest_264 : decode cX3_digest 264 = .ok (.iload 4, 2) := by decide +kernel
theorem dX3_digest_266 : decode cX3_digest 266 = .ok (.iaload, 1) := by decide +kernel
theorem dX3_digest_267 : decode cX3_digest 267 = .ok (.iastore, 1) := by decide +kernel
theorem dX3_digest_268 : decode cX3_digest 268 = .ok (.dup, 1) := by decide +kernel
theorem dX3_digest_269 : decode cX3_digest 269 = .ok (.iconst 1, 1) := by decide +kernel
theorem dX3_digest_270 : decode cX3_digest 270 = .ok (.aload_n 0, 1) := by decide +kernel
theorem dX3_digest_271 : decode cX3_digest 271 = .ok (.iload 4, 2) := by decide +kernel
theorem dX3_digest_273 : decode cX3_digest 273 = .ok (.invokevirtual 139, 3) := by decide +kernel
theorem dX3_digest_276 : decode cX3_digest 276 = .ok (.iastore, 1) := by decide +kernel
theorem dX3_digest_277 : decode cX3_digest 277 = .ok (.dup, 1) := by decide +kernel
theorem dX3_digest_278 : decode cX3_digest 278 = .ok (.iconst 2, 1) := by decide +kernel
theorem dX3_digest_279 : decode cX3_digest 279 = .ok (.aload_n 0, 1) := by decide +kernel
theorem dX3_digest_280 : decode cX3_digest 280 = .ok (.getfield 35, 3) := by decide +kernel
theorem dX3_digest_283 : decode cX3_digest 283 = .ok (.iload 4, 2) := by decide +kernel
theorem dX3_digest_285 : decode cX3_digest 285 = .ok (.iaload, 1) := by decide +kernel
theorem dX3_digest_286 : decode cX3_digest 286 = .ok (.iastore, 1) := by decide +kernel
theorem dX3_digest_287 : decode cX3_digest 287 = .ok (.dup, 1) := by decide +kernel
theorem dX3_digest_288 : decode cX3_digest 288 = .ok (.iconst 3, 1) := by decide +kernel
theorem dX3_digest_289 : decode cX3_digest 289 = .ok (.aload_n 0, 1) := by decide +kernel
theorem dX3_digest_290 : decode cX3_digest 290 = .ok (.getfield 38, 3) := by decide +kernel
theorem dX3_digest_293 : decode cX3_digest 293 = .ok (.iload 4, 2) := by decide +kernel
theorem dX3_digest_295 : decode cX3_digest 295 = .ok (.iaload, 1) := by decide +kernel
theorem dX3_digest_296 : decode cX3_digest 296 = .ok (.iastore, 1) := by decide +kernel
theorem dX3_digest_297 : decode cX3_digest 297 = .ok (.dup, 1) := by decide +kernel
theorem dX3_digest_298 : decode cX3_digest 298 = .ok (.iconst 4, 1) := by decide +kernel
theorem dX3_digest_299 : decode cX3_digest 299 = .ok (.aload_n 0, 1) := by decide +kernel
theorem dX3_digest_300 : decode cX3_digest 300 = .ok (.iload 4, 2) := by decide +kernel
theorem dX3_digest_302 : decode cX3_digest 302 = .ok (.iconst 0, 1) := by decide +kernel
theorem dX3_digest_303 : decode cX3_digest 303 = .ok (.invokevirtual 142, 3) := by decide +kernel
theorem dX3_digest_306 : decode cX3_digest 306 = .ok (.iastore, 1) := by decide +kernel
theorem dX3_digest_307 : decode cX3_digest 307 = .ok (.dup, 1) := by decide +kernel
theorem dX3_digest_308 : decode cX3_digest 308 = .ok (.iconst 5, 1) := by decide +kernel
theorem dX3_digest_309 : decode cX3_digest 309 = .ok (.aload_n 0, 1) := by decide +kernel
theorem dX3_digest_310 : decode cX3_digest 310 = .ok (.iload 4, 2) := by decide +kernel
theorem dX3_digest_312 : decode cX3_digest 312 = .ok (.invokevirtual 148, 3) := by decide +kernel
theorem dX3_digest_315 : decode cX3_digest 315 = .ok (.iastore, 1) := by decide +kernel
theorem dX3_digest_316 : decode cX3_digest 316 = .ok (.dup, 1) := by decide +kernel
theorem dX3_digest_317 : decode cX3_digest 317 = .ok (.bipush 6, 2) := by decide +kernel
theorem dX3_digest_319 : decode cX3_digest 319 = .ok (.aload_n 0, 1) := by decide +kernel
theorem dX3_digest_320 : decode cX3_digest 320 = .ok (.iload 4, 2) := by decide +kernel
theorem dX3_digest_322 : decode cX3_digest 322 = .ok (.invokevirtual 154, 3) := by decide +kernel
theorem dX3_digest_325 : decode cX3_digest 325 = .ok (.iastore, 1) := by decide +kernel
theorem dX3_digest_326 : decode cX3_digest 326 = .ok (.astore 5, 2) := by decide +kernel
theorem dX3_digest_328 : decode cX3_digest 328 = .ok (.aload 5, 2) := by decide +kernel
theorem dX3_digest_330 : decode cX3_digest 330 = .ok (.astore 6, 2) := by decide +kernel
theorem dX3_digest_332 : decode cX3_digest 332 = .ok (.aload 6, 2) := by decide +kernel
theorem dX3_digest_334 : decode cX3_digest 334 = .ok (.arraylength, 1) := by decide +kernel
theorem dX3_digest_335 : decode cX3_digest 335 = .ok (.istore 7, 2) := by decide +kernel
theorem dX3_digest_337 : decode cX3_digest 337 = .ok (.iconst 0, 1) := by decide +kernel
theorem dX3_digest_338 : decode cX3_digest 338 = .ok (.istore 8, 2) := by decide +kernel
theorem dX3_digest_340 : decode cX3_digest 340 = .ok (.iload 8, 2) := by decide +kernel
theorem dX3_digest_342 : decode cX3_digest 342 = .ok (.iload 7, 2) := by decide +kernel
theorem dX3_digest_344 : decode cX3_digest 344 = .ok (.if_icmp .ge 26, 3) := by decide +kernel
theorem dX3_digest_347 : decode cX3_digest 347 = .ok (.aload 6, 2) := by decide +kernel
theorem dX3_digest_349 : decode cX3_digest 349 = .ok (.iload 8, 2) := by decide +kernel
theorem dX3_digest_351 : decode cX3_digest 351 = .ok (.iaload, 1) := by decide +kernel
theorem dX3_digest_352 : decode cX3_digest 352 = .ok (.istore 9, 2) := by decide +kernel
theorem dX3_digest_354 : decode cX3_digest 354 = .ok (.lload_n 2, 1) := by decide +kernel
theorem dX3_digest_355 : decode cX3_digest 355 = .ok (.ldc2_w 159, 3) := by decide +kernel
theorem dX3_digest_358 : decode cX3_digest 358 = .ok (.lmul, 1) := by decide +kernel
theorem dX3_digest_359 : decode cX3_digest 359 = .ok (.iload 9, 2) := by decide +kernel
theorem dX3_digest_361 : decode cX3_digest 361 = .ok (.i2l, 1) := by decide +kernel
theorem dX3_digest_362 : decode cX3_digest 362 = .ok (.ladd, 1) := by decide +kernel
theorem dX3_digest_363 : decode cX3_digest 363 = .ok (.lstore_n 2, 1) := by decide +kernel
theorem dX3_digest_364 : decode cX3_digest 364 = .ok (.iinc 8 1, 3) := by decide +kernel
theorem dX3_digest_367 : decode cX3_digest 367 = .ok (.goto (-27), 3) := by decide +kernel
theorem dX3_digest_370 : decode cX3_digest 370 = .ok (.iinc 4 1, 3) := by decide +kernel
theorem dX3_digest_373 : decode cX3_digest 373 = .ok (.goto (-128), 3) := by decide +kernel
theorem dX3_digest_376 : decode cX3_digest 376 = .ok (.lload_n 2, 1) := by decide +kernel
theorem dX3_digest_377 : decode cX3_digest 377 = .ok (.lreturn, 1) := by decide +kernel
theorem dJ9_max_7cf53_0 : decode cJ9_max_7cf53 0 = .ok (.iload_n 0, 1) := by decide +kernel
theorem dJ9_max_7cf53_1 : decode cJ9_max_7cf53 1 = .ok (.iload_n 1, 1) := by decide +kernel
theorem dJ9_max_7cf53_2 : decode cJ9_max_7cf53 2 = .ok (.if_icmp .lt 7, 3) := by decide +kernel
theorem dJ9_max_7cf53_5 : decode cJ9_max_7cf53 5 = .ok (.iload_n 0, 1) := by decide +kernel
theorem dJ9_max_7cf53_6 : decode cJ9_max_7cf53 6 = .ok (.goto 4, 3) := by decide +kernel
theorem dJ9_max_7cf53_9 : decode cJ9_max_7cf53 9 = .ok (.iload_n 1, 1) := by decide +kernel
theorem dJ9_max_7cf53_10 : decode cJ9_max_7cf53 10 = .ok (.ireturn, 1) := by decide +kernel
theorem dJ9_min_7cf53_0 : decode cJ9_min_7cf53 0 = .ok (.iload_n 0, 1) := by decide +kernel
theorem dJ9_min_7cf53_1 : decode cJ9_min_7cf53 1 = .ok (.iload_n 1, 1) := by decide +kernel
theorem dJ9_min_7cf53_2 : decode cJ9_min_7cf53 2 = .ok (.if_icmp .gt 7, 3) := by decide +kernel
theorem dJ9_min_7cf53_5 : decode cJ9_min_7cf53 5 = .ok (.iload_n 0, 1) := by decide +kernel
theorem dJ9_min_7cf53_6 : decode cJ9_min_7cf53 6 = .ok (.goto 4, 3) := by decide +kernel
theorem dJ9_min_7cf53_9 : decode cJ9_min_7cf53 9 = .ok (.iload_n 1, 1) := by decide +kernel
theorem dJ9_min_7cf53_10 : decode cJ9_min_7cf53 10 = .ok (.ireturn, 1) := by decide +kernel
end
section
section GF
/-- the class numbers; the array classes of int, boolean, Ship, long; where the texts lie -/
abbrev gE : Type := va_G × ClassId × ClassId × ClassId × ClassId × (Nat → Nat)
abbrev eI (E : gE) : ClassId := E.2.1
abbrev eZ (E : gE) : ClassId := E.2.2.1
abbrev eO (E : gE) : ClassId := E.2.2.2.1
abbrev eL (E : gE) : ClassId := E.2.2.2.2.1
abbrev eS (E : gE) : Nat → Nat := E.2.2.2.2.2
abbrev eTy (E : gE) : List (ClassId × FieldType) := [(eI E, .int), (eZ E, .boolean), (eO E, .object RX1), (eL E, .long)]
def eNw : List Cond := [.fieldLinkNest RX2 118 RX0 "size" "I" RX2, .fieldLinkNest RX2 121 RX0 "next" "I" RX2, .fieldLinkNest RX2 124 RX0 "offsets" "[I" RX2, .fieldLinkNest RX2 127 RX0 "droppedInAll" "I" RX2,
  .fieldLinkNest RX2 134 RX0 "keys" "[I" RX2, .fieldLinkNest RX2 140 RX0 "values" "[I" RX2, .fieldLinkNest RX2 143 RX0 "stormNumbers" "[I" RX2, .fieldLinkNest RX2 165 RX1 "heard" "I" RX2,
  .fieldLinkNest RX2 168 RX1 "missed" "I" RX2, .fieldLinkNest RX2 171 RX1 "known" "[I" RX2, .fieldLinkNest RX2 95 RX1 "pace" "I" RX2, .fieldLinkNest RX2 98 RX1 "offset" "I" RX2,
  .methodLinkNest RX2 9 yX0_init RX2, .methodLinkNest RX2 26 yX1_init RX2, .methodLinkNest RX2 71 yX0_copyStorm RX2, .methodLinkNest RX2 85 yX0_markAhead RX2, .methodLinkNest RX2 130 yX0_positionOf RX2,
  .methodLinkNest RX2 149 yX0_latestOffset RX2, .methodLinkNest RX2 152 yX0_latestValue RX2, .methodLinkNest RX2 155 yX0_countKey RX2, .methodLinkNest RX2 158 yX0_countStorm RX2, .methodLinkNest RX2 180 yX0_countMarked RX2,
  .methodLinkNest RX2 183 yX0_countMarkedFrom RX2, .methodLinkNest RX2 213 yX0_markFirst RX2, .methodLinkNest RX2 216 yX0_append RX2, .methodLinkNest RX2 223 yX0_markCompacted RX2, .methodLinkNest RX2 230 yX0_removeMarked RX2,
  .methodLinkNest RX2 233 yX0_positionFrom RX2, .methodLinkNest RX2 236 yX1_hear RX2, .methodLinkNest RX2 240 yX0_latestPosition RX2,
  .castable "java/lang/IllegalArgumentException" "java/lang/IllegalArgumentException", .castable "java/lang/IllegalStateException" "java/lang/IllegalStateException", .castable "java/lang/IndexOutOfBoundsException" "java/lang/IndexOutOfBoundsException",
  .declares (Bundle.initS "java/lang/RuntimeException"), .declares (Bundle.initS "java/lang/Exception"), .declares (Bundle.initS Bundle.tN)]
def eStr : List (Nat × String) := [(246, "hours is not 1 to 60"), (248, "offset is not 0 to the next one"), (250, "there is no such storm"), (252, "there is no such ship"), (254, "no phrase with this offset is kept"), (39, "key is not 0 to 9"), (44, "value is not -999 to 999"), (56, "a storm is on"), (63, "there were 8 storms"), (65, "no storm is on"), (88, "pace is not 1 to 5"), (93, "there are 6 ships")]
def eNc : List (String × String) := [("java/lang/IllegalArgumentException", "java/lang/IllegalStateException"), ("java/lang/IllegalArgumentException", "java/lang/IndexOutOfBoundsException"), ("java/lang/IllegalStateException", "java/lang/IllegalArgumentException"), ("java/lang/IllegalStateException", "java/lang/IndexOutOfBoundsException"), ("java/lang/IndexOutOfBoundsException", "java/lang/IllegalArgumentException"), ("java/lang/IndexOutOfBoundsException", "java/lang/IllegalStateException")]
def eNk : Cond → Bool
  | .fieldLinkNest .. => true
  | .methodLinkNest .. => true
  | .castable .. => true
  | .declares .. => true
  | _ => false
theorem eNk_warm {w : Cond} (hk : eNk w = true) {s U : State} (hW : s.WarmedH U.vm) (h : va_Nw w s) : va_Nw w U := by
  cases w <;> first | exact va_Nw.warmF hW h | exact va_Nw.warmM hW h | exact va_Nw.warmD hW h | exact va_Nw.warmC hW h | exact absurd hk (by simp [eNk])
theorem eNk_all : ∀ w ∈ eNw, eNk w = true := by decide +kernel
/-- what the tables say, for every method alike -/
def eOk (E : gE) (U : State) : Prop := va_K E.1 vwCl (eTy E) U ∧ (∀ w ∈ eNw, va_Nw w U) ∧ (∀ q ∈ eStr, vk_R RX2 q.1 q.2 (eS E q.1) U) ∧ ∀ q ∈ eNc, va_Nc q.1 q.2 U
theorem eOk.warm {E : gE} {s U : State} (hW : s.WarmedH U.vm) (h : eOk E s) : eOk E U :=
  ⟨va_K.moved hW.alike h.1, fun w hw => eNk_warm (eNk_all w hw) hW (h.2.1 w hw), fun q hq => vk_R.warm hW (h.2.2.1 q hq), fun q hq => va_Nc.moved hW.alike (h.2.2.2 q hq)⟩
/-- the two statics of Throwable that a throw reads, in no cell of A -/
def gZ (A : Nat → Prop) (U : State) (H : Heap) : Prop := vx_Zq Bundle.tN "UNASSIGNED_STACK" Bundle.steD A U H ∧ vx_Zq Bundle.tN "SUPPRESSED_SENTINEL" Bundle.listD A U H
theorem gZ.moved {A : Nat → Prop} {u U : State} {H : Heap} (hvm : u.vm.Alike U.vm) (h : gZ A u H) : gZ A U H := ⟨vx_Zq.moved hvm h.1, vx_Zq.moved hvm h.2⟩
theorem gZ.narrow {A B : Nat → Prop} {U : State} {H : Heap} (h : gZ A U H) (hAB : ∀ q, B q → A q) : gZ B U H := ⟨vx_Zq.narrow h.1 hAB, vx_Zq.narrow h.2 hAB⟩
theorem gZ.kept {A : Nat → Prop} {U : State} {H H1 : Heap} (h : gZ A U H) (hq : ∀ a : Nat, a < H.size → ¬ A a → H1[a]? = H[a]?) : gZ A U H1 := ⟨vx_Zq.kept h.1 hq, vx_Zq.kept h.2 hq⟩
/-- the world ws lies in H, apart, in cells of A; nothing else of the start has changed -/
def gO (E : gE) (A : Nat → Prop) (s : State) (ws : va_W) (H : Heap) (locs : List Loc) : Prop := va_P E.1 vwCl ws H ∧ va_D A ws ∧ va_S A s.heap H locs
/-- a method's start -/
abbrev gP (E : gE) (ws : va_W) (sz : Nat) (av : List Value) : Array Value → State → Prop := va_Pc av (fun U => U.heap.size = sz ∧ va_P E.1 vwCl ws U.heap ∧ eOk E U ∧ va_D (fun _ => True) ws ∧ gZ (va_A ws sz) U U.heap)
theorem gP_blind {E : gE} {ws : va_W} {sz : Nat} {av : List Value} : FrameBlind (gP E ws sz av) := fun a U g mk h => ⟨h.1, h.2.1, h.2.2.1, eOk.warm (s := U) (U := U.calling g mk a) (State.WarmedH.refl U) h.2.2.2.1, h.2.2.2.2.1, gZ.moved (u := U) (U := U.calling g mk a) (Vm.Alike.refl U.vm) h.2.2.2.2.2⟩
abbrev gB (E : gE) (A : Nat → Prop) (ws' : va_W) : State → Prop := fun t => va_P E.1 vwCl ws' t.heap ∧ va_D A ws'
abbrev gQi (E : gE) (A : Nat → Prop) (r : Int32) (ws' : va_W) : Array Value → State → Outcome → State → Prop := va_Qi (S := Unit) (fun x _ => x = r) (fun _ => gB E A ws') A
abbrev gQl (E : gE) (A : Nat → Prop) (r : Int64) (ws' : va_W) : Array Value → State → Outcome → State → Prop := va_Ql (S := Unit) (fun x _ => x = r) (fun _ => gB E A ws') A
abbrev gQd (E : gE) (A : Nat → Prop) (r : UInt64) (ws' : va_W) : Array Value → State → Outcome → State → Prop := va_Qd (S := Unit) (fun x _ => x = r) (fun _ => gB E A ws') A
abbrev gQv (E : gE) (A : Nat → Prop) (ws' : va_W) : Array Value → State → Outcome → State → Prop := va_Qv (S := Unit) (fun _ => True) (fun _ => gB E A ws') A
/-- y, called with av over the world ws, returns r over the world ws' -/
def gMi (l : Launch) (E : gE) (y : MethodName) (wl : List Cond) (rm : Room) (ws : va_W) (av : List Value) (r : Int32) (ws' : va_W) (mc ms : Nat) : Prop := ∀ sz : Nat, Met l y wl rm (gP E ws sz av) (gQi E (va_A ws sz) r ws') mc ms (va_A ws sz)
def gMl (l : Launch) (E : gE) (y : MethodName) (wl : List Cond) (rm : Room) (ws : va_W) (av : List Value) (r : Int64) (ws' : va_W) (mc ms : Nat) : Prop := ∀ sz : Nat, Met l y wl rm (gP E ws sz av) (gQl E (va_A ws sz) r ws') mc ms (va_A ws sz)
def gMd (l : Launch) (E : gE) (y : MethodName) (wl : List Cond) (rm : Room) (ws : va_W) (av : List Value) (r : UInt64) (ws' : va_W) (mc ms : Nat) : Prop := ∀ sz : Nat, Met l y wl rm (gP E ws sz av) (gQd E (va_A ws sz) r ws') mc ms (va_A ws sz)
def gMv (l : Launch) (E : gE) (y : MethodName) (wl : List Cond) (rm : Room) (ws : va_W) (av : List Value) (ws' : va_W) (mc ms : Nat) : Prop := ∀ sz : Nat, Met l y wl rm (gP E ws sz av) (gQv E (va_A ws sz) ws') mc ms (va_A ws sz)
/-- .. or throws, in which case the world is as it was: 'ok' when it returns, 'bad E' when it throws E -/
abbrev gXC (E : gE) (A : Nat → Prop) (bad : String → Prop) (ws : va_W) : String → State → State → Prop := vx_X (S := Unit) (fun _ => True) (fun En _ t => bad En ∧ gB E A ws t) A
abbrev gXQi (E : gE) (A : Nat → Prop) (ok : Prop) (r : Int32) (ws' : va_W) : Array Value → State → Outcome → State → Prop := va_Qi (S := Unit) (fun x _ => ok ∧ x = r) (fun _ => gB E A ws') A
abbrev gXQv (E : gE) (A : Nat → Prop) (ok : Prop) (ws' : va_W) : Array Value → State → Outcome → State → Prop := va_Qv (S := Unit) (fun _ => ok) (fun _ => gB E A ws') A
def gXi (l : Launch) (E : gE) (y : MethodName) (wl : List Cond) (rm : Room) (ws : va_W) (av : List Value) (ok : Prop) (r : Int32) (ws' : va_W) (bad : String → Prop) (mc ms : Nat) : Prop := ∀ sz : Nat, vx_Met l y wl rm (gP E ws sz av) (gXQi E (va_A ws sz) ok r ws') (gXC E (va_A ws sz) bad ws) mc ms (va_A ws sz)
def gXv (l : Launch) (E : gE) (y : MethodName) (wl : List Cond) (rm : Room) (ws : va_W) (av : List Value) (ok : Prop) (ws' : va_W) (bad : String → Prop) (mc ms : Nat) : Prop := ∀ sz : Nat, vx_Met l y wl rm (gP E ws sz av) (gXQv E (va_A ws sz) ok ws') (gXC E (va_A ws sz) bad ws) mc ms (va_A ws sz)
end GF
section GC
variable {p : Program} {l : Launch} {e : Env} {R : Room} {s : State} {m : MethodId} {args : Array Value} {below : List Frame} {meth : Method} {c : Code} {H : Heap} {locs : List Loc} {cells slots : Nat} {Q : State → Prop}
variable {E : gE} {A : Nat → Prop} {ws ws' : va_W} {y : MethodName} {wl wl' : List Cond} {rm : Room} {av : List Value} {mc ms : Nat} {cc bytes : ByteArray} {maxL nL : Nat} {ret : Option FieldType} {Ts : List Cond} {own : String}
/-- what a method's walk has at hand -/
def gCx (p : Program) (s : State) (m : MethodId) (args : Array Value) (meth : Method) (c : Code) (cc : ByteArray) (nL : Nat) (Ts : List Cond) (own : String) (ret : Option FieldType) (E : gE) (A : Nat → Prop) : Prop :=
  p.tables.exec = Jvm.exec ∧ c.code = cc ∧ c.maxLocals = nL ∧ s.vm.findClass own = some m.cls ∧ (∀ w ∈ Ts, w.before args s = true) ∧ meth.sig.returnType = ret ∧ meth.locks = false ∧ eOk E s ∧ (∀ q, s.heap.size ≤ q → A q) ∧ gZ A s s.heap
theorem gCx.fix (C : gCx p s m args meth c cc nL Ts own ret E A) : CallFix p m c cc nL s args Ts own := ⟨C.1, C.2.1, C.2.2.1, C.2.2.2.1, C.2.2.2.2.1⟩
theorem gO.free (hA : ∀ q, s.heap.size ≤ q → A q) (hO : gO E A s ws H locs) : ∀ q, va_A ws H.size q → A q := by
  intro q h
  rcases h with ⟨k, e, h⟩ | h
  · exact hO.2.1.2 k (q, e) h
  · exact hA q (Nat.le_trans hO.2.2.1 h)
theorem gMi.of {ty : FieldType} {r : Int32} (hy : plainName y.cls = true) (hw : wl = Cond.code y cc maxL (some ty) :: wl') (hlen : (lg_sl av).length ≤ maxL)
    (body : ∀ p e s m args below meth c A, gCx p s m args meth c cc maxL wl y.cls (some ty) E A → ∀ ls : Array Slot, lv_has ls maxL (lv_args 0 av) → gO E A s ws s.heap [] → W p l e rm s m args below meth c s.heap [] 0 0 (MQ below (gQi E A r ws') args s mc ms A) (F0 m 0 ls [])) : gMi l E y wl rm ws av r ws' mc ms := by
  intro sz
  refine Met.ofW (cc := cc) (maxL := maxL) (ret := some ty) hy hw ?_
  intro p e s m args below meth c s₁ B hml hv
  obtain ⟨rfl, hsz, hP, eo, hD0, hZ⟩ := hv
  have hts := atoms_spec (ws := wl) B.pre
  have hown : s.vm.findClass y.cls = some m.cls := findClass_of_methodNamed B.named
  subst hsz
  have hl := lv_entry av (n := maxL) hlen
  rw [lg_entry_eq]
  exact body p e s m av.toArray below meth c (va_A ws s.heap.size) ⟨B.exec, B.bytes, hml, hown, hts, B.returns, B.notSynchronized, eo, fun q h => Or.inr h, hZ⟩ _ hl ⟨hP, hD0.self (sz := s.heap.size), va_S.rf⟩
theorem gMv.of (hy : plainName y.cls = true) (hw : wl = Cond.code y cc maxL none :: wl') (hlen : (lg_sl av).length ≤ maxL)
    (body : ∀ p e s m args below meth c A, gCx p s m args meth c cc maxL wl y.cls none E A → ∀ ls : Array Slot, lv_has ls maxL (lv_args 0 av) → gO E A s ws s.heap [] → W p l e rm s m args below meth c s.heap [] 0 0 (MQ below (gQv E A ws') args s mc ms A) (F0 m 0 ls [])) : gMv l E y wl rm ws av ws' mc ms := by
  intro sz
  refine Met.ofW (cc := cc) (maxL := maxL) (ret := none) hy hw ?_
  intro p e s m args below meth c s₁ B hml hv
  obtain ⟨rfl, hsz, hP, eo, hD0, hZ⟩ := hv
  have hts := atoms_spec (ws := wl) B.pre
  have hown : s.vm.findClass y.cls = some m.cls := findClass_of_methodNamed B.named
  subst hsz
  have hl := lv_entry av (n := maxL) hlen
  rw [lg_entry_eq]
  exact body p e s m av.toArray below meth c (va_A ws s.heap.size) ⟨B.exec, B.bytes, hml, hown, hts, B.returns, B.notSynchronized, eo, fun q h => Or.inr h, hZ⟩ _ hl ⟨hP, hD0.self (sz := s.heap.size), va_S.rf⟩
theorem gMl.of {r : Int64} (hy : plainName y.cls = true) (hw : wl = Cond.code y cc maxL (some .long) :: wl') (hlen : (lg_sl av).length ≤ maxL)
    (body : ∀ p e s m args below meth c A, gCx p s m args meth c cc maxL wl y.cls (some .long) E A → ∀ ls : Array Slot, lv_has ls maxL (lv_args 0 av) → gO E A s ws s.heap [] → W p l e rm s m args below meth c s.heap [] 0 0 (MQ below (gQl E A r ws') args s mc ms A) (F0 m 0 ls [])) : gMl l E y wl rm ws av r ws' mc ms := by
  intro sz
  refine Met.ofW (cc := cc) (maxL := maxL) (ret := some .long) hy hw ?_
  intro p e s m args below meth c s₁ B hml hv
  obtain ⟨rfl, hsz, hP, eo, hD0, hZ⟩ := hv
  have hts := atoms_spec (ws := wl) B.pre
  have hown : s.vm.findClass y.cls = some m.cls := findClass_of_methodNamed B.named
  subst hsz
  have hl := lv_entry av (n := maxL) hlen
  rw [lg_entry_eq]
  exact body p e s m av.toArray below meth c (va_A ws s.heap.size) ⟨B.exec, B.bytes, hml, hown, hts, B.returns, B.notSynchronized, eo, fun q h => Or.inr h, hZ⟩ _ hl ⟨hP, hD0.self (sz := s.heap.size), va_S.rf⟩
theorem gMd.of {r : UInt64} (hy : plainName y.cls = true) (hw : wl = Cond.code y cc maxL (some .double) :: wl') (hlen : (lg_sl av).length ≤ maxL)
    (body : ∀ p e s m args below meth c A, gCx p s m args meth c cc maxL wl y.cls (some .double) E A → ∀ ls : Array Slot, lv_has ls maxL (lv_args 0 av) → gO E A s ws s.heap [] → W p l e rm s m args below meth c s.heap [] 0 0 (MQ below (gQd E A r ws') args s mc ms A) (F0 m 0 ls [])) : gMd l E y wl rm ws av r ws' mc ms := by
  intro sz
  refine Met.ofW (cc := cc) (maxL := maxL) (ret := some .double) hy hw ?_
  intro p e s m args below meth c s₁ B hml hv
  obtain ⟨rfl, hsz, hP, eo, hD0, hZ⟩ := hv
  have hts := atoms_spec (ws := wl) B.pre
  have hown : s.vm.findClass y.cls = some m.cls := findClass_of_methodNamed B.named
  subst hsz
  have hl := lv_entry av (n := maxL) hlen
  rw [lg_entry_eq]
  exact body p e s m av.toArray below meth c (va_A ws s.heap.size) ⟨B.exec, B.bytes, hml, hown, hts, B.returns, B.notSynchronized, eo, fun q h => Or.inr h, hZ⟩ _ hl ⟨hP, hD0.self (sz := s.heap.size), va_S.rf⟩
theorem gXi.of {ty : FieldType} {ok : Prop} {r : Int32} {bad : String → Prop} (hy : plainName y.cls = true) (hw : wl = Cond.code y cc maxL (some ty) :: wl') (hlen : (lg_sl av).length ≤ maxL)
    (body : ∀ p e s m args below meth c A, gCx p s m args meth c cc maxL wl y.cls (some ty) E A → (∀ x ∈ c.exceptionTable.toList, False) → ∀ ls : Array Slot, lv_has ls maxL (lv_args 0 av) → gO E A s ws s.heap [] → W p l e rm s m args below meth c s.heap [] 0 0 (vx_MQ below (gXQi E A ok r ws') (gXC E A bad ws) args s mc ms A) (F0 m 0 ls [])) : gXi l E y wl rm ws av ok r ws' bad mc ms := by
  intro sz
  refine vx_ofW (cc := cc) (maxL := maxL) (ret := some ty) hy hw ?_
  intro p e s m args below meth c s₁ B hml ht hv
  obtain ⟨rfl, hsz, hP, eo, hD0, hZ⟩ := hv
  have hts := atoms_spec (ws := wl) B.pre
  have hown : s.vm.findClass y.cls = some m.cls := findClass_of_methodNamed B.named
  subst hsz
  have hl := lv_entry av (n := maxL) hlen
  rw [lg_entry_eq]
  exact body p e s m av.toArray below meth c (va_A ws s.heap.size) ⟨B.exec, B.bytes, hml, hown, hts, B.returns, B.notSynchronized, eo, fun q h => Or.inr h, hZ⟩ ht _ hl ⟨hP, hD0.self (sz := s.heap.size), va_S.rf⟩
theorem gXv.of {ok : Prop} {bad : String → Prop} (hy : plainName y.cls = true) (hw : wl = Cond.code y cc maxL none :: wl') (hlen : (lg_sl av).length ≤ maxL)
    (body : ∀ p e s m args below meth c A, gCx p s m args meth c cc maxL wl y.cls none E A → (∀ x ∈ c.exceptionTable.toList, False) → ∀ ls : Array Slot, lv_has ls maxL (lv_args 0 av) → gO E A s ws s.heap [] → W p l e rm s m args below meth c s.heap [] 0 0 (vx_MQ below (gXQv E A ok ws') (gXC E A bad ws) args s mc ms A) (F0 m 0 ls [])) : gXv l E y wl rm ws av ok ws' bad mc ms := by
  intro sz
  refine vx_ofW (cc := cc) (maxL := maxL) (ret := none) hy hw ?_
  intro p e s m args below meth c s₁ B hml ht hv
  obtain ⟨rfl, hsz, hP, eo, hD0, hZ⟩ := hv
  have hts := atoms_spec (ws := wl) B.pre
  have hown : s.vm.findClass y.cls = some m.cls := findClass_of_methodNamed B.named
  subst hsz
  have hl := lv_entry av (n := maxL) hlen
  rw [lg_entry_eq]
  exact body p e s m av.toArray below meth c (va_A ws s.heap.size) ⟨B.exec, B.bytes, hml, hown, hts, B.returns, B.notSynchronized, eo, fun q h => Or.inr h, hZ⟩ ht _ hl ⟨hP, hD0.self (sz := s.heap.size), va_S.rf⟩
-- ENDS
variable {pc : Nat} {ls : Array Slot} {rest : List Value}
theorem gRi {ty : FieldType} {v r : Int32} (C : gCx p s m args meth c cc nL Ts own (some ty) E A) (hO : gO E A s ws' H locs) (hn : narrow ty (.int v) = .int v) (hv : v = r) (hdg : decode cc pc = .ok (.ireturn, 1)) (h1 : cells ≤ mc) (h2 : slots ≤ ms) : W p l e R s m args below meth c H locs cells slots (MQ below (gQi E A r ws') args s mc ms A) (F0 m pc ls [.int v]) := by
  refine W.widen h1 h2 ?_
  exact W.zret C.1 C.2.1 C.2.2.2.2.2.1 hn (fun t ht hW => ⟨⟨v, (), rfl, hv, by rw [ht]; exact hO.1, hO.2.1⟩, hO.2.2.F ht⟩) hO.2.2.2.2 hdg C.2.2.2.2.2.2.1
theorem gRv (C : gCx p s m args meth c cc nL Ts own none E A) (hO : gO E A s ws' H locs) (hdg : decode cc pc = .ok (.return_, 1)) (h1 : cells ≤ mc) (h2 : slots ≤ ms) : W p l e R s m args below meth c H locs cells slots (MQ below (gQv E A ws') args s mc ms A) (F0 m pc ls []) := by
  refine W.widen h1 h2 ?_
  exact W.vret C.1 C.2.1 C.2.2.2.2.2.1 (fun t ht hW => ⟨⟨(), rfl, trivial, by rw [ht]; exact hO.1, hO.2.1⟩, hO.2.2.F ht⟩) hO.2.2.2.2 hdg C.2.2.2.2.2.2.1
theorem gRl {v r : Int64} (C : gCx p s m args meth c cc nL Ts own (some .long) E A) (hO : gO E A s ws' H locs) (hv : v = r) (hdg : decode cc pc = .ok (.lreturn, 1)) (h1 : cells ≤ mc) (h2 : slots ≤ ms) : W p l e R s m args below meth c H locs cells slots (MQ below (gQl E A r ws') args s mc ms A) (F0 m pc ls [.long v]) := by
  refine W.widen h1 h2 ?_
  exact W.lret C.1 C.2.1 C.2.2.2.2.2.1 (fun t ht hW => ⟨⟨v, (), rfl, hv, by rw [ht]; exact hO.1, hO.2.1⟩, hO.2.2.F ht⟩) hO.2.2.2.2 hdg C.2.2.2.2.2.2.1
theorem gRd {v r : UInt64} (C : gCx p s m args meth c cc nL Ts own (some .double) E A) (hO : gO E A s ws' H locs) (hv : v = r) (hdg : decode cc pc = .ok (.dreturn, 1)) (h1 : cells ≤ mc) (h2 : slots ≤ ms) : W p l e R s m args below meth c H locs cells slots (MQ below (gQd E A r ws') args s mc ms A) (F0 m pc ls [.double v]) := by
  refine W.widen h1 h2 ?_
  exact W.dret C.1 C.2.1 C.2.2.2.2.2.1 (fun t ht hW => ⟨⟨v, (), rfl, hv, by rw [ht]; exact hO.1, hO.2.1⟩, hO.2.2.F ht⟩) hO.2.2.2.2 hdg C.2.2.2.2.2.2.1
theorem gXRi {ty : FieldType} {v r : Int32} {ok : Prop} {XC : String → State → State → Prop} (C : gCx p s m args meth c cc nL Ts own (some ty) E A) (hO : gO E A s ws' H locs) (hn : narrow ty (.int v) = .int v) (hok : ok) (hv : v = r) (hdg : decode cc pc = .ok (.ireturn, 1)) (h1 : cells ≤ mc) (h2 : slots ≤ ms) : W p l e R s m args below meth c H locs cells slots (vx_MQ below (gXQi E A ok r ws') XC args s mc ms A) (F0 m pc ls [.int v]) := by
  refine vx_ret (W.widen h1 h2 ?_)
  exact W.zret C.1 C.2.1 C.2.2.2.2.2.1 hn (fun t ht hW => ⟨⟨v, (), rfl, ⟨hok, hv⟩, by rw [ht]; exact hO.1, hO.2.1⟩, hO.2.2.F ht⟩) hO.2.2.2.2 hdg C.2.2.2.2.2.2.1
theorem gXRv {ok : Prop} {XC : String → State → State → Prop} (C : gCx p s m args meth c cc nL Ts own none E A) (hO : gO E A s ws' H locs) (hok : ok) (hdg : decode cc pc = .ok (.return_, 1)) (h1 : cells ≤ mc) (h2 : slots ≤ ms) : W p l e R s m args below meth c H locs cells slots (vx_MQ below (gXQv E A ok ws') XC args s mc ms A) (F0 m pc ls []) := by
  refine vx_ret (W.widen h1 h2 ?_)
  exact W.vret C.1 C.2.1 C.2.2.2.2.2.1 (fun t ht hW => ⟨⟨(), rfl, hok, by rw [ht]; exact hO.1, hO.2.1⟩, hO.2.2.F ht⟩) hO.2.2.2.2 hdg C.2.2.2.2.2.2.1
/-- a throw that goes on from here: the world is ws, as at the start -/
theorem gXout {E0 : String} {bad : String → Prop} {ce : Cell} {q : Addr} {Qc : Array Value → State → Outcome → State → Prop} (C : gCx p s m args meth c cc nL Ts own ret E A) (hO : gO E A s ws H locs) (hnt : ∀ x ∈ c.exceptionTable.toList, False) (hcell : H[q]? = some ce) (hv : ce.vm = .none) (hcl : s.vm.findClass E0 = some ce.cls) (hb : bad E0) (h1 : cells ≤ mc) (h2 : slots ≤ ms) :
    vx_W p l e R s m args below meth c H locs cells slots (vx_MQ below Qc (gXC E A bad ws) args s mc ms A) (F0 m pc ls rest) q :=
  vx_out (fun x hx => (hnt x hx).elim) C.2.2.2.2.2.2.1 hcell hv hcl (fun t ht _ => ⟨(), trivial, ⟨hb, by rw [ht]; exact hO.1, hO.2.1⟩, hO.2.2.F ht⟩) hO.2.2.2.2 h1 h2
-- CALLS
variable {index n : Nat} {Cn : String} {b : Nat} {As st0 : List Value} {host : String}
theorem gPre (C : gCx p s m args meth c cc nL Ts own ret E A) (hO : gO E A s ws H locs) {U : State} (hU : U.heap = H) (hW : s.WarmedH U.vm) (av : List Value) : gP E ws H.size av av.toArray U :=
  ⟨rfl, by rw [hU], by rw [hU]; exact hO.1, C.2.2.2.2.2.2.2.1.warm hW, ⟨hO.2.1.1, fun _ _ _ => trivial⟩, by
    rw [hU]
    exact ((C.2.2.2.2.2.2.2.2.2.kept hO.2.2.2.1).narrow (gO.free C.2.2.2.2.2.2.2.2.1 hO)).moved hW.alike⟩
theorem gBack (C : gCx p s m args meth c cc nL Ts own ret E A) (hO : gO E A s ws H locs) {t : State} {H1 : Heap} {locs1 : List Loc} (ht : t.heap = H1) (hB : gB E (va_A ws H.size) ws' t) (hS : va_S A s.heap H1 locs1) : gO E A s ws' H1 locs1 :=
  ⟨by rw [← ht]; exact hB.1, ⟨hB.2.1, fun k q hk => gO.free C.2.2.2.2.2.2.2.2.1 hO _ (hB.2.2 k q hk)⟩, hS⟩
theorem gCall_i {r : Int32} (C : gCx p s m args meth c cc nL Ts own ret E A) (hO : gO E A s ws H locs) (hM : gMi l E y wl rm ws (.ref b :: As) r ws' mc ms) {ret1 : Option FieldType} (cw : CallW R s args own Cn index y bytes maxL ret1 wl rm mc ms n) (hrc : ∃ cell : Cell, H[b]? = some cell ∧ cell.vm.isStatics = false ∧ s.vm.findClass Cn = some cell.cls) (hn : As.length = n) (hsize : ls.size = nL) (hst : st0 = As.reverse ++ .ref b :: rest) (hW : (rest.map fun v => v.category).sum ≤ 8) (hdg : decode cc pc = .ok (.invokevirtual index, 3)) (hf : cells + mc ≤ R.cells ∧ slots + ms ≤ R.slots)
    (kk : ∀ (H1 : Heap) (locs1 : List Loc), gO E A s ws' H1 locs1 → W p l e R s m args below meth c H1 locs1 (cells + mc) (slots + ms) Q (F0 m (pc + 3) ls (.int r :: rest))) : W p l e R s m args below meth c H locs cells slots Q (F0 m pc ls st0) := by
  refine va_calli (va_runV (As := As) (rest := rest) C.fix (hM H.size) cw ⟨gP_blind, hrc, fun U hU hW => gPre C hO hU hW _⟩ rfl hn hsize hst (lv_room hW) hdg hf) hO.2.2 (fun q _ h => gO.free C.2.2.2.2.2.2.2.2.1 hO q h) (gO.free C.2.2.2.2.2.2.2.2.1 hO) (fun r1 u t H1 locs1 ht hvm hw hB hz1 hk1 hS => ?_)
  subst hw
  exact kk H1 locs1 (gBack C hO ht hB hS)
theorem gCall_v (C : gCx p s m args meth c cc nL Ts own ret E A) (hO : gO E A s ws H locs) (hM : gMv l E y wl rm ws (.ref b :: As) ws' mc ms) {ret1 : Option FieldType} (cw : CallW R s args own Cn index y bytes maxL ret1 wl rm mc ms n) (hrc : ∃ cell : Cell, H[b]? = some cell ∧ cell.vm.isStatics = false ∧ s.vm.findClass Cn = some cell.cls) (hn : As.length = n) (hsize : ls.size = nL) (hst : st0 = As.reverse ++ .ref b :: rest) (hW : (rest.map fun v => v.category).sum ≤ 8) (hdg : decode cc pc = .ok (.invokevirtual index, 3)) (hf : cells + mc ≤ R.cells ∧ slots + ms ≤ R.slots)
    (kk : ∀ (H1 : Heap) (locs1 : List Loc), gO E A s ws' H1 locs1 → W p l e R s m args below meth c H1 locs1 (cells + mc) (slots + ms) Q (F0 m (pc + 3) ls rest)) : W p l e R s m args below meth c H locs cells slots Q (F0 m pc ls st0) := by
  refine va_callv (va_runV (As := As) (rest := rest) C.fix (hM H.size) cw ⟨gP_blind, hrc, fun U hU hW => gPre C hO hU hW _⟩ rfl hn hsize hst (lv_room hW) hdg hf) hO.2.2 (fun q _ h => gO.free C.2.2.2.2.2.2.2.2.1 hO q h) (gO.free C.2.2.2.2.2.2.2.2.1 hO) (fun u t H1 locs1 ht hvm hw hB hz1 hk1 hS => ?_)
  exact kk H1 locs1 (gBack C hO ht hB hS)
theorem gCall_l {r : Int64} (C : gCx p s m args meth c cc nL Ts own ret E A) (hO : gO E A s ws H locs) (hM : gMl l E y wl rm ws (.ref b :: As) r ws' mc ms) {ret1 : Option FieldType} (cw : CallW R s args own Cn index y bytes maxL ret1 wl rm mc ms n) (hrc : ∃ cell : Cell, H[b]? = some cell ∧ cell.vm.isStatics = false ∧ s.vm.findClass Cn = some cell.cls) (hn : As.length = n) (hsize : ls.size = nL) (hst : st0 = As.reverse ++ .ref b :: rest) (hW : (rest.map fun v => v.category).sum ≤ 8) (hdg : decode cc pc = .ok (.invokevirtual index, 3)) (hf : cells + mc ≤ R.cells ∧ slots + ms ≤ R.slots)
    (kk : ∀ (H1 : Heap) (locs1 : List Loc), gO E A s ws' H1 locs1 → W p l e R s m args below meth c H1 locs1 (cells + mc) (slots + ms) Q (F0 m (pc + 3) ls (.long r :: rest))) : W p l e R s m args below meth c H locs cells slots Q (F0 m pc ls st0) := by
  refine va_calll (va_runV (As := As) (rest := rest) C.fix (hM H.size) cw ⟨gP_blind, hrc, fun U hU hW => gPre C hO hU hW _⟩ rfl hn hsize hst (lv_room hW) hdg hf) hO.2.2 (fun q _ h => gO.free C.2.2.2.2.2.2.2.2.1 hO q h) (gO.free C.2.2.2.2.2.2.2.2.1 hO) (fun r1 u t H1 locs1 ht hvm hw hB hz1 hk1 hS => ?_)
  subst hw
  exact kk H1 locs1 (gBack C hO ht hB hS)
theorem gCall_d {r : UInt64} (C : gCx p s m args meth c cc nL Ts own ret E A) (hO : gO E A s ws H locs) (hM : gMd l E y wl rm ws (.ref b :: As) r ws' mc ms) {ret1 : Option FieldType} (cw : CallW R s args own Cn index y bytes maxL ret1 wl rm mc ms n) (hrc : ∃ cell : Cell, H[b]? = some cell ∧ cell.vm.isStatics = false ∧ s.vm.findClass Cn = some cell.cls) (hn : As.length = n) (hsize : ls.size = nL) (hst : st0 = As.reverse ++ .ref b :: rest) (hW : (rest.map fun v => v.category).sum ≤ 8) (hdg : decode cc pc = .ok (.invokevirtual index, 3)) (hf : cells + mc ≤ R.cells ∧ slots + ms ≤ R.slots)
    (kk : ∀ (H1 : Heap) (locs1 : List Loc), gO E A s ws' H1 locs1 → W p l e R s m args below meth c H1 locs1 (cells + mc) (slots + ms) Q (F0 m (pc + 3) ls (.double r :: rest))) : W p l e R s m args below meth c H locs cells slots Q (F0 m pc ls st0) := by
  refine va_calld (va_runV (As := As) (rest := rest) C.fix (hM H.size) cw ⟨gP_blind, hrc, fun U hU hW => gPre C hO hU hW _⟩ rfl hn hsize hst (lv_room hW) hdg hf) hO.2.2 (fun q _ h => gO.free C.2.2.2.2.2.2.2.2.1 hO q h) (gO.free C.2.2.2.2.2.2.2.2.1 hO) (fun r1 u t H1 locs1 ht hvm hw hB hz1 hk1 hS => ?_)
  subst hw
  exact kk H1 locs1 (gBack C hO ht hB hS)
/-- static calls -/
theorem gCallS_i {r : Int32} (C : gCx p s m args meth c cc nL Ts own ret E A) (hO : gO E A s ws H locs) (hM : gMi l E y wl rm ws As r ws' mc ms) {ret1 : Option FieldType} (cw : CallB R s args own index y bytes maxL ret1 wl rm mc ms n ∧ (Cond.static y).before args s = true) (hn : As.length = n) (hsize : ls.size = nL) (hst : st0 = As.reverse ++ rest) (hW : (rest.map fun v => v.category).sum ≤ 8) (hdg : decode cc pc = .ok (.invokestatic index, 3)) (hf : cells + mc ≤ R.cells ∧ slots + ms ≤ R.slots)
    (kk : ∀ (H1 : Heap) (locs1 : List Loc), gO E A s ws' H1 locs1 → W p l e R s m args below meth c H1 locs1 (cells + mc) (slots + ms) Q (F0 m (pc + 3) ls (.int r :: rest))) : W p l e R s m args below meth c H locs cells slots Q (F0 m pc ls st0) := by
  refine va_calli (va_runS (As := As) (rest := rest) C.fix (hM H.size) cw ⟨gP_blind, fun U hU hW => gPre C hO hU hW _⟩ rfl hn hsize hst (lv_room hW) hdg hf) hO.2.2 (fun q _ h => gO.free C.2.2.2.2.2.2.2.2.1 hO q h) (gO.free C.2.2.2.2.2.2.2.2.1 hO) (fun r1 u t H1 locs1 ht hvm hw hB hz1 hk1 hS => ?_)
  subst hw
  exact kk H1 locs1 (gBack C hO ht hB hS)
theorem gCallS_l {r : Int64} (C : gCx p s m args meth c cc nL Ts own ret E A) (hO : gO E A s ws H locs) (hM : gMl l E y wl rm ws As r ws' mc ms) {ret1 : Option FieldType} (cw : CallB R s args own index y bytes maxL ret1 wl rm mc ms n ∧ (Cond.static y).before args s = true) (hn : As.length = n) (hsize : ls.size = nL) (hst : st0 = As.reverse ++ rest) (hW : (rest.map fun v => v.category).sum ≤ 8) (hdg : decode cc pc = .ok (.invokestatic index, 3)) (hf : cells + mc ≤ R.cells ∧ slots + ms ≤ R.slots)
    (kk : ∀ (H1 : Heap) (locs1 : List Loc), gO E A s ws' H1 locs1 → W p l e R s m args below meth c H1 locs1 (cells + mc) (slots + ms) Q (F0 m (pc + 3) ls (.long r :: rest))) : W p l e R s m args below meth c H locs cells slots Q (F0 m pc ls st0) := by
  refine va_calll (va_runS (As := As) (rest := rest) C.fix (hM H.size) cw ⟨gP_blind, fun U hU hW => gPre C hO hU hW _⟩ rfl hn hsize hst (lv_room hW) hdg hf) hO.2.2 (fun q _ h => gO.free C.2.2.2.2.2.2.2.2.1 hO q h) (gO.free C.2.2.2.2.2.2.2.2.1 hO) (fun r1 u t H1 locs1 ht hvm hw hB hz1 hk1 hS => ?_)
  subst hw
  exact kk H1 locs1 (gBack C hO ht hB hS)
/-- calls of a nest mate's private methods -/
theorem gCallN_i {r : Int32} (C : gCx p s m args meth c cc nL Ts own ret E A) (hO : gO E A s ws H locs) (hM : gMi l E y wl rm ws (.ref b :: As) r ws' mc ms) {ret1 : Option FieldType} (cw : va_CN R s args own index y host bytes maxL ret1 wl rm mc ms n ∧ (Cond.instanceMethod y).before args s = true ∧ (Cond.selects Cn y y).before args s = true) (hrc : ∃ cell : Cell, H[b]? = some cell ∧ cell.vm.isStatics = false ∧ s.vm.findClass Cn = some cell.cls) (hn : As.length = n) (hsize : ls.size = nL) (hst : st0 = As.reverse ++ .ref b :: rest) (hW : (rest.map fun v => v.category).sum ≤ 8) (hdg : decode cc pc = .ok (.invokevirtual index, 3)) (hf : cells + mc ≤ R.cells ∧ slots + ms ≤ R.slots)
    (kk : ∀ (H1 : Heap) (locs1 : List Loc), gO E A s ws' H1 locs1 → W p l e R s m args below meth c H1 locs1 (cells + mc) (slots + ms) Q (F0 m (pc + 3) ls (.int r :: rest))) : W p l e R s m args below meth c H locs cells slots Q (F0 m pc ls st0) := by
  refine va_calli (va_runVN (As := As) (rest := rest) C.fix (hM H.size) cw ⟨gP_blind, hrc, fun U hU hW => gPre C hO hU hW _⟩ rfl hn hsize hst (lv_room hW) hdg hf) hO.2.2 (fun q _ h => gO.free C.2.2.2.2.2.2.2.2.1 hO q h) (gO.free C.2.2.2.2.2.2.2.2.1 hO) (fun r1 u t H1 locs1 ht hvm hw hB hz1 hk1 hS => ?_)
  subst hw
  exact kk H1 locs1 (gBack C hO ht hB hS)
theorem gCallN_v (C : gCx p s m args meth c cc nL Ts own ret E A) (hO : gO E A s ws H locs) (hM : gMv l E y wl rm ws (.ref b :: As) ws' mc ms) {ret1 : Option FieldType} (cw : va_CN R s args own index y host bytes maxL ret1 wl rm mc ms n ∧ (Cond.instanceMethod y).before args s = true ∧ (Cond.selects Cn y y).before args s = true) (hrc : ∃ cell : Cell, H[b]? = some cell ∧ cell.vm.isStatics = false ∧ s.vm.findClass Cn = some cell.cls) (hn : As.length = n) (hsize : ls.size = nL) (hst : st0 = As.reverse ++ .ref b :: rest) (hW : (rest.map fun v => v.category).sum ≤ 8) (hdg : decode cc pc = .ok (.invokevirtual index, 3)) (hf : cells + mc ≤ R.cells ∧ slots + ms ≤ R.slots)
    (kk : ∀ (H1 : Heap) (locs1 : List Loc), gO E A s ws' H1 locs1 → W p l e R s m args below meth c H1 locs1 (cells + mc) (slots + ms) Q (F0 m (pc + 3) ls rest)) : W p l e R s m args below meth c H locs cells slots Q (F0 m pc ls st0) := by
  refine va_callv (va_runVN (As := As) (rest := rest) C.fix (hM H.size) cw ⟨gP_blind, hrc, fun U hU hW => gPre C hO hU hW _⟩ rfl hn hsize hst (lv_room hW) hdg hf) hO.2.2 (fun q _ h => gO.free C.2.2.2.2.2.2.2.2.1 hO q h) (gO.free C.2.2.2.2.2.2.2.2.1 hO) (fun u t H1 locs1 ht hvm hw hB hz1 hk1 hS => ?_)
  exact kk H1 locs1 (gBack C hO ht hB hS)
-- FIELDS AND ARRAYS
theorem gPut {ref : String} {T : u_T} {N ci : Nat} {a : Nat} (C : gCx p s m args meth c cc nL Ts own ret E A) (hin : ∀ w ∈ u_ws Cn T N, w ∈ Ts) (ty0 : Nat → FieldType) (hty : ∀ k, k < N → parseFieldDescriptor (T k).2.2.1 = some (ty0 k)) (hnm : ∀ a, a < N → ∀ b, b < N → a ≠ b → (T a).2.1 ≠ (T b).2.1) (hO : gO E A s ws H locs) (q0 : Nat) {fs : List Value} (he : ws[q0]? = some (a, .inr (ci, fs))) (hc : vwCl[ci]? = some (Cn, T, N)) (k : Nat) (hk : k < N) (hlink : Cond.fieldLink own index ref (T k).2.1 (T k).2.2.1 ∈ Ts) (hsame : ∀ x, s.fieldFound? (T k).1 (T k).2.1 (T k).2.2.1 = some x → s.fieldFound? ref (T k).2.1 (T k).2.2.1 = some x) (hfin : (T k).2.2.2 = false) {v : Value} (hd : parseFieldDescriptor (T k).2.2.1 = some (ty0 k)) (hn : narrow (ty0 k) v = v) (hfit : fits (ty0 k) v = true) (hl : k < fs.length) (hw : ws.set q0 (a, .inr (ci, fs.set k v)) = ws')
    (hdg : decode cc pc = .ok (.putfield index, 3)) (kk : ∀ (H1 : Heap) (locs1 : List Loc), gO E A s ws' H1 locs1 → W p l e R s m args below meth c H1 locs1 cells slots Q (F0 m (pc + 3) ls rest)) : W p l e R s m args below meth c H locs cells slots Q (F0 m pc ls (v :: .ref a :: rest)) :=
  va_put C.1 C.2.1 C.2.2.2.2.1 hin ty0 hty hnm C.2.2.2.1 C.2.2.2.2.2.2.2.1.1 hO.1 hO.2.1 hO.2.2 q0 he hc k hk (C.2.2.2.2.1 _ hlink) hsame hfin hd hn hfit hl hdg (fun H1 locs1 hP hD hS => kk H1 locs1 ⟨hw ▸ hP, hw ▸ hD, hS⟩)
theorem gPutN {ref : String} {T : u_T} {N ci : Nat} {a : Nat} (C : gCx p s m args meth c cc nL Ts own ret E A) (hin : ∀ w ∈ u_ws Cn T N, w ∈ Ts) (ty0 : Nat → FieldType) (hty : ∀ k, k < N → parseFieldDescriptor (T k).2.2.1 = some (ty0 k)) (hnm : ∀ a, a < N → ∀ b, b < N → a ≠ b → (T a).2.1 ≠ (T b).2.1) (hO : gO E A s ws H locs) (q0 : Nat) {fs : List Value} (he : ws[q0]? = some (a, .inr (ci, fs))) (hc : vwCl[ci]? = some (Cn, T, N)) (k : Nat) (hk : k < N) (hlink : Cond.fieldLinkNest own index ref (T k).2.1 (T k).2.2.1 host ∈ eNw) (hsame : ∀ x, s.fieldFound? (T k).1 (T k).2.1 (T k).2.2.1 = some x → s.fieldFound? ref (T k).2.1 (T k).2.2.1 = some x) (hfin : (T k).2.2.2 = false) {v : Value} (hd : parseFieldDescriptor (T k).2.2.1 = some (ty0 k)) (hn : narrow (ty0 k) v = v) (hfit : fits (ty0 k) v = true) (hl : k < fs.length) (hw : ws.set q0 (a, .inr (ci, fs.set k v)) = ws')
    (hdg : decode cc pc = .ok (.putfield index, 3)) (kk : ∀ (H1 : Heap) (locs1 : List Loc), gO E A s ws' H1 locs1 → W p l e R s m args below meth c H1 locs1 cells slots Q (F0 m (pc + 3) ls rest)) : W p l e R s m args below meth c H locs cells slots Q (F0 m pc ls (v :: .ref a :: rest)) :=
  va_putN C.1 C.2.1 C.2.2.2.2.1 hin ty0 hty hnm C.2.2.2.1 C.2.2.2.2.2.2.2.1.1 hO.1 hO.2.1 hO.2.2 q0 he hc k hk (va_Nw.use rfl (C.2.2.2.2.2.2.2.1.2.1 _ hlink)) hsame hfin hd hn hfit hl hdg (fun H1 locs1 hP hD hS => kk H1 locs1 ⟨hw ▸ hP, hw ▸ hD, hS⟩)
theorem gGet {ref : String} {T : u_T} {N ci : Nat} {a : Nat} (C : gCx p s m args meth c cc nL Ts own ret E A) (hin : ∀ w ∈ u_ws Cn T N, w ∈ Ts) (hO : gO E A s ws H locs) (q0 : Nat) {fs : List Value} (he : ws[q0]? = some (a, .inr (ci, fs))) (hc : vwCl[ci]? = some (Cn, T, N)) (k : Nat) (hk : k < N) (hlink : Cond.fieldLink own index ref (T k).2.1 (T k).2.2.1 ∈ Ts) (hsame : ∀ x, s.fieldFound? (T k).1 (T k).2.1 (T k).2.2.1 = some x → s.fieldFound? ref (T k).2.1 (T k).2.2.1 = some x) {v : Value} (hv : fs[k]? = some v)
    (hdg : decode cc pc = .ok (.getfield index, 3)) (kk : W p l e R s m args below meth c H locs cells slots Q (F0 m (pc + 3) ls (v :: rest))) : W p l e R s m args below meth c H locs cells slots Q (F0 m pc ls (.ref a :: rest)) :=
  va_get C.1 C.2.1 C.2.2.2.2.1 hin C.2.2.2.1 C.2.2.2.2.2.2.2.1.1 hO.1 q0 he hc k hk (C.2.2.2.2.1 _ hlink) hsame hv hdg kk
theorem gGetN {ref : String} {T : u_T} {N ci : Nat} {a : Nat} (C : gCx p s m args meth c cc nL Ts own ret E A) (hin : ∀ w ∈ u_ws Cn T N, w ∈ Ts) (hO : gO E A s ws H locs) (q0 : Nat) {fs : List Value} (he : ws[q0]? = some (a, .inr (ci, fs))) (hc : vwCl[ci]? = some (Cn, T, N)) (k : Nat) (hk : k < N) (hlink : Cond.fieldLinkNest own index ref (T k).2.1 (T k).2.2.1 host ∈ eNw) (hsame : ∀ x, s.fieldFound? (T k).1 (T k).2.1 (T k).2.2.1 = some x → s.fieldFound? ref (T k).2.1 (T k).2.2.1 = some x) {v : Value} (hv : fs[k]? = some v)
    (hdg : decode cc pc = .ok (.getfield index, 3)) (kk : W p l e R s m args below meth c H locs cells slots Q (F0 m (pc + 3) ls (v :: rest))) : W p l e R s m args below meth c H locs cells slots Q (F0 m pc ls (.ref a :: rest)) :=
  va_getN C.1 C.2.1 C.2.2.2.2.1 hin C.2.2.2.1 C.2.2.2.2.2.2.2.1.1 hO.1 q0 he hc k hk (va_Nw.use rfl (C.2.2.2.2.2.2.2.1.2.1 _ hlink)) hsame hv hdg kk
theorem gIald {a N : Nat} {f : Nat → Int32} {j : Nat} {v : Int32} (C : gCx p s m args meth c cc nL Ts own ret E A) (hO : gO E A s ws H locs) (q0 : Nat) (ha : ws[q0]? = some (a, .inl (eI E, N, .inl f))) (hj : j < N) (hN : N ≤ 100) (hv : f j = v) (hdg : decode cc pc = .ok (.iaload, 1))
    (kk : W p l e R s m args below meth c H locs cells slots Q (F0 m (pc + 1) ls (.int v :: rest))) : W p l e R s m args below meth c H locs cells slots Q (F0 m pc ls (.int (nI j) :: .ref a :: rest)) := by
  refine va_iald C.1 C.2.1 C.2.2.2.2.2.2.2.1.1 hO.1 q0 0 ha rfl (vp_in_nI hj (by omega)) hdg ?_
  rw [nI_clamp (by omega), hv]
  exact kk
theorem gZald {a N : Nat} {f : Nat → Int32} {j : Nat} {v : Int32} (C : gCx p s m args meth c cc nL Ts own ret E A) (hO : gO E A s ws H locs) (q0 : Nat) (ha : ws[q0]? = some (a, .inl (eZ E, N, .inl f))) (hj : j < N) (hN : N ≤ 100) (hv : f j = v) (hdg : decode cc pc = .ok (.baload, 1))
    (kk : W p l e R s m args below meth c H locs cells slots Q (F0 m (pc + 1) ls (.int v :: rest))) : W p l e R s m args below meth c H locs cells slots Q (F0 m pc ls (.int (nI j) :: .ref a :: rest)) := by
  refine va_zald C.1 C.2.1 C.2.2.2.2.2.2.2.1.1 hO.1 q0 1 ha rfl (vp_in_nI hj (by omega)) hdg ?_
  rw [nI_clamp (by omega), hv]
  exact kk
theorem gAald {a N : Nat} {f : Nat → Option Nat} {j v : Nat} (C : gCx p s m args meth c cc nL Ts own ret E A) (hO : gO E A s ws H locs) (q0 : Nat) (ha : ws[q0]? = some (a, .inl (eO E, N, .inr (.inr (.inr (.inr f)))))) (hj : j < N) (hN : N ≤ 100) (hv : f j = some v) (hdg : decode cc pc = .ok (.aaload, 1))
    (kk : W p l e R s m args below meth c H locs cells slots Q (F0 m (pc + 1) ls (.ref v :: rest))) : W p l e R s m args below meth c H locs cells slots Q (F0 m pc ls (.int (nI j) :: .ref a :: rest)) := by
  refine va_aldq (C := RX1) C.1 C.2.1 C.2.2.2.2.2.2.2.1.1 hO.1 q0 2 ha rfl (vp_in_nI hj (by omega)) hdg ?_
  rw [nI_clamp (by omega), hv]
  exact kk
theorem gIast {a N : Nat} {f : Nat → Int32} {j : Nat} {x : Int32} (C : gCx p s m args meth c cc nL Ts own ret E A) (hO : gO E A s ws H locs) (q0 : Nat) (ha : ws[q0]? = some (a, .inl (eI E, N, .inl f))) (hj : j < N) (hN : N ≤ 100) (hw : ws.set q0 (a, .inl (eI E, N, .inl (upd f j x))) = ws') (hdg : decode cc pc = .ok (.iastore, 1))
    (kk : ∀ (H1 : Heap) (locs1 : List Loc), gO E A s ws' H1 locs1 → W p l e R s m args below meth c H1 locs1 cells slots Q (F0 m (pc + 1) ls rest)) : W p l e R s m args below meth c H locs cells slots Q (F0 m pc ls (.int x :: .int (nI j) :: .ref a :: rest)) := by
  refine va_iast C.1 C.2.1 C.2.2.2.2.2.2.2.1.1 hO.1 hO.2.1 hO.2.2 q0 0 ha rfl (vp_in_nI hj (by omega)) hdg (fun H1 locs1 hP hD hS => ?_)
  rw [nI_clamp (by omega), hw] at hP hD
  exact kk H1 locs1 ⟨hP, hD, hS⟩
theorem gZast {a N : Nat} {f : Nat → Int32} {j : Nat} {x : Int32} (C : gCx p s m args meth c cc nL Ts own ret E A) (hO : gO E A s ws H locs) (q0 : Nat) (ha : ws[q0]? = some (a, .inl (eZ E, N, .inl f))) (hj : j < N) (hN : N ≤ 100) (hx : vp_nar .boolean x = x) (hw : ws.set q0 (a, .inl (eZ E, N, .inl (upd f j x))) = ws') (hdg : decode cc pc = .ok (.bastore, 1))
    (kk : ∀ (H1 : Heap) (locs1 : List Loc), gO E A s ws' H1 locs1 → W p l e R s m args below meth c H1 locs1 cells slots Q (F0 m (pc + 1) ls rest)) : W p l e R s m args below meth c H locs cells slots Q (F0 m pc ls (.int x :: .int (nI j) :: .ref a :: rest)) := by
  refine va_zast C.1 C.2.1 C.2.2.2.2.2.2.2.1.1 hO.1 hO.2.1 hO.2.2 q0 1 ha rfl (vp_in_nI hj (by omega)) hdg (fun H1 locs1 hP hD hS => ?_)
  rw [nI_clamp (by omega), hx, hw] at hP hD
  exact kk H1 locs1 ⟨hP, hD, hS⟩
-- NUMBERS THAT COUNT
theorem gAddN {x y : Nat} (hexec : p.tables.exec = Jvm.exec) (hb : c.code = cc) (hdg : decode cc pc = .ok (.iadd, 1)) (k : W p l e R s m args below meth c H locs cells slots Q (F0 m (pc + 1) ls (.int (nI (x + y)) :: rest))) : W p l e R s m args below meth c H locs cells slots Q (F0 m pc ls (.int (nI y) :: .int (nI x) :: rest)) :=
  lv_iadd hexec hb hdg (by rw [nI_add]; exact k)
theorem gSubN {x y : Nat} (hexec : p.tables.exec = Jvm.exec) (hb : c.code = cc) (hle : y ≤ x) (hdg : decode cc pc = .ok (.isub, 1)) (k : W p l e R s m args below meth c H locs cells slots Q (F0 m (pc + 1) ls (.int (nI (x - y)) :: rest))) : W p l e R s m args below meth c H locs cells slots Q (F0 m pc ls (.int (nI y) :: .int (nI x) :: rest)) :=
  lv_isub hexec hb hdg (by rw [pk_sub hle]; exact k)
theorem gMulN {x y : Nat} (hexec : p.tables.exec = Jvm.exec) (hb : c.code = cc) (hdg : decode cc pc = .ok (.imul, 1)) (k : W p l e R s m args below meth c H locs cells slots Q (F0 m (pc + 1) ls (.int (nI (x * y)) :: rest))) : W p l e R s m args below meth c H locs cells slots Q (F0 m pc ls (.int (nI y) :: .int (nI x) :: rest)) :=
  lv_imul hexec hb hdg (by rw [pk_mul]; exact k)
theorem gLtN {x y tgt : Nat} {off : Int} (hexec : p.tables.exec = Jvm.exec) (hb : c.code = cc) (h1 : x < 1000000) (h2 : y < 1000000) (hdg : decode cc pc = .ok (.if_icmp .lt off, 3)) (ht : (pc : Int) + off = (tgt : Int)) (kt : x < y → W p l e R s m args below meth c H locs cells slots Q (F0 m tgt ls rest)) (kf : y ≤ x → W p l e R s m args below meth c H locs cells slots Q (F0 m (pc + 3) ls rest)) : W p l e R s m args below meth c H locs cells slots Q (F0 m pc ls (.int (nI y) :: .int (nI x) :: rest)) :=
  lv_icmp_lt hexec hb hdg ht (fun h => kt ((nI_ltI (by omega) (by omega)).mp h)) (fun h => kf (by rw [nI_ltI (by omega) (by omega)] at h; omega))
theorem gGeN {x y tgt : Nat} {off : Int} (hexec : p.tables.exec = Jvm.exec) (hb : c.code = cc) (h1 : x < 1000000) (h2 : y < 1000000) (hdg : decode cc pc = .ok (.if_icmp .ge off, 3)) (ht : (pc : Int) + off = (tgt : Int)) (kt : y ≤ x → W p l e R s m args below meth c H locs cells slots Q (F0 m tgt ls rest)) (kf : x < y → W p l e R s m args below meth c H locs cells slots Q (F0 m (pc + 3) ls rest)) : W p l e R s m args below meth c H locs cells slots Q (F0 m pc ls (.int (nI y) :: .int (nI x) :: rest)) :=
  lv_icmp_ge hexec hb hdg ht (fun h => kt ((nI_leI (by omega) (by omega)).mp h)) (fun h => kf (by rw [nI_leI (by omega) (by omega)] at h; omega))
theorem gGtN {x y tgt : Nat} {off : Int} (hexec : p.tables.exec = Jvm.exec) (hb : c.code = cc) (h1 : x < 1000000) (h2 : y < 1000000) (hdg : decode cc pc = .ok (.if_icmp .gt off, 3)) (ht : (pc : Int) + off = (tgt : Int)) (kt : y < x → W p l e R s m args below meth c H locs cells slots Q (F0 m tgt ls rest)) (kf : x ≤ y → W p l e R s m args below meth c H locs cells slots Q (F0 m (pc + 3) ls rest)) : W p l e R s m args below meth c H locs cells slots Q (F0 m pc ls (.int (nI y) :: .int (nI x) :: rest)) :=
  lv_icmp_gt hexec hb hdg ht (fun h => kt ((nI_ltI (by omega) (by omega)).mp h)) (fun h => kf (by rw [nI_ltI (by omega) (by omega)] at h; omega))
theorem gLeN {x y tgt : Nat} {off : Int} (hexec : p.tables.exec = Jvm.exec) (hb : c.code = cc) (h1 : x < 1000000) (h2 : y < 1000000) (hdg : decode cc pc = .ok (.if_icmp .le off, 3)) (ht : (pc : Int) + off = (tgt : Int)) (kt : x ≤ y → W p l e R s m args below meth c H locs cells slots Q (F0 m tgt ls rest)) (kf : y < x → W p l e R s m args below meth c H locs cells slots Q (F0 m (pc + 3) ls rest)) : W p l e R s m args below meth c H locs cells slots Q (F0 m pc ls (.int (nI y) :: .int (nI x) :: rest)) :=
  lv_icmp_le hexec hb hdg ht (fun h => kt ((nI_leI (by omega) (by omega)).mp h)) (fun h => kf (by rw [nI_leI (by omega) (by omega)] at h; omega))
theorem gEqN {x y tgt : Nat} {off : Int} (hexec : p.tables.exec = Jvm.exec) (hb : c.code = cc) (h1 : x < 1000000) (h2 : y < 1000000) (hdg : decode cc pc = .ok (.if_icmp .eq off, 3)) (ht : (pc : Int) + off = (tgt : Int)) (kt : x = y → W p l e R s m args below meth c H locs cells slots Q (F0 m tgt ls rest)) (kf : x ≠ y → W p l e R s m args below meth c H locs cells slots Q (F0 m (pc + 3) ls rest)) : W p l e R s m args below meth c H locs cells slots Q (F0 m pc ls (.int (nI y) :: .int (nI x) :: rest)) :=
  lv_icmp_eq hexec hb hdg ht (fun h => kt ((nI_eq (by omega) (by omega)).mp h)) (fun h => kf (fun q => h (by rw [q])))
theorem gNeN {x y tgt : Nat} {off : Int} (hexec : p.tables.exec = Jvm.exec) (hb : c.code = cc) (h1 : x < 1000000) (h2 : y < 1000000) (hdg : decode cc pc = .ok (.if_icmp .ne off, 3)) (ht : (pc : Int) + off = (tgt : Int)) (kt : x ≠ y → W p l e R s m args below meth c H locs cells slots Q (F0 m tgt ls rest)) (kf : x = y → W p l e R s m args below meth c H locs cells slots Q (F0 m (pc + 3) ls rest)) : W p l e R s m args below meth c H locs cells slots Q (F0 m pc ls (.int (nI y) :: .int (nI x) :: rest)) :=
  lv_icmp_ne hexec hb hdg ht (fun h => kt (fun q => h (by rw [q]))) (fun h => kf ((nI_eq (by omega) (by omega)).mp h))
/-- a counter goes up by one -/
theorem gInc {i k j n9 : Nat} {lv lv' : List (Nat × Value)} (hexec : p.tables.exec = Jvm.exec) (hb : c.code = cc) (hdg : decode cc pc = .ok (.iinc i 1, 3)) (h : lv_has ls n9 lv) (hk : lv[k]? = some (i, .int (nI j))) (hn : i < n9) (hl : (i, Value.int (nI (j + 1))) :: lv.filter (fun q => !(q.1 == i) && !(q.1 + 1 == i && q.2.category == 2)) = lv')
    (kk : ∀ ls' : Array Slot, lv_has ls' n9 lv' → W p l e R s m args below meth c H locs cells slots Q (F0 m (pc + 3) ls' rest)) : W p l e R s m args below meth c H locs cells slots Q (F0 m pc ls rest) :=
  lv_iinc (v := nI (j + 1)) hexec hb hdg h hk (by rw [← nI_1]; rfl) hn hl kk
/-- .. or down -/
theorem gDec {i k j n9 : Nat} {lv lv' : List (Nat × Value)} (hexec : p.tables.exec = Jvm.exec) (hb : c.code = cc) (hdg : decode cc pc = .ok (.iinc i (-1), 3)) (h : lv_has ls n9 lv) (hk : lv[k]? = some (i, .int (nI (j + 1)))) (hn : i < n9) (hl : (i, Value.int (nI j)) :: lv.filter (fun q => !(q.1 == i) && !(q.1 + 1 == i && q.2.category == 2)) = lv')
    (kk : ∀ ls' : Array Slot, lv_has ls' n9 lv' → W p l e R s m args below meth c H locs cells slots Q (F0 m (pc + 3) ls' rest)) : W p l e R s m args below meth c H locs cells slots Q (F0 m pc ls rest) :=
  lv_iinc (v := nI j) hexec hb hdg h hk (pk_m1 j) hn hl kk
end GC
end
section
theorem iNlt {x y : Int32} (h : y ≤ x) : ¬ x < y := by rw [Int32.le_iff_toInt_le] at h; rw [Int32.lt_iff_toInt_lt]; omega
theorem iLt {x y : Int32} (h : ¬ y ≤ x) : x < y := by rw [Int32.le_iff_toInt_le] at h; rw [Int32.lt_iff_toInt_lt]; omega
theorem bT {P : Prop} [Decidable P] (h : ¬ (if P then (1 : Int32) else 0) = 0) : P := by
  by_cases q : P
  · exact q
  · rw [if_neg q] at h; exact absurd rfl h
theorem bF {P : Prop} [Decidable P] (h : (if P then (1 : Int32) else 0) = 0) : ¬ P := by
  intro q
  rw [if_pos q] at h
  exact absurd h (by decide)
theorem eNw_ot : ∀ w ∈ eNw, w.onTables = true := by decide +kernel
section GD
variable {p : Program} {l : Launch} {e : Env} {R : Room} {s : State} {m : MethodId} {args : Array Value} {below : List Frame} {meth : Method} {c : Code} {H : Heap} {locs : List Loc} {cells slots : Nat} {Q : State → Prop}
variable {E : gE} {A : Nat → Prop} {ws ws' : va_W} {y : MethodName} {wl wl' : List Cond} {rm : Room} {av : List Value} {mc ms : Nat} {cc bytes : ByteArray} {maxL nL : Nat} {ret : Option FieldType} {Ts : List Cond} {own : String}
variable {pc : Nat} {ls : Array Slot} {rest : List Value} {index n : Nat} {Cn : String} {b : Nat} {As st0 : List Value} {host : String}
theorem gNb (C : gCx p s m args meth c cc nL Ts own ret E A) : ∀ w ∈ eNw, w.before args s = true := fun w hw => va_Nw.use (eNw_ot w hw) (C.2.2.2.2.2.2.2.1.2.1 w hw)
theorem lv_eqi {x y : Int32} (h : x = y) (k : W p l e R s m args below meth c H locs cells slots Q (F0 m pc ls (.int y :: rest))) : W p l e R s m args below meth c H locs cells slots Q (F0 m pc ls (.int x :: rest)) := h ▸ k
theorem gGeI {x y : Int32} {tgt : Nat} {off : Int} (hexec : p.tables.exec = Jvm.exec) (hb : c.code = cc) (hdg : decode cc pc = .ok (.if_icmp .ge off, 3)) (ht : (pc : Int) + off = (tgt : Int)) (kt : ¬ x < y → W p l e R s m args below meth c H locs cells slots Q (F0 m tgt ls rest)) (kf : x < y → W p l e R s m args below meth c H locs cells slots Q (F0 m (pc + 3) ls rest)) : W p l e R s m args below meth c H locs cells slots Q (F0 m pc ls (.int y :: .int x :: rest)) :=
  lv_icmp_ge hexec hb hdg ht (fun h => kt (iNlt h)) (fun h => kf (iLt h))
theorem gLeI {x y : Int32} {tgt : Nat} {off : Int} (hexec : p.tables.exec = Jvm.exec) (hb : c.code = cc) (hdg : decode cc pc = .ok (.if_icmp .le off, 3)) (ht : (pc : Int) + off = (tgt : Int)) (kt : ¬ y < x → W p l e R s m args below meth c H locs cells slots Q (F0 m tgt ls rest)) (kf : y < x → W p l e R s m args below meth c H locs cells slots Q (F0 m (pc + 3) ls rest)) : W p l e R s m args below meth c H locs cells slots Q (F0 m pc ls (.int y :: .int x :: rest)) :=
  lv_icmp_le hexec hb hdg ht (fun h => kt (iNlt h)) (fun h => kf (iLt h))
theorem gGe0 {x : Int32} {tgt : Nat} {off : Int} (hexec : p.tables.exec = Jvm.exec) (hb : c.code = cc) (hdg : decode cc pc = .ok (.ifCond .ge off, 3)) (ht : (pc : Int) + off = (tgt : Int)) (kt : ¬ x < 0 → W p l e R s m args below meth c H locs cells slots Q (F0 m tgt ls rest)) (kf : x < 0 → W p l e R s m args below meth c H locs cells slots Q (F0 m (pc + 3) ls rest)) : W p l e R s m args below meth c H locs cells slots Q (F0 m pc ls (.int x :: rest)) :=
  lv_if_ge hexec hb hdg ht (fun h => kt (iNlt h)) (fun h => kf (iLt h))
theorem gLe0 {x : Int32} {tgt : Nat} {off : Int} (hexec : p.tables.exec = Jvm.exec) (hb : c.code = cc) (hdg : decode cc pc = .ok (.ifCond .le off, 3)) (ht : (pc : Int) + off = (tgt : Int)) (kt : ¬ 0 < x → W p l e R s m args below meth c H locs cells slots Q (F0 m tgt ls rest)) (kf : 0 < x → W p l e R s m args below meth c H locs cells slots Q (F0 m (pc + 3) ls rest)) : W p l e R s m args below meth c H locs cells slots Q (F0 m pc ls (.int x :: rest)) :=
  lv_if_le hexec hb hdg ht (fun h => kt (iNlt h)) (fun h => kf (iLt h))
/-- throw new E0(text), over the world as it was at the start -/
theorem gThrow {E0 text : String} {ik is ic sa : Nat} {bad : String → Prop} {Qc : Array Value → State → Outcome → State → Prop} (C : gCx p s m args meth c cc nL Ts own ret E A) (hst : l.stackTraces = false) (hO : gO E A s ws H locs) (hnt : ∀ x ∈ c.exceptionTable.toList, False) (hsize : ls.size = nL)
    (hcls : Bundle.fit E0 = true) (hk : (Cond.classLink own ik E0).before args s = true) (hini : (Cond.initialized E0).before args s = true) (hstr : vk_R own is text sa s) (hat : ∀ w ∈ vx_atS own ic E0 ["java/lang/RuntimeException", "java/lang/Exception"], w.before args s = true)
    (hgood : ∀ w ∈ Cond.classLink own ik E0 :: Cond.initialized E0 :: vx_atS own ic E0 ["java/lang/RuntimeException", "java/lang/Exception"], vx_ot w = true) (hb : bad E0)
    (d0 : decode cc pc = .ok (.new ik, 3)) (d3 : decode cc (pc + 3) = .ok (.dup, 1)) (d4 : decode cc (pc + 4) = .ok (.ldc is, 2)) (d6 : decode cc (pc + 6) = .ok (.invokespecial ic, 3)) (d9 : decode cc (pc + 9) = .ok (.athrow, 1))
    (hRframes : 5 < R.frames) (hRlocals : (rest.map fun v => v.category).sum + 82 ≤ R.locals) (hRcells : cells + 1 ≤ R.cells) (hRslots : slots + 6 ≤ R.slots) (h1 : cells + 1 ≤ mc) (h2 : slots + 6 ≤ ms) :
    W p l e R s m args below meth c H locs cells slots (vx_MQ below Qc (gXC E A bad ws) args s mc ms A) (F0 m pc ls rest) :=
  vx_throwS (names := ["java/lang/RuntimeException", "java/lang/Exception"]) (A := A) C.1 C.2.1 hst C.2.2.2.1 hcls (by decide +kernel) hk hini hstr hat hgood C.2.2.2.2.2.2.2.2.2.1 C.2.2.2.2.2.2.2.2.2.2 hO.2.2 (hsize.trans C.2.2.1.symm) d0 d3 d4 d6 d9 (fun x hx => (hnt x hx).elim) hRframes hRlocals hRcells hRslots C.2.2.2.2.2.2.1
    (fun t _ hz hk => ⟨(), trivial, ⟨hb, hO.1.kept (fun k q hq => hk q.1 ((hO.1 k q hq).lt)), hO.2.1⟩, ⟨Nat.le_trans hO.2.2.1 hz, fun q h1 h2 => (hk q (Nat.lt_of_lt_of_le h1 hO.2.2.1)).trans (hO.2.2.2.1 q h1 h2)⟩⟩) hO.2.2.2.2 h1 h2
theorem gXCall_i {r : Int32} {ok : Prop} {bad : String → Prop} (C : gCx p s m args meth c cc nL Ts own ret E A) (hO : gO E A s ws H locs) (hM : gXi l E y wl rm ws (.ref b :: As) ok r ws' bad mc ms) {ret1 : Option FieldType} (cw : CallW R s args own Cn index y bytes maxL ret1 wl rm mc ms n) (hrc : ∃ cell : Cell, H[b]? = some cell ∧ cell.vm.isStatics = false ∧ s.vm.findClass Cn = some cell.cls) (hn : As.length = n) (hsize : ls.size = nL) (hst : st0 = As.reverse ++ .ref b :: rest) (hW : (rest.map fun v => v.category).sum ≤ 8) (hdg : decode cc pc = .ok (.invokevirtual index, 3)) (hf : cells + mc ≤ R.cells ∧ slots + ms ≤ R.slots)
    (kx : ∀ (E0 : String) (ce : Cell) (q9 : Addr) (H1 : Heap) (locs1 : List Loc), gO E A s ws H1 locs1 → H1[q9]? = some ce → ce.vm = .none → s.vm.findClass E0 = some ce.cls → bad E0 → vx_W p l e R s m args below meth c H1 locs1 (cells + mc) (slots + ms) Q (F0 m pc ls rest) q9)
    (kk : ∀ (H1 : Heap) (locs1 : List Loc), gO E A s ws' H1 locs1 → ok → W p l e R s m args below meth c H1 locs1 (cells + mc) (slots + ms) Q (F0 m (pc + 3) ls (.int r :: rest))) : W p l e R s m args below meth c H locs cells slots Q (F0 m pc ls st0) := by
  refine vx_calli (vx_runV (As := As) (rest := rest) C.fix (hM H.size) cw ⟨gP_blind, hrc, fun U hU hW => gPre C hO hU hW _⟩ rfl hn hsize hst (lv_room hW) hdg hf) hO.2.2 (fun q _ h => gO.free C.2.2.2.2.2.2.2.2.1 hO q h) (gO.free C.2.2.2.2.2.2.2.2.1 hO) (fun q _ h => gO.free C.2.2.2.2.2.2.2.2.1 hO q h) (fun E0 ce q9 u t H1 locs1 ht hvm hpx hBX hz1 hk1 hS hce hcv hcl => ?_) (fun r1 u t H1 locs1 ht hvm hw hB hz1 hk1 hS => ?_)
  · exact kx E0 ce q9 H1 locs1 (gBack C hO ht hBX.2 hS) hce hcv hcl hBX.1
  · obtain ⟨hok, hw⟩ := hw
    subst hw
    exact kk H1 locs1 (gBack C hO ht hB hS) hok
theorem gXCall_v {ok : Prop} {bad : String → Prop} (C : gCx p s m args meth c cc nL Ts own ret E A) (hO : gO E A s ws H locs) (hM : gXv l E y wl rm ws (.ref b :: As) ok ws' bad mc ms) {ret1 : Option FieldType} (cw : CallW R s args own Cn index y bytes maxL ret1 wl rm mc ms n) (hrc : ∃ cell : Cell, H[b]? = some cell ∧ cell.vm.isStatics = false ∧ s.vm.findClass Cn = some cell.cls) (hn : As.length = n) (hsize : ls.size = nL) (hst : st0 = As.reverse ++ .ref b :: rest) (hW : (rest.map fun v => v.category).sum ≤ 8) (hdg : decode cc pc = .ok (.invokevirtual index, 3)) (hf : cells + mc ≤ R.cells ∧ slots + ms ≤ R.slots)
    (kx : ∀ (E0 : String) (ce : Cell) (q9 : Addr) (H1 : Heap) (locs1 : List Loc), gO E A s ws H1 locs1 → H1[q9]? = some ce → ce.vm = .none → s.vm.findClass E0 = some ce.cls → bad E0 → vx_W p l e R s m args below meth c H1 locs1 (cells + mc) (slots + ms) Q (F0 m pc ls rest) q9)
    (kk : ∀ (H1 : Heap) (locs1 : List Loc), gO E A s ws' H1 locs1 → ok → W p l e R s m args below meth c H1 locs1 (cells + mc) (slots + ms) Q (F0 m (pc + 3) ls rest)) : W p l e R s m args below meth c H locs cells slots Q (F0 m pc ls st0) := by
  refine vx_callv (vx_runV (As := As) (rest := rest) C.fix (hM H.size) cw ⟨gP_blind, hrc, fun U hU hW => gPre C hO hU hW _⟩ rfl hn hsize hst (lv_room hW) hdg hf) hO.2.2 (fun q _ h => gO.free C.2.2.2.2.2.2.2.2.1 hO q h) (gO.free C.2.2.2.2.2.2.2.2.1 hO) (fun q _ h => gO.free C.2.2.2.2.2.2.2.2.1 hO q h) (fun E0 ce q9 u t H1 locs1 ht hvm hpx hBX hz1 hk1 hS hce hcv hcl => ?_) (fun u t H1 locs1 ht hvm hw hB hz1 hk1 hS => ?_)
  · exact kx E0 ce q9 H1 locs1 (gBack C hO ht hBX.2 hS) hce hcv hcl hBX.1
  · exact kk H1 locs1 (gBack C hO ht hB hS) hw
theorem gXCallS_v {ok : Prop} {bad : String → Prop} (C : gCx p s m args meth c cc nL Ts own ret E A) (hO : gO E A s ws H locs) (hM : gXv l E y wl rm ws As ok ws' bad mc ms) {ret1 : Option FieldType} (cw : CallB R s args own index y bytes maxL ret1 wl rm mc ms n ∧ (Cond.static y).before args s = true) (hn : As.length = n) (hsize : ls.size = nL) (hst : st0 = As.reverse ++ rest) (hW : (rest.map fun v => v.category).sum ≤ 8) (hdg : decode cc pc = .ok (.invokestatic index, 3)) (hf : cells + mc ≤ R.cells ∧ slots + ms ≤ R.slots)
    (kx : ∀ (E0 : String) (ce : Cell) (q9 : Addr) (H1 : Heap) (locs1 : List Loc), gO E A s ws H1 locs1 → H1[q9]? = some ce → ce.vm = .none → s.vm.findClass E0 = some ce.cls → bad E0 → vx_W p l e R s m args below meth c H1 locs1 (cells + mc) (slots + ms) Q (F0 m pc ls rest) q9)
    (kk : ∀ (H1 : Heap) (locs1 : List Loc), gO E A s ws' H1 locs1 → ok → W p l e R s m args below meth c H1 locs1 (cells + mc) (slots + ms) Q (F0 m (pc + 3) ls rest)) : W p l e R s m args below meth c H locs cells slots Q (F0 m pc ls st0) := by
  refine vx_callv (vx_runS (As := As) (rest := rest) C.fix (hM H.size) cw ⟨gP_blind, fun U hU hW => gPre C hO hU hW _⟩ rfl hn hsize hst (lv_room hW) hdg hf) hO.2.2 (fun q _ h => gO.free C.2.2.2.2.2.2.2.2.1 hO q h) (gO.free C.2.2.2.2.2.2.2.2.1 hO) (fun q _ h => gO.free C.2.2.2.2.2.2.2.2.1 hO q h) (fun E0 ce q9 u t H1 locs1 ht hvm hpx hBX hz1 hk1 hS hce hcv hcl => ?_) (fun u t H1 locs1 ht hvm hw hB hz1 hk1 hS => ?_)
  · exact kx E0 ce q9 H1 locs1 (gBack C hO ht hBX.2 hS) hce hcv hcl hBX.1
  · exact kk H1 locs1 (gBack C hO ht hB hS) hw
-- WORLDS THAT GROW
theorem gO.new {W0 F : va_W} {x : Nat × va_E} (hO : gO E A s ((W0 ++ F) ++ [x]) H locs) : gO E A s (W0 ++ (x :: F)) H locs := by
  have h1 := hO.1.swap
  have h2 := hO.2.1.swap
  rw [List.append_assoc] at h1 h2
  exact ⟨h1, h2, hO.2.2⟩
theorem gO.drop {W0 F : va_W} {x : Nat × va_E} (hO : gO E A s (W0 ++ (x :: F)) H locs) : gO E A s (W0 ++ F) H locs := by
  have e : W0 ++ (x :: F) = (W0 ++ [x]) ++ F := by simp
  have h1 := hO.1
  have h2 := hO.2.1
  rw [e] at h1 h2
  have h3 := h1.swap
  have h4 := h2.swap
  refine ⟨h3.by id (fun k q hk => ?_), h4.by id (fun k q hk => ?_) (fun i j _ _ h => h), hO.2.2⟩
  · rw [id, List.getElem?_append_left (List.getElem?_eq_some_iff.mp hk).1]; exact hk
  · rw [id, List.getElem?_append_left (List.getElem?_eq_some_iff.mp hk).1]; exact hk
theorem gCls {ty : FieldType} {cA : ClassId} {tys : List (ClassId × FieldType)} (hK : va_K E.1 vwCl (tys ++ [(cA, ty)]) s) {k : Nat} {cB : ClassId} (hk : tys[k]? = some (cB, ty)) (hty : ∀ C, ty ≠ .object C) : cA = cB := by
  have hlt := (List.getElem?_eq_some_iff.mp hk).1
  have h1 := (hK.2 k (cB, ty) (by rw [List.getElem?_append_left hlt]; exact hk)).2
  have h2 := (hK.2 tys.length (cA, ty) (by simp)).2
  cases ty <;> first | exact absurd rfl (hty _) | (have q1 : s.vm.findClass _ = some cB := h1; have q2 : s.vm.findClass _ = some cA := h2; exact Option.some.inj (q2.symm.trans q1))
theorem gNewI {W0 F : va_W} {N9 : Nat} (C : gCx p s m args meth c cc nL Ts own ret E A) (harr : (Cond.arrayClass .int).before args s = true) (hO : gO E A s (W0 ++ F) H locs) (hN : N9 < 1000) (hcells : cells + 1 ≤ R.cells) (hslots : slots + N9 ≤ R.slots) (hdg : decode cc pc = .ok (.newarray .int, 2))
    (kk : ∀ (q : Nat) (H1 : Heap), gO E A s (W0 ++ ((q, .inl (eI E, N9, .inl (fun _ => 0))) :: F)) H1 locs → W p l e R s m args below meth c H1 locs (cells + 1) (slots + N9) Q (F0 m (pc + 2) ls (.ref q :: rest))) : W p l e R s m args below meth c H locs cells slots Q (F0 m pc ls (.int (nI N9) :: rest)) := by
  refine va_newa (a0 := (N9, .inl (fun _ => 0))) (N' := N9) (atype := .int) (ty := .int) C.1 C.2.1 harr rfl C.2.2.2.2.2.2.2.1.1 hO.1 hO.2.1 hO.2.2 C.2.2.2.2.2.2.2.2.1 (fun cA => rfl) (nI_pos (by omega)) (nI_clamp (by omega)) (by rw [show componentBytes FieldType.int = 4 from rfl]; omega) hcells hslots hdg (fun q cA H1 hK hP hD hS => ?_)
  have e := gCls (E := E) hK (k := 0) (cB := eI E) rfl (by intro C h; cases h)
  subst e
  exact kk q H1 (gO.new ⟨hP, hD, hS⟩)
theorem gNewZ {W0 F : va_W} {N9 : Nat} (C : gCx p s m args meth c cc nL Ts own ret E A) (harr : (Cond.arrayClass .boolean).before args s = true) (hO : gO E A s (W0 ++ F) H locs) (hN : N9 < 1000) (hcells : cells + 1 ≤ R.cells) (hslots : slots + N9 ≤ R.slots) (hdg : decode cc pc = .ok (.newarray .boolean, 2))
    (kk : ∀ (q : Nat) (H1 : Heap), gO E A s (W0 ++ ((q, .inl (eZ E, N9, .inl (fun _ => 0))) :: F)) H1 locs → W p l e R s m args below meth c H1 locs (cells + 1) (slots + N9) Q (F0 m (pc + 2) ls (.ref q :: rest))) : W p l e R s m args below meth c H locs cells slots Q (F0 m pc ls (.int (nI N9) :: rest)) := by
  refine va_newa (a0 := (N9, .inl (fun _ => 0))) (N' := N9) (atype := .boolean) (ty := .boolean) C.1 C.2.1 harr rfl C.2.2.2.2.2.2.2.1.1 hO.1 hO.2.1 hO.2.2 C.2.2.2.2.2.2.2.2.1 (fun cA => rfl) (nI_pos (by omega)) (nI_clamp (by omega)) (by rw [show componentBytes FieldType.boolean = 1 from rfl]; omega) hcells hslots hdg (fun q cA H1 hK hP hD hS => ?_)
  have e := gCls (E := E) hK (k := 1) (cB := eZ E) rfl (by intro C h; cases h)
  subst e
  exact kk q H1 (gO.new ⟨hP, hD, hS⟩)
end GD
end
section
/-- the state of a log, as both sides hold it: off key val sto n nx dr hr sc on said sh pc at hd ms kn -/
abbrev St : Type := (Nat → Int32) × (Nat → Int32) × (Nat → Int32) × (Nat → Int32) × Nat × Int32 × Int32 × Int32 × Nat × Int32 × (Nat → Int32) × Nat × (Nat → Int32) × (Nat → Int32) × (Nat → Int32) × (Nat → Int32) × (Nat → Nat → Int32)
abbrev s_off (S : St) : Nat → Int32 := S.1
abbrev s_key (S : St) : Nat → Int32 := S.2.1
abbrev s_val (S : St) : Nat → Int32 := S.2.2.1
abbrev s_sto (S : St) : Nat → Int32 := S.2.2.2.1
abbrev s_n (S : St) : Nat := S.2.2.2.2.1
abbrev s_nx (S : St) : Int32 := S.2.2.2.2.2.1
abbrev s_dr (S : St) : Int32 := S.2.2.2.2.2.2.1
abbrev s_hr (S : St) : Int32 := S.2.2.2.2.2.2.2.1
abbrev s_sc (S : St) : Nat := S.2.2.2.2.2.2.2.2.1
abbrev s_on (S : St) : Int32 := S.2.2.2.2.2.2.2.2.2.1
abbrev s_said (S : St) : Nat → Int32 := S.2.2.2.2.2.2.2.2.2.2.1
abbrev s_sh (S : St) : Nat := S.2.2.2.2.2.2.2.2.2.2.2.1
abbrev s_pc (S : St) : Nat → Int32 := S.2.2.2.2.2.2.2.2.2.2.2.2.1
abbrev s_at (S : St) : Nat → Int32 := S.2.2.2.2.2.2.2.2.2.2.2.2.2.1
abbrev s_hd (S : St) : Nat → Int32 := S.2.2.2.2.2.2.2.2.2.2.2.2.2.2.1
abbrev s_ms (S : St) : Nat → Int32 := S.2.2.2.2.2.2.2.2.2.2.2.2.2.2.2.1
abbrev s_kn (S : St) : Nat → Nat → Int32 := S.2.2.2.2.2.2.2.2.2.2.2.2.2.2.2.2
abbrev mkS (off key val sto : Nat → Int32) (n : Nat) (nx dr hr : Int32) (sc : Nat) (on : Int32) (said : Nat → Int32) (sh : Nat) (pc sat hd ms : Nat → Int32) (kn : Nat → Nat → Int32) : St := (off, key, val, sto, n, nx, dr, hr, sc, on, said, sh, pc, sat, hd, ms, kn)
/-- the row of the ships -/
def xFl (a : Nat → Nat) : Nat → Option Nat := fun i => if i < 6 then some (a (11 + i)) else none
/-- the cells of the class: 0 the log itself, 1 its Log, 2 - 6 the Log's rows, 7 saidInStorm, 8 fleet, 9 - 10 the rows of a replay, 11 - 16 ships, 17 - 22 what they know -/
def xW (E : gE) (a : Nat → Nat) (S : St) (mk rk rv : Nat → Int32) : va_W :=
  [(a 0, .inr (2, [.ref (a 1), .ref (a 7), .ref (a 8), .ref (a 9), .ref (a 10), .int (s_hr S), .int (nI (s_sc S)), .int (s_on S), .int (nI (s_sh S))])),
   (a 1, .inr (0, [.ref (a 2), .ref (a 3), .ref (a 4), .ref (a 5), .ref (a 6), .int (nI (s_n S)), .int (s_nx S), .int (s_dr S)])),
   (a 2, .inl (eI E, 48, .inl (s_off S))), (a 3, .inl (eI E, 48, .inl (s_key S))), (a 4, .inl (eI E, 48, .inl (s_val S))), (a 5, .inl (eI E, 48, .inl (s_sto S))), (a 6, .inl (eZ E, 48, .inl mk)),
   (a 7, .inl (eI E, 8, .inl (s_said S))), (a 8, .inl (eO E, 6, .inr (.inr (.inr (.inr (xFl a)))))), (a 9, .inl (eI E, 48, .inl rk)), (a 10, .inl (eI E, 48, .inl rv)),
   (a 11, .inr (1, [.ref (a 17), .int (s_pc S 0), .int (s_at S 0), .int (s_hd S 0), .int (s_ms S 0)])), (a 12, .inr (1, [.ref (a 18), .int (s_pc S 1), .int (s_at S 1), .int (s_hd S 1), .int (s_ms S 1)])), (a 13, .inr (1, [.ref (a 19), .int (s_pc S 2), .int (s_at S 2), .int (s_hd S 2), .int (s_ms S 2)])),
   (a 14, .inr (1, [.ref (a 20), .int (s_pc S 3), .int (s_at S 3), .int (s_hd S 3), .int (s_ms S 3)])), (a 15, .inr (1, [.ref (a 21), .int (s_pc S 4), .int (s_at S 4), .int (s_hd S 4), .int (s_ms S 4)])), (a 16, .inr (1, [.ref (a 22), .int (s_pc S 5), .int (s_at S 5), .int (s_hd S 5), .int (s_ms S 5)])),
   (a 17, .inl (eI E, 10, .inl (s_kn S 0))), (a 18, .inl (eI E, 10, .inl (s_kn S 1))), (a 19, .inl (eI E, 10, .inl (s_kn S 2))), (a 20, .inl (eI E, 10, .inl (s_kn S 3))), (a 21, .inl (eI E, 10, .inl (s_kn S 4))), (a 22, .inl (eI E, 10, .inl (s_kn S 5)))]
/-- the cells of the reference: 0 itself, 1 - 5 its rows, 6 said, 7 pace, 8 at, 9 heard, 10 missed, 11 known -/
def mKn (kn : Nat → Nat → Int32) : Nat → Int32 := fun j => kn (j / 10) (j % 10)
def mW (E : gE) (b : Nat → Nat) (S : St) (th : Int32) (mk : Nat → Int32) : va_W :=
  [(b 0, .inr (3, [.int th, .int (nI (s_n S)), .ref (b 1), .ref (b 2), .ref (b 3), .ref (b 4), .ref (b 5), .int (s_nx S), .int (s_dr S), .int (s_hr S), .int (nI (s_sc S)), .int (s_on S), .ref (b 6), .int (nI (s_sh S)), .ref (b 7), .ref (b 8), .ref (b 9), .ref (b 10), .ref (b 11)])),
   (b 1, .inl (eI E, 48, .inl (s_off S))), (b 2, .inl (eI E, 48, .inl (s_key S))), (b 3, .inl (eI E, 48, .inl (s_val S))), (b 4, .inl (eI E, 48, .inl (s_sto S))), (b 5, .inl (eZ E, 48, .inl mk)),
   (b 6, .inl (eI E, 8, .inl (s_said S))), (b 7, .inl (eI E, 6, .inl (s_pc S))), (b 8, .inl (eI E, 6, .inl (s_at S))), (b 9, .inl (eI E, 6, .inl (s_hd S))), (b 10, .inl (eI E, 6, .inl (s_ms S))), (b 11, .inl (eI E, 60, .inl (mKn (s_kn S))))]
section WX
variable {E : gE} {a : Nat → Nat} {S : St} {mk rk rv : Nat → Int32} {F : va_W}
theorem six {P : Nat → Prop} (h0 : P 0) (h1 : P 1) (h2 : P 2) (h3 : P 3) (h4 : P 4) (h5 : P 5) {i : Nat} (hi : i < 6) : P i := by
  rcases (show i = 0 ∨ i = 1 ∨ i = 2 ∨ i = 3 ∨ i = 4 ∨ i = 5 by omega) with rfl | rfl | rfl | rfl | rfl | rfl <;> assumption
theorem xFl_at {i : Nat} (hi : i < 6) : xFl a i = some (a (11 + i)) := by simp [xFl, hi]
/-- ship i -/
theorem xw_ship {i : Nat} (hi : i < 6) : (xW E a S mk rk rv ++ F)[11 + i]? = some (a (11 + i), .inr (1, [.ref (a (17 + i)), .int (s_pc S i), .int (s_at S i), .int (s_hd S i), .int (s_ms S i)])) :=
  six (P := fun i => (xW E a S mk rk rv ++ F)[11 + i]? = some (a (11 + i), .inr (1, [.ref (a (17 + i)), .int (s_pc S i), .int (s_at S i), .int (s_hd S i), .int (s_ms S i)]))) rfl rfl rfl rfl rfl rfl hi
theorem xw_kn {i : Nat} (hi : i < 6) : (xW E a S mk rk rv ++ F)[17 + i]? = some (a (17 + i), .inl (eI E, 10, .inl (s_kn S i))) :=
  six (P := fun i => (xW E a S mk rk rv ++ F)[17 + i]? = some (a (17 + i), .inl (eI E, 10, .inl (s_kn S i)))) rfl rfl rfl rfl rfl rfl hi
abbrev S_pc (S : St) (v : Nat → Int32) : St := mkS (s_off S) (s_key S) (s_val S) (s_sto S) (s_n S) (s_nx S) (s_dr S) (s_hr S) (s_sc S) (s_on S) (s_said S) (s_sh S) v (s_at S) (s_hd S) (s_ms S) (s_kn S)
abbrev S_at (S : St) (v : Nat → Int32) : St := mkS (s_off S) (s_key S) (s_val S) (s_sto S) (s_n S) (s_nx S) (s_dr S) (s_hr S) (s_sc S) (s_on S) (s_said S) (s_sh S) (s_pc S) v (s_hd S) (s_ms S) (s_kn S)
abbrev S_hd (S : St) (v : Nat → Int32) : St := mkS (s_off S) (s_key S) (s_val S) (s_sto S) (s_n S) (s_nx S) (s_dr S) (s_hr S) (s_sc S) (s_on S) (s_said S) (s_sh S) (s_pc S) (s_at S) v (s_ms S) (s_kn S)
abbrev S_ms (S : St) (v : Nat → Int32) : St := mkS (s_off S) (s_key S) (s_val S) (s_sto S) (s_n S) (s_nx S) (s_dr S) (s_hr S) (s_sc S) (s_on S) (s_said S) (s_sh S) (s_pc S) (s_at S) (s_hd S) v (s_kn S)
abbrev S_kn (S : St) (v : Nat → Nat → Int32) : St := mkS (s_off S) (s_key S) (s_val S) (s_sto S) (s_n S) (s_nx S) (s_dr S) (s_hr S) (s_sc S) (s_on S) (s_said S) (s_sh S) (s_pc S) (s_at S) (s_hd S) (s_ms S) v
theorem xs_pc {i : Nat} (hi : i < 6) (v : Int32) : (xW E a S mk rk rv ++ F).set (11 + i) (a (11 + i), .inr (1, [.ref (a (17 + i)), .int v, .int (s_at S i), .int (s_hd S i), .int (s_ms S i)])) = xW E a (S_pc S (upd (s_pc S) i v)) mk rk rv ++ F :=
  six (P := fun i => (xW E a S mk rk rv ++ F).set (11 + i) (a (11 + i), .inr (1, [.ref (a (17 + i)), .int v, .int (s_at S i), .int (s_hd S i), .int (s_ms S i)])) = xW E a (S_pc S (upd (s_pc S) i v)) mk rk rv ++ F) rfl rfl rfl rfl rfl rfl hi
theorem xs_at {i : Nat} (hi : i < 6) (v : Int32) : (xW E a S mk rk rv ++ F).set (11 + i) (a (11 + i), .inr (1, [.ref (a (17 + i)), .int (s_pc S i), .int v, .int (s_hd S i), .int (s_ms S i)])) = xW E a (S_at S (upd (s_at S) i v)) mk rk rv ++ F :=
  six (P := fun i => (xW E a S mk rk rv ++ F).set (11 + i) (a (11 + i), .inr (1, [.ref (a (17 + i)), .int (s_pc S i), .int v, .int (s_hd S i), .int (s_ms S i)])) = xW E a (S_at S (upd (s_at S) i v)) mk rk rv ++ F) rfl rfl rfl rfl rfl rfl hi
theorem xs_hd {i : Nat} (hi : i < 6) (v : Int32) : (xW E a S mk rk rv ++ F).set (11 + i) (a (11 + i), .inr (1, [.ref (a (17 + i)), .int (s_pc S i), .int (s_at S i), .int v, .int (s_ms S i)])) = xW E a (S_hd S (upd (s_hd S) i v)) mk rk rv ++ F :=
  six (P := fun i => (xW E a S mk rk rv ++ F).set (11 + i) (a (11 + i), .inr (1, [.ref (a (17 + i)), .int (s_pc S i), .int (s_at S i), .int v, .int (s_ms S i)])) = xW E a (S_hd S (upd (s_hd S) i v)) mk rk rv ++ F) rfl rfl rfl rfl rfl rfl hi
theorem xs_ms {i : Nat} (hi : i < 6) (v : Int32) : (xW E a S mk rk rv ++ F).set (11 + i) (a (11 + i), .inr (1, [.ref (a (17 + i)), .int (s_pc S i), .int (s_at S i), .int (s_hd S i), .int v])) = xW E a (S_ms S (upd (s_ms S) i v)) mk rk rv ++ F :=
  six (P := fun i => (xW E a S mk rk rv ++ F).set (11 + i) (a (11 + i), .inr (1, [.ref (a (17 + i)), .int (s_pc S i), .int (s_at S i), .int (s_hd S i), .int v])) = xW E a (S_ms S (upd (s_ms S) i v)) mk rk rv ++ F) rfl rfl rfl rfl rfl rfl hi
theorem xs_kn {i : Nat} (hi : i < 6) (g : Nat → Int32) : (xW E a S mk rk rv ++ F).set (17 + i) (a (17 + i), .inl (eI E, 10, .inl g)) = xW E a (S_kn S (va_up (s_kn S) i g)) mk rk rv ++ F :=
  six (P := fun i => (xW E a S mk rk rv ++ F).set (17 + i) (a (17 + i), .inl (eI E, 10, .inl g)) = xW E a (S_kn S (va_up (s_kn S) i g)) mk rk rv ++ F) rfl rfl rfl rfl rfl rfl hi
theorem mKn_upd {kn : Nat → Nat → Int32} {i k : Nat} (hk : k < 10) (v : Int32) : upd (mKn kn) (10 * i + k) v = mKn (va_up kn i (upd (kn i) k v)) := by
  funext j
  have h1 : (10 * i + k) / 10 = i := by omega
  have h2 : (10 * i + k) % 10 = k := by omega
  by_cases h : j = 10 * i + k
  · subst h
    simp [upd, mKn, va_up, h1, h2]
  · by_cases hi : j / 10 = i
    · have hk2 : j % 10 ≠ k := by omega
      simp [upd, mKn, va_up, h, hi, hk2]
    · simp [upd, mKn, va_up, h, hi]
theorem mKn_at {kn : Nat → Nat → Int32} {i k : Nat} (hk : k < 10) : mKn kn (10 * i + k) = kn i k := by
  have h1 : (10 * i + k) / 10 = i := by omega
  have h2 : (10 * i + k) % 10 = k := by omega
  simp [mKn, h1, h2]
end WX
end
section
/-- the place of the first of f entries from k on that is not less than o -/
def pfA (off : Nat → Int32) (o : Int32) : Nat → Nat → Nat
  | 0, k => k
  | f + 1, k => if off k < o then pfA off o f (k + 1) else k
def pf (off : Nat → Int32) (o : Int32) (n : Nat) : Nat := pfA off o n 0
theorem pfA_le (off : Nat → Int32) (o : Int32) : ∀ f k, pfA off o f k ≤ k + f := by
  intro f
  induction f with
  | zero => intro k; exact Nat.le_refl _
  | succ f ih =>
    intro k
    unfold pfA
    split
    · have := ih (k + 1); omega
    · omega
theorem pfA_ge (off : Nat → Int32) (o : Int32) : ∀ f k, k ≤ pfA off o f k := by
  intro f
  induction f with
  | zero => intro k; exact Nat.le_refl _
  | succ f ih =>
    intro k
    unfold pfA
    split
    · have := ih (k + 1); omega
    · omega
theorem pfA_lt (off : Nat → Int32) (o : Int32) : ∀ f k j, k ≤ j → j < pfA off o f k → off j < o := by
  intro f
  induction f with
  | zero => intro k j h1 h2; exact absurd h2 (by simp only [pfA]; omega)
  | succ f ih =>
    intro k j h1 h2
    unfold pfA at h2
    split at h2
    · rename_i hc
      by_cases hj : j = k
      · subst hj; exact hc
      · exact ih (k + 1) j (by omega) h2
    · omega
theorem pfA_stop (off : Nat → Int32) (o : Int32) : ∀ f k, pfA off o f k < k + f → ¬ off (pfA off o f k) < o := by
  intro f
  induction f with
  | zero => intro k h; exact absurd h (by simp only [pfA]; omega)
  | succ f ih =>
    intro k h
    unfold pfA at h ⊢
    split
    · rename_i hc
      rw [if_pos hc] at h
      exact ih (k + 1) (by omega)
    · assumption
theorem pf_le (off : Nat → Int32) (o : Int32) (n : Nat) : pf off o n ≤ n := by have := pfA_le off o n 0; unfold pf; omega
theorem pf_lt {off : Nat → Int32} {o : Int32} {n j : Nat} (h : j < pf off o n) : off j < o := pfA_lt off o n 0 j (Nat.zero_le _) h
theorem pf_stop {off : Nat → Int32} {o : Int32} {n : Nat} (h : pf off o n < n) : ¬ off (pf off o n) < o := by have := pfA_stop off o n 0; unfold pf at h ⊢; exact this (by omega)
/-- the last place with this key, not less than fr and less than t -/
def lpO (key : Nat → Int32) (k : Int32) (fr : Nat) : Nat → Option Nat
  | 0 => none
  | t + 1 => if fr ≤ t then (if key t = k then some t else lpO key k fr t) else none
def oI : Option Nat → Int32
  | none => -1
  | some i => nI i
theorem lpO_some {key : Nat → Int32} {k : Int32} {fr : Nat} : ∀ {t i : Nat}, lpO key k fr t = some i → fr ≤ i ∧ i < t ∧ key i = k := by
  intro t
  induction t with
  | zero => intro i h; cases h
  | succ t ih =>
    intro i h
    unfold lpO at h
    split at h
    · split at h
      · cases h; exact ⟨by assumption, by omega, by assumption⟩
      · obtain ⟨h1, h2, h3⟩ := ih h; exact ⟨h1, by omega, h3⟩
    · cases h
theorem lpO_none {key : Nat → Int32} {k : Int32} {fr : Nat} : ∀ {t : Nat}, lpO key k fr t = none → ∀ i, fr ≤ i → i < t → key i ≠ k := by
  intro t
  induction t with
  | zero => intro _ i _ h; omega
  | succ t ih =>
    intro h i h1 h2
    unfold lpO at h
    split at h
    · split at h
      · cases h
      · by_cases hi : i = t
        · subst hi; assumption
        · exact ih h i h1 (by omega)
    · omega
theorem lpO_ge {key : Nat → Int32} {k : Int32} {fr t : Nat} (h : t ≤ fr) : lpO key k fr t = none := by
  cases t with
  | zero => rfl
  | succ t => unfold lpO; rw [if_neg (by omega)]
theorem oI_ne {o : Option Nat} (h : ∀ i, o = some i → i < 1000000) : (oI o = -1) ↔ o = none := by
  cases o with
  | none => exact ⟨fun _ => rfl, fun _ => rfl⟩
  | some i =>
    refine ⟨fun h1 => ?_, fun h1 => by cases h1⟩
    have h2 := nI_pos (n := i) (by have := h i rfl; omega)
    have h3 : oI (some i) = nI i := rfl
    rw [h3] at h1
    rw [h1] at h2
    exact absurd (by decide) h2
/-- how many of the first i entries are x -/
def cnt (f : Nat → Int32) (x : Int32) : Nat → Nat
  | 0 => 0
  | i + 1 => cnt f x i + (if f i = x then 1 else 0)
theorem cnt_le (f : Nat → Int32) (x : Int32) : ∀ i, cnt f x i ≤ i := by
  intro i
  induction i with
  | zero => exact Nat.le_refl _
  | succ i ih => unfold cnt; split <;> omega
/-- how many of the entries from fr on, of the first i, are marked -/
def cm (mk : Nat → Int32) (fr : Nat) : Nat → Nat
  | 0 => 0
  | i + 1 => cm mk fr i + (if fr ≤ i ∧ ¬ mk i = 0 then 1 else 0)
theorem cm_le (mk : Nat → Int32) (fr : Nat) : ∀ i, cm mk fr i ≤ i := by
  intro i
  induction i with
  | zero => exact Nat.le_refl _
  | succ i ih => unfold cm; split <;> omega
theorem cm_fr (mk : Nat → Int32) (fr : Nat) : ∀ i, i ≤ fr → cm mk fr i = 0 := by
  intro i
  induction i with
  | zero => intro _; rfl
  | succ i ih => intro h; unfold cm; rw [ih (by omega), if_neg (by omega)]
/-- the rows behind a drop of all that is marked -/
def cpN (mk : Nat → Int32) : Nat → Nat
  | 0 => 0
  | i + 1 => if mk i = 0 then cpN mk i + 1 else cpN mk i
def cpF (mk : Nat → Int32) (f : Nat → Int32) : Nat → (Nat → Int32)
  | 0 => f
  | i + 1 => if mk i = 0 then upd (cpF mk f i) (cpN mk i) (cpF mk f i i) else cpF mk f i
theorem cpN_le (mk : Nat → Int32) : ∀ i, cpN mk i ≤ i := by
  intro i
  induction i with
  | zero => exact Nat.le_refl _
  | succ i ih => unfold cpN; split <;> omega
theorem cpF_ge (mk f : Nat → Int32) : ∀ i j, cpN mk i ≤ j → i ≤ j → cpF mk f i j = f j := by
  intro i
  induction i with
  | zero => intro j _ _; rfl
  | succ i ih =>
    intro j h1 h2
    unfold cpF
    have := cpN_le mk i
    split
    · rw [upd, if_neg (by omega)]; exact ih j (by omega) (by omega)
    · exact ih j (by omega) (by omega)
/-- g in the first n places, mk behind them -/
def mkU (g mk : Nat → Int32) (n : Nat) : Nat → Int32 := fun i => if i < n then g i else mk i
theorem mkU_0 (g mk : Nat → Int32) : mkU g mk 0 = mk := by funext i; simp [mkU]
theorem mkU_s (g mk : Nat → Int32) (n : Nat) : upd (mkU g mk n) n (g n) = mkU g mk (n + 1) := by
  funext i
  unfold upd mkU
  by_cases h : i = n
  · subst h; simp
  · by_cases h2 : i < n
    · simp [h, h2, Nat.lt_succ_of_lt h2]
    · have h3 : ¬ i < n + 1 := by omega
      simp [h, h2, h3]
theorem mkU_at {g mk : Nat → Int32} {n i : Nat} (h : i < n) : mkU g mk n i = g i := by simp [mkU, h]
def gFirst : Nat → Int32 := fun i => if i = 0 then 1 else 0
def gAhead (off : Nat → Int32) (o : Int32) : Nat → Int32 := fun i => if off i < o then 1 else 0
def gComp (off key val : Nat → Int32) (n : Nat) (least : Int32) : Nat → Int32 := fun i => if lpO key (key i) (i + 1) n ≠ none ∨ (val i = 0 ∧ off i < least) then 1 else 0
/-- the least of nx and the offsets of the first s ships -/
def lst (sat : Nat → Int32) (nx : Int32) : Nat → Int32
  | 0 => nx
  | s + 1 => if sat s < lst sat nx s then sat s else lst sat nx s
def s_cm (S : St) : Nat → Int32 := gComp (s_off S) (s_key S) (s_val S) (s_n S) (lst (s_at S) (s_nx S) (s_sh S))
abbrev S_app (S : St) (k v t : Int32) : St := mkS (upd (s_off S) (s_n S) (s_nx S)) (upd (s_key S) (s_n S) k) (upd (s_val S) (s_n S) v) (upd (s_sto S) (s_n S) t) (s_n S + 1) (s_nx S + 1) (s_dr S) (s_hr S) (s_sc S) (s_on S) (s_said S) (s_sh S) (s_pc S) (s_at S) (s_hd S) (s_ms S) (s_kn S)
/-- the rows behind removing what is marked -/
abbrev S_rem (S : St) (mk : Nat → Int32) : St := mkS (cpF mk (s_off S) (s_n S)) (cpF mk (s_key S) (s_n S)) (cpF mk (s_val S) (s_n S)) (cpF mk (s_sto S) (s_n S)) (cpN mk (s_n S)) (s_nx S) (s_dr S + nI (s_n S - cpN mk (s_n S))) (s_hr S) (s_sc S) (s_on S) (s_said S) (s_sh S) (s_pc S) (s_at S) (s_hd S) (s_ms S) (s_kn S)
abbrev s_lo (S : St) (k : Int32) : Int32 := match lpO (s_key S) k 0 (s_n S) with | none => -1 | some i => s_off S i
abbrev s_wv (S : St) (k : Int32) : Int32 := match lpO (s_key S) k 0 (s_n S) with | none => 0 | some i => s_val S i
end
section
theorem mkU_sv {g mk : Nat → Int32} {n : Nat} {x : Int32} (h : g n = x) : mkU g mk (n + 1) = upd (mkU g mk n) n x := by rw [← mkU_s, h]
theorem nI_z {n : Nat} (hn : n < 1000000) (h : nI n = 0) : n = 0 := by
  have h2 : nI n = nI 0 := h
  exact (nI_eq (by omega) (by omega)).mp h2
theorem nI_p {t : Nat} (h : 0 < t) : nI t - 1 = nI (t - 1) := by
  obtain ⟨u, rfl⟩ : ∃ u, t = u + 1 := ⟨t - 1, by omega⟩
  rw [nI_pred]
  rfl
theorem iDec (x : Int32) : x + Int32.ofInt (-1) = x - 1 := by
  rw [Int32.sub_eq_add_neg]
  rfl
theorem lpO_s {key : Nat → Int32} {k : Int32} {fr t : Nat} (h : fr < t) : lpO key k fr t = if key (t - 1) = k then some (t - 1) else lpO key k fr (t - 1) := by
  obtain ⟨u, rfl⟩ : ∃ u, t = u + 1 := ⟨t - 1, by omega⟩
  show (if fr ≤ u then _ else _) = _
  rw [if_pos (by omega)]
  rfl
theorem lpO_ls {key : Nat → Int32} {k : Int32} {fr t : Nat} (hf : fr < 1000000) (ht : t < 1000000) : nI t - 1 < nI fr ↔ t ≤ fr := by
  by_cases h : 0 < t
  · rw [nI_p h, nI_ltI (by omega) (by omega)]; omega
  · have : t = 0 := by omega
    subst this
    refine ⟨fun _ => Nat.zero_le _, fun _ => ?_⟩
    rw [show nI 0 - 1 = (-1 : Int32) from rfl, Int32.lt_iff_toInt_lt, nI_toInt (by omega)]
    have : (-1 : Int32).toInt = -1 := rfl
    omega
theorem lpO_h {key : Nat → Int32} {k : Int32} {fr t : Nat} {o : Option Nat} (hn : lpO key k fr t = o) : o = none ∨ ∃ i, o = some i ∧ fr ≤ i ∧ i < t ∧ key i = k := by
  cases o with
  | none => exact Or.inl rfl
  | some i => exact Or.inr ⟨i, rfl, lpO_some hn⟩
theorem lpO_m1 {key : Nat → Int32} {k : Int32} {fr t : Nat} (ht : t < 1000000) (h : oI (lpO key k fr t) = -1) : lpO key k fr t = none := (oI_ne (fun i hi => by have := lpO_some hi; omega)).mp h
theorem lpO_nm1 {key : Nat → Int32} {k : Int32} {fr t : Nat} (h : ¬ oI (lpO key k fr t) = -1) : ∃ i, lpO key k fr t = some i ∧ fr ≤ i ∧ i < t ∧ key i = k := by
  rcases lpO_h (rfl : lpO key k fr t = _) with h1 | ⟨i, h1, h2⟩
  · rw [h1] at h; exact absurd rfl h
  · exact ⟨i, h1, h2⟩
/-- the rows of what a replay says again -/
def flF (f sto : Nat → Int32) (x : Int32) (g : Nat → Int32) : Nat → (Nat → Int32)
  | 0 => g
  | i + 1 => if sto i = x then upd (flF f sto x g i) (cnt sto x i) (f i) else flF f sto x g i
theorem flF_eq (f sto : Nat → Int32) (x : Int32) (g g' : Nat → Int32) : ∀ n i, i < cnt sto x n → flF f sto x g n i = flF f sto x g' n i := by
  intro n
  induction n with
  | zero => intro i h; exact absurd h (Nat.not_lt_zero _)
  | succ n ih =>
    intro i h
    unfold flF
    unfold cnt at h
    split
    · rename_i hc
      rw [if_pos hc] at h
      by_cases hi : i = cnt sto x n
      · simp [upd, hi]
      · simp only [upd, if_neg hi]
        exact ih i (by omega)
    · rename_i hc
      rw [if_neg hc] at h
      exact ih i (by omega)
theorem cnt_s1 {f : Nat → Int32} {x : Int32} {i : Nat} (h : f i = x) : cnt f x (i + 1) = cnt f x i + 1 := by show cnt f x i + _ = _; rw [if_pos h]
theorem cnt_s0 {f : Nat → Int32} {x : Int32} {i : Nat} (h : ¬ f i = x) : cnt f x (i + 1) = cnt f x i := by show cnt f x i + _ = _; rw [if_neg h]; rfl
theorem cm_s1 {mk : Nat → Int32} {fr i : Nat} (hf : fr ≤ i) (h : ¬ mk i = 0) : cm mk fr (i + 1) = cm mk fr i + 1 := by show cm mk fr i + _ = _; rw [if_pos ⟨hf, h⟩]
theorem cm_s0 {mk : Nat → Int32} {fr i : Nat} (h : mk i = 0) : cm mk fr (i + 1) = cm mk fr i := by show cm mk fr i + _ = _; rw [if_neg (fun q => q.2 h)]; rfl
theorem cp_s1 {mk : Nat → Int32} {i : Nat} (h : mk i = 0) : cpN mk (i + 1) = cpN mk i + 1 := by show (if _ then _ else _) = _; rw [if_pos h]
theorem cp_s0 {mk : Nat → Int32} {i : Nat} (h : ¬ mk i = 0) : cpN mk (i + 1) = cpN mk i := by show (if _ then _ else _) = _; rw [if_neg h]
theorem cf_s1 {mk f : Nat → Int32} {i : Nat} (h : mk i = 0) : cpF mk f (i + 1) = upd (cpF mk f i) (cpN mk i) (cpF mk f i i) := by show (if _ then _ else _) = _; rw [if_pos h]
theorem cf_s0 {mk f : Nat → Int32} {i : Nat} (h : ¬ mk i = 0) : cpF mk f (i + 1) = cpF mk f i := by show (if _ then _ else _) = _; rw [if_neg h]
theorem fl_s1 {f sto g : Nat → Int32} {x : Int32} {i : Nat} (h : sto i = x) : flF f sto x g (i + 1) = upd (flF f sto x g i) (cnt sto x i) (f i) := by show (if _ then _ else _) = _; rw [if_pos h]
theorem fl_s0 {f sto g : Nat → Int32} {x : Int32} {i : Nat} (h : ¬ sto i = x) : flF f sto x g (i + 1) = flF f sto x g i := by show (if _ then _ else _) = _; rw [if_neg h]
theorem gComp_1 {off key val : Nat → Int32} {n i : Nat} {q : Int32} (h : lpO key (key i) (i + 1) n ≠ none ∨ (val i = 0 ∧ off i < q)) : gComp off key val n q i = 1 := if_pos h
theorem gComp_0 {off key val : Nat → Int32} {n i : Nat} {q : Int32} (h : ¬ (lpO key (key i) (i + 1) n ≠ none ∨ (val i = 0 ∧ off i < q))) : gComp off key val n q i = 0 := if_neg h
/-- the place of the phrase with the offset o -/
def s_po (S : St) (o : Int32) : Option Nat := if pf (s_off S) o (s_n S) < s_n S ∧ s_off S (pf (s_off S) o (s_n S)) = o then some (pf (s_off S) o (s_n S)) else none
theorem s_po_1 {S : St} {o : Int32} (h1 : pf (s_off S) o (s_n S) < s_n S) (h2 : s_off S (pf (s_off S) o (s_n S)) = o) : s_po S o = some (pf (s_off S) o (s_n S)) := if_pos ⟨h1, h2⟩
theorem s_po_0 {S : St} {o : Int32} (h : ¬ (pf (s_off S) o (s_n S) < s_n S ∧ s_off S (pf (s_off S) o (s_n S)) = o)) : s_po S o = none := if_neg h
theorem s_po_lt {S : St} {o : Int32} {i : Nat} (h : s_po S o = some i) : i < s_n S := by
  unfold s_po at h
  split at h
  · rename_i hc; cases h; exact hc.1
  · cases h
/-- what a ship hears: from fr on, d phrases -/
def hk (key val : Nat → Int32) (fr : Nat) (k0 : Nat → Int32) : Nat → (Nat → Int32)
  | 0 => k0
  | d + 1 => upd (hk key val fr k0 d) (key (fr + d)).toNatClampNeg (val (fr + d))
/-- the keys that are kept count, up to 9 -/
def s_ok (S : St) : Prop := ∀ i, i < s_n S → (s_key S i).toNatClampNeg < 10 ∧ s_key S i = nI (s_key S i).toNatClampNeg
end
section
set_option maxHeartbeats 4000000 in
set_option maxRecDepth 100000 in
theorem c_X0_append (l : Launch) (E : gE) (a : Nat → Nat) (S : St) (mk rk rv : Nat → Int32) (F : va_W) (k v t : Int32) (hn : s_n S < 48) : gMi l E yX0_append wsX0_append ({ frames := 0, cells := 0, slots := 0, locals := 0 }) (xW E a S mk rk rv ++ F) [.ref (a 1), .int k, .int v, .int t] (s_nx S) (xW E a (S_app S k v t) mk rk rv ++ F) 0 0 := by
  refine gMi.of (cc := cX0_append) (maxL := 4) (ty := .int) (by decide) rfl (Nat.le_of_ble_eq_true rfl) ?_
  intro p e s m args below meth c A C ls hl hO
  have hl : lv_has ls 4 [(0, .ref (a 1)), (1, .int k), (2, .int v), (3, .int t)] := hl
  have iX0 : ∀ w ∈ u_ws RX0 TX0 8, w ∈ wsX0_append := by decide +kernel
  have w9 : Cond.fieldLink RX0 9 "ParrotLog$Log" "offsets" "[I" ∈ wsX0_append := by decide +kernel
  have w28 : Cond.fieldLink RX0 28 "ParrotLog$Log" "size" "I" ∈ wsX0_append := by decide +kernel
  have w32 : Cond.fieldLink RX0 32 "ParrotLog$Log" "next" "I" ∈ wsX0_append := by decide +kernel
  have w15 : Cond.fieldLink RX0 15 "ParrotLog$Log" "keys" "[I" ∈ wsX0_append := by decide +kernel
  have w18 : Cond.fieldLink RX0 18 "ParrotLog$Log" "values" "[I" ∈ wsX0_append := by decide +kernel
  have w21 : Cond.fieldLink RX0 21 "ParrotLog$Log" "stormNumbers" "[I" ∈ wsX0_append := by decide +kernel
  refine lv_aload_n C.1 C.2.1 dX0_append_0 rfl (lv_at hl 0 rfl) ?_
  refine gGet (v := .ref (a 2)) (ref := RX0) (Cn := RX0) (T := TX0) (N := 8) C iX0 hO 1 rfl rfl 0 (by decide) w9 (fun _ h9 => h9) rfl dX0_append_1 ?_
  refine lv_aload_n C.1 C.2.1 dX0_append_4 rfl (lv_at hl 0 rfl) ?_
  refine gGet (v := .int (nI (s_n S))) (ref := RX0) (Cn := RX0) (T := TX0) (N := 8) C iX0 hO 1 rfl rfl 5 (by decide) w28 (fun _ h9 => h9) rfl dX0_append_5 ?_
  refine lv_aload_n C.1 C.2.1 dX0_append_8 rfl (lv_at hl 0 rfl) ?_
  refine gGet (v := .int (s_nx S)) (ref := RX0) (Cn := RX0) (T := TX0) (N := 8) C iX0 hO 1 rfl rfl 6 (by decide) w32 (fun _ h9 => h9) rfl dX0_append_9 ?_
  refine gIast (j := (s_n S)) (ws' := (xW E a (mkS (upd (s_off S) (s_n S) (s_nx S)) (s_key S) (s_val S) (s_sto S) (s_n S) (s_nx S) (s_dr S) (s_hr S) (s_sc S) (s_on S) (s_said S) (s_sh S) (s_pc S) (s_at S) (s_hd S) (s_ms S) (s_kn S)) mk rk rv ++ F)) C hO 2 rfl (by omega) (by decide) rfl dX0_append_12 (fun H locs hO => ?_)
  refine lv_aload_n C.1 C.2.1 dX0_append_13 rfl (lv_at hl 0 rfl) ?_
  refine gGet (v := .ref (a 3)) (ref := RX0) (Cn := RX0) (T := TX0) (N := 8) C iX0 hO 1 rfl rfl 1 (by decide) w15 (fun _ h9 => h9) rfl dX0_append_14 ?_
  refine lv_aload_n C.1 C.2.1 dX0_append_17 rfl (lv_at hl 0 rfl) ?_
  refine gGet (v := .int (nI (s_n S))) (ref := RX0) (Cn := RX0) (T := TX0) (N := 8) C iX0 hO 1 rfl rfl 5 (by decide) w28 (fun _ h9 => h9) rfl dX0_append_18 ?_
  refine lv_iload_n C.1 C.2.1 dX0_append_21 rfl (lv_at hl 1 rfl) ?_
  refine gIast (j := (s_n S)) (ws' := (xW E a (mkS (upd (s_off S) (s_n S) (s_nx S)) (upd (s_key S) (s_n S) k) (s_val S) (s_sto S) (s_n S) (s_nx S) (s_dr S) (s_hr S) (s_sc S) (s_on S) (s_said S) (s_sh S) (s_pc S) (s_at S) (s_hd S) (s_ms S) (s_kn S)) mk rk rv ++ F)) C hO 3 rfl (by omega) (by decide) rfl dX0_append_22 (fun H locs hO => ?_)
  refine lv_aload_n C.1 C.2.1 dX0_append_23 rfl (lv_at hl 0 rfl) ?_
  refine gGet (v := .ref (a 4)) (ref := RX0) (Cn := RX0) (T := TX0) (N := 8) C iX0 hO 1 rfl rfl 2 (by decide) w18 (fun _ h9 => h9) rfl dX0_append_24 ?_
  refine lv_aload_n C.1 C.2.1 dX0_append_27 rfl (lv_at hl 0 rfl) ?_
  refine gGet (v := .int (nI (s_n S))) (ref := RX0) (Cn := RX0) (T := TX0) (N := 8) C iX0 hO 1 rfl rfl 5 (by decide) w28 (fun _ h9 => h9) rfl dX0_append_28 ?_
  refine lv_iload_n C.1 C.2.1 dX0_append_31 rfl (lv_at hl 2 rfl) ?_
  refine gIast (j := (s_n S)) (ws' := (xW E a (mkS (upd (s_off S) (s_n S) (s_nx S)) (upd (s_key S) (s_n S) k) (upd (s_val S) (s_n S) v) (s_sto S) (s_n S) (s_nx S) (s_dr S) (s_hr S) (s_sc S) (s_on S) (s_said S) (s_sh S) (s_pc S) (s_at S) (s_hd S) (s_ms S) (s_kn S)) mk rk rv ++ F)) C hO 4 rfl (by omega) (by decide) rfl dX0_append_32 (fun H locs hO => ?_)
  refine lv_aload_n C.1 C.2.1 dX0_append_33 rfl (lv_at hl 0 rfl) ?_
  refine gGet (v := .ref (a 5)) (ref := RX0) (Cn := RX0) (T := TX0) (N := 8) C iX0 hO 1 rfl rfl 3 (by decide) w21 (fun _ h9 => h9) rfl dX0_append_34 ?_
  refine lv_aload_n C.1 C.2.1 dX0_append_37 rfl (lv_at hl 0 rfl) ?_
  refine gGet (v := .int (nI (s_n S))) (ref := RX0) (Cn := RX0) (T := TX0) (N := 8) C iX0 hO 1 rfl rfl 5 (by decide) w28 (fun _ h9 => h9) rfl dX0_append_38 ?_
  refine lv_iload_n C.1 C.2.1 dX0_append_41 rfl (lv_at hl 3 rfl) ?_
  refine gIast (j := (s_n S)) (ws' := (xW E a (mkS (upd (s_off S) (s_n S) (s_nx S)) (upd (s_key S) (s_n S) k) (upd (s_val S) (s_n S) v) (upd (s_sto S) (s_n S) t) (s_n S) (s_nx S) (s_dr S) (s_hr S) (s_sc S) (s_on S) (s_said S) (s_sh S) (s_pc S) (s_at S) (s_hd S) (s_ms S) (s_kn S)) mk rk rv ++ F)) C hO 5 rfl (by omega) (by decide) rfl dX0_append_42 (fun H locs hO => ?_)
  refine lv_aload_n C.1 C.2.1 dX0_append_43 rfl (lv_at hl 0 rfl) ?_
  refine lv_dup C.1 C.2.1 dX0_append_44 rfl ?_
  refine gGet (v := .int (nI (s_n S))) (ref := RX0) (Cn := RX0) (T := TX0) (N := 8) C iX0 hO 1 rfl rfl 5 (by decide) w28 (fun _ h9 => h9) rfl dX0_append_45 ?_
  refine lv_iconst (v := 1) C.1 C.2.1 dX0_append_48 (by decide) ?_
  refine gAddN (x := (s_n S)) (y := 1) C.1 C.2.1 dX0_append_49 ?_
  refine gPut (ws' := (xW E a (mkS (upd (s_off S) (s_n S) (s_nx S)) (upd (s_key S) (s_n S) k) (upd (s_val S) (s_n S) v) (upd (s_sto S) (s_n S) t) ((s_n S) + 1) (s_nx S) (s_dr S) (s_hr S) (s_sc S) (s_on S) (s_said S) (s_sh S) (s_pc S) (s_at S) (s_hd S) (s_ms S) (s_kn S)) mk rk rv ++ F)) (ref := RX0) (Cn := RX0) (T := TX0) (N := 8) C iX0 tyX0 tyX0_ok nmX0 hO 1 rfl rfl 5 (by decide) w28 (fun _ h9 => h9) rfl (by decide +kernel) rfl rfl (Nat.le_of_ble_eq_true rfl) rfl dX0_append_50 (fun H locs hO => ?_)
  refine lv_aload_n C.1 C.2.1 dX0_append_53 rfl (lv_at hl 0 rfl) ?_
  refine lv_dup C.1 C.2.1 dX0_append_54 rfl ?_
  refine gGet (v := .int (s_nx S)) (ref := RX0) (Cn := RX0) (T := TX0) (N := 8) C iX0 hO 1 rfl rfl 6 (by decide) w32 (fun _ h9 => h9) rfl dX0_append_55 ?_
  refine lv_iconst (v := 1) C.1 C.2.1 dX0_append_58 (by decide) ?_
  refine lv_iadd C.1 C.2.1 dX0_append_59 ?_
  refine gPut (ws' := (xW E a (mkS (upd (s_off S) (s_n S) (s_nx S)) (upd (s_key S) (s_n S) k) (upd (s_val S) (s_n S) v) (upd (s_sto S) (s_n S) t) ((s_n S) + 1) ((s_nx S) + 1) (s_dr S) (s_hr S) (s_sc S) (s_on S) (s_said S) (s_sh S) (s_pc S) (s_at S) (s_hd S) (s_ms S) (s_kn S)) mk rk rv ++ F)) (ref := RX0) (Cn := RX0) (T := TX0) (N := 8) C iX0 tyX0 tyX0_ok nmX0 hO 1 rfl rfl 6 (by decide) w32 (fun _ h9 => h9) rfl (by decide +kernel) rfl rfl (Nat.le_of_ble_eq_true rfl) rfl dX0_append_60 (fun H locs hO => ?_)
  refine lv_aload_n C.1 C.2.1 dX0_append_63 rfl (lv_at hl 0 rfl) ?_
  refine gGet (v := .int ((s_nx S) + 1)) (ref := RX0) (Cn := RX0) (T := TX0) (N := 8) C iX0 hO 1 rfl rfl 6 (by decide) w32 (fun _ h9 => h9) rfl dX0_append_64 ?_
  refine lv_iconst (v := 1) C.1 C.2.1 dX0_append_67 (by decide) ?_
  refine lv_isub C.1 C.2.1 dX0_append_68 ?_
  exact gRi C hO rfl (by rw [Int32.add_sub_cancel]) dX0_append_69 (Nat.le_of_ble_eq_true rfl) (Nat.le_of_ble_eq_true rfl)

set_option maxHeartbeats 4000000 in
set_option maxRecDepth 100000 in
theorem c_X0_positionFrom (l : Launch) (E : gE) (a : Nat → Nat) (S : St) (mk rk rv : Nat → Int32) (F : va_W) (o : Int32) (hn : s_n S ≤ 48) : gMi l E yX0_positionFrom wsX0_positionFrom ({ frames := 0, cells := 0, slots := 0, locals := 0 }) (xW E a S mk rk rv ++ F) [.ref (a 1), .int o] (nI (pf (s_off S) o (s_n S))) (xW E a S mk rk rv ++ F) 0 0 := by
  refine gMi.of (cc := cX0_positionFrom) (maxL := 3) (ty := .int) (by decide) rfl (Nat.le_of_ble_eq_true rfl) ?_
  intro p e s m args below meth c A C ls hl hO
  have hl : lv_has ls 3 [(0, .ref (a 1)), (1, .int o)] := hl
  have iX0 : ∀ w ∈ u_ws RX0 TX0 8, w ∈ wsX0_positionFrom := by decide +kernel
  have w28 : Cond.fieldLink RX0 28 "ParrotLog$Log" "size" "I" ∈ wsX0_positionFrom := by decide +kernel
  have w9 : Cond.fieldLink RX0 9 "ParrotLog$Log" "offsets" "[I" ∈ wsX0_positionFrom := by decide +kernel
  refine lv_iconst (v := 0) C.1 C.2.1 dX0_positionFrom_0 (by decide) ?_
  refine lv_istore_n (lv' := [(2, .int 0), (0, .ref (a 1)), (1, .int o)]) C.1 C.2.1 dX0_positionFrom_1 rfl hl (by decide) rfl (fun ls hl => ?_)
  have lp24 : ∀ (f : Nat) (k : Nat), (s_n S + 1 ≤ k + f) → (k ≤ s_n S) → (pfA (s_off S) o (s_n S - k) k = pf (s_off S) o (s_n S)) → ∀ (H : Heap) (locs : List Loc), gO E A s (xW E a S mk rk rv ++ F) H locs → ∀ ls : Array Slot, lv_has ls 3 [(0, .ref (a 1)), (1, .int o), (2, .int (nI k))] → W p l e ({ frames := 0, cells := 0, slots := 0, locals := 0 } : Room) s m args below meth c H locs 0 0 (MQ below (gQi E A (nI (pf (s_off S) o (s_n S))) (xW E a S mk rk rv ++ F)) args s 0 0 A) (F0 m 2 ls []) := by
    intro f
    induction f with
    | zero =>
      intro k hf hk hR
      exact absurd hf (by omega)
    | succ f ih24 =>
      intro k hf hk hR H locs hO ls hl
      refine lv_iload_n C.1 C.2.1 dX0_positionFrom_2 rfl (lv_at hl 2 rfl) ?_
      refine lv_aload_n C.1 C.2.1 dX0_positionFrom_3 rfl (lv_at hl 0 rfl) ?_
      refine gGet (v := .int (nI (s_n S))) (ref := RX0) (Cn := RX0) (T := TX0) (N := 8) C iX0 hO 1 rfl rfl 5 (by decide) w28 (fun _ h9 => h9) rfl dX0_positionFrom_4 ?_
      refine gGeN (x := k) (y := (s_n S)) (tgt := 26) C.1 C.2.1 (by omega) (by omega) dX0_positionFrom_7 (by decide) (fun c_1 => ?_) (fun c_1 => ?_)
      · refine lv_iload_n C.1 C.2.1 dX0_positionFrom_26 rfl (lv_at hl 2 rfl) ?_
        exact gRi C hO rfl (by first | exact (by rw [← hR, show s_n S - k = 0 by omega, pfA]) | exact (by rw [← hR, show s_n S - k = s_n S - (k + 1) + 1 by omega, pfA, if_neg c_2])) dX0_positionFrom_27 (Nat.le_of_ble_eq_true rfl) (Nat.le_of_ble_eq_true rfl)
      · refine lv_aload_n C.1 C.2.1 dX0_positionFrom_10 rfl (lv_at hl 0 rfl) ?_
        refine gGet (v := .ref (a 2)) (ref := RX0) (Cn := RX0) (T := TX0) (N := 8) C iX0 hO 1 rfl rfl 0 (by decide) w9 (fun _ h9 => h9) rfl dX0_positionFrom_11 ?_
        refine lv_iload_n C.1 C.2.1 dX0_positionFrom_14 rfl (lv_at hl 2 rfl) ?_
        refine gIald (v := (s_off S) k) (j := k) C hO 2 rfl (by omega) (by decide) rfl dX0_positionFrom_15 ?_
        refine lv_iload_n C.1 C.2.1 dX0_positionFrom_16 rfl (lv_at hl 1 rfl) ?_
        refine gGeI (tgt := 26) C.1 C.2.1 dX0_positionFrom_17 (by decide) (fun c_2 => ?_) (fun c_2 => ?_)
        · refine lv_iload_n C.1 C.2.1 dX0_positionFrom_26 rfl (lv_at hl 2 rfl) ?_
          exact gRi C hO rfl (by first | exact (by rw [← hR, show s_n S - k = 0 by omega, pfA]) | exact (by rw [← hR, show s_n S - k = s_n S - (k + 1) + 1 by omega, pfA, if_neg c_2])) dX0_positionFrom_27 (Nat.le_of_ble_eq_true rfl) (Nat.le_of_ble_eq_true rfl)
        · refine gInc (j := k) (k := 2) (lv' := [(2, .int (nI (k + 1))), (0, .ref (a 1)), (1, .int o)]) C.1 C.2.1 dX0_positionFrom_20 hl rfl (by decide) rfl (fun ls hl => ?_)
          refine lv_goto (tgt := 2) C.1 C.2.1 dX0_positionFrom_23 (by decide) ?_
          exact ih24 (k + 1) (by omega) (by omega) (by rw [← hR, show s_n S - k = s_n S - (k + 1) + 1 by omega, pfA, if_pos c_2]) _ _ hO _ (lv_sub hl [1, 2, 0] rfl)
  exact lp24 (s_n S + 1) 0 (by omega) (Nat.zero_le _) rfl _ _ hO _ (lv_sub hl [1, 2, 0] rfl)

set_option maxHeartbeats 4000000 in
set_option maxRecDepth 100000 in
theorem c_X0_markFirst (l : Launch) (E : gE) (a : Nat → Nat) (S : St) (mk rk rv : Nat → Int32) (F : va_W)  (hn : s_n S ≤ 48) : gMv l E yX0_markFirst wsX0_markFirst ({ frames := 0, cells := 0, slots := 0, locals := 0 }) (xW E a S mk rk rv ++ F) [.ref (a 1)] (xW E a S (mkU gFirst mk (s_n S)) rk rv ++ F) 0 0 := by
  refine gMv.of (cc := cX0_markFirst) (maxL := 2) (by decide) rfl (Nat.le_of_ble_eq_true rfl) ?_
  intro p e s m args below meth c A C ls hl hO
  have hl : lv_has ls 2 [(0, .ref (a 1))] := hl
  have iX0 : ∀ w ∈ u_ws RX0 TX0 8, w ∈ wsX0_markFirst := by decide +kernel
  have w28 : Cond.fieldLink RX0 28 "ParrotLog$Log" "size" "I" ∈ wsX0_markFirst := by decide +kernel
  have w24 : Cond.fieldLink RX0 24 "ParrotLog$Log" "marked" "[Z" ∈ wsX0_markFirst := by decide +kernel
  have hO : gO E A s (xW E a S (mkU gFirst mk 0) rk rv ++ F) s.heap [] := by rw [mkU_0]; exact hO
  refine lv_iconst (v := 0) C.1 C.2.1 dX0_markFirst_0 (by decide) ?_
  refine lv_istore_n (lv' := [(1, .int 0), (0, .ref (a 1))]) C.1 C.2.1 dX0_markFirst_1 rfl hl (by decide) rfl (fun ls hl => ?_)
  have lp24 : ∀ (f : Nat) (k : Nat), (s_n S + 1 ≤ k + f) → (k ≤ s_n S) → ∀ (H : Heap) (locs : List Loc), gO E A s (xW E a S (mkU gFirst mk k) rk rv ++ F) H locs → ∀ ls : Array Slot, lv_has ls 2 [(0, .ref (a 1)), (1, .int (nI k))] → W p l e ({ frames := 0, cells := 0, slots := 0, locals := 0 } : Room) s m args below meth c H locs 0 0 (MQ below (gQv E A (xW E a S (mkU gFirst mk (s_n S)) rk rv ++ F)) args s 0 0 A) (F0 m 2 ls []) := by
    intro f
    induction f with
    | zero =>
      intro k hf hk
      exact absurd hf (by omega)
    | succ f ih24 =>
      intro k hf hk H locs hO ls hl
      refine lv_iload_n C.1 C.2.1 dX0_markFirst_2 rfl (lv_at hl 1 rfl) ?_
      refine lv_aload_n C.1 C.2.1 dX0_markFirst_3 rfl (lv_at hl 0 rfl) ?_
      refine gGet (v := .int (nI (s_n S))) (ref := RX0) (Cn := RX0) (T := TX0) (N := 8) C iX0 hO 1 rfl rfl 5 (by decide) w28 (fun _ h9 => h9) rfl dX0_markFirst_4 ?_
      refine gGeN (x := k) (y := (s_n S)) (tgt := 31) C.1 C.2.1 (by omega) (by omega) dX0_markFirst_7 (by decide) (fun c_1 => ?_) (fun c_1 => ?_)
      · exact gRv C ((show k = s_n S by omega) ▸ hO) dX0_markFirst_31 (Nat.le_of_ble_eq_true rfl) (Nat.le_of_ble_eq_true rfl)
      · refine lv_aload_n C.1 C.2.1 dX0_markFirst_10 rfl (lv_at hl 0 rfl) ?_
        refine gGet (v := .ref (a 6)) (ref := RX0) (Cn := RX0) (T := TX0) (N := 8) C iX0 hO 1 rfl rfl 4 (by decide) w24 (fun _ h9 => h9) rfl dX0_markFirst_11 ?_
        refine lv_iload_n C.1 C.2.1 dX0_markFirst_14 rfl (lv_at hl 1 rfl) ?_
        refine lv_iload_n C.1 C.2.1 dX0_markFirst_15 rfl (lv_at hl 1 rfl) ?_
        refine lv_if_ne (tgt := 23) C.1 C.2.1 dX0_markFirst_16 (by decide) (fun c_2 => ?_) (fun c_2 => ?_)
        · have hz : gFirst k = 0 := if_neg (fun h => c_2 (by rw [h]; rfl))
          refine lv_iconst (v := 0) C.1 C.2.1 dX0_markFirst_23 (by decide) ?_
          refine gZast (j := k) (ws' := (xW E a S (mkU gFirst mk (k + 1)) rk rv ++ F)) C hO 6 rfl (by omega) (by decide) rfl (by rw [mkU_sv hz]; rfl) dX0_markFirst_24 (fun H locs hO => ?_)
          refine gInc (j := k) (k := 1) (lv' := [(1, .int (nI (k + 1))), (0, .ref (a 1))]) C.1 C.2.1 dX0_markFirst_25 hl rfl (by decide) rfl (fun ls hl => ?_)
          refine lv_goto (tgt := 2) C.1 C.2.1 dX0_markFirst_28 (by decide) ?_
          exact ih24 (k + 1) (by omega) (by omega) _ _ hO _ (lv_sub hl [1, 0] rfl)
        · have hz : gFirst k = 1 := if_pos (nI_z (by omega) c_2)
          refine lv_iconst (v := 1) C.1 C.2.1 dX0_markFirst_19 (by decide) ?_
          refine lv_goto (tgt := 24) C.1 C.2.1 dX0_markFirst_20 (by decide) ?_
          refine gZast (j := k) (ws' := (xW E a S (mkU gFirst mk (k + 1)) rk rv ++ F)) C hO 6 rfl (by omega) (by decide) rfl (by rw [mkU_sv hz]; rfl) dX0_markFirst_24 (fun H locs hO => ?_)
          refine gInc (j := k) (k := 1) (lv' := [(1, .int (nI (k + 1))), (0, .ref (a 1))]) C.1 C.2.1 dX0_markFirst_25 hl rfl (by decide) rfl (fun ls hl => ?_)
          refine lv_goto (tgt := 2) C.1 C.2.1 dX0_markFirst_28 (by decide) ?_
          exact ih24 (k + 1) (by omega) (by omega) _ _ hO _ (lv_sub hl [1, 0] rfl)
  exact lp24 (s_n S + 1) 0 (by omega) (Nat.zero_le _) _ _ hO _ (lv_sub hl [1, 0] rfl)

set_option maxHeartbeats 4000000 in
set_option maxRecDepth 100000 in
theorem c_X0_markAhead (l : Launch) (E : gE) (a : Nat → Nat) (S : St) (mk rk rv : Nat → Int32) (F : va_W) (o : Int32) (hn : s_n S ≤ 48) : gMv l E yX0_markAhead wsX0_markAhead ({ frames := 0, cells := 0, slots := 0, locals := 0 }) (xW E a S mk rk rv ++ F) [.ref (a 1), .int o] (xW E a S (mkU (gAhead (s_off S) o) mk (s_n S)) rk rv ++ F) 0 0 := by
  refine gMv.of (cc := cX0_markAhead) (maxL := 3) (by decide) rfl (Nat.le_of_ble_eq_true rfl) ?_
  intro p e s m args below meth c A C ls hl hO
  have hl : lv_has ls 3 [(0, .ref (a 1)), (1, .int o)] := hl
  have iX0 : ∀ w ∈ u_ws RX0 TX0 8, w ∈ wsX0_markAhead := by decide +kernel
  have w28 : Cond.fieldLink RX0 28 "ParrotLog$Log" "size" "I" ∈ wsX0_markAhead := by decide +kernel
  have w24 : Cond.fieldLink RX0 24 "ParrotLog$Log" "marked" "[Z" ∈ wsX0_markAhead := by decide +kernel
  have w9 : Cond.fieldLink RX0 9 "ParrotLog$Log" "offsets" "[I" ∈ wsX0_markAhead := by decide +kernel
  have hO : gO E A s (xW E a S (mkU (gAhead (s_off S) o) mk 0) rk rv ++ F) s.heap [] := by rw [mkU_0]; exact hO
  refine lv_iconst (v := 0) C.1 C.2.1 dX0_markAhead_0 (by decide) ?_
  refine lv_istore_n (lv' := [(2, .int 0), (0, .ref (a 1)), (1, .int o)]) C.1 C.2.1 dX0_markAhead_1 rfl hl (by decide) rfl (fun ls hl => ?_)
  have lp24 : ∀ (f : Nat) (k : Nat), (s_n S + 1 ≤ k + f) → (k ≤ s_n S) → ∀ (H : Heap) (locs : List Loc), gO E A s (xW E a S (mkU (gAhead (s_off S) o) mk k) rk rv ++ F) H locs → ∀ ls : Array Slot, lv_has ls 3 [(0, .ref (a 1)), (1, .int o), (2, .int (nI k))] → W p l e ({ frames := 0, cells := 0, slots := 0, locals := 0 } : Room) s m args below meth c H locs 0 0 (MQ below (gQv E A (xW E a S (mkU (gAhead (s_off S) o) mk (s_n S)) rk rv ++ F)) args s 0 0 A) (F0 m 2 ls []) := by
    intro f
    induction f with
    | zero =>
      intro k hf hk
      exact absurd hf (by omega)
    | succ f ih24 =>
      intro k hf hk H locs hO ls hl
      refine lv_iload_n C.1 C.2.1 dX0_markAhead_2 rfl (lv_at hl 2 rfl) ?_
      refine lv_aload_n C.1 C.2.1 dX0_markAhead_3 rfl (lv_at hl 0 rfl) ?_
      refine gGet (v := .int (nI (s_n S))) (ref := RX0) (Cn := RX0) (T := TX0) (N := 8) C iX0 hO 1 rfl rfl 5 (by decide) w28 (fun _ h9 => h9) rfl dX0_markAhead_4 ?_
      refine gGeN (x := k) (y := (s_n S)) (tgt := 37) C.1 C.2.1 (by omega) (by omega) dX0_markAhead_7 (by decide) (fun c_1 => ?_) (fun c_1 => ?_)
      · exact gRv C ((show k = s_n S by omega) ▸ hO) dX0_markAhead_37 (Nat.le_of_ble_eq_true rfl) (Nat.le_of_ble_eq_true rfl)
      · refine lv_aload_n C.1 C.2.1 dX0_markAhead_10 rfl (lv_at hl 0 rfl) ?_
        refine gGet (v := .ref (a 6)) (ref := RX0) (Cn := RX0) (T := TX0) (N := 8) C iX0 hO 1 rfl rfl 4 (by decide) w24 (fun _ h9 => h9) rfl dX0_markAhead_11 ?_
        refine lv_iload_n C.1 C.2.1 dX0_markAhead_14 rfl (lv_at hl 2 rfl) ?_
        refine lv_aload_n C.1 C.2.1 dX0_markAhead_15 rfl (lv_at hl 0 rfl) ?_
        refine gGet (v := .ref (a 2)) (ref := RX0) (Cn := RX0) (T := TX0) (N := 8) C iX0 hO 1 rfl rfl 0 (by decide) w9 (fun _ h9 => h9) rfl dX0_markAhead_16 ?_
        refine lv_iload_n C.1 C.2.1 dX0_markAhead_19 rfl (lv_at hl 2 rfl) ?_
        refine gIald (v := (s_off S) k) (j := k) C hO 2 rfl (by omega) (by decide) rfl dX0_markAhead_20 ?_
        refine lv_iload_n C.1 C.2.1 dX0_markAhead_21 rfl (lv_at hl 1 rfl) ?_
        refine gGeI (tgt := 29) C.1 C.2.1 dX0_markAhead_22 (by decide) (fun c_2 => ?_) (fun c_2 => ?_)
        · have hz : gAhead (s_off S) o k = 0 := if_neg c_2
          refine lv_iconst (v := 0) C.1 C.2.1 dX0_markAhead_29 (by decide) ?_
          refine gZast (j := k) (ws' := (xW E a S (mkU (gAhead (s_off S) o) mk (k + 1)) rk rv ++ F)) C hO 6 rfl (by omega) (by decide) rfl (by rw [mkU_sv hz]; rfl) dX0_markAhead_30 (fun H locs hO => ?_)
          refine gInc (j := k) (k := 2) (lv' := [(2, .int (nI (k + 1))), (0, .ref (a 1)), (1, .int o)]) C.1 C.2.1 dX0_markAhead_31 hl rfl (by decide) rfl (fun ls hl => ?_)
          refine lv_goto (tgt := 2) C.1 C.2.1 dX0_markAhead_34 (by decide) ?_
          exact ih24 (k + 1) (by omega) (by omega) _ _ hO _ (lv_sub hl [1, 2, 0] rfl)
        · have hz : gAhead (s_off S) o k = 1 := if_pos c_2
          refine lv_iconst (v := 1) C.1 C.2.1 dX0_markAhead_25 (by decide) ?_
          refine lv_goto (tgt := 30) C.1 C.2.1 dX0_markAhead_26 (by decide) ?_
          refine gZast (j := k) (ws' := (xW E a S (mkU (gAhead (s_off S) o) mk (k + 1)) rk rv ++ F)) C hO 6 rfl (by omega) (by decide) rfl (by rw [mkU_sv hz]; rfl) dX0_markAhead_30 (fun H locs hO => ?_)
          refine gInc (j := k) (k := 2) (lv' := [(2, .int (nI (k + 1))), (0, .ref (a 1)), (1, .int o)]) C.1 C.2.1 dX0_markAhead_31 hl rfl (by decide) rfl (fun ls hl => ?_)
          refine lv_goto (tgt := 2) C.1 C.2.1 dX0_markAhead_34 (by decide) ?_
          exact ih24 (k + 1) (by omega) (by omega) _ _ hO _ (lv_sub hl [1, 2, 0] rfl)
  exact lp24 (s_n S + 1) 0 (by omega) (Nat.zero_le _) _ _ hO _ (lv_sub hl [1, 2, 0] rfl)

set_option maxHeartbeats 4000000 in
set_option maxRecDepth 100000 in
theorem c_X0_latestPosition (l : Launch) (E : gE) (a : Nat → Nat) (S : St) (mk rk rv : Nat → Int32) (F : va_W) (k : Int32) (fr t0 : Nat) (hfr : fr < 1000) (ht0 : t0 ≤ 48) : gMi l E yX0_latestPosition wsX0_latestPosition ({ frames := 0, cells := 0, slots := 0, locals := 0 }) (xW E a S mk rk rv ++ F) [.ref (a 1), .int k, .int (nI fr), .int (nI t0)] (oI (lpO (s_key S) k fr t0)) (xW E a S mk rk rv ++ F) 0 0 := by
  refine gMi.of (cc := cX0_latestPosition) (maxL := 5) (ty := .int) (by decide) rfl (Nat.le_of_ble_eq_true rfl) ?_
  intro p e s m args below meth c A C ls hl hO
  have hl : lv_has ls 5 [(0, .ref (a 1)), (1, .int k), (2, .int (nI fr)), (3, .int (nI t0))] := hl
  have iX0 : ∀ w ∈ u_ws RX0 TX0 8, w ∈ wsX0_latestPosition := by decide +kernel
  have w15 : Cond.fieldLink RX0 15 "ParrotLog$Log" "keys" "[I" ∈ wsX0_latestPosition := by decide +kernel
  refine lv_iload_n C.1 C.2.1 dX0_latestPosition_0 rfl (lv_at hl 3 rfl) ?_
  refine lv_iconst (v := 1) C.1 C.2.1 dX0_latestPosition_1 (by decide) ?_
  refine lv_isub C.1 C.2.1 dX0_latestPosition_2 ?_
  refine lv_istore (lv' := [(4, .int ((nI t0) - (nI 1))), (0, .ref (a 1)), (1, .int k), (2, .int (nI fr)), (3, .int (nI t0))]) C.1 C.2.1 dX0_latestPosition_3 hl (by decide) rfl (fun ls hl => ?_)
  have lp24 : ∀ (f : Nat) (t : Nat), (t + 1 ≤ f) → (t ≤ t0) → (lpO (s_key S) k fr t = lpO (s_key S) k fr t0) → ∀ (H : Heap) (locs : List Loc), gO E A s (xW E a S mk rk rv ++ F) H locs → ∀ ls : Array Slot, lv_has ls 5 [(0, .ref (a 1)), (1, .int k), (2, .int (nI fr)), (4, .int (nI t - 1))] → W p l e ({ frames := 0, cells := 0, slots := 0, locals := 0 } : Room) s m args below meth c H locs 0 0 (MQ below (gQi E A (oI (lpO (s_key S) k fr t0)) (xW E a S mk rk rv ++ F)) args s 0 0 A) (F0 m 5 ls []) := by
    intro f
    induction f with
    | zero =>
      intro t hf ht hR
      exact absurd hf (by omega)
    | succ f ih24 =>
      intro t hf ht hR H locs hO ls hl
      refine lv_iload C.1 C.2.1 dX0_latestPosition_5 (lv_at hl 3 rfl) ?_
      refine lv_iload_n C.1 C.2.1 dX0_latestPosition_7 rfl (lv_at hl 2 rfl) ?_
      refine lv_icmp_lt (tgt := 31) C.1 C.2.1 dX0_latestPosition_8 (by decide) (fun c_1 => ?_) (fun c_1 => ?_)
      · have hge : t ≤ fr := (lpO_ls (key := s_key S) (k := k) (by omega) (by omega)).mp c_1
        refine lv_iconst (v := (-1)) C.1 C.2.1 dX0_latestPosition_31 (by decide) ?_
        exact gRi C hO rfl (by rw [← hR, lpO_ge hge]; rfl) dX0_latestPosition_32 (Nat.le_of_ble_eq_true rfl) (Nat.le_of_ble_eq_true rfl)
      · have hlt : fr < t := by rw [lpO_ls (key := s_key S) (k := k) (by omega) (by omega)] at c_1; omega
        refine lv_aload_n C.1 C.2.1 dX0_latestPosition_11 rfl (lv_at hl 0 rfl) ?_
        refine gGet (v := .ref (a 3)) (ref := RX0) (Cn := RX0) (T := TX0) (N := 8) C iX0 hO 1 rfl rfl 1 (by decide) w15 (fun _ h9 => h9) rfl dX0_latestPosition_12 ?_
        refine lv_iload C.1 C.2.1 dX0_latestPosition_15 (lv_at hl 3 rfl) ?_
        refine lv_eqi (y := nI (t - 1)) (nI_p (by omega)) ?_
        refine gIald (v := (s_key S) (t - 1)) (j := (t - 1)) C hO 3 rfl (by omega) (by decide) rfl dX0_latestPosition_17 ?_
        refine lv_iload_n C.1 C.2.1 dX0_latestPosition_18 rfl (lv_at hl 1 rfl) ?_
        refine lv_icmp_ne (tgt := 25) C.1 C.2.1 dX0_latestPosition_19 (by decide) (fun c_2 => ?_) (fun c_2 => ?_)
        · refine lv_iinc (v := nI (t - 1) - 1) (lv' := [(4, .int (nI (t - 1) - 1)), (0, .ref (a 1)), (1, .int k), (2, .int (nI fr))]) C.1 C.2.1 dX0_latestPosition_25 hl (k := 3) rfl (by rw [iDec, nI_p (by omega)]) (by decide) rfl (fun ls hl => ?_)
          refine lv_goto (tgt := 5) C.1 C.2.1 dX0_latestPosition_28 (by decide) ?_
          exact ih24 (t - 1) (by omega) (by omega) (by rw [← hR, lpO_s hlt, if_neg c_2]) _ _ hO _ (lv_sub hl [1, 2, 3, 0] rfl)
        · refine lv_iload C.1 C.2.1 dX0_latestPosition_22 (lv_at hl 3 rfl) ?_
          exact gRi C hO rfl (by rw [nI_p (by omega), ← hR, lpO_s hlt, if_pos c_2]; rfl) dX0_latestPosition_24 (Nat.le_of_ble_eq_true rfl) (Nat.le_of_ble_eq_true rfl)
  exact lp24 (t0 + 1) t0 (by omega) (Nat.le_refl _) rfl _ _ hO _ (lv_sub hl [1, 2, 3, 0] rfl)

set_option maxHeartbeats 4000000 in
set_option maxRecDepth 100000 in
theorem c_X0_markCompacted (l : Launch) (E : gE) (a : Nat → Nat) (S : St) (mk rk rv : Nat → Int32) (F : va_W) (q : Int32) (hn : s_n S ≤ 48) : gMv l E yX0_markCompacted wsX0_markCompacted ({ frames := 1, cells := 0, slots := 0, locals := 24 }) (xW E a S mk rk rv ++ F) [.ref (a 1), .int q] (xW E a S (mkU (gComp (s_off S) (s_key S) (s_val S) (s_n S) q) mk (s_n S)) rk rv ++ F) 0 0 := by
  refine gMv.of (cc := cX0_markCompacted) (maxL := 5) (by decide) rfl (Nat.le_of_ble_eq_true rfl) ?_
  intro p e s m args below meth c A C ls hl hO
  have hl : lv_has ls 5 [(0, .ref (a 1)), (1, .int q)] := hl
  have iX0 : ∀ w ∈ u_ws RX0 TX0 8, w ∈ wsX0_markCompacted := by decide +kernel
  have w28 : Cond.fieldLink RX0 28 "ParrotLog$Log" "size" "I" ∈ wsX0_markCompacted := by decide +kernel
  have w15 : Cond.fieldLink RX0 15 "ParrotLog$Log" "keys" "[I" ∈ wsX0_markCompacted := by decide +kernel
  have w18 : Cond.fieldLink RX0 18 "ParrotLog$Log" "values" "[I" ∈ wsX0_markCompacted := by decide +kernel
  have w24 : Cond.fieldLink RX0 24 "ParrotLog$Log" "marked" "[Z" ∈ wsX0_markCompacted := by decide +kernel
  have w9 : Cond.fieldLink RX0 9 "ParrotLog$Log" "offsets" "[I" ∈ wsX0_markCompacted := by decide +kernel
  have hO : gO E A s (xW E a S (mkU (gComp (s_off S) (s_key S) (s_val S) (s_n S) q) mk 0) rk rv ++ F) s.heap [] := by rw [mkU_0]; exact hO
  refine lv_iconst (v := 0) C.1 C.2.1 dX0_markCompacted_0 (by decide) ?_
  refine lv_istore_n (lv' := [(2, .int 0), (0, .ref (a 1)), (1, .int q)]) C.1 C.2.1 dX0_markCompacted_1 rfl hl (by decide) rfl (fun ls hl => ?_)
  have lp24 : ∀ (f : Nat) (k : Nat), (s_n S + 1 ≤ k + f) → (k ≤ s_n S) → ∀ (H : Heap) (locs : List Loc), gO E A s (xW E a S (mkU (gComp (s_off S) (s_key S) (s_val S) (s_n S) q) mk k) rk rv ++ F) H locs → ∀ ls : Array Slot, lv_has ls 5 [(0, .ref (a 1)), (1, .int q), (2, .int (nI k))] → W p l e ({ frames := 1, cells := 0, slots := 0, locals := 24 } : Room) s m args below meth c H locs 0 0 (MQ below (gQv E A (xW E a S (mkU (gComp (s_off S) (s_key S) (s_val S) (s_n S) q) mk (s_n S)) rk rv ++ F)) args s 0 0 A) (F0 m 2 ls []) := by
    intro f
    induction f with
    | zero =>
      intro k hf hk
      exact absurd hf (by omega)
    | succ f ih24 =>
      intro k hf hk H locs hO ls hl
      refine lv_iload_n C.1 C.2.1 dX0_markCompacted_2 rfl (lv_at hl 2 rfl) ?_
      refine lv_aload_n C.1 C.2.1 dX0_markCompacted_3 rfl (lv_at hl 0 rfl) ?_
      refine gGet (v := .int (nI (s_n S))) (ref := RX0) (Cn := RX0) (T := TX0) (N := 8) C iX0 hO 1 rfl rfl 5 (by decide) w28 (fun _ h9 => h9) rfl dX0_markCompacted_4 ?_
      refine gGeN (x := k) (y := (s_n S)) (tgt := 89) C.1 C.2.1 (by omega) (by omega) dX0_markCompacted_7 (by decide) (fun c_1 => ?_) (fun c_1 => ?_)
      · exact gRv C ((show k = s_n S by omega) ▸ hO) dX0_markCompacted_89 (Nat.le_of_ble_eq_true rfl) (Nat.le_of_ble_eq_true rfl)
      · refine lv_aload_n C.1 C.2.1 dX0_markCompacted_10 rfl (lv_at hl 0 rfl) ?_
        refine lv_aload_n C.1 C.2.1 dX0_markCompacted_11 rfl (lv_at hl 0 rfl) ?_
        refine gGet (v := .ref (a 3)) (ref := RX0) (Cn := RX0) (T := TX0) (N := 8) C iX0 hO 1 rfl rfl 1 (by decide) w15 (fun _ h9 => h9) rfl dX0_markCompacted_12 ?_
        refine lv_iload_n C.1 C.2.1 dX0_markCompacted_15 rfl (lv_at hl 2 rfl) ?_
        refine gIald (v := (s_key S) k) (j := k) C hO 3 rfl (by omega) (by decide) rfl dX0_markCompacted_16 ?_
        refine lv_iload_n C.1 C.2.1 dX0_markCompacted_17 rfl (lv_at hl 2 rfl) ?_
        refine lv_iconst (v := 1) C.1 C.2.1 dX0_markCompacted_18 (by decide) ?_
        refine gAddN (x := k) (y := 1) C.1 C.2.1 dX0_markCompacted_19 ?_
        refine lv_aload_n C.1 C.2.1 dX0_markCompacted_20 rfl (lv_at hl 0 rfl) ?_
        refine gGet (v := .int (nI (s_n S))) (ref := RX0) (Cn := RX0) (T := TX0) (N := 8) C iX0 hO 1 rfl rfl 5 (by decide) w28 (fun _ h9 => h9) rfl dX0_markCompacted_21 ?_
        refine gCall_i (As := [.int ((s_key S) k), .int (nI (k + 1)), .int (nI (s_n S))]) (rest := []) C hO (c_X0_latestPosition l E a S (mkU (gComp (s_off S) (s_key S) (s_val S) (s_n S) q) mk k) rk rv F ((s_key S) k) (k + 1) (s_n S) (by omega) (by omega)) (cwV 3 C.2.2.2.2.1 gX0_markCompacted_X0_latestPosition rfl rfl rfl (by decide +kernel) ⟨(Nat.le_of_ble_eq_true rfl), (Nat.le_of_ble_eq_true rfl)⟩) (va_recv C.2.2.2.2.2.2.2.1.1 hO.1 (ci := 0) (q0 := 1) rfl rfl) rfl hl.1 rfl (Nat.le_of_ble_eq_true rfl) dX0_markCompacted_24 ⟨(Nat.le_of_ble_eq_true rfl), (Nat.le_of_ble_eq_true rfl)⟩ (fun H locs hO => ?_)
        refine lv_iconst (v := (-1)) C.1 C.2.1 dX0_markCompacted_27 (by decide) ?_
        refine lv_icmp_eq (tgt := 35) C.1 C.2.1 dX0_markCompacted_28 (by decide) (fun c_2 => ?_) (fun c_2 => ?_)
        · have h1 : lpO (s_key S) (s_key S k) (k + 1) (s_n S) = none := lpO_m1 (by omega) c_2
          refine lv_iconst (v := 0) C.1 C.2.1 dX0_markCompacted_35 (by decide) ?_
          refine lv_istore_n (lv' := [(3, .int 0), (0, .ref (a 1)), (1, .int q), (2, .int (nI k))]) C.1 C.2.1 dX0_markCompacted_36 rfl hl (by decide) rfl (fun ls hl => ?_)
          refine lv_aload_n C.1 C.2.1 dX0_markCompacted_37 rfl (lv_at hl 1 rfl) ?_
          refine gGet (v := .ref (a 4)) (ref := RX0) (Cn := RX0) (T := TX0) (N := 8) C iX0 hO 1 rfl rfl 2 (by decide) w18 (fun _ h9 => h9) rfl dX0_markCompacted_38 ?_
          refine lv_iload_n C.1 C.2.1 dX0_markCompacted_41 rfl (lv_at hl 3 rfl) ?_
          refine gIald (v := (s_val S) k) (j := k) C hO 4 rfl (by omega) (by decide) rfl dX0_markCompacted_42 ?_
          refine lv_if_ne (tgt := 60) C.1 C.2.1 dX0_markCompacted_43 (by decide) (fun c_3 => ?_) (fun c_3 => ?_)
          · have hv : ¬ s_val S k = 0 := c_3
            refine lv_iconst (v := 0) C.1 C.2.1 dX0_markCompacted_60 (by decide) ?_
            refine lv_istore (lv' := [(4, .int 0), (3, .int 0), (0, .ref (a 1)), (1, .int q), (2, .int (nI k))]) C.1 C.2.1 dX0_markCompacted_61 hl (by decide) rfl (fun ls hl => ?_)
            refine lv_aload_n C.1 C.2.1 dX0_markCompacted_63 rfl (lv_at hl 2 rfl) ?_
            refine gGet (v := .ref (a 6)) (ref := RX0) (Cn := RX0) (T := TX0) (N := 8) C iX0 hO 1 rfl rfl 4 (by decide) w24 (fun _ h9 => h9) rfl dX0_markCompacted_64 ?_
            refine lv_iload_n C.1 C.2.1 dX0_markCompacted_67 rfl (lv_at hl 4 rfl) ?_
            refine lv_iload_n C.1 C.2.1 dX0_markCompacted_68 rfl (lv_at hl 1 rfl) ?_
            refine lv_if_ne (tgt := 77) C.1 C.2.1 dX0_markCompacted_69 (by decide) (fun c_4 => ?_) (fun c_4 => ?_)
            · exact absurd rfl c_4
            · refine lv_iload C.1 C.2.1 dX0_markCompacted_72 (lv_at hl 0 rfl) ?_
              refine lv_if_eq (tgt := 81) C.1 C.2.1 dX0_markCompacted_74 (by decide) (fun c_5 => ?_) (fun c_5 => ?_)
              · refine lv_iconst (v := 0) C.1 C.2.1 dX0_markCompacted_81 (by decide) ?_
                refine gZast (j := k) (ws' := (xW E a S (mkU (gComp (s_off S) (s_key S) (s_val S) (s_n S) q) mk (k + 1)) rk rv ++ F)) C hO 6 rfl (by omega) (by decide) rfl (by rw [mkU_sv (g := gComp (s_off S) (s_key S) (s_val S) (s_n S) q) (mk := mk) (n := k) (x := 0) (by first | exact gComp_0 (fun h => h.elim (fun g => g h1) (fun g => hv g.1)) | exact gComp_0 (fun h => h.elim (fun g => g h1) (fun g => ho g.2)))]; rfl) dX0_markCompacted_82 (fun H locs hO => ?_)
                refine gInc (j := k) (k := 4) (lv' := [(2, .int (nI (k + 1))), (4, .int 0), (3, .int 0), (0, .ref (a 1)), (1, .int q)]) C.1 C.2.1 dX0_markCompacted_83 hl rfl (by decide) rfl (fun ls hl => ?_)
                refine lv_goto (tgt := 2) C.1 C.2.1 dX0_markCompacted_86 (by decide) ?_
                refine W.widen (k := 0) (n := 0) (by omega) (by omega) ?_
                exact ih24 (k + 1) (by omega) (by omega) _ _ hO _ (lv_sub hl [3, 4, 0] rfl)
              · exact absurd rfl c_5
          · have hv : s_val S k = 0 := c_3
            refine lv_aload_n C.1 C.2.1 dX0_markCompacted_46 rfl (lv_at hl 1 rfl) ?_
            refine gGet (v := .ref (a 2)) (ref := RX0) (Cn := RX0) (T := TX0) (N := 8) C iX0 hO 1 rfl rfl 0 (by decide) w9 (fun _ h9 => h9) rfl dX0_markCompacted_47 ?_
            refine lv_iload_n C.1 C.2.1 dX0_markCompacted_50 rfl (lv_at hl 3 rfl) ?_
            refine gIald (v := (s_off S) k) (j := k) C hO 2 rfl (by omega) (by decide) rfl dX0_markCompacted_51 ?_
            refine lv_iload_n C.1 C.2.1 dX0_markCompacted_52 rfl (lv_at hl 2 rfl) ?_
            refine gGeI (tgt := 60) C.1 C.2.1 dX0_markCompacted_53 (by decide) (fun c_6 => ?_) (fun c_6 => ?_)
            · have ho : ¬ s_off S k < q := c_6
              refine lv_iconst (v := 0) C.1 C.2.1 dX0_markCompacted_60 (by decide) ?_
              refine lv_istore (lv' := [(4, .int 0), (3, .int 0), (0, .ref (a 1)), (1, .int q), (2, .int (nI k))]) C.1 C.2.1 dX0_markCompacted_61 hl (by decide) rfl (fun ls hl => ?_)
              refine lv_aload_n C.1 C.2.1 dX0_markCompacted_63 rfl (lv_at hl 2 rfl) ?_
              refine gGet (v := .ref (a 6)) (ref := RX0) (Cn := RX0) (T := TX0) (N := 8) C iX0 hO 1 rfl rfl 4 (by decide) w24 (fun _ h9 => h9) rfl dX0_markCompacted_64 ?_
              refine lv_iload_n C.1 C.2.1 dX0_markCompacted_67 rfl (lv_at hl 4 rfl) ?_
              refine lv_iload_n C.1 C.2.1 dX0_markCompacted_68 rfl (lv_at hl 1 rfl) ?_
              refine lv_if_ne (tgt := 77) C.1 C.2.1 dX0_markCompacted_69 (by decide) (fun c_7 => ?_) (fun c_7 => ?_)
              · exact absurd rfl c_7
              · refine lv_iload C.1 C.2.1 dX0_markCompacted_72 (lv_at hl 0 rfl) ?_
                refine lv_if_eq (tgt := 81) C.1 C.2.1 dX0_markCompacted_74 (by decide) (fun c_8 => ?_) (fun c_8 => ?_)
                · refine lv_iconst (v := 0) C.1 C.2.1 dX0_markCompacted_81 (by decide) ?_
                  refine gZast (j := k) (ws' := (xW E a S (mkU (gComp (s_off S) (s_key S) (s_val S) (s_n S) q) mk (k + 1)) rk rv ++ F)) C hO 6 rfl (by omega) (by decide) rfl (by rw [mkU_sv (g := gComp (s_off S) (s_key S) (s_val S) (s_n S) q) (mk := mk) (n := k) (x := 0) (by first | exact gComp_0 (fun h => h.elim (fun g => g h1) (fun g => hv g.1)) | exact gComp_0 (fun h => h.elim (fun g => g h1) (fun g => ho g.2)))]; rfl) dX0_markCompacted_82 (fun H locs hO => ?_)
                  refine gInc (j := k) (k := 4) (lv' := [(2, .int (nI (k + 1))), (4, .int 0), (3, .int 0), (0, .ref (a 1)), (1, .int q)]) C.1 C.2.1 dX0_markCompacted_83 hl rfl (by decide) rfl (fun ls hl => ?_)
                  refine lv_goto (tgt := 2) C.1 C.2.1 dX0_markCompacted_86 (by decide) ?_
                  refine W.widen (k := 0) (n := 0) (by omega) (by omega) ?_
                  exact ih24 (k + 1) (by omega) (by omega) _ _ hO _ (lv_sub hl [3, 4, 0] rfl)
                · exact absurd rfl c_8
            · have ho : s_off S k < q := c_6
              refine lv_iconst (v := 1) C.1 C.2.1 dX0_markCompacted_56 (by decide) ?_
              refine lv_goto (tgt := 61) C.1 C.2.1 dX0_markCompacted_57 (by decide) ?_
              refine lv_istore (lv' := [(4, .int 1), (3, .int 0), (0, .ref (a 1)), (1, .int q), (2, .int (nI k))]) C.1 C.2.1 dX0_markCompacted_61 hl (by decide) rfl (fun ls hl => ?_)
              refine lv_aload_n C.1 C.2.1 dX0_markCompacted_63 rfl (lv_at hl 2 rfl) ?_
              refine gGet (v := .ref (a 6)) (ref := RX0) (Cn := RX0) (T := TX0) (N := 8) C iX0 hO 1 rfl rfl 4 (by decide) w24 (fun _ h9 => h9) rfl dX0_markCompacted_64 ?_
              refine lv_iload_n C.1 C.2.1 dX0_markCompacted_67 rfl (lv_at hl 4 rfl) ?_
              refine lv_iload_n C.1 C.2.1 dX0_markCompacted_68 rfl (lv_at hl 1 rfl) ?_
              refine lv_if_ne (tgt := 77) C.1 C.2.1 dX0_markCompacted_69 (by decide) (fun c_9 => ?_) (fun c_9 => ?_)
              · exact absurd rfl c_9
              · refine lv_iload C.1 C.2.1 dX0_markCompacted_72 (lv_at hl 0 rfl) ?_
                refine lv_if_eq (tgt := 81) C.1 C.2.1 dX0_markCompacted_74 (by decide) (fun c_10 => ?_) (fun c_10 => ?_)
                · exact absurd c_10 (by decide)
                · refine lv_iconst (v := 1) C.1 C.2.1 dX0_markCompacted_77 (by decide) ?_
                  refine lv_goto (tgt := 82) C.1 C.2.1 dX0_markCompacted_78 (by decide) ?_
                  refine gZast (j := k) (ws' := (xW E a S (mkU (gComp (s_off S) (s_key S) (s_val S) (s_n S) q) mk (k + 1)) rk rv ++ F)) C hO 6 rfl (by omega) (by decide) rfl (by rw [mkU_sv (g := gComp (s_off S) (s_key S) (s_val S) (s_n S) q) (mk := mk) (n := k) (x := 1) (by first | exact gComp_1 (Or.inl h1) | exact gComp_1 (Or.inr ⟨hv, ho⟩))]; rfl) dX0_markCompacted_82 (fun H locs hO => ?_)
                  refine gInc (j := k) (k := 4) (lv' := [(2, .int (nI (k + 1))), (4, .int 1), (3, .int 0), (0, .ref (a 1)), (1, .int q)]) C.1 C.2.1 dX0_markCompacted_83 hl rfl (by decide) rfl (fun ls hl => ?_)
                  refine lv_goto (tgt := 2) C.1 C.2.1 dX0_markCompacted_86 (by decide) ?_
                  refine W.widen (k := 0) (n := 0) (by omega) (by omega) ?_
                  exact ih24 (k + 1) (by omega) (by omega) _ _ hO _ (lv_sub hl [3, 4, 0] rfl)
        · have h1 : lpO (s_key S) (s_key S k) (k + 1) (s_n S) ≠ none := fun g => c_2 (by rw [g]; rfl)
          refine lv_iconst (v := 1) C.1 C.2.1 dX0_markCompacted_31 (by decide) ?_
          refine lv_goto (tgt := 36) C.1 C.2.1 dX0_markCompacted_32 (by decide) ?_
          refine lv_istore_n (lv' := [(3, .int 1), (0, .ref (a 1)), (1, .int q), (2, .int (nI k))]) C.1 C.2.1 dX0_markCompacted_36 rfl hl (by decide) rfl (fun ls hl => ?_)
          refine lv_aload_n C.1 C.2.1 dX0_markCompacted_37 rfl (lv_at hl 1 rfl) ?_
          refine gGet (v := .ref (a 4)) (ref := RX0) (Cn := RX0) (T := TX0) (N := 8) C iX0 hO 1 rfl rfl 2 (by decide) w18 (fun _ h9 => h9) rfl dX0_markCompacted_38 ?_
          refine lv_iload_n C.1 C.2.1 dX0_markCompacted_41 rfl (lv_at hl 3 rfl) ?_
          refine gIald (v := (s_val S) k) (j := k) C hO 4 rfl (by omega) (by decide) rfl dX0_markCompacted_42 ?_
          refine lv_if_ne (tgt := 60) C.1 C.2.1 dX0_markCompacted_43 (by decide) (fun c_11 => ?_) (fun c_11 => ?_)
          · have hv : ¬ s_val S k = 0 := c_11
            refine lv_iconst (v := 0) C.1 C.2.1 dX0_markCompacted_60 (by decide) ?_
            refine lv_istore (lv' := [(4, .int 0), (3, .int 1), (0, .ref (a 1)), (1, .int q), (2, .int (nI k))]) C.1 C.2.1 dX0_markCompacted_61 hl (by decide) rfl (fun ls hl => ?_)
            refine lv_aload_n C.1 C.2.1 dX0_markCompacted_63 rfl (lv_at hl 2 rfl) ?_
            refine gGet (v := .ref (a 6)) (ref := RX0) (Cn := RX0) (T := TX0) (N := 8) C iX0 hO 1 rfl rfl 4 (by decide) w24 (fun _ h9 => h9) rfl dX0_markCompacted_64 ?_
            refine lv_iload_n C.1 C.2.1 dX0_markCompacted_67 rfl (lv_at hl 4 rfl) ?_
            refine lv_iload_n C.1 C.2.1 dX0_markCompacted_68 rfl (lv_at hl 1 rfl) ?_
            refine lv_if_ne (tgt := 77) C.1 C.2.1 dX0_markCompacted_69 (by decide) (fun c_12 => ?_) (fun c_12 => ?_)
            · refine lv_iconst (v := 1) C.1 C.2.1 dX0_markCompacted_77 (by decide) ?_
              refine lv_goto (tgt := 82) C.1 C.2.1 dX0_markCompacted_78 (by decide) ?_
              refine gZast (j := k) (ws' := (xW E a S (mkU (gComp (s_off S) (s_key S) (s_val S) (s_n S) q) mk (k + 1)) rk rv ++ F)) C hO 6 rfl (by omega) (by decide) rfl (by rw [mkU_sv (g := gComp (s_off S) (s_key S) (s_val S) (s_n S) q) (mk := mk) (n := k) (x := 1) (by first | exact gComp_1 (Or.inl h1) | exact gComp_1 (Or.inr ⟨hv, ho⟩))]; rfl) dX0_markCompacted_82 (fun H locs hO => ?_)
              refine gInc (j := k) (k := 4) (lv' := [(2, .int (nI (k + 1))), (4, .int 0), (3, .int 1), (0, .ref (a 1)), (1, .int q)]) C.1 C.2.1 dX0_markCompacted_83 hl rfl (by decide) rfl (fun ls hl => ?_)
              refine lv_goto (tgt := 2) C.1 C.2.1 dX0_markCompacted_86 (by decide) ?_
              refine W.widen (k := 0) (n := 0) (by omega) (by omega) ?_
              exact ih24 (k + 1) (by omega) (by omega) _ _ hO _ (lv_sub hl [3, 4, 0] rfl)
            · exact absurd c_12 (by decide)
          · have hv : s_val S k = 0 := c_11
            refine lv_aload_n C.1 C.2.1 dX0_markCompacted_46 rfl (lv_at hl 1 rfl) ?_
            refine gGet (v := .ref (a 2)) (ref := RX0) (Cn := RX0) (T := TX0) (N := 8) C iX0 hO 1 rfl rfl 0 (by decide) w9 (fun _ h9 => h9) rfl dX0_markCompacted_47 ?_
            refine lv_iload_n C.1 C.2.1 dX0_markCompacted_50 rfl (lv_at hl 3 rfl) ?_
            refine gIald (v := (s_off S) k) (j := k) C hO 2 rfl (by omega) (by decide) rfl dX0_markCompacted_51 ?_
            refine lv_iload_n C.1 C.2.1 dX0_markCompacted_52 rfl (lv_at hl 2 rfl) ?_
            refine gGeI (tgt := 60) C.1 C.2.1 dX0_markCompacted_53 (by decide) (fun c_13 => ?_) (fun c_13 => ?_)
            · have ho : ¬ s_off S k < q := c_13
              refine lv_iconst (v := 0) C.1 C.2.1 dX0_markCompacted_60 (by decide) ?_
              refine lv_istore (lv' := [(4, .int 0), (3, .int 1), (0, .ref (a 1)), (1, .int q), (2, .int (nI k))]) C.1 C.2.1 dX0_markCompacted_61 hl (by decide) rfl (fun ls hl => ?_)
              refine lv_aload_n C.1 C.2.1 dX0_markCompacted_63 rfl (lv_at hl 2 rfl) ?_
              refine gGet (v := .ref (a 6)) (ref := RX0) (Cn := RX0) (T := TX0) (N := 8) C iX0 hO 1 rfl rfl 4 (by decide) w24 (fun _ h9 => h9) rfl dX0_markCompacted_64 ?_
              refine lv_iload_n C.1 C.2.1 dX0_markCompacted_67 rfl (lv_at hl 4 rfl) ?_
              refine lv_iload_n C.1 C.2.1 dX0_markCompacted_68 rfl (lv_at hl 1 rfl) ?_
              refine lv_if_ne (tgt := 77) C.1 C.2.1 dX0_markCompacted_69 (by decide) (fun c_14 => ?_) (fun c_14 => ?_)
              · refine lv_iconst (v := 1) C.1 C.2.1 dX0_markCompacted_77 (by decide) ?_
                refine lv_goto (tgt := 82) C.1 C.2.1 dX0_markCompacted_78 (by decide) ?_
                refine gZast (j := k) (ws' := (xW E a S (mkU (gComp (s_off S) (s_key S) (s_val S) (s_n S) q) mk (k + 1)) rk rv ++ F)) C hO 6 rfl (by omega) (by decide) rfl (by rw [mkU_sv (g := gComp (s_off S) (s_key S) (s_val S) (s_n S) q) (mk := mk) (n := k) (x := 1) (by first | exact gComp_1 (Or.inl h1) | exact gComp_1 (Or.inr ⟨hv, ho⟩))]; rfl) dX0_markCompacted_82 (fun H locs hO => ?_)
                refine gInc (j := k) (k := 4) (lv' := [(2, .int (nI (k + 1))), (4, .int 0), (3, .int 1), (0, .ref (a 1)), (1, .int q)]) C.1 C.2.1 dX0_markCompacted_83 hl rfl (by decide) rfl (fun ls hl => ?_)
                refine lv_goto (tgt := 2) C.1 C.2.1 dX0_markCompacted_86 (by decide) ?_
                refine W.widen (k := 0) (n := 0) (by omega) (by omega) ?_
                exact ih24 (k + 1) (by omega) (by omega) _ _ hO _ (lv_sub hl [3, 4, 0] rfl)
              · exact absurd c_14 (by decide)
            · have ho : s_off S k < q := c_13
              refine lv_iconst (v := 1) C.1 C.2.1 dX0_markCompacted_56 (by decide) ?_
              refine lv_goto (tgt := 61) C.1 C.2.1 dX0_markCompacted_57 (by decide) ?_
              refine lv_istore (lv' := [(4, .int 1), (3, .int 1), (0, .ref (a 1)), (1, .int q), (2, .int (nI k))]) C.1 C.2.1 dX0_markCompacted_61 hl (by decide) rfl (fun ls hl => ?_)
              refine lv_aload_n C.1 C.2.1 dX0_markCompacted_63 rfl (lv_at hl 2 rfl) ?_
              refine gGet (v := .ref (a 6)) (ref := RX0) (Cn := RX0) (T := TX0) (N := 8) C iX0 hO 1 rfl rfl 4 (by decide) w24 (fun _ h9 => h9) rfl dX0_markCompacted_64 ?_
              refine lv_iload_n C.1 C.2.1 dX0_markCompacted_67 rfl (lv_at hl 4 rfl) ?_
              refine lv_iload_n C.1 C.2.1 dX0_markCompacted_68 rfl (lv_at hl 1 rfl) ?_
              refine lv_if_ne (tgt := 77) C.1 C.2.1 dX0_markCompacted_69 (by decide) (fun c_15 => ?_) (fun c_15 => ?_)
              · refine lv_iconst (v := 1) C.1 C.2.1 dX0_markCompacted_77 (by decide) ?_
                refine lv_goto (tgt := 82) C.1 C.2.1 dX0_markCompacted_78 (by decide) ?_
                refine gZast (j := k) (ws' := (xW E a S (mkU (gComp (s_off S) (s_key S) (s_val S) (s_n S) q) mk (k + 1)) rk rv ++ F)) C hO 6 rfl (by omega) (by decide) rfl (by rw [mkU_sv (g := gComp (s_off S) (s_key S) (s_val S) (s_n S) q) (mk := mk) (n := k) (x := 1) (by first | exact gComp_1 (Or.inl h1) | exact gComp_1 (Or.inr ⟨hv, ho⟩))]; rfl) dX0_markCompacted_82 (fun H locs hO => ?_)
                refine gInc (j := k) (k := 4) (lv' := [(2, .int (nI (k + 1))), (4, .int 1), (3, .int 1), (0, .ref (a 1)), (1, .int q)]) C.1 C.2.1 dX0_markCompacted_83 hl rfl (by decide) rfl (fun ls hl => ?_)
                refine lv_goto (tgt := 2) C.1 C.2.1 dX0_markCompacted_86 (by decide) ?_
                refine W.widen (k := 0) (n := 0) (by omega) (by omega) ?_
                exact ih24 (k + 1) (by omega) (by omega) _ _ hO _ (lv_sub hl [3, 4, 0] rfl)
              · exact absurd c_15 (by decide)
  exact lp24 (s_n S + 1) 0 (by omega) (Nat.zero_le _) _ _ hO _ (lv_sub hl [1, 2, 0] rfl)

set_option maxHeartbeats 4000000 in
set_option maxRecDepth 100000 in
theorem c_X0_countMarkedFrom (l : Launch) (E : gE) (a : Nat → Nat) (S : St) (mk rk rv : Nat → Int32) (F : va_W) (o : Int32) (hn : s_n S ≤ 48) : gMi l E yX0_countMarkedFrom wsX0_countMarkedFrom ({ frames := 1, cells := 0, slots := 0, locals := 22 }) (xW E a S mk rk rv ++ F) [.ref (a 1), .int o] (nI (cm mk (pf (s_off S) o (s_n S)) (s_n S))) (xW E a S mk rk rv ++ F) 0 0 := by
  refine gMi.of (cc := cX0_countMarkedFrom) (maxL := 4) (ty := .int) (by decide) rfl (Nat.le_of_ble_eq_true rfl) ?_
  intro p e s m args below meth c A C ls hl hO
  have hl : lv_has ls 4 [(0, .ref (a 1)), (1, .int o)] := hl
  have iX0 : ∀ w ∈ u_ws RX0 TX0 8, w ∈ wsX0_countMarkedFrom := by decide +kernel
  have w28 : Cond.fieldLink RX0 28 "ParrotLog$Log" "size" "I" ∈ wsX0_countMarkedFrom := by decide +kernel
  have w24 : Cond.fieldLink RX0 24 "ParrotLog$Log" "marked" "[Z" ∈ wsX0_countMarkedFrom := by decide +kernel
  refine lv_iconst (v := 0) C.1 C.2.1 dX0_countMarkedFrom_0 (by decide) ?_
  refine lv_istore_n (lv' := [(2, .int 0), (0, .ref (a 1)), (1, .int o)]) C.1 C.2.1 dX0_countMarkedFrom_1 rfl hl (by decide) rfl (fun ls hl => ?_)
  refine lv_aload_n C.1 C.2.1 dX0_countMarkedFrom_2 rfl (lv_at hl 1 rfl) ?_
  refine lv_iload_n C.1 C.2.1 dX0_countMarkedFrom_3 rfl (lv_at hl 2 rfl) ?_
  refine gCall_i (As := [.int o]) (rest := []) C hO (c_X0_positionFrom l E a S mk rk rv F o (by omega)) (cwV 1 C.2.2.2.2.1 gX0_countMarkedFrom_X0_positionFrom rfl rfl rfl (by decide +kernel) ⟨(Nat.le_of_ble_eq_true rfl), (Nat.le_of_ble_eq_true rfl)⟩) (va_recv C.2.2.2.2.2.2.2.1.1 hO.1 (ci := 0) (q0 := 1) rfl rfl) rfl hl.1 rfl (Nat.le_of_ble_eq_true rfl) dX0_countMarkedFrom_4 ⟨(Nat.le_of_ble_eq_true rfl), (Nat.le_of_ble_eq_true rfl)⟩ (fun H locs hO => ?_)
  refine lv_istore_n (lv' := [(3, .int (nI (pf (s_off S) o (s_n S)))), (2, .int 0), (0, .ref (a 1)), (1, .int o)]) C.1 C.2.1 dX0_countMarkedFrom_7 rfl hl (by decide) rfl (fun ls hl => ?_)
  have lp24 : ∀ (f : Nat) (k : Nat) (c2 : Nat), (s_n S + 1 ≤ k + f) → (k ≤ s_n S) → (pf (s_off S) o (s_n S) ≤ k) → (c2 = cm mk (pf (s_off S) o (s_n S)) k) → ∀ (H : Heap) (locs : List Loc), gO E A s (xW E a S mk rk rv ++ F) H locs → ∀ ls : Array Slot, lv_has ls 4 [(0, .ref (a 1)), (1, .int o), (2, .int (nI c2)), (3, .int (nI k))] → W p l e ({ frames := 1, cells := 0, slots := 0, locals := 22 } : Room) s m args below meth c H locs 0 0 (MQ below (gQi E A (nI (cm mk (pf (s_off S) o (s_n S)) (s_n S))) (xW E a S mk rk rv ++ F)) args s 0 0 A) (F0 m 8 ls []) := by
    intro f
    induction f with
    | zero =>
      intro k c2 hf hk hfr hc24
      exact absurd hf (by omega)
    | succ f ih24 =>
      intro k c2 hf hk hfr hc24 H locs hO ls hl
      refine lv_iload_n C.1 C.2.1 dX0_countMarkedFrom_8 rfl (lv_at hl 3 rfl) ?_
      refine lv_aload_n C.1 C.2.1 dX0_countMarkedFrom_9 rfl (lv_at hl 0 rfl) ?_
      refine gGet (v := .int (nI (s_n S))) (ref := RX0) (Cn := RX0) (T := TX0) (N := 8) C iX0 hO 1 rfl rfl 5 (by decide) w28 (fun _ h9 => h9) rfl dX0_countMarkedFrom_10 ?_
      refine gGeN (x := k) (y := (s_n S)) (tgt := 34) C.1 C.2.1 (by omega) (by omega) dX0_countMarkedFrom_13 (by decide) (fun c_1 => ?_) (fun c_1 => ?_)
      · refine lv_iload_n C.1 C.2.1 dX0_countMarkedFrom_34 rfl (lv_at hl 2 rfl) ?_
        exact gRi C hO rfl (by rw [hc24, show k = s_n S by omega]) dX0_countMarkedFrom_35 (Nat.le_of_ble_eq_true rfl) (Nat.le_of_ble_eq_true rfl)
      · refine lv_aload_n C.1 C.2.1 dX0_countMarkedFrom_16 rfl (lv_at hl 0 rfl) ?_
        refine gGet (v := .ref (a 6)) (ref := RX0) (Cn := RX0) (T := TX0) (N := 8) C iX0 hO 1 rfl rfl 4 (by decide) w24 (fun _ h9 => h9) rfl dX0_countMarkedFrom_17 ?_
        refine lv_iload_n C.1 C.2.1 dX0_countMarkedFrom_20 rfl (lv_at hl 3 rfl) ?_
        refine gZald (v := mk k) (j := k) C hO 6 rfl (by omega) (by decide) rfl dX0_countMarkedFrom_21 ?_
        refine lv_if_eq (tgt := 28) C.1 C.2.1 dX0_countMarkedFrom_22 (by decide) (fun c_2 => ?_) (fun c_2 => ?_)
        · have hz : mk k = 0 := c_2
          refine gInc (j := k) (k := 3) (lv' := [(3, .int (nI (k + 1))), (0, .ref (a 1)), (1, .int o), (2, .int (nI c2))]) C.1 C.2.1 dX0_countMarkedFrom_28 hl rfl (by decide) rfl (fun ls hl => ?_)
          refine lv_goto (tgt := 8) C.1 C.2.1 dX0_countMarkedFrom_31 (by decide) ?_
          exact ih24 (k + 1) c2 (by omega) (by omega) (by omega) (by first | exact by rw [hc24, cm_s0 hz] | exact by rw [hc24, cm_s1 hfr hz]) _ _ hO _ (lv_sub hl [1, 2, 3, 0] rfl)
        · have hz : ¬ mk k = 0 := c_2
          refine gInc (j := c2) (k := 2) (lv' := [(2, .int (nI (c2 + 1))), (0, .ref (a 1)), (1, .int o), (3, .int (nI k))]) C.1 C.2.1 dX0_countMarkedFrom_25 hl rfl (by decide) rfl (fun ls hl => ?_)
          refine gInc (j := k) (k := 3) (lv' := [(3, .int (nI (k + 1))), (2, .int (nI (c2 + 1))), (0, .ref (a 1)), (1, .int o)]) C.1 C.2.1 dX0_countMarkedFrom_28 hl rfl (by decide) rfl (fun ls hl => ?_)
          refine lv_goto (tgt := 8) C.1 C.2.1 dX0_countMarkedFrom_31 (by decide) ?_
          exact ih24 (k + 1) (c2 + 1) (by omega) (by omega) (by omega) (by first | exact by rw [hc24, cm_s0 hz] | exact by rw [hc24, cm_s1 hfr hz]) _ _ hO _ (lv_sub hl [2, 3, 1, 0] rfl)
  refine W.widen (k := 0) (n := 0) (by omega) (by omega) ?_
  exact lp24 (s_n S + 1) (pf (s_off S) o (s_n S)) 0 (by omega) (pf_le _ _ _) (Nat.le_refl _) ((cm_fr _ _ _ (Nat.le_refl _)).symm) _ _ hO _ (lv_sub hl [2, 3, 1, 0] rfl)

set_option maxHeartbeats 4000000 in
set_option maxRecDepth 100000 in
theorem c_X0_countMarked (l : Launch) (E : gE) (a : Nat → Nat) (S : St) (mk rk rv : Nat → Int32) (F : va_W)  (hn : s_n S ≤ 48) : gMi l E yX0_countMarked wsX0_countMarked ({ frames := 2, cells := 0, slots := 0, locals := 45 }) (xW E a S mk rk rv ++ F) [.ref (a 1)] (nI (cm mk (pf (s_off S) 0 (s_n S)) (s_n S))) (xW E a S mk rk rv ++ F) 0 0 := by
  refine gMi.of (cc := cX0_countMarked) (maxL := 1) (ty := .int) (by decide) rfl (Nat.le_of_ble_eq_true rfl) ?_
  intro p e s m args below meth c A C ls hl hO
  have hl : lv_has ls 1 [(0, .ref (a 1))] := hl
  refine lv_aload_n C.1 C.2.1 dX0_countMarked_0 rfl (lv_at hl 0 rfl) ?_
  refine lv_iconst (v := 0) C.1 C.2.1 dX0_countMarked_1 (by decide) ?_
  refine gCall_i (As := [.int 0]) (rest := []) C hO (c_X0_countMarkedFrom l E a S mk rk rv F 0 (by omega)) (cwV 1 C.2.2.2.2.1 gX0_countMarked_X0_countMarkedFrom rfl rfl rfl (by decide +kernel) ⟨(Nat.le_of_ble_eq_true rfl), (Nat.le_of_ble_eq_true rfl)⟩) (va_recv C.2.2.2.2.2.2.2.1.1 hO.1 (ci := 0) (q0 := 1) rfl rfl) rfl hl.1 rfl (Nat.le_of_ble_eq_true rfl) dX0_countMarked_2 ⟨(Nat.le_of_ble_eq_true rfl), (Nat.le_of_ble_eq_true rfl)⟩ (fun H locs hO => ?_)
  exact gRi C hO rfl rfl dX0_countMarked_5 (Nat.le_of_ble_eq_true rfl) (Nat.le_of_ble_eq_true rfl)

set_option maxHeartbeats 4000000 in
set_option maxRecDepth 100000 in
theorem c_X0_removeMarked (l : Launch) (E : gE) (a : Nat → Nat) (S : St) (mk rk rv : Nat → Int32) (F : va_W)  (hn : s_n S ≤ 48) : gMi l E yX0_removeMarked wsX0_removeMarked ({ frames := 0, cells := 0, slots := 0, locals := 0 }) (xW E a S mk rk rv ++ F) [.ref (a 1)] (nI (s_n S - cpN mk (s_n S))) (xW E a (S_rem S mk) mk rk rv ++ F) 0 0 := by
  refine gMi.of (cc := cX0_removeMarked) (maxL := 3) (ty := .int) (by decide) rfl (Nat.le_of_ble_eq_true rfl) ?_
  intro p e s m args below meth c A C ls hl hO
  have hl : lv_has ls 3 [(0, .ref (a 1))] := hl
  have iX0 : ∀ w ∈ u_ws RX0 TX0 8, w ∈ wsX0_removeMarked := by decide +kernel
  have w28 : Cond.fieldLink RX0 28 "ParrotLog$Log" "size" "I" ∈ wsX0_removeMarked := by decide +kernel
  have w46 : Cond.fieldLink RX0 46 "ParrotLog$Log" "droppedInAll" "I" ∈ wsX0_removeMarked := by decide +kernel
  have w24 : Cond.fieldLink RX0 24 "ParrotLog$Log" "marked" "[Z" ∈ wsX0_removeMarked := by decide +kernel
  have w9 : Cond.fieldLink RX0 9 "ParrotLog$Log" "offsets" "[I" ∈ wsX0_removeMarked := by decide +kernel
  have w15 : Cond.fieldLink RX0 15 "ParrotLog$Log" "keys" "[I" ∈ wsX0_removeMarked := by decide +kernel
  have w18 : Cond.fieldLink RX0 18 "ParrotLog$Log" "values" "[I" ∈ wsX0_removeMarked := by decide +kernel
  have w21 : Cond.fieldLink RX0 21 "ParrotLog$Log" "stormNumbers" "[I" ∈ wsX0_removeMarked := by decide +kernel
  refine lv_iconst (v := 0) C.1 C.2.1 dX0_removeMarked_0 (by decide) ?_
  refine lv_istore_n (lv' := [(1, .int 0), (0, .ref (a 1))]) C.1 C.2.1 dX0_removeMarked_1 rfl hl (by decide) rfl (fun ls hl => ?_)
  refine lv_iconst (v := 0) C.1 C.2.1 dX0_removeMarked_2 (by decide) ?_
  refine lv_istore_n (lv' := [(2, .int 0), (1, .int 0), (0, .ref (a 1))]) C.1 C.2.1 dX0_removeMarked_3 rfl hl (by decide) rfl (fun ls hl => ?_)
  have lp24 : ∀ (f : Nat) (k : Nat), (s_n S + 1 ≤ k + f) → (k ≤ s_n S) → ∀ (H : Heap) (locs : List Loc), gO E A s (xW E a (mkS (cpF mk (s_off S) (k)) (cpF mk (s_key S) (k)) (cpF mk (s_val S) (k)) (cpF mk (s_sto S) (k)) (s_n S) (s_nx S) (s_dr S) (s_hr S) (s_sc S) (s_on S) (s_said S) (s_sh S) (s_pc S) (s_at S) (s_hd S) (s_ms S) (s_kn S)) mk rk rv ++ F) H locs → ∀ ls : Array Slot, lv_has ls 3 [(0, .ref (a 1)), (1, .int (nI (cpN mk k))), (2, .int (nI k))] → W p l e ({ frames := 0, cells := 0, slots := 0, locals := 0 } : Room) s m args below meth c H locs 0 0 (MQ below (gQi E A (nI (s_n S - cpN mk (s_n S))) (xW E a (S_rem S mk) mk rk rv ++ F)) args s 0 0 A) (F0 m 4 ls []) := by
    intro f
    induction f with
    | zero =>
      intro k hf hk
      exact absurd hf (by omega)
    | succ f ih24 =>
      intro k hf hk H locs hO ls hl
      refine lv_iload_n C.1 C.2.1 dX0_removeMarked_4 rfl (lv_at hl 2 rfl) ?_
      refine lv_aload_n C.1 C.2.1 dX0_removeMarked_5 rfl (lv_at hl 0 rfl) ?_
      refine gGet (v := .int (nI (s_n S))) (ref := RX0) (Cn := RX0) (T := TX0) (N := 8) C iX0 hO 1 rfl rfl 5 (by decide) w28 (fun _ h9 => h9) rfl dX0_removeMarked_6 ?_
      refine gGeN (x := k) (y := (s_n S)) (tgt := 78) C.1 C.2.1 (by omega) (by omega) dX0_removeMarked_9 (by decide) (fun c_1 => ?_) (fun c_1 => ?_)
      · have hk9 : k = s_n S := by omega
        rw [hk9] at hO hl
        have hl := lv_sub hl [0, 1] rfl
        have hl : lv_has ls 3 [(0, .ref (a 1)), (1, .int (nI (cpN mk (s_n S))))] := hl
        have hle := cpN_le mk (s_n S)
        refine lv_aload_n C.1 C.2.1 dX0_removeMarked_78 rfl (lv_at hl 0 rfl) ?_
        refine gGet (v := .int (nI (s_n S))) (ref := RX0) (Cn := RX0) (T := TX0) (N := 8) C iX0 hO 1 rfl rfl 5 (by decide) w28 (fun _ h9 => h9) rfl dX0_removeMarked_79 ?_
        refine lv_iload_n C.1 C.2.1 dX0_removeMarked_82 rfl (lv_at hl 1 rfl) ?_
        refine gSubN (x := (s_n S)) (y := (cpN mk (s_n S))) C.1 C.2.1 hle dX0_removeMarked_83 ?_
        refine lv_istore_n (lv' := [(2, .int (nI ((s_n S) - (cpN mk (s_n S))))), (0, .ref (a 1)), (1, .int (nI (cpN mk (s_n S))))]) C.1 C.2.1 dX0_removeMarked_84 rfl hl (by decide) rfl (fun ls hl => ?_)
        refine lv_aload_n C.1 C.2.1 dX0_removeMarked_85 rfl (lv_at hl 1 rfl) ?_
        refine lv_iload_n C.1 C.2.1 dX0_removeMarked_86 rfl (lv_at hl 2 rfl) ?_
        refine gPut (ws' := (xW E a (mkS (cpF mk (s_off S) (s_n S)) (cpF mk (s_key S) (s_n S)) (cpF mk (s_val S) (s_n S)) (cpF mk (s_sto S) (s_n S)) (cpN mk (s_n S)) (s_nx S) (s_dr S) (s_hr S) (s_sc S) (s_on S) (s_said S) (s_sh S) (s_pc S) (s_at S) (s_hd S) (s_ms S) (s_kn S)) mk rk rv ++ F)) (ref := RX0) (Cn := RX0) (T := TX0) (N := 8) C iX0 tyX0 tyX0_ok nmX0 hO 1 rfl rfl 5 (by decide) w28 (fun _ h9 => h9) rfl (by decide +kernel) rfl rfl (Nat.le_of_ble_eq_true rfl) rfl dX0_removeMarked_87 (fun H locs hO => ?_)
        refine lv_aload_n C.1 C.2.1 dX0_removeMarked_90 rfl (lv_at hl 1 rfl) ?_
        refine lv_dup C.1 C.2.1 dX0_removeMarked_91 rfl ?_
        refine gGet (v := .int (s_dr S)) (ref := RX0) (Cn := RX0) (T := TX0) (N := 8) C iX0 hO 1 rfl rfl 7 (by decide) w46 (fun _ h9 => h9) rfl dX0_removeMarked_92 ?_
        refine lv_iload_n C.1 C.2.1 dX0_removeMarked_95 rfl (lv_at hl 0 rfl) ?_
        refine lv_iadd C.1 C.2.1 dX0_removeMarked_96 ?_
        refine gPut (ws' := (xW E a (mkS (cpF mk (s_off S) (s_n S)) (cpF mk (s_key S) (s_n S)) (cpF mk (s_val S) (s_n S)) (cpF mk (s_sto S) (s_n S)) (cpN mk (s_n S)) (s_nx S) ((s_dr S) + (nI ((s_n S) - (cpN mk (s_n S))))) (s_hr S) (s_sc S) (s_on S) (s_said S) (s_sh S) (s_pc S) (s_at S) (s_hd S) (s_ms S) (s_kn S)) mk rk rv ++ F)) (ref := RX0) (Cn := RX0) (T := TX0) (N := 8) C iX0 tyX0 tyX0_ok nmX0 hO 1 rfl rfl 7 (by decide) w46 (fun _ h9 => h9) rfl (by decide +kernel) rfl rfl (Nat.le_of_ble_eq_true rfl) rfl dX0_removeMarked_97 (fun H locs hO => ?_)
        refine lv_iload_n C.1 C.2.1 dX0_removeMarked_100 rfl (lv_at hl 0 rfl) ?_
        exact gRi C hO rfl rfl dX0_removeMarked_101 (Nat.le_of_ble_eq_true rfl) (Nat.le_of_ble_eq_true rfl)
      · have hle := cpN_le mk k
        refine lv_aload_n C.1 C.2.1 dX0_removeMarked_12 rfl (lv_at hl 0 rfl) ?_
        refine gGet (v := .ref (a 6)) (ref := RX0) (Cn := RX0) (T := TX0) (N := 8) C iX0 hO 1 rfl rfl 4 (by decide) w24 (fun _ h9 => h9) rfl dX0_removeMarked_13 ?_
        refine lv_iload_n C.1 C.2.1 dX0_removeMarked_16 rfl (lv_at hl 2 rfl) ?_
        refine gZald (v := mk k) (j := k) C hO 6 rfl (by omega) (by decide) rfl dX0_removeMarked_17 ?_
        refine lv_if_ne (tgt := 72) C.1 C.2.1 dX0_removeMarked_18 (by decide) (fun c_2 => ?_) (fun c_2 => ?_)
        · have hz : ¬ mk k = 0 := c_2
          have hO : gO E A s (xW E a (mkS (cpF mk (s_off S) (k + 1)) (cpF mk (s_key S) (k + 1)) (cpF mk (s_val S) (k + 1)) (cpF mk (s_sto S) (k + 1)) (s_n S) (s_nx S) (s_dr S) (s_hr S) (s_sc S) (s_on S) (s_said S) (s_sh S) (s_pc S) (s_at S) (s_hd S) (s_ms S) (s_kn S)) mk rk rv ++ F) H locs := by rw [cf_s0 hz, cf_s0 hz, cf_s0 hz, cf_s0 hz]; exact hO
          have hl : lv_has ls 3 [(0, .ref (a 1)), (1, .int (nI (cpN mk (k + 1)))), (2, .int (nI k))] := by rw [cp_s0 hz]; exact hl
          refine gInc (j := k) (k := 2) (lv' := [(2, .int (nI (k + 1))), (0, .ref (a 1)), (1, .int (nI (cpN mk (k + 1))))]) C.1 C.2.1 dX0_removeMarked_72 hl rfl (by decide) rfl (fun ls hl => ?_)
          refine lv_goto (tgt := 4) C.1 C.2.1 dX0_removeMarked_75 (by decide) ?_
          exact ih24 (k + 1) (by omega) (by omega) _ _ hO _ (lv_sub hl [1, 2, 0] rfl)
        · have hz : mk k = 0 := c_2
          refine lv_aload_n C.1 C.2.1 dX0_removeMarked_21 rfl (lv_at hl 0 rfl) ?_
          refine gGet (v := .ref (a 2)) (ref := RX0) (Cn := RX0) (T := TX0) (N := 8) C iX0 hO 1 rfl rfl 0 (by decide) w9 (fun _ h9 => h9) rfl dX0_removeMarked_22 ?_
          refine lv_iload_n C.1 C.2.1 dX0_removeMarked_25 rfl (lv_at hl 1 rfl) ?_
          refine lv_aload_n C.1 C.2.1 dX0_removeMarked_26 rfl (lv_at hl 0 rfl) ?_
          refine gGet (v := .ref (a 2)) (ref := RX0) (Cn := RX0) (T := TX0) (N := 8) C iX0 hO 1 rfl rfl 0 (by decide) w9 (fun _ h9 => h9) rfl dX0_removeMarked_27 ?_
          refine lv_iload_n C.1 C.2.1 dX0_removeMarked_30 rfl (lv_at hl 2 rfl) ?_
          refine gIald (v := (cpF mk (s_off S) (k)) k) (j := k) C hO 2 rfl (by omega) (by decide) rfl dX0_removeMarked_31 ?_
          refine gIast (j := (cpN mk k)) (ws' := (xW E a (mkS (upd (cpF mk (s_off S) (k)) (cpN mk k) ((cpF mk (s_off S) (k)) k)) (cpF mk (s_key S) (k)) (cpF mk (s_val S) (k)) (cpF mk (s_sto S) (k)) (s_n S) (s_nx S) (s_dr S) (s_hr S) (s_sc S) (s_on S) (s_said S) (s_sh S) (s_pc S) (s_at S) (s_hd S) (s_ms S) (s_kn S)) mk rk rv ++ F)) C hO 2 rfl (by omega) (by decide) rfl dX0_removeMarked_32 (fun H locs hO => ?_)
          refine lv_aload_n C.1 C.2.1 dX0_removeMarked_33 rfl (lv_at hl 0 rfl) ?_
          refine gGet (v := .ref (a 3)) (ref := RX0) (Cn := RX0) (T := TX0) (N := 8) C iX0 hO 1 rfl rfl 1 (by decide) w15 (fun _ h9 => h9) rfl dX0_removeMarked_34 ?_
          refine lv_iload_n C.1 C.2.1 dX0_removeMarked_37 rfl (lv_at hl 1 rfl) ?_
          refine lv_aload_n C.1 C.2.1 dX0_removeMarked_38 rfl (lv_at hl 0 rfl) ?_
          refine gGet (v := .ref (a 3)) (ref := RX0) (Cn := RX0) (T := TX0) (N := 8) C iX0 hO 1 rfl rfl 1 (by decide) w15 (fun _ h9 => h9) rfl dX0_removeMarked_39 ?_
          refine lv_iload_n C.1 C.2.1 dX0_removeMarked_42 rfl (lv_at hl 2 rfl) ?_
          refine gIald (v := (cpF mk (s_key S) (k)) k) (j := k) C hO 3 rfl (by omega) (by decide) rfl dX0_removeMarked_43 ?_
          refine gIast (j := (cpN mk k)) (ws' := (xW E a (mkS (upd (cpF mk (s_off S) (k)) (cpN mk k) ((cpF mk (s_off S) (k)) k)) (upd (cpF mk (s_key S) (k)) (cpN mk k) ((cpF mk (s_key S) (k)) k)) (cpF mk (s_val S) (k)) (cpF mk (s_sto S) (k)) (s_n S) (s_nx S) (s_dr S) (s_hr S) (s_sc S) (s_on S) (s_said S) (s_sh S) (s_pc S) (s_at S) (s_hd S) (s_ms S) (s_kn S)) mk rk rv ++ F)) C hO 3 rfl (by omega) (by decide) rfl dX0_removeMarked_44 (fun H locs hO => ?_)
          refine lv_aload_n C.1 C.2.1 dX0_removeMarked_45 rfl (lv_at hl 0 rfl) ?_
          refine gGet (v := .ref (a 4)) (ref := RX0) (Cn := RX0) (T := TX0) (N := 8) C iX0 hO 1 rfl rfl 2 (by decide) w18 (fun _ h9 => h9) rfl dX0_removeMarked_46 ?_
          refine lv_iload_n C.1 C.2.1 dX0_removeMarked_49 rfl (lv_at hl 1 rfl) ?_
          refine lv_aload_n C.1 C.2.1 dX0_removeMarked_50 rfl (lv_at hl 0 rfl) ?_
          refine gGet (v := .ref (a 4)) (ref := RX0) (Cn := RX0) (T := TX0) (N := 8) C iX0 hO 1 rfl rfl 2 (by decide) w18 (fun _ h9 => h9) rfl dX0_removeMarked_51 ?_
          refine lv_iload_n C.1 C.2.1 dX0_removeMarked_54 rfl (lv_at hl 2 rfl) ?_
          refine gIald (v := (cpF mk (s_val S) (k)) k) (j := k) C hO 4 rfl (by omega) (by decide) rfl dX0_removeMarked_55 ?_
          refine gIast (j := (cpN mk k)) (ws' := (xW E a (mkS (upd (cpF mk (s_off S) (k)) (cpN mk k) ((cpF mk (s_off S) (k)) k)) (upd (cpF mk (s_key S) (k)) (cpN mk k) ((cpF mk (s_key S) (k)) k)) (upd (cpF mk (s_val S) (k)) (cpN mk k) ((cpF mk (s_val S) (k)) k)) (cpF mk (s_sto S) (k)) (s_n S) (s_nx S) (s_dr S) (s_hr S) (s_sc S) (s_on S) (s_said S) (s_sh S) (s_pc S) (s_at S) (s_hd S) (s_ms S) (s_kn S)) mk rk rv ++ F)) C hO 4 rfl (by omega) (by decide) rfl dX0_removeMarked_56 (fun H locs hO => ?_)
          refine lv_aload_n C.1 C.2.1 dX0_removeMarked_57 rfl (lv_at hl 0 rfl) ?_
          refine gGet (v := .ref (a 5)) (ref := RX0) (Cn := RX0) (T := TX0) (N := 8) C iX0 hO 1 rfl rfl 3 (by decide) w21 (fun _ h9 => h9) rfl dX0_removeMarked_58 ?_
          refine lv_iload_n C.1 C.2.1 dX0_removeMarked_61 rfl (lv_at hl 1 rfl) ?_
          refine lv_aload_n C.1 C.2.1 dX0_removeMarked_62 rfl (lv_at hl 0 rfl) ?_
          refine gGet (v := .ref (a 5)) (ref := RX0) (Cn := RX0) (T := TX0) (N := 8) C iX0 hO 1 rfl rfl 3 (by decide) w21 (fun _ h9 => h9) rfl dX0_removeMarked_63 ?_
          refine lv_iload_n C.1 C.2.1 dX0_removeMarked_66 rfl (lv_at hl 2 rfl) ?_
          refine gIald (v := (cpF mk (s_sto S) (k)) k) (j := k) C hO 5 rfl (by omega) (by decide) rfl dX0_removeMarked_67 ?_
          refine gIast (j := (cpN mk k)) (ws' := (xW E a (mkS (upd (cpF mk (s_off S) (k)) (cpN mk k) ((cpF mk (s_off S) (k)) k)) (upd (cpF mk (s_key S) (k)) (cpN mk k) ((cpF mk (s_key S) (k)) k)) (upd (cpF mk (s_val S) (k)) (cpN mk k) ((cpF mk (s_val S) (k)) k)) (upd (cpF mk (s_sto S) (k)) (cpN mk k) ((cpF mk (s_sto S) (k)) k)) (s_n S) (s_nx S) (s_dr S) (s_hr S) (s_sc S) (s_on S) (s_said S) (s_sh S) (s_pc S) (s_at S) (s_hd S) (s_ms S) (s_kn S)) mk rk rv ++ F)) C hO 5 rfl (by omega) (by decide) rfl dX0_removeMarked_68 (fun H locs hO => ?_)
          refine gInc (j := (cpN mk k)) (k := 1) (lv' := [(1, .int (nI ((cpN mk k) + 1))), (0, .ref (a 1)), (2, .int (nI k))]) C.1 C.2.1 dX0_removeMarked_69 hl rfl (by decide) rfl (fun ls hl => ?_)
          have hO : gO E A s (xW E a (mkS (cpF mk (s_off S) (k + 1)) (cpF mk (s_key S) (k + 1)) (cpF mk (s_val S) (k + 1)) (cpF mk (s_sto S) (k + 1)) (s_n S) (s_nx S) (s_dr S) (s_hr S) (s_sc S) (s_on S) (s_said S) (s_sh S) (s_pc S) (s_at S) (s_hd S) (s_ms S) (s_kn S)) mk rk rv ++ F) H locs := by rw [cf_s1 hz, cf_s1 hz, cf_s1 hz, cf_s1 hz]; exact hO
          have hl : lv_has ls 3 [(1, .int (nI (cpN mk (k + 1)))), (0, .ref (a 1)), (2, .int (nI k))] := by rw [cp_s1 hz]; exact hl
          refine gInc (j := k) (k := 2) (lv' := [(2, .int (nI (k + 1))), (1, .int (nI (cpN mk (k + 1)))), (0, .ref (a 1))]) C.1 C.2.1 dX0_removeMarked_72 hl rfl (by decide) rfl (fun ls hl => ?_)
          refine lv_goto (tgt := 4) C.1 C.2.1 dX0_removeMarked_75 (by decide) ?_
          exact ih24 (k + 1) (by omega) (by omega) _ _ hO _ (lv_sub hl [2, 1, 0] rfl)
  exact lp24 (s_n S + 1) 0 (by omega) (Nat.zero_le _) _ _ hO _ (lv_sub hl [2, 1, 0] rfl)

set_option maxHeartbeats 4000000 in
set_option maxRecDepth 100000 in
theorem c_X0_positionOf (l : Launch) (E : gE) (a : Nat → Nat) (S : St) (mk rk rv : Nat → Int32) (F : va_W) (o : Int32) (hn : s_n S ≤ 48) : gMi l E yX0_positionOf wsX0_positionOf ({ frames := 1, cells := 0, slots := 0, locals := 22 }) (xW E a S mk rk rv ++ F) [.ref (a 1), .int o] (oI (s_po S o)) (xW E a S mk rk rv ++ F) 0 0 := by
  refine gMi.of (cc := cX0_positionOf) (maxL := 3) (ty := .int) (by decide) rfl (Nat.le_of_ble_eq_true rfl) ?_
  intro p e s m args below meth c A C ls hl hO
  have hl : lv_has ls 3 [(0, .ref (a 1)), (1, .int o)] := hl
  have iX0 : ∀ w ∈ u_ws RX0 TX0 8, w ∈ wsX0_positionOf := by decide +kernel
  have w28 : Cond.fieldLink RX0 28 "ParrotLog$Log" "size" "I" ∈ wsX0_positionOf := by decide +kernel
  have w9 : Cond.fieldLink RX0 9 "ParrotLog$Log" "offsets" "[I" ∈ wsX0_positionOf := by decide +kernel
  refine lv_aload_n C.1 C.2.1 dX0_positionOf_0 rfl (lv_at hl 0 rfl) ?_
  refine lv_iload_n C.1 C.2.1 dX0_positionOf_1 rfl (lv_at hl 1 rfl) ?_
  refine gCall_i (As := [.int o]) (rest := []) C hO (c_X0_positionFrom l E a S mk rk rv F o (by omega)) (cwV 1 C.2.2.2.2.1 gX0_positionOf_X0_positionFrom rfl rfl rfl (by decide +kernel) ⟨(Nat.le_of_ble_eq_true rfl), (Nat.le_of_ble_eq_true rfl)⟩) (va_recv C.2.2.2.2.2.2.2.1.1 hO.1 (ci := 0) (q0 := 1) rfl rfl) rfl hl.1 rfl (Nat.le_of_ble_eq_true rfl) dX0_positionOf_2 ⟨(Nat.le_of_ble_eq_true rfl), (Nat.le_of_ble_eq_true rfl)⟩ (fun H locs hO => ?_)
  refine lv_istore_n (lv' := [(2, .int (nI (pf (s_off S) o (s_n S)))), (0, .ref (a 1)), (1, .int o)]) C.1 C.2.1 dX0_positionOf_5 rfl hl (by decide) rfl (fun ls hl => ?_)
  have hle := pf_le (s_off S) o (s_n S)
  refine lv_iload_n C.1 C.2.1 dX0_positionOf_6 rfl (lv_at hl 0 rfl) ?_
  refine lv_aload_n C.1 C.2.1 dX0_positionOf_7 rfl (lv_at hl 1 rfl) ?_
  refine gGet (v := .int (nI (s_n S))) (ref := RX0) (Cn := RX0) (T := TX0) (N := 8) C iX0 hO 1 rfl rfl 5 (by decide) w28 (fun _ h9 => h9) rfl dX0_positionOf_8 ?_
  refine gGeN (x := (pf (s_off S) o (s_n S))) (y := (s_n S)) (tgt := 28) C.1 C.2.1 (by omega) (by omega) dX0_positionOf_11 (by decide) (fun c_1 => ?_) (fun c_1 => ?_)
  · have hz : s_po S o = none := s_po_0 (fun h => by have := h.1; omega)
    refine lv_iconst (v := (-1)) C.1 C.2.1 dX0_positionOf_28 (by decide) ?_
    exact gRi C hO rfl (by rw [hz]; rfl) dX0_positionOf_29 (Nat.le_of_ble_eq_true rfl) (Nat.le_of_ble_eq_true rfl)
  · refine lv_aload_n C.1 C.2.1 dX0_positionOf_14 rfl (lv_at hl 1 rfl) ?_
    refine gGet (v := .ref (a 2)) (ref := RX0) (Cn := RX0) (T := TX0) (N := 8) C iX0 hO 1 rfl rfl 0 (by decide) w9 (fun _ h9 => h9) rfl dX0_positionOf_15 ?_
    refine lv_iload_n C.1 C.2.1 dX0_positionOf_18 rfl (lv_at hl 0 rfl) ?_
    refine gIald (v := (s_off S) (pf (s_off S) o (s_n S))) (j := (pf (s_off S) o (s_n S))) C hO 2 rfl (by omega) (by decide) rfl dX0_positionOf_19 ?_
    refine lv_iload_n C.1 C.2.1 dX0_positionOf_20 rfl (lv_at hl 2 rfl) ?_
    refine lv_icmp_ne (tgt := 28) C.1 C.2.1 dX0_positionOf_21 (by decide) (fun c_2 => ?_) (fun c_2 => ?_)
    · have hz : s_po S o = none := s_po_0 (fun h => c_2 h.2)
      refine lv_iconst (v := (-1)) C.1 C.2.1 dX0_positionOf_28 (by decide) ?_
      exact gRi C hO rfl (by rw [hz]; rfl) dX0_positionOf_29 (Nat.le_of_ble_eq_true rfl) (Nat.le_of_ble_eq_true rfl)
    · have hz : s_po S o = some (pf (s_off S) o (s_n S)) := s_po_1 (by omega) c_2
      refine lv_iload_n C.1 C.2.1 dX0_positionOf_24 rfl (lv_at hl 0 rfl) ?_
      refine lv_goto (tgt := 29) C.1 C.2.1 dX0_positionOf_25 (by decide) ?_
      exact gRi C hO rfl (by rw [hz]; rfl) dX0_positionOf_29 (Nat.le_of_ble_eq_true rfl) (Nat.le_of_ble_eq_true rfl)

set_option maxHeartbeats 4000000 in
set_option maxRecDepth 100000 in
theorem c_X0_latestOffset (l : Launch) (E : gE) (a : Nat → Nat) (S : St) (mk rk rv : Nat → Int32) (F : va_W) (k : Int32) (hn : s_n S ≤ 48) : gMi l E yX0_latestOffset wsX0_latestOffset ({ frames := 1, cells := 0, slots := 0, locals := 24 }) (xW E a S mk rk rv ++ F) [.ref (a 1), .int k] (s_lo S k) (xW E a S mk rk rv ++ F) 0 0 := by
  refine gMi.of (cc := cX0_latestOffset) (maxL := 3) (ty := .int) (by decide) rfl (Nat.le_of_ble_eq_true rfl) ?_
  intro p e s m args below meth c A C ls hl hO
  have hl : lv_has ls 3 [(0, .ref (a 1)), (1, .int k)] := hl
  have iX0 : ∀ w ∈ u_ws RX0 TX0 8, w ∈ wsX0_latestOffset := by decide +kernel
  have w28 : Cond.fieldLink RX0 28 "ParrotLog$Log" "size" "I" ∈ wsX0_latestOffset := by decide +kernel
  have w9 : Cond.fieldLink RX0 9 "ParrotLog$Log" "offsets" "[I" ∈ wsX0_latestOffset := by decide +kernel
  refine lv_aload_n C.1 C.2.1 dX0_latestOffset_0 rfl (lv_at hl 0 rfl) ?_
  refine lv_iload_n C.1 C.2.1 dX0_latestOffset_1 rfl (lv_at hl 1 rfl) ?_
  refine lv_iconst (v := 0) C.1 C.2.1 dX0_latestOffset_2 (by decide) ?_
  refine lv_aload_n C.1 C.2.1 dX0_latestOffset_3 rfl (lv_at hl 0 rfl) ?_
  refine gGet (v := .int (nI (s_n S))) (ref := RX0) (Cn := RX0) (T := TX0) (N := 8) C iX0 hO 1 rfl rfl 5 (by decide) w28 (fun _ h9 => h9) rfl dX0_latestOffset_4 ?_
  refine gCall_i (As := [.int k, .int 0, .int (nI (s_n S))]) (rest := []) C hO (c_X0_latestPosition l E a S mk rk rv F k 0 (s_n S) (by omega) (by omega)) (cwV 3 C.2.2.2.2.1 gX0_latestOffset_X0_latestPosition rfl rfl rfl (by decide +kernel) ⟨(Nat.le_of_ble_eq_true rfl), (Nat.le_of_ble_eq_true rfl)⟩) (va_recv C.2.2.2.2.2.2.2.1.1 hO.1 (ci := 0) (q0 := 1) rfl rfl) rfl hl.1 rfl (Nat.le_of_ble_eq_true rfl) dX0_latestOffset_7 ⟨(Nat.le_of_ble_eq_true rfl), (Nat.le_of_ble_eq_true rfl)⟩ (fun H locs hO => ?_)
  refine lv_istore_n (lv' := [(2, .int (oI (lpO (s_key S) k 0 (s_n S)))), (0, .ref (a 1)), (1, .int k)]) C.1 C.2.1 dX0_latestOffset_10 rfl hl (by decide) rfl (fun ls hl => ?_)
  refine lv_iload_n C.1 C.2.1 dX0_latestOffset_11 rfl (lv_at hl 0 rfl) ?_
  refine lv_iconst (v := (-1)) C.1 C.2.1 dX0_latestOffset_12 (by decide) ?_
  refine lv_icmp_ne (tgt := 20) C.1 C.2.1 dX0_latestOffset_13 (by decide) (fun c_1 => ?_) (fun c_1 => ?_)
  · obtain ⟨i9, hz, hi1, hi2, hi3⟩ := lpO_nm1 c_1
    refine lv_aload_n C.1 C.2.1 dX0_latestOffset_20 rfl (lv_at hl 1 rfl) ?_
    refine gGet (v := .ref (a 2)) (ref := RX0) (Cn := RX0) (T := TX0) (N := 8) C iX0 hO 1 rfl rfl 0 (by decide) w9 (fun _ h9 => h9) rfl dX0_latestOffset_21 ?_
    refine lv_iload_n C.1 C.2.1 dX0_latestOffset_24 rfl (lv_at hl 0 rfl) ?_
    refine lv_eqi (y := nI i9) (by rw [hz]; rfl) ?_
    refine gIald (v := (s_off S) i9) (j := i9) C hO 2 rfl (by omega) (by decide) rfl dX0_latestOffset_25 ?_
    exact gRi C hO rfl (by simp only [s_lo, hz]) dX0_latestOffset_26 (Nat.le_of_ble_eq_true rfl) (Nat.le_of_ble_eq_true rfl)
  · have hz : lpO (s_key S) k 0 (s_n S) = none := lpO_m1 (by omega) c_1
    refine lv_iconst (v := (-1)) C.1 C.2.1 dX0_latestOffset_16 (by decide) ?_
    refine lv_goto (tgt := 26) C.1 C.2.1 dX0_latestOffset_17 (by decide) ?_
    exact gRi C hO rfl (by simp only [s_lo, hz]) dX0_latestOffset_26 (Nat.le_of_ble_eq_true rfl) (Nat.le_of_ble_eq_true rfl)

set_option maxHeartbeats 4000000 in
set_option maxRecDepth 100000 in
theorem c_X0_latestValue (l : Launch) (E : gE) (a : Nat → Nat) (S : St) (mk rk rv : Nat → Int32) (F : va_W) (k : Int32) (hn : s_n S ≤ 48) : gMi l E yX0_latestValue wsX0_latestValue ({ frames := 1, cells := 0, slots := 0, locals := 24 }) (xW E a S mk rk rv ++ F) [.ref (a 1), .int k] (s_wv S k) (xW E a S mk rk rv ++ F) 0 0 := by
  refine gMi.of (cc := cX0_latestValue) (maxL := 3) (ty := .int) (by decide) rfl (Nat.le_of_ble_eq_true rfl) ?_
  intro p e s m args below meth c A C ls hl hO
  have hl : lv_has ls 3 [(0, .ref (a 1)), (1, .int k)] := hl
  have iX0 : ∀ w ∈ u_ws RX0 TX0 8, w ∈ wsX0_latestValue := by decide +kernel
  have w28 : Cond.fieldLink RX0 28 "ParrotLog$Log" "size" "I" ∈ wsX0_latestValue := by decide +kernel
  have w18 : Cond.fieldLink RX0 18 "ParrotLog$Log" "values" "[I" ∈ wsX0_latestValue := by decide +kernel
  refine lv_aload_n C.1 C.2.1 dX0_latestValue_0 rfl (lv_at hl 0 rfl) ?_
  refine lv_iload_n C.1 C.2.1 dX0_latestValue_1 rfl (lv_at hl 1 rfl) ?_
  refine lv_iconst (v := 0) C.1 C.2.1 dX0_latestValue_2 (by decide) ?_
  refine lv_aload_n C.1 C.2.1 dX0_latestValue_3 rfl (lv_at hl 0 rfl) ?_
  refine gGet (v := .int (nI (s_n S))) (ref := RX0) (Cn := RX0) (T := TX0) (N := 8) C iX0 hO 1 rfl rfl 5 (by decide) w28 (fun _ h9 => h9) rfl dX0_latestValue_4 ?_
  refine gCall_i (As := [.int k, .int 0, .int (nI (s_n S))]) (rest := []) C hO (c_X0_latestPosition l E a S mk rk rv F k 0 (s_n S) (by omega) (by omega)) (cwV 3 C.2.2.2.2.1 gX0_latestValue_X0_latestPosition rfl rfl rfl (by decide +kernel) ⟨(Nat.le_of_ble_eq_true rfl), (Nat.le_of_ble_eq_true rfl)⟩) (va_recv C.2.2.2.2.2.2.2.1.1 hO.1 (ci := 0) (q0 := 1) rfl rfl) rfl hl.1 rfl (Nat.le_of_ble_eq_true rfl) dX0_latestValue_7 ⟨(Nat.le_of_ble_eq_true rfl), (Nat.le_of_ble_eq_true rfl)⟩ (fun H locs hO => ?_)
  refine lv_istore_n (lv' := [(2, .int (oI (lpO (s_key S) k 0 (s_n S)))), (0, .ref (a 1)), (1, .int k)]) C.1 C.2.1 dX0_latestValue_10 rfl hl (by decide) rfl (fun ls hl => ?_)
  refine lv_iload_n C.1 C.2.1 dX0_latestValue_11 rfl (lv_at hl 0 rfl) ?_
  refine lv_iconst (v := (-1)) C.1 C.2.1 dX0_latestValue_12 (by decide) ?_
  refine lv_icmp_ne (tgt := 20) C.1 C.2.1 dX0_latestValue_13 (by decide) (fun c_1 => ?_) (fun c_1 => ?_)
  · obtain ⟨i9, hz, hi1, hi2, hi3⟩ := lpO_nm1 c_1
    refine lv_aload_n C.1 C.2.1 dX0_latestValue_20 rfl (lv_at hl 1 rfl) ?_
    refine gGet (v := .ref (a 4)) (ref := RX0) (Cn := RX0) (T := TX0) (N := 8) C iX0 hO 1 rfl rfl 2 (by decide) w18 (fun _ h9 => h9) rfl dX0_latestValue_21 ?_
    refine lv_iload_n C.1 C.2.1 dX0_latestValue_24 rfl (lv_at hl 0 rfl) ?_
    refine lv_eqi (y := nI i9) (by rw [hz]; rfl) ?_
    refine gIald (v := (s_val S) i9) (j := i9) C hO 4 rfl (by omega) (by decide) rfl dX0_latestValue_25 ?_
    exact gRi C hO rfl (by simp only [s_wv, hz]) dX0_latestValue_26 (Nat.le_of_ble_eq_true rfl) (Nat.le_of_ble_eq_true rfl)
  · have hz : lpO (s_key S) k 0 (s_n S) = none := lpO_m1 (by omega) c_1
    refine lv_iconst (v := 0) C.1 C.2.1 dX0_latestValue_16 (by decide) ?_
    refine lv_goto (tgt := 26) C.1 C.2.1 dX0_latestValue_17 (by decide) ?_
    exact gRi C hO rfl (by simp only [s_wv, hz]) dX0_latestValue_26 (Nat.le_of_ble_eq_true rfl) (Nat.le_of_ble_eq_true rfl)

set_option maxHeartbeats 4000000 in
set_option maxRecDepth 100000 in
theorem c_X0_countEqual (l : Launch) (E : gE) (a : Nat → Nat) (S : St) (mk rk rv : Nat → Int32) (F : va_W) (q9 r : Nat) (g : Nat → Int32) (x : Int32) (hn : s_n S ≤ 48) (hq : (xW E a S mk rk rv ++ F)[q9]? = some (r, .inl (eI E, 48, .inl g))) : gMi l E yX0_countEqual wsX0_countEqual ({ frames := 0, cells := 0, slots := 0, locals := 0 }) (xW E a S mk rk rv ++ F) [.ref (a 1), .ref r, .int x] (nI (cnt g x (s_n S))) (xW E a S mk rk rv ++ F) 0 0 := by
  refine gMi.of (cc := cX0_countEqual) (maxL := 5) (ty := .int) (by decide) rfl (Nat.le_of_ble_eq_true rfl) ?_
  intro p e s m args below meth c A C ls hl hO
  have hl : lv_has ls 5 [(0, .ref (a 1)), (1, .ref r), (2, .int x)] := hl
  have iX0 : ∀ w ∈ u_ws RX0 TX0 8, w ∈ wsX0_countEqual := by decide +kernel
  have w28 : Cond.fieldLink RX0 28 "ParrotLog$Log" "size" "I" ∈ wsX0_countEqual := by decide +kernel
  refine lv_iconst (v := 0) C.1 C.2.1 dX0_countEqual_0 (by decide) ?_
  refine lv_istore_n (lv' := [(3, .int 0), (0, .ref (a 1)), (1, .ref r), (2, .int x)]) C.1 C.2.1 dX0_countEqual_1 rfl hl (by decide) rfl (fun ls hl => ?_)
  refine lv_iconst (v := 0) C.1 C.2.1 dX0_countEqual_2 (by decide) ?_
  refine lv_istore (lv' := [(4, .int 0), (3, .int 0), (0, .ref (a 1)), (1, .ref r), (2, .int x)]) C.1 C.2.1 dX0_countEqual_3 hl (by decide) rfl (fun ls hl => ?_)
  have lp24 : ∀ (f : Nat) (k : Nat) (c2 : Nat), (s_n S + 1 ≤ k + f) → (k ≤ s_n S) → (c2 = cnt g x k) → ∀ (H : Heap) (locs : List Loc), gO E A s (xW E a S mk rk rv ++ F) H locs → ∀ ls : Array Slot, lv_has ls 5 [(0, .ref (a 1)), (1, .ref r), (2, .int x), (3, .int (nI c2)), (4, .int (nI k))] → W p l e ({ frames := 0, cells := 0, slots := 0, locals := 0 } : Room) s m args below meth c H locs 0 0 (MQ below (gQi E A (nI (cnt g x (s_n S))) (xW E a S mk rk rv ++ F)) args s 0 0 A) (F0 m 5 ls []) := by
    intro f
    induction f with
    | zero =>
      intro k c2 hf hk hc24
      exact absurd hf (by omega)
    | succ f ih24 =>
      intro k c2 hf hk hc24 H locs hO ls hl
      refine lv_iload C.1 C.2.1 dX0_countEqual_5 (lv_at hl 4 rfl) ?_
      refine lv_aload_n C.1 C.2.1 dX0_countEqual_7 rfl (lv_at hl 0 rfl) ?_
      refine gGet (v := .int (nI (s_n S))) (ref := RX0) (Cn := RX0) (T := TX0) (N := 8) C iX0 hO 1 rfl rfl 5 (by decide) w28 (fun _ h9 => h9) rfl dX0_countEqual_8 ?_
      refine gGeN (x := k) (y := (s_n S)) (tgt := 31) C.1 C.2.1 (by omega) (by omega) dX0_countEqual_11 (by decide) (fun c_1 => ?_) (fun c_1 => ?_)
      · refine lv_iload_n C.1 C.2.1 dX0_countEqual_31 rfl (lv_at hl 3 rfl) ?_
        exact gRi C hO rfl (by rw [hc24, show k = s_n S by omega]) dX0_countEqual_32 (Nat.le_of_ble_eq_true rfl) (Nat.le_of_ble_eq_true rfl)
      · refine lv_aload_n C.1 C.2.1 dX0_countEqual_14 rfl (lv_at hl 1 rfl) ?_
        refine lv_iload C.1 C.2.1 dX0_countEqual_15 (lv_at hl 4 rfl) ?_
        refine gIald (v := g k) (j := k) C hO q9 hq (by omega) (by decide) rfl dX0_countEqual_17 ?_
        refine lv_iload_n C.1 C.2.1 dX0_countEqual_18 rfl (lv_at hl 2 rfl) ?_
        refine lv_icmp_ne (tgt := 25) C.1 C.2.1 dX0_countEqual_19 (by decide) (fun c_2 => ?_) (fun c_2 => ?_)
        · have hz : ¬ g k = x := c_2
          refine gInc (j := k) (k := 4) (lv' := [(4, .int (nI (k + 1))), (0, .ref (a 1)), (1, .ref r), (2, .int x), (3, .int (nI c2))]) C.1 C.2.1 dX0_countEqual_25 hl rfl (by decide) rfl (fun ls hl => ?_)
          refine lv_goto (tgt := 5) C.1 C.2.1 dX0_countEqual_28 (by decide) ?_
          exact ih24 (k + 1) c2 (by omega) (by omega) (by first | exact by rw [hc24, cnt_s0 hz] | exact by rw [hc24, cnt_s1 hz]) _ _ hO _ (lv_sub hl [1, 2, 3, 4, 0] rfl)
        · have hz : g k = x := c_2
          refine gInc (j := c2) (k := 3) (lv' := [(3, .int (nI (c2 + 1))), (0, .ref (a 1)), (1, .ref r), (2, .int x), (4, .int (nI k))]) C.1 C.2.1 dX0_countEqual_22 hl rfl (by decide) rfl (fun ls hl => ?_)
          refine gInc (j := k) (k := 4) (lv' := [(4, .int (nI (k + 1))), (3, .int (nI (c2 + 1))), (0, .ref (a 1)), (1, .ref r), (2, .int x)]) C.1 C.2.1 dX0_countEqual_25 hl rfl (by decide) rfl (fun ls hl => ?_)
          refine lv_goto (tgt := 5) C.1 C.2.1 dX0_countEqual_28 (by decide) ?_
          exact ih24 (k + 1) (c2 + 1) (by omega) (by omega) (by first | exact by rw [hc24, cnt_s0 hz] | exact by rw [hc24, cnt_s1 hz]) _ _ hO _ (lv_sub hl [2, 3, 4, 1, 0] rfl)
  exact lp24 (s_n S + 1) 0 0 (by omega) (Nat.zero_le _) rfl _ _ hO _ (lv_sub hl [2, 3, 4, 1, 0] rfl)

set_option maxHeartbeats 4000000 in
set_option maxRecDepth 100000 in
theorem c_X0_countKey (l : Launch) (E : gE) (a : Nat → Nat) (S : St) (mk rk rv : Nat → Int32) (F : va_W) (x : Int32) (hn : s_n S ≤ 48) : gMi l E yX0_countKey wsX0_countKey ({ frames := 1, cells := 0, slots := 0, locals := 24 }) (xW E a S mk rk rv ++ F) [.ref (a 1), .int x] (nI (cnt (s_key S) x (s_n S))) (xW E a S mk rk rv ++ F) 0 0 := by
  refine gMi.of (cc := cX0_countKey) (maxL := 2) (ty := .int) (by decide) rfl (Nat.le_of_ble_eq_true rfl) ?_
  intro p e s m args below meth c A C ls hl hO
  have hl : lv_has ls 2 [(0, .ref (a 1)), (1, .int x)] := hl
  have iX0 : ∀ w ∈ u_ws RX0 TX0 8, w ∈ wsX0_countKey := by decide +kernel
  have w15 : Cond.fieldLink RX0 15 "ParrotLog$Log" "keys" "[I" ∈ wsX0_countKey := by decide +kernel
  refine lv_aload_n C.1 C.2.1 dX0_countKey_0 rfl (lv_at hl 0 rfl) ?_
  refine lv_aload_n C.1 C.2.1 dX0_countKey_1 rfl (lv_at hl 0 rfl) ?_
  refine gGet (v := .ref (a 3)) (ref := RX0) (Cn := RX0) (T := TX0) (N := 8) C iX0 hO 1 rfl rfl 1 (by decide) w15 (fun _ h9 => h9) rfl dX0_countKey_2 ?_
  refine lv_iload_n C.1 C.2.1 dX0_countKey_5 rfl (lv_at hl 1 rfl) ?_
  refine gCall_i (As := [.ref (a 3), .int x]) (rest := []) C hO (c_X0_countEqual l E a S mk rk rv F 3 (a 3) (s_key S) x (by omega) rfl) (cwV 2 C.2.2.2.2.1 gX0_countKey_X0_countEqual rfl rfl rfl (by decide +kernel) ⟨(Nat.le_of_ble_eq_true rfl), (Nat.le_of_ble_eq_true rfl)⟩) (va_recv C.2.2.2.2.2.2.2.1.1 hO.1 (ci := 0) (q0 := 1) rfl rfl) rfl hl.1 rfl (Nat.le_of_ble_eq_true rfl) dX0_countKey_6 ⟨(Nat.le_of_ble_eq_true rfl), (Nat.le_of_ble_eq_true rfl)⟩ (fun H locs hO => ?_)
  exact gRi C hO rfl rfl dX0_countKey_9 (Nat.le_of_ble_eq_true rfl) (Nat.le_of_ble_eq_true rfl)

set_option maxHeartbeats 4000000 in
set_option maxRecDepth 100000 in
theorem c_X0_countStorm (l : Launch) (E : gE) (a : Nat → Nat) (S : St) (mk rk rv : Nat → Int32) (F : va_W) (x : Int32) (hn : s_n S ≤ 48) : gMi l E yX0_countStorm wsX0_countStorm ({ frames := 1, cells := 0, slots := 0, locals := 24 }) (xW E a S mk rk rv ++ F) [.ref (a 1), .int x] (nI (cnt (s_sto S) x (s_n S))) (xW E a S mk rk rv ++ F) 0 0 := by
  refine gMi.of (cc := cX0_countStorm) (maxL := 2) (ty := .int) (by decide) rfl (Nat.le_of_ble_eq_true rfl) ?_
  intro p e s m args below meth c A C ls hl hO
  have hl : lv_has ls 2 [(0, .ref (a 1)), (1, .int x)] := hl
  have iX0 : ∀ w ∈ u_ws RX0 TX0 8, w ∈ wsX0_countStorm := by decide +kernel
  have w21 : Cond.fieldLink RX0 21 "ParrotLog$Log" "stormNumbers" "[I" ∈ wsX0_countStorm := by decide +kernel
  refine lv_aload_n C.1 C.2.1 dX0_countStorm_0 rfl (lv_at hl 0 rfl) ?_
  refine lv_aload_n C.1 C.2.1 dX0_countStorm_1 rfl (lv_at hl 0 rfl) ?_
  refine gGet (v := .ref (a 5)) (ref := RX0) (Cn := RX0) (T := TX0) (N := 8) C iX0 hO 1 rfl rfl 3 (by decide) w21 (fun _ h9 => h9) rfl dX0_countStorm_2 ?_
  refine lv_iload_n C.1 C.2.1 dX0_countStorm_5 rfl (lv_at hl 1 rfl) ?_
  refine gCall_i (As := [.ref (a 5), .int x]) (rest := []) C hO (c_X0_countEqual l E a S mk rk rv F 5 (a 5) (s_sto S) x (by omega) rfl) (cwV 2 C.2.2.2.2.1 gX0_countStorm_X0_countEqual rfl rfl rfl (by decide +kernel) ⟨(Nat.le_of_ble_eq_true rfl), (Nat.le_of_ble_eq_true rfl)⟩) (va_recv C.2.2.2.2.2.2.2.1.1 hO.1 (ci := 0) (q0 := 1) rfl rfl) rfl hl.1 rfl (Nat.le_of_ble_eq_true rfl) dX0_countStorm_6 ⟨(Nat.le_of_ble_eq_true rfl), (Nat.le_of_ble_eq_true rfl)⟩ (fun H locs hO => ?_)
  exact gRi C hO rfl rfl dX0_countStorm_9 (Nat.le_of_ble_eq_true rfl) (Nat.le_of_ble_eq_true rfl)

set_option maxHeartbeats 4000000 in
set_option maxRecDepth 100000 in
theorem c_X0_copyStorm (l : Launch) (E : gE) (a : Nat → Nat) (S : St) (mk rk rv : Nat → Int32) (F : va_W) (x : Int32) (hn : s_n S ≤ 48) : gMi l E yX0_copyStorm wsX0_copyStorm ({ frames := 0, cells := 0, slots := 0, locals := 0 }) (xW E a S mk rk rv ++ F) [.ref (a 1), .int x, .ref (a 9), .ref (a 10)] (nI (cnt (s_sto S) x (s_n S))) (xW E a S mk (flF (s_key S) (s_sto S) x rk (s_n S)) (flF (s_val S) (s_sto S) x rv (s_n S)) ++ F) 0 0 := by
  refine gMi.of (cc := cX0_copyStorm) (maxL := 6) (ty := .int) (by decide) rfl (Nat.le_of_ble_eq_true rfl) ?_
  intro p e s m args below meth c A C ls hl hO
  have hl : lv_has ls 6 [(0, .ref (a 1)), (1, .int x), (2, .ref (a 9)), (3, .ref (a 10))] := hl
  have iX0 : ∀ w ∈ u_ws RX0 TX0 8, w ∈ wsX0_copyStorm := by decide +kernel
  have w28 : Cond.fieldLink RX0 28 "ParrotLog$Log" "size" "I" ∈ wsX0_copyStorm := by decide +kernel
  have w21 : Cond.fieldLink RX0 21 "ParrotLog$Log" "stormNumbers" "[I" ∈ wsX0_copyStorm := by decide +kernel
  have w15 : Cond.fieldLink RX0 15 "ParrotLog$Log" "keys" "[I" ∈ wsX0_copyStorm := by decide +kernel
  have w18 : Cond.fieldLink RX0 18 "ParrotLog$Log" "values" "[I" ∈ wsX0_copyStorm := by decide +kernel
  refine lv_iconst (v := 0) C.1 C.2.1 dX0_copyStorm_0 (by decide) ?_
  refine lv_istore (lv' := [(4, .int 0), (0, .ref (a 1)), (1, .int x), (2, .ref (a 9)), (3, .ref (a 10))]) C.1 C.2.1 dX0_copyStorm_1 hl (by decide) rfl (fun ls hl => ?_)
  refine lv_iconst (v := 0) C.1 C.2.1 dX0_copyStorm_3 (by decide) ?_
  refine lv_istore (lv' := [(5, .int 0), (4, .int 0), (0, .ref (a 1)), (1, .int x), (2, .ref (a 9)), (3, .ref (a 10))]) C.1 C.2.1 dX0_copyStorm_4 hl (by decide) rfl (fun ls hl => ?_)
  have lp24 : ∀ (f : Nat) (k : Nat), (s_n S + 1 ≤ k + f) → (k ≤ s_n S) → ∀ (H : Heap) (locs : List Loc), gO E A s (xW E a S mk (flF (s_key S) (s_sto S) x rk k) (flF (s_val S) (s_sto S) x rv k) ++ F) H locs → ∀ ls : Array Slot, lv_has ls 6 [(0, .ref (a 1)), (1, .int x), (2, .ref (a 9)), (3, .ref (a 10)), (4, .int (nI (cnt (s_sto S) x k))), (5, .int (nI k))] → W p l e ({ frames := 0, cells := 0, slots := 0, locals := 0 } : Room) s m args below meth c H locs 0 0 (MQ below (gQi E A (nI (cnt (s_sto S) x (s_n S))) (xW E a S mk (flF (s_key S) (s_sto S) x rk (s_n S)) (flF (s_val S) (s_sto S) x rv (s_n S)) ++ F)) args s 0 0 A) (F0 m 6 ls []) := by
    intro f
    induction f with
    | zero =>
      intro k hf hk
      exact absurd hf (by omega)
    | succ f ih24 =>
      intro k hf hk H locs hO ls hl
      refine lv_iload C.1 C.2.1 dX0_copyStorm_6 (lv_at hl 5 rfl) ?_
      refine lv_aload_n C.1 C.2.1 dX0_copyStorm_8 rfl (lv_at hl 0 rfl) ?_
      refine gGet (v := .int (nI (s_n S))) (ref := RX0) (Cn := RX0) (T := TX0) (N := 8) C iX0 hO 1 rfl rfl 5 (by decide) w28 (fun _ h9 => h9) rfl dX0_copyStorm_9 ?_
      refine gGeN (x := k) (y := (s_n S)) (tgt := 57) C.1 C.2.1 (by omega) (by omega) dX0_copyStorm_12 (by decide) (fun c_1 => ?_) (fun c_1 => ?_)
      · have hk9 : k = s_n S := by omega
        rw [hk9] at hO hl
        have hl := lv_sub hl [4] rfl
        have hl : lv_has ls 6 [(4, .int (nI (cnt (s_sto S) x (s_n S))))] := hl
        refine lv_iload C.1 C.2.1 dX0_copyStorm_57 (lv_at hl 0 rfl) ?_
        exact gRi C hO rfl rfl dX0_copyStorm_59 (Nat.le_of_ble_eq_true rfl) (Nat.le_of_ble_eq_true rfl)
      · have hle := cnt_le (s_sto S) x k
        refine lv_aload_n C.1 C.2.1 dX0_copyStorm_15 rfl (lv_at hl 0 rfl) ?_
        refine gGet (v := .ref (a 5)) (ref := RX0) (Cn := RX0) (T := TX0) (N := 8) C iX0 hO 1 rfl rfl 3 (by decide) w21 (fun _ h9 => h9) rfl dX0_copyStorm_16 ?_
        refine lv_iload C.1 C.2.1 dX0_copyStorm_19 (lv_at hl 5 rfl) ?_
        refine gIald (v := (s_sto S) k) (j := k) C hO 5 rfl (by omega) (by decide) rfl dX0_copyStorm_21 ?_
        refine lv_iload_n C.1 C.2.1 dX0_copyStorm_22 rfl (lv_at hl 1 rfl) ?_
        refine lv_icmp_ne (tgt := 51) C.1 C.2.1 dX0_copyStorm_23 (by decide) (fun c_2 => ?_) (fun c_2 => ?_)
        · have hz : ¬ s_sto S k = x := c_2
          have hO : gO E A s (xW E a S mk (flF (s_key S) (s_sto S) x rk (k + 1)) (flF (s_val S) (s_sto S) x rv (k + 1)) ++ F) H locs := by rw [fl_s0 hz, fl_s0 hz]; exact hO
          have hl : lv_has ls 6 [(0, .ref (a 1)), (1, .int x), (2, .ref (a 9)), (3, .ref (a 10)), (4, .int (nI (cnt (s_sto S) x (k + 1)))), (5, .int (nI k))] := by rw [cnt_s0 hz]; exact hl
          refine gInc (j := k) (k := 5) (lv' := [(5, .int (nI (k + 1))), (0, .ref (a 1)), (1, .int x), (2, .ref (a 9)), (3, .ref (a 10)), (4, .int (nI (cnt (s_sto S) x (k + 1))))]) C.1 C.2.1 dX0_copyStorm_51 hl rfl (by decide) rfl (fun ls hl => ?_)
          refine lv_goto (tgt := 6) C.1 C.2.1 dX0_copyStorm_54 (by decide) ?_
          exact ih24 (k + 1) (by omega) (by omega) _ _ hO _ (lv_sub hl [1, 2, 3, 4, 5, 0] rfl)
        · have hz : s_sto S k = x := c_2
          refine lv_aload_n C.1 C.2.1 dX0_copyStorm_26 rfl (lv_at hl 2 rfl) ?_
          refine lv_iload C.1 C.2.1 dX0_copyStorm_27 (lv_at hl 4 rfl) ?_
          refine lv_aload_n C.1 C.2.1 dX0_copyStorm_29 rfl (lv_at hl 0 rfl) ?_
          refine gGet (v := .ref (a 3)) (ref := RX0) (Cn := RX0) (T := TX0) (N := 8) C iX0 hO 1 rfl rfl 1 (by decide) w15 (fun _ h9 => h9) rfl dX0_copyStorm_30 ?_
          refine lv_iload C.1 C.2.1 dX0_copyStorm_33 (lv_at hl 5 rfl) ?_
          refine gIald (v := (s_key S) k) (j := k) C hO 3 rfl (by omega) (by decide) rfl dX0_copyStorm_35 ?_
          refine gIast (j := (cnt (s_sto S) x k)) (ws' := (xW E a S mk (upd (flF (s_key S) (s_sto S) x rk k) (cnt (s_sto S) x k) ((s_key S) k)) (flF (s_val S) (s_sto S) x rv k) ++ F)) C hO 9 rfl (by omega) (by decide) rfl dX0_copyStorm_36 (fun H locs hO => ?_)
          refine lv_aload_n C.1 C.2.1 dX0_copyStorm_37 rfl (lv_at hl 3 rfl) ?_
          refine lv_iload C.1 C.2.1 dX0_copyStorm_38 (lv_at hl 4 rfl) ?_
          refine lv_aload_n C.1 C.2.1 dX0_copyStorm_40 rfl (lv_at hl 0 rfl) ?_
          refine gGet (v := .ref (a 4)) (ref := RX0) (Cn := RX0) (T := TX0) (N := 8) C iX0 hO 1 rfl rfl 2 (by decide) w18 (fun _ h9 => h9) rfl dX0_copyStorm_41 ?_
          refine lv_iload C.1 C.2.1 dX0_copyStorm_44 (lv_at hl 5 rfl) ?_
          refine gIald (v := (s_val S) k) (j := k) C hO 4 rfl (by omega) (by decide) rfl dX0_copyStorm_46 ?_
          refine gIast (j := (cnt (s_sto S) x k)) (ws' := (xW E a S mk (upd (flF (s_key S) (s_sto S) x rk k) (cnt (s_sto S) x k) ((s_key S) k)) (upd (flF (s_val S) (s_sto S) x rv k) (cnt (s_sto S) x k) ((s_val S) k)) ++ F)) C hO 10 rfl (by omega) (by decide) rfl dX0_copyStorm_47 (fun H locs hO => ?_)
          refine gInc (j := (cnt (s_sto S) x k)) (k := 4) (lv' := [(4, .int (nI ((cnt (s_sto S) x k) + 1))), (0, .ref (a 1)), (1, .int x), (2, .ref (a 9)), (3, .ref (a 10)), (5, .int (nI k))]) C.1 C.2.1 dX0_copyStorm_48 hl rfl (by decide) rfl (fun ls hl => ?_)
          have hO : gO E A s (xW E a S mk (flF (s_key S) (s_sto S) x rk (k + 1)) (flF (s_val S) (s_sto S) x rv (k + 1)) ++ F) H locs := by rw [fl_s1 hz, fl_s1 hz]; exact hO
          have hl : lv_has ls 6 [(4, .int (nI (cnt (s_sto S) x (k + 1)))), (0, .ref (a 1)), (1, .int x), (2, .ref (a 9)), (3, .ref (a 10)), (5, .int (nI k))] := by rw [cnt_s1 hz]; exact hl
          refine gInc (j := k) (k := 5) (lv' := [(5, .int (nI (k + 1))), (4, .int (nI (cnt (s_sto S) x (k + 1)))), (0, .ref (a 1)), (1, .int x), (2, .ref (a 9)), (3, .ref (a 10))]) C.1 C.2.1 dX0_copyStorm_51 hl rfl (by decide) rfl (fun ls hl => ?_)
          refine lv_goto (tgt := 6) C.1 C.2.1 dX0_copyStorm_54 (by decide) ?_
          exact ih24 (k + 1) (by omega) (by omega) _ _ hO _ (lv_sub hl [2, 3, 4, 5, 1, 0] rfl)
  exact lp24 (s_n S + 1) 0 (by omega) (Nat.zero_le _) _ _ hO _ (lv_sub hl [2, 3, 4, 5, 1, 0] rfl)

set_option maxHeartbeats 4000000 in
set_option maxRecDepth 100000 in
theorem c_X1_hear (l : Launch) (E : gE) (a : Nat → Nat) (S : St) (mk rk rv : Nat → Int32) (F : va_W) (i : Nat) (po : Int32) (k9 : Nat) (v : Int32) (hi : i < 6) (hk9 : k9 < 10) : gMv l E yX1_hear wsX1_hear ({ frames := 0, cells := 0, slots := 0, locals := 0 }) (xW E a S mk rk rv ++ F) [.ref (a (11 + i)), .int po, .int (nI k9), .int v] (xW E a (mkS (s_off S) (s_key S) (s_val S) (s_sto S) (s_n S) (s_nx S) (s_dr S) (s_hr S) (s_sc S) (s_on S) (s_said S) (s_sh S) (s_pc S) (upd (s_at S) i (po + 1)) (upd (s_hd S) i (s_hd S i + 1)) (s_ms S) (va_up (s_kn S) i (upd (s_kn S i) k9 v))) mk rk rv ++ F) 0 0 := by
  refine gMv.of (cc := cX1_hear) (maxL := 4) (by decide) rfl (Nat.le_of_ble_eq_true rfl) ?_
  intro p e s m args below meth c A C ls hl hO
  have hl : lv_has ls 4 [(0, .ref (a (11 + i))), (1, .int po), (2, .int (nI k9)), (3, .int v)] := hl
  have iX1 : ∀ w ∈ u_ws RX1 TX1 5, w ∈ wsX1_hear := by decide +kernel
  have w9 : Cond.fieldLink RX1 9 "ParrotLog$Ship" "known" "[I" ∈ wsX1_hear := by decide +kernel
  have w15 : Cond.fieldLink RX1 15 "ParrotLog$Ship" "offset" "I" ∈ wsX1_hear := by decide +kernel
  have w19 : Cond.fieldLink RX1 19 "ParrotLog$Ship" "heard" "I" ∈ wsX1_hear := by decide +kernel
  refine lv_aload_n C.1 C.2.1 dX1_hear_0 rfl (lv_at hl 0 rfl) ?_
  refine gGet (v := .ref (a (17 + i))) (ref := RX1) (Cn := RX1) (T := TX1) (N := 5) C iX1 hO (11 + i) (xw_ship hi) rfl 0 (by decide) w9 (fun _ h9 => h9) rfl dX1_hear_1 ?_
  refine lv_iload_n C.1 C.2.1 dX1_hear_4 rfl (lv_at hl 2 rfl) ?_
  refine lv_iload_n C.1 C.2.1 dX1_hear_5 rfl (lv_at hl 3 rfl) ?_
  refine gIast (j := k9) (ws' := (xW E a (mkS (s_off S) (s_key S) (s_val S) (s_sto S) (s_n S) (s_nx S) (s_dr S) (s_hr S) (s_sc S) (s_on S) (s_said S) (s_sh S) (s_pc S) (s_at S) (s_hd S) (s_ms S) (va_up (s_kn S) i (upd ((s_kn S) i) k9 v))) mk rk rv ++ F)) C hO (17 + i) (xw_kn hi) (by omega) (by decide) (xs_kn hi _) dX1_hear_6 (fun H locs hO => ?_)
  refine lv_aload_n C.1 C.2.1 dX1_hear_7 rfl (lv_at hl 0 rfl) ?_
  refine lv_iload_n C.1 C.2.1 dX1_hear_8 rfl (lv_at hl 1 rfl) ?_
  refine lv_iconst (v := 1) C.1 C.2.1 dX1_hear_9 (by decide) ?_
  refine lv_iadd C.1 C.2.1 dX1_hear_10 ?_
  refine gPut (ws' := (xW E a (mkS (s_off S) (s_key S) (s_val S) (s_sto S) (s_n S) (s_nx S) (s_dr S) (s_hr S) (s_sc S) (s_on S) (s_said S) (s_sh S) (s_pc S) (upd (s_at S) i (po + 1)) (s_hd S) (s_ms S) (va_up (s_kn S) i (upd ((s_kn S) i) k9 v))) mk rk rv ++ F)) (ref := RX1) (Cn := RX1) (T := TX1) (N := 5) C iX1 tyX1 tyX1_ok nmX1 hO (11 + i) (xw_ship hi) rfl 2 (by decide) w15 (fun _ h9 => h9) rfl (by decide +kernel) rfl rfl (Nat.le_of_ble_eq_true rfl) (xs_at hi _) dX1_hear_11 (fun H locs hO => ?_)
  refine lv_aload_n C.1 C.2.1 dX1_hear_14 rfl (lv_at hl 0 rfl) ?_
  refine lv_dup C.1 C.2.1 dX1_hear_15 rfl ?_
  refine gGet (v := .int ((s_hd S) i)) (ref := RX1) (Cn := RX1) (T := TX1) (N := 5) C iX1 hO (11 + i) (xw_ship hi) rfl 3 (by decide) w19 (fun _ h9 => h9) rfl dX1_hear_16 ?_
  refine lv_iconst (v := 1) C.1 C.2.1 dX1_hear_19 (by decide) ?_
  refine lv_iadd C.1 C.2.1 dX1_hear_20 ?_
  refine gPut (ws' := (xW E a (mkS (s_off S) (s_key S) (s_val S) (s_sto S) (s_n S) (s_nx S) (s_dr S) (s_hr S) (s_sc S) (s_on S) (s_said S) (s_sh S) (s_pc S) (upd (s_at S) i (po + 1)) (upd (s_hd S) i (((s_hd S) i) + 1)) (s_ms S) (va_up (s_kn S) i (upd ((s_kn S) i) k9 v))) mk rk rv ++ F)) (ref := RX1) (Cn := RX1) (T := TX1) (N := 5) C iX1 tyX1 tyX1_ok nmX1 hO (11 + i) (xw_ship hi) rfl 3 (by decide) w19 (fun _ h9 => h9) rfl (by decide +kernel) rfl rfl (Nat.le_of_ble_eq_true rfl) (xs_hd hi _) dX1_hear_21 (fun H locs hO => ?_)
  exact gRv C hO dX1_hear_24 (Nat.le_of_ble_eq_true rfl) (Nat.le_of_ble_eq_true rfl)
end
section
abbrev okKey (k : Int32) : Prop := ¬ k < 0 ∧ k < 10
abbrev okVal (v : Int32) : Prop := ¬ v < -999 ∧ ¬ 999 < v
abbrev okHours (h : Int32) : Prop := ¬ h < 1 ∧ ¬ 60 < h
abbrev okPace (q : Int32) : Prop := ¬ q < 1 ∧ ¬ 5 < q
abbrev okOff (S : St) (o : Int32) : Prop := ¬ o < 0 ∧ ¬ s_nx S < o
abbrev okStorm (S : St) (x : Int32) : Prop := ¬ x < 0 ∧ x < nI (s_sc S)
abbrev okShip (S : St) (i : Int32) : Prop := ¬ i < 0 ∧ i < nI (s_sh S)
abbrev xIAE : String := "java/lang/IllegalArgumentException"
abbrev xISE : String := "java/lang/IllegalStateException"
abbrev xIOE : String := "java/lang/IndexOutOfBoundsException"
theorem okNat {x : Int32} {n : Nat} (hn : n < 1000000) (h0 : ¬ x < 0) (h : x < nI n) : x.toNatClampNeg < n ∧ x = nI x.toNatClampNeg := by
  obtain ⟨j, hj, rfl⟩ := nI_of h0
  rw [nI_ltI hj (by omega)] at h
  rw [nI_clamp hj]
  exact ⟨h, rfl⟩
theorem cpF_congr {mk mk' f : Nat → Int32} : ∀ n, (∀ i, i < n → mk i = mk' i) → cpF mk f n = cpF mk' f n ∧ cpN mk n = cpN mk' n := by
  intro n
  induction n with
  | zero => intro _; exact ⟨rfl, rfl⟩
  | succ n ih =>
    intro h
    obtain ⟨h1, h2⟩ := ih (fun i hi => h i (by omega))
    have h3 := h n (by omega)
    by_cases hz : mk' n = 0
    · have hz2 : mk n = 0 := h3.trans hz
      rw [cf_s1 hz, cf_s1 hz2, cp_s1 hz, cp_s1 hz2, h1, h2]
      exact ⟨rfl, rfl⟩
    · have hz2 : ¬ mk n = 0 := fun q => hz (h3.symm.trans q)
      rw [cf_s0 hz, cf_s0 hz2, cp_s0 hz, cp_s0 hz2, h1, h2]
      exact ⟨rfl, rfl⟩
theorem cm_congr {mk mk' : Nat → Int32} {fr : Nat} : ∀ n, (∀ i, i < n → mk i = mk' i) → cm mk fr n = cm mk' fr n := by
  intro n
  induction n with
  | zero => intro _; rfl
  | succ n ih =>
    intro h
    unfold cm
    rw [ih (fun i hi => h i (by omega)), h n (by omega)]
theorem cpN_lt {mk : Nat → Int32} : ∀ n i, i < n → ¬ mk i = 0 → cpN mk n < n := by
  intro n
  induction n with
  | zero => intro i h; omega
  | succ n ih =>
    intro i h1 h2
    have hle := cpN_le mk n
    by_cases hi : i = n
    · subst hi; rw [cp_s0 h2]; omega
    · have h3 := ih i (by omega) h2
      by_cases hm : mk n = 0
      · rw [cp_s1 hm]; omega
      · rw [cp_s0 hm]; omega
/-- what each ship missed behind a drop of what is marked -/
def s_md (S : St) (g : Nat → Int32) : Nat → Int32 := mkU (fun i => s_ms S i + nI (cm g (pf (s_off S) (s_at S i) (s_n S)) (s_n S))) (s_ms S) (s_sh S)
abbrev S_drop (S : St) (g : Nat → Int32) : St := S_rem (S_ms S (s_md S g)) g
theorem S_drop_congr {S : St} {g g' : Nat → Int32} (h : ∀ i, i < s_n S → g i = g' i) : S_drop S g = S_drop S g' := by
  have e1 := fun f => (cpF_congr (mk := g) (mk' := g') (f := f) (s_n S) h).1
  have e2 := (cpF_congr (mk := g) (mk' := g') (f := s_off S) (s_n S) h).2
  have e3 : s_md S g = s_md S g' := by
    unfold s_md
    congr 1
    funext i
    rw [cm_congr (s_n S) h]
  unfold S_drop S_rem
  show mkS (cpF g (s_off S) (s_n S)) (cpF g (s_key S) (s_n S)) (cpF g (s_val S) (s_n S)) (cpF g (s_sto S) (s_n S)) (cpN g (s_n S)) (s_nx S) (s_dr S + nI (s_n S - cpN g (s_n S))) _ _ _ _ _ _ _ _ (s_md S g) _ = mkS (cpF g' (s_off S) (s_n S)) (cpF g' (s_key S) (s_n S)) (cpF g' (s_val S) (s_n S)) (cpF g' (s_sto S) (s_n S)) (cpN g' (s_n S)) (s_nx S) (s_dr S + nI (s_n S - cpN g' (s_n S))) _ _ _ _ _ _ _ _ (s_md S g') _
  rw [e1, e1, e1, e1, e2, e3]
/-- saying a phrase: room, the storm's number, the phrase -/
abbrev S_said (S : St) (v : Nat → Int32) : St := mkS (s_off S) (s_key S) (s_val S) (s_sto S) (s_n S) (s_nx S) (s_dr S) (s_hr S) (s_sc S) (s_on S) v (s_sh S) (s_pc S) (s_at S) (s_hd S) (s_ms S) (s_kn S)
def S_room (S : St) : St := if s_n S < 48 then S else S_drop S gFirst
def S_cntd (S : St) : St := if s_on S = 0 then S else S_said S (upd (s_said S) (s_sc S - 1) (s_said S (s_sc S - 1) + 1))
def s_tag (S : St) : Int32 := if s_on S = 0 then -1 else nI (s_sc S - 1)
def S_spk (S : St) (k v : Int32) : St := S_app (S_cntd (S_room S)) k v (s_tag S)
def mk_spk (S : St) (mk : Nat → Int32) : Nat → Int32 := if s_n S < 48 then mk else mkU gFirst mk (s_n S)
theorem S_room_n {S : St} (hn : s_n S ≤ 48) : s_n (S_room S) < 48 := by
  unfold S_room
  split
  · assumption
  · have := cpN_lt (mk := gFirst) (s_n S) 0 (by omega) (by decide)
    show cpN gFirst (s_n S) < 48
    omega
def s_lag (S : St) (i : Nat) : Nat := s_n S - pf (s_off S) (s_at S i) (s_n S)
def mhN (S : St) (h q : Nat) : Nat := if s_on S = 0 then h * q else 0
abbrev pN (S : St) (i : Nat) : Nat := (s_pc S i).toNatClampNeg
/-- the paces of the ships count, 1 to 5 -/
def s_okp (S : St) : Prop := ∀ i, i < s_sh S → 1 ≤ pN S i ∧ pN S i ≤ 5 ∧ s_pc S i = nI (pN S i)
theorem nI_min {x y : Nat} (hx : x < 1000000) (hy : y < 1000000) : (if nI y < nI x then nI y else nI x) = nI (min x y) := by
  by_cases h : y < x
  · rw [if_pos ((nI_ltI (by omega) (by omega)).mpr h), Nat.min_eq_right (by omega)]
  · rw [if_neg (fun q => h ((nI_ltI (by omega) (by omega)).mp q)), Nat.min_eq_left (by omega)]
/-- how far a ship hears, with so many phrases -/
def s_to (S : St) (i q : Nat) : Nat := min (s_n S) (pf (s_off S) (s_at S i) (s_n S) + q)
theorem s_to_le (S : St) (i q : Nat) : s_to S i q ≤ s_n S := Nat.min_le_left _ _
theorem s_to_ge (S : St) (i q : Nat) : pf (s_off S) (s_at S i) (s_n S) ≤ s_to S i q := by unfold s_to; have := pf_le (s_off S) (s_at S i) (s_n S); omega
/-- ship i has heard d phrases from its place on -/
def S_hear (S : St) (i d : Nat) : St := mkS (s_off S) (s_key S) (s_val S) (s_sto S) (s_n S) (s_nx S) (s_dr S) (s_hr S) (s_sc S) (s_on S) (s_said S) (s_sh S) (s_pc S) (if d = 0 then s_at S else upd (s_at S) i (s_off S (pf (s_off S) (s_at S i) (s_n S) + d - 1) + 1)) (upd (s_hd S) i (s_hd S i + nI d)) (s_ms S) (va_up (s_kn S) i (hk (s_key S) (s_val S) (pf (s_off S) (s_at S i) (s_n S)) (s_kn S i) d))
theorem upd_self (f : Nat → Int32) (i : Nat) : upd f i (f i) = f := by
  funext j
  unfold upd
  split
  · rename_i h; rw [h]
  · rfl
theorem upd_upd (f : Nat → Int32) (i : Nat) (x y : Int32) : upd (upd f i x) i y = upd f i y := by
  funext j
  unfold upd
  split <;> rfl
theorem upd_at (f : Nat → Int32) (i : Nat) (x : Int32) : upd f i x i = x := by simp [upd]
theorem vup_self {α : Type} (f : Nat → α) (i : Nat) : va_up f i (f i) = f := by
  funext j
  unfold va_up
  split
  · rename_i h; rw [h]
  · rfl
theorem vup_at {α : Type} (f : Nat → α) (i : Nat) (x : α) : va_up f i x i = x := by simp [va_up]
theorem S_hear_0 (S : St) (i : Nat) : S_hear S i 0 = S := by
  unfold S_hear
  rw [show hk (s_key S) (s_val S) (pf (s_off S) (s_at S i) (s_n S)) (s_kn S i) 0 = s_kn S i from rfl, vup_self, nI_0, Int32.add_zero, upd_self]
  rfl
theorem hear_kn {S : St} {i d fr : Nat} : va_up (va_up (s_kn S) i (hk (s_key S) (s_val S) fr (s_kn S i) d)) i (upd (va_up (s_kn S) i (hk (s_key S) (s_val S) fr (s_kn S i) d) i) (s_key S (fr + d)).toNatClampNeg (s_val S (fr + d))) = va_up (s_kn S) i (hk (s_key S) (s_val S) fr (s_kn S i) (d + 1)) := by
  rw [vup_at, bx_uu]
  rfl
theorem hear_at {S : St} {i d fr : Nat} : upd (if d = 0 then s_at S else upd (s_at S) i (s_off S (fr + d - 1) + 1)) i (s_off S (fr + d) + 1) = if d + 1 = 0 then s_at S else upd (s_at S) i (s_off S (fr + (d + 1) - 1) + 1) := by
  rw [if_neg (Nat.succ_ne_zero d), show fr + (d + 1) - 1 = fr + d by omega]
  split
  · rfl
  · rw [upd_upd]
theorem hear_hd {S : St} {i d : Nat} : upd (upd (s_hd S) i (s_hd S i + nI d)) i (upd (s_hd S) i (s_hd S i + nI d) i + 1) = upd (s_hd S) i (s_hd S i + nI (d + 1)) := by
  rw [upd_upd, upd_at, Int32.add_assoc, nI_1]
/-- hours going by: the ships hear one behind the other -/
def s_dh (T : St) (h i : Nat) : Nat := s_to T i (mhN T h (pN T i)) - pf (s_off T) (s_at T i) (s_n T)
def S_ps (S : St) (h : Nat) : Nat → St
  | 0 => S
  | i + 1 => S_hear (S_ps S h i) i (s_dh (S_ps S h i) h i)
def s_ph (S : St) (h : Nat) : Nat → Nat
  | 0 => 0
  | i + 1 => s_ph S h i + s_dh (S_ps S h i) h i
theorem S_ps_keep (S : St) (h : Nat) : ∀ i, s_off (S_ps S h i) = s_off S ∧ s_key (S_ps S h i) = s_key S ∧ s_n (S_ps S h i) = s_n S ∧ s_sh (S_ps S h i) = s_sh S ∧ s_pc (S_ps S h i) = s_pc S ∧ s_on (S_ps S h i) = s_on S ∧ s_val (S_ps S h i) = s_val S := by
  intro i
  induction i with
  | zero => exact ⟨rfl, rfl, rfl, rfl, rfl, rfl, rfl⟩
  | succ i ih => exact ih
theorem s_dh_le (T : St) (h i : Nat) : s_dh T h i ≤ s_n T := by unfold s_dh; have := s_to_le T i (mhN T h (pN T i)); omega
theorem s_ph_le (S : St) (h : Nat) : ∀ i, s_ph S h i ≤ i * s_n S := by
  intro i
  induction i with
  | zero => exact Nat.zero_le _
  | succ i ih =>
    have h1 := s_dh_le (S_ps S h i) h i
    rw [(S_ps_keep S h i).2.2.1] at h1
    unfold s_ph
    rw [Nat.succ_mul]
    omega
/-- in how many hours a ship's lag is 0 -/
def s_un (S : St) (i : Nat) : Int32 := if s_lag S i = 0 then 0 else if s_on S = 0 then nI ((s_lag S i + pN S i - 1) / pN S i) else -1
theorem s_lag_le (S : St) (i : Nat) : s_lag S i ≤ s_n S := Nat.sub_le _ _
theorem ceil_is {x q h : Nat} (hq : 0 < q) (h1 : x ≤ h * q) (h2 : ∀ g, g < h → g * q < x) : (x + q - 1) / q = h := by
  cases h with
  | zero =>
    have : x = 0 := by omega
    subst this
    exact Nat.div_eq_of_lt (by omega)
  | succ h =>
    have h3 := h2 h (by omega)
    refine Nat.div_eq_of_lt_le ?_ ?_
    · rw [Nat.succ_mul]; omega
    · show x + q - 1 < (h + 1 + 1) * q
      rw [Nat.succ_mul]; omega
theorem s_un_hit {S : St} {i h : Nat} (hq : 1 ≤ pN S i) (h1 : s_lag S i ≤ mhN S h (pN S i)) (h2 : ∀ g, g < h → mhN S g (pN S i) < s_lag S i) : s_un S i = nI h := by
  unfold s_un
  unfold mhN at h1 h2
  by_cases ho : s_on S = 0
  · simp only [ho, if_true] at h1 h2 ⊢
    by_cases hl : s_lag S i = 0
    · have : h = 0 := by
        cases h with
        | zero => rfl
        | succ h => have := h2 0 (by omega); omega
      rw [if_pos hl, this]
      rfl
    · rw [if_neg hl, ceil_is (by omega) h1 h2]
  · simp only [ho, if_false] at h1 h2 ⊢
    have hl : s_lag S i = 0 := by omega
    have : h = 0 := by
      cases h with
      | zero => rfl
      | succ h => have := h2 0 (by omega); omega
    rw [if_pos hl, this]
    rfl
theorem s_un_none {S : St} {i : Nat} (hn : s_n S ≤ 48) (hq : 1 ≤ pN S i) (h2 : ∀ g, g < 61 → mhN S g (pN S i) < s_lag S i) : s_un S i = -1 := by
  unfold s_un
  unfold mhN at h2
  have hll := s_lag_le S i
  by_cases ho : s_on S = 0
  · simp only [ho, if_true] at h2 ⊢
    have := h2 60 (by omega)
    omega
  · simp only [ho, if_false] at h2 ⊢
    have := h2 0 (by omega)
    rw [if_neg (by omega)]
def s_pw (S : St) (i h : Nat) : Int32 := if s_lag S i = 0 then 1 else if s_on S = 0 then (if 5 < (s_lag S i + h - 1) / h then -1 else nI ((s_lag S i + h - 1) / h)) else -1
theorem s_pw_hit {S : St} {i h q : Nat} (hh : 1 ≤ h) (hq1 : 1 ≤ q) (hq5 : q ≤ 5) (h1 : s_lag S i ≤ mhN S h q) (h2 : ∀ g, 1 ≤ g → g < q → mhN S h g < s_lag S i) : s_pw S i h = nI q := by
  unfold s_pw
  unfold mhN at h1 h2
  by_cases ho : s_on S = 0
  · simp only [ho, if_true] at h1 h2 ⊢
    by_cases hl : s_lag S i = 0
    · have : q = 1 := by
        by_cases hq : q = 1
        · exact hq
        · have := h2 1 (by omega) (by omega); omega
      rw [if_pos hl, this]
      rfl
    · have hc : (s_lag S i + h - 1) / h = q := ceil_is (by omega) (by rw [Nat.mul_comm]; exact h1) (fun g hg => by
        by_cases hg0 : g = 0
        · subst hg0; omega
        · rw [Nat.mul_comm]; exact h2 g (by omega) hg)
      rw [if_neg hl, hc, if_neg (by omega)]
  · simp only [ho, if_false] at h1 h2 ⊢
    have hl : s_lag S i = 0 := by omega
    have : q = 1 := by
      by_cases hq : q = 1
      · exact hq
      · have := h2 1 (by omega) (by omega); omega
    rw [if_pos hl, this]
    rfl
theorem s_pw_none {S : St} {i h : Nat} (hh : 1 ≤ h) (h2 : ∀ g, 1 ≤ g → g < 6 → mhN S h g < s_lag S i) : s_pw S i h = -1 := by
  unfold s_pw
  unfold mhN at h2
  by_cases ho : s_on S = 0
  · simp only [ho, if_true] at h2 ⊢
    have h3 := h2 5 (by omega) (by omega)
    rw [if_neg (by omega), if_pos]
    rw [Nat.lt_div_iff_mul_lt (by omega), Nat.mul_comm]
    omega
  · simp only [ho, if_false] at h2 ⊢
    have := h2 1 (by omega) (by omega)
    rw [if_neg (by omega)]
/-- in how many keys a ship errs -/
def s_kv (S : St) (i fr to : Nat) (c : Nat) : Int32 := match lpO (s_key S) (nI c) fr to with | none => s_kn S i c | some j => s_val S j
def s_er (S : St) (i fr to : Nat) : Nat → Nat
  | 0 => 0
  | c + 1 => s_er S i fr to c + (if s_kv S i fr to c = s_wv S (nI c) then 0 else 1)
theorem s_er_1 {S : St} {i fr to c : Nat} (h : ¬ s_kv S i fr to c = s_wv S (nI c)) : s_er S i fr to (c + 1) = s_er S i fr to c + 1 := by show s_er S i fr to c + _ = _; rw [if_neg h]
theorem s_er_0 {S : St} {i fr to c : Nat} (h : s_kv S i fr to c = s_wv S (nI c)) : s_er S i fr to (c + 1) = s_er S i fr to c := by show s_er S i fr to c + _ = _; rw [if_pos h]; rfl
theorem s_er_le (S : St) (i fr to : Nat) : ∀ c, s_er S i fr to c ≤ c := by
  intro c
  induction c with
  | zero => exact Nat.le_refl _
  | succ c ih => unfold s_er; split <;> omega
abbrev s_ea (S : St) (i q : Nat) : Nat := s_er S i (pf (s_off S) (s_at S i) (s_n S)) (s_to S i q) 10
/-- the ship that lags the most -/
def s_fb (S : St) : Nat → Option Nat
  | 0 => none
  | i + 1 => match s_fb S i with
    | none => some i
    | some b => if s_lag S b < s_lag S i then some i else some b
def s_gl (S : St) (i : Nat) : Int32 := match s_fb S i with | none => -1 | some b => nI (s_lag S b)
theorem s_fb_1 {S : St} {i : Nat} (hn : s_n S ≤ 48) (h : s_gl S i < nI (s_lag S i)) : s_fb S (i + 1) = some i := by
  unfold s_gl at h
  unfold s_fb
  cases hb : s_fb S i with
  | none => rfl
  | some b =>
    rw [hb] at h
    have h1 := s_lag_le S b
    have h2 := s_lag_le S i
    have h3 : s_lag S b < s_lag S i := (nI_ltI (by omega) (by omega)).mp h
    show (if _ then _ else _) = _
    rw [if_pos h3]
theorem s_fb_0 {S : St} {i : Nat} (hn : s_n S ≤ 48) (h : ¬ s_gl S i < nI (s_lag S i)) : s_fb S (i + 1) = s_fb S i := by
  unfold s_gl at h
  rw [s_fb]
  have h2 := s_lag_le S i
  cases hb : s_fb S i with
  | none =>
    rw [hb] at h
    refine absurd ?_ h
    show (-1 : Int32) < nI (s_lag S i)
    rw [Int32.lt_iff_toInt_lt, nI_toInt (by omega)]
    have : (-1 : Int32).toInt = -1 := rfl
    omega
  | some b =>
    rw [hb] at h
    have h1 := s_lag_le S b
    have h3 : ¬ s_lag S b < s_lag S i := fun q => h ((nI_ltI (by omega) (by omega)).mpr q)
    show (if _ then _ else _) = _
    rw [if_neg h3]
theorem s_gl_1 {S : St} {i : Nat} (hb : s_fb S (i + 1) = some i) : s_gl S (i + 1) = nI (s_lag S i) := by unfold s_gl; rw [hb]
theorem s_gl_0 {S : St} {i : Nat} (hb : s_fb S (i + 1) = s_fb S i) : s_gl S (i + 1) = s_gl S i := by unfold s_gl; rw [hb]
def s_sl (S : St) : Nat → Nat
  | 0 => 0
  | i + 1 => s_sl S i + s_lag S i
theorem s_sl_le {S : St} (hn : s_n S ≤ 48) : ∀ i, s_sl S i ≤ 48 * i := by
  intro i
  induction i with
  | zero => exact Nat.le_refl _
  | succ i ih => unfold s_sl; have := s_lag_le S i; omega
def s_ml (S : St) : UInt64 := if s_sh S = 0 then FP.dconst0 else FP.ddiv (FP.i2d (nI (s_sl S (s_sh S)))) (FP.i2d (nI (s_sh S)))
def s_wc (S : St) : Nat := cm (s_cm S) 0 (s_n S)
def s_wm (S : St) (i : Nat) : Nat := cm (s_cm S) (pf (s_off S) (s_at S i) (s_n S)) (s_n S)
def mx (d : Int64) (x : Int32) : Int64 := d * 31 + x.toInt64
def dKeys (S : St) (d : Int64) : Nat → Int64
  | 0 => d
  | c + 1 => mx (mx (mx (dKeys S d c) (s_lo S (nI c))) (s_wv S (nI c))) (nI (cnt (s_key S) (nI c) (s_n S)))
def dStorms (S : St) (d : Int64) : Nat → Int64
  | 0 => d
  | c + 1 => mx (mx (dStorms S d c) (s_said S c)) (nI (cnt (s_sto S) (nI c) (s_n S)))
def dShips (S : St) (d : Int64) : Nat → Int64
  | 0 => d
  | i + 1 => mx (mx (mx (mx (mx (mx (mx (dShips S d i) (s_at S i)) (nI (s_lag S i))) (s_hd S i)) (s_ms S i)) (nI (s_ea S i 0))) (s_un S i)) (nI (s_wm S i))
def s_first (S : St) : Int32 := if s_n S = 0 then -1 else s_off S 0
def s_d0 (S : St) : Int64 := mx (mx (mx (mx (mx (mx (mx (mx (mx (mx 1787 (s_hr S)) (nI (s_n S))) (s_nx S)) (s_first S)) (s_dr S)) (nI (s_sc S))) (if s_on S = 0 then 0 else 1)) (nI (s_sh S))) (oI (s_fb S (s_sh S)))) (nI (s_wc S))
def s_dg (S : St) : Int64 := dShips S (dStorms S (dKeys S (s_d0 S) 10) (s_sc S)) (s_sh S)
end
section
theorem mkU_ge {g mk : Nat → Int32} {n i : Nat} (h : ¬ i < n) : mkU g mk n i = mk i := by simp [mkU, h]
theorem S_spk_0 {S T : St} {k v : Int32} (h1 : S_room S = T) (h2 : s_on T = 0) (h3 : s_on T = s_on S) : S_spk S k v = S_app T k v (-1) := by
  unfold S_spk S_cntd s_tag
  rw [h1, ← h3, if_pos h2, if_pos h2]
theorem S_spk_1 {S T : St} {k v : Int32} (h1 : S_room S = T) (h2 : ¬ s_on T = 0) (h3 : s_on T = s_on S) (h4 : s_sc T = s_sc S) : S_spk S k v = S_app (S_said T (upd (s_said T) (s_sc T - 1) (s_said T (s_sc T - 1) + 1))) k v (nI (s_sc T - 1)) := by
  unfold S_spk S_cntd s_tag
  rw [h1, ← h3, ← h4, if_neg h2, if_neg h2]
theorem S_room_keep (S : St) : s_sc (S_room S) = s_sc S ∧ s_on (S_room S) = s_on S ∧ s_sh (S_room S) = s_sh S ∧ s_nx (S_room S) = s_nx S ∧ s_pc (S_room S) = s_pc S := by
  unfold S_room
  split <;> exact ⟨rfl, rfl, rfl, rfl, rfl⟩
theorem S_spk_keep (S : St) (k v : Int32) : s_sc (S_spk S k v) = s_sc S ∧ s_on (S_spk S k v) = s_on S ∧ s_sh (S_spk S k v) = s_sh S ∧ s_nx (S_spk S k v) = s_nx S + 1 ∧ s_n (S_spk S k v) = s_n (S_room S) + 1 ∧ s_pc (S_spk S k v) = s_pc S := by
  obtain ⟨h1, h2, h3, h4, h5⟩ := S_room_keep S
  have e : ∀ T : St, s_sc (S_cntd T) = s_sc T ∧ s_on (S_cntd T) = s_on T ∧ s_sh (S_cntd T) = s_sh T ∧ s_nx (S_cntd T) = s_nx T ∧ s_n (S_cntd T) = s_n T ∧ s_pc (S_cntd T) = s_pc T := by
    intro T
    unfold S_cntd
    split <;> exact ⟨rfl, rfl, rfl, rfl, rfl, rfl⟩
  obtain ⟨g1, g2, g3, g4, g5, g6⟩ := e (S_room S)
  refine ⟨g1.trans h1, g2.trans h2, g3.trans h3, ?_, ?_, g6.trans h5⟩
  · show s_nx (S_cntd (S_room S)) + 1 = _
    rw [g4, h4]
  · show s_n (S_cntd (S_room S)) + 1 = _
    rw [g5]
/-- what a replay says, one behind the other -/
def S_rp (S : St) (ks vs : Nat → Int32) : Nat → St
  | 0 => S
  | i + 1 => S_spk (S_rp S ks vs i) (ks i) (vs i)
def mk_rp (S : St) (ks vs mk : Nat → Int32) : Nat → (Nat → Int32)
  | 0 => mk
  | i + 1 => mk_spk (S_rp S ks vs i) (mk_rp S ks vs mk i)
theorem S_rp_congr {S : St} {ks vs ks' vs' mk : Nat → Int32} : ∀ n, (∀ i, i < n → ks i = ks' i ∧ vs i = vs' i) → S_rp S ks vs n = S_rp S ks' vs' n ∧ mk_rp S ks vs mk n = mk_rp S ks' vs' mk n := by
  intro n
  induction n with
  | zero => intro _; exact ⟨rfl, rfl⟩
  | succ n ih =>
    intro h
    obtain ⟨h1, h2⟩ := ih (fun i hi => h i (by omega))
    obtain ⟨h3, h4⟩ := h n (by omega)
    unfold S_rp mk_rp
    rw [h1, h2, h3, h4]
    exact ⟨rfl, rfl⟩
theorem S_rp_keep (S : St) (hn : s_n S ≤ 48) (ks vs : Nat → Int32) : ∀ i, s_sc (S_rp S ks vs i) = s_sc S ∧ s_on (S_rp S ks vs i) = s_on S ∧ s_sh (S_rp S ks vs i) = s_sh S ∧ s_n (S_rp S ks vs i) ≤ 48 ∧ s_pc (S_rp S ks vs i) = s_pc S := by
  intro i
  induction i with
  | zero => exact ⟨rfl, rfl, rfl, hn, rfl⟩
  | succ i ih =>
    obtain ⟨h1, h2, h3, h4, h5⟩ := ih
    obtain ⟨g1, g2, g3, g4, g5, g6⟩ := S_spk_keep (S_rp S ks vs i) (ks i) (vs i)
    have := S_room_n h4
    refine ⟨g1.trans h1, g2.trans h2, g3.trans h3, ?_, g6.trans h5⟩
    show s_n (S_spk (S_rp S ks vs i) (ks i) (vs i)) ≤ 48
    omega
abbrev s_rk (S : St) (x : Int32) : Nat → Int32 := flF (s_key S) (s_sto S) x (fun _ => 0) (s_n S)
abbrev s_rv (S : St) (x : Int32) : Nat → Int32 := flF (s_val S) (s_sto S) x (fun _ => 0) (s_n S)
def S_rpl (S : St) (x : Int32) : St := S_rp S (s_rk S x) (s_rv S x) (cnt (s_sto S) x (s_n S))
def mk_rpl (S : St) (x : Int32) (mk : Nat → Int32) : Nat → Int32 := mk_rp S (s_rk S x) (s_rv S x) mk (cnt (s_sto S) x (s_n S))
theorem S_rpl_of (S : St) (x : Int32) (g g' mk : Nat → Int32) : S_rp S (flF (s_key S) (s_sto S) x g (s_n S)) (flF (s_val S) (s_sto S) x g' (s_n S)) (cnt (s_sto S) x (s_n S)) = S_rpl S x ∧ mk_rp S (flF (s_key S) (s_sto S) x g (s_n S)) (flF (s_val S) (s_sto S) x g' (s_n S)) mk (cnt (s_sto S) x (s_n S)) = mk_rpl S x mk :=
  S_rp_congr _ (fun i hi => ⟨flF_eq _ _ _ _ _ _ _ hi, flF_eq _ _ _ _ _ _ _ hi⟩)
section GE3
variable {p : Program} {l : Launch} {e : Env} {R : Room} {s : State} {m : MethodId} {args : Array Value} {below : List Frame} {meth : Method} {c : Code} {H : Heap} {locs : List Loc} {cells slots : Nat} {Q : State → Prop}
variable {E : gE} {A : Nat → Prop} {ws ws' : va_W} {y : MethodName} {wl wl' : List Cond} {rm : Room} {av : List Value} {mc ms : Nat} {cc bytes : ByteArray} {maxL nL : Nat} {ret : Option FieldType} {Ts : List Cond} {own : String}
variable {pc : Nat} {ls : Array Slot} {rest : List Value} {index n : Nat} {Cn : String} {b : Nat} {As st0 : List Value} {host : String}
abbrev gXQr (E : gE) (A : Nat → Prop) (ok : Prop) (r : Nat) (ws' : va_W) : Array Value → State → Outcome → State → Prop := va_Qr (S := Unit) (fun _ => ok) (fun _ ra t => ra = r ∧ gB E A ws' t) A
def gXr (l : Launch) (E : gE) (y : MethodName) (wl : List Cond) (rm : Room) (ws : va_W) (av : List Value) (ok : Prop) (r : Nat) (ws' : va_W) (bad : String → Prop) (mc ms : Nat) : Prop := ∀ sz : Nat, vx_Met l y wl rm (gP E ws sz av) (gXQr E (va_A ws sz) ok r ws') (gXC E (va_A ws sz) bad ws) mc ms (va_A ws sz)
theorem gXr.of {ty : FieldType} {ok : Prop} {r : Nat} {bad : String → Prop} (hy : plainName y.cls = true) (hw : wl = Cond.code y cc maxL (some ty) :: wl') (hlen : (lg_sl av).length ≤ maxL)
    (body : ∀ p e s m args below meth c A, gCx p s m args meth c cc maxL wl y.cls (some ty) E A → (∀ x ∈ c.exceptionTable.toList, False) → ∀ ls : Array Slot, lv_has ls maxL (lv_args 0 av) → gO E A s ws s.heap [] → W p l e rm s m args below meth c s.heap [] 0 0 (vx_MQ below (gXQr E A ok r ws') (gXC E A bad ws) args s mc ms A) (F0 m 0 ls [])) : gXr l E y wl rm ws av ok r ws' bad mc ms := by
  intro sz
  refine vx_ofW (cc := cc) (maxL := maxL) (ret := some ty) hy hw ?_
  intro p e s m args below meth c s₁ B hml ht hv
  obtain ⟨rfl, hsz, hP, eo, hD0, hZ⟩ := hv
  have hts := atoms_spec (ws := wl) B.pre
  have hown : s.vm.findClass y.cls = some m.cls := findClass_of_methodNamed B.named
  subst hsz
  have hl := lv_entry av (n := maxL) hlen
  rw [lg_entry_eq]
  exact body p e s m av.toArray below meth c (va_A ws s.heap.size) ⟨B.exec, B.bytes, hml, hown, hts, B.returns, B.notSynchronized, eo, fun q h => Or.inr h, hZ⟩ ht _ hl ⟨hP, hD0.self (sz := s.heap.size), va_S.rf⟩
theorem gXRr {ty : FieldType} {r : Nat} {ok : Prop} {XC : String → State → State → Prop} (C : gCx p s m args meth c cc nL Ts own (some ty) E A) (hO : gO E A s ws' H locs) (hty : ∃ n, ty = .object n) (hok : ok) (hdg : decode cc pc = .ok (.areturn, 1)) (h1 : cells ≤ mc) (h2 : slots ≤ ms) : W p l e R s m args below meth c H locs cells slots (vx_MQ below (gXQr E A ok r ws') XC args s mc ms A) (F0 m pc ls [.ref r]) := by
  refine vx_ret (W.widen h1 h2 ?_)
  exact W.aret C.1 C.2.1 C.2.2.2.2.2.1 (Or.inl hty) (Or.inr ⟨r, rfl⟩) (fun t ht hW => ⟨⟨(), r, rfl, hok, rfl, by rw [ht]; exact hO.1, hO.2.1⟩, hO.2.2.F ht⟩) hO.2.2.2.2 hdg C.2.2.2.2.2.2.1
theorem gXcallr {S SX : Type} {post : S → Prop} {px : SX → Prop} {B : S → Nat → State → Prop} {BX : String → SX → State → Prop} {AX A0 A1 : Nat → Prop} {H0 : Heap} {a : Array Value} {free : Addr → Prop} (hr : vx_Run p l e R s m args below meth c H locs cells slots mc ms (F0 m pc ls st0) rest (va_Qr post B A1 a) (vx_X px BX AX) free) (hS : va_S A0 H0 H locs) (hA : ∀ q, q < H.size → A1 q → A0 q) (hf : ∀ q, free q → A0 q) (hAX : ∀ q, q < H.size → AX q → A0 q)
    (kx : ∀ (E : String) (ce : Cell) (q9 : Addr) (u : SX) (t : State) (H1 : Heap) (locs1 : List Loc), t.heap = H1 → s.vm.Alike t.vm → px u → BX E u t → H.size ≤ H1.size → (∀ q : Nat, q < H.size → ¬ AX q → H1[q]? = H[q]?) → va_S A0 H0 H1 locs1 → H1[q9]? = some ce → ce.vm = .none → s.vm.findClass E = some ce.cls → vx_W p l e R s m args below meth c H1 locs1 (cells + mc) (slots + ms) Q (F0 m pc ls rest) q9)
    (kk : ∀ (u : S) (ra : Nat) (t : State) (H1 : Heap) (locs1 : List Loc), t.heap = H1 → s.vm.Alike t.vm → post u → B u ra t → H.size ≤ H1.size → (∀ q : Nat, q < H.size → ¬ A1 q → H1[q]? = H[q]?) → va_S A0 H0 H1 locs1 → W p l e R s m args below meth c H1 locs1 (cells + mc) (slots + ms) Q (F0 m (pc + 3) ls (.ref ra :: rest))) : W p l e R s m args below meth c H locs cells slots Q (F0 m pc ls st0) := by
  intro T hT X
  rcases hr T hT X with ⟨v, st₀, t, T', L, h0, X', hL, e1, e2, ⟨⟨u, ra, hv, hp, hb⟩, hF⟩, st⟩ | ⟨q, st₀, t, T', L, E, ce, h0, X', hL, e1, e2, ⟨u, hp, hb, hF⟩, hce, hcv, hcl, st⟩
  · cases hv
    obtain ⟨k1, k2, k3⟩ := vx_keep h0 e1 hS hA hf hL hF
    obtain ⟨t2, a1, b1⟩ := kk u ra t T'.heap (locs ++ L) e1.symm (by rw [← e2]; exact X'.warmed.alike) hp hb k1 k2 k3 T' rfl X'
    exact ⟨t2, st t2 a1, b1⟩
  · obtain ⟨k1, k2, k3⟩ := vx_keep h0 e1 hS hAX hf hL hF
    obtain ⟨t2, a1, b1⟩ := kx E ce q u t T'.heap (locs ++ L) e1.symm (by rw [← e2]; exact X'.warmed.alike) hp hb k1 k2 k3 (by rw [e1]; exact hce) hcv hcl T' rfl X'
    exact ⟨t2, st.trans a1, b1⟩
theorem gXCall_r {r : Nat} {ok : Prop} {bad : String → Prop} (C : gCx p s m args meth c cc nL Ts own ret E A) (hO : gO E A s ws H locs) (hM : gXr l E y wl rm ws (.ref b :: As) ok r ws' bad mc ms) {ret1 : Option FieldType} (cw : CallW R s args own Cn index y bytes maxL ret1 wl rm mc ms n) (hrc : ∃ cell : Cell, H[b]? = some cell ∧ cell.vm.isStatics = false ∧ s.vm.findClass Cn = some cell.cls) (hn : As.length = n) (hsize : ls.size = nL) (hst : st0 = As.reverse ++ .ref b :: rest) (hW : (rest.map fun v => v.category).sum ≤ 8) (hdg : decode cc pc = .ok (.invokevirtual index, 3)) (hf : cells + mc ≤ R.cells ∧ slots + ms ≤ R.slots)
    (kx : ∀ (E0 : String) (ce : Cell) (q9 : Addr) (H1 : Heap) (locs1 : List Loc), gO E A s ws H1 locs1 → H1[q9]? = some ce → ce.vm = .none → s.vm.findClass E0 = some ce.cls → bad E0 → vx_W p l e R s m args below meth c H1 locs1 (cells + mc) (slots + ms) Q (F0 m pc ls rest) q9)
    (kk : ∀ (H1 : Heap) (locs1 : List Loc), gO E A s ws' H1 locs1 → ok → W p l e R s m args below meth c H1 locs1 (cells + mc) (slots + ms) Q (F0 m (pc + 3) ls (.ref r :: rest))) : W p l e R s m args below meth c H locs cells slots Q (F0 m pc ls st0) := by
  refine gXcallr (vx_runV (As := As) (rest := rest) C.fix (hM H.size) cw ⟨gP_blind, hrc, fun U hU hW => gPre C hO hU hW _⟩ rfl hn hsize hst (lv_room hW) hdg hf) hO.2.2 (fun q _ h => gO.free C.2.2.2.2.2.2.2.2.1 hO q h) (gO.free C.2.2.2.2.2.2.2.2.1 hO) (fun q _ h => gO.free C.2.2.2.2.2.2.2.2.1 hO q h) (fun E0 ce q9 u t H1 locs1 ht hvm hpx hBX hz1 hk1 hS hce hcv hcl => ?_) (fun u ra t H1 locs1 ht hvm hw hB hz1 hk1 hS => ?_)
  · exact kx E0 ce q9 H1 locs1 (gBack C hO ht hBX.2 hS) hce hcv hcl hBX.1
  · obtain ⟨hra, hB⟩ := hB
    subst hra
    exact kk H1 locs1 (gBack C hO ht hB hS) hw
end GE3
end
section
set_option maxHeartbeats 4000000 in
set_option maxRecDepth 100000 in
theorem c_X2_isKey (l : Launch) (E : gE) (a : Nat → Nat) (S : St) (mk rk rv : Nat → Int32) (F : va_W) (k : Int32) : gMi l E yX2_isKey wsX2_isKey ({ frames := 0, cells := 0, slots := 0, locals := 0 }) (xW E a S mk rk rv ++ F) [.int k] (if okKey k then 1 else 0) (xW E a S mk rk rv ++ F) 0 0 := by
  refine gMi.of (cc := cX2_isKey) (maxL := 1) (ty := .boolean) (by decide) rfl (Nat.le_of_ble_eq_true rfl) ?_
  intro p e s m args below meth c A C ls hl hO
  have hl : lv_has ls 1 [(0, .int k)] := hl
  refine lv_iload_n C.1 C.2.1 dX2_isKey_0 rfl (lv_at hl 0 rfl) ?_
  refine lv_if_lt (tgt := 14) C.1 C.2.1 dX2_isKey_1 (by decide) (fun c_1 => ?_) (fun c_1 => ?_)
  · have hz9 : ¬ okKey k := fun g => g.1 c_1
    refine lv_iconst (v := 0) C.1 C.2.1 dX2_isKey_14 (by decide) ?_
    exact gRi C hO rfl (by first | exact ((if_pos hz9).symm) | exact ((if_neg hz9).symm)) dX2_isKey_15 (Nat.le_of_ble_eq_true rfl) (Nat.le_of_ble_eq_true rfl)
  · refine lv_iload_n C.1 C.2.1 dX2_isKey_4 rfl (lv_at hl 0 rfl) ?_
    refine lv_bipush (v := nI 10) C.1 C.2.1 dX2_isKey_5 (by decide) ?_
    refine gGeI (tgt := 14) C.1 C.2.1 dX2_isKey_7 (by decide) (fun c_2 => ?_) (fun c_2 => ?_)
    · have hz9 : ¬ okKey k := fun g => c_2 g.2
      refine lv_iconst (v := 0) C.1 C.2.1 dX2_isKey_14 (by decide) ?_
      exact gRi C hO rfl (by first | exact ((if_pos hz9).symm) | exact ((if_neg hz9).symm)) dX2_isKey_15 (Nat.le_of_ble_eq_true rfl) (Nat.le_of_ble_eq_true rfl)
    · have hz9 : okKey k := ⟨c_1, c_2⟩
      refine lv_iconst (v := 1) C.1 C.2.1 dX2_isKey_10 (by decide) ?_
      refine lv_goto (tgt := 15) C.1 C.2.1 dX2_isKey_11 (by decide) ?_
      exact gRi C hO rfl (by first | exact ((if_pos hz9).symm) | exact ((if_neg hz9).symm)) dX2_isKey_15 (Nat.le_of_ble_eq_true rfl) (Nat.le_of_ble_eq_true rfl)

set_option maxHeartbeats 4000000 in
set_option maxRecDepth 100000 in
theorem c_X2_checkKey (l : Launch) (E : gE) (a : Nat → Nat) (S : St) (mk rk rv : Nat → Int32) (F : va_W) (k : Int32) (hst : l.stackTraces = false) : gXv l E yX2_checkKey wsX2_checkKey ({ frames := 6, cells := 1, slots := 6, locals := 82 }) (xW E a S mk rk rv ++ F) [.int k] (okKey k) (xW E a S mk rk rv ++ F) (fun En => En = xIOE ∧ ¬ okKey k) 1 6 := by
  refine gXv.of (cc := cX2_checkKey) (maxL := 1) (by decide) rfl (Nat.le_of_ble_eq_true rfl) ?_
  intro p e s m args below meth c A C ht ls hl hO
  have hl : lv_has ls 1 [(0, .int k)] := hl
  have gwIOE : ∀ w ∈ (vx_atS RX2 245 "java/lang/IndexOutOfBoundsException" ["java/lang/RuntimeException", "java/lang/Exception"]).filter goodWord, w ∈ wsX2_checkKey := by decide +kernel
  have gNIOE : ∀ w ∈ (vx_atS RX2 245 "java/lang/IndexOutOfBoundsException" ["java/lang/RuntimeException", "java/lang/Exception"]).filter (fun w => !goodWord w), w ∈ eNw := by decide +kernel
  refine lv_iload_n C.1 C.2.1 dX2_checkKey_0 rfl (lv_at hl 0 rfl) ?_
  refine gCallS_i (As := [.int k]) (rest := []) C hO (c_X2_isKey l E a S mk rk rv F k) (cwS 1 C.2.2.2.2.1 gX2_checkKey_X2_isKey rfl rfl rfl (by decide +kernel) ⟨(Nat.le_of_ble_eq_true rfl), (Nat.le_of_ble_eq_true rfl)⟩) rfl hl.1 rfl (Nat.le_of_ble_eq_true rfl) dX2_checkKey_1 ⟨(Nat.le_of_ble_eq_true rfl), (Nat.le_of_ble_eq_true rfl)⟩ (fun H locs hO => ?_)
  refine lv_if_ne (tgt := 17) C.1 C.2.1 dX2_checkKey_4 (by decide) (fun c_1 => ?_) (fun c_1 => ?_)
  · have hz := bT c_1
    exact gXRv C hO hz dX2_checkKey_17 (Nat.le_of_ble_eq_true rfl) (Nat.le_of_ble_eq_true rfl)
  · have hz := bF c_1
    exact gThrow (E0 := "java/lang/IndexOutOfBoundsException") (text := "key is not 0 to 9") C hst hO ht hl.1 (by decide +kernel) (C.2.2.2.2.1 (.classLink RX2 243 "java/lang/IndexOutOfBoundsException") (by decide +kernel)) (C.2.2.2.2.1 (.initialized "java/lang/IndexOutOfBoundsException") (by decide +kernel)) (C.2.2.2.2.2.2.2.1.2.2.1 (39, "key is not 0 to 9") (by decide +kernel)) (vx_hat (fun w hw => C.2.2.2.2.1 w (gwIOE w hw)) gNIOE (gNb C)) (by decide +kernel) (⟨rfl, hz⟩) dX2_checkKey_7 dX2_checkKey_10 dX2_checkKey_11 dX2_checkKey_13 dX2_checkKey_16 (Nat.le_of_ble_eq_true rfl) (Nat.le_of_ble_eq_true rfl) (Nat.le_of_ble_eq_true rfl) (Nat.le_of_ble_eq_true rfl) (Nat.le_of_ble_eq_true rfl) (Nat.le_of_ble_eq_true rfl) 

set_option maxHeartbeats 4000000 in
set_option maxRecDepth 100000 in
theorem c_X2_checkHours (l : Launch) (E : gE) (a : Nat → Nat) (S : St) (mk rk rv : Nat → Int32) (F : va_W) (h : Int32) (hst : l.stackTraces = false) : gXv l E yX2_checkHours wsX2_checkHours ({ frames := 6, cells := 1, slots := 6, locals := 82 }) (xW E a S mk rk rv ++ F) [.int h] (okHours h) (xW E a S mk rk rv ++ F) (fun En => En = xIAE ∧ ¬ okHours h) 1 6 := by
  refine gXv.of (cc := cX2_checkHours) (maxL := 1) (by decide) rfl (Nat.le_of_ble_eq_true rfl) ?_
  intro p e s m args below meth c A C ht ls hl hO
  have hl : lv_has ls 1 [(0, .int h)] := hl
  have gwIAE : ∀ w ∈ (vx_atS RX2 41 "java/lang/IllegalArgumentException" ["java/lang/RuntimeException", "java/lang/Exception"]).filter goodWord, w ∈ wsX2_checkHours := by decide +kernel
  have gNIAE : ∀ w ∈ (vx_atS RX2 41 "java/lang/IllegalArgumentException" ["java/lang/RuntimeException", "java/lang/Exception"]).filter (fun w => !goodWord w), w ∈ eNw := by decide +kernel
  refine lv_iload_n C.1 C.2.1 dX2_checkHours_0 rfl (lv_at hl 0 rfl) ?_
  refine lv_iconst (v := 1) C.1 C.2.1 dX2_checkHours_1 (by decide) ?_
  refine lv_icmp_lt (tgt := 11) C.1 C.2.1 dX2_checkHours_2 (by decide) (fun c_1 => ?_) (fun c_1 => ?_)
  · exact gThrow (E0 := "java/lang/IllegalArgumentException") (text := "hours is not 1 to 60") C hst hO ht hl.1 (by decide +kernel) (C.2.2.2.2.1 (.classLink RX2 37 "java/lang/IllegalArgumentException") (by decide +kernel)) (C.2.2.2.2.1 (.initialized "java/lang/IllegalArgumentException") (by decide +kernel)) (C.2.2.2.2.2.2.2.1.2.2.1 (246, "hours is not 1 to 60") (by decide +kernel)) (vx_hat (fun w hw => C.2.2.2.2.1 w (gwIAE w hw)) gNIAE (gNb C)) (by decide +kernel) (by first | exact ⟨rfl, fun g => g.1 c_1⟩ | exact ⟨rfl, fun g => g.2 c_2⟩) dX2_checkHours_11 dX2_checkHours_14 dX2_checkHours_15 dX2_checkHours_17 dX2_checkHours_20 (Nat.le_of_ble_eq_true rfl) (Nat.le_of_ble_eq_true rfl) (Nat.le_of_ble_eq_true rfl) (Nat.le_of_ble_eq_true rfl) (Nat.le_of_ble_eq_true rfl) (Nat.le_of_ble_eq_true rfl) 
  · refine lv_iload_n C.1 C.2.1 dX2_checkHours_5 rfl (lv_at hl 0 rfl) ?_
    refine lv_bipush (v := nI 60) C.1 C.2.1 dX2_checkHours_6 (by decide) ?_
    refine gLeI (tgt := 21) C.1 C.2.1 dX2_checkHours_8 (by decide) (fun c_2 => ?_) (fun c_2 => ?_)
    · exact gXRv C hO (⟨c_1, c_2⟩) dX2_checkHours_21 (Nat.le_of_ble_eq_true rfl) (Nat.le_of_ble_eq_true rfl)
    · exact gThrow (E0 := "java/lang/IllegalArgumentException") (text := "hours is not 1 to 60") C hst hO ht hl.1 (by decide +kernel) (C.2.2.2.2.1 (.classLink RX2 37 "java/lang/IllegalArgumentException") (by decide +kernel)) (C.2.2.2.2.1 (.initialized "java/lang/IllegalArgumentException") (by decide +kernel)) (C.2.2.2.2.2.2.2.1.2.2.1 (246, "hours is not 1 to 60") (by decide +kernel)) (vx_hat (fun w hw => C.2.2.2.2.1 w (gwIAE w hw)) gNIAE (gNb C)) (by decide +kernel) (by first | exact ⟨rfl, fun g => g.1 c_1⟩ | exact ⟨rfl, fun g => g.2 c_2⟩) dX2_checkHours_11 dX2_checkHours_14 dX2_checkHours_15 dX2_checkHours_17 dX2_checkHours_20 (Nat.le_of_ble_eq_true rfl) (Nat.le_of_ble_eq_true rfl) (Nat.le_of_ble_eq_true rfl) (Nat.le_of_ble_eq_true rfl) (Nat.le_of_ble_eq_true rfl) (Nat.le_of_ble_eq_true rfl) 

set_option maxHeartbeats 4000000 in
set_option maxRecDepth 100000 in
theorem c_X2_checkReachable (l : Launch) (E : gE) (a : Nat → Nat) (S : St) (mk rk rv : Nat → Int32) (F : va_W) (o : Int32) (hst : l.stackTraces = false) : gXv l E yX2_checkReachable wsX2_checkReachable ({ frames := 6, cells := 1, slots := 6, locals := 82 }) (xW E a S mk rk rv ++ F) [.ref (a 0), .int o] (okOff S o) (xW E a S mk rk rv ++ F) (fun En => En = xIAE ∧ ¬ okOff S o) 1 6 := by
  refine gXv.of (cc := cX2_checkReachable) (maxL := 2) (by decide) rfl (Nat.le_of_ble_eq_true rfl) ?_
  intro p e s m args below meth c A C ht ls hl hO
  have hl : lv_has ls 2 [(0, .ref (a 0)), (1, .int o)] := hl
  have iX0 : ∀ w ∈ u_ws RX0 TX0 8, w ∈ wsX2_checkReachable := by decide +kernel
  have iX2 : ∀ w ∈ u_ws RX2 TX2 9, w ∈ wsX2_checkReachable := by decide +kernel
  have w10 : Cond.fieldLink RX2 10 "ParrotLog" "log" "LParrotLog$Log;" ∈ wsX2_checkReachable := by decide +kernel
  have gwIAE : ∀ w ∈ (vx_atS RX2 41 "java/lang/IllegalArgumentException" ["java/lang/RuntimeException", "java/lang/Exception"]).filter goodWord, w ∈ wsX2_checkReachable := by decide +kernel
  have gNIAE : ∀ w ∈ (vx_atS RX2 41 "java/lang/IllegalArgumentException" ["java/lang/RuntimeException", "java/lang/Exception"]).filter (fun w => !goodWord w), w ∈ eNw := by decide +kernel
  refine lv_iload_n C.1 C.2.1 dX2_checkReachable_0 rfl (lv_at hl 1 rfl) ?_
  refine lv_if_lt (tgt := 15) C.1 C.2.1 dX2_checkReachable_1 (by decide) (fun c_1 => ?_) (fun c_1 => ?_)
  · exact gThrow (E0 := "java/lang/IllegalArgumentException") (text := "offset is not 0 to the next one") C hst hO ht hl.1 (by decide +kernel) (C.2.2.2.2.1 (.classLink RX2 37 "java/lang/IllegalArgumentException") (by decide +kernel)) (C.2.2.2.2.1 (.initialized "java/lang/IllegalArgumentException") (by decide +kernel)) (C.2.2.2.2.2.2.2.1.2.2.1 (248, "offset is not 0 to the next one") (by decide +kernel)) (vx_hat (fun w hw => C.2.2.2.2.1 w (gwIAE w hw)) gNIAE (gNb C)) (by decide +kernel) (by first | exact ⟨rfl, fun g => g.1 c_1⟩ | exact ⟨rfl, fun g => g.2 c_2⟩) dX2_checkReachable_15 dX2_checkReachable_18 dX2_checkReachable_19 dX2_checkReachable_21 dX2_checkReachable_24 (Nat.le_of_ble_eq_true rfl) (Nat.le_of_ble_eq_true rfl) (Nat.le_of_ble_eq_true rfl) (Nat.le_of_ble_eq_true rfl) (Nat.le_of_ble_eq_true rfl) (Nat.le_of_ble_eq_true rfl) 
  · refine lv_iload_n C.1 C.2.1 dX2_checkReachable_4 rfl (lv_at hl 1 rfl) ?_
    refine lv_aload_n C.1 C.2.1 dX2_checkReachable_5 rfl (lv_at hl 0 rfl) ?_
    refine gGet (v := .ref (a 1)) (ref := RX2) (Cn := RX2) (T := TX2) (N := 9) C iX2 hO 0 rfl rfl 0 (by decide) w10 (fun _ h9 => h9) rfl dX2_checkReachable_6 ?_
    refine gGetN (v := .int (s_nx S)) (ref := RX0) (Cn := RX0) (T := TX0) (N := 8) (host := RX2) C iX0 hO 1 rfl rfl 6 (by decide) (by decide +kernel) (fun _ h9 => h9) rfl dX2_checkReachable_9 ?_
    refine gLeI (tgt := 25) C.1 C.2.1 dX2_checkReachable_12 (by decide) (fun c_2 => ?_) (fun c_2 => ?_)
    · exact gXRv C hO (⟨c_1, c_2⟩) dX2_checkReachable_25 (Nat.le_of_ble_eq_true rfl) (Nat.le_of_ble_eq_true rfl)
    · exact gThrow (E0 := "java/lang/IllegalArgumentException") (text := "offset is not 0 to the next one") C hst hO ht hl.1 (by decide +kernel) (C.2.2.2.2.1 (.classLink RX2 37 "java/lang/IllegalArgumentException") (by decide +kernel)) (C.2.2.2.2.1 (.initialized "java/lang/IllegalArgumentException") (by decide +kernel)) (C.2.2.2.2.2.2.2.1.2.2.1 (248, "offset is not 0 to the next one") (by decide +kernel)) (vx_hat (fun w hw => C.2.2.2.2.1 w (gwIAE w hw)) gNIAE (gNb C)) (by decide +kernel) (by first | exact ⟨rfl, fun g => g.1 c_1⟩ | exact ⟨rfl, fun g => g.2 c_2⟩) dX2_checkReachable_15 dX2_checkReachable_18 dX2_checkReachable_19 dX2_checkReachable_21 dX2_checkReachable_24 (Nat.le_of_ble_eq_true rfl) (Nat.le_of_ble_eq_true rfl) (Nat.le_of_ble_eq_true rfl) (Nat.le_of_ble_eq_true rfl) (Nat.le_of_ble_eq_true rfl) (Nat.le_of_ble_eq_true rfl) 

set_option maxHeartbeats 4000000 in
set_option maxRecDepth 100000 in
theorem c_X2_checkStorm (l : Launch) (E : gE) (a : Nat → Nat) (S : St) (mk rk rv : Nat → Int32) (F : va_W) (x : Int32) (hst : l.stackTraces = false) : gXv l E yX2_checkStorm wsX2_checkStorm ({ frames := 6, cells := 1, slots := 6, locals := 82 }) (xW E a S mk rk rv ++ F) [.ref (a 0), .int x] (okStorm S x) (xW E a S mk rk rv ++ F) (fun En => En = xIOE ∧ ¬ okStorm S x) 1 6 := by
  refine gXv.of (cc := cX2_checkStorm) (maxL := 2) (by decide) rfl (Nat.le_of_ble_eq_true rfl) ?_
  intro p e s m args below meth c A C ht ls hl hO
  have hl : lv_has ls 2 [(0, .ref (a 0)), (1, .int x)] := hl
  have iX2 : ∀ w ∈ u_ws RX2 TX2 9, w ∈ wsX2_checkStorm := by decide +kernel
  have w59 : Cond.fieldLink RX2 59 "ParrotLog" "stormCount" "I" ∈ wsX2_checkStorm := by decide +kernel
  have gwIOE : ∀ w ∈ (vx_atS RX2 245 "java/lang/IndexOutOfBoundsException" ["java/lang/RuntimeException", "java/lang/Exception"]).filter goodWord, w ∈ wsX2_checkStorm := by decide +kernel
  have gNIOE : ∀ w ∈ (vx_atS RX2 245 "java/lang/IndexOutOfBoundsException" ["java/lang/RuntimeException", "java/lang/Exception"]).filter (fun w => !goodWord w), w ∈ eNw := by decide +kernel
  refine lv_iload_n C.1 C.2.1 dX2_checkStorm_0 rfl (lv_at hl 1 rfl) ?_
  refine lv_if_lt (tgt := 12) C.1 C.2.1 dX2_checkStorm_1 (by decide) (fun c_1 => ?_) (fun c_1 => ?_)
  · exact gThrow (E0 := "java/lang/IndexOutOfBoundsException") (text := "there is no such storm") C hst hO ht hl.1 (by decide +kernel) (C.2.2.2.2.1 (.classLink RX2 243 "java/lang/IndexOutOfBoundsException") (by decide +kernel)) (C.2.2.2.2.1 (.initialized "java/lang/IndexOutOfBoundsException") (by decide +kernel)) (C.2.2.2.2.2.2.2.1.2.2.1 (250, "there is no such storm") (by decide +kernel)) (vx_hat (fun w hw => C.2.2.2.2.1 w (gwIOE w hw)) gNIOE (gNb C)) (by decide +kernel) (by first | exact ⟨rfl, fun g => g.1 c_1⟩ | exact ⟨rfl, fun g => c_2 g.2⟩) dX2_checkStorm_12 dX2_checkStorm_15 dX2_checkStorm_16 dX2_checkStorm_18 dX2_checkStorm_21 (Nat.le_of_ble_eq_true rfl) (Nat.le_of_ble_eq_true rfl) (Nat.le_of_ble_eq_true rfl) (Nat.le_of_ble_eq_true rfl) (Nat.le_of_ble_eq_true rfl) (Nat.le_of_ble_eq_true rfl) 
  · refine lv_iload_n C.1 C.2.1 dX2_checkStorm_4 rfl (lv_at hl 1 rfl) ?_
    refine lv_aload_n C.1 C.2.1 dX2_checkStorm_5 rfl (lv_at hl 0 rfl) ?_
    refine gGet (v := .int (nI (s_sc S))) (ref := RX2) (Cn := RX2) (T := TX2) (N := 9) C iX2 hO 0 rfl rfl 6 (by decide) w59 (fun _ h9 => h9) rfl dX2_checkStorm_6 ?_
    refine lv_icmp_lt (tgt := 22) C.1 C.2.1 dX2_checkStorm_9 (by decide) (fun c_2 => ?_) (fun c_2 => ?_)
    · exact gXRv C hO (⟨c_1, c_2⟩) dX2_checkStorm_22 (Nat.le_of_ble_eq_true rfl) (Nat.le_of_ble_eq_true rfl)
    · exact gThrow (E0 := "java/lang/IndexOutOfBoundsException") (text := "there is no such storm") C hst hO ht hl.1 (by decide +kernel) (C.2.2.2.2.1 (.classLink RX2 243 "java/lang/IndexOutOfBoundsException") (by decide +kernel)) (C.2.2.2.2.1 (.initialized "java/lang/IndexOutOfBoundsException") (by decide +kernel)) (C.2.2.2.2.2.2.2.1.2.2.1 (250, "there is no such storm") (by decide +kernel)) (vx_hat (fun w hw => C.2.2.2.2.1 w (gwIOE w hw)) gNIOE (gNb C)) (by decide +kernel) (by first | exact ⟨rfl, fun g => g.1 c_1⟩ | exact ⟨rfl, fun g => c_2 g.2⟩) dX2_checkStorm_12 dX2_checkStorm_15 dX2_checkStorm_16 dX2_checkStorm_18 dX2_checkStorm_21 (Nat.le_of_ble_eq_true rfl) (Nat.le_of_ble_eq_true rfl) (Nat.le_of_ble_eq_true rfl) (Nat.le_of_ble_eq_true rfl) (Nat.le_of_ble_eq_true rfl) (Nat.le_of_ble_eq_true rfl) 

set_option maxHeartbeats 4000000 in
set_option maxRecDepth 100000 in
theorem c_X2_shipNumbered (l : Launch) (E : gE) (a : Nat → Nat) (S : St) (mk rk rv : Nat → Int32) (F : va_W) (x : Int32) (hst : l.stackTraces = false) (hsh : s_sh S ≤ 6) : gXr l E yX2_shipNumbered wsX2_shipNumbered ({ frames := 6, cells := 1, slots := 6, locals := 82 }) (xW E a S mk rk rv ++ F) [.ref (a 0), .int x] (okShip S x) (a (11 + x.toNatClampNeg)) (xW E a S mk rk rv ++ F) (fun En => En = xIOE ∧ ¬ okShip S x) 1 6 := by
  refine gXr.of (cc := cX2_shipNumbered) (maxL := 2) (ty := (.object "ParrotLog$Ship")) (by decide) rfl (Nat.le_of_ble_eq_true rfl) ?_
  intro p e s m args below meth c A C ht ls hl hO
  have hl : lv_has ls 2 [(0, .ref (a 0)), (1, .int x)] := hl
  have iX2 : ∀ w ∈ u_ws RX2 TX2 9, w ∈ wsX2_shipNumbered := by decide +kernel
  have w90 : Cond.fieldLink RX2 90 "ParrotLog" "shipCount" "I" ∈ wsX2_shipNumbered := by decide +kernel
  have w22 : Cond.fieldLink RX2 22 "ParrotLog" "fleet" "[LParrotLog$Ship;" ∈ wsX2_shipNumbered := by decide +kernel
  have gwIOE : ∀ w ∈ (vx_atS RX2 245 "java/lang/IndexOutOfBoundsException" ["java/lang/RuntimeException", "java/lang/Exception"]).filter goodWord, w ∈ wsX2_shipNumbered := by decide +kernel
  have gNIOE : ∀ w ∈ (vx_atS RX2 245 "java/lang/IndexOutOfBoundsException" ["java/lang/RuntimeException", "java/lang/Exception"]).filter (fun w => !goodWord w), w ∈ eNw := by decide +kernel
  refine lv_iload_n C.1 C.2.1 dX2_shipNumbered_0 rfl (lv_at hl 1 rfl) ?_
  refine lv_if_lt (tgt := 12) C.1 C.2.1 dX2_shipNumbered_1 (by decide) (fun c_1 => ?_) (fun c_1 => ?_)
  · exact gThrow (E0 := "java/lang/IndexOutOfBoundsException") (text := "there is no such ship") C hst hO ht hl.1 (by decide +kernel) (C.2.2.2.2.1 (.classLink RX2 243 "java/lang/IndexOutOfBoundsException") (by decide +kernel)) (C.2.2.2.2.1 (.initialized "java/lang/IndexOutOfBoundsException") (by decide +kernel)) (C.2.2.2.2.2.2.2.1.2.2.1 (252, "there is no such ship") (by decide +kernel)) (vx_hat (fun w hw => C.2.2.2.2.1 w (gwIOE w hw)) gNIOE (gNb C)) (by decide +kernel) (by first | exact ⟨rfl, fun g => g.1 c_1⟩ | exact ⟨rfl, fun g => c_2 g.2⟩) dX2_shipNumbered_12 dX2_shipNumbered_15 dX2_shipNumbered_16 dX2_shipNumbered_18 dX2_shipNumbered_21 (Nat.le_of_ble_eq_true rfl) (Nat.le_of_ble_eq_true rfl) (Nat.le_of_ble_eq_true rfl) (Nat.le_of_ble_eq_true rfl) (Nat.le_of_ble_eq_true rfl) (Nat.le_of_ble_eq_true rfl) 
  · refine lv_iload_n C.1 C.2.1 dX2_shipNumbered_4 rfl (lv_at hl 1 rfl) ?_
    refine lv_aload_n C.1 C.2.1 dX2_shipNumbered_5 rfl (lv_at hl 0 rfl) ?_
    refine gGet (v := .int (nI (s_sh S))) (ref := RX2) (Cn := RX2) (T := TX2) (N := 9) C iX2 hO 0 rfl rfl 8 (by decide) w90 (fun _ h9 => h9) rfl dX2_shipNumbered_6 ?_
    refine lv_icmp_lt (tgt := 22) C.1 C.2.1 dX2_shipNumbered_9 (by decide) (fun c_2 => ?_) (fun c_2 => ?_)
    · have hj9 := okNat (by omega) c_1 c_2
      have hi9 : x.toNatClampNeg < 6 := by omega
      refine lv_aload_n C.1 C.2.1 dX2_shipNumbered_22 rfl (lv_at hl 0 rfl) ?_
      refine gGet (v := .ref (a 8)) (ref := RX2) (Cn := RX2) (T := TX2) (N := 9) C iX2 hO 0 rfl rfl 2 (by decide) w22 (fun _ h9 => h9) rfl dX2_shipNumbered_23 ?_
      refine lv_iload_n C.1 C.2.1 dX2_shipNumbered_26 rfl (lv_at hl 1 rfl) ?_
      refine lv_eqi (y := nI x.toNatClampNeg) hj9.2 ?_
      refine gAald (v := a (11 + x.toNatClampNeg)) (j := x.toNatClampNeg) C hO 8 rfl hi9 (by decide) (xFl_at hi9) dX2_shipNumbered_27 ?_
      exact gXRr C hO ⟨_, rfl⟩ (⟨c_1, c_2⟩) dX2_shipNumbered_28 (Nat.le_of_ble_eq_true rfl) (Nat.le_of_ble_eq_true rfl)
    · exact gThrow (E0 := "java/lang/IndexOutOfBoundsException") (text := "there is no such ship") C hst hO ht hl.1 (by decide +kernel) (C.2.2.2.2.1 (.classLink RX2 243 "java/lang/IndexOutOfBoundsException") (by decide +kernel)) (C.2.2.2.2.1 (.initialized "java/lang/IndexOutOfBoundsException") (by decide +kernel)) (C.2.2.2.2.2.2.2.1.2.2.1 (252, "there is no such ship") (by decide +kernel)) (vx_hat (fun w hw => C.2.2.2.2.1 w (gwIOE w hw)) gNIOE (gNb C)) (by decide +kernel) (by first | exact ⟨rfl, fun g => g.1 c_1⟩ | exact ⟨rfl, fun g => c_2 g.2⟩) dX2_shipNumbered_12 dX2_shipNumbered_15 dX2_shipNumbered_16 dX2_shipNumbered_18 dX2_shipNumbered_21 (Nat.le_of_ble_eq_true rfl) (Nat.le_of_ble_eq_true rfl) (Nat.le_of_ble_eq_true rfl) (Nat.le_of_ble_eq_true rfl) (Nat.le_of_ble_eq_true rfl) (Nat.le_of_ble_eq_true rfl) 

set_option maxHeartbeats 4000000 in
set_option maxRecDepth 100000 in
theorem c_X2_keptPosition (l : Launch) (E : gE) (a : Nat → Nat) (S : St) (mk rk rv : Nat → Int32) (F : va_W) (o : Int32) (hst : l.stackTraces = false) (hn : s_n S ≤ 48) : gXi l E yX2_keptPosition wsX2_keptPosition ({ frames := 6, cells := 1, slots := 6, locals := 82 }) (xW E a S mk rk rv ++ F) [.ref (a 0), .int o] (s_po S o ≠ none) (oI (s_po S o)) (xW E a S mk rk rv ++ F) (fun En => En = xIOE ∧ s_po S o = none) 1 6 := by
  refine gXi.of (cc := cX2_keptPosition) (maxL := 3) (ty := .int) (by decide) rfl (Nat.le_of_ble_eq_true rfl) ?_
  intro p e s m args below meth c A C ht ls hl hO
  have hl : lv_has ls 3 [(0, .ref (a 0)), (1, .int o)] := hl
  have iX2 : ∀ w ∈ u_ws RX2 TX2 9, w ∈ wsX2_keptPosition := by decide +kernel
  have w10 : Cond.fieldLink RX2 10 "ParrotLog" "log" "LParrotLog$Log;" ∈ wsX2_keptPosition := by decide +kernel
  have gwIOE : ∀ w ∈ (vx_atS RX2 245 "java/lang/IndexOutOfBoundsException" ["java/lang/RuntimeException", "java/lang/Exception"]).filter goodWord, w ∈ wsX2_keptPosition := by decide +kernel
  have gNIOE : ∀ w ∈ (vx_atS RX2 245 "java/lang/IndexOutOfBoundsException" ["java/lang/RuntimeException", "java/lang/Exception"]).filter (fun w => !goodWord w), w ∈ eNw := by decide +kernel
  refine lv_aload_n C.1 C.2.1 dX2_keptPosition_0 rfl (lv_at hl 0 rfl) ?_
  refine gGet (v := .ref (a 1)) (ref := RX2) (Cn := RX2) (T := TX2) (N := 9) C iX2 hO 0 rfl rfl 0 (by decide) w10 (fun _ h9 => h9) rfl dX2_keptPosition_1 ?_
  refine lv_iload_n C.1 C.2.1 dX2_keptPosition_4 rfl (lv_at hl 1 rfl) ?_
  refine gCallN_i (As := [.int o]) (rest := []) C hO (c_X0_positionOf l E a S mk rk rv F o (by omega)) ⟨va_cnB (host := RX2) 1 C.2.2.2.2.1 gX2_keptPosition_X0_positionOf_n130 rfl rfl rfl (C.2.2.2.2.2.2.2.1.2.1 (.methodLinkNest RX2 130 yX0_positionOf RX2) (by decide +kernel)) (C.2.2.2.2.1 (.initialized RX0) (by decide +kernel)) (by decide +kernel) ⟨(Nat.le_of_ble_eq_true rfl), (Nat.le_of_ble_eq_true rfl)⟩, C.2.2.2.2.1 (.instanceMethod yX0_positionOf) (by decide +kernel), C.2.2.2.2.1 (.selects RX0 yX0_positionOf yX0_positionOf) (by decide +kernel)⟩ (va_recv C.2.2.2.2.2.2.2.1.1 hO.1 (ci := 0) (q0 := 1) rfl rfl) rfl hl.1 rfl (Nat.le_of_ble_eq_true rfl) dX2_keptPosition_5 ⟨(Nat.le_of_ble_eq_true rfl), (Nat.le_of_ble_eq_true rfl)⟩ (fun H locs hO => ?_)
  refine lv_istore_n (lv' := [(2, .int (oI (s_po S o))), (0, .ref (a 0)), (1, .int o)]) C.1 C.2.1 dX2_keptPosition_8 rfl hl (by decide) rfl (fun ls hl => ?_)
  refine lv_iload_n C.1 C.2.1 dX2_keptPosition_9 rfl (lv_at hl 0 rfl) ?_
  refine lv_iconst (v := (-1)) C.1 C.2.1 dX2_keptPosition_10 (by decide) ?_
  refine lv_icmp_ne (tgt := 24) C.1 C.2.1 dX2_keptPosition_11 (by decide) (fun c_1 => ?_) (fun c_1 => ?_)
  · have hz : s_po S o ≠ none := fun g => c_1 (by rw [g]; rfl)
    refine lv_iload_n C.1 C.2.1 dX2_keptPosition_24 rfl (lv_at hl 0 rfl) ?_
    exact gXRi C hO rfl hz rfl dX2_keptPosition_25 (Nat.le_of_ble_eq_true rfl) (Nat.le_of_ble_eq_true rfl)
  · have hz : s_po S o = none := (oI_ne (fun i hi => by have := s_po_lt hi; omega)).mp c_1
    exact gThrow (E0 := "java/lang/IndexOutOfBoundsException") (text := "no phrase with this offset is kept") C hst hO ht hl.1 (by decide +kernel) (C.2.2.2.2.1 (.classLink RX2 243 "java/lang/IndexOutOfBoundsException") (by decide +kernel)) (C.2.2.2.2.1 (.initialized "java/lang/IndexOutOfBoundsException") (by decide +kernel)) (C.2.2.2.2.2.2.2.1.2.2.1 (254, "no phrase with this offset is kept") (by decide +kernel)) (vx_hat (fun w hw => C.2.2.2.2.1 w (gwIOE w hw)) gNIOE (gNb C)) (by decide +kernel) (⟨rfl, hz⟩) dX2_keptPosition_14 dX2_keptPosition_17 dX2_keptPosition_18 dX2_keptPosition_20 dX2_keptPosition_23 (Nat.le_of_ble_eq_true rfl) (Nat.le_of_ble_eq_true rfl) (Nat.le_of_ble_eq_true rfl) (Nat.le_of_ble_eq_true rfl) (Nat.le_of_ble_eq_true rfl) (Nat.le_of_ble_eq_true rfl) 

set_option maxHeartbeats 4000000 in
set_option maxRecDepth 100000 in
theorem c_X2_lag (l : Launch) (E : gE) (a : Nat → Nat) (S : St) (mk rk rv : Nat → Int32) (F : va_W) (i : Nat) (hn : s_n S ≤ 48) (hi : i < 6) : gMi l E yX2_lag wsX2_lag ({ frames := 1, cells := 0, slots := 0, locals := 22 }) (xW E a S mk rk rv ++ F) [.ref (a 0), .ref (a (11 + i))] (nI (s_lag S i)) (xW E a S mk rk rv ++ F) 0 0 := by
  refine gMi.of (cc := cX2_lag) (maxL := 2) (ty := .int) (by decide) rfl (Nat.le_of_ble_eq_true rfl) ?_
  intro p e s m args below meth c A C ls hl hO
  have hl : lv_has ls 2 [(0, .ref (a 0)), (1, .ref (a (11 + i)))] := hl
  have iX0 : ∀ w ∈ u_ws RX0 TX0 8, w ∈ wsX2_lag := by decide +kernel
  have iX1 : ∀ w ∈ u_ws RX1 TX1 5, w ∈ wsX2_lag := by decide +kernel
  have iX2 : ∀ w ∈ u_ws RX2 TX2 9, w ∈ wsX2_lag := by decide +kernel
  have w10 : Cond.fieldLink RX2 10 "ParrotLog" "log" "LParrotLog$Log;" ∈ wsX2_lag := by decide +kernel
  refine lv_aload_n C.1 C.2.1 dX2_lag_0 rfl (lv_at hl 0 rfl) ?_
  refine gGet (v := .ref (a 1)) (ref := RX2) (Cn := RX2) (T := TX2) (N := 9) C iX2 hO 0 rfl rfl 0 (by decide) w10 (fun _ h9 => h9) rfl dX2_lag_1 ?_
  refine gGetN (v := .int (nI (s_n S))) (ref := RX0) (Cn := RX0) (T := TX0) (N := 8) (host := RX2) C iX0 hO 1 rfl rfl 5 (by decide) (by decide +kernel) (fun _ h9 => h9) rfl dX2_lag_4 ?_
  refine lv_aload_n C.1 C.2.1 dX2_lag_7 rfl (lv_at hl 0 rfl) ?_
  refine gGet (v := .ref (a 1)) (ref := RX2) (Cn := RX2) (T := TX2) (N := 9) C iX2 hO 0 rfl rfl 0 (by decide) w10 (fun _ h9 => h9) rfl dX2_lag_8 ?_
  refine lv_aload_n C.1 C.2.1 dX2_lag_11 rfl (lv_at hl 1 rfl) ?_
  refine gGetN (v := .int ((s_at S) i)) (ref := RX1) (Cn := RX1) (T := TX1) (N := 5) (host := RX2) C iX1 hO (11 + i) (xw_ship hi) rfl 2 (by decide) (by decide +kernel) (fun _ h9 => h9) rfl dX2_lag_12 ?_
  refine gCallN_i (As := [.int ((s_at S) i)]) (rest := [.int (nI (s_n S))]) C hO (c_X0_positionFrom l E a S mk rk rv F ((s_at S) i) (by omega)) ⟨va_cnB (host := RX2) 1 C.2.2.2.2.1 gX2_lag_X0_positionFrom_n233 rfl rfl rfl (C.2.2.2.2.2.2.2.1.2.1 (.methodLinkNest RX2 233 yX0_positionFrom RX2) (by decide +kernel)) (C.2.2.2.2.1 (.initialized RX0) (by decide +kernel)) (by decide +kernel) ⟨(Nat.le_of_ble_eq_true rfl), (Nat.le_of_ble_eq_true rfl)⟩, C.2.2.2.2.1 (.instanceMethod yX0_positionFrom) (by decide +kernel), C.2.2.2.2.1 (.selects RX0 yX0_positionFrom yX0_positionFrom) (by decide +kernel)⟩ (va_recv C.2.2.2.2.2.2.2.1.1 hO.1 (ci := 0) (q0 := 1) rfl rfl) rfl hl.1 rfl (Nat.le_of_ble_eq_true rfl) dX2_lag_15 ⟨(Nat.le_of_ble_eq_true rfl), (Nat.le_of_ble_eq_true rfl)⟩ (fun H locs hO => ?_)
  refine gSubN (x := (s_n S)) (y := (pf (s_off S) ((s_at S) i) (s_n S))) C.1 C.2.1 (pf_le _ _ _) dX2_lag_18 ?_
  exact gRi C hO rfl rfl dX2_lag_19 (Nat.le_of_ble_eq_true rfl) (Nat.le_of_ble_eq_true rfl)

set_option maxHeartbeats 4000000 in
set_option maxRecDepth 100000 in
theorem c_X2_mostHeard (l : Launch) (E : gE) (a : Nat → Nat) (S : St) (mk rk rv : Nat → Int32) (F : va_W) (h9 q9 : Nat) : gMi l E yX2_mostHeard wsX2_mostHeard ({ frames := 0, cells := 0, slots := 0, locals := 0 }) (xW E a S mk rk rv ++ F) [.ref (a 0), .int (nI h9), .int (nI q9)] (nI (mhN S h9 q9)) (xW E a S mk rk rv ++ F) 0 0 := by
  refine gMi.of (cc := cX2_mostHeard) (maxL := 3) (ty := .int) (by decide) rfl (Nat.le_of_ble_eq_true rfl) ?_
  intro p e s m args below meth c A C ls hl hO
  have hl : lv_has ls 3 [(0, .ref (a 0)), (1, .int (nI h9)), (2, .int (nI q9))] := hl
  have iX2 : ∀ w ∈ u_ws RX2 TX2 9, w ∈ wsX2_mostHeard := by decide +kernel
  have w50 : Cond.fieldLink RX2 50 "ParrotLog" "stormOn" "Z" ∈ wsX2_mostHeard := by decide +kernel
  refine lv_aload_n C.1 C.2.1 dX2_mostHeard_0 rfl (lv_at hl 0 rfl) ?_
  refine gGet (v := .int (s_on S)) (ref := RX2) (Cn := RX2) (T := TX2) (N := 9) C iX2 hO 0 rfl rfl 7 (by decide) w50 (fun _ h9 => h9) rfl dX2_mostHeard_1 ?_
  refine lv_if_eq (tgt := 11) C.1 C.2.1 dX2_mostHeard_4 (by decide) (fun c_1 => ?_) (fun c_1 => ?_)
  · refine lv_iload_n C.1 C.2.1 dX2_mostHeard_11 rfl (lv_at hl 1 rfl) ?_
    refine lv_iload_n C.1 C.2.1 dX2_mostHeard_12 rfl (lv_at hl 2 rfl) ?_
    refine gMulN (x := h9) (y := q9) C.1 C.2.1 dX2_mostHeard_13 ?_
    exact gRi C hO rfl (by first | exact (by unfold mhN; rw [if_pos c_1]) | exact (by unfold mhN; rw [if_neg c_1]; rfl)) dX2_mostHeard_14 (Nat.le_of_ble_eq_true rfl) (Nat.le_of_ble_eq_true rfl)
  · refine lv_iconst (v := 0) C.1 C.2.1 dX2_mostHeard_7 (by decide) ?_
    refine lv_goto (tgt := 14) C.1 C.2.1 dX2_mostHeard_8 (by decide) ?_
    exact gRi C hO rfl (by first | exact (by unfold mhN; rw [if_pos c_1]) | exact (by unfold mhN; rw [if_neg c_1]; rfl)) dX2_mostHeard_14 (Nat.le_of_ble_eq_true rfl) (Nat.le_of_ble_eq_true rfl)

set_option maxHeartbeats 4000000 in
set_option maxRecDepth 100000 in
theorem c_X2_leastShipOffset (l : Launch) (E : gE) (a : Nat → Nat) (S : St) (mk rk rv : Nat → Int32) (F : va_W)  (hsh : s_sh S ≤ 6) : gMi l E yX2_leastShipOffset wsX2_leastShipOffset ({ frames := 1, cells := 0, slots := 0, locals := 13 }) (xW E a S mk rk rv ++ F) [.ref (a 0)] (lst (s_at S) (s_nx S) (s_sh S)) (xW E a S mk rk rv ++ F) 0 0 := by
  refine gMi.of (cc := cX2_leastShipOffset) (maxL := 3) (ty := .int) (by decide) rfl (Nat.le_of_ble_eq_true rfl) ?_
  intro p e s m args below meth c A C ls hl hO
  have hl : lv_has ls 3 [(0, .ref (a 0))] := hl
  have iX0 : ∀ w ∈ u_ws RX0 TX0 8, w ∈ wsX2_leastShipOffset := by decide +kernel
  have iX1 : ∀ w ∈ u_ws RX1 TX1 5, w ∈ wsX2_leastShipOffset := by decide +kernel
  have iX2 : ∀ w ∈ u_ws RX2 TX2 9, w ∈ wsX2_leastShipOffset := by decide +kernel
  have w10 : Cond.fieldLink RX2 10 "ParrotLog" "log" "LParrotLog$Log;" ∈ wsX2_leastShipOffset := by decide +kernel
  have w90 : Cond.fieldLink RX2 90 "ParrotLog" "shipCount" "I" ∈ wsX2_leastShipOffset := by decide +kernel
  have w22 : Cond.fieldLink RX2 22 "ParrotLog" "fleet" "[LParrotLog$Ship;" ∈ wsX2_leastShipOffset := by decide +kernel
  refine lv_aload_n C.1 C.2.1 dX2_leastShipOffset_0 rfl (lv_at hl 0 rfl) ?_
  refine gGet (v := .ref (a 1)) (ref := RX2) (Cn := RX2) (T := TX2) (N := 9) C iX2 hO 0 rfl rfl 0 (by decide) w10 (fun _ h9 => h9) rfl dX2_leastShipOffset_1 ?_
  refine gGetN (v := .int (s_nx S)) (ref := RX0) (Cn := RX0) (T := TX0) (N := 8) (host := RX2) C iX0 hO 1 rfl rfl 6 (by decide) (by decide +kernel) (fun _ h9 => h9) rfl dX2_leastShipOffset_4 ?_
  refine lv_istore_n (lv' := [(1, .int (s_nx S)), (0, .ref (a 0))]) C.1 C.2.1 dX2_leastShipOffset_7 rfl hl (by decide) rfl (fun ls hl => ?_)
  refine lv_iconst (v := 0) C.1 C.2.1 dX2_leastShipOffset_8 (by decide) ?_
  refine lv_istore_n (lv' := [(2, .int 0), (1, .int (s_nx S)), (0, .ref (a 0))]) C.1 C.2.1 dX2_leastShipOffset_9 rfl hl (by decide) rfl (fun ls hl => ?_)
  have lp24 : ∀ (f : Nat) (k : Nat), (s_sh S + 1 ≤ k + f) → (k ≤ s_sh S) → ∀ (H : Heap) (locs : List Loc), gO E A s (xW E a S mk rk rv ++ F) H locs → ∀ ls : Array Slot, lv_has ls 3 [(0, .ref (a 0)), (1, .int (lst (s_at S) (s_nx S) k)), (2, .int (nI k))] → W p l e ({ frames := 1, cells := 0, slots := 0, locals := 13 } : Room) s m args below meth c H locs 0 0 (MQ below (gQi E A (lst (s_at S) (s_nx S) (s_sh S)) (xW E a S mk rk rv ++ F)) args s 0 0 A) (F0 m 10 ls []) := by
    intro f
    induction f with
    | zero =>
      intro k hf hk9
      exact absurd hf (by omega)
    | succ f ih24 =>
      intro k hf hk9 H locs hO ls hl
      refine lv_iload_n C.1 C.2.1 dX2_leastShipOffset_10 rfl (lv_at hl 2 rfl) ?_
      refine lv_aload_n C.1 C.2.1 dX2_leastShipOffset_11 rfl (lv_at hl 0 rfl) ?_
      refine gGet (v := .int (nI (s_sh S))) (ref := RX2) (Cn := RX2) (T := TX2) (N := 9) C iX2 hO 0 rfl rfl 8 (by decide) w90 (fun _ h9 => h9) rfl dX2_leastShipOffset_12 ?_
      refine gGeN (x := k) (y := (s_sh S)) (tgt := 38) C.1 C.2.1 (by omega) (by omega) dX2_leastShipOffset_15 (by decide) (fun c_1 => ?_) (fun c_1 => ?_)
      · refine lv_iload_n C.1 C.2.1 dX2_leastShipOffset_38 rfl (lv_at hl 1 rfl) ?_
        exact gRi C hO rfl (by rw [show k = s_sh S by omega]) dX2_leastShipOffset_39 (Nat.le_of_ble_eq_true rfl) (Nat.le_of_ble_eq_true rfl)
      · refine lv_iload_n C.1 C.2.1 dX2_leastShipOffset_18 rfl (lv_at hl 1 rfl) ?_
        refine lv_aload_n C.1 C.2.1 dX2_leastShipOffset_19 rfl (lv_at hl 0 rfl) ?_
        refine gGet (v := .ref (a 8)) (ref := RX2) (Cn := RX2) (T := TX2) (N := 9) C iX2 hO 0 rfl rfl 2 (by decide) w22 (fun _ h9 => h9) rfl dX2_leastShipOffset_20 ?_
        refine lv_iload_n C.1 C.2.1 dX2_leastShipOffset_23 rfl (lv_at hl 2 rfl) ?_
        refine gAald (v := a (11 + k)) (j := k) C hO 8 rfl (by omega) (by decide) (xFl_at (by omega)) dX2_leastShipOffset_24 ?_
        refine gGetN (v := .int ((s_at S) k)) (ref := RX1) (Cn := RX1) (T := TX1) (N := 5) (host := RX2) C iX1 hO (11 + k) (xw_ship (by omega)) rfl 2 (by decide) (by decide +kernel) (fun _ h9 => h9) rfl dX2_leastShipOffset_25 ?_
        refine va_mmin C.1 C.2.1 (by rw [C.2.2.1]; exact hl.1.symm) C.2.2.2.1 (C.2.2.2.2.1 (.methodLink RX2 225 Lib.Math.min.name) (by decide +kernel)) (C.2.2.2.2.1 (.static Lib.Math.min.name) (by decide +kernel)) (C.2.2.2.2.1 (.initialized "java/lang/Math") (by decide +kernel)) (C.2.2.2.2.1 (.code Lib.Math.min.name Lib.Math.min.code 2 (some .int)) (by decide +kernel)) (Nat.le_of_ble_eq_true rfl) (Nat.le_of_ble_eq_true rfl) (Nat.le_of_ble_eq_true rfl) (Nat.le_of_ble_eq_true rfl) dX2_leastShipOffset_28 ?_
        refine lv_istore_n (lv' := [(1, .int (if (s_at S) k < lst (s_at S) (s_nx S) k then (s_at S) k else lst (s_at S) (s_nx S) k)), (0, .ref (a 0)), (2, .int (nI k))]) C.1 C.2.1 dX2_leastShipOffset_31 rfl hl (by decide) rfl (fun ls hl => ?_)
        refine gInc (j := k) (k := 2) (lv' := [(2, .int (nI (k + 1))), (1, .int (if (s_at S) k < lst (s_at S) (s_nx S) k then (s_at S) k else lst (s_at S) (s_nx S) k)), (0, .ref (a 0))]) C.1 C.2.1 dX2_leastShipOffset_32 hl rfl (by decide) rfl (fun ls hl => ?_)
        refine lv_goto (tgt := 10) C.1 C.2.1 dX2_leastShipOffset_35 (by decide) ?_
        exact ih24 (k + 1) (by omega) (by omega) _ _ hO _ (lv_sub hl [2, 1, 0] rfl)
  exact lp24 (s_sh S + 1) 0 (by omega) (Nat.zero_le _) _ _ hO _ (lv_sub hl [2, 1, 0] rfl)

set_option maxHeartbeats 4000000 in
set_option maxRecDepth 100000 in
theorem c_X2_markCompacted (l : Launch) (E : gE) (a : Nat → Nat) (S : St) (mk rk rv : Nat → Int32) (F : va_W)  (hn : s_n S ≤ 48) (hsh : s_sh S ≤ 6) : gMv l E yX2_markCompacted wsX2_markCompacted ({ frames := 2, cells := 0, slots := 0, locals := 48 }) (xW E a S mk rk rv ++ F) [.ref (a 0)] (xW E a S (mkU (s_cm S) mk (s_n S)) rk rv ++ F) 0 0 := by
  refine gMv.of (cc := cX2_markCompacted) (maxL := 1) (by decide) rfl (Nat.le_of_ble_eq_true rfl) ?_
  intro p e s m args below meth c A C ls hl hO
  have hl : lv_has ls 1 [(0, .ref (a 0))] := hl
  have iX2 : ∀ w ∈ u_ws RX2 TX2 9, w ∈ wsX2_markCompacted := by decide +kernel
  have w10 : Cond.fieldLink RX2 10 "ParrotLog" "log" "LParrotLog$Log;" ∈ wsX2_markCompacted := by decide +kernel
  refine lv_aload_n C.1 C.2.1 dX2_markCompacted_0 rfl (lv_at hl 0 rfl) ?_
  refine gGet (v := .ref (a 1)) (ref := RX2) (Cn := RX2) (T := TX2) (N := 9) C iX2 hO 0 rfl rfl 0 (by decide) w10 (fun _ h9 => h9) rfl dX2_markCompacted_1 ?_
  refine lv_aload_n C.1 C.2.1 dX2_markCompacted_4 rfl (lv_at hl 0 rfl) ?_
  refine gCall_i (As := []) (rest := [.ref (a 1)]) C hO (c_X2_leastShipOffset l E a S mk rk rv F (by omega)) (cwV 0 C.2.2.2.2.1 gX2_markCompacted_X2_leastShipOffset rfl rfl rfl (by decide +kernel) ⟨(Nat.le_of_ble_eq_true rfl), (Nat.le_of_ble_eq_true rfl)⟩) (va_recv C.2.2.2.2.2.2.2.1.1 hO.1 (ci := 2) (q0 := 0) rfl rfl) rfl hl.1 rfl (Nat.le_of_ble_eq_true rfl) dX2_markCompacted_5 ⟨(Nat.le_of_ble_eq_true rfl), (Nat.le_of_ble_eq_true rfl)⟩ (fun H locs hO => ?_)
  refine gCallN_v (As := [.int (lst (s_at S) (s_nx S) (s_sh S))]) (rest := []) C hO (c_X0_markCompacted l E a S mk rk rv F (lst (s_at S) (s_nx S) (s_sh S)) (by omega)) ⟨va_cnB (host := RX2) 1 C.2.2.2.2.1 gX2_markCompacted_X0_markCompacted_n223 rfl rfl rfl (C.2.2.2.2.2.2.2.1.2.1 (.methodLinkNest RX2 223 yX0_markCompacted RX2) (by decide +kernel)) (C.2.2.2.2.1 (.initialized RX0) (by decide +kernel)) (by decide +kernel) ⟨(Nat.le_of_ble_eq_true rfl), (Nat.le_of_ble_eq_true rfl)⟩, C.2.2.2.2.1 (.instanceMethod yX0_markCompacted) (by decide +kernel), C.2.2.2.2.1 (.selects RX0 yX0_markCompacted yX0_markCompacted) (by decide +kernel)⟩ (va_recv C.2.2.2.2.2.2.2.1.1 hO.1 (ci := 0) (q0 := 1) rfl rfl) rfl hl.1 rfl (Nat.le_of_ble_eq_true rfl) dX2_markCompacted_8 ⟨(Nat.le_of_ble_eq_true rfl), (Nat.le_of_ble_eq_true rfl)⟩ (fun H locs hO => ?_)
  have hO : gO E A s (xW E a S (mkU (gComp (s_off S) (s_key S) (s_val S) (s_n S) (lst (s_at S) (s_nx S) (s_sh S))) mk (s_n S)) rk rv ++ F) H locs := hO
  exact gRv C hO dX2_markCompacted_11 (Nat.le_of_ble_eq_true rfl) (Nat.le_of_ble_eq_true rfl)

set_option maxHeartbeats 4000000 in
set_option maxRecDepth 100000 in
theorem c_X2_dropMarked (l : Launch) (E : gE) (a : Nat → Nat) (S : St) (mk rk rv : Nat → Int32) (F : va_W)  (hn : s_n S ≤ 48) (hsh : s_sh S ≤ 6) : gMi l E yX2_dropMarked wsX2_dropMarked ({ frames := 2, cells := 0, slots := 0, locals := 45 }) (xW E a S mk rk rv ++ F) [.ref (a 0)] (nI (s_n S - cpN mk (s_n S))) (xW E a (S_drop S mk) mk rk rv ++ F) 0 0 := by
  refine gMi.of (cc := cX2_dropMarked) (maxL := 2) (ty := .int) (by decide) rfl (Nat.le_of_ble_eq_true rfl) ?_
  intro p e s m args below meth c A C ls hl hO
  have hl : lv_has ls 2 [(0, .ref (a 0))] := hl
  have iX1 : ∀ w ∈ u_ws RX1 TX1 5, w ∈ wsX2_dropMarked := by decide +kernel
  have iX2 : ∀ w ∈ u_ws RX2 TX2 9, w ∈ wsX2_dropMarked := by decide +kernel
  have w90 : Cond.fieldLink RX2 90 "ParrotLog" "shipCount" "I" ∈ wsX2_dropMarked := by decide +kernel
  have w10 : Cond.fieldLink RX2 10 "ParrotLog" "log" "LParrotLog$Log;" ∈ wsX2_dropMarked := by decide +kernel
  have w22 : Cond.fieldLink RX2 22 "ParrotLog" "fleet" "[LParrotLog$Ship;" ∈ wsX2_dropMarked := by decide +kernel
  have hO : gO E A s (xW E a (mkS (s_off S) (s_key S) (s_val S) (s_sto S) (s_n S) (s_nx S) (s_dr S) (s_hr S) (s_sc S) (s_on S) (s_said S) (s_sh S) (s_pc S) (s_at S) (s_hd S) (mkU (fun i => s_ms S i + nI (cm mk (pf (s_off S) (s_at S i) (s_n S)) (s_n S))) (s_ms S) (0)) (s_kn S)) mk rk rv ++ F) s.heap [] := by rw [mkU_0]; exact hO
  refine lv_iconst (v := 0) C.1 C.2.1 dX2_dropMarked_0 (by decide) ?_
  refine lv_istore_n (lv' := [(1, .int 0), (0, .ref (a 0))]) C.1 C.2.1 dX2_dropMarked_1 rfl hl (by decide) rfl (fun ls hl => ?_)
  have lp24 : ∀ (f : Nat) (k : Nat), (s_sh S + 1 ≤ k + f) → (k ≤ s_sh S) → ∀ (H : Heap) (locs : List Loc), gO E A s (xW E a (mkS (s_off S) (s_key S) (s_val S) (s_sto S) (s_n S) (s_nx S) (s_dr S) (s_hr S) (s_sc S) (s_on S) (s_said S) (s_sh S) (s_pc S) (s_at S) (s_hd S) (mkU (fun i => s_ms S i + nI (cm mk (pf (s_off S) (s_at S i) (s_n S)) (s_n S))) (s_ms S) (k)) (s_kn S)) mk rk rv ++ F) H locs → ∀ ls : Array Slot, lv_has ls 2 [(0, .ref (a 0)), (1, .int (nI k))] → W p l e ({ frames := 2, cells := 0, slots := 0, locals := 45 } : Room) s m args below meth c H locs 0 0 (MQ below (gQi E A (nI (s_n S - cpN mk (s_n S))) (xW E a (S_drop S mk) mk rk rv ++ F)) args s 0 0 A) (F0 m 2 ls []) := by
    intro f
    induction f with
    | zero =>
      intro k hf hk9
      exact absurd hf (by omega)
    | succ f ih24 =>
      intro k hf hk9 H locs hO ls hl
      refine lv_iload_n C.1 C.2.1 dX2_dropMarked_2 rfl (lv_at hl 1 rfl) ?_
      refine lv_aload_n C.1 C.2.1 dX2_dropMarked_3 rfl (lv_at hl 0 rfl) ?_
      refine gGet (v := .int (nI (s_sh S))) (ref := RX2) (Cn := RX2) (T := TX2) (N := 9) C iX2 hO 0 rfl rfl 8 (by decide) w90 (fun _ h9 => h9) rfl dX2_dropMarked_4 ?_
      refine gGeN (x := k) (y := (s_sh S)) (tgt := 46) C.1 C.2.1 (by omega) (by omega) dX2_dropMarked_7 (by decide) (fun c_1 => ?_) (fun c_1 => ?_)
      · have hk8 : k = s_sh S := by omega
        rw [hk8] at hO
        have hl := lv_sub hl [0] rfl
        have hl : lv_has ls 2 [(0, .ref (a 0))] := hl
        refine lv_aload_n C.1 C.2.1 dX2_dropMarked_46 rfl (lv_at hl 0 rfl) ?_
        refine gGet (v := .ref (a 1)) (ref := RX2) (Cn := RX2) (T := TX2) (N := 9) C iX2 hO 0 rfl rfl 0 (by decide) w10 (fun _ h9 => h9) rfl dX2_dropMarked_47 ?_
        refine gCallN_i (As := []) (rest := []) C hO (c_X0_removeMarked l E a (mkS (s_off S) (s_key S) (s_val S) (s_sto S) (s_n S) (s_nx S) (s_dr S) (s_hr S) (s_sc S) (s_on S) (s_said S) (s_sh S) (s_pc S) (s_at S) (s_hd S) (mkU (fun i => s_ms S i + nI (cm mk (pf (s_off S) (s_at S i) (s_n S)) (s_n S))) (s_ms S) (s_sh S)) (s_kn S)) mk rk rv F (by omega)) ⟨va_cnB (host := RX2) 0 C.2.2.2.2.1 gX2_dropMarked_X0_removeMarked_n230 rfl rfl rfl (C.2.2.2.2.2.2.2.1.2.1 (.methodLinkNest RX2 230 yX0_removeMarked RX2) (by decide +kernel)) (C.2.2.2.2.1 (.initialized RX0) (by decide +kernel)) (by decide +kernel) ⟨(Nat.le_of_ble_eq_true rfl), (Nat.le_of_ble_eq_true rfl)⟩, C.2.2.2.2.1 (.instanceMethod yX0_removeMarked) (by decide +kernel), C.2.2.2.2.1 (.selects RX0 yX0_removeMarked yX0_removeMarked) (by decide +kernel)⟩ (va_recv C.2.2.2.2.2.2.2.1.1 hO.1 (ci := 0) (q0 := 1) rfl rfl) rfl hl.1 rfl (Nat.le_of_ble_eq_true rfl) dX2_dropMarked_50 ⟨(Nat.le_of_ble_eq_true rfl), (Nat.le_of_ble_eq_true rfl)⟩ (fun H locs hO => ?_)
        have hO : gO E A s (xW E a (S_rem (mkS (s_off S) (s_key S) (s_val S) (s_sto S) (s_n S) (s_nx S) (s_dr S) (s_hr S) (s_sc S) (s_on S) (s_said S) (s_sh S) (s_pc S) (s_at S) (s_hd S) (mkU (fun i => s_ms S i + nI (cm mk (pf (s_off S) (s_at S i) (s_n S)) (s_n S))) (s_ms S) (s_sh S)) (s_kn S)) mk) mk rk rv ++ F) H locs := hO
        exact gRi C hO rfl rfl dX2_dropMarked_53 (Nat.le_of_ble_eq_true rfl) (Nat.le_of_ble_eq_true rfl)
      · refine lv_aload_n C.1 C.2.1 dX2_dropMarked_10 rfl (lv_at hl 0 rfl) ?_
        refine gGet (v := .ref (a 8)) (ref := RX2) (Cn := RX2) (T := TX2) (N := 9) C iX2 hO 0 rfl rfl 2 (by decide) w22 (fun _ h9 => h9) rfl dX2_dropMarked_11 ?_
        refine lv_iload_n C.1 C.2.1 dX2_dropMarked_14 rfl (lv_at hl 1 rfl) ?_
        refine gAald (v := a (11 + k)) (j := k) C hO 8 rfl (by omega) (by decide) (xFl_at (by omega)) dX2_dropMarked_15 ?_
        refine lv_dup C.1 C.2.1 dX2_dropMarked_16 rfl ?_
        refine gGetN (v := .int ((mkU (fun i => s_ms S i + nI (cm mk (pf (s_off S) (s_at S i) (s_n S)) (s_n S))) (s_ms S) (k)) k)) (ref := RX1) (Cn := RX1) (T := TX1) (N := 5) (host := RX2) C iX1 hO (11 + k) (xw_ship (by omega)) rfl 4 (by decide) (by decide +kernel) (fun _ h9 => h9) rfl dX2_dropMarked_17 ?_
        refine lv_aload_n C.1 C.2.1 dX2_dropMarked_20 rfl (lv_at hl 0 rfl) ?_
        refine gGet (v := .ref (a 1)) (ref := RX2) (Cn := RX2) (T := TX2) (N := 9) C iX2 hO 0 rfl rfl 0 (by decide) w10 (fun _ h9 => h9) rfl dX2_dropMarked_21 ?_
        refine lv_aload_n C.1 C.2.1 dX2_dropMarked_24 rfl (lv_at hl 0 rfl) ?_
        refine gGet (v := .ref (a 8)) (ref := RX2) (Cn := RX2) (T := TX2) (N := 9) C iX2 hO 0 rfl rfl 2 (by decide) w22 (fun _ h9 => h9) rfl dX2_dropMarked_25 ?_
        refine lv_iload_n C.1 C.2.1 dX2_dropMarked_28 rfl (lv_at hl 1 rfl) ?_
        refine gAald (v := a (11 + k)) (j := k) C hO 8 rfl (by omega) (by decide) (xFl_at (by omega)) dX2_dropMarked_29 ?_
        refine gGetN (v := .int ((s_at S) k)) (ref := RX1) (Cn := RX1) (T := TX1) (N := 5) (host := RX2) C iX1 hO (11 + k) (xw_ship (by omega)) rfl 2 (by decide) (by decide +kernel) (fun _ h9 => h9) rfl dX2_dropMarked_30 ?_
        refine gCallN_i (As := [.int ((s_at S) k)]) (rest := [.int ((mkU (fun i => s_ms S i + nI (cm mk (pf (s_off S) (s_at S i) (s_n S)) (s_n S))) (s_ms S) (k)) k), .ref (a (11 + k))]) C hO (c_X0_countMarkedFrom l E a (mkS (s_off S) (s_key S) (s_val S) (s_sto S) (s_n S) (s_nx S) (s_dr S) (s_hr S) (s_sc S) (s_on S) (s_said S) (s_sh S) (s_pc S) (s_at S) (s_hd S) (mkU (fun i => s_ms S i + nI (cm mk (pf (s_off S) (s_at S i) (s_n S)) (s_n S))) (s_ms S) (k)) (s_kn S)) mk rk rv F ((s_at S) k) (by omega)) ⟨va_cnB (host := RX2) 1 C.2.2.2.2.1 gX2_dropMarked_X0_countMarkedFrom_n183 rfl rfl rfl (C.2.2.2.2.2.2.2.1.2.1 (.methodLinkNest RX2 183 yX0_countMarkedFrom RX2) (by decide +kernel)) (C.2.2.2.2.1 (.initialized RX0) (by decide +kernel)) (by decide +kernel) ⟨(Nat.le_of_ble_eq_true rfl), (Nat.le_of_ble_eq_true rfl)⟩, C.2.2.2.2.1 (.instanceMethod yX0_countMarkedFrom) (by decide +kernel), C.2.2.2.2.1 (.selects RX0 yX0_countMarkedFrom yX0_countMarkedFrom) (by decide +kernel)⟩ (va_recv C.2.2.2.2.2.2.2.1.1 hO.1 (ci := 0) (q0 := 1) rfl rfl) rfl hl.1 rfl (Nat.le_of_ble_eq_true rfl) dX2_dropMarked_33 ⟨(Nat.le_of_ble_eq_true rfl), (Nat.le_of_ble_eq_true rfl)⟩ (fun H locs hO => ?_)
        refine lv_iadd C.1 C.2.1 dX2_dropMarked_36 ?_
        refine gPutN (ws' := (xW E a (mkS (s_off S) (s_key S) (s_val S) (s_sto S) (s_n S) (s_nx S) (s_dr S) (s_hr S) (s_sc S) (s_on S) (s_said S) (s_sh S) (s_pc S) (s_at S) (s_hd S) (upd (mkU (fun i => s_ms S i + nI (cm mk (pf (s_off S) (s_at S i) (s_n S)) (s_n S))) (s_ms S) (k)) k (((mkU (fun i => s_ms S i + nI (cm mk (pf (s_off S) (s_at S i) (s_n S)) (s_n S))) (s_ms S) (k)) k) + (nI (cm mk (pf (s_off S) ((s_at S) k) (s_n S)) (s_n S))))) (s_kn S)) mk rk rv ++ F)) (ref := RX1) (Cn := RX1) (T := TX1) (N := 5) (host := RX2) C iX1 tyX1 tyX1_ok nmX1 hO (11 + k) (xw_ship (by omega)) rfl 4 (by decide) (by decide +kernel) (fun _ h9 => h9) rfl (by decide +kernel) rfl rfl (Nat.le_of_ble_eq_true rfl) (xs_ms (by omega) _) dX2_dropMarked_37 (fun H locs hO => ?_)
        have hO : gO E A s (xW E a (mkS (s_off S) (s_key S) (s_val S) (s_sto S) (s_n S) (s_nx S) (s_dr S) (s_hr S) (s_sc S) (s_on S) (s_said S) (s_sh S) (s_pc S) (s_at S) (s_hd S) (mkU (fun i => s_ms S i + nI (cm mk (pf (s_off S) (s_at S i) (s_n S)) (s_n S))) (s_ms S) (k + 1)) (s_kn S)) mk rk rv ++ F) H locs := by rw [mkU_sv (g := (fun i => s_ms S i + nI (cm mk (pf (s_off S) (s_at S i) (s_n S)) (s_n S)))) (mk := s_ms S) (n := k) (x := mkU (fun i => s_ms S i + nI (cm mk (pf (s_off S) (s_at S i) (s_n S)) (s_n S))) (s_ms S) k k + nI (cm mk (pf (s_off S) (s_at S k) (s_n S)) (s_n S))) (by rw [mkU_ge (Nat.lt_irrefl k)])]; exact hO
        refine gInc (j := k) (k := 1) (lv' := [(1, .int (nI (k + 1))), (0, .ref (a 0))]) C.1 C.2.1 dX2_dropMarked_40 hl rfl (by decide) rfl (fun ls hl => ?_)
        refine lv_goto (tgt := 2) C.1 C.2.1 dX2_dropMarked_43 (by decide) ?_
        refine W.widen (k := 0) (n := 0) (by omega) (by omega) ?_
        exact ih24 (k + 1) (by omega) (by omega) _ _ hO _ (lv_sub hl [1, 0] rfl)
  exact lp24 (s_sh S + 1) 0 (by omega) (Nat.zero_le _) _ _ hO _ (lv_sub hl [1, 0] rfl)

set_option maxHeartbeats 4000000 in
set_option maxRecDepth 100000 in
theorem c_X2_speak (l : Launch) (E : gE) (a : Nat → Nat) (S : St) (mk rk rv : Nat → Int32) (F : va_W) (k v : Int32) (hn : s_n S ≤ 48) (hsh : s_sh S ≤ 6) (hsc : s_sc S ≤ 8) (hOn : ¬ s_on S = 0 → 1 ≤ s_sc S) : gMi l E yX2_speak wsX2_speak ({ frames := 3, cells := 0, slots := 0, locals := 66 }) (xW E a S mk rk rv ++ F) [.ref (a 0), .int k, .int v] (s_nx S) (xW E a (S_spk S k v) (mk_spk S mk) rk rv ++ F) 0 0 := by
  refine gMi.of (cc := cX2_speak) (maxL := 4) (ty := .int) (by decide) rfl (Nat.le_of_ble_eq_true rfl) ?_
  intro p e s m args below meth c A C ls hl hO
  have hl : lv_has ls 4 [(0, .ref (a 0)), (1, .int k), (2, .int v)] := hl
  have iX0 : ∀ w ∈ u_ws RX0 TX0 8, w ∈ wsX2_speak := by decide +kernel
  have iX2 : ∀ w ∈ u_ws RX2 TX2 9, w ∈ wsX2_speak := by decide +kernel
  have w10 : Cond.fieldLink RX2 10 "ParrotLog" "log" "LParrotLog$Log;" ∈ wsX2_speak := by decide +kernel
  have w50 : Cond.fieldLink RX2 50 "ParrotLog" "stormOn" "Z" ∈ wsX2_speak := by decide +kernel
  have w59 : Cond.fieldLink RX2 59 "ParrotLog" "stormCount" "I" ∈ wsX2_speak := by decide +kernel
  have w16 : Cond.fieldLink RX2 16 "ParrotLog" "saidInStorm" "[I" ∈ wsX2_speak := by decide +kernel
  refine lv_aload_n C.1 C.2.1 dX2_speak_0 rfl (lv_at hl 0 rfl) ?_
  refine gGet (v := .ref (a 1)) (ref := RX2) (Cn := RX2) (T := TX2) (N := 9) C iX2 hO 0 rfl rfl 0 (by decide) w10 (fun _ h9 => h9) rfl dX2_speak_1 ?_
  refine gGetN (v := .int (nI (s_n S))) (ref := RX0) (Cn := RX0) (T := TX0) (N := 8) (host := RX2) C iX0 hO 1 rfl rfl 5 (by decide) (by decide +kernel) (fun _ h9 => h9) rfl dX2_speak_4 ?_
  refine lv_bipush (v := nI 48) C.1 C.2.1 dX2_speak_7 (by decide) ?_
  have hcase : s_n S < 48 ∨ 48 ≤ s_n S := by omega
  have jn24 : ∀ (T : St) (mk1 : Nat → Int32), (S_room S = T) → (mk_spk S mk = mk1) → (s_n T < 48) → (s_on T = s_on S) → (s_sc T = s_sc S) → (s_nx T = s_nx S) → ∀ (H : Heap) (locs : List Loc), gO E A s (xW E a T mk1 rk rv ++ F) H locs → ∀ ls : Array Slot, lv_has ls 4 [(0, .ref (a 0)), (1, .int k), (2, .int v)] → W p l e ({ frames := 3, cells := 0, slots := 0, locals := 66 } : Room) s m args below meth c H locs 0 0 (MQ below (gQi E A (s_nx S) (xW E a (S_spk S k v) (mk_spk S mk) rk rv ++ F)) args s 0 0 A) (F0 m 24 ls []) := by
    intro T mk1 hT24 hmk hTn hTo hTs hTx H locs hO ls hl
    refine lv_iconst (v := (-1)) C.1 C.2.1 dX2_speak_24 (by decide) ?_
    refine lv_istore_n (lv' := [(3, .int (-1)), (0, .ref (a 0)), (1, .int k), (2, .int v)]) C.1 C.2.1 dX2_speak_25 rfl hl (by decide) rfl (fun ls hl => ?_)
    refine lv_aload_n C.1 C.2.1 dX2_speak_26 rfl (lv_at hl 1 rfl) ?_
    refine gGet (v := .int (s_on T)) (ref := RX2) (Cn := RX2) (T := TX2) (N := 9) C iX2 hO 0 rfl rfl 7 (by decide) w50 (fun _ h9 => h9) rfl dX2_speak_27 ?_
    refine lv_if_eq (tgt := 50) C.1 C.2.1 dX2_speak_30 (by decide) (fun c_1 => ?_) (fun c_1 => ?_)
    · have hzo : s_on T = 0 := c_1
      refine lv_aload_n C.1 C.2.1 dX2_speak_50 rfl (lv_at hl 1 rfl) ?_
      refine gGet (v := .ref (a 1)) (ref := RX2) (Cn := RX2) (T := TX2) (N := 9) C iX2 hO 0 rfl rfl 0 (by decide) w10 (fun _ h9 => h9) rfl dX2_speak_51 ?_
      refine lv_iload_n C.1 C.2.1 dX2_speak_54 rfl (lv_at hl 2 rfl) ?_
      refine lv_iload_n C.1 C.2.1 dX2_speak_55 rfl (lv_at hl 3 rfl) ?_
      refine lv_iload_n C.1 C.2.1 dX2_speak_56 rfl (lv_at hl 0 rfl) ?_
      refine gCallN_i (As := [.int k, .int v, .int (-1)]) (rest := []) C hO (c_X0_append l E a T mk1 rk rv F k v (-1) (by omega)) ⟨va_cnB (host := RX2) 3 C.2.2.2.2.1 gX2_speak_X0_append_n216 rfl rfl rfl (C.2.2.2.2.2.2.2.1.2.1 (.methodLinkNest RX2 216 yX0_append RX2) (by decide +kernel)) (C.2.2.2.2.1 (.initialized RX0) (by decide +kernel)) (by decide +kernel) ⟨(Nat.le_of_ble_eq_true rfl), (Nat.le_of_ble_eq_true rfl)⟩, C.2.2.2.2.1 (.instanceMethod yX0_append) (by decide +kernel), C.2.2.2.2.1 (.selects RX0 yX0_append yX0_append) (by decide +kernel)⟩ (va_recv C.2.2.2.2.2.2.2.1.1 hO.1 (ci := 0) (q0 := 1) rfl rfl) rfl hl.1 rfl (Nat.le_of_ble_eq_true rfl) dX2_speak_57 ⟨(Nat.le_of_ble_eq_true rfl), (Nat.le_of_ble_eq_true rfl)⟩ (fun H locs hO => ?_)
      have hO : gO E A s (xW E a (S_app T k v (-1)) mk1 rk rv ++ F) H locs := hO
      exact gRi C (by first | (rw [S_spk_0 hT24 hzo hTo, hmk]; exact hO) | (rw [S_spk_1 hT24 hzo hTo hTs, hmk]; exact hO)) rfl hTx dX2_speak_60 (Nat.le_of_ble_eq_true rfl) (Nat.le_of_ble_eq_true rfl)
    · have hzo : ¬ s_on T = 0 := c_1
      have h1s : 1 ≤ s_sc T := by rw [hTs]; exact hOn (by rw [← hTo]; exact hzo)
      refine lv_aload_n C.1 C.2.1 dX2_speak_33 rfl (lv_at hl 1 rfl) ?_
      refine gGet (v := .int (nI (s_sc T))) (ref := RX2) (Cn := RX2) (T := TX2) (N := 9) C iX2 hO 0 rfl rfl 6 (by decide) w59 (fun _ h9 => h9) rfl dX2_speak_34 ?_
      refine lv_iconst (v := 1) C.1 C.2.1 dX2_speak_37 (by decide) ?_
      refine gSubN (x := (s_sc T)) (y := 1) C.1 C.2.1 h1s dX2_speak_38 ?_
      refine lv_istore_n (lv' := [(3, .int (nI ((s_sc T) - 1))), (0, .ref (a 0)), (1, .int k), (2, .int v)]) C.1 C.2.1 dX2_speak_39 rfl hl (by decide) rfl (fun ls hl => ?_)
      refine lv_aload_n C.1 C.2.1 dX2_speak_40 rfl (lv_at hl 1 rfl) ?_
      refine gGet (v := .ref (a 7)) (ref := RX2) (Cn := RX2) (T := TX2) (N := 9) C iX2 hO 0 rfl rfl 1 (by decide) w16 (fun _ h9 => h9) rfl dX2_speak_41 ?_
      refine lv_iload_n C.1 C.2.1 dX2_speak_44 rfl (lv_at hl 0 rfl) ?_
      refine lv_dup2_11 C.1 C.2.1 dX2_speak_45 rfl rfl ?_
      refine gIald (v := (s_said T) ((s_sc T) - 1)) (j := ((s_sc T) - 1)) C hO 7 rfl (by omega) (by decide) rfl dX2_speak_46 ?_
      refine lv_iconst (v := 1) C.1 C.2.1 dX2_speak_47 (by decide) ?_
      refine lv_iadd C.1 C.2.1 dX2_speak_48 ?_
      refine gIast (j := ((s_sc T) - 1)) (ws' := (xW E a (mkS (s_off T) (s_key T) (s_val T) (s_sto T) (s_n T) (s_nx T) (s_dr T) (s_hr T) (s_sc T) (s_on T) (upd (s_said T) ((s_sc T) - 1) (((s_said T) ((s_sc T) - 1)) + 1)) (s_sh T) (s_pc T) (s_at T) (s_hd T) (s_ms T) (s_kn T)) mk1 rk rv ++ F)) C hO 7 rfl (by omega) (by decide) rfl dX2_speak_49 (fun H locs hO => ?_)
      refine lv_aload_n C.1 C.2.1 dX2_speak_50 rfl (lv_at hl 1 rfl) ?_
      refine gGet (v := .ref (a 1)) (ref := RX2) (Cn := RX2) (T := TX2) (N := 9) C iX2 hO 0 rfl rfl 0 (by decide) w10 (fun _ h9 => h9) rfl dX2_speak_51 ?_
      refine lv_iload_n C.1 C.2.1 dX2_speak_54 rfl (lv_at hl 2 rfl) ?_
      refine lv_iload_n C.1 C.2.1 dX2_speak_55 rfl (lv_at hl 3 rfl) ?_
      refine lv_iload_n C.1 C.2.1 dX2_speak_56 rfl (lv_at hl 0 rfl) ?_
      refine gCallN_i (As := [.int k, .int v, .int (nI ((s_sc T) - 1))]) (rest := []) C hO (c_X0_append l E a (mkS (s_off T) (s_key T) (s_val T) (s_sto T) (s_n T) (s_nx T) (s_dr T) (s_hr T) (s_sc T) (s_on T) (upd (s_said T) ((s_sc T) - 1) (((s_said T) ((s_sc T) - 1)) + 1)) (s_sh T) (s_pc T) (s_at T) (s_hd T) (s_ms T) (s_kn T)) mk1 rk rv F k v (nI ((s_sc T) - 1)) (by omega)) ⟨va_cnB (host := RX2) 3 C.2.2.2.2.1 gX2_speak_X0_append_n216 rfl rfl rfl (C.2.2.2.2.2.2.2.1.2.1 (.methodLinkNest RX2 216 yX0_append RX2) (by decide +kernel)) (C.2.2.2.2.1 (.initialized RX0) (by decide +kernel)) (by decide +kernel) ⟨(Nat.le_of_ble_eq_true rfl), (Nat.le_of_ble_eq_true rfl)⟩, C.2.2.2.2.1 (.instanceMethod yX0_append) (by decide +kernel), C.2.2.2.2.1 (.selects RX0 yX0_append yX0_append) (by decide +kernel)⟩ (va_recv C.2.2.2.2.2.2.2.1.1 hO.1 (ci := 0) (q0 := 1) rfl rfl) rfl hl.1 rfl (Nat.le_of_ble_eq_true rfl) dX2_speak_57 ⟨(Nat.le_of_ble_eq_true rfl), (Nat.le_of_ble_eq_true rfl)⟩ (fun H locs hO => ?_)
      have hO : gO E A s (xW E a (S_app (mkS (s_off T) (s_key T) (s_val T) (s_sto T) (s_n T) (s_nx T) (s_dr T) (s_hr T) (s_sc T) (s_on T) (upd (s_said T) ((s_sc T) - 1) (((s_said T) ((s_sc T) - 1)) + 1)) (s_sh T) (s_pc T) (s_at T) (s_hd T) (s_ms T) (s_kn T)) k v (nI ((s_sc T) - 1))) mk1 rk rv ++ F) H locs := hO
      exact gRi C (by first | (rw [S_spk_0 hT24 hzo hTo, hmk]; exact hO) | (rw [S_spk_1 hT24 hzo hTo hTs, hmk]; exact hO)) rfl hTx dX2_speak_60 (Nat.le_of_ble_eq_true rfl) (Nat.le_of_ble_eq_true rfl)
  refine gLtN (x := (s_n S)) (y := 48) (tgt := 24) C.1 C.2.1 (by omega) (by omega) dX2_speak_9 (by decide) (fun c_2 => ?_) (fun c_2 => ?_)
  · have hz : s_n S < 48 := c_2
    exact jn24 S mk (if_pos hz) (if_pos hz) hz rfl rfl rfl _ _ hO _ (lv_sub hl [0, 1, 2] rfl)
  · have hz : ¬ s_n S < 48 := by omega
    have hT0 : S_room S = S_drop S (mkU gFirst mk (s_n S)) := (if_neg hz).trans (S_drop_congr (fun i hi => (mkU_at hi).symm))
    refine lv_aload_n C.1 C.2.1 dX2_speak_12 rfl (lv_at hl 0 rfl) ?_
    refine gGet (v := .ref (a 1)) (ref := RX2) (Cn := RX2) (T := TX2) (N := 9) C iX2 hO 0 rfl rfl 0 (by decide) w10 (fun _ h9 => h9) rfl dX2_speak_13 ?_
    refine gCallN_v (As := []) (rest := []) C hO (c_X0_markFirst l E a S mk rk rv F (by omega)) ⟨va_cnB (host := RX2) 0 C.2.2.2.2.1 gX2_speak_X0_markFirst_n213 rfl rfl rfl (C.2.2.2.2.2.2.2.1.2.1 (.methodLinkNest RX2 213 yX0_markFirst RX2) (by decide +kernel)) (C.2.2.2.2.1 (.initialized RX0) (by decide +kernel)) (by decide +kernel) ⟨(Nat.le_of_ble_eq_true rfl), (Nat.le_of_ble_eq_true rfl)⟩, C.2.2.2.2.1 (.instanceMethod yX0_markFirst) (by decide +kernel), C.2.2.2.2.1 (.selects RX0 yX0_markFirst yX0_markFirst) (by decide +kernel)⟩ (va_recv C.2.2.2.2.2.2.2.1.1 hO.1 (ci := 0) (q0 := 1) rfl rfl) rfl hl.1 rfl (Nat.le_of_ble_eq_true rfl) dX2_speak_16 ⟨(Nat.le_of_ble_eq_true rfl), (Nat.le_of_ble_eq_true rfl)⟩ (fun H locs hO => ?_)
    have hO : gO E A s (xW E a S (mkU gFirst mk (s_n S)) rk rv ++ F) H locs := hO
    refine lv_aload_n C.1 C.2.1 dX2_speak_19 rfl (lv_at hl 0 rfl) ?_
    refine gCall_i (As := []) (rest := []) C hO (c_X2_dropMarked l E a S (mkU gFirst mk (s_n S)) rk rv F (by omega) (by omega)) (cwV 0 C.2.2.2.2.1 gX2_speak_X2_dropMarked rfl rfl rfl (by decide +kernel) ⟨(Nat.le_of_ble_eq_true rfl), (Nat.le_of_ble_eq_true rfl)⟩) (va_recv C.2.2.2.2.2.2.2.1.1 hO.1 (ci := 2) (q0 := 0) rfl rfl) rfl hl.1 rfl (Nat.le_of_ble_eq_true rfl) dX2_speak_20 ⟨(Nat.le_of_ble_eq_true rfl), (Nat.le_of_ble_eq_true rfl)⟩ (fun H locs hO => ?_)
    have hO : gO E A s (xW E a (S_drop S (mkU gFirst mk (s_n S))) (mkU gFirst mk (s_n S)) rk rv ++ F) H locs := hO
    refine lv_pop C.1 C.2.1 dX2_speak_23 rfl ?_
    refine W.widen (k := 0) (n := 0) (by omega) (by omega) ?_
    exact jn24 (S_drop S (mkU gFirst mk (s_n S))) (mkU gFirst mk (s_n S)) hT0 (if_neg hz) (by rw [← hT0]; exact S_room_n hn) rfl rfl rfl _ _ hO _ (lv_sub hl [0, 1, 2] rfl)
end
