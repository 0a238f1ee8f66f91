section
-- ===== PART A: goes FIRST, ahead of the names: the tables' words, and 'selects' of the private methods out of them =====
/-- a private method of a class that the tables say can be made, by its rows of tables_1 -/
def lw_okq (q : MethodName × Nat) : Prop := (q.1.cls ≠ "java/lang/invoke/MethodHandle" ∧ q.1.cls ≠ "java/lang/invoke/VarHandle") ∧ Cond.instantiable q.1.cls q.2 ∈ tables_1 ∧ Cond.privateMethod q.1 ∈ tables_1 ∧ Cond.instanceMethod q.1 ∈ tables_1
theorem lw_p0 : lw_okq (⟨"RobbedOnce$Past", "forget", "()V"⟩, 3) := ⟨⟨by decide +kernel, by decide +kernel⟩, List.mem_of_getElem? (i := 95) (by decide +kernel), List.mem_of_getElem? (i := 203) (by decide +kernel), List.mem_of_getElem? (i := 204) (by decide +kernel)⟩
theorem lw_p1 : lw_okq (⟨"RobbedOnce$Town", "addApprentice", "(III)I"⟩, 13) := ⟨⟨by decide +kernel, by decide +kernel⟩, List.mem_of_getElem? (i := 25) (by decide +kernel), List.mem_of_getElem? (i := 207) (by decide +kernel), List.mem_of_getElem? (i := 208) (by decide +kernel)⟩
theorem lw_p2 : lw_okq (⟨"RobbedOnce$Town", "setShown", "(IZ)V"⟩, 13) := ⟨⟨by decide +kernel, by decide +kernel⟩, List.mem_of_getElem? (i := 25) (by decide +kernel), List.mem_of_getElem? (i := 211) (by decide +kernel), List.mem_of_getElem? (i := 212) (by decide +kernel)⟩
theorem lw_p3 : lw_okq (⟨"RobbedOnce$Town", "addThief", "(II)I"⟩, 13) := ⟨⟨by decide +kernel, by decide +kernel⟩, List.mem_of_getElem? (i := 25) (by decide +kernel), List.mem_of_getElem? (i := 219) (by decide +kernel), List.mem_of_getElem? (i := 220) (by decide +kernel)⟩
theorem lw_p4 : lw_okq (⟨"RobbedOnce", "isApprentice", "(I)Z"⟩, 9) := ⟨⟨by decide +kernel, by decide +kernel⟩, List.mem_of_getElem? (i := 17) (by decide +kernel), List.mem_of_getElem? (i := 231) (by decide +kernel), List.mem_of_getElem? (i := 232) (by decide +kernel)⟩
theorem lw_p5 : lw_okq (⟨"RobbedOnce$Town", "thievesWhoMayRob", "(I)I"⟩, 13) := ⟨⟨by decide +kernel, by decide +kernel⟩, List.mem_of_getElem? (i := 25) (by decide +kernel), List.mem_of_getElem? (i := 238) (by decide +kernel), List.mem_of_getElem? (i := 239) (by decide +kernel)⟩
theorem lw_p6 : lw_okq (⟨"RobbedOnce$Town", "mayRob", "(II)Z"⟩, 13) := ⟨⟨by decide +kernel, by decide +kernel⟩, List.mem_of_getElem? (i := 25) (by decide +kernel), List.mem_of_getElem? (i := 242) (by decide +kernel), List.mem_of_getElem? (i := 243) (by decide +kernel)⟩
theorem lw_p7 : lw_okq (⟨"RobbedOnce", "isThief", "(I)Z"⟩, 9) := ⟨⟨by decide +kernel, by decide +kernel⟩, List.mem_of_getElem? (i := 17) (by decide +kernel), List.mem_of_getElem? (i := 250) (by decide +kernel), List.mem_of_getElem? (i := 251) (by decide +kernel)⟩
theorem lw_p8 : lw_okq (⟨"RobbedOnce$Town", "whomMayRob", "(I)I"⟩, 13) := ⟨⟨by decide +kernel, by decide +kernel⟩, List.mem_of_getElem? (i := 25) (by decide +kernel), List.mem_of_getElem? (i := 254) (by decide +kernel), List.mem_of_getElem? (i := 255) (by decide +kernel)⟩
theorem lw_p9 : lw_okq (⟨"RobbedOnce$Tape", "add", "(I)I"⟩, 3) := ⟨⟨by decide +kernel, by decide +kernel⟩, List.mem_of_getElem? (i := 127) (by decide +kernel), List.mem_of_getElem? (i := 262) (by decide +kernel), List.mem_of_getElem? (i := 263) (by decide +kernel)⟩
theorem lw_p10 : lw_okq (⟨"RobbedOnce$Tape", "readTown", "(LRobbedOnce$Town;)Z"⟩, 3) := ⟨⟨by decide +kernel, by decide +kernel⟩, List.mem_of_getElem? (i := 127) (by decide +kernel), List.mem_of_getElem? (i := 270) (by decide +kernel), List.mem_of_getElem? (i := 271) (by decide +kernel)⟩
theorem lw_p11 : lw_okq (⟨"RobbedOnce$Town", "empty", "()V"⟩, 13) := ⟨⟨by decide +kernel, by decide +kernel⟩, List.mem_of_getElem? (i := 25) (by decide +kernel), List.mem_of_getElem? (i := 274) (by decide +kernel), List.mem_of_getElem? (i := 275) (by decide +kernel)⟩
theorem lw_p12 : lw_okq (⟨"RobbedOnce$Tape", "readNumber", "()I"⟩, 3) := ⟨⟨by decide +kernel, by decide +kernel⟩, List.mem_of_getElem? (i := 127) (by decide +kernel), List.mem_of_getElem? (i := 278) (by decide +kernel), List.mem_of_getElem? (i := 279) (by decide +kernel)⟩
theorem lw_p13 : lw_okq (⟨"RobbedOnce$Tape", "readDigit", "(I)I"⟩, 3) := ⟨⟨by decide +kernel, by decide +kernel⟩, List.mem_of_getElem? (i := 127) (by decide +kernel), List.mem_of_getElem? (i := 282) (by decide +kernel), List.mem_of_getElem? (i := 283) (by decide +kernel)⟩
theorem lw_p14 : lw_okq (⟨"RobbedOnce$Tape", "peek", "()I"⟩, 3) := ⟨⟨by decide +kernel, by decide +kernel⟩, List.mem_of_getElem? (i := 127) (by decide +kernel), List.mem_of_getElem? (i := 286) (by decide +kernel), List.mem_of_getElem? (i := 287) (by decide +kernel)⟩
theorem lw_p15 : lw_okq (⟨"RobbedOnce$Tape", "takes", "(C)Z"⟩, 3) := ⟨⟨by decide +kernel, by decide +kernel⟩, List.mem_of_getElem? (i := 127) (by decide +kernel), List.mem_of_getElem? (i := 290) (by decide +kernel), List.mem_of_getElem? (i := 291) (by decide +kernel)⟩
def lw_privs_1 : List (MethodName × Nat) := [(⟨"RobbedOnce$Past", "forget", "()V"⟩, 3), (⟨"RobbedOnce$Town", "addApprentice", "(III)I"⟩, 13), (⟨"RobbedOnce$Town", "setShown", "(IZ)V"⟩, 13), (⟨"RobbedOnce$Town", "addThief", "(II)I"⟩, 13), (⟨"RobbedOnce", "isApprentice", "(I)Z"⟩, 9), (⟨"RobbedOnce$Town", "thievesWhoMayRob", "(I)I"⟩, 13), (⟨"RobbedOnce$Town", "mayRob", "(II)Z"⟩, 13), (⟨"RobbedOnce", "isThief", "(I)Z"⟩, 9), (⟨"RobbedOnce$Town", "whomMayRob", "(I)I"⟩, 13), (⟨"RobbedOnce$Tape", "add", "(I)I"⟩, 3), (⟨"RobbedOnce$Tape", "readTown", "(LRobbedOnce$Town;)Z"⟩, 3), (⟨"RobbedOnce$Town", "empty", "()V"⟩, 13), (⟨"RobbedOnce$Tape", "readNumber", "()I"⟩, 3), (⟨"RobbedOnce$Tape", "readDigit", "(I)I"⟩, 3), (⟨"RobbedOnce$Tape", "peek", "()I"⟩, 3), (⟨"RobbedOnce$Tape", "takes", "(C)Z"⟩, 3)]
theorem lw_r1 : ∀ q ∈ lw_privs_1, lw_okq q := List.forall_mem_cons.mpr ⟨lw_p0, List.forall_mem_cons.mpr ⟨lw_p1, List.forall_mem_cons.mpr ⟨lw_p2, List.forall_mem_cons.mpr ⟨lw_p3, List.forall_mem_cons.mpr ⟨lw_p4, List.forall_mem_cons.mpr ⟨lw_p5, List.forall_mem_cons.mpr ⟨lw_p6, List.forall_mem_cons.mpr ⟨lw_p7, List.forall_mem_cons.mpr ⟨lw_p8, List.forall_mem_cons.mpr ⟨lw_p9, List.forall_mem_cons.mpr ⟨lw_p10, List.forall_mem_cons.mpr ⟨lw_p11, List.forall_mem_cons.mpr ⟨lw_p12, List.forall_mem_cons.mpr ⟨lw_p13, List.forall_mem_cons.mpr ⟨lw_p14, List.forall_mem_cons.mpr ⟨lw_p15, fun _ h => absurd h List.not_mem_nil⟩⟩⟩⟩⟩⟩⟩⟩⟩⟩⟩⟩⟩⟩⟩⟩
theorem lw_p16 : lw_okq (⟨"RobbedOnce$Tape", "readApprentices", "(LRobbedOnce$Town;)Z"⟩, 3) := ⟨⟨by decide +kernel, by decide +kernel⟩, List.mem_of_getElem? (i := 127) (by decide +kernel), List.mem_of_getElem? (i := 294) (by decide +kernel), List.mem_of_getElem? (i := 295) (by decide +kernel)⟩
theorem lw_p17 : lw_okq (⟨"RobbedOnce$Tape", "readApprentice", "(LRobbedOnce$Town;)Z"⟩, 3) := ⟨⟨by decide +kernel, by decide +kernel⟩, List.mem_of_getElem? (i := 127) (by decide +kernel), List.mem_of_getElem? (i := 298) (by decide +kernel), List.mem_of_getElem? (i := 299) (by decide +kernel)⟩
theorem lw_p18 : lw_okq (⟨"RobbedOnce$Tape", "readThieves", "(LRobbedOnce$Town;)Z"⟩, 3) := ⟨⟨by decide +kernel, by decide +kernel⟩, List.mem_of_getElem? (i := 127) (by decide +kernel), List.mem_of_getElem? (i := 391) (by decide +kernel), List.mem_of_getElem? (i := 392) (by decide +kernel)⟩
theorem lw_p19 : lw_okq (⟨"RobbedOnce$Tape", "clear", "()V"⟩, 3) := ⟨⟨by decide +kernel, by decide +kernel⟩, List.mem_of_getElem? (i := 127) (by decide +kernel), List.mem_of_getElem? (i := 396) (by decide +kernel), List.mem_of_getElem? (i := 397) (by decide +kernel)⟩
theorem lw_p20 : lw_okq (⟨"RobbedOnce$Town", "become", "(LRobbedOnce$Town;)V"⟩, 13) := ⟨⟨by decide +kernel, by decide +kernel⟩, List.mem_of_getElem? (i := 25) (by decide +kernel), List.mem_of_getElem? (i := 400) (by decide +kernel), List.mem_of_getElem? (i := 401) (by decide +kernel)⟩
theorem lw_p21 : lw_okq (⟨"RobbedOnce$Town", "dearTogether", "()I"⟩, 13) := ⟨⟨by decide +kernel, by decide +kernel⟩, List.mem_of_getElem? (i := 25) (by decide +kernel), List.mem_of_getElem? (i := 412) (by decide +kernel), List.mem_of_getElem? (i := 413) (by decide +kernel)⟩
theorem lw_p22 : lw_okq (⟨"RobbedOnce", "spend", "(IZ)I"⟩, 9) := ⟨⟨by decide +kernel, by decide +kernel⟩, List.mem_of_getElem? (i := 17) (by decide +kernel), List.mem_of_getElem? (i := 421) (by decide +kernel), List.mem_of_getElem? (i := 422) (by decide +kernel)⟩
theorem lw_p23 : lw_okq (⟨"RobbedOnce$Past", "keep", "(LRobbedOnce$Town;)V"⟩, 3) := ⟨⟨by decide +kernel, by decide +kernel⟩, List.mem_of_getElem? (i := 95) (by decide +kernel), List.mem_of_getElem? (i := 425) (by decide +kernel), List.mem_of_getElem? (i := 426) (by decide +kernel)⟩
theorem lw_p24 : lw_okq (⟨"RobbedOnce$Town", "drawWhoShows", "()V"⟩, 13) := ⟨⟨by decide +kernel, by decide +kernel⟩, List.mem_of_getElem? (i := 25) (by decide +kernel), List.mem_of_getElem? (i := 431) (by decide +kernel), List.mem_of_getElem? (i := 432) (by decide +kernel)⟩
theorem lw_p25 : lw_okq (⟨"RobbedOnce$Town", "pass", "(I)V"⟩, 13) := ⟨⟨by decide +kernel, by decide +kernel⟩, List.mem_of_getElem? (i := 25) (by decide +kernel), List.mem_of_getElem? (i := 438) (by decide +kernel), List.mem_of_getElem? (i := 439) (by decide +kernel)⟩
theorem lw_p26 : lw_okq (⟨"RobbedOnce$Town", "robbedTonight", "(I)I"⟩, 13) := ⟨⟨by decide +kernel, by decide +kernel⟩, List.mem_of_getElem? (i := 25) (by decide +kernel), List.mem_of_getElem? (i := 442) (by decide +kernel), List.mem_of_getElem? (i := 443) (by decide +kernel)⟩
theorem lw_p27 : lw_okq (⟨"RobbedOnce$Town", "victim", "(II)I"⟩, 13) := ⟨⟨by decide +kernel, by decide +kernel⟩, List.mem_of_getElem? (i := 25) (by decide +kernel), List.mem_of_getElem? (i := 446) (by decide +kernel), List.mem_of_getElem? (i := 447) (by decide +kernel)⟩
theorem lw_p28 : lw_okq (⟨"RobbedOnce$Town", "lose", "(I)V"⟩, 13) := ⟨⟨by decide +kernel, by decide +kernel⟩, List.mem_of_getElem? (i := 25) (by decide +kernel), List.mem_of_getElem? (i := 450) (by decide +kernel), List.mem_of_getElem? (i := 451) (by decide +kernel)⟩
theorem lw_p29 : lw_okq (⟨"RobbedOnce$Town", "growth", "(I)I"⟩, 13) := ⟨⟨by decide +kernel, by decide +kernel⟩, List.mem_of_getElem? (i := 25) (by decide +kernel), List.mem_of_getElem? (i := 454) (by decide +kernel), List.mem_of_getElem? (i := 455) (by decide +kernel)⟩
theorem lw_p30 : lw_okq (⟨"RobbedOnce$Past", "takeBack", "(LRobbedOnce$Town;)V"⟩, 3) := ⟨⟨by decide +kernel, by decide +kernel⟩, List.mem_of_getElem? (i := 95) (by decide +kernel), List.mem_of_getElem? (i := 477) (by decide +kernel), List.mem_of_getElem? (i := 478) (by decide +kernel)⟩
theorem lw_p31 : lw_okq (⟨"RobbedOnce$Foretelling", "after", "(LRobbedOnce$Town;I)LRobbedOnce$Town;"⟩, 1) := ⟨⟨by decide +kernel, by decide +kernel⟩, List.mem_of_getElem? (i := 115) (by decide +kernel), List.mem_of_getElem? (i := 489) (by decide +kernel), List.mem_of_getElem? (i := 490) (by decide +kernel)⟩
def lw_privs_2 : List (MethodName × Nat) := [(⟨"RobbedOnce$Tape", "readApprentices", "(LRobbedOnce$Town;)Z"⟩, 3), (⟨"RobbedOnce$Tape", "readApprentice", "(LRobbedOnce$Town;)Z"⟩, 3), (⟨"RobbedOnce$Tape", "readThieves", "(LRobbedOnce$Town;)Z"⟩, 3), (⟨"RobbedOnce$Tape", "clear", "()V"⟩, 3), (⟨"RobbedOnce$Town", "become", "(LRobbedOnce$Town;)V"⟩, 13), (⟨"RobbedOnce$Town", "dearTogether", "()I"⟩, 13), (⟨"RobbedOnce", "spend", "(IZ)I"⟩, 9), (⟨"RobbedOnce$Past", "keep", "(LRobbedOnce$Town;)V"⟩, 3), (⟨"RobbedOnce$Town", "drawWhoShows", "()V"⟩, 13), (⟨"RobbedOnce$Town", "pass", "(I)V"⟩, 13), (⟨"RobbedOnce$Town", "robbedTonight", "(I)I"⟩, 13), (⟨"RobbedOnce$Town", "victim", "(II)I"⟩, 13), (⟨"RobbedOnce$Town", "lose", "(I)V"⟩, 13), (⟨"RobbedOnce$Town", "growth", "(I)I"⟩, 13), (⟨"RobbedOnce$Past", "takeBack", "(LRobbedOnce$Town;)V"⟩, 3), (⟨"RobbedOnce$Foretelling", "after", "(LRobbedOnce$Town;I)LRobbedOnce$Town;"⟩, 1)]
theorem lw_r2 : ∀ q ∈ lw_privs_2, lw_okq q := List.forall_mem_cons.mpr ⟨lw_p16, List.forall_mem_cons.mpr ⟨lw_p17, List.forall_mem_cons.mpr ⟨lw_p18, List.forall_mem_cons.mpr ⟨lw_p19, List.forall_mem_cons.mpr ⟨lw_p20, List.forall_mem_cons.mpr ⟨lw_p21, List.forall_mem_cons.mpr ⟨lw_p22, List.forall_mem_cons.mpr ⟨lw_p23, List.forall_mem_cons.mpr ⟨lw_p24, List.forall_mem_cons.mpr ⟨lw_p25, List.forall_mem_cons.mpr ⟨lw_p26, List.forall_mem_cons.mpr ⟨lw_p27, List.forall_mem_cons.mpr ⟨lw_p28, List.forall_mem_cons.mpr ⟨lw_p29, List.forall_mem_cons.mpr ⟨lw_p30, List.forall_mem_cons.mpr ⟨lw_p31, fun _ h => absurd h List.not_mem_nil⟩⟩⟩⟩⟩⟩⟩⟩⟩⟩⟩⟩⟩⟩⟩⟩
theorem lw_p32 : lw_okq (⟨"RobbedOnce$Foretelling", "passNights", "(II)V"⟩, 1) := ⟨⟨by decide +kernel, by decide +kernel⟩, List.mem_of_getElem? (i := 115) (by decide +kernel), List.mem_of_getElem? (i := 494) (by decide +kernel), List.mem_of_getElem? (i := 495) (by decide +kernel)⟩
theorem lw_p33 : lw_okq (⟨"RobbedOnce$Foretelling", "nightsUntilSworn", "(LRobbedOnce$Town;I)I"⟩, 1) := ⟨⟨by decide +kernel, by decide +kernel⟩, List.mem_of_getElem? (i := 115) (by decide +kernel), List.mem_of_getElem? (i := 507) (by decide +kernel), List.mem_of_getElem? (i := 508) (by decide +kernel)⟩
theorem lw_p34 : lw_okq (⟨"RobbedOnce$Town", "victimTonight", "(I)I"⟩, 13) := ⟨⟨by decide +kernel, by decide +kernel⟩, List.mem_of_getElem? (i := 25) (by decide +kernel), List.mem_of_getElem? (i := 516) (by decide +kernel), List.mem_of_getElem? (i := 517) (by decide +kernel)⟩
theorem lw_p35 : lw_okq (⟨"RobbedOnce$Foretelling", "bestHiding", "(LRobbedOnce$Town;IZ)I"⟩, 1) := ⟨⟨by decide +kernel, by decide +kernel⟩, List.mem_of_getElem? (i := 115) (by decide +kernel), List.mem_of_getElem? (i := 524) (by decide +kernel), List.mem_of_getElem? (i := 525) (by decide +kernel)⟩
theorem lw_p36 : lw_okq (⟨"RobbedOnce$Foretelling", "nightsIfHidden", "(LRobbedOnce$Town;III)I"⟩, 1) := ⟨⟨by decide +kernel, by decide +kernel⟩, List.mem_of_getElem? (i := 115) (by decide +kernel), List.mem_of_getElem? (i := 528) (by decide +kernel), List.mem_of_getElem? (i := 529) (by decide +kernel)⟩
theorem lw_p37 : lw_okq (⟨"RobbedOnce$Foretelling", "leastCover", "(LRobbedOnce$Town;II)I"⟩, 1) := ⟨⟨by decide +kernel, by decide +kernel⟩, List.mem_of_getElem? (i := 115) (by decide +kernel), List.mem_of_getElem? (i := 537) (by decide +kernel), List.mem_of_getElem? (i := 538) (by decide +kernel)⟩
theorem lw_p38 : lw_okq (⟨"RobbedOnce$Foretelling", "greatestBar", "(LRobbedOnce$Town;I)I"⟩, 1) := ⟨⟨by decide +kernel, by decide +kernel⟩, List.mem_of_getElem? (i := 115) (by decide +kernel), List.mem_of_getElem? (i := 552) (by decide +kernel), List.mem_of_getElem? (i := 553) (by decide +kernel)⟩
theorem lw_p39 : lw_okq (⟨"RobbedOnce$Town", "everybody", "()I"⟩, 13) := ⟨⟨by decide +kernel, by decide +kernel⟩, List.mem_of_getElem? (i := 25) (by decide +kernel), List.mem_of_getElem? (i := 556) (by decide +kernel), List.mem_of_getElem? (i := 557) (by decide +kernel)⟩
theorem lw_p40 : lw_okq (⟨"RobbedOnce$Foretelling", "sparedThief", "(LRobbedOnce$Town;I)I"⟩, 1) := ⟨⟨by decide +kernel, by decide +kernel⟩, List.mem_of_getElem? (i := 115) (by decide +kernel), List.mem_of_getElem? (i := 564) (by decide +kernel), List.mem_of_getElem? (i := 565) (by decide +kernel)⟩
theorem lw_p41 : lw_okq (⟨"RobbedOnce$Foretelling", "swornWithout", "(LRobbedOnce$Town;II)I"⟩, 1) := ⟨⟨by decide +kernel, by decide +kernel⟩, List.mem_of_getElem? (i := 115) (by decide +kernel), List.mem_of_getElem? (i := 568) (by decide +kernel), List.mem_of_getElem? (i := 569) (by decide +kernel)⟩
theorem lw_p42 : lw_okq (⟨"RobbedOnce$Town", "mostRobbedAtOnce", "()I"⟩, 13) := ⟨⟨by decide +kernel, by decide +kernel⟩, List.mem_of_getElem? (i := 25) (by decide +kernel), List.mem_of_getElem? (i := 577) (by decide +kernel), List.mem_of_getElem? (i := 578) (by decide +kernel)⟩
theorem lw_p43 : lw_okq (⟨"RobbedOnce$Foretelling", "mostCareful", "(LRobbedOnce$Town;II)I"⟩, 1) := ⟨⟨by decide +kernel, by decide +kernel⟩, List.mem_of_getElem? (i := 115) (by decide +kernel), List.mem_of_getElem? (i := 587) (by decide +kernel), List.mem_of_getElem? (i := 588) (by decide +kernel)⟩
theorem lw_p44 : lw_okq (⟨"RobbedOnce$Town", "waysRobbed", "(II)I"⟩, 13) := ⟨⟨by decide +kernel, by decide +kernel⟩, List.mem_of_getElem? (i := 25) (by decide +kernel), List.mem_of_getElem? (i := 595) (by decide +kernel), List.mem_of_getElem? (i := 596) (by decide +kernel)⟩
theorem lw_p45 : lw_okq (⟨"RobbedOnce$Past", "become", "(LRobbedOnce$Past;)V"⟩, 3) := ⟨⟨by decide +kernel, by decide +kernel⟩, List.mem_of_getElem? (i := 95) (by decide +kernel), List.mem_of_getElem? (i := 607) (by decide +kernel), List.mem_of_getElem? (i := 608) (by decide +kernel)⟩
theorem lw_p46 : lw_okq (⟨"RobbedOnce$Sheet", "refusal", "(III)I"⟩, 3) := ⟨⟨by decide +kernel, by decide +kernel⟩, List.mem_of_getElem? (i := 147) (by decide +kernel), List.mem_of_getElem? (i := 625) (by decide +kernel), List.mem_of_getElem? (i := 626) (by decide +kernel)⟩
theorem lw_p47 : lw_okq (⟨"RobbedOnce$Sheet", "holds", "(II)Z"⟩, 3) := ⟨⟨by decide +kernel, by decide +kernel⟩, List.mem_of_getElem? (i := 147) (by decide +kernel), List.mem_of_getElem? (i := 629) (by decide +kernel), List.mem_of_getElem? (i := 630) (by decide +kernel)⟩
def lw_privs_3 : List (MethodName × Nat) := [(⟨"RobbedOnce$Foretelling", "passNights", "(II)V"⟩, 1), (⟨"RobbedOnce$Foretelling", "nightsUntilSworn", "(LRobbedOnce$Town;I)I"⟩, 1), (⟨"RobbedOnce$Town", "victimTonight", "(I)I"⟩, 13), (⟨"RobbedOnce$Foretelling", "bestHiding", "(LRobbedOnce$Town;IZ)I"⟩, 1), (⟨"RobbedOnce$Foretelling", "nightsIfHidden", "(LRobbedOnce$Town;III)I"⟩, 1), (⟨"RobbedOnce$Foretelling", "leastCover", "(LRobbedOnce$Town;II)I"⟩, 1), (⟨"RobbedOnce$Foretelling", "greatestBar", "(LRobbedOnce$Town;I)I"⟩, 1), (⟨"RobbedOnce$Town", "everybody", "()I"⟩, 13), (⟨"RobbedOnce$Foretelling", "sparedThief", "(LRobbedOnce$Town;I)I"⟩, 1), (⟨"RobbedOnce$Foretelling", "swornWithout", "(LRobbedOnce$Town;II)I"⟩, 1), (⟨"RobbedOnce$Town", "mostRobbedAtOnce", "()I"⟩, 13), (⟨"RobbedOnce$Foretelling", "mostCareful", "(LRobbedOnce$Town;II)I"⟩, 1), (⟨"RobbedOnce$Town", "waysRobbed", "(II)I"⟩, 13), (⟨"RobbedOnce$Past", "become", "(LRobbedOnce$Past;)V"⟩, 3), (⟨"RobbedOnce$Sheet", "refusal", "(III)I"⟩, 3), (⟨"RobbedOnce$Sheet", "holds", "(II)Z"⟩, 3)]
theorem lw_r3 : ∀ q ∈ lw_privs_3, lw_okq q := List.forall_mem_cons.mpr ⟨lw_p32, List.forall_mem_cons.mpr ⟨lw_p33, List.forall_mem_cons.mpr ⟨lw_p34, List.forall_mem_cons.mpr ⟨lw_p35, List.forall_mem_cons.mpr ⟨lw_p36, List.forall_mem_cons.mpr ⟨lw_p37, List.forall_mem_cons.mpr ⟨lw_p38, List.forall_mem_cons.mpr ⟨lw_p39, List.forall_mem_cons.mpr ⟨lw_p40, List.forall_mem_cons.mpr ⟨lw_p41, List.forall_mem_cons.mpr ⟨lw_p42, List.forall_mem_cons.mpr ⟨lw_p43, List.forall_mem_cons.mpr ⟨lw_p44, List.forall_mem_cons.mpr ⟨lw_p45, List.forall_mem_cons.mpr ⟨lw_p46, List.forall_mem_cons.mpr ⟨lw_p47, fun _ h => absurd h List.not_mem_nil⟩⟩⟩⟩⟩⟩⟩⟩⟩⟩⟩⟩⟩⟩⟩⟩
theorem lw_p48 : lw_okq (⟨"RobbedOnce$Foretelling", "kindsTold", "(LRobbedOnce$Town;ILRobbedOnce$Sheet;II)I"⟩, 1) := ⟨⟨by decide +kernel, by decide +kernel⟩, List.mem_of_getElem? (i := 115) (by decide +kernel), List.mem_of_getElem? (i := 633) (by decide +kernel), List.mem_of_getElem? (i := 634) (by decide +kernel)⟩
theorem lw_p49 : lw_okq (⟨"RobbedOnce$Foretelling", "goesAsTold", "(ILRobbedOnce$Sheet;II)Z"⟩, 1) := ⟨⟨by decide +kernel, by decide +kernel⟩, List.mem_of_getElem? (i := 115) (by decide +kernel), List.mem_of_getElem? (i := 637) (by decide +kernel), List.mem_of_getElem? (i := 638) (by decide +kernel)⟩
theorem lw_p50 : lw_okq (⟨"RobbedOnce$Foretelling", "numbersTold", "(LRobbedOnce$Town;ILRobbedOnce$Sheet;IIZ)I"⟩, 1) := ⟨⟨by decide +kernel, by decide +kernel⟩, List.mem_of_getElem? (i := 115) (by decide +kernel), List.mem_of_getElem? (i := 641) (by decide +kernel), List.mem_of_getElem? (i := 642) (by decide +kernel)⟩
theorem lw_p51 : lw_okq (⟨"RobbedOnce$Foretelling", "tell", "(LRobbedOnce$Town;ILRobbedOnce$Sheet;II)V"⟩, 1) := ⟨⟨by decide +kernel, by decide +kernel⟩, List.mem_of_getElem? (i := 115) (by decide +kernel), List.mem_of_getElem? (i := 649) (by decide +kernel), List.mem_of_getElem? (i := 650) (by decide +kernel)⟩
theorem lw_p52 : lw_okq (⟨"RobbedOnce$Sheet", "put", "(IJ)V"⟩, 3) := ⟨⟨by decide +kernel, by decide +kernel⟩, List.mem_of_getElem? (i := 147) (by decide +kernel), List.mem_of_getElem? (i := 653) (by decide +kernel), List.mem_of_getElem? (i := 654) (by decide +kernel)⟩
theorem lw_p53 : lw_okq (⟨"RobbedOnce$Sheet", "begin", "(II)V"⟩, 3) := ⟨⟨by decide +kernel, by decide +kernel⟩, List.mem_of_getElem? (i := 147) (by decide +kernel), List.mem_of_getElem? (i := 661) (by decide +kernel), List.mem_of_getElem? (i := 662) (by decide +kernel)⟩
theorem lw_p54 : lw_okq (⟨"RobbedOnce$Sheet", "end", "()V"⟩, 3) := ⟨⟨by decide +kernel, by decide +kernel⟩, List.mem_of_getElem? (i := 147) (by decide +kernel), List.mem_of_getElem? (i := 669) (by decide +kernel), List.mem_of_getElem? (i := 670) (by decide +kernel)⟩
theorem lw_p55 : lw_okq (⟨"RobbedOnceModel", "isOne", "(I)Z"⟩, 13) := ⟨⟨by decide +kernel, by decide +kernel⟩, List.mem_of_getElem? (i := 684) (by decide +kernel), List.mem_of_getElem? (i := 755) (by decide +kernel), List.mem_of_getElem? (i := 756) (by decide +kernel)⟩
theorem lw_p56 : lw_okq (⟨"RobbedOnceModel", "robbersOf", "(I)I"⟩, 13) := ⟨⟨by decide +kernel, by decide +kernel⟩, List.mem_of_getElem? (i := 684) (by decide +kernel), List.mem_of_getElem? (i := 759) (by decide +kernel), List.mem_of_getElem? (i := 760) (by decide +kernel)⟩
theorem lw_p57 : lw_okq (⟨"RobbedOnceModel", "isThief", "(I)Z"⟩, 13) := ⟨⟨by decide +kernel, by decide +kernel⟩, List.mem_of_getElem? (i := 684) (by decide +kernel), List.mem_of_getElem? (i := 773) (by decide +kernel), List.mem_of_getElem? (i := 774) (by decide +kernel)⟩
theorem lw_p58 : lw_okq (⟨"RobbedOnceModel", "preyOf", "(I)I"⟩, 13) := ⟨⟨by decide +kernel, by decide +kernel⟩, List.mem_of_getElem? (i := 684) (by decide +kernel), List.mem_of_getElem? (i := 777) (by decide +kernel), List.mem_of_getElem? (i := 778) (by decide +kernel)⟩
theorem lw_p59 : lw_okq (⟨"RobbedOnceModel", "isTown", "()Z"⟩, 13) := ⟨⟨by decide +kernel, by decide +kernel⟩, List.mem_of_getElem? (i := 684) (by decide +kernel), List.mem_of_getElem? (i := 789) (by decide +kernel), List.mem_of_getElem? (i := 790) (by decide +kernel)⟩
theorem lw_p60 : lw_okq (⟨"RobbedOnceModel", "isNumber", "()Z"⟩, 13) := ⟨⟨by decide +kernel, by decide +kernel⟩, List.mem_of_getElem? (i := 684) (by decide +kernel), List.mem_of_getElem? (i := 793) (by decide +kernel), List.mem_of_getElem? (i := 794) (by decide +kernel)⟩
theorem lw_p61 : lw_okq (⟨"RobbedOnceModel", "isDigit", "(II)Z"⟩, 13) := ⟨⟨by decide +kernel, by decide +kernel⟩, List.mem_of_getElem? (i := 684) (by decide +kernel), List.mem_of_getElem? (i := 797) (by decide +kernel), List.mem_of_getElem? (i := 798) (by decide +kernel)⟩
theorem lw_p62 : lw_okq (⟨"RobbedOnceModel", "peek", "()I"⟩, 13) := ⟨⟨by decide +kernel, by decide +kernel⟩, List.mem_of_getElem? (i := 684) (by decide +kernel), List.mem_of_getElem? (i := 801) (by decide +kernel), List.mem_of_getElem? (i := 802) (by decide +kernel)⟩
theorem lw_p63 : lw_okq (⟨"RobbedOnceModel", "isSign", "(I)Z"⟩, 13) := ⟨⟨by decide +kernel, by decide +kernel⟩, List.mem_of_getElem? (i := 684) (by decide +kernel), List.mem_of_getElem? (i := 805) (by decide +kernel), List.mem_of_getElem? (i := 806) (by decide +kernel)⟩
def lw_privs_4 : List (MethodName × Nat) := [(⟨"RobbedOnce$Foretelling", "kindsTold", "(LRobbedOnce$Town;ILRobbedOnce$Sheet;II)I"⟩, 1), (⟨"RobbedOnce$Foretelling", "goesAsTold", "(ILRobbedOnce$Sheet;II)Z"⟩, 1), (⟨"RobbedOnce$Foretelling", "numbersTold", "(LRobbedOnce$Town;ILRobbedOnce$Sheet;IIZ)I"⟩, 1), (⟨"RobbedOnce$Foretelling", "tell", "(LRobbedOnce$Town;ILRobbedOnce$Sheet;II)V"⟩, 1), (⟨"RobbedOnce$Sheet", "put", "(IJ)V"⟩, 3), (⟨"RobbedOnce$Sheet", "begin", "(II)V"⟩, 3), (⟨"RobbedOnce$Sheet", "end", "()V"⟩, 3), (⟨"RobbedOnceModel", "isOne", "(I)Z"⟩, 13), (⟨"RobbedOnceModel", "robbersOf", "(I)I"⟩, 13), (⟨"RobbedOnceModel", "isThief", "(I)Z"⟩, 13), (⟨"RobbedOnceModel", "preyOf", "(I)I"⟩, 13), (⟨"RobbedOnceModel", "isTown", "()Z"⟩, 13), (⟨"RobbedOnceModel", "isNumber", "()Z"⟩, 13), (⟨"RobbedOnceModel", "isDigit", "(II)Z"⟩, 13), (⟨"RobbedOnceModel", "peek", "()I"⟩, 13), (⟨"RobbedOnceModel", "isSign", "(I)Z"⟩, 13)]
theorem lw_r4 : ∀ q ∈ lw_privs_4, lw_okq q := List.forall_mem_cons.mpr ⟨lw_p48, List.forall_mem_cons.mpr ⟨lw_p49, List.forall_mem_cons.mpr ⟨lw_p50, List.forall_mem_cons.mpr ⟨lw_p51, List.forall_mem_cons.mpr ⟨lw_p52, List.forall_mem_cons.mpr ⟨lw_p53, List.forall_mem_cons.mpr ⟨lw_p54, List.forall_mem_cons.mpr ⟨lw_p55, List.forall_mem_cons.mpr ⟨lw_p56, List.forall_mem_cons.mpr ⟨lw_p57, List.forall_mem_cons.mpr ⟨lw_p58, List.forall_mem_cons.mpr ⟨lw_p59, List.forall_mem_cons.mpr ⟨lw_p60, List.forall_mem_cons.mpr ⟨lw_p61, List.forall_mem_cons.mpr ⟨lw_p62, List.forall_mem_cons.mpr ⟨lw_p63, fun _ h => absurd h List.not_mem_nil⟩⟩⟩⟩⟩⟩⟩⟩⟩⟩⟩⟩⟩⟩⟩⟩
theorem lw_p64 : lw_okq (⟨"RobbedOnceModel", "isOneItem", "()Z"⟩, 13) := ⟨⟨by decide +kernel, by decide +kernel⟩, List.mem_of_getElem? (i := 684) (by decide +kernel), List.mem_of_getElem? (i := 809) (by decide +kernel), List.mem_of_getElem? (i := 810) (by decide +kernel)⟩
theorem lw_p65 : lw_okq (⟨"RobbedOnceModel", "isThiefItem", "()Z"⟩, 13) := ⟨⟨by decide +kernel, by decide +kernel⟩, List.mem_of_getElem? (i := 684) (by decide +kernel), List.mem_of_getElem? (i := 816) (by decide +kernel), List.mem_of_getElem? (i := 817) (by decide +kernel)⟩
theorem lw_p66 : lw_okq (⟨"RobbedOnceModel", "note", "()V"⟩, 13) := ⟨⟨by decide +kernel, by decide +kernel⟩, List.mem_of_getElem? (i := 684) (by decide +kernel), List.mem_of_getElem? (i := 831) (by decide +kernel), List.mem_of_getElem? (i := 832) (by decide +kernel)⟩
theorem lw_p67 : lw_okq (⟨"RobbedOnceModel", "nightIn", "([II)V"⟩, 13) := ⟨⟨by decide +kernel, by decide +kernel⟩, List.mem_of_getElem? (i := 684) (by decide +kernel), List.mem_of_getElem? (i := 835) (by decide +kernel), List.mem_of_getElem? (i := 836) (by decide +kernel)⟩
theorem lw_p68 : lw_okq (⟨"RobbedOnceModel", "robIn", "([II)I"⟩, 13) := ⟨⟨by decide +kernel, by decide +kernel⟩, List.mem_of_getElem? (i := 684) (by decide +kernel), List.mem_of_getElem? (i := 839) (by decide +kernel), List.mem_of_getElem? (i := 840) (by decide +kernel)⟩
theorem lw_p69 : lw_okq (⟨"RobbedOnceModel", "begin", "()V"⟩, 13) := ⟨⟨by decide +kernel, by decide +kernel⟩, List.mem_of_getElem? (i := 684) (by decide +kernel), List.mem_of_getElem? (i := 880) (by decide +kernel), List.mem_of_getElem? (i := 881) (by decide +kernel)⟩
theorem lw_p70 : lw_okq (⟨"RobbedOnceModel", "goOn", "(II)V"⟩, 13) := ⟨⟨by decide +kernel, by decide +kernel⟩, List.mem_of_getElem? (i := 684) (by decide +kernel), List.mem_of_getElem? (i := 884) (by decide +kernel), List.mem_of_getElem? (i := 885) (by decide +kernel)⟩
theorem lw_p71 : lw_okq (⟨"RobbedOnceModel", "swornFrom", "(II)I"⟩, 13) := ⟨⟨by decide +kernel, by decide +kernel⟩, List.mem_of_getElem? (i := 684) (by decide +kernel), List.mem_of_getElem? (i := 896) (by decide +kernel), List.mem_of_getElem? (i := 897) (by decide +kernel)⟩
theorem lw_p72 : lw_okq (⟨"RobbedOnceModel", "wrong", "(IIII)I"⟩, 13) := ⟨⟨by decide +kernel, by decide +kernel⟩, List.mem_of_getElem? (i := 684) (by decide +kernel), List.mem_of_getElem? (i := 950) (by decide +kernel), List.mem_of_getElem? (i := 951) (by decide +kernel)⟩
theorem lw_p73 : lw_okq (⟨"RobbedOnceModel", "isGrown", "(IIII)Z"⟩, 13) := ⟨⟨by decide +kernel, by decide +kernel⟩, List.mem_of_getElem? (i := 684) (by decide +kernel), List.mem_of_getElem? (i := 957) (by decide +kernel), List.mem_of_getElem? (i := 958) (by decide +kernel)⟩
def lw_privs_5 : List (MethodName × Nat) := [(⟨"RobbedOnceModel", "isOneItem", "()Z"⟩, 13), (⟨"RobbedOnceModel", "isThiefItem", "()Z"⟩, 13), (⟨"RobbedOnceModel", "note", "()V"⟩, 13), (⟨"RobbedOnceModel", "nightIn", "([II)V"⟩, 13), (⟨"RobbedOnceModel", "robIn", "([II)I"⟩, 13), (⟨"RobbedOnceModel", "begin", "()V"⟩, 13), (⟨"RobbedOnceModel", "goOn", "(II)V"⟩, 13), (⟨"RobbedOnceModel", "swornFrom", "(II)I"⟩, 13), (⟨"RobbedOnceModel", "wrong", "(IIII)I"⟩, 13), (⟨"RobbedOnceModel", "isGrown", "(IIII)Z"⟩, 13)]
theorem lw_r5 : ∀ q ∈ lw_privs_5, lw_okq q := List.forall_mem_cons.mpr ⟨lw_p64, List.forall_mem_cons.mpr ⟨lw_p65, List.forall_mem_cons.mpr ⟨lw_p66, List.forall_mem_cons.mpr ⟨lw_p67, List.forall_mem_cons.mpr ⟨lw_p68, List.forall_mem_cons.mpr ⟨lw_p69, List.forall_mem_cons.mpr ⟨lw_p70, List.forall_mem_cons.mpr ⟨lw_p71, List.forall_mem_cons.mpr ⟨lw_p72, List.forall_mem_cons.mpr ⟨lw_p73, fun _ h => absurd h List.not_mem_nil⟩⟩⟩⟩⟩⟩⟩⟩⟩⟩
def lw_privs : List (MethodName × Nat) := lw_privs_1 ++ (lw_privs_2 ++ (lw_privs_3 ++ (lw_privs_4 ++ (lw_privs_5))))
def lw_tbl : List Cond := k2_sels lw_privs ++ tables_1
theorem lw_privs_ok : ∀ q ∈ lw_privs, lw_okq q := by
  show ∀ q ∈ lw_privs_1 ++ (lw_privs_2 ++ (lw_privs_3 ++ (lw_privs_4 ++ (lw_privs_5)))), lw_okq q
  exact List.forall_mem_append.mpr ⟨lw_r1, List.forall_mem_append.mpr ⟨lw_r2, List.forall_mem_append.mpr ⟨lw_r3, List.forall_mem_append.mpr ⟨lw_r4, lw_r5⟩⟩⟩⟩
end
section
def RX0 : String := "RobbedOnce$Foretelling"
def TX0 : u_T := fun k => match k with
  | _ => ("RobbedOnce$Foretelling", "trial", "LRobbedOnce$Town;", true)
def tyX0 : Nat → FieldType := fun k => match k with
  | _ => .object "RobbedOnce$Town"
abbrev wsX00 : List Cond := u_ws RX0 TX0 1
theorem nmX0 : ∀ a, a < 1 → ∀ b, b < 1 → a ≠ b → (TX0 a).2.1 ≠ (TX0 b).2.1 := by decide +kernel
theorem tyX0_ok : ∀ k, k < 1 → parseFieldDescriptor (TX0 k).2.2.1 = some (tyX0 k) := by decide +kernel
abbrev cX0_init : ByteArray := prog_2_method_1_code
def yX0_init : MethodName := ⟨RX0, "<init>", "()V"⟩
abbrev cX0_after : ByteArray := prog_2_method_2_code
def yX0_after : MethodName := ⟨RX0, "after", "(LRobbedOnce$Town;I)LRobbedOnce$Town;"⟩
abbrev cX0_passNights : ByteArray := prog_2_method_3_code
def yX0_passNights : MethodName := ⟨RX0, "passNights", "(II)V"⟩
abbrev cX0_nightsUntilSworn : ByteArray := prog_2_method_4_code
def yX0_nightsUntilSworn : MethodName := ⟨RX0, "nightsUntilSworn", "(LRobbedOnce$Town;I)I"⟩
abbrev cX0_bestHiding : ByteArray := prog_2_method_5_code
def yX0_bestHiding : MethodName := ⟨RX0, "bestHiding", "(LRobbedOnce$Town;IZ)I"⟩
abbrev cX0_nightsIfHidden : ByteArray := prog_2_method_6_code
def yX0_nightsIfHidden : MethodName := ⟨RX0, "nightsIfHidden", "(LRobbedOnce$Town;III)I"⟩
abbrev cX0_leastCover : ByteArray := prog_2_method_7_code
def yX0_leastCover : MethodName := ⟨RX0, "leastCover", "(LRobbedOnce$Town;II)I"⟩
abbrev cX0_greatestBar : ByteArray := prog_2_method_8_code
def yX0_greatestBar : MethodName := ⟨RX0, "greatestBar", "(LRobbedOnce$Town;I)I"⟩
abbrev cX0_sparedThief : ByteArray := prog_2_method_9_code
def yX0_sparedThief : MethodName := ⟨RX0, "sparedThief", "(LRobbedOnce$Town;I)I"⟩
abbrev cX0_swornWithout : ByteArray := prog_2_method_10_code
def yX0_swornWithout : MethodName := ⟨RX0, "swornWithout", "(LRobbedOnce$Town;II)I"⟩
abbrev cX0_mostCareful : ByteArray := prog_2_method_11_code
def yX0_mostCareful : MethodName := ⟨RX0, "mostCareful", "(LRobbedOnce$Town;II)I"⟩
abbrev cX0_kindsTold : ByteArray := prog_2_method_12_code
def yX0_kindsTold : MethodName := ⟨RX0, "kindsTold", "(LRobbedOnce$Town;ILRobbedOnce$Sheet;II)I"⟩
abbrev cX0_numbersTold : ByteArray := prog_2_method_13_code
def yX0_numbersTold : MethodName := ⟨RX0, "numbersTold", "(LRobbedOnce$Town;ILRobbedOnce$Sheet;IIZ)I"⟩
abbrev cX0_goesAsTold : ByteArray := prog_2_method_14_code
def yX0_goesAsTold : MethodName := ⟨RX0, "goesAsTold", "(ILRobbedOnce$Sheet;II)Z"⟩
abbrev cX0_tell : ByteArray := prog_2_method_15_code
def yX0_tell : MethodName := ⟨RX0, "tell", "(LRobbedOnce$Town;ILRobbedOnce$Sheet;II)V"⟩
def RX1 : String := "RobbedOnce$Past"
def TX1 : u_T := fun k => match k with
  | 0 => ("RobbedOnce$Past", "moments", "[LRobbedOnce$Town;", true)
  | 1 => ("RobbedOnce$Past", "next", "I", false)
  | _ => ("RobbedOnce$Past", "known", "I", false)
def tyX1 : Nat → FieldType := fun k => match k with
  | 0 => .array (.object "RobbedOnce$Town")
  | 1 => .int
  | _ => .int
abbrev wsX10 : List Cond := u_ws RX1 TX1 3
theorem nmX1 : ∀ a, a < 3 → ∀ b, b < 3 → a ≠ b → (TX1 a).2.1 ≠ (TX1 b).2.1 := by decide +kernel
theorem tyX1_ok : ∀ k, k < 3 → parseFieldDescriptor (TX1 k).2.2.1 = some (tyX1 k) := by decide +kernel
abbrev cX1_init : ByteArray := prog_3_method_1_code
def yX1_init : MethodName := ⟨RX1, "<init>", "()V"⟩
abbrev cX1_keep : ByteArray := prog_3_method_2_code
def yX1_keep : MethodName := ⟨RX1, "keep", "(LRobbedOnce$Town;)V"⟩
abbrev cX1_takeBack : ByteArray := prog_3_method_3_code
def yX1_takeBack : MethodName := ⟨RX1, "takeBack", "(LRobbedOnce$Town;)V"⟩
abbrev cX1_forget : ByteArray := prog_3_method_4_code
def yX1_forget : MethodName := ⟨RX1, "forget", "()V"⟩
abbrev cX1_become : ByteArray := prog_3_method_5_code
def yX1_become : MethodName := ⟨RX1, "become", "(LRobbedOnce$Past;)V"⟩
def RX2 : String := "RobbedOnce$Sheet"
def TX2 : u_T := fun k => match k with
  | 0 => ("RobbedOnce$Sheet", "items", "[J", true)
  | 1 => ("RobbedOnce$Sheet", "lane", "I", false)
  | _ => ("RobbedOnce$Sheet", "size", "I", false)
def tyX2 : Nat → FieldType := fun k => match k with
  | 0 => .array .long
  | 1 => .int
  | _ => .int
abbrev wsX20 : List Cond := u_ws RX2 TX2 3
theorem nmX2 : ∀ a, a < 3 → ∀ b, b < 3 → a ≠ b → (TX2 a).2.1 ≠ (TX2 b).2.1 := by decide +kernel
theorem tyX2_ok : ∀ k, k < 3 → parseFieldDescriptor (TX2 k).2.2.1 = some (tyX2 k) := by decide +kernel
abbrev cX2_init : ByteArray := prog_4_method_1_code
def yX2_init : MethodName := ⟨RX2, "<init>", "()V"⟩
abbrev cX2_begin : ByteArray := prog_4_method_2_code
def yX2_begin : MethodName := ⟨RX2, "begin", "(II)V"⟩
abbrev cX2_end : ByteArray := prog_4_method_3_code
def yX2_end : MethodName := ⟨RX2, "end", "()V"⟩
abbrev cX2_holds : ByteArray := prog_4_method_4_code
def yX2_holds : MethodName := ⟨RX2, "holds", "(II)Z"⟩
abbrev cX2_refusal : ByteArray := prog_4_method_5_code
def yX2_refusal : MethodName := ⟨RX2, "refusal", "(III)I"⟩
abbrev cX2_put : ByteArray := prog_4_method_6_code
def yX2_put : MethodName := ⟨RX2, "put", "(IJ)V"⟩
def RX3 : String := "RobbedOnce$Tape"
def TX3 : u_T := fun k => match k with
  | 0 => ("RobbedOnce$Tape", "letters", "[C", true)
  | 1 => ("RobbedOnce$Tape", "size", "I", false)
  | _ => ("RobbedOnce$Tape", "place", "I", false)
def tyX3 : Nat → FieldType := fun k => match k with
  | 0 => .array .char
  | 1 => .int
  | _ => .int
abbrev wsX30 : List Cond := u_ws RX3 TX3 3
theorem nmX3 : ∀ a, a < 3 → ∀ b, b < 3 → a ≠ b → (TX3 a).2.1 ≠ (TX3 b).2.1 := by decide +kernel
theorem tyX3_ok : ∀ k, k < 3 → parseFieldDescriptor (TX3 k).2.2.1 = some (tyX3 k) := by decide +kernel
abbrev cX3_init : ByteArray := prog_5_method_1_code
def yX3_init : MethodName := ⟨RX3, "<init>", "()V"⟩
abbrev cX3_add : ByteArray := prog_5_method_2_code
def yX3_add : MethodName := ⟨RX3, "add", "(I)I"⟩
abbrev cX3_clear : ByteArray := prog_5_method_3_code
def yX3_clear : MethodName := ⟨RX3, "clear", "()V"⟩
abbrev cX3_readTown : ByteArray := prog_5_method_4_code
def yX3_readTown : MethodName := ⟨RX3, "readTown", "(LRobbedOnce$Town;)Z"⟩
abbrev cX3_readApprentices : ByteArray := prog_5_method_5_code
def yX3_readApprentices : MethodName := ⟨RX3, "readApprentices", "(LRobbedOnce$Town;)Z"⟩
abbrev cX3_readApprentice : ByteArray := prog_5_method_6_code
def yX3_readApprentice : MethodName := ⟨RX3, "readApprentice", "(LRobbedOnce$Town;)Z"⟩
abbrev cX3_readThieves : ByteArray := prog_5_method_7_code
def yX3_readThieves : MethodName := ⟨RX3, "readThieves", "(LRobbedOnce$Town;)Z"⟩
abbrev cX3_peek : ByteArray := prog_5_method_8_code
def yX3_peek : MethodName := ⟨RX3, "peek", "()I"⟩
abbrev cX3_takes : ByteArray := prog_5_method_9_code
def yX3_takes : MethodName := ⟨RX3, "takes", "(C)Z"⟩
abbrev cX3_readDigit : ByteArray := prog_5_method_10_code
def yX3_readDigit : MethodName := ⟨RX3, "readDigit", "(I)I"⟩
abbrev cX3_readNumber : ByteArray := prog_5_method_11_code
def yX3_readNumber : MethodName := ⟨RX3, "readNumber", "()I"⟩
def RX4 : String := "RobbedOnce$Town"
def TX4 : u_T := fun k => match k with
  | 0 => ("RobbedOnce$Town", "kind", "[I", true)
  | 1 => ("RobbedOnce$Town", "sort", "[I", true)
  | 2 => ("RobbedOnce$Town", "dear", "[I", true)
  | 3 => ("RobbedOnce$Town", "careful", "[I", true)
  | 4 => ("RobbedOnce$Town", "skill", "[I", true)
  | 5 => ("RobbedOnce$Town", "wants", "[I", true)
  | 6 => ("RobbedOnce$Town", "apprentices", "I", false)
  | 7 => ("RobbedOnce$Town", "thieves", "I", false)
  | 8 => ("RobbedOnce$Town", "shows", "I", false)
  | 9 => ("RobbedOnce$Town", "sworn", "I", false)
  | 10 => ("RobbedOnce$Town", "night", "I", false)
  | 11 => ("RobbedOnce$Town", "bar", "I", false)
  | _ => ("RobbedOnce$Town", "draw", "I", false)
def tyX4 : Nat → FieldType := fun k => match k with
  | 0 => .array .int
  | 1 => .array .int
  | 2 => .array .int
  | 3 => .array .int
  | 4 => .array .int
  | 5 => .array .int
  | 6 => .int
  | 7 => .int
  | 8 => .int
  | 9 => .int
  | 10 => .int
  | 11 => .int
  | _ => .int
abbrev wsX40 : List Cond := u_ws RX4 TX4 13
theorem nmX4 : ∀ a, a < 13 → ∀ b, b < 13 → a ≠ b → (TX4 a).2.1 ≠ (TX4 b).2.1 := by decide +kernel
theorem tyX4_ok : ∀ k, k < 13 → parseFieldDescriptor (TX4 k).2.2.1 = some (tyX4 k) := by decide +kernel
abbrev cX4_init : ByteArray := prog_6_method_1_code
def yX4_init : MethodName := ⟨RX4, "<init>", "()V"⟩
abbrev cX4_become : ByteArray := prog_6_method_2_code
def yX4_become : MethodName := ⟨RX4, "become", "(LRobbedOnce$Town;)V"⟩
abbrev cX4_empty : ByteArray := prog_6_method_3_code
def yX4_empty : MethodName := ⟨RX4, "empty", "()V"⟩
abbrev cX4_addApprentice : ByteArray := prog_6_method_4_code
def yX4_addApprentice : MethodName := ⟨RX4, "addApprentice", "(III)I"⟩
abbrev cX4_addThief : ByteArray := prog_6_method_5_code
def yX4_addThief : MethodName := ⟨RX4, "addThief", "(II)I"⟩
abbrev cX4_setShown : ByteArray := prog_6_method_6_code
def yX4_setShown : MethodName := ⟨RX4, "setShown", "(IZ)V"⟩
abbrev cX4_everybody : ByteArray := prog_6_method_7_code
def yX4_everybody : MethodName := ⟨RX4, "everybody", "()I"⟩
abbrev cX4_dearTogether : ByteArray := prog_6_method_8_code
def yX4_dearTogether : MethodName := ⟨RX4, "dearTogether", "()I"⟩
abbrev cX4_mayRob : ByteArray := prog_6_method_9_code
def yX4_mayRob : MethodName := ⟨RX4, "mayRob", "(II)Z"⟩
abbrev cX4_whomMayRob : ByteArray := prog_6_method_10_code
def yX4_whomMayRob : MethodName := ⟨RX4, "whomMayRob", "(I)I"⟩
abbrev cX4_thievesWhoMayRob : ByteArray := prog_6_method_11_code
def yX4_thievesWhoMayRob : MethodName := ⟨RX4, "thievesWhoMayRob", "(I)I"⟩
abbrev cX4_victim : ByteArray := prog_6_method_12_code
def yX4_victim : MethodName := ⟨RX4, "victim", "(II)I"⟩
abbrev cX4_robbedTonight : ByteArray := prog_6_method_13_code
def yX4_robbedTonight : MethodName := ⟨RX4, "robbedTonight", "(I)I"⟩
abbrev cX4_victimTonight : ByteArray := prog_6_method_14_code
def yX4_victimTonight : MethodName := ⟨RX4, "victimTonight", "(I)I"⟩
abbrev cX4_pass : ByteArray := prog_6_method_15_code
def yX4_pass : MethodName := ⟨RX4, "pass", "(I)V"⟩
abbrev cX4_lose : ByteArray := prog_6_method_16_code
def yX4_lose : MethodName := ⟨RX4, "lose", "(I)V"⟩
abbrev cX4_growth : ByteArray := prog_6_method_17_code
def yX4_growth : MethodName := ⟨RX4, "growth", "(I)I"⟩
abbrev cX4_drawWhoShows : ByteArray := prog_6_method_18_code
def yX4_drawWhoShows : MethodName := ⟨RX4, "drawWhoShows", "()V"⟩
abbrev cX4_mostRobbedAtOnce : ByteArray := prog_6_method_19_code
def yX4_mostRobbedAtOnce : MethodName := ⟨RX4, "mostRobbedAtOnce", "()I"⟩
abbrev cX4_waysRobbed : ByteArray := prog_6_method_20_code
def yX4_waysRobbed : MethodName := ⟨RX4, "waysRobbed", "(II)I"⟩
def RX5 : String := "RobbedOnce"
def TX5 : u_T := fun k => match k with
  | 0 => ("RobbedOnce", "now", "LRobbedOnce$Town;", true)
  | 1 => ("RobbedOnce", "past", "LRobbedOnce$Past;", true)
  | 2 => ("RobbedOnce", "keptTown", "LRobbedOnce$Town;", true)
  | 3 => ("RobbedOnce", "keptPast", "LRobbedOnce$Past;", true)
  | 4 => ("RobbedOnce", "kept", "Z", false)
  | 5 => ("RobbedOnce", "foretelling", "LRobbedOnce$Foretelling;", true)
  | 6 => ("RobbedOnce", "tape", "LRobbedOnce$Tape;", true)
  | 7 => ("RobbedOnce", "written", "LRobbedOnce$Town;", true)
  | _ => ("RobbedOnce", "sheets", "[LRobbedOnce$Sheet;", true)
def tyX5 : Nat → FieldType := fun k => match k with
  | 0 => .object "RobbedOnce$Town"
  | 1 => .object "RobbedOnce$Past"
  | 2 => .object "RobbedOnce$Town"
  | 3 => .object "RobbedOnce$Past"
  | 4 => .boolean
  | 5 => .object "RobbedOnce$Foretelling"
  | 6 => .object "RobbedOnce$Tape"
  | 7 => .object "RobbedOnce$Town"
  | _ => .array (.object "RobbedOnce$Sheet")
abbrev wsX50 : List Cond := u_ws RX5 TX5 9
theorem nmX5 : ∀ a, a < 9 → ∀ b, b < 9 → a ≠ b → (TX5 a).2.1 ≠ (TX5 b).2.1 := by decide +kernel
theorem tyX5_ok : ∀ k, k < 9 → parseFieldDescriptor (TX5 k).2.2.1 = some (tyX5 k) := by decide +kernel
abbrev cX5_init : ByteArray := prog_1_method_1_code
def yX5_init : MethodName := ⟨RX5, "<init>", "()V"⟩
abbrev cX5_apprentice : ByteArray := prog_1_method_2_code
def yX5_apprentice : MethodName := ⟨RX5, "apprentice", "(III)I"⟩
abbrev cX5_thief : ByteArray := prog_1_method_3_code
def yX5_thief : MethodName := ⟨RX5, "thief", "(II)I"⟩
abbrev cX5_bar : ByteArray := prog_1_method_4_code
def yX5_bar : MethodName := ⟨RX5, "bar", "(I)I"⟩
abbrev cX5_of : ByteArray := prog_1_method_5_code
def yX5_of : MethodName := ⟨RX5, "of", "(II)I"⟩
abbrev cX5_at : ByteArray := prog_1_method_6_code
def yX5_at : MethodName := ⟨RX5, "at", "(II)I"⟩
abbrev cX5_type : ByteArray := prog_1_method_7_code
def yX5_type : MethodName := ⟨RX5, "type", "(I)I"⟩
abbrev cX5_town : ByteArray := prog_1_method_8_code
def yX5_town : MethodName := ⟨RX5, "town", "()I"⟩
abbrev cX5_count : ByteArray := prog_1_method_9_code
def yX5_count : MethodName := ⟨RX5, "count", "(I)I"⟩
abbrev cX5_nights : ByteArray := prog_1_method_10_code
def yX5_nights : MethodName := ⟨RX5, "nights", "(I)I"⟩
abbrev cX5_show : ByteArray := prog_1_method_11_code
def yX5_show : MethodName := ⟨RX5, "show", "(II)I"⟩
abbrev cX5_teach : ByteArray := prog_1_method_12_code
def yX5_teach : MethodName := ⟨RX5, "teach", "(II)I"⟩
abbrev cX5_drift : ByteArray := prog_1_method_13_code
def yX5_drift : MethodName := ⟨RX5, "drift", "(I)I"⟩
abbrev cX5_undo : ByteArray := prog_1_method_14_code
def yX5_undo : MethodName := ⟨RX5, "undo", "()I"⟩
abbrev cX5_seed : ByteArray := prog_1_method_15_code
def yX5_seed : MethodName := ⟨RX5, "seed", "(I)I"⟩
abbrev cX5_ahead : ByteArray := prog_1_method_16_code
def yX5_ahead : MethodName := ⟨RX5, "ahead", "(II)I"⟩
abbrev cX5_then : ByteArray := prog_1_method_17_code
def yX5_then : MethodName := ⟨RX5, "then", "(I)I"⟩
abbrev cX5_sworn : ByteArray := prog_1_method_18_code
def yX5_sworn : MethodName := ⟨RX5, "sworn", "(I)I"⟩
abbrev cX5_robs : ByteArray := prog_1_method_19_code
def yX5_robs : MethodName := ⟨RX5, "robs", "(I)I"⟩
abbrev cX5_hides : ByteArray := prog_1_method_20_code
def yX5_hides : MethodName := ⟨RX5, "hides", "(II)I"⟩
abbrev cX5_cover : ByteArray := prog_1_method_21_code
def yX5_cover : MethodName := ⟨RX5, "cover", "(III)I"⟩
abbrev cX5_low : ByteArray := prog_1_method_22_code
def yX5_low : MethodName := ⟨RX5, "low", "(I)I"⟩
abbrev cX5_spare : ByteArray := prog_1_method_23_code
def yX5_spare : MethodName := ⟨RX5, "spare", "(II)I"⟩
abbrev cX5_match : ByteArray := prog_1_method_24_code
def yX5_match : MethodName := ⟨RX5, "match", "()I"⟩
abbrev cX5_care : ByteArray := prog_1_method_25_code
def yX5_care : MethodName := ⟨RX5, "care", "(II)I"⟩
abbrev cX5_leave : ByteArray := prog_1_method_26_code
def yX5_leave : MethodName := ⟨RX5, "leave", "(III)I"⟩
abbrev cX5_image : ByteArray := prog_1_method_27_code
def yX5_image : MethodName := ⟨RX5, "image", "()I"⟩
abbrev cX5_restore : ByteArray := prog_1_method_28_code
def yX5_restore : MethodName := ⟨RX5, "restore", "()I"⟩
abbrev cX5_grown : ByteArray := prog_1_method_29_code
def yX5_grown : MethodName := ⟨RX5, "grown", "(IIIIII)I"⟩
abbrev cX5_film : ByteArray := prog_1_method_30_code
def yX5_film : MethodName := ⟨RX5, "film", "(IIIII)I"⟩
abbrev cX5_sheet : ByteArray := prog_1_method_31_code
def yX5_sheet : MethodName := ⟨RX5, "sheet", "(III)I"⟩
abbrev cX5_drop : ByteArray := prog_1_method_32_code
def yX5_drop : MethodName := ⟨RX5, "drop", "(I)I"⟩
abbrev cX5_item : ByteArray := prog_1_method_33_code
def yX5_item : MethodName := ⟨RX5, "item", "(IIIJ)I"⟩
abbrev cX5_copy : ByteArray := prog_1_method_34_code
def yX5_copy : MethodName := ⟨RX5, "copy", "(IIIII)I"⟩
abbrev cX5_spend : ByteArray := prog_1_method_35_code
def yX5_spend : MethodName := ⟨RX5, "spend", "(IZ)I"⟩
abbrev cX5_isApprentice : ByteArray := prog_1_method_36_code
def yX5_isApprentice : MethodName := ⟨RX5, "isApprentice", "(I)Z"⟩
abbrev cX5_isThief : ByteArray := prog_1_method_37_code
def yX5_isThief : MethodName := ⟨RX5, "isThief", "(I)Z"⟩
abbrev cX5_isSheet : ByteArray := prog_1_method_38_code
def yX5_isSheet : MethodName := ⟨RX5, "isSheet", "(I)Z"⟩
abbrev cX5_isLane : ByteArray := prog_1_method_39_code
def yX5_isLane : MethodName := ⟨RX5, "isLane", "(I)Z"⟩
abbrev cX5_isWithin : ByteArray := prog_1_method_40_code
def yX5_isWithin : MethodName := ⟨RX5, "isWithin", "(III)Z"⟩
abbrev cX5_has : ByteArray := prog_1_method_41_code
def yX5_has : MethodName := ⟨RX5, "has", "(II)Z"⟩
abbrev cX5_power : ByteArray := prog_1_method_42_code
def yX5_power : MethodName := ⟨RX5, "power", "(II)I"⟩
def RX6 : String := "RobbedOnceModel"
def TX6 : u_T := fun k => match k with
  | 0 => ("RobbedOnceModel", "lane", "[I", true)
  | 1 => ("RobbedOnceModel", "size", "[I", true)
  | 2 => ("RobbedOnceModel", "item", "[J", true)
  | 3 => ("RobbedOnceModel", "letters", "I", false)
  | 4 => ("RobbedOnceModel", "tape", "[I", true)
  | 5 => ("RobbedOnceModel", "position", "I", false)
  | 6 => ("RobbedOnceModel", "number", "I", false)
  | 7 => ("RobbedOnceModel", "now", "[I", true)
  | 8 => ("RobbedOnceModel", "tried", "[I", true)
  | 9 => ("RobbedOnceModel", "read", "[I", true)
  | 10 => ("RobbedOnceModel", "kept", "[I", true)
  | 11 => ("RobbedOnceModel", "isKept", "Z", false)
  | _ => ("RobbedOnceModel", "prey", "[I", true)
def tyX6 : Nat → FieldType := fun k => match k with
  | 0 => .array .int
  | 1 => .array .int
  | 2 => .array .long
  | 3 => .int
  | 4 => .array .int
  | 5 => .int
  | 6 => .int
  | 7 => .array .int
  | 8 => .array .int
  | 9 => .array .int
  | 10 => .array .int
  | 11 => .boolean
  | _ => .array .int
abbrev wsX60 : List Cond := u_ws RX6 TX6 13
theorem nmX6 : ∀ a, a < 13 → ∀ b, b < 13 → a ≠ b → (TX6 a).2.1 ≠ (TX6 b).2.1 := by decide +kernel
theorem tyX6_ok : ∀ k, k < 13 → parseFieldDescriptor (TX6 k).2.2.1 = some (tyX6 k) := by decide +kernel
abbrev cX6_init : ByteArray := prog_8_method_1_code
def yX6_init : MethodName := ⟨RX6, "<init>", "()V"⟩
abbrev cX6_in : ByteArray := prog_8_method_2_code
def yX6_in : MethodName := ⟨RX6, "in", "(III)Z"⟩
abbrev cX6_has : ByteArray := prog_8_method_3_code
def yX6_has : MethodName := ⟨RX6, "has", "(II)Z"⟩
abbrev cX6_bits : ByteArray := prog_8_method_4_code
def yX6_bits : MethodName := ⟨RX6, "bits", "(I)I"⟩
abbrev cX6_bring : ByteArray := prog_8_method_5_code
def yX6_bring : MethodName := ⟨RX6, "bring", "([II[III)V"⟩
abbrev cX6_isOne : ByteArray := prog_8_method_6_code
def yX6_isOne : MethodName := ⟨RX6, "isOne", "(I)Z"⟩
abbrev cX6_isThief : ByteArray := prog_8_method_7_code
def yX6_isThief : MethodName := ⟨RX6, "isThief", "(I)Z"⟩
abbrev cX6_addOne : ByteArray := prog_8_method_8_code
def yX6_addOne : MethodName := ⟨RX6, "addOne", "([IIII)I"⟩
abbrev cX6_addThief : ByteArray := prog_8_method_9_code
def yX6_addThief : MethodName := ⟨RX6, "addThief", "([III)I"⟩
abbrev cX6_apprentice : ByteArray := prog_8_method_10_code
def yX6_apprentice : MethodName := ⟨RX6, "apprentice", "(III)I"⟩
abbrev cX6_thief : ByteArray := prog_8_method_11_code
def yX6_thief : MethodName := ⟨RX6, "thief", "(II)I"⟩
abbrev cX6_bar : ByteArray := prog_8_method_12_code
def yX6_bar : MethodName := ⟨RX6, "bar", "(I)I"⟩
abbrev cX6_mayRob : ByteArray := prog_8_method_13_code
def yX6_mayRob : MethodName := ⟨RX6, "mayRob", "([III)Z"⟩
abbrev cX6_preyOf : ByteArray := prog_8_method_14_code
def yX6_preyOf : MethodName := ⟨RX6, "preyOf", "(I)I"⟩
abbrev cX6_robbersOf : ByteArray := prog_8_method_15_code
def yX6_robbersOf : MethodName := ⟨RX6, "robbersOf", "(I)I"⟩
abbrev cX6_of : ByteArray := prog_8_method_16_code
def yX6_of : MethodName := ⟨RX6, "of", "(II)I"⟩
abbrev cX6_at : ByteArray := prog_8_method_17_code
def yX6_at : MethodName := ⟨RX6, "at", "(II)I"⟩
abbrev cX6_type : ByteArray := prog_8_method_18_code
def yX6_type : MethodName := ⟨RX6, "type", "(I)I"⟩
abbrev cX6_peek : ByteArray := prog_8_method_19_code
def yX6_peek : MethodName := ⟨RX6, "peek", "()I"⟩
abbrev cX6_isSign : ByteArray := prog_8_method_20_code
def yX6_isSign : MethodName := ⟨RX6, "isSign", "(I)Z"⟩
abbrev cX6_isDigit : ByteArray := prog_8_method_21_code
def yX6_isDigit : MethodName := ⟨RX6, "isDigit", "(II)Z"⟩
abbrev cX6_isNumber : ByteArray := prog_8_method_22_code
def yX6_isNumber : MethodName := ⟨RX6, "isNumber", "()Z"⟩
abbrev cX6_kindBy : ByteArray := prog_8_method_23_code
def yX6_kindBy : MethodName := ⟨RX6, "kindBy", "(I)I"⟩
abbrev cX6_isOneItem : ByteArray := prog_8_method_24_code
def yX6_isOneItem : MethodName := ⟨RX6, "isOneItem", "()Z"⟩
abbrev cX6_isThiefItem : ByteArray := prog_8_method_25_code
def yX6_isThiefItem : MethodName := ⟨RX6, "isThiefItem", "()Z"⟩
abbrev cX6_isTown : ByteArray := prog_8_method_26_code
def yX6_isTown : MethodName := ⟨RX6, "isTown", "()Z"⟩
abbrev cX6_town : ByteArray := prog_8_method_27_code
def yX6_town : MethodName := ⟨RX6, "town", "()I"⟩
abbrev cX6_count : ByteArray := prog_8_method_28_code
def yX6_count : MethodName := ⟨RX6, "count", "(I)I"⟩
abbrev cX6_note : ByteArray := prog_8_method_29_code
def yX6_note : MethodName := ⟨RX6, "note", "()V"⟩
abbrev cX6_dearerBy : ByteArray := prog_8_method_30_code
def yX6_dearerBy : MethodName := ⟨RX6, "dearerBy", "(IIZI)I"⟩
abbrev cX6_dearest : ByteArray := prog_8_method_31_code
def yX6_dearest : MethodName := ⟨RX6, "dearest", "([III)I"⟩
abbrev cX6_robIn : ByteArray := prog_8_method_32_code
def yX6_robIn : MethodName := ⟨RX6, "robIn", "([II)I"⟩
abbrev cX6_nightIn : ByteArray := prog_8_method_33_code
def yX6_nightIn : MethodName := ⟨RX6, "nightIn", "([II)V"⟩
abbrev cX6_nights : ByteArray := prog_8_method_34_code
def yX6_nights : MethodName := ⟨RX6, "nights", "(I)I"⟩
abbrev cX6_setShows : ByteArray := prog_8_method_35_code
def yX6_setShows : MethodName := ⟨RX6, "setShows", "([IIZ)V"⟩
abbrev cX6_show : ByteArray := prog_8_method_36_code
def yX6_show : MethodName := ⟨RX6, "show", "(II)I"⟩
abbrev cX6_teach : ByteArray := prog_8_method_37_code
def yX6_teach : MethodName := ⟨RX6, "teach", "(II)I"⟩
abbrev cX6_drift : ByteArray := prog_8_method_38_code
def yX6_drift : MethodName := ⟨RX6, "drift", "(I)I"⟩
abbrev cX6_undo : ByteArray := prog_8_method_39_code
def yX6_undo : MethodName := ⟨RX6, "undo", "()I"⟩
abbrev cX6_seed : ByteArray := prog_8_method_40_code
def yX6_seed : MethodName := ⟨RX6, "seed", "(I)I"⟩
abbrev cX6_begin : ByteArray := prog_8_method_41_code
def yX6_begin : MethodName := ⟨RX6, "begin", "()V"⟩
abbrev cX6_goOn : ByteArray := prog_8_method_42_code
def yX6_goOn : MethodName := ⟨RX6, "goOn", "(II)V"⟩
abbrev cX6_ahead : ByteArray := prog_8_method_43_code
def yX6_ahead : MethodName := ⟨RX6, "ahead", "(II)I"⟩
abbrev cX6_then : ByteArray := prog_8_method_44_code
def yX6_then : MethodName := ⟨RX6, "then", "(I)I"⟩
abbrev cX6_swornFrom : ByteArray := prog_8_method_45_code
def yX6_swornFrom : MethodName := ⟨RX6, "swornFrom", "(II)I"⟩
abbrev cX6_sworn : ByteArray := prog_8_method_46_code
def yX6_sworn : MethodName := ⟨RX6, "sworn", "(I)I"⟩
abbrev cX6_robs : ByteArray := prog_8_method_47_code
def yX6_robs : MethodName := ⟨RX6, "robs", "(I)I"⟩
abbrev cX6_hides : ByteArray := prog_8_method_48_code
def yX6_hides : MethodName := ⟨RX6, "hides", "(II)I"⟩
abbrev cX6_cover : ByteArray := prog_8_method_49_code
def yX6_cover : MethodName := ⟨RX6, "cover", "(III)I"⟩
abbrev cX6_low : ByteArray := prog_8_method_50_code
def yX6_low : MethodName := ⟨RX6, "low", "(I)I"⟩
abbrev cX6_spare : ByteArray := prog_8_method_51_code
def yX6_spare : MethodName := ⟨RX6, "spare", "(II)I"⟩
abbrev cX6_match : ByteArray := prog_8_method_52_code
def yX6_match : MethodName := ⟨RX6, "match", "()I"⟩
abbrev cX6_care : ByteArray := prog_8_method_53_code
def yX6_care : MethodName := ⟨RX6, "care", "(II)I"⟩
abbrev cX6_leave : ByteArray := prog_8_method_54_code
def yX6_leave : MethodName := ⟨RX6, "leave", "(III)I"⟩
abbrev cX6_image : ByteArray := prog_8_method_55_code
def yX6_image : MethodName := ⟨RX6, "image", "()I"⟩
abbrev cX6_restore : ByteArray := prog_8_method_56_code
def yX6_restore : MethodName := ⟨RX6, "restore", "()I"⟩
abbrev cX6_isSheet : ByteArray := prog_8_method_57_code
def yX6_isSheet : MethodName := ⟨RX6, "isSheet", "(I)Z"⟩
abbrev cX6_isPart : ByteArray := prog_8_method_58_code
def yX6_isPart : MethodName := ⟨RX6, "isPart", "(III)Z"⟩
abbrev cX6_wrong : ByteArray := prog_8_method_59_code
def yX6_wrong : MethodName := ⟨RX6, "wrong", "(IIII)I"⟩
abbrev cX6_isGrown : ByteArray := prog_8_method_60_code
def yX6_isGrown : MethodName := ⟨RX6, "isGrown", "(IIII)Z"⟩
abbrev cX6_grown : ByteArray := prog_8_method_61_code
def yX6_grown : MethodName := ⟨RX6, "grown", "(IIIIII)I"⟩
abbrev cX6_film : ByteArray := prog_8_method_62_code
def yX6_film : MethodName := ⟨RX6, "film", "(IIIII)I"⟩
abbrev cX6_sheet : ByteArray := prog_8_method_63_code
def yX6_sheet : MethodName := ⟨RX6, "sheet", "(III)I"⟩
abbrev cX6_drop : ByteArray := prog_8_method_64_code
def yX6_drop : MethodName := ⟨RX6, "drop", "(I)I"⟩
abbrev cX6_item : ByteArray := prog_8_method_65_code
def yX6_item : MethodName := ⟨RX6, "item", "(IIIJ)I"⟩
abbrev cX6_copy : ByteArray := prog_8_method_66_code
def yX6_copy : MethodName := ⟨RX6, "copy", "(IIIII)I"⟩
def RJ11 : String := "java/lang/Character"
abbrev cJ11_isValidCodePoint_9a6ad : ByteArray := prog_9_method_11_code
def yJ11_isValidCodePoint_9a6ad : MethodName := ⟨RJ11, "isValidCodePoint", "(I)Z"⟩
abbrev cJ11_highSurrogate_5068e : ByteArray := prog_9_method_28_code
def yJ11_highSurrogate_5068e : MethodName := ⟨RJ11, "highSurrogate", "(I)C"⟩
abbrev cJ11_lowSurrogate_5068e : ByteArray := prog_9_method_29_code
def yJ11_lowSurrogate_5068e : MethodName := ⟨RJ11, "lowSurrogate", "(I)C"⟩
def RJ6 : String := "java/lang/Integer"
abbrev cJ6_bitCount_0f7a4 : ByteArray := prog_10_method_49_code
def yJ6_bitCount_0f7a4 : MethodName := ⟨RJ6, "bitCount", "(I)I"⟩
def RJ9 : String := "java/lang/Math"
abbrev cJ9_max_7cf53 : ByteArray := prog_11_method_65_code
def yJ9_max_7cf53 : MethodName := ⟨RJ9, "max", "(II)I"⟩
abbrev cJ9_min_7cf53 : ByteArray := prog_11_method_69_code
def yJ9_min_7cf53 : MethodName := ⟨RJ9, "min", "(II)I"⟩
def RJ0 : String := "java/lang/String"
abbrev cJ0_length_8abf5 : ByteArray := prog_12_method_54_code
def yJ0_length_8abf5 : MethodName := ⟨RJ0, "length", "()I"⟩
abbrev cJ0_indexOf_0f7a4 : ByteArray := prog_12_method_79_code
def yJ0_indexOf_0f7a4 : MethodName := ⟨RJ0, "indexOf", "(I)I"⟩
abbrev cJ0_indexOf_7cf53 : ByteArray := prog_12_method_80_code
def yJ0_indexOf_7cf53 : MethodName := ⟨RJ0, "indexOf", "(II)I"⟩
abbrev cJ0_coder_7d493 : ByteArray := prog_12_method_152_code
def yJ0_coder_7d493 : MethodName := ⟨RJ0, "coder", "()B"⟩
abbrev cJ0_isLatin1_aae02 : ByteArray := prog_12_method_154_code
def yJ0_isLatin1_aae02 : MethodName := ⟨RJ0, "isLatin1", "()Z"⟩
abbrev cJ0_checkBoundsBeginEnd_23922 : ByteArray := prog_12_method_158_code
def yJ0_checkBoundsBeginEnd_23922 : MethodName := ⟨RJ0, "checkBoundsBeginEnd", "(III)V"⟩
def RJ1 : String := "java/lang/StringLatin1"
abbrev cJ1_canEncode_9a6ad : ByteArray := prog_13_method_4_code
def yJ1_canEncode_9a6ad : MethodName := ⟨RJ1, "canEncode", "(I)Z"⟩
abbrev cJ1_indexOf_4cfef : ByteArray := prog_13_method_22_code
def yJ1_indexOf_4cfef : MethodName := ⟨RJ1, "indexOf", "([BIII)I"⟩
abbrev cJ1_indexOfChar_4cfef : ByteArray := prog_13_method_23_code
def yJ1_indexOfChar_4cfef : MethodName := ⟨RJ1, "indexOfChar", "([BIII)I"⟩
def RJ2 : String := "java/lang/StringUTF16"
abbrev cJ2_getChar_3b067 : ByteArray := prog_14_method_5_code
def yJ2_getChar_3b067 : MethodName := ⟨RJ2, "getChar", "([BI)C"⟩
abbrev cJ2_length_9d52b : ByteArray := prog_14_method_6_code
def yJ2_length_9d52b : MethodName := ⟨RJ2, "length", "([B)I"⟩
abbrev cJ2_indexOf_4cfef : ByteArray := prog_14_method_40_code
def yJ2_indexOf_4cfef : MethodName := ⟨RJ2, "indexOf", "([BIII)I"⟩
abbrev cJ2_indexOfChar_4cfef : ByteArray := prog_14_method_47_code
def yJ2_indexOfChar_4cfef : MethodName := ⟨RJ2, "indexOfChar", "([BIII)I"⟩
abbrev cJ2_indexOfCharUnsafe_4cfef : ByteArray := prog_14_method_48_code
def yJ2_indexOfCharUnsafe_4cfef : MethodName := ⟨RJ2, "indexOfCharUnsafe", "([BIII)I"⟩
abbrev cJ2_indexOfSupplementary_4cfef : ByteArray := prog_14_method_49_code
def yJ2_indexOfSupplementary_4cfef : MethodName := ⟨RJ2, "indexOfSupplementary", "([BIII)I"⟩
abbrev cJ2_checkBoundsBeginEnd_d044e : ByteArray := prog_14_method_93_code
def yJ2_checkBoundsBeginEnd_d044e : MethodName := ⟨RJ2, "checkBoundsBeginEnd", "(II[B)V"⟩
def RJ10 : String := "java/lang/System"
def RJ3 : String := "jdk/internal/util/Preconditions"
abbrev cJ3_checkFromToIndex_8c36e : ByteArray := prog_16_method_12_code
def yJ3_checkFromToIndex_8c36e : MethodName := ⟨RJ3, "checkFromToIndex", "(IIILjava/util/function/BiFunction;)I"⟩
def RL : String := "RobbedOnceLaw"
abbrev cL_law : ByteArray := code
def yL_law : MethodName := ⟨RL, "law", "([I)Z"⟩
abbrev vwCl : List vw_C := [(RX0, TX0, 1), (RX1, TX1, 3), (RX2, TX2, 3), (RX3, TX3, 3), (RX4, TX4, 13), (RX5, TX5, 9), (RX6, TX6, 13)]
end
section
theorem dX0_init_0 : decode cX0_init 0 = .ok (.aload_n 0, 1) := by decide +kernel
theorem dX0_init_1 : decode cX0_init 1 = .ok (.invokespecial 3, 3) := by decide +kernel
theorem dX0_init_4 : decode cX0_init 4 = .ok (.aload_n 0, 1) := by decide +kernel
theorem dX0_init_5 : decode cX0_init 5 = .ok (.new 9, 3) := by decide +kernel
theorem dX0_init_8 : decode cX0_init 8 = .ok (.dup, 1) := by decide +kernel
theorem dX0_init_9 : decode cX0_init 9 = .ok (.invokespecial 11, 3) := by decide +kernel
theorem dX0_init_12 : decode cX0_init 12 = .ok (.putfield 12, 3) := by decide +kernel
theorem dX0_init_15 : decode cX0_init 15 = .ok (.return_, 1) := by decide +kernel
theorem dX0_after_0 : decode cX0_after 0 = .ok (.aload_n 0, 1) := by decide +kernel
theorem dX0_after_1 : decode cX0_after 1 = .ok (.getfield 12, 3) := by decide +kernel
theorem dX0_after_4 : decode cX0_after 4 = .ok (.aload_n 1, 1) := by decide +kernel
theorem dX0_after_5 : decode cX0_after 5 = .ok (.invokevirtual 18, 3) := by decide +kernel
theorem dX0_after_8 : decode cX0_after 8 = .ok (.aload_n 0, 1) := by decide +kernel
theorem dX0_after_9 : decode cX0_after 9 = .ok (.iload_n 2, 1) := by decide +kernel
theorem dX0_after_10 : decode cX0_after 10 = .ok (.iconst 0, 1) := by decide +kernel
theorem dX0_after_11 : decode cX0_after 11 = .ok (.invokevirtual 22, 3) := by decide +kernel
theorem dX0_after_14 : decode cX0_after 14 = .ok (.aload_n 0, 1) := by decide +kernel
theorem dX0_after_15 : decode cX0_after 15 = .ok (.getfield 12, 3) := by decide +kernel
theorem dX0_after_18 : decode cX0_after 18 = .ok (.areturn, 1) := by decide +kernel
theorem dX0_passNights_0 : decode cX0_passNights 0 = .ok (.iconst 0, 1) := by decide +kernel
theorem dX0_passNights_1 : decode cX0_passNights 1 = .ok (.istore_n 3, 1) := by decide +kernel
theorem dX0_passNights_2 : decode cX0_passNights 2 = .ok (.iload_n 3, 1) := by decide +kernel
theorem dX0_passNights_3 : decode cX0_passNights 3 = .ok (.iload_n 1, 1) := by decide +kernel
theorem dX0_passNights_4 : decode cX0_passNights 4 = .ok (.if_icmp .ge 17, 3) := by decide +kernel
theorem dX0_passNights_7 : decode cX0_passNights 7 = .ok (.aload_n 0, 1) := by decide +kernel
theorem dX0_passNights_8 : decode cX0_passNights 8 = .ok (.getfield 12, 3) := by decide +kernel
theorem dX0_passNights_11 : decode cX0_passNights 11 = .ok (.iload_n 2, 1) := by decide +kernel
theorem dX0_passNights_12 : decode cX0_passNights 12 = .ok (.invokevirtual 26, 3) := by decide +kernel
theorem dX0_passNights_15 : decode cX0_passNights 15 = .ok (.iinc 3 1, 3) := by decide +kernel
theorem dX0_passNights_18 : decode cX0_passNights 18 = .ok (.goto (-16), 3) := by decide +kernel
theorem dX0_passNights_21 : decode cX0_passNights 21 = .ok (.return_, 1) := by decide +kernel
theorem dX0_nightsUntilSworn_0 : decode cX0_nightsUntilSworn 0 = .ok (.aload_n 0, 1) := by decide +kernel
theorem dX0_nightsUntilSworn_1 : decode cX0_nightsUntilSworn 1 = .ok (.getfield 12, 3) := by decide +kernel
theorem dX0_nightsUntilSworn_4 : decode cX0_nightsUntilSworn 4 = .ok (.aload_n 1, 1) := by decide +kernel
theorem dX0_nightsUntilSworn_5 : decode cX0_nightsUntilSworn 5 = .ok (.invokevirtual 18, 3) := by decide +kernel
theorem dX0_nightsUntilSworn_8 : decode cX0_nightsUntilSworn 8 = .ok (.iconst 0, 1) := by decide +kernel
theorem dX0_nightsUntilSworn_9 : decode cX0_nightsUntilSworn 9 = .ok (.istore_n 3, 1) := by decide +kernel
theorem dX0_nightsUntilSworn_10 : decode cX0_nightsUntilSworn 10 = .ok (.iload_n 3, 1) := by decide +kernel
theorem dX0_nightsUntilSworn_11 : decode cX0_nightsUntilSworn 11 = .ok (.bipush 99, 2) := by decide +kernel
theorem dX0_nightsUntilSworn_13 : decode cX0_nightsUntilSworn 13 = .ok (.if_icmp .ge 33, 3) := by decide +kernel
theorem dX0_nightsUntilSworn_16 : decode cX0_nightsUntilSworn 16 = .ok (.aload_n 0, 1) := by decide +kernel
theorem dX0_nightsUntilSworn_17 : decode cX0_nightsUntilSworn 17 = .ok (.getfield 12, 3) := by decide +kernel
theorem dX0_nightsUntilSworn_20 : decode cX0_nightsUntilSworn 20 = .ok (.getfield 30, 3) := by decide +kernel
theorem dX0_nightsUntilSworn_23 : decode cX0_nightsUntilSworn 23 = .ok (.iload_n 2, 1) := by decide +kernel
theorem dX0_nightsUntilSworn_24 : decode cX0_nightsUntilSworn 24 = .ok (.invokestatic 34, 3) := by decide +kernel
theorem dX0_nightsUntilSworn_27 : decode cX0_nightsUntilSworn 27 = .ok (.ifCond .eq 5, 3) := by decide +kernel
theorem dX0_nightsUntilSworn_30 : decode cX0_nightsUntilSworn 30 = .ok (.iload_n 3, 1) := by decide +kernel
theorem dX0_nightsUntilSworn_31 : decode cX0_nightsUntilSworn 31 = .ok (.ireturn, 1) := by decide +kernel
theorem dX0_nightsUntilSworn_32 : decode cX0_nightsUntilSworn 32 = .ok (.aload_n 0, 1) := by decide +kernel
theorem dX0_nightsUntilSworn_33 : decode cX0_nightsUntilSworn 33 = .ok (.getfield 12, 3) := by decide +kernel
theorem dX0_nightsUntilSworn_36 : decode cX0_nightsUntilSworn 36 = .ok (.iconst 0, 1) := by decide +kernel
theorem dX0_nightsUntilSworn_37 : decode cX0_nightsUntilSworn 37 = .ok (.invokevirtual 26, 3) := by decide +kernel
theorem dX0_nightsUntilSworn_40 : decode cX0_nightsUntilSworn 40 = .ok (.iinc 3 1, 3) := by decide +kernel
theorem dX0_nightsUntilSworn_43 : decode cX0_nightsUntilSworn 43 = .ok (.goto (-33), 3) := by decide +kernel
theorem dX0_nightsUntilSworn_46 : decode cX0_nightsUntilSworn 46 = .ok (.aload_n 0, 1) := by decide +kernel
theorem dX0_nightsUntilSworn_47 : decode cX0_nightsUntilSworn 47 = .ok (.getfield 12, 3) := by decide +kernel
theorem dX0_nightsUntilSworn_50 : decode cX0_nightsUntilSworn 50 = .ok (.getfield 30, 3) := by decide +kernel
theorem dX0_nightsUntilSworn_53 : decode cX0_nightsUntilSworn 53 = .ok (.iload_n 2, 1) := by decide +kernel
theorem dX0_nightsUntilSworn_54 : decode cX0_nightsUntilSworn 54 = .ok (.invokestatic 34, 3) := by decide +kernel
theorem dX0_nightsUntilSworn_57 : decode cX0_nightsUntilSworn 57 = .ok (.ifCond .eq 8, 3) := by decide +kernel
theorem dX0_nightsUntilSworn_60 : decode cX0_nightsUntilSworn 60 = .ok (.bipush 99, 2) := by decide +kernel
theorem dX0_nightsUntilSworn_62 : decode cX0_nightsUntilSworn 62 = .ok (.goto 5, 3) := by decide +kernel
theorem dX0_nightsUntilSworn_65 : decode cX0_nightsUntilSworn 65 = .ok (.bipush (-4), 2) := by decide +kernel
theorem dX0_nightsUntilSworn_67 : decode cX0_nightsUntilSworn 67 = .ok (.ireturn, 1) := by decide +kernel
theorem dX0_bestHiding_0 : decode cX0_bestHiding 0 = .ok (.aload_n 1, 1) := by decide +kernel
theorem dX0_bestHiding_1 : decode cX0_bestHiding 1 = .ok (.getfield 30, 3) := by decide +kernel
theorem dX0_bestHiding_4 : decode cX0_bestHiding 4 = .ok (.iload_n 2, 1) := by decide +kernel
theorem dX0_bestHiding_5 : decode cX0_bestHiding 5 = .ok (.invokestatic 34, 3) := by decide +kernel
theorem dX0_bestHiding_8 : decode cX0_bestHiding 8 = .ok (.ifCond .eq 5, 3) := by decide +kernel
theorem dX0_bestHiding_11 : decode cX0_bestHiding 11 = .ok (.iconst 0, 1) := by decide +kernel
theorem dX0_bestHiding_12 : decode cX0_bestHiding 12 = .ok (.ireturn, 1) := by decide +kernel
theorem dX0_bestHiding_13 : decode cX0_bestHiding 13 = .ok (.bipush (-4), 2) := by decide +kernel
theorem dX0_bestHiding_15 : decode cX0_bestHiding 15 = .ok (.istore 4, 2) := by decide +kernel
theorem dX0_bestHiding_17 : decode cX0_bestHiding 17 = .ok (.bipush 100, 2) := by decide +kernel
theorem dX0_bestHiding_19 : decode cX0_bestHiding 19 = .ok (.istore 5, 2) := by decide +kernel
theorem dX0_bestHiding_21 : decode cX0_bestHiding 21 = .ok (.iconst 0, 1) := by decide +kernel
theorem dX0_bestHiding_22 : decode cX0_bestHiding 22 = .ok (.istore 6, 2) := by decide +kernel
theorem dX0_bestHiding_24 : decode cX0_bestHiding 24 = .ok (.iload 6, 2) := by decide +kernel
theorem dX0_bestHiding_26 : decode cX0_bestHiding 26 = .ok (.bipush 20, 2) := by decide +kernel
theorem dX0_bestHiding_28 : decode cX0_bestHiding 28 = .ok (.if_icmp .gt 36, 3) := by decide +kernel
theorem dX0_bestHiding_31 : decode cX0_bestHiding 31 = .ok (.aload_n 0, 1) := by decide +kernel
theorem dX0_bestHiding_32 : decode cX0_bestHiding 32 = .ok (.aload_n 1, 1) := by decide +kernel
theorem dX0_bestHiding_33 : decode cX0_bestHiding 33 = .ok (.iload_n 2, 1) := by decide +kernel
theorem dX0_bestHiding_34 : decode cX0_bestHiding 34 = .ok (.iload 6, 2) := by decide +kernel
theorem dX0_bestHiding_36 : decode cX0_bestHiding 36 = .ok (.iload 5, 2) := by decide +kernel
theorem dX0_bestHiding_38 : decode cX0_bestHiding 38 = .ok (.iconst 1, 1) := by decide +kernel
theorem dX0_bestHiding_39 : decode cX0_bestHiding 39 = .ok (.isub, 1) := by decide +kernel
theorem dX0_bestHiding_40 : decode cX0_bestHiding 40 = .ok (.invokevirtual 38, 3) := by decide +kernel
theorem dX0_bestHiding_43 : decode cX0_bestHiding 43 = .ok (.istore 7, 2) := by decide +kernel
theorem dX0_bestHiding_45 : decode cX0_bestHiding 45 = .ok (.iload 7, 2) := by decide +kernel
theorem dX0_bestHiding_47 : decode cX0_bestHiding 47 = .ok (.ifCond .lt 11, 3) := by decide +kernel
theorem dX0_bestHiding_50 : decode cX0_bestHiding 50 = .ok (.iload 6, 2) := by decide +kernel
theorem dX0_bestHiding_52 : decode cX0_bestHiding 52 = .ok (.istore 4, 2) := by decide +kernel
theorem dX0_bestHiding_54 : decode cX0_bestHiding 54 = .ok (.iload 7, 2) := by decide +kernel
theorem dX0_bestHiding_56 : decode cX0_bestHiding 56 = .ok (.istore 5, 2) := by decide +kernel
theorem dX0_bestHiding_58 : decode cX0_bestHiding 58 = .ok (.iinc 6 1, 3) := by decide +kernel
theorem dX0_bestHiding_61 : decode cX0_bestHiding 61 = .ok (.goto (-37), 3) := by decide +kernel
theorem dX0_bestHiding_64 : decode cX0_bestHiding 64 = .ok (.iload 4, 2) := by decide +kernel
theorem dX0_bestHiding_66 : decode cX0_bestHiding 66 = .ok (.ifCond .lt 7, 3) := by decide +kernel
theorem dX0_bestHiding_69 : decode cX0_bestHiding 69 = .ok (.iload_n 3, 1) := by decide +kernel
theorem dX0_bestHiding_70 : decode cX0_bestHiding 70 = .ok (.ifCond .eq 8, 3) := by decide +kernel
theorem dX0_bestHiding_73 : decode cX0_bestHiding 73 = .ok (.iload 4, 2) := by decide +kernel
theorem dX0_bestHiding_75 : decode cX0_bestHiding 75 = .ok (.goto 5, 3) := by decide +kernel
theorem dX0_bestHiding_78 : decode cX0_bestHiding 78 = .ok (.iload 5, 2) := by decide +kernel
theorem dX0_bestHiding_80 : decode cX0_bestHiding 80 = .ok (.ireturn, 1) := by decide +kernel
theorem dX0_nightsIfHidden_0 : decode cX0_nightsIfHidden 0 = .ok (.aload_n 0, 1) := by decide +kernel
theorem dX0_nightsIfHidden_1 : decode cX0_nightsIfHidden 1 = .ok (.getfield 12, 3) := by decide +kernel
theorem dX0_nightsIfHidden_4 : decode cX0_nightsIfHidden 4 = .ok (.aload_n 1, 1) := by decide +kernel
theorem dX0_nightsIfHidden_5 : decode cX0_nightsIfHidden 5 = .ok (.invokevirtual 18, 3) := by decide +kernel
theorem dX0_nightsIfHidden_8 : decode cX0_nightsIfHidden 8 = .ok (.iconst 0, 1) := by decide +kernel
theorem dX0_nightsIfHidden_9 : decode cX0_nightsIfHidden 9 = .ok (.istore 5, 2) := by decide +kernel
theorem dX0_nightsIfHidden_11 : decode cX0_nightsIfHidden 11 = .ok (.iload 5, 2) := by decide +kernel
theorem dX0_nightsIfHidden_13 : decode cX0_nightsIfHidden 13 = .ok (.iload 4, 2) := by decide +kernel
theorem dX0_nightsIfHidden_15 : decode cX0_nightsIfHidden 15 = .ok (.if_icmp .ge 55, 3) := by decide +kernel
theorem dX0_nightsIfHidden_18 : decode cX0_nightsIfHidden 18 = .ok (.aload_n 0, 1) := by decide +kernel
theorem dX0_nightsIfHidden_19 : decode cX0_nightsIfHidden 19 = .ok (.getfield 12, 3) := by decide +kernel
theorem dX0_nightsIfHidden_22 : decode cX0_nightsIfHidden 22 = .ok (.iload_n 2, 1) := by decide +kernel
theorem dX0_nightsIfHidden_23 : decode cX0_nightsIfHidden 23 = .ok (.iload 5, 2) := by decide +kernel
theorem dX0_nightsIfHidden_25 : decode cX0_nightsIfHidden 25 = .ok (.iload_n 3, 1) := by decide +kernel
theorem dX0_nightsIfHidden_26 : decode cX0_nightsIfHidden 26 = .ok (.if_icmp .lt 7, 3) := by decide +kernel
theorem dX0_nightsIfHidden_29 : decode cX0_nightsIfHidden 29 = .ok (.iconst 1, 1) := by decide +kernel
theorem dX0_nightsIfHidden_30 : decode cX0_nightsIfHidden 30 = .ok (.goto 4, 3) := by decide +kernel
theorem dX0_nightsIfHidden_33 : decode cX0_nightsIfHidden 33 = .ok (.iconst 0, 1) := by decide +kernel
theorem dX0_nightsIfHidden_34 : decode cX0_nightsIfHidden 34 = .ok (.invokevirtual 42, 3) := by decide +kernel
theorem dX0_nightsIfHidden_37 : decode cX0_nightsIfHidden 37 = .ok (.aload_n 0, 1) := by decide +kernel
theorem dX0_nightsIfHidden_38 : decode cX0_nightsIfHidden 38 = .ok (.getfield 12, 3) := by decide +kernel
theorem dX0_nightsIfHidden_41 : decode cX0_nightsIfHidden 41 = .ok (.iconst 0, 1) := by decide +kernel
theorem dX0_nightsIfHidden_42 : decode cX0_nightsIfHidden 42 = .ok (.invokevirtual 26, 3) := by decide +kernel
theorem dX0_nightsIfHidden_45 : decode cX0_nightsIfHidden 45 = .ok (.aload_n 0, 1) := by decide +kernel
theorem dX0_nightsIfHidden_46 : decode cX0_nightsIfHidden 46 = .ok (.getfield 12, 3) := by decide +kernel
theorem dX0_nightsIfHidden_49 : decode cX0_nightsIfHidden 49 = .ok (.getfield 30, 3) := by decide +kernel
theorem dX0_nightsIfHidden_52 : decode cX0_nightsIfHidden 52 = .ok (.iload_n 2, 1) := by decide +kernel
theorem dX0_nightsIfHidden_53 : decode cX0_nightsIfHidden 53 = .ok (.invokestatic 34, 3) := by decide +kernel
theorem dX0_nightsIfHidden_56 : decode cX0_nightsIfHidden 56 = .ok (.ifCond .eq 8, 3) := by decide +kernel
theorem dX0_nightsIfHidden_59 : decode cX0_nightsIfHidden 59 = .ok (.iload 5, 2) := by decide +kernel
theorem dX0_nightsIfHidden_61 : decode cX0_nightsIfHidden 61 = .ok (.iconst 1, 1) := by decide +kernel
theorem dX0_nightsIfHidden_62 : decode cX0_nightsIfHidden 62 = .ok (.iadd, 1) := by decide +kernel
theorem dX0_nightsIfHidden_63 : decode cX0_nightsIfHidden 63 = .ok (.ireturn, 1) := by decide +kernel
theorem dX0_nightsIfHidden_64 : decode cX0_nightsIfHidden 64 = .ok (.iinc 5 1, 3) := by decide +kernel
theorem dX0_nightsIfHidden_67 : decode cX0_nightsIfHidden 67 = .ok (.goto (-56), 3) := by decide +kernel
theorem dX0_nightsIfHidden_70 : decode cX0_nightsIfHidden 70 = .ok (.bipush (-4), 2) := by decide +kernel
theorem dX0_nightsIfHidden_72 : decode cX0_nightsIfHidden 72 = .ok (.ireturn, 1) := by decide +kernel
theorem dX0_leastCover_0 : decode cX0_leastCover 0 = .ok (.aload_n 1, 1) := by decide +kernel
theorem dX0_leastCover_1 : decode cX0_leastCover 1 = .ok (.getfield 46, 3) := by decide +kernel
theorem dX0_leastCover_4 : decode cX0_leastCover 4 = .ok (.iconst 1, 1) := by decide +kernel
theorem dX0_leastCover_5 : decode cX0_leastCover 5 = .ok (.iload_n 2, 1) := by decide +kernel
theorem dX0_leastCover_6 : decode cX0_leastCover 6 = .ok (.ishl, 1) := by decide +kernel
theorem dX0_leastCover_7 : decode cX0_leastCover 7 = .ok (.iconst (-1), 1) := by decide +kernel
theorem dX0_leastCover_8 : decode cX0_leastCover 8 = .ok (.ixor, 1) := by decide +kernel
theorem dX0_leastCover_9 : decode cX0_leastCover 9 = .ok (.iand, 1) := by decide +kernel
theorem dX0_leastCover_10 : decode cX0_leastCover 10 = .ok (.istore 4, 2) := by decide +kernel
theorem dX0_leastCover_12 : decode cX0_leastCover 12 = .ok (.bipush (-4), 2) := by decide +kernel
theorem dX0_leastCover_14 : decode cX0_leastCover 14 = .ok (.istore 5, 2) := by decide +kernel
theorem dX0_leastCover_16 : decode cX0_leastCover 16 = .ok (.iconst 0, 1) := by decide +kernel
theorem dX0_leastCover_17 : decode cX0_leastCover 17 = .ok (.istore 6, 2) := by decide +kernel
theorem dX0_leastCover_19 : decode cX0_leastCover 19 = .ok (.iload 6, 2) := by decide +kernel
theorem dX0_leastCover_21 : decode cX0_leastCover 21 = .ok (.bipush 64, 2) := by decide +kernel
theorem dX0_leastCover_23 : decode cX0_leastCover 23 = .ok (.if_icmp .ge 100, 3) := by decide +kernel
theorem dX0_leastCover_26 : decode cX0_leastCover 26 = .ok (.iload 5, 2) := by decide +kernel
theorem dX0_leastCover_28 : decode cX0_leastCover 28 = .ok (.ifCond .lt 16, 3) := by decide +kernel
theorem dX0_leastCover_31 : decode cX0_leastCover 31 = .ok (.iload 6, 2) := by decide +kernel
theorem dX0_leastCover_33 : decode cX0_leastCover 33 = .ok (.invokestatic 49, 3) := by decide +kernel
theorem dX0_leastCover_36 : decode cX0_leastCover 36 = .ok (.iload 5, 2) := by decide +kernel
theorem dX0_leastCover_38 : decode cX0_leastCover 38 = .ok (.invokestatic 49, 3) := by decide +kernel
theorem dX0_leastCover_41 : decode cX0_leastCover 41 = .ok (.if_icmp .ge 7, 3) := by decide +kernel
theorem dX0_leastCover_44 : decode cX0_leastCover 44 = .ok (.iconst 1, 1) := by decide +kernel
theorem dX0_leastCover_45 : decode cX0_leastCover 45 = .ok (.goto 4, 3) := by decide +kernel
theorem dX0_leastCover_48 : decode cX0_leastCover 48 = .ok (.iconst 0, 1) := by decide +kernel
theorem dX0_leastCover_49 : decode cX0_leastCover 49 = .ok (.istore 7, 2) := by decide +kernel
theorem dX0_leastCover_51 : decode cX0_leastCover 51 = .ok (.iload 7, 2) := by decide +kernel
theorem dX0_leastCover_53 : decode cX0_leastCover 53 = .ok (.ifCond .eq 64, 3) := by decide +kernel
theorem dX0_leastCover_56 : decode cX0_leastCover 56 = .ok (.iload 6, 2) := by decide +kernel
theorem dX0_leastCover_58 : decode cX0_leastCover 58 = .ok (.iload 4, 2) := by decide +kernel
theorem dX0_leastCover_60 : decode cX0_leastCover 60 = .ok (.iconst (-1), 1) := by decide +kernel
theorem dX0_leastCover_61 : decode cX0_leastCover 61 = .ok (.ixor, 1) := by decide +kernel
theorem dX0_leastCover_62 : decode cX0_leastCover 62 = .ok (.iand, 1) := by decide +kernel
theorem dX0_leastCover_63 : decode cX0_leastCover 63 = .ok (.ifCond .eq 6, 3) := by decide +kernel
theorem dX0_leastCover_66 : decode cX0_leastCover 66 = .ok (.goto 51, 3) := by decide +kernel
theorem dX0_leastCover_69 : decode cX0_leastCover 69 = .ok (.aload_n 0, 1) := by decide +kernel
theorem dX0_leastCover_70 : decode cX0_leastCover 70 = .ok (.getfield 12, 3) := by decide +kernel
theorem dX0_leastCover_73 : decode cX0_leastCover 73 = .ok (.aload_n 1, 1) := by decide +kernel
theorem dX0_leastCover_74 : decode cX0_leastCover 74 = .ok (.invokevirtual 18, 3) := by decide +kernel
theorem dX0_leastCover_77 : decode cX0_leastCover 77 = .ok (.aload_n 0, 1) := by decide +kernel
theorem dX0_leastCover_78 : decode cX0_leastCover 78 = .ok (.getfield 12, 3) := by decide +kernel
theorem dX0_leastCover_81 : decode cX0_leastCover 81 = .ok (.dup, 1) := by decide +kernel
theorem dX0_leastCover_82 : decode cX0_leastCover 82 = .ok (.getfield 46, 3) := by decide +kernel
theorem dX0_leastCover_85 : decode cX0_leastCover 85 = .ok (.iload 6, 2) := by decide +kernel
theorem dX0_leastCover_87 : decode cX0_leastCover 87 = .ok (.iconst (-1), 1) := by decide +kernel
theorem dX0_leastCover_88 : decode cX0_leastCover 88 = .ok (.ixor, 1) := by decide +kernel
theorem dX0_leastCover_89 : decode cX0_leastCover 89 = .ok (.iand, 1) := by decide +kernel
theorem dX0_leastCover_90 : decode cX0_leastCover 90 = .ok (.putfield 46, 3) := by decide +kernel
theorem dX0_leastCover_93 : decode cX0_leastCover 93 = .ok (.aload_n 0, 1) := by decide +kernel
theorem dX0_leastCover_94 : decode cX0_leastCover 94 = .ok (.iload_n 3, 1) := by decide +kernel
theorem dX0_leastCover_95 : decode cX0_leastCover 95 = .ok (.iconst 0, 1) := by decide +kernel
theorem dX0_leastCover_96 : decode cX0_leastCover 96 = .ok (.invokevirtual 22, 3) := by decide +kernel
theorem dX0_leastCover_99 : decode cX0_leastCover 99 = .ok (.aload_n 0, 1) := by decide +kernel
theorem dX0_leastCover_100 : decode cX0_leastCover 100 = .ok (.getfield 12, 3) := by decide +kernel
theorem dX0_leastCover_103 : decode cX0_leastCover 103 = .ok (.getfield 30, 3) := by decide +kernel
theorem dX0_leastCover_106 : decode cX0_leastCover 106 = .ok (.iload_n 2, 1) := by decide +kernel
theorem dX0_leastCover_107 : decode cX0_leastCover 107 = .ok (.invokestatic 34, 3) := by decide +kernel
theorem dX0_leastCover_110 : decode cX0_leastCover 110 = .ok (.ifCond .eq 7, 3) := by decide +kernel
theorem dX0_leastCover_113 : decode cX0_leastCover 113 = .ok (.iload 6, 2) := by decide +kernel
theorem dX0_leastCover_115 : decode cX0_leastCover 115 = .ok (.istore 5, 2) := by decide +kernel
theorem dX0_leastCover_117 : decode cX0_leastCover 117 = .ok (.iinc 6 1, 3) := by decide +kernel
theorem dX0_leastCover_120 : decode cX0_leastCover 120 = .ok (.goto (-101), 3) := by decide +kernel
theorem dX0_leastCover_123 : decode cX0_leastCover 123 = .ok (.iload 5, 2) := by decide +kernel
theorem dX0_leastCover_125 : decode cX0_leastCover 125 = .ok (.ireturn, 1) := by decide +kernel
theorem dX0_greatestBar_0 : decode cX0_greatestBar 0 = .ok (.bipush 99, 2) := by decide +kernel
theorem dX0_greatestBar_2 : decode cX0_greatestBar 2 = .ok (.istore_n 3, 1) := by decide +kernel
theorem dX0_greatestBar_3 : decode cX0_greatestBar 3 = .ok (.iload_n 3, 1) := by decide +kernel
theorem dX0_greatestBar_4 : decode cX0_greatestBar 4 = .ok (.ifCond .lt 50, 3) := by decide +kernel
theorem dX0_greatestBar_7 : decode cX0_greatestBar 7 = .ok (.aload_n 0, 1) := by decide +kernel
theorem dX0_greatestBar_8 : decode cX0_greatestBar 8 = .ok (.getfield 12, 3) := by decide +kernel
theorem dX0_greatestBar_11 : decode cX0_greatestBar 11 = .ok (.aload_n 1, 1) := by decide +kernel
theorem dX0_greatestBar_12 : decode cX0_greatestBar 12 = .ok (.invokevirtual 18, 3) := by decide +kernel
theorem dX0_greatestBar_15 : decode cX0_greatestBar 15 = .ok (.aload_n 0, 1) := by decide +kernel
theorem dX0_greatestBar_16 : decode cX0_greatestBar 16 = .ok (.getfield 12, 3) := by decide +kernel
theorem dX0_greatestBar_19 : decode cX0_greatestBar 19 = .ok (.iload_n 3, 1) := by decide +kernel
theorem dX0_greatestBar_20 : decode cX0_greatestBar 20 = .ok (.putfield 55, 3) := by decide +kernel
theorem dX0_greatestBar_23 : decode cX0_greatestBar 23 = .ok (.aload_n 0, 1) := by decide +kernel
theorem dX0_greatestBar_24 : decode cX0_greatestBar 24 = .ok (.iload_n 2, 1) := by decide +kernel
theorem dX0_greatestBar_25 : decode cX0_greatestBar 25 = .ok (.iconst 0, 1) := by decide +kernel
theorem dX0_greatestBar_26 : decode cX0_greatestBar 26 = .ok (.invokevirtual 22, 3) := by decide +kernel
theorem dX0_greatestBar_29 : decode cX0_greatestBar 29 = .ok (.aload_n 0, 1) := by decide +kernel
theorem dX0_greatestBar_30 : decode cX0_greatestBar 30 = .ok (.getfield 12, 3) := by decide +kernel
theorem dX0_greatestBar_33 : decode cX0_greatestBar 33 = .ok (.getfield 30, 3) := by decide +kernel
theorem dX0_greatestBar_36 : decode cX0_greatestBar 36 = .ok (.aload_n 0, 1) := by decide +kernel
theorem dX0_greatestBar_37 : decode cX0_greatestBar 37 = .ok (.getfield 12, 3) := by decide +kernel
theorem dX0_greatestBar_40 : decode cX0_greatestBar 40 = .ok (.invokevirtual 58, 3) := by decide +kernel
theorem dX0_greatestBar_43 : decode cX0_greatestBar 43 = .ok (.if_icmp .ne 5, 3) := by decide +kernel
theorem dX0_greatestBar_46 : decode cX0_greatestBar 46 = .ok (.iload_n 3, 1) := by decide +kernel
theorem dX0_greatestBar_47 : decode cX0_greatestBar 47 = .ok (.ireturn, 1) := by decide +kernel
theorem dX0_greatestBar_48 : decode cX0_greatestBar 48 = .ok (.iinc 3 (-1), 3) := by decide +kernel
theorem dX0_greatestBar_51 : decode cX0_greatestBar 51 = .ok (.goto (-48), 3) := by decide +kernel
theorem dX0_greatestBar_54 : decode cX0_greatestBar 54 = .ok (.bipush (-4), 2) := by decide +kernel
theorem dX0_greatestBar_56 : decode cX0_greatestBar 56 = .ok (.ireturn, 1) := by decide +kernel
theorem dX0_sparedThief_0 : decode cX0_sparedThief 0 = .ok (.bipush (-4), 2) := by decide +kernel
theorem dX0_sparedThief_2 : decode cX0_sparedThief 2 = .ok (.istore_n 3, 1) := by decide +kernel
theorem dX0_sparedThief_3 : decode cX0_sparedThief 3 = .ok (.iconst (-1), 1) := by decide +kernel
theorem dX0_sparedThief_4 : decode cX0_sparedThief 4 = .ok (.istore 4, 2) := by decide +kernel
theorem dX0_sparedThief_6 : decode cX0_sparedThief 6 = .ok (.iconst 0, 1) := by decide +kernel
theorem dX0_sparedThief_7 : decode cX0_sparedThief 7 = .ok (.istore 5, 2) := by decide +kernel
theorem dX0_sparedThief_9 : decode cX0_sparedThief 9 = .ok (.iload 5, 2) := by decide +kernel
theorem dX0_sparedThief_11 : decode cX0_sparedThief 11 = .ok (.aload_n 1, 1) := by decide +kernel
theorem dX0_sparedThief_12 : decode cX0_sparedThief 12 = .ok (.getfield 62, 3) := by decide +kernel
theorem dX0_sparedThief_15 : decode cX0_sparedThief 15 = .ok (.if_icmp .ge 33, 3) := by decide +kernel
theorem dX0_sparedThief_18 : decode cX0_sparedThief 18 = .ok (.aload_n 0, 1) := by decide +kernel
theorem dX0_sparedThief_19 : decode cX0_sparedThief 19 = .ok (.aload_n 1, 1) := by decide +kernel
theorem dX0_sparedThief_20 : decode cX0_sparedThief 20 = .ok (.iload 5, 2) := by decide +kernel
theorem dX0_sparedThief_22 : decode cX0_sparedThief 22 = .ok (.iload_n 2, 1) := by decide +kernel
theorem dX0_sparedThief_23 : decode cX0_sparedThief 23 = .ok (.invokevirtual 65, 3) := by decide +kernel
theorem dX0_sparedThief_26 : decode cX0_sparedThief 26 = .ok (.istore 6, 2) := by decide +kernel
theorem dX0_sparedThief_28 : decode cX0_sparedThief 28 = .ok (.iload 6, 2) := by decide +kernel
theorem dX0_sparedThief_30 : decode cX0_sparedThief 30 = .ok (.iload 4, 2) := by decide +kernel
theorem dX0_sparedThief_32 : decode cX0_sparedThief 32 = .ok (.if_icmp .le 10, 3) := by decide +kernel
theorem dX0_sparedThief_35 : decode cX0_sparedThief 35 = .ok (.iload 5, 2) := by decide +kernel
theorem dX0_sparedThief_37 : decode cX0_sparedThief 37 = .ok (.istore_n 3, 1) := by decide +kernel
theorem dX0_sparedThief_38 : decode cX0_sparedThief 38 = .ok (.iload 6, 2) := by decide +kernel
theorem dX0_sparedThief_40 : decode cX0_sparedThief 40 = .ok (.istore 4, 2) := by decide +kernel
theorem dX0_sparedThief_42 : decode cX0_sparedThief 42 = .ok (.iinc 5 1, 3) := by decide +kernel
theorem dX0_sparedThief_45 : decode cX0_sparedThief 45 = .ok (.goto (-36), 3) := by decide +kernel
theorem dX0_sparedThief_48 : decode cX0_sparedThief 48 = .ok (.iload_n 3, 1) := by decide +kernel
theorem dX0_sparedThief_49 : decode cX0_sparedThief 49 = .ok (.ireturn, 1) := by decide +kernel
theorem dX0_swornWithout_0 : decode cX0_swornWithout 0 = .ok (.aload_n 0, 1) := by decide +kernel
theorem dX0_swornWithout_1 : decode cX0_swornWithout 1 = .ok (.getfield 12, 3) := by decide +kernel
theorem dX0_swornWithout_4 : decode cX0_swornWithout 4 = .ok (.aload_n 1, 1) := by decide +kernel
theorem dX0_swornWithout_5 : decode cX0_swornWithout 5 = .ok (.invokevirtual 18, 3) := by decide +kernel
theorem dX0_swornWithout_8 : decode cX0_swornWithout 8 = .ok (.aload_n 0, 1) := by decide +kernel
theorem dX0_swornWithout_9 : decode cX0_swornWithout 9 = .ok (.iload_n 3, 1) := by decide +kernel
theorem dX0_swornWithout_10 : decode cX0_swornWithout 10 = .ok (.iconst 1, 1) := by decide +kernel
theorem dX0_swornWithout_11 : decode cX0_swornWithout 11 = .ok (.iload_n 2, 1) := by decide +kernel
theorem dX0_swornWithout_12 : decode cX0_swornWithout 12 = .ok (.ishl, 1) := by decide +kernel
theorem dX0_swornWithout_13 : decode cX0_swornWithout 13 = .ok (.invokevirtual 22, 3) := by decide +kernel
theorem dX0_swornWithout_16 : decode cX0_swornWithout 16 = .ok (.aload_n 0, 1) := by decide +kernel
theorem dX0_swornWithout_17 : decode cX0_swornWithout 17 = .ok (.getfield 12, 3) := by decide +kernel
theorem dX0_swornWithout_20 : decode cX0_swornWithout 20 = .ok (.getfield 30, 3) := by decide +kernel
theorem dX0_swornWithout_23 : decode cX0_swornWithout 23 = .ok (.invokestatic 49, 3) := by decide +kernel
theorem dX0_swornWithout_26 : decode cX0_swornWithout 26 = .ok (.ireturn, 1) := by decide +kernel
theorem dX0_mostCareful_0 : decode cX0_mostCareful 0 = .ok (.bipush 9, 2) := by decide +kernel
theorem dX0_mostCareful_2 : decode cX0_mostCareful 2 = .ok (.istore 4, 2) := by decide +kernel
theorem dX0_mostCareful_4 : decode cX0_mostCareful 4 = .ok (.iload 4, 2) := by decide +kernel
theorem dX0_mostCareful_6 : decode cX0_mostCareful 6 = .ok (.ifCond .lt 51, 3) := by decide +kernel
theorem dX0_mostCareful_9 : decode cX0_mostCareful 9 = .ok (.aload_n 0, 1) := by decide +kernel
theorem dX0_mostCareful_10 : decode cX0_mostCareful 10 = .ok (.getfield 12, 3) := by decide +kernel
theorem dX0_mostCareful_13 : decode cX0_mostCareful 13 = .ok (.aload_n 1, 1) := by decide +kernel
theorem dX0_mostCareful_14 : decode cX0_mostCareful 14 = .ok (.invokevirtual 18, 3) := by decide +kernel
theorem dX0_mostCareful_17 : decode cX0_mostCareful 17 = .ok (.aload_n 0, 1) := by decide +kernel
theorem dX0_mostCareful_18 : decode cX0_mostCareful 18 = .ok (.getfield 12, 3) := by decide +kernel
theorem dX0_mostCareful_21 : decode cX0_mostCareful 21 = .ok (.getfield 69, 3) := by decide +kernel
theorem dX0_mostCareful_24 : decode cX0_mostCareful 24 = .ok (.iload_n 2, 1) := by decide +kernel
theorem dX0_mostCareful_25 : decode cX0_mostCareful 25 = .ok (.iload 4, 2) := by decide +kernel
theorem dX0_mostCareful_27 : decode cX0_mostCareful 27 = .ok (.iastore, 1) := by decide +kernel
theorem dX0_mostCareful_28 : decode cX0_mostCareful 28 = .ok (.aload_n 0, 1) := by decide +kernel
theorem dX0_mostCareful_29 : decode cX0_mostCareful 29 = .ok (.iload_n 3, 1) := by decide +kernel
theorem dX0_mostCareful_30 : decode cX0_mostCareful 30 = .ok (.iconst 0, 1) := by decide +kernel
theorem dX0_mostCareful_31 : decode cX0_mostCareful 31 = .ok (.invokevirtual 22, 3) := by decide +kernel
theorem dX0_mostCareful_34 : decode cX0_mostCareful 34 = .ok (.aload_n 0, 1) := by decide +kernel
theorem dX0_mostCareful_35 : decode cX0_mostCareful 35 = .ok (.getfield 12, 3) := by decide +kernel
theorem dX0_mostCareful_38 : decode cX0_mostCareful 38 = .ok (.getfield 30, 3) := by decide +kernel
theorem dX0_mostCareful_41 : decode cX0_mostCareful 41 = .ok (.iload_n 2, 1) := by decide +kernel
theorem dX0_mostCareful_42 : decode cX0_mostCareful 42 = .ok (.invokestatic 34, 3) := by decide +kernel
theorem dX0_mostCareful_45 : decode cX0_mostCareful 45 = .ok (.ifCond .eq 6, 3) := by decide +kernel
theorem dX0_mostCareful_48 : decode cX0_mostCareful 48 = .ok (.iload 4, 2) := by decide +kernel
theorem dX0_mostCareful_50 : decode cX0_mostCareful 50 = .ok (.ireturn, 1) := by decide +kernel
theorem dX0_mostCareful_51 : decode cX0_mostCareful 51 = .ok (.iinc 4 (-1), 3) := by decide +kernel
theorem dX0_mostCareful_54 : decode cX0_mostCareful 54 = .ok (.goto (-50), 3) := by decide +kernel
theorem dX0_mostCareful_57 : decode cX0_mostCareful 57 = .ok (.bipush (-4), 2) := by decide +kernel
theorem dX0_mostCareful_59 : decode cX0_mostCareful 59 = .ok (.ireturn, 1) := by decide +kernel
theorem dX0_kindsTold_0 : decode cX0_kindsTold 0 = .ok (.iconst 0, 1) := by decide +kernel
theorem dX0_kindsTold_1 : decode cX0_kindsTold 1 = .ok (.istore 6, 2) := by decide +kernel
theorem dX0_kindsTold_3 : decode cX0_kindsTold 3 = .ok (.iconst 0, 1) := by decide +kernel
theorem dX0_kindsTold_4 : decode cX0_kindsTold 4 = .ok (.istore 7, 2) := by decide +kernel
theorem dX0_kindsTold_6 : decode cX0_kindsTold 6 = .ok (.iload 7, 2) := by decide +kernel
theorem dX0_kindsTold_8 : decode cX0_kindsTold 8 = .ok (.iconst 5, 1) := by decide +kernel
theorem dX0_kindsTold_9 : decode cX0_kindsTold 9 = .ok (.if_icmp .ge 50, 3) := by decide +kernel
theorem dX0_kindsTold_12 : decode cX0_kindsTold 12 = .ok (.aload_n 0, 1) := by decide +kernel
theorem dX0_kindsTold_13 : decode cX0_kindsTold 13 = .ok (.getfield 12, 3) := by decide +kernel
theorem dX0_kindsTold_16 : decode cX0_kindsTold 16 = .ok (.aload_n 1, 1) := by decide +kernel
theorem dX0_kindsTold_17 : decode cX0_kindsTold 17 = .ok (.invokevirtual 18, 3) := by decide +kernel
theorem dX0_kindsTold_20 : decode cX0_kindsTold 20 = .ok (.aload_n 0, 1) := by decide +kernel
theorem dX0_kindsTold_21 : decode cX0_kindsTold 21 = .ok (.getfield 12, 3) := by decide +kernel
theorem dX0_kindsTold_24 : decode cX0_kindsTold 24 = .ok (.getfield 73, 3) := by decide +kernel
theorem dX0_kindsTold_27 : decode cX0_kindsTold 27 = .ok (.iload_n 2, 1) := by decide +kernel
theorem dX0_kindsTold_28 : decode cX0_kindsTold 28 = .ok (.iload 7, 2) := by decide +kernel
theorem dX0_kindsTold_30 : decode cX0_kindsTold 30 = .ok (.iastore, 1) := by decide +kernel
theorem dX0_kindsTold_31 : decode cX0_kindsTold 31 = .ok (.aload_n 0, 1) := by decide +kernel
theorem dX0_kindsTold_32 : decode cX0_kindsTold 32 = .ok (.iload_n 2, 1) := by decide +kernel
theorem dX0_kindsTold_33 : decode cX0_kindsTold 33 = .ok (.aload_n 3, 1) := by decide +kernel
theorem dX0_kindsTold_34 : decode cX0_kindsTold 34 = .ok (.iload 4, 2) := by decide +kernel
theorem dX0_kindsTold_36 : decode cX0_kindsTold 36 = .ok (.iload 5, 2) := by decide +kernel
theorem dX0_kindsTold_38 : decode cX0_kindsTold 38 = .ok (.invokevirtual 76, 3) := by decide +kernel
theorem dX0_kindsTold_41 : decode cX0_kindsTold 41 = .ok (.ifCond .eq 12, 3) := by decide +kernel
theorem dX0_kindsTold_44 : decode cX0_kindsTold 44 = .ok (.iload 6, 2) := by decide +kernel
theorem dX0_kindsTold_46 : decode cX0_kindsTold 46 = .ok (.iconst 1, 1) := by decide +kernel
theorem dX0_kindsTold_47 : decode cX0_kindsTold 47 = .ok (.iload 7, 2) := by decide +kernel
theorem dX0_kindsTold_49 : decode cX0_kindsTold 49 = .ok (.ishl, 1) := by decide +kernel
theorem dX0_kindsTold_50 : decode cX0_kindsTold 50 = .ok (.ior, 1) := by decide +kernel
theorem dX0_kindsTold_51 : decode cX0_kindsTold 51 = .ok (.istore 6, 2) := by decide +kernel
theorem dX0_kindsTold_53 : decode cX0_kindsTold 53 = .ok (.iinc 7 1, 3) := by decide +kernel
theorem dX0_kindsTold_56 : decode cX0_kindsTold 56 = .ok (.goto (-50), 3) := by decide +kernel
theorem dX0_kindsTold_59 : decode cX0_kindsTold 59 = .ok (.iload 6, 2) := by decide +kernel
theorem dX0_kindsTold_61 : decode cX0_kindsTold 61 = .ok (.ireturn, 1) := by decide +kernel
theorem dX0_numbersTold_0 : decode cX0_numbersTold 0 = .ok (.iconst 0, 1) := by decide +kernel
theorem dX0_numbersTold_1 : decode cX0_numbersTold 1 = .ok (.istore 7, 2) := by decide +kernel
theorem dX0_numbersTold_3 : decode cX0_numbersTold 3 = .ok (.iconst 0, 1) := by decide +kernel
theorem dX0_numbersTold_4 : decode cX0_numbersTold 4 = .ok (.istore 8, 2) := by decide +kernel
theorem dX0_numbersTold_6 : decode cX0_numbersTold 6 = .ok (.iload 8, 2) := by decide +kernel
theorem dX0_numbersTold_8 : decode cX0_numbersTold 8 = .ok (.bipush 99, 2) := by decide +kernel
theorem dX0_numbersTold_10 : decode cX0_numbersTold 10 = .ok (.if_icmp .gt 52, 3) := by decide +kernel
theorem dX0_numbersTold_13 : decode cX0_numbersTold 13 = .ok (.aload_n 0, 1) := by decide +kernel
theorem dX0_numbersTold_14 : decode cX0_numbersTold 14 = .ok (.getfield 12, 3) := by decide +kernel
theorem dX0_numbersTold_17 : decode cX0_numbersTold 17 = .ok (.aload_n 1, 1) := by decide +kernel
theorem dX0_numbersTold_18 : decode cX0_numbersTold 18 = .ok (.invokevirtual 18, 3) := by decide +kernel
theorem dX0_numbersTold_21 : decode cX0_numbersTold 21 = .ok (.aload_n 0, 1) := by decide +kernel
theorem dX0_numbersTold_22 : decode cX0_numbersTold 22 = .ok (.getfield 12, 3) := by decide +kernel
theorem dX0_numbersTold_25 : decode cX0_numbersTold 25 = .ok (.getfield 80, 3) := by decide +kernel
theorem dX0_numbersTold_28 : decode cX0_numbersTold 28 = .ok (.iload_n 2, 1) := by decide +kernel
theorem dX0_numbersTold_29 : decode cX0_numbersTold 29 = .ok (.iload 8, 2) := by decide +kernel
theorem dX0_numbersTold_31 : decode cX0_numbersTold 31 = .ok (.iastore, 1) := by decide +kernel
theorem dX0_numbersTold_32 : decode cX0_numbersTold 32 = .ok (.aload_n 0, 1) := by decide +kernel
theorem dX0_numbersTold_33 : decode cX0_numbersTold 33 = .ok (.iload_n 2, 1) := by decide +kernel
theorem dX0_numbersTold_34 : decode cX0_numbersTold 34 = .ok (.aload_n 3, 1) := by decide +kernel
theorem dX0_numbersTold_35 : decode cX0_numbersTold 35 = .ok (.iload 4, 2) := by decide +kernel
theorem dX0_numbersTold_37 : decode cX0_numbersTold 37 = .ok (.iload 5, 2) := by decide +kernel
theorem dX0_numbersTold_39 : decode cX0_numbersTold 39 = .ok (.invokevirtual 76, 3) := by decide +kernel
theorem dX0_numbersTold_42 : decode cX0_numbersTold 42 = .ok (.ifCond .eq 14, 3) := by decide +kernel
theorem dX0_numbersTold_45 : decode cX0_numbersTold 45 = .ok (.iload 6, 2) := by decide +kernel
theorem dX0_numbersTold_47 : decode cX0_numbersTold 47 = .ok (.ifCond .eq 6, 3) := by decide +kernel
theorem dX0_numbersTold_50 : decode cX0_numbersTold 50 = .ok (.iload 8, 2) := by decide +kernel
theorem dX0_numbersTold_52 : decode cX0_numbersTold 52 = .ok (.ireturn, 1) := by decide +kernel
theorem dX0_numbersTold_53 : decode cX0_numbersTold 53 = .ok (.iinc 7 1, 3) := by decide +kernel
theorem dX0_numbersTold_56 : decode cX0_numbersTold 56 = .ok (.iinc 8 1, 3) := by decide +kernel
theorem dX0_numbersTold_59 : decode cX0_numbersTold 59 = .ok (.goto (-53), 3) := by decide +kernel
theorem dX0_numbersTold_62 : decode cX0_numbersTold 62 = .ok (.iload 6, 2) := by decide +kernel
theorem dX0_numbersTold_64 : decode cX0_numbersTold 64 = .ok (.ifCond .eq 8, 3) := by decide +kernel
theorem dX0_numbersTold_67 : decode cX0_numbersTold 67 = .ok (.bipush (-4), 2) := by decide +kernel
theorem dX0_numbersTold_69 : decode cX0_numbersTold 69 = .ok (.goto 5, 3) := by decide +kernel
theorem dX0_numbersTold_72 : decode cX0_numbersTold 72 = .ok (.iload 7, 2) := by decide +kernel
theorem dX0_numbersTold_74 : decode cX0_numbersTold 74 = .ok (.ireturn, 1) := by decide +kernel
theorem dX0_goesAsTold_0 : decode cX0_goesAsTold 0 = .ok (.iconst 0, 1) := by decide +kernel
theorem dX0_goesAsTold_1 : decode cX0_goesAsTold 1 = .ok (.istore 5, 2) := by decide +kernel
theorem dX0_goesAsTold_3 : decode cX0_goesAsTold 3 = .ok (.iload 5, 2) := by decide +kernel
theorem dX0_goesAsTold_5 : decode cX0_goesAsTold 5 = .ok (.iload 4, 2) := by decide +kernel
theorem dX0_goesAsTold_7 : decode cX0_goesAsTold 7 = .ok (.if_icmp .ge 42, 3) := by decide +kernel
theorem dX0_goesAsTold_10 : decode cX0_goesAsTold 10 = .ok (.aload_n 0, 1) := by decide +kernel
theorem dX0_goesAsTold_11 : decode cX0_goesAsTold 11 = .ok (.getfield 12, 3) := by decide +kernel
theorem dX0_goesAsTold_14 : decode cX0_goesAsTold 14 = .ok (.iconst 0, 1) := by decide +kernel
theorem dX0_goesAsTold_15 : decode cX0_goesAsTold 15 = .ok (.invokevirtual 26, 3) := by decide +kernel
theorem dX0_goesAsTold_18 : decode cX0_goesAsTold 18 = .ok (.aload_n 2, 1) := by decide +kernel
theorem dX0_goesAsTold_19 : decode cX0_goesAsTold 19 = .ok (.getfield 83, 3) := by decide +kernel
theorem dX0_goesAsTold_22 : decode cX0_goesAsTold 22 = .ok (.iload_n 3, 1) := by decide +kernel
theorem dX0_goesAsTold_23 : decode cX0_goesAsTold 23 = .ok (.iload 5, 2) := by decide +kernel
theorem dX0_goesAsTold_25 : decode cX0_goesAsTold 25 = .ok (.iadd, 1) := by decide +kernel
theorem dX0_goesAsTold_26 : decode cX0_goesAsTold 26 = .ok (.laload, 1) := by decide +kernel
theorem dX0_goesAsTold_27 : decode cX0_goesAsTold 27 = .ok (.aload_n 0, 1) := by decide +kernel
theorem dX0_goesAsTold_28 : decode cX0_goesAsTold 28 = .ok (.getfield 12, 3) := by decide +kernel
theorem dX0_goesAsTold_31 : decode cX0_goesAsTold 31 = .ok (.getfield 80, 3) := by decide +kernel
theorem dX0_goesAsTold_34 : decode cX0_goesAsTold 34 = .ok (.iload_n 1, 1) := by decide +kernel
theorem dX0_goesAsTold_35 : decode cX0_goesAsTold 35 = .ok (.iaload, 1) := by decide +kernel
theorem dX0_goesAsTold_36 : decode cX0_goesAsTold 36 = .ok (.i2l, 1) := by decide +kernel
theorem dX0_goesAsTold_37 : decode cX0_goesAsTold 37 = .ok (.lcmp, 1) := by decide +kernel
theorem dX0_goesAsTold_38 : decode cX0_goesAsTold 38 = .ok (.ifCond .eq 5, 3) := by decide +kernel
theorem dX0_goesAsTold_41 : decode cX0_goesAsTold 41 = .ok (.iconst 0, 1) := by decide +kernel
theorem dX0_goesAsTold_42 : decode cX0_goesAsTold 42 = .ok (.ireturn, 1) := by decide +kernel
theorem dX0_goesAsTold_43 : decode cX0_goesAsTold 43 = .ok (.iinc 5 1, 3) := by decide +kernel
theorem dX0_goesAsTold_46 : decode cX0_goesAsTold 46 = .ok (.goto (-43), 3) := by decide +kernel
theorem dX0_goesAsTold_49 : decode cX0_goesAsTold 49 = .ok (.iconst 1, 1) := by decide +kernel
theorem dX0_goesAsTold_50 : decode cX0_goesAsTold 50 = .ok (.ireturn, 1) := by decide +kernel
theorem dX0_tell_0 : decode cX0_tell 0 = .ok (.aload_n 0, 1) := by decide +kernel
theorem dX0_tell_1 : decode cX0_tell 1 = .ok (.getfield 12, 3) := by decide +kernel
theorem dX0_tell_4 : decode cX0_tell 4 = .ok (.aload_n 1, 1) := by decide +kernel
theorem dX0_tell_5 : decode cX0_tell 5 = .ok (.invokevirtual 18, 3) := by decide +kernel
theorem dX0_tell_8 : decode cX0_tell 8 = .ok (.iconst 0, 1) := by decide +kernel
theorem dX0_tell_9 : decode cX0_tell 9 = .ok (.istore 6, 2) := by decide +kernel
theorem dX0_tell_11 : decode cX0_tell 11 = .ok (.iload 6, 2) := by decide +kernel
theorem dX0_tell_13 : decode cX0_tell 13 = .ok (.iload 5, 2) := by decide +kernel
theorem dX0_tell_15 : decode cX0_tell 15 = .ok (.if_icmp .ge 36, 3) := by decide +kernel
theorem dX0_tell_18 : decode cX0_tell 18 = .ok (.aload_n 0, 1) := by decide +kernel
theorem dX0_tell_19 : decode cX0_tell 19 = .ok (.getfield 12, 3) := by decide +kernel
theorem dX0_tell_22 : decode cX0_tell 22 = .ok (.iconst 0, 1) := by decide +kernel
theorem dX0_tell_23 : decode cX0_tell 23 = .ok (.invokevirtual 26, 3) := by decide +kernel
theorem dX0_tell_26 : decode cX0_tell 26 = .ok (.aload_n 3, 1) := by decide +kernel
theorem dX0_tell_27 : decode cX0_tell 27 = .ok (.iload 4, 2) := by decide +kernel
theorem dX0_tell_29 : decode cX0_tell 29 = .ok (.iload 6, 2) := by decide +kernel
theorem dX0_tell_31 : decode cX0_tell 31 = .ok (.iadd, 1) := by decide +kernel
theorem dX0_tell_32 : decode cX0_tell 32 = .ok (.aload_n 0, 1) := by decide +kernel
theorem dX0_tell_33 : decode cX0_tell 33 = .ok (.getfield 12, 3) := by decide +kernel
theorem dX0_tell_36 : decode cX0_tell 36 = .ok (.getfield 80, 3) := by decide +kernel
theorem dX0_tell_39 : decode cX0_tell 39 = .ok (.iload_n 2, 1) := by decide +kernel
theorem dX0_tell_40 : decode cX0_tell 40 = .ok (.iaload, 1) := by decide +kernel
theorem dX0_tell_41 : decode cX0_tell 41 = .ok (.i2l, 1) := by decide +kernel
theorem dX0_tell_42 : decode cX0_tell 42 = .ok (.invokevirtual 89, 3) := by decide +kernel
theorem dX0_tell_45 : decode cX0_tell 45 = .ok (.iinc 6 1, 3) := by decide +kernel
theorem dX0_tell_48 : decode cX0_tell 48 = .ok (.goto (-37), 3) := by decide +kernel
theorem dX0_tell_51 : decode cX0_tell 51 = .ok (.return_, 1) := by decide +kernel
theorem dX1_init_0 : decode cX1_init 0 = .ok (.aload_n 0, 1) := by decide +kernel
theorem dX1_init_1 : decode cX1_init 1 = .ok (.invokespecial 3, 3) := by decide +kernel
theorem dX1_init_4 : decode cX1_init 4 = .ok (.aload_n 0, 1) := by decide +kernel
theorem dX1_init_5 : decode cX1_init 5 = .ok (.bipush 8, 2) := by decide +kernel
theorem dX1_init_7 : decode cX1_init 7 = .ok (.anewarray 9, 3) := by decide +kernel
theorem dX1_init_10 : decode cX1_init 10 = .ok (.putfield 11, 3) := by decide +kernel
theorem dX1_init_13 : decode cX1_init 13 = .ok (.iconst 0, 1) := by decide +kernel
theorem dX1_init_14 : decode cX1_init 14 = .ok (.istore_n 1, 1) := by decide +kernel
theorem dX1_init_15 : decode cX1_init 15 = .ok (.iload_n 1, 1) := by decide +kernel
theorem dX1_init_16 : decode cX1_init 16 = .ok (.bipush 8, 2) := by decide +kernel
theorem dX1_init_18 : decode cX1_init 18 = .ok (.if_icmp .ge 22, 3) := by decide +kernel
theorem dX1_init_21 : decode cX1_init 21 = .ok (.aload_n 0, 1) := by decide +kernel
theorem dX1_init_22 : decode cX1_init 22 = .ok (.getfield 11, 3) := by decide +kernel
theorem dX1_init_25 : decode cX1_init 25 = .ok (.iload_n 1, 1) := by decide +kernel
theorem dX1_init_26 : decode cX1_init 26 = .ok (.new 9, 3) := by decide +kernel
theorem dX1_init_29 : decode cX1_init 29 = .ok (.dup, 1) := by decide +kernel
theorem dX1_init_30 : decode cX1_init 30 = .ok (.invokespecial 17, 3) := by decide +kernel
theorem dX1_init_33 : decode cX1_init 33 = .ok (.aastore, 1) := by decide +kernel
theorem dX1_init_34 : decode cX1_init 34 = .ok (.iinc 1 1, 3) := by decide +kernel
theorem dX1_init_37 : decode cX1_init 37 = .ok (.goto (-22), 3) := by decide +kernel
theorem dX1_init_40 : decode cX1_init 40 = .ok (.return_, 1) := by decide +kernel
theorem dX1_keep_0 : decode cX1_keep 0 = .ok (.aload_n 0, 1) := by decide +kernel
theorem dX1_keep_1 : decode cX1_keep 1 = .ok (.getfield 11, 3) := by decide +kernel
theorem dX1_keep_4 : decode cX1_keep 4 = .ok (.aload_n 0, 1) := by decide +kernel
theorem dX1_keep_5 : decode cX1_keep 5 = .ok (.getfield 18, 3) := by decide +kernel
theorem dX1_keep_8 : decode cX1_keep 8 = .ok (.aaload, 1) := by decide +kernel
theorem dX1_keep_9 : decode cX1_keep 9 = .ok (.aload_n 1, 1) := by decide +kernel
theorem dX1_keep_10 : decode cX1_keep 10 = .ok (.invokevirtual 22, 3) := by decide +kernel
theorem dX1_keep_13 : decode cX1_keep 13 = .ok (.aload_n 0, 1) := by decide +kernel
theorem dX1_keep_14 : decode cX1_keep 14 = .ok (.aload_n 0, 1) := by decide +kernel
theorem dX1_keep_15 : decode cX1_keep 15 = .ok (.getfield 18, 3) := by decide +kernel
theorem dX1_keep_18 : decode cX1_keep 18 = .ok (.iconst 1, 1) := by decide +kernel
theorem dX1_keep_19 : decode cX1_keep 19 = .ok (.iadd, 1) := by decide +kernel
theorem dX1_keep_20 : decode cX1_keep 20 = .ok (.bipush 8, 2) := by decide +kernel
theorem dX1_keep_22 : decode cX1_keep 22 = .ok (.irem, 1) := by decide +kernel
theorem dX1_keep_23 : decode cX1_keep 23 = .ok (.putfield 18, 3) := by decide +kernel
theorem dX1_keep_26 : decode cX1_keep 26 = .ok (.aload_n 0, 1) := by decide +kernel
theorem dX1_keep_27 : decode cX1_keep 27 = .ok (.bipush 8, 2) := by decide +kernel
theorem dX1_keep_29 : decode cX1_keep 29 = .ok (.aload_n 0, 1) := by decide +kernel
theorem dX1_keep_30 : decode cX1_keep 30 = .ok (.getfield 26, 3) := by decide +kernel
theorem dX1_keep_33 : decode cX1_keep 33 = .ok (.iconst 1, 1) := by decide +kernel
theorem dX1_keep_34 : decode cX1_keep 34 = .ok (.iadd, 1) := by decide +kernel
theorem dX1_keep_35 : decode cX1_keep 35 = .ok (.invokestatic 29, 3) := by decide +kernel
theorem dX1_keep_38 : decode cX1_keep 38 = .ok (.putfield 26, 3) := by decide +kernel
theorem dX1_keep_41 : decode cX1_keep 41 = .ok (.return_, 1) := by decide +kernel
theorem dX1_takeBack_0 : decode cX1_takeBack 0 = .ok (.aload_n 0, 1) := by decide +kernel
theorem dX1_takeBack_1 : decode cX1_takeBack 1 = .ok (.getfield 26, 3) := by decide +kernel
theorem dX1_takeBack_4 : decode cX1_takeBack 4 = .ok (.ifCond .le 52, 3) := by decide +kernel
theorem dX1_takeBack_7 : decode cX1_takeBack 7 = .ok (.aload_n 0, 1) := by decide +kernel
theorem dX1_takeBack_8 : decode cX1_takeBack 8 = .ok (.aload_n 0, 1) := by decide +kernel
theorem dX1_takeBack_9 : decode cX1_takeBack 9 = .ok (.getfield 18, 3) := by decide +kernel
theorem dX1_takeBack_12 : decode cX1_takeBack 12 = .ok (.bipush 8, 2) := by decide +kernel
theorem dX1_takeBack_14 : decode cX1_takeBack 14 = .ok (.iadd, 1) := by decide +kernel
theorem dX1_takeBack_15 : decode cX1_takeBack 15 = .ok (.iconst 1, 1) := by decide +kernel
theorem dX1_takeBack_16 : decode cX1_takeBack 16 = .ok (.isub, 1) := by decide +kernel
theorem dX1_takeBack_17 : decode cX1_takeBack 17 = .ok (.bipush 8, 2) := by decide +kernel
theorem dX1_takeBack_19 : decode cX1_takeBack 19 = .ok (.irem, 1) := by decide +kernel
theorem dX1_takeBack_20 : decode cX1_takeBack 20 = .ok (.putfield 18, 3) := by decide +kernel
theorem dX1_takeBack_23 : decode cX1_takeBack 23 = .ok (.aload_n 0, 1) := by decide +kernel
theorem dX1_takeBack_24 : decode cX1_takeBack 24 = .ok (.dup, 1) := by decide +kernel
theorem dX1_takeBack_25 : decode cX1_takeBack 25 = .ok (.getfield 26, 3) := by decide +kernel
theorem dX1_takeBack_28 : decode cX1_takeBack 28 = .ok (.iconst 1, 1) := by decide +kernel
theorem dX1_takeBack_29 : decode cX1_takeBack 29 = .ok (.isub, 1) := by decide +kernel
theorem dX1_takeBack_30 : decode cX1_takeBack 30 = .ok (.putfield 26, 3) := by decide +kernel
theorem dX1_takeBack_33 : decode cX1_takeBack 33 = .ok (.aload_n 1, 1) := by decide +kernel
theorem dX1_takeBack_34 : decode cX1_takeBack 34 = .ok (.getfield 35, 3) := by decide +kernel
theorem dX1_takeBack_37 : decode cX1_takeBack 37 = .ok (.istore_n 2, 1) := by decide +kernel
theorem dX1_takeBack_38 : decode cX1_takeBack 38 = .ok (.aload_n 1, 1) := by decide +kernel
theorem dX1_takeBack_39 : decode cX1_takeBack 39 = .ok (.aload_n 0, 1) := by decide +kernel
theorem dX1_takeBack_40 : decode cX1_takeBack 40 = .ok (.getfield 11, 3) := by decide +kernel
theorem dX1_takeBack_43 : decode cX1_takeBack 43 = .ok (.aload_n 0, 1) := by decide +kernel
theorem dX1_takeBack_44 : decode cX1_takeBack 44 = .ok (.getfield 18, 3) := by decide +kernel
theorem dX1_takeBack_47 : decode cX1_takeBack 47 = .ok (.aaload, 1) := by decide +kernel
theorem dX1_takeBack_48 : decode cX1_takeBack 48 = .ok (.invokevirtual 22, 3) := by decide +kernel
theorem dX1_takeBack_51 : decode cX1_takeBack 51 = .ok (.aload_n 1, 1) := by decide +kernel
theorem dX1_takeBack_52 : decode cX1_takeBack 52 = .ok (.iload_n 2, 1) := by decide +kernel
theorem dX1_takeBack_53 : decode cX1_takeBack 53 = .ok (.putfield 35, 3) := by decide +kernel
theorem dX1_takeBack_56 : decode cX1_takeBack 56 = .ok (.return_, 1) := by decide +kernel
theorem dX1_forget_0 : decode cX1_forget 0 = .ok (.aload_n 0, 1) := by decide +kernel
theorem dX1_forget_1 : decode cX1_forget 1 = .ok (.iconst 0, 1) := by decide +kernel
theorem dX1_forget_2 : decode cX1_forget 2 = .ok (.putfield 26, 3) := by decide +kernel
theorem dX1_forget_5 : decode cX1_forget 5 = .ok (.return_, 1) := by decide +kernel
theorem dX1_become_0 : decode cX1_become 0 = .ok (.iconst 0, 1) := by decide +kernel
theorem dX1_become_1 : decode cX1_become 1 = .ok (.istore_n 2, 1) := by decide +kernel
theorem dX1_become_2 : decode cX1_become 2 = .ok (.iload_n 2, 1) := by decide +kernel
theorem dX1_become_3 : decode cX1_become 3 = .ok (.bipush 8, 2) := by decide +kernel
theorem dX1_become_5 : decode cX1_become 5 = .ok (.if_icmp .ge 24, 3) := by decide +kernel
theorem dX1_become_8 : decode cX1_become 8 = .ok (.aload_n 0, 1) := by decide +kernel
theorem dX1_become_9 : decode cX1_become 9 = .ok (.getfield 11, 3) := by decide +kernel
theorem dX1_become_12 : decode cX1_become 12 = .ok (.iload_n 2, 1) := by decide +kernel
theorem dX1_become_13 : decode cX1_become 13 = .ok (.aaload, 1) := by decide +kernel
theorem dX1_become_14 : decode cX1_become 14 = .ok (.aload_n 1, 1) := by decide +kernel
theorem dX1_become_15 : decode cX1_become 15 = .ok (.getfield 11, 3) := by decide +kernel
theorem dX1_become_18 : decode cX1_become 18 = .ok (.iload_n 2, 1) := by decide +kernel
theorem dX1_become_19 : decode cX1_become 19 = .ok (.aaload, 1) := by decide +kernel
theorem dX1_become_20 : decode cX1_become 20 = .ok (.invokevirtual 22, 3) := by decide +kernel
theorem dX1_become_23 : decode cX1_become 23 = .ok (.iinc 2 1, 3) := by decide +kernel
theorem dX1_become_26 : decode cX1_become 26 = .ok (.goto (-24), 3) := by decide +kernel
theorem dX1_become_29 : decode cX1_become 29 = .ok (.aload_n 0, 1) := by decide +kernel
theorem dX1_become_30 : decode cX1_become 30 = .ok (.aload_n 1, 1) := by decide +kernel
theorem dX1_become_31 : decode cX1_become 31 = .ok (.getfield 18, 3) := by decide +kernel
theorem dX1_become_34 : decode cX1_become 34 = .ok (.putfield 18, 3) := by decide +kernel
theorem dX1_become_37 : decode cX1_become 37 = .ok (.aload_n 0, 1) := by decide +kernel
theorem dX1_become_38 : decode cX1_become 38 = .ok (.aload_n 1, 1) := by decide +kernel
theorem dX1_become_39 : decode cX1_become 39 = .ok (.getfield 26, 3) := by decide +kernel
theorem dX1_become_42 : decode cX1_become 42 = .ok (.putfield 26, 3) := by decide +kernel
theorem dX1_become_45 : decode cX1_become 45 = .ok (.return_, 1) := by decide +kernel
theorem dX2_init_0 : decode cX2_init 0 = .ok (.aload_n 0, 1) := by decide +kernel
theorem dX2_init_1 : decode cX2_init 1 = .ok (.invokespecial 3, 3) := by decide +kernel
theorem dX2_init_4 : decode cX2_init 4 = .ok (.aload_n 0, 1) := by decide +kernel
theorem dX2_init_5 : decode cX2_init 5 = .ok (.bipush 24, 2) := by decide +kernel
theorem dX2_init_7 : decode cX2_init 7 = .ok (.newarray .long, 2) := by decide +kernel
theorem dX2_init_9 : decode cX2_init 9 = .ok (.putfield 9, 3) := by decide +kernel
theorem dX2_init_12 : decode cX2_init 12 = .ok (.aload_n 0, 1) := by decide +kernel
theorem dX2_init_13 : decode cX2_init 13 = .ok (.iconst (-1), 1) := by decide +kernel
theorem dX2_init_14 : decode cX2_init 14 = .ok (.putfield 15, 3) := by decide +kernel
theorem dX2_init_17 : decode cX2_init 17 = .ok (.return_, 1) := by decide +kernel
theorem dX2_begin_0 : decode cX2_begin 0 = .ok (.iconst 0, 1) := by decide +kernel
theorem dX2_begin_1 : decode cX2_begin 1 = .ok (.istore_n 3, 1) := by decide +kernel
theorem dX2_begin_2 : decode cX2_begin 2 = .ok (.iload_n 3, 1) := by decide +kernel
theorem dX2_begin_3 : decode cX2_begin 3 = .ok (.bipush 24, 2) := by decide +kernel
theorem dX2_begin_5 : decode cX2_begin 5 = .ok (.if_icmp .ge 16, 3) := by decide +kernel
theorem dX2_begin_8 : decode cX2_begin 8 = .ok (.aload_n 0, 1) := by decide +kernel
theorem dX2_begin_9 : decode cX2_begin 9 = .ok (.getfield 9, 3) := by decide +kernel
theorem dX2_begin_12 : decode cX2_begin 12 = .ok (.iload_n 3, 1) := by decide +kernel
theorem dX2_begin_13 : decode cX2_begin 13 = .ok (.lconst 0, 1) := by decide +kernel
theorem dX2_begin_14 : decode cX2_begin 14 = .ok (.lastore, 1) := by decide +kernel
theorem dX2_begin_15 : decode cX2_begin 15 = .ok (.iinc 3 1, 3) := by decide +kernel
theorem dX2_begin_18 : decode cX2_begin 18 = .ok (.goto (-16), 3) := by decide +kernel
theorem dX2_begin_21 : decode cX2_begin 21 = .ok (.aload_n 0, 1) := by decide +kernel
theorem dX2_begin_22 : decode cX2_begin 22 = .ok (.iload_n 1, 1) := by decide +kernel
theorem dX2_begin_23 : decode cX2_begin 23 = .ok (.putfield 15, 3) := by decide +kernel
theorem dX2_begin_26 : decode cX2_begin 26 = .ok (.aload_n 0, 1) := by decide +kernel
theorem dX2_begin_27 : decode cX2_begin 27 = .ok (.iload_n 2, 1) := by decide +kernel
theorem dX2_begin_28 : decode cX2_begin 28 = .ok (.putfield 19, 3) := by decide +kernel
theorem dX2_begin_31 : decode cX2_begin 31 = .ok (.return_, 1) := by decide +kernel
theorem dX2_end_0 : decode cX2_end 0 = .ok (.aload_n 0, 1) := by decide +kernel
theorem dX2_end_1 : decode cX2_end 1 = .ok (.iconst (-1), 1) := by decide +kernel
theorem dX2_end_2 : decode cX2_end 2 = .ok (.putfield 15, 3) := by decide +kernel
theorem dX2_end_5 : decode cX2_end 5 = .ok (.aload_n 0, 1) := by decide +kernel
theorem dX2_end_6 : decode cX2_end 6 = .ok (.iconst 0, 1) := by decide +kernel
theorem dX2_end_7 : decode cX2_end 7 = .ok (.putfield 19, 3) := by decide +kernel
theorem dX2_end_10 : decode cX2_end 10 = .ok (.return_, 1) := by decide +kernel
theorem dX2_holds_0 : decode cX2_holds 0 = .ok (.iload_n 1, 1) := by decide +kernel
theorem dX2_holds_1 : decode cX2_holds 1 = .ok (.ifCond .lt 21, 3) := by decide +kernel
theorem dX2_holds_4 : decode cX2_holds 4 = .ok (.iload_n 2, 1) := by decide +kernel
theorem dX2_holds_5 : decode cX2_holds 5 = .ok (.ifCond .lt 17, 3) := by decide +kernel
theorem dX2_holds_8 : decode cX2_holds 8 = .ok (.iload_n 1, 1) := by decide +kernel
theorem dX2_holds_9 : decode cX2_holds 9 = .ok (.aload_n 0, 1) := by decide +kernel
theorem dX2_holds_10 : decode cX2_holds 10 = .ok (.getfield 19, 3) := by decide +kernel
theorem dX2_holds_13 : decode cX2_holds 13 = .ok (.iload_n 2, 1) := by decide +kernel
theorem dX2_holds_14 : decode cX2_holds 14 = .ok (.isub, 1) := by decide +kernel
theorem dX2_holds_15 : decode cX2_holds 15 = .ok (.if_icmp .gt 7, 3) := by decide +kernel
theorem dX2_holds_18 : decode cX2_holds 18 = .ok (.iconst 1, 1) := by decide +kernel
theorem dX2_holds_19 : decode cX2_holds 19 = .ok (.goto 4, 3) := by decide +kernel
theorem dX2_holds_22 : decode cX2_holds 22 = .ok (.iconst 0, 1) := by decide +kernel
theorem dX2_holds_23 : decode cX2_holds 23 = .ok (.ireturn, 1) := by decide +kernel
theorem dX2_refusal_0 : decode cX2_refusal 0 = .ok (.aload_n 0, 1) := by decide +kernel
theorem dX2_refusal_1 : decode cX2_refusal 1 = .ok (.getfield 15, 3) := by decide +kernel
theorem dX2_refusal_4 : decode cX2_refusal 4 = .ok (.iconst (-1), 1) := by decide +kernel
theorem dX2_refusal_5 : decode cX2_refusal 5 = .ok (.if_icmp .ne 6, 3) := by decide +kernel
theorem dX2_refusal_8 : decode cX2_refusal 8 = .ok (.bipush (-11), 2) := by decide +kernel
theorem dX2_refusal_10 : decode cX2_refusal 10 = .ok (.ireturn, 1) := by decide +kernel
theorem dX2_refusal_11 : decode cX2_refusal 11 = .ok (.aload_n 0, 1) := by decide +kernel
theorem dX2_refusal_12 : decode cX2_refusal 12 = .ok (.getfield 15, 3) := by decide +kernel
theorem dX2_refusal_15 : decode cX2_refusal 15 = .ok (.iload_n 1, 1) := by decide +kernel
theorem dX2_refusal_16 : decode cX2_refusal 16 = .ok (.if_icmp .eq 6, 3) := by decide +kernel
theorem dX2_refusal_19 : decode cX2_refusal 19 = .ok (.bipush (-12), 2) := by decide +kernel
theorem dX2_refusal_21 : decode cX2_refusal 21 = .ok (.ireturn, 1) := by decide +kernel
theorem dX2_refusal_22 : decode cX2_refusal 22 = .ok (.aload_n 0, 1) := by decide +kernel
theorem dX2_refusal_23 : decode cX2_refusal 23 = .ok (.iload_n 2, 1) := by decide +kernel
theorem dX2_refusal_24 : decode cX2_refusal 24 = .ok (.iload_n 3, 1) := by decide +kernel
theorem dX2_refusal_25 : decode cX2_refusal 25 = .ok (.invokevirtual 22, 3) := by decide +kernel
theorem dX2_refusal_28 : decode cX2_refusal 28 = .ok (.ifCond .eq 7, 3) := by decide +kernel
theorem dX2_refusal_31 : decode cX2_refusal 31 = .ok (.iconst 0, 1) := by decide +kernel
theorem dX2_refusal_32 : decode cX2_refusal 32 = .ok (.goto 5, 3) := by decide +kernel
theorem dX2_refusal_35 : decode cX2_refusal 35 = .ok (.bipush (-13), 2) := by decide +kernel
theorem dX2_refusal_37 : decode cX2_refusal 37 = .ok (.ireturn, 1) := by decide +kernel
theorem dX2_put_0 : decode cX2_put 0 = .ok (.aload_n 0, 1) := by decide +kernel
theorem dX2_put_1 : decode cX2_put 1 = .ok (.getfield 15, 3) := by decide +kernel
theorem dX2_put_4 : decode cX2_put 4 = .ok (.tableswitch 66 0 2 #[28, 41, 54], 28) := by decide +kernel
theorem dX2_put_32 : decode cX2_put 32 = .ok (.aload_n 0, 1) := by decide +kernel
theorem dX2_put_33 : decode cX2_put 33 = .ok (.getfield 9, 3) := by decide +kernel
theorem dX2_put_36 : decode cX2_put 36 = .ok (.iload_n 1, 1) := by decide +kernel
theorem dX2_put_37 : decode cX2_put 37 = .ok (.lload_n 2, 1) := by decide +kernel
theorem dX2_put_38 : decode cX2_put 38 = .ok (.l2i, 1) := by decide +kernel
theorem dX2_put_39 : decode cX2_put 39 = .ok (.i2b, 1) := by decide +kernel
theorem dX2_put_40 : decode cX2_put 40 = .ok (.i2l, 1) := by decide +kernel
theorem dX2_put_41 : decode cX2_put 41 = .ok (.lastore, 1) := by decide +kernel
theorem dX2_put_42 : decode cX2_put 42 = .ok (.goto 35, 3) := by decide +kernel
theorem dX2_put_45 : decode cX2_put 45 = .ok (.aload_n 0, 1) := by decide +kernel
theorem dX2_put_46 : decode cX2_put 46 = .ok (.getfield 9, 3) := by decide +kernel
theorem dX2_put_49 : decode cX2_put 49 = .ok (.iload_n 1, 1) := by decide +kernel
theorem dX2_put_50 : decode cX2_put 50 = .ok (.lload_n 2, 1) := by decide +kernel
theorem dX2_put_51 : decode cX2_put 51 = .ok (.l2i, 1) := by decide +kernel
theorem dX2_put_52 : decode cX2_put 52 = .ok (.i2s, 1) := by decide +kernel
theorem dX2_put_53 : decode cX2_put 53 = .ok (.i2l, 1) := by decide +kernel
theorem dX2_put_54 : decode cX2_put 54 = .ok (.lastore, 1) := by decide +kernel
theorem dX2_put_55 : decode cX2_put 55 = .ok (.goto 22, 3) := by decide +kernel
theorem dX2_put_58 : decode cX2_put 58 = .ok (.aload_n 0, 1) := by decide +kernel
theorem dX2_put_59 : decode cX2_put 59 = .ok (.getfield 9, 3) := by decide +kernel
theorem dX2_put_62 : decode cX2_put 62 = .ok (.iload_n 1, 1) := by decide +kernel
theorem dX2_put_63 : decode cX2_put 63 = .ok (.lload_n 2, 1) := by decide +kernel
theorem dX2_put_64 : decode cX2_put 64 = .ok (.l2i, 1) := by decide +kernel
theorem dX2_put_65 : decode cX2_put 65 = .ok (.i2l, 1) := by decide +kernel
theorem dX2_put_66 : decode cX2_put 66 = .ok (.lastore, 1) := by decide +kernel
theorem dX2_put_67 : decode cX2_put 67 = .ok (.goto 10, 3) := by decide +kernel
theorem dX2_put_70 : decode cX2_put 70 = .ok (.aload_n 0, 1) := by decide +kernel
theorem dX2_put_71 : decode cX2_put 71 = .ok (.getfield 9, 3) := by decide +kernel
theorem dX2_put_74 : decode cX2_put 74 = .ok (.iload_n 1, 1) := by decide +kernel
theorem dX2_put_75 : decode cX2_put 75 = .ok (.lload_n 2, 1) := by decide +kernel
theorem dX2_put_76 : decode cX2_put 76 = .ok (.lastore, 1) := by decide +kernel
theorem dX2_put_77 : decode cX2_put 77 = .ok (.return_, 1) := by decide +kernel
theorem dX3_init_0 : decode cX3_init 0 = .ok (.aload_n 0, 1) := by decide +kernel
theorem dX3_init_1 : decode cX3_init 1 = .ok (.invokespecial 3, 3) := by decide +kernel
theorem dX3_init_4 : decode cX3_init 4 = .ok (.aload_n 0, 1) := by decide +kernel
theorem dX3_init_5 : decode cX3_init 5 = .ok (.bipush 80, 2) := by decide +kernel
theorem dX3_init_7 : decode cX3_init 7 = .ok (.newarray .char, 2) := by decide +kernel
theorem dX3_init_9 : decode cX3_init 9 = .ok (.putfield 9, 3) := by decide +kernel
theorem dX3_init_12 : decode cX3_init 12 = .ok (.return_, 1) := by decide +kernel
theorem dX3_add_0 : decode cX3_add 0 = .ok (.aload_n 0, 1) := by decide +kernel
theorem dX3_add_1 : decode cX3_add 1 = .ok (.getfield 15, 3) := by decide +kernel
theorem dX3_add_4 : decode cX3_add 4 = .ok (.bipush 80, 2) := by decide +kernel
theorem dX3_add_6 : decode cX3_add 6 = .ok (.if_icmp .ge 24, 3) := by decide +kernel
theorem dX3_add_9 : decode cX3_add 9 = .ok (.aload_n 0, 1) := by decide +kernel
theorem dX3_add_10 : decode cX3_add 10 = .ok (.getfield 9, 3) := by decide +kernel
theorem dX3_add_13 : decode cX3_add 13 = .ok (.aload_n 0, 1) := by decide +kernel
theorem dX3_add_14 : decode cX3_add 14 = .ok (.getfield 15, 3) := by decide +kernel
theorem dX3_add_17 : decode cX3_add 17 = .ok (.iload_n 1, 1) := by decide +kernel
theorem dX3_add_18 : decode cX3_add 18 = .ok (.i2c, 1) := by decide +kernel
theorem dX3_add_19 : decode cX3_add 19 = .ok (.castore, 1) := by decide +kernel
theorem dX3_add_20 : decode cX3_add 20 = .ok (.aload_n 0, 1) := by decide +kernel
theorem dX3_add_21 : decode cX3_add 21 = .ok (.dup, 1) := by decide +kernel
theorem dX3_add_22 : decode cX3_add 22 = .ok (.getfield 15, 3) := by decide +kernel
theorem dX3_add_25 : decode cX3_add 25 = .ok (.iconst 1, 1) := by decide +kernel
theorem dX3_add_26 : decode cX3_add 26 = .ok (.iadd, 1) := by decide +kernel
theorem dX3_add_27 : decode cX3_add 27 = .ok (.putfield 15, 3) := by decide +kernel
theorem dX3_add_30 : decode cX3_add 30 = .ok (.aload_n 0, 1) := by decide +kernel
theorem dX3_add_31 : decode cX3_add 31 = .ok (.getfield 15, 3) := by decide +kernel
theorem dX3_add_34 : decode cX3_add 34 = .ok (.ireturn, 1) := by decide +kernel
theorem dX3_clear_0 : decode cX3_clear 0 = .ok (.aload_n 0, 1) := by decide +kernel
theorem dX3_clear_1 : decode cX3_clear 1 = .ok (.iconst 0, 1) := by decide +kernel
theorem dX3_clear_2 : decode cX3_clear 2 = .ok (.putfield 15, 3) := by decide +kernel
theorem dX3_clear_5 : decode cX3_clear 5 = .ok (.return_, 1) := by decide +kernel
theorem dX3_readTown_0 : decode cX3_readTown 0 = .ok (.aload_n 0, 1) := by decide +kernel
theorem dX3_readTown_1 : decode cX3_readTown 1 = .ok (.iconst 0, 1) := by decide +kernel
theorem dX3_readTown_2 : decode cX3_readTown 2 = .ok (.putfield 19, 3) := by decide +kernel
theorem dX3_readTown_5 : decode cX3_readTown 5 = .ok (.aload_n 1, 1) := by decide +kernel
theorem dX3_readTown_6 : decode cX3_readTown 6 = .ok (.invokevirtual 22, 3) := by decide +kernel
theorem dX3_readTown_9 : decode cX3_readTown 9 = .ok (.aload_n 0, 1) := by decide +kernel
theorem dX3_readTown_10 : decode cX3_readTown 10 = .ok (.invokevirtual 27, 3) := by decide +kernel
theorem dX3_readTown_13 : decode cX3_readTown 13 = .ok (.istore_n 2, 1) := by decide +kernel
theorem dX3_readTown_14 : decode cX3_readTown 14 = .ok (.iload_n 2, 1) := by decide +kernel
theorem dX3_readTown_15 : decode cX3_readTown 15 = .ok (.ifCond .lt 12, 3) := by decide +kernel
theorem dX3_readTown_18 : decode cX3_readTown 18 = .ok (.aload_n 0, 1) := by decide +kernel
theorem dX3_readTown_19 : decode cX3_readTown 19 = .ok (.bipush 59, 2) := by decide +kernel
theorem dX3_readTown_21 : decode cX3_readTown 21 = .ok (.invokevirtual 31, 3) := by decide +kernel
theorem dX3_readTown_24 : decode cX3_readTown 24 = .ok (.ifCond .ne 5, 3) := by decide +kernel
theorem dX3_readTown_27 : decode cX3_readTown 27 = .ok (.iconst 0, 1) := by decide +kernel
theorem dX3_readTown_28 : decode cX3_readTown 28 = .ok (.ireturn, 1) := by decide +kernel
theorem dX3_readTown_29 : decode cX3_readTown 29 = .ok (.aload_n 1, 1) := by decide +kernel
theorem dX3_readTown_30 : decode cX3_readTown 30 = .ok (.iload_n 2, 1) := by decide +kernel
theorem dX3_readTown_31 : decode cX3_readTown 31 = .ok (.putfield 35, 3) := by decide +kernel
theorem dX3_readTown_34 : decode cX3_readTown 34 = .ok (.aload_n 0, 1) := by decide +kernel
theorem dX3_readTown_35 : decode cX3_readTown 35 = .ok (.aload_n 1, 1) := by decide +kernel
theorem dX3_readTown_36 : decode cX3_readTown 36 = .ok (.invokevirtual 38, 3) := by decide +kernel
theorem dX3_readTown_39 : decode cX3_readTown 39 = .ok (.ifCond .ne 5, 3) := by decide +kernel
theorem dX3_readTown_42 : decode cX3_readTown 42 = .ok (.iconst 0, 1) := by decide +kernel
theorem dX3_readTown_43 : decode cX3_readTown 43 = .ok (.ireturn, 1) := by decide +kernel
theorem dX3_readTown_44 : decode cX3_readTown 44 = .ok (.aload_n 0, 1) := by decide +kernel
theorem dX3_readTown_45 : decode cX3_readTown 45 = .ok (.bipush 59, 2) := by decide +kernel
theorem dX3_readTown_47 : decode cX3_readTown 47 = .ok (.invokevirtual 31, 3) := by decide +kernel
theorem dX3_readTown_50 : decode cX3_readTown 50 = .ok (.ifCond .eq 13, 3) := by decide +kernel
theorem dX3_readTown_53 : decode cX3_readTown 53 = .ok (.aload_n 0, 1) := by decide +kernel
theorem dX3_readTown_54 : decode cX3_readTown 54 = .ok (.aload_n 1, 1) := by decide +kernel
theorem dX3_readTown_55 : decode cX3_readTown 55 = .ok (.invokevirtual 42, 3) := by decide +kernel
theorem dX3_readTown_58 : decode cX3_readTown 58 = .ok (.ifCond .ne 5, 3) := by decide +kernel
theorem dX3_readTown_61 : decode cX3_readTown 61 = .ok (.iconst 0, 1) := by decide +kernel
theorem dX3_readTown_62 : decode cX3_readTown 62 = .ok (.ireturn, 1) := by decide +kernel
theorem dX3_readTown_63 : decode cX3_readTown 63 = .ok (.aload_n 0, 1) := by decide +kernel
theorem dX3_readTown_64 : decode cX3_readTown 64 = .ok (.invokevirtual 45, 3) := by decide +kernel
theorem dX3_readTown_67 : decode cX3_readTown 67 = .ok (.iconst (-1), 1) := by decide +kernel
theorem dX3_readTown_68 : decode cX3_readTown 68 = .ok (.if_icmp .ne 7, 3) := by decide +kernel
theorem dX3_readTown_71 : decode cX3_readTown 71 = .ok (.iconst 1, 1) := by decide +kernel
theorem dX3_readTown_72 : decode cX3_readTown 72 = .ok (.goto 4, 3) := by decide +kernel
theorem dX3_readTown_75 : decode cX3_readTown 75 = .ok (.iconst 0, 1) := by decide +kernel
theorem dX3_readTown_76 : decode cX3_readTown 76 = .ok (.ireturn, 1) := by decide +kernel
theorem dX3_readApprentices_0 : decode cX3_readApprentices 0 = .ok (.iconst 0, 1) := by decide +kernel
theorem dX3_readApprentices_1 : decode cX3_readApprentices 1 = .ok (.istore_n 2, 1) := by decide +kernel
theorem dX3_readApprentices_2 : decode cX3_readApprentices 2 = .ok (.iload_n 2, 1) := by decide +kernel
theorem dX3_readApprentices_3 : decode cX3_readApprentices 3 = .ok (.bipush 6, 2) := by decide +kernel
theorem dX3_readApprentices_5 : decode cX3_readApprentices 5 = .ok (.if_icmp .ge 34, 3) := by decide +kernel
theorem dX3_readApprentices_8 : decode cX3_readApprentices 8 = .ok (.iload_n 2, 1) := by decide +kernel
theorem dX3_readApprentices_9 : decode cX3_readApprentices 9 = .ok (.ifCond .le 14, 3) := by decide +kernel
theorem dX3_readApprentices_12 : decode cX3_readApprentices 12 = .ok (.aload_n 0, 1) := by decide +kernel
theorem dX3_readApprentices_13 : decode cX3_readApprentices 13 = .ok (.bipush 44, 2) := by decide +kernel
theorem dX3_readApprentices_15 : decode cX3_readApprentices 15 = .ok (.invokevirtual 31, 3) := by decide +kernel
theorem dX3_readApprentices_18 : decode cX3_readApprentices 18 = .ok (.ifCond .ne 5, 3) := by decide +kernel
theorem dX3_readApprentices_21 : decode cX3_readApprentices 21 = .ok (.iconst 1, 1) := by decide +kernel
theorem dX3_readApprentices_22 : decode cX3_readApprentices 22 = .ok (.ireturn, 1) := by decide +kernel
theorem dX3_readApprentices_23 : decode cX3_readApprentices 23 = .ok (.aload_n 0, 1) := by decide +kernel
theorem dX3_readApprentices_24 : decode cX3_readApprentices 24 = .ok (.aload_n 1, 1) := by decide +kernel
theorem dX3_readApprentices_25 : decode cX3_readApprentices 25 = .ok (.invokevirtual 48, 3) := by decide +kernel
theorem dX3_readApprentices_28 : decode cX3_readApprentices 28 = .ok (.ifCond .ne 5, 3) := by decide +kernel
theorem dX3_readApprentices_31 : decode cX3_readApprentices 31 = .ok (.iconst 0, 1) := by decide +kernel
theorem dX3_readApprentices_32 : decode cX3_readApprentices 32 = .ok (.ireturn, 1) := by decide +kernel
theorem dX3_readApprentices_33 : decode cX3_readApprentices 33 = .ok (.iinc 2 1, 3) := by decide +kernel
theorem dX3_readApprentices_36 : decode cX3_readApprentices 36 = .ok (.goto (-34), 3) := by decide +kernel
theorem dX3_readApprentices_39 : decode cX3_readApprentices 39 = .ok (.iconst 1, 1) := by decide +kernel
theorem dX3_readApprentices_40 : decode cX3_readApprentices 40 = .ok (.ireturn, 1) := by decide +kernel
theorem dX3_readApprentice_0 : decode cX3_readApprentice 0 = .ok (.aload_n 0, 1) := by decide +kernel
theorem dX3_readApprentice_1 : decode cX3_readApprentice 1 = .ok (.invokevirtual 45, 3) := by decide +kernel
theorem dX3_readApprentice_4 : decode cX3_readApprentice 4 = .ok (.istore_n 2, 1) := by decide +kernel
theorem dX3_readApprentice_5 : decode cX3_readApprentice 5 = .ok (.iload_n 2, 1) := by decide +kernel
theorem dX3_readApprentice_6 : decode cX3_readApprentice 6 = .ok (.iconst (-1), 1) := by decide +kernel
theorem dX3_readApprentice_7 : decode cX3_readApprentice 7 = .ok (.if_icmp .ne 7, 3) := by decide +kernel
theorem dX3_readApprentice_10 : decode cX3_readApprentice 10 = .ok (.iconst (-1), 1) := by decide +kernel
theorem dX3_readApprentice_11 : decode cX3_readApprentice 11 = .ok (.goto 10, 3) := by decide +kernel
theorem dX3_readApprentice_14 : decode cX3_readApprentice 14 = .ok (.ldc 51, 2) := by decide +kernel
theorem dX3_readApprentice_16 : decode cX3_readApprentice 16 = .ok (.iload_n 2, 1) := by decide +kernel
theorem dX3_readApprentice_17 : decode cX3_readApprentice 17 = .ok (.i2c, 1) := by decide +kernel
theorem dX3_readApprentice_18 : decode cX3_readApprentice 18 = .ok (.invokevirtual 53, 3) := by decide +kernel
theorem dX3_readApprentice_21 : decode cX3_readApprentice 21 = .ok (.istore_n 3, 1) := by decide +kernel
theorem dX3_readApprentice_22 : decode cX3_readApprentice 22 = .ok (.iload_n 3, 1) := by decide +kernel
theorem dX3_readApprentice_23 : decode cX3_readApprentice 23 = .ok (.ifCond .ge 5, 3) := by decide +kernel
theorem dX3_readApprentice_26 : decode cX3_readApprentice 26 = .ok (.iconst 0, 1) := by decide +kernel
theorem dX3_readApprentice_27 : decode cX3_readApprentice 27 = .ok (.ireturn, 1) := by decide +kernel
theorem dX3_readApprentice_28 : decode cX3_readApprentice 28 = .ok (.aload_n 0, 1) := by decide +kernel
theorem dX3_readApprentice_29 : decode cX3_readApprentice 29 = .ok (.dup, 1) := by decide +kernel
theorem dX3_readApprentice_30 : decode cX3_readApprentice 30 = .ok (.getfield 19, 3) := by decide +kernel
theorem dX3_readApprentice_33 : decode cX3_readApprentice 33 = .ok (.iconst 1, 1) := by decide +kernel
theorem dX3_readApprentice_34 : decode cX3_readApprentice 34 = .ok (.iadd, 1) := by decide +kernel
theorem dX3_readApprentice_35 : decode cX3_readApprentice 35 = .ok (.putfield 19, 3) := by decide +kernel
theorem dX3_readApprentice_38 : decode cX3_readApprentice 38 = .ok (.aload_n 0, 1) := by decide +kernel
theorem dX3_readApprentice_39 : decode cX3_readApprentice 39 = .ok (.iconst 3, 1) := by decide +kernel
theorem dX3_readApprentice_40 : decode cX3_readApprentice 40 = .ok (.invokevirtual 59, 3) := by decide +kernel
theorem dX3_readApprentice_43 : decode cX3_readApprentice 43 = .ok (.istore 4, 2) := by decide +kernel
theorem dX3_readApprentice_45 : decode cX3_readApprentice 45 = .ok (.iload 4, 2) := by decide +kernel
theorem dX3_readApprentice_47 : decode cX3_readApprentice 47 = .ok (.ifCond .ge 7, 3) := by decide +kernel
theorem dX3_readApprentice_50 : decode cX3_readApprentice 50 = .ok (.iconst (-1), 1) := by decide +kernel
theorem dX3_readApprentice_51 : decode cX3_readApprentice 51 = .ok (.goto 9, 3) := by decide +kernel
theorem dX3_readApprentice_54 : decode cX3_readApprentice 54 = .ok (.aload_n 0, 1) := by decide +kernel
theorem dX3_readApprentice_55 : decode cX3_readApprentice 55 = .ok (.bipush 9, 2) := by decide +kernel
theorem dX3_readApprentice_57 : decode cX3_readApprentice 57 = .ok (.invokevirtual 59, 3) := by decide +kernel
theorem dX3_readApprentice_60 : decode cX3_readApprentice 60 = .ok (.istore 5, 2) := by decide +kernel
theorem dX3_readApprentice_62 : decode cX3_readApprentice 62 = .ok (.iload 5, 2) := by decide +kernel
theorem dX3_readApprentice_64 : decode cX3_readApprentice 64 = .ok (.ifCond .ge 5, 3) := by decide +kernel
theorem dX3_readApprentice_67 : decode cX3_readApprentice 67 = .ok (.iconst 0, 1) := by decide +kernel
theorem dX3_readApprentice_68 : decode cX3_readApprentice 68 = .ok (.ireturn, 1) := by decide +kernel
theorem dX3_readApprentice_69 : decode cX3_readApprentice 69 = .ok (.aload_n 0, 1) := by decide +kernel
theorem dX3_readApprentice_70 : decode cX3_readApprentice 70 = .ok (.bipush 61, 2) := by decide +kernel
theorem dX3_readApprentice_72 : decode cX3_readApprentice 72 = .ok (.invokevirtual 31, 3) := by decide +kernel
theorem dX3_readApprentice_75 : decode cX3_readApprentice 75 = .ok (.ifCond .eq 10, 3) := by decide +kernel
theorem dX3_readApprentice_78 : decode cX3_readApprentice 78 = .ok (.aload_n 0, 1) := by decide +kernel
theorem dX3_readApprentice_79 : decode cX3_readApprentice 79 = .ok (.invokevirtual 27, 3) := by decide +kernel
theorem dX3_readApprentice_82 : decode cX3_readApprentice 82 = .ok (.goto 4, 3) := by decide +kernel
theorem dX3_readApprentice_85 : decode cX3_readApprentice 85 = .ok (.iconst 0, 1) := by decide +kernel
theorem dX3_readApprentice_86 : decode cX3_readApprentice 86 = .ok (.istore 6, 2) := by decide +kernel
theorem dX3_readApprentice_88 : decode cX3_readApprentice 88 = .ok (.iload 6, 2) := by decide +kernel
theorem dX3_readApprentice_90 : decode cX3_readApprentice 90 = .ok (.ifCond .ge 5, 3) := by decide +kernel
theorem dX3_readApprentice_93 : decode cX3_readApprentice 93 = .ok (.iconst 0, 1) := by decide +kernel
theorem dX3_readApprentice_94 : decode cX3_readApprentice 94 = .ok (.ireturn, 1) := by decide +kernel
theorem dX3_readApprentice_95 : decode cX3_readApprentice 95 = .ok (.aload_n 1, 1) := by decide +kernel
theorem dX3_readApprentice_96 : decode cX3_readApprentice 96 = .ok (.iload_n 3, 1) := by decide +kernel
theorem dX3_readApprentice_97 : decode cX3_readApprentice 97 = .ok (.iload 4, 2) := by decide +kernel
theorem dX3_readApprentice_99 : decode cX3_readApprentice 99 = .ok (.iload 5, 2) := by decide +kernel
theorem dX3_readApprentice_101 : decode cX3_readApprentice 101 = .ok (.invokevirtual 62, 3) := by decide +kernel
theorem dX3_readApprentice_104 : decode cX3_readApprentice 104 = .ok (.istore 7, 2) := by decide +kernel
theorem dX3_readApprentice_106 : decode cX3_readApprentice 106 = .ok (.iload 7, 2) := by decide +kernel
theorem dX3_readApprentice_108 : decode cX3_readApprentice 108 = .ok (.ifCond .ge 5, 3) := by decide +kernel
theorem dX3_readApprentice_111 : decode cX3_readApprentice 111 = .ok (.iconst 0, 1) := by decide +kernel
theorem dX3_readApprentice_112 : decode cX3_readApprentice 112 = .ok (.ireturn, 1) := by decide +kernel
theorem dX3_readApprentice_113 : decode cX3_readApprentice 113 = .ok (.aload_n 1, 1) := by decide +kernel
theorem dX3_readApprentice_114 : decode cX3_readApprentice 114 = .ok (.getfield 66, 3) := by decide +kernel
theorem dX3_readApprentice_117 : decode cX3_readApprentice 117 = .ok (.iload 7, 2) := by decide +kernel
theorem dX3_readApprentice_119 : decode cX3_readApprentice 119 = .ok (.iload 6, 2) := by decide +kernel
theorem dX3_readApprentice_121 : decode cX3_readApprentice 121 = .ok (.iastore, 1) := by decide +kernel
theorem dX3_readApprentice_122 : decode cX3_readApprentice 122 = .ok (.aload_n 1, 1) := by decide +kernel
theorem dX3_readApprentice_123 : decode cX3_readApprentice 123 = .ok (.iload 7, 2) := by decide +kernel
theorem dX3_readApprentice_125 : decode cX3_readApprentice 125 = .ok (.aload_n 0, 1) := by decide +kernel
theorem dX3_readApprentice_126 : decode cX3_readApprentice 126 = .ok (.bipush 120, 2) := by decide +kernel
theorem dX3_readApprentice_128 : decode cX3_readApprentice 128 = .ok (.invokevirtual 31, 3) := by decide +kernel
theorem dX3_readApprentice_131 : decode cX3_readApprentice 131 = .ok (.ifCond .ne 7, 3) := by decide +kernel
theorem dX3_readApprentice_134 : decode cX3_readApprentice 134 = .ok (.iconst 1, 1) := by decide +kernel
theorem dX3_readApprentice_135 : decode cX3_readApprentice 135 = .ok (.goto 4, 3) := by decide +kernel
theorem dX3_readApprentice_138 : decode cX3_readApprentice 138 = .ok (.iconst 0, 1) := by decide +kernel
theorem dX3_readApprentice_139 : decode cX3_readApprentice 139 = .ok (.invokevirtual 70, 3) := by decide +kernel
theorem dX3_readApprentice_142 : decode cX3_readApprentice 142 = .ok (.iconst 1, 1) := by decide +kernel
theorem dX3_readApprentice_143 : decode cX3_readApprentice 143 = .ok (.ireturn, 1) := by decide +kernel
theorem dX3_readThieves_0 : decode cX3_readThieves 0 = .ok (.iconst 0, 1) := by decide +kernel
theorem dX3_readThieves_1 : decode cX3_readThieves 1 = .ok (.istore_n 2, 1) := by decide +kernel
theorem dX3_readThieves_2 : decode cX3_readThieves 2 = .ok (.iload_n 2, 1) := by decide +kernel
theorem dX3_readThieves_3 : decode cX3_readThieves 3 = .ok (.iconst 4, 1) := by decide +kernel
theorem dX3_readThieves_4 : decode cX3_readThieves 4 = .ok (.if_icmp .ge 61, 3) := by decide +kernel
theorem dX3_readThieves_7 : decode cX3_readThieves 7 = .ok (.iload_n 2, 1) := by decide +kernel
theorem dX3_readThieves_8 : decode cX3_readThieves 8 = .ok (.ifCond .le 14, 3) := by decide +kernel
theorem dX3_readThieves_11 : decode cX3_readThieves 11 = .ok (.aload_n 0, 1) := by decide +kernel
theorem dX3_readThieves_12 : decode cX3_readThieves 12 = .ok (.bipush 44, 2) := by decide +kernel
theorem dX3_readThieves_14 : decode cX3_readThieves 14 = .ok (.invokevirtual 31, 3) := by decide +kernel
theorem dX3_readThieves_17 : decode cX3_readThieves 17 = .ok (.ifCond .ne 5, 3) := by decide +kernel
theorem dX3_readThieves_20 : decode cX3_readThieves 20 = .ok (.iconst 1, 1) := by decide +kernel
theorem dX3_readThieves_21 : decode cX3_readThieves 21 = .ok (.ireturn, 1) := by decide +kernel
theorem dX3_readThieves_22 : decode cX3_readThieves 22 = .ok (.aload_n 0, 1) := by decide +kernel
theorem dX3_readThieves_23 : decode cX3_readThieves 23 = .ok (.bipush 9, 2) := by decide +kernel
theorem dX3_readThieves_25 : decode cX3_readThieves 25 = .ok (.invokevirtual 59, 3) := by decide +kernel
theorem dX3_readThieves_28 : decode cX3_readThieves 28 = .ok (.istore_n 3, 1) := by decide +kernel
theorem dX3_readThieves_29 : decode cX3_readThieves 29 = .ok (.iload_n 3, 1) := by decide +kernel
theorem dX3_readThieves_30 : decode cX3_readThieves 30 = .ok (.ifCond .ge 7, 3) := by decide +kernel
theorem dX3_readThieves_33 : decode cX3_readThieves 33 = .ok (.iconst (-1), 1) := by decide +kernel
theorem dX3_readThieves_34 : decode cX3_readThieves 34 = .ok (.goto 8, 3) := by decide +kernel
theorem dX3_readThieves_37 : decode cX3_readThieves 37 = .ok (.aload_n 0, 1) := by decide +kernel
theorem dX3_readThieves_38 : decode cX3_readThieves 38 = .ok (.iconst 4, 1) := by decide +kernel
theorem dX3_readThieves_39 : decode cX3_readThieves 39 = .ok (.invokevirtual 59, 3) := by decide +kernel
theorem dX3_readThieves_42 : decode cX3_readThieves 42 = .ok (.istore 4, 2) := by decide +kernel
theorem dX3_readThieves_44 : decode cX3_readThieves 44 = .ok (.iload 4, 2) := by decide +kernel
theorem dX3_readThieves_46 : decode cX3_readThieves 46 = .ok (.ifCond .ge 5, 3) := by decide +kernel
theorem dX3_readThieves_49 : decode cX3_readThieves 49 = .ok (.iconst 0, 1) := by decide +kernel
theorem dX3_readThieves_50 : decode cX3_readThieves 50 = .ok (.ireturn, 1) := by decide +kernel
theorem dX3_readThieves_51 : decode cX3_readThieves 51 = .ok (.aload_n 1, 1) := by decide +kernel
theorem dX3_readThieves_52 : decode cX3_readThieves 52 = .ok (.iload_n 3, 1) := by decide +kernel
theorem dX3_readThieves_53 : decode cX3_readThieves 53 = .ok (.iload 4, 2) := by decide +kernel
theorem dX3_readThieves_55 : decode cX3_readThieves 55 = .ok (.invokevirtual 74, 3) := by decide +kernel
theorem dX3_readThieves_58 : decode cX3_readThieves 58 = .ok (.pop, 1) := by decide +kernel
theorem dX3_readThieves_59 : decode cX3_readThieves 59 = .ok (.iinc 2 1, 3) := by decide +kernel
theorem dX3_readThieves_62 : decode cX3_readThieves 62 = .ok (.goto (-60), 3) := by decide +kernel
theorem dX3_readThieves_65 : decode cX3_readThieves 65 = .ok (.iconst 1, 1) := by decide +kernel
theorem dX3_readThieves_66 : decode cX3_readThieves 66 = .ok (.ireturn, 1) := by decide +kernel
theorem dX3_peek_0 : decode cX3_peek 0 = .ok (.aload_n 0, 1) := by decide +kernel
theorem dX3_peek_1 : decode cX3_peek 1 = .ok (.getfield 19, 3) := by decide +kernel
theorem dX3_peek_4 : decode cX3_peek 4 = .ok (.aload_n 0, 1) := by decide +kernel
theorem dX3_peek_5 : decode cX3_peek 5 = .ok (.getfield 15, 3) := by decide +kernel
theorem dX3_peek_8 : decode cX3_peek 8 = .ok (.if_icmp .ge 30, 3) := by decide +kernel
theorem dX3_peek_11 : decode cX3_peek 11 = .ok (.aload_n 0, 1) := by decide +kernel
theorem dX3_peek_12 : decode cX3_peek 12 = .ok (.getfield 9, 3) := by decide +kernel
theorem dX3_peek_15 : decode cX3_peek 15 = .ok (.aload_n 0, 1) := by decide +kernel
theorem dX3_peek_16 : decode cX3_peek 16 = .ok (.getfield 19, 3) := by decide +kernel
theorem dX3_peek_19 : decode cX3_peek 19 = .ok (.caload, 1) := by decide +kernel
theorem dX3_peek_20 : decode cX3_peek 20 = .ok (.bipush 32, 2) := by decide +kernel
theorem dX3_peek_22 : decode cX3_peek 22 = .ok (.if_icmp .ne 16, 3) := by decide +kernel
theorem dX3_peek_25 : decode cX3_peek 25 = .ok (.aload_n 0, 1) := by decide +kernel
theorem dX3_peek_26 : decode cX3_peek 26 = .ok (.dup, 1) := by decide +kernel
theorem dX3_peek_27 : decode cX3_peek 27 = .ok (.getfield 19, 3) := by decide +kernel
theorem dX3_peek_30 : decode cX3_peek 30 = .ok (.iconst 1, 1) := by decide +kernel
theorem dX3_peek_31 : decode cX3_peek 31 = .ok (.iadd, 1) := by decide +kernel
theorem dX3_peek_32 : decode cX3_peek 32 = .ok (.putfield 19, 3) := by decide +kernel
theorem dX3_peek_35 : decode cX3_peek 35 = .ok (.goto (-35), 3) := by decide +kernel
theorem dX3_peek_38 : decode cX3_peek 38 = .ok (.aload_n 0, 1) := by decide +kernel
theorem dX3_peek_39 : decode cX3_peek 39 = .ok (.getfield 19, 3) := by decide +kernel
theorem dX3_peek_42 : decode cX3_peek 42 = .ok (.aload_n 0, 1) := by decide +kernel
theorem dX3_peek_43 : decode cX3_peek 43 = .ok (.getfield 15, 3) := by decide +kernel
theorem dX3_peek_46 : decode cX3_peek 46 = .ok (.if_icmp .ge 15, 3) := by decide +kernel
theorem dX3_peek_49 : decode cX3_peek 49 = .ok (.aload_n 0, 1) := by decide +kernel
theorem dX3_peek_50 : decode cX3_peek 50 = .ok (.getfield 9, 3) := by decide +kernel
theorem dX3_peek_53 : decode cX3_peek 53 = .ok (.aload_n 0, 1) := by decide +kernel
theorem dX3_peek_54 : decode cX3_peek 54 = .ok (.getfield 19, 3) := by decide +kernel
theorem dX3_peek_57 : decode cX3_peek 57 = .ok (.caload, 1) := by decide +kernel
theorem dX3_peek_58 : decode cX3_peek 58 = .ok (.goto 4, 3) := by decide +kernel
theorem dX3_peek_61 : decode cX3_peek 61 = .ok (.iconst (-1), 1) := by decide +kernel
theorem dX3_peek_62 : decode cX3_peek 62 = .ok (.ireturn, 1) := by decide +kernel
theorem dX3_takes_0 : decode cX3_takes 0 = .ok (.aload_n 0, 1) := by decide +kernel
theorem dX3_takes_1 : decode cX3_takes 1 = .ok (.invokevirtual 45, 3) := by decide +kernel
theorem dX3_takes_4 : decode cX3_takes 4 = .ok (.iload_n 1, 1) := by decide +kernel
theorem dX3_takes_5 : decode cX3_takes 5 = .ok (.if_icmp .ne 7, 3) := by decide +kernel
theorem dX3_takes_8 : decode cX3_takes 8 = .ok (.iconst 1, 1) := by decide +kernel
theorem dX3_takes_9 : decode cX3_takes 9 = .ok (.goto 4, 3) := by decide +kernel
theorem dX3_takes_12 : decode cX3_takes 12 = .ok (.iconst 0, 1) := by decide +kernel
theorem dX3_takes_13 : decode cX3_takes 13 = .ok (.istore_n 2, 1) := by decide +kernel
theorem dX3_takes_14 : decode cX3_takes 14 = .ok (.iload_n 2, 1) := by decide +kernel
theorem dX3_takes_15 : decode cX3_takes 15 = .ok (.ifCond .eq 13, 3) := by decide +kernel
theorem dX3_takes_18 : decode cX3_takes 18 = .ok (.aload_n 0, 1) := by decide +kernel
theorem dX3_takes_19 : decode cX3_takes 19 = .ok (.dup, 1) := by decide +kernel
theorem dX3_takes_20 : decode cX3_takes 20 = .ok (.getfield 19, 3) := by decide +kernel
theorem dX3_takes_23 : decode cX3_takes 23 = .ok (.iconst 1, 1) := by decide +kernel
theorem dX3_takes_24 : decode cX3_takes 24 = .ok (.iadd, 1) := by decide +kernel
theorem dX3_takes_25 : decode cX3_takes 25 = .ok (.putfield 19, 3) := by decide +kernel
theorem dX3_takes_28 : decode cX3_takes 28 = .ok (.iload_n 2, 1) := by decide +kernel
theorem dX3_takes_29 : decode cX3_takes 29 = .ok (.ireturn, 1) := by decide +kernel
theorem dX3_readDigit_0 : decode cX3_readDigit 0 = .ok (.aload_n 0, 1) := by decide +kernel
theorem dX3_readDigit_1 : decode cX3_readDigit 1 = .ok (.invokevirtual 45, 3) := by decide +kernel
theorem dX3_readDigit_4 : decode cX3_readDigit 4 = .ok (.bipush 48, 2) := by decide +kernel
theorem dX3_readDigit_6 : decode cX3_readDigit 6 = .ok (.isub, 1) := by decide +kernel
theorem dX3_readDigit_7 : decode cX3_readDigit 7 = .ok (.istore_n 2, 1) := by decide +kernel
theorem dX3_readDigit_8 : decode cX3_readDigit 8 = .ok (.iload_n 2, 1) := by decide +kernel
theorem dX3_readDigit_9 : decode cX3_readDigit 9 = .ok (.ifCond .lt 8, 3) := by decide +kernel
theorem dX3_readDigit_12 : decode cX3_readDigit 12 = .ok (.iload_n 2, 1) := by decide +kernel
theorem dX3_readDigit_13 : decode cX3_readDigit 13 = .ok (.iload_n 1, 1) := by decide +kernel
theorem dX3_readDigit_14 : decode cX3_readDigit 14 = .ok (.if_icmp .le 5, 3) := by decide +kernel
theorem dX3_readDigit_17 : decode cX3_readDigit 17 = .ok (.iconst (-1), 1) := by decide +kernel
theorem dX3_readDigit_18 : decode cX3_readDigit 18 = .ok (.ireturn, 1) := by decide +kernel
theorem dX3_readDigit_19 : decode cX3_readDigit 19 = .ok (.aload_n 0, 1) := by decide +kernel
theorem dX3_readDigit_20 : decode cX3_readDigit 20 = .ok (.dup, 1) := by decide +kernel
theorem dX3_readDigit_21 : decode cX3_readDigit 21 = .ok (.getfield 19, 3) := by decide +kernel
theorem dX3_readDigit_24 : decode cX3_readDigit 24 = .ok (.iconst 1, 1) := by decide +kernel
theorem dX3_readDigit_25 : decode cX3_readDigit 25 = .ok (.iadd, 1) := by decide +kernel
theorem dX3_readDigit_26 : decode cX3_readDigit 26 = .ok (.putfield 19, 3) := by decide +kernel
theorem dX3_readDigit_29 : decode cX3_readDigit 29 = .ok (.iload_n 2, 1) := by decide +kernel
theorem dX3_readDigit_30 : decode cX3_readDigit 30 = .ok (.ireturn, 1) := by decide +kernel
theorem dX3_readNumber_0 : decode cX3_readNumber 0 = .ok (.aload_n 0, 1) := by decide +kernel
theorem dX3_readNumber_1 : decode cX3_readNumber 1 = .ok (.bipush 9, 2) := by decide +kernel
theorem dX3_readNumber_3 : decode cX3_readNumber 3 = .ok (.invokevirtual 59, 3) := by decide +kernel
theorem dX3_readNumber_6 : decode cX3_readNumber 6 = .ok (.istore_n 1, 1) := by decide +kernel
theorem dX3_readNumber_7 : decode cX3_readNumber 7 = .ok (.iload_n 1, 1) := by decide +kernel
theorem dX3_readNumber_8 : decode cX3_readNumber 8 = .ok (.ifCond .lt 28, 3) := by decide +kernel
theorem dX3_readNumber_11 : decode cX3_readNumber 11 = .ok (.aload_n 0, 1) := by decide +kernel
theorem dX3_readNumber_12 : decode cX3_readNumber 12 = .ok (.getfield 19, 3) := by decide +kernel
theorem dX3_readNumber_15 : decode cX3_readNumber 15 = .ok (.aload_n 0, 1) := by decide +kernel
theorem dX3_readNumber_16 : decode cX3_readNumber 16 = .ok (.getfield 15, 3) := by decide +kernel
theorem dX3_readNumber_19 : decode cX3_readNumber 19 = .ok (.if_icmp .ge 17, 3) := by decide +kernel
theorem dX3_readNumber_22 : decode cX3_readNumber 22 = .ok (.aload_n 0, 1) := by decide +kernel
theorem dX3_readNumber_23 : decode cX3_readNumber 23 = .ok (.getfield 9, 3) := by decide +kernel
theorem dX3_readNumber_26 : decode cX3_readNumber 26 = .ok (.aload_n 0, 1) := by decide +kernel
theorem dX3_readNumber_27 : decode cX3_readNumber 27 = .ok (.getfield 19, 3) := by decide +kernel
theorem dX3_readNumber_30 : decode cX3_readNumber 30 = .ok (.caload, 1) := by decide +kernel
theorem dX3_readNumber_31 : decode cX3_readNumber 31 = .ok (.bipush 32, 2) := by decide +kernel
theorem dX3_readNumber_33 : decode cX3_readNumber 33 = .ok (.if_icmp .ne 5, 3) := by decide +kernel
theorem dX3_readNumber_36 : decode cX3_readNumber 36 = .ok (.iload_n 1, 1) := by decide +kernel
theorem dX3_readNumber_37 : decode cX3_readNumber 37 = .ok (.ireturn, 1) := by decide +kernel
theorem dX3_readNumber_38 : decode cX3_readNumber 38 = .ok (.aload_n 0, 1) := by decide +kernel
theorem dX3_readNumber_39 : decode cX3_readNumber 39 = .ok (.bipush 9, 2) := by decide +kernel
theorem dX3_readNumber_41 : decode cX3_readNumber 41 = .ok (.invokevirtual 59, 3) := by decide +kernel
theorem dX3_readNumber_44 : decode cX3_readNumber 44 = .ok (.istore_n 2, 1) := by decide +kernel
theorem dX3_readNumber_45 : decode cX3_readNumber 45 = .ok (.iload_n 2, 1) := by decide +kernel
theorem dX3_readNumber_46 : decode cX3_readNumber 46 = .ok (.ifCond .ge 7, 3) := by decide +kernel
theorem dX3_readNumber_49 : decode cX3_readNumber 49 = .ok (.iload_n 1, 1) := by decide +kernel
theorem dX3_readNumber_50 : decode cX3_readNumber 50 = .ok (.goto 9, 3) := by decide +kernel
theorem dX3_readNumber_53 : decode cX3_readNumber 53 = .ok (.bipush 10, 2) := by decide +kernel
theorem dX3_readNumber_55 : decode cX3_readNumber 55 = .ok (.iload_n 1, 1) := by decide +kernel
theorem dX3_readNumber_56 : decode cX3_readNumber 56 = .ok (.imul, 1) := by decide +kernel
theorem dX3_readNumber_57 : decode cX3_readNumber 57 = .ok (.iload_n 2, 1) := by decide +kernel
theorem dX3_readNumber_58 : decode cX3_readNumber 58 = .ok (.iadd, 1) := by decide +kernel
theorem dX3_readNumber_59 : decode cX3_readNumber 59 = .ok (.ireturn, 1) := by decide +kernel
theorem dX4_init_0 : decode cX4_init 0 = .ok (.aload_n 0, 1) := by decide +kernel
theorem dX4_init_1 : decode cX4_init 1 = .ok (.invokespecial 3, 3) := by decide +kernel
theorem dX4_init_4 : decode cX4_init 4 = .ok (.aload_n 0, 1) := by decide +kernel
theorem dX4_init_5 : decode cX4_init 5 = .ok (.bipush 6, 2) := by decide +kernel
theorem dX4_init_7 : decode cX4_init 7 = .ok (.newarray .int, 2) := by decide +kernel
theorem dX4_init_9 : decode cX4_init 9 = .ok (.putfield 9, 3) := by decide +kernel
theorem dX4_init_12 : decode cX4_init 12 = .ok (.aload_n 0, 1) := by decide +kernel
theorem dX4_init_13 : decode cX4_init 13 = .ok (.bipush 6, 2) := by decide +kernel
theorem dX4_init_15 : decode cX4_init 15 = .ok (.newarray .int, 2) := by decide +kernel
theorem dX4_init_17 : decode cX4_init 17 = .ok (.putfield 15, 3) := by decide +kernel
theorem dX4_init_20 : decode cX4_init 20 = .ok (.aload_n 0, 1) := by decide +kernel
theorem dX4_init_21 : decode cX4_init 21 = .ok (.bipush 6, 2) := by decide +kernel
theorem dX4_init_23 : decode cX4_init 23 = .ok (.newarray .int, 2) := by decide +kernel
theorem dX4_init_25 : decode cX4_init 25 = .ok (.putfield 18, 3) := by decide +kernel
theorem dX4_init_28 : decode cX4_init 28 = .ok (.aload_n 0, 1) := by decide +kernel
theorem dX4_init_29 : decode cX4_init 29 = .ok (.bipush 6, 2) := by decide +kernel
theorem dX4_init_31 : decode cX4_init 31 = .ok (.newarray .int, 2) := by decide +kernel
theorem dX4_init_33 : decode cX4_init 33 = .ok (.putfield 21, 3) := by decide +kernel
theorem dX4_init_36 : decode cX4_init 36 = .ok (.aload_n 0, 1) := by decide +kernel
theorem dX4_init_37 : decode cX4_init 37 = .ok (.iconst 4, 1) := by decide +kernel
theorem dX4_init_38 : decode cX4_init 38 = .ok (.newarray .int, 2) := by decide +kernel
theorem dX4_init_40 : decode cX4_init 40 = .ok (.putfield 24, 3) := by decide +kernel
theorem dX4_init_43 : decode cX4_init 43 = .ok (.aload_n 0, 1) := by decide +kernel
theorem dX4_init_44 : decode cX4_init 44 = .ok (.iconst 4, 1) := by decide +kernel
theorem dX4_init_45 : decode cX4_init 45 = .ok (.newarray .int, 2) := by decide +kernel
theorem dX4_init_47 : decode cX4_init 47 = .ok (.putfield 27, 3) := by decide +kernel
theorem dX4_init_50 : decode cX4_init 50 = .ok (.aload_n 0, 1) := by decide +kernel
theorem dX4_init_51 : decode cX4_init 51 = .ok (.bipush 10, 2) := by decide +kernel
theorem dX4_init_53 : decode cX4_init 53 = .ok (.putfield 30, 3) := by decide +kernel
theorem dX4_init_56 : decode cX4_init 56 = .ok (.aload_n 0, 1) := by decide +kernel
theorem dX4_init_57 : decode cX4_init 57 = .ok (.iconst 1, 1) := by decide +kernel
theorem dX4_init_58 : decode cX4_init 58 = .ok (.putfield 34, 3) := by decide +kernel
theorem dX4_init_61 : decode cX4_init 61 = .ok (.return_, 1) := by decide +kernel
theorem dX4_become_0 : decode cX4_become 0 = .ok (.aload_n 1, 1) := by decide +kernel
theorem dX4_become_1 : decode cX4_become 1 = .ok (.getfield 9, 3) := by decide +kernel
theorem dX4_become_4 : decode cX4_become 4 = .ok (.iconst 0, 1) := by decide +kernel
theorem dX4_become_5 : decode cX4_become 5 = .ok (.aload_n 0, 1) := by decide +kernel
theorem dX4_become_6 : decode cX4_become 6 = .ok (.getfield 9, 3) := by decide +kernel
theorem dX4_become_9 : decode cX4_become 9 = .ok (.iconst 0, 1) := by decide +kernel
theorem dX4_become_10 : decode cX4_become 10 = .ok (.bipush 6, 2) := by decide +kernel
theorem dX4_become_12 : decode cX4_become 12 = .ok (.invokestatic 37, 3) := by decide +kernel
theorem dX4_become_15 : decode cX4_become 15 = .ok (.aload_n 1, 1) := by decide +kernel
theorem dX4_become_16 : decode cX4_become 16 = .ok (.getfield 15, 3) := by decide +kernel
theorem dX4_become_19 : decode cX4_become 19 = .ok (.iconst 0, 1) := by decide +kernel
theorem dX4_become_20 : decode cX4_become 20 = .ok (.aload_n 0, 1) := by decide +kernel
theorem dX4_become_21 : decode cX4_become 21 = .ok (.getfield 15, 3) := by decide +kernel
theorem dX4_become_24 : decode cX4_become 24 = .ok (.iconst 0, 1) := by decide +kernel
theorem dX4_become_25 : decode cX4_become 25 = .ok (.bipush 6, 2) := by decide +kernel
theorem dX4_become_27 : decode cX4_become 27 = .ok (.invokestatic 37, 3) := by decide +kernel
theorem dX4_become_30 : decode cX4_become 30 = .ok (.aload_n 1, 1) := by decide +kernel
theorem dX4_become_31 : decode cX4_become 31 = .ok (.getfield 18, 3) := by decide +kernel
theorem dX4_become_34 : decode cX4_become 34 = .ok (.iconst 0, 1) := by decide +kernel
theorem dX4_become_35 : decode cX4_become 35 = .ok (.aload_n 0, 1) := by decide +kernel
theorem dX4_become_36 : decode cX4_become 36 = .ok (.getfield 18, 3) := by decide +kernel
theorem dX4_become_39 : decode cX4_become 39 = .ok (.iconst 0, 1) := by decide +kernel
theorem dX4_become_40 : decode cX4_become 40 = .ok (.bipush 6, 2) := by decide +kernel
theorem dX4_become_42 : decode cX4_become 42 = .ok (.invokestatic 37, 3) := by decide +kernel
theorem dX4_become_45 : decode cX4_become 45 = .ok (.aload_n 1, 1) := by decide +kernel
theorem dX4_become_46 : decode cX4_become 46 = .ok (.getfield 21, 3) := by decide +kernel
theorem dX4_become_49 : decode cX4_become 49 = .ok (.iconst 0, 1) := by decide +kernel
theorem dX4_become_50 : decode cX4_become 50 = .ok (.aload_n 0, 1) := by decide +kernel
theorem dX4_become_51 : decode cX4_become 51 = .ok (.getfield 21, 3) := by decide +kernel
theorem dX4_become_54 : decode cX4_become 54 = .ok (.iconst 0, 1) := by decide +kernel
theorem dX4_become_55 : decode cX4_become 55 = .ok (.bipush 6, 2) := by decide +kernel
theorem dX4_become_57 : decode cX4_become 57 = .ok (.invokestatic 37, 3) := by decide +kernel
theorem dX4_become_60 : decode cX4_become 60 = .ok (.aload_n 1, 1) := by decide +kernel
theorem dX4_become_61 : decode cX4_become 61 = .ok (.getfield 24, 3) := by decide +kernel
theorem dX4_become_64 : decode cX4_become 64 = .ok (.iconst 0, 1) := by decide +kernel
theorem dX4_become_65 : decode cX4_become 65 = .ok (.aload_n 0, 1) := by decide +kernel
theorem dX4_become_66 : decode cX4_become 66 = .ok (.getfield 24, 3) := by decide +kernel
theorem dX4_become_69 : decode cX4_become 69 = .ok (.iconst 0, 1) := by decide +kernel
theorem dX4_become_70 : decode cX4_become 70 = .ok (.iconst 4, 1) := by decide +kernel
theorem dX4_become_71 : decode cX4_become 71 = .ok (.invokestatic 37, 3) := by decide +kernel
theorem dX4_become_74 : decode cX4_become 74 = .ok (.aload_n 1, 1) := by decide +kernel
theorem dX4_become_75 : decode cX4_become 75 = .ok (.getfield 27, 3) := by decide +kernel
theorem dX4_become_78 : decode cX4_become 78 = .ok (.iconst 0, 1) := by decide +kernel
theorem dX4_become_79 : decode cX4_become 79 = .ok (.aload_n 0, 1) := by decide +kernel
theorem dX4_become_80 : decode cX4_become 80 = .ok (.getfield 27, 3) := by decide +kernel
theorem dX4_become_83 : decode cX4_become 83 = .ok (.iconst 0, 1) := by decide +kernel
theorem dX4_become_84 : decode cX4_become 84 = .ok (.iconst 4, 1) := by decide +kernel
theorem dX4_become_85 : decode cX4_become 85 = .ok (.invokestatic 37, 3) := by decide +kernel
theorem dX4_become_88 : decode cX4_become 88 = .ok (.aload_n 0, 1) := by decide +kernel
theorem dX4_become_89 : decode cX4_become 89 = .ok (.aload_n 1, 1) := by decide +kernel
theorem dX4_become_90 : decode cX4_become 90 = .ok (.getfield 43, 3) := by decide +kernel
theorem dX4_become_93 : decode cX4_become 93 = .ok (.putfield 43, 3) := by decide +kernel
theorem dX4_become_96 : decode cX4_become 96 = .ok (.aload_n 0, 1) := by decide +kernel
theorem dX4_become_97 : decode cX4_become 97 = .ok (.aload_n 1, 1) := by decide +kernel
theorem dX4_become_98 : decode cX4_become 98 = .ok (.getfield 46, 3) := by decide +kernel
theorem dX4_become_101 : decode cX4_become 101 = .ok (.putfield 46, 3) := by decide +kernel
theorem dX4_become_104 : decode cX4_become 104 = .ok (.aload_n 0, 1) := by decide +kernel
theorem dX4_become_105 : decode cX4_become 105 = .ok (.aload_n 1, 1) := by decide +kernel
theorem dX4_become_106 : decode cX4_become 106 = .ok (.getfield 49, 3) := by decide +kernel
theorem dX4_become_109 : decode cX4_become 109 = .ok (.putfield 49, 3) := by decide +kernel
theorem dX4_become_112 : decode cX4_become 112 = .ok (.aload_n 0, 1) := by decide +kernel
theorem dX4_become_113 : decode cX4_become 113 = .ok (.aload_n 1, 1) := by decide +kernel
theorem dX4_become_114 : decode cX4_become 114 = .ok (.getfield 52, 3) := by decide +kernel
theorem dX4_become_117 : decode cX4_become 117 = .ok (.putfield 52, 3) := by decide +kernel
theorem dX4_become_120 : decode cX4_become 120 = .ok (.aload_n 0, 1) := by decide +kernel
theorem dX4_become_121 : decode cX4_become 121 = .ok (.aload_n 1, 1) := by decide +kernel
theorem dX4_become_122 : decode cX4_become 122 = .ok (.getfield 55, 3) := by decide +kernel
theorem dX4_become_125 : decode cX4_become 125 = .ok (.putfield 55, 3) := by decide +kernel
theorem dX4_become_128 : decode cX4_become 128 = .ok (.aload_n 0, 1) := by decide +kernel
theorem dX4_become_129 : decode cX4_become 129 = .ok (.aload_n 1, 1) := by decide +kernel
theorem dX4_become_130 : decode cX4_become 130 = .ok (.getfield 30, 3) := by decide +kernel
theorem dX4_become_133 : decode cX4_become 133 = .ok (.putfield 30, 3) := by decide +kernel
theorem dX4_become_136 : decode cX4_become 136 = .ok (.aload_n 0, 1) := by decide +kernel
theorem dX4_become_137 : decode cX4_become 137 = .ok (.aload_n 1, 1) := by decide +kernel
theorem dX4_become_138 : decode cX4_become 138 = .ok (.getfield 34, 3) := by decide +kernel
theorem dX4_become_141 : decode cX4_become 141 = .ok (.putfield 34, 3) := by decide +kernel
theorem dX4_become_144 : decode cX4_become 144 = .ok (.return_, 1) := by decide +kernel
theorem dX4_empty_0 : decode cX4_empty 0 = .ok (.aload_n 0, 1) := by decide +kernel
theorem dX4_empty_1 : decode cX4_empty 1 = .ok (.iconst 0, 1) := by decide +kernel
theorem dX4_empty_2 : decode cX4_empty 2 = .ok (.putfield 43, 3) := by decide +kernel
theorem dX4_empty_5 : decode cX4_empty 5 = .ok (.aload_n 0, 1) := by decide +kernel
theorem dX4_empty_6 : decode cX4_empty 6 = .ok (.iconst 0, 1) := by decide +kernel
theorem dX4_empty_7 : decode cX4_empty 7 = .ok (.putfield 46, 3) := by decide +kernel
theorem dX4_empty_10 : decode cX4_empty 10 = .ok (.aload_n 0, 1) := by decide +kernel
theorem dX4_empty_11 : decode cX4_empty 11 = .ok (.iconst 0, 1) := by decide +kernel
theorem dX4_empty_12 : decode cX4_empty 12 = .ok (.putfield 49, 3) := by decide +kernel
theorem dX4_empty_15 : decode cX4_empty 15 = .ok (.aload_n 0, 1) := by decide +kernel
theorem dX4_empty_16 : decode cX4_empty 16 = .ok (.iconst 0, 1) := by decide +kernel
theorem dX4_empty_17 : decode cX4_empty 17 = .ok (.putfield 52, 3) := by decide +kernel
theorem dX4_empty_20 : decode cX4_empty 20 = .ok (.aload_n 0, 1) := by decide +kernel
theorem dX4_empty_21 : decode cX4_empty 21 = .ok (.iconst 0, 1) := by decide +kernel
theorem dX4_empty_22 : decode cX4_empty 22 = .ok (.putfield 55, 3) := by decide +kernel
theorem dX4_empty_25 : decode cX4_empty 25 = .ok (.return_, 1) := by decide +kernel
theorem dX4_addApprentice_0 : decode cX4_addApprentice 0 = .ok (.aload_n 0, 1) := by decide +kernel
theorem dX4_addApprentice_1 : decode cX4_addApprentice 1 = .ok (.getfield 43, 3) := by decide +kernel
theorem dX4_addApprentice_4 : decode cX4_addApprentice 4 = .ok (.istore 4, 2) := by decide +kernel
theorem dX4_addApprentice_6 : decode cX4_addApprentice 6 = .ok (.iload 4, 2) := by decide +kernel
theorem dX4_addApprentice_8 : decode cX4_addApprentice 8 = .ok (.bipush 6, 2) := by decide +kernel
theorem dX4_addApprentice_10 : decode cX4_addApprentice 10 = .ok (.if_icmp .lt 6, 3) := by decide +kernel
theorem dX4_addApprentice_13 : decode cX4_addApprentice 13 = .ok (.bipush (-3), 2) := by decide +kernel
theorem dX4_addApprentice_15 : decode cX4_addApprentice 15 = .ok (.ireturn, 1) := by decide +kernel
theorem dX4_addApprentice_16 : decode cX4_addApprentice 16 = .ok (.aload_n 0, 1) := by decide +kernel
theorem dX4_addApprentice_17 : decode cX4_addApprentice 17 = .ok (.getfield 9, 3) := by decide +kernel
theorem dX4_addApprentice_20 : decode cX4_addApprentice 20 = .ok (.iload 4, 2) := by decide +kernel
theorem dX4_addApprentice_22 : decode cX4_addApprentice 22 = .ok (.iload_n 1, 1) := by decide +kernel
theorem dX4_addApprentice_23 : decode cX4_addApprentice 23 = .ok (.iastore, 1) := by decide +kernel
theorem dX4_addApprentice_24 : decode cX4_addApprentice 24 = .ok (.aload_n 0, 1) := by decide +kernel
theorem dX4_addApprentice_25 : decode cX4_addApprentice 25 = .ok (.getfield 15, 3) := by decide +kernel
theorem dX4_addApprentice_28 : decode cX4_addApprentice 28 = .ok (.iload 4, 2) := by decide +kernel
theorem dX4_addApprentice_30 : decode cX4_addApprentice 30 = .ok (.iload_n 2, 1) := by decide +kernel
theorem dX4_addApprentice_31 : decode cX4_addApprentice 31 = .ok (.iastore, 1) := by decide +kernel
theorem dX4_addApprentice_32 : decode cX4_addApprentice 32 = .ok (.aload_n 0, 1) := by decide +kernel
theorem dX4_addApprentice_33 : decode cX4_addApprentice 33 = .ok (.getfield 18, 3) := by decide +kernel
theorem dX4_addApprentice_36 : decode cX4_addApprentice 36 = .ok (.iload 4, 2) := by decide +kernel
theorem dX4_addApprentice_38 : decode cX4_addApprentice 38 = .ok (.iconst 0, 1) := by decide +kernel
theorem dX4_addApprentice_39 : decode cX4_addApprentice 39 = .ok (.iastore, 1) := by decide +kernel
theorem dX4_addApprentice_40 : decode cX4_addApprentice 40 = .ok (.aload_n 0, 1) := by decide +kernel
theorem dX4_addApprentice_41 : decode cX4_addApprentice 41 = .ok (.getfield 21, 3) := by decide +kernel
theorem dX4_addApprentice_44 : decode cX4_addApprentice 44 = .ok (.iload 4, 2) := by decide +kernel
theorem dX4_addApprentice_46 : decode cX4_addApprentice 46 = .ok (.iload_n 3, 1) := by decide +kernel
theorem dX4_addApprentice_47 : decode cX4_addApprentice 47 = .ok (.iastore, 1) := by decide +kernel
theorem dX4_addApprentice_48 : decode cX4_addApprentice 48 = .ok (.aload_n 0, 1) := by decide +kernel
theorem dX4_addApprentice_49 : decode cX4_addApprentice 49 = .ok (.iload 4, 2) := by decide +kernel
theorem dX4_addApprentice_51 : decode cX4_addApprentice 51 = .ok (.iconst 1, 1) := by decide +kernel
theorem dX4_addApprentice_52 : decode cX4_addApprentice 52 = .ok (.invokevirtual 58, 3) := by decide +kernel
theorem dX4_addApprentice_55 : decode cX4_addApprentice 55 = .ok (.aload_n 0, 1) := by decide +kernel
theorem dX4_addApprentice_56 : decode cX4_addApprentice 56 = .ok (.iload 4, 2) := by decide +kernel
theorem dX4_addApprentice_58 : decode cX4_addApprentice 58 = .ok (.iconst 1, 1) := by decide +kernel
theorem dX4_addApprentice_59 : decode cX4_addApprentice 59 = .ok (.iadd, 1) := by decide +kernel
theorem dX4_addApprentice_60 : decode cX4_addApprentice 60 = .ok (.putfield 43, 3) := by decide +kernel
theorem dX4_addApprentice_63 : decode cX4_addApprentice 63 = .ok (.iload 4, 2) := by decide +kernel
theorem dX4_addApprentice_65 : decode cX4_addApprentice 65 = .ok (.ireturn, 1) := by decide +kernel
theorem dX4_addThief_0 : decode cX4_addThief 0 = .ok (.aload_n 0, 1) := by decide +kernel
theorem dX4_addThief_1 : decode cX4_addThief 1 = .ok (.getfield 46, 3) := by decide +kernel
theorem dX4_addThief_4 : decode cX4_addThief 4 = .ok (.istore_n 3, 1) := by decide +kernel
theorem dX4_addThief_5 : decode cX4_addThief 5 = .ok (.iload_n 3, 1) := by decide +kernel
theorem dX4_addThief_6 : decode cX4_addThief 6 = .ok (.iconst 4, 1) := by decide +kernel
theorem dX4_addThief_7 : decode cX4_addThief 7 = .ok (.if_icmp .lt 6, 3) := by decide +kernel
theorem dX4_addThief_10 : decode cX4_addThief 10 = .ok (.bipush (-3), 2) := by decide +kernel
theorem dX4_addThief_12 : decode cX4_addThief 12 = .ok (.ireturn, 1) := by decide +kernel
theorem dX4_addThief_13 : decode cX4_addThief 13 = .ok (.aload_n 0, 1) := by decide +kernel
theorem dX4_addThief_14 : decode cX4_addThief 14 = .ok (.getfield 24, 3) := by decide +kernel
theorem dX4_addThief_17 : decode cX4_addThief 17 = .ok (.iload_n 3, 1) := by decide +kernel
theorem dX4_addThief_18 : decode cX4_addThief 18 = .ok (.iload_n 1, 1) := by decide +kernel
theorem dX4_addThief_19 : decode cX4_addThief 19 = .ok (.iastore, 1) := by decide +kernel
theorem dX4_addThief_20 : decode cX4_addThief 20 = .ok (.aload_n 0, 1) := by decide +kernel
theorem dX4_addThief_21 : decode cX4_addThief 21 = .ok (.getfield 27, 3) := by decide +kernel
theorem dX4_addThief_24 : decode cX4_addThief 24 = .ok (.iload_n 3, 1) := by decide +kernel
theorem dX4_addThief_25 : decode cX4_addThief 25 = .ok (.iload_n 2, 1) := by decide +kernel
theorem dX4_addThief_26 : decode cX4_addThief 26 = .ok (.iastore, 1) := by decide +kernel
theorem dX4_addThief_27 : decode cX4_addThief 27 = .ok (.aload_n 0, 1) := by decide +kernel
end
section
theorem dX4_addThief_28 : decode cX4_addThief 28 = .ok (.iload_n 3, 1) := by decide +kernel
theorem dX4_addThief_29 : decode cX4_addThief 29 = .ok (.iconst 1, 1) := by decide +kernel
theorem dX4_addThief_30 : decode cX4_addThief 30 = .ok (.iadd, 1) := by decide +kernel
theorem dX4_addThief_31 : decode cX4_addThief 31 = .ok (.putfield 46, 3) := by decide +kernel
theorem dX4_addThief_34 : decode cX4_addThief 34 = .ok (.iload_n 3, 1) := by decide +kernel
theorem dX4_addThief_35 : decode cX4_addThief 35 = .ok (.ireturn, 1) := by decide +kernel
theorem dX4_setShown_0 : decode cX4_setShown 0 = .ok (.aload_n 0, 1) := by decide +kernel
theorem dX4_setShown_1 : decode cX4_setShown 1 = .ok (.iload_n 2, 1) := by decide +kernel
theorem dX4_setShown_2 : decode cX4_setShown 2 = .ok (.ifCond .eq 14, 3) := by decide +kernel
theorem dX4_setShown_5 : decode cX4_setShown 5 = .ok (.aload_n 0, 1) := by decide +kernel
theorem dX4_setShown_6 : decode cX4_setShown 6 = .ok (.getfield 49, 3) := by decide +kernel
theorem dX4_setShown_9 : decode cX4_setShown 9 = .ok (.iconst 1, 1) := by decide +kernel
theorem dX4_setShown_10 : decode cX4_setShown 10 = .ok (.iload_n 1, 1) := by decide +kernel
theorem dX4_setShown_11 : decode cX4_setShown 11 = .ok (.ishl, 1) := by decide +kernel
theorem dX4_setShown_12 : decode cX4_setShown 12 = .ok (.ior, 1) := by decide +kernel
theorem dX4_setShown_13 : decode cX4_setShown 13 = .ok (.goto 13, 3) := by decide +kernel
theorem dX4_setShown_16 : decode cX4_setShown 16 = .ok (.aload_n 0, 1) := by decide +kernel
theorem dX4_setShown_17 : decode cX4_setShown 17 = .ok (.getfield 49, 3) := by decide +kernel
theorem dX4_setShown_20 : decode cX4_setShown 20 = .ok (.iconst 1, 1) := by decide +kernel
theorem dX4_setShown_21 : decode cX4_setShown 21 = .ok (.iload_n 1, 1) := by decide +kernel
theorem dX4_setShown_22 : decode cX4_setShown 22 = .ok (.ishl, 1) := by decide +kernel
theorem dX4_setShown_23 : decode cX4_setShown 23 = .ok (.iconst (-1), 1) := by decide +kernel
theorem dX4_setShown_24 : decode cX4_setShown 24 = .ok (.ixor, 1) := by decide +kernel
theorem dX4_setShown_25 : decode cX4_setShown 25 = .ok (.iand, 1) := by decide +kernel
theorem dX4_setShown_26 : decode cX4_setShown 26 = .ok (.putfield 49, 3) := by decide +kernel
theorem dX4_setShown_29 : decode cX4_setShown 29 = .ok (.return_, 1) := by decide +kernel
theorem dX4_everybody_0 : decode cX4_everybody 0 = .ok (.iconst 1, 1) := by decide +kernel
theorem dX4_everybody_1 : decode cX4_everybody 1 = .ok (.aload_n 0, 1) := by decide +kernel
theorem dX4_everybody_2 : decode cX4_everybody 2 = .ok (.getfield 43, 3) := by decide +kernel
theorem dX4_everybody_5 : decode cX4_everybody 5 = .ok (.ishl, 1) := by decide +kernel
theorem dX4_everybody_6 : decode cX4_everybody 6 = .ok (.iconst 1, 1) := by decide +kernel
theorem dX4_everybody_7 : decode cX4_everybody 7 = .ok (.isub, 1) := by decide +kernel
theorem dX4_everybody_8 : decode cX4_everybody 8 = .ok (.ireturn, 1) := by decide +kernel
theorem dX4_dearTogether_0 : decode cX4_dearTogether 0 = .ok (.iconst 0, 1) := by decide +kernel
theorem dX4_dearTogether_1 : decode cX4_dearTogether 1 = .ok (.istore_n 1, 1) := by decide +kernel
theorem dX4_dearTogether_2 : decode cX4_dearTogether 2 = .ok (.iconst 0, 1) := by decide +kernel
theorem dX4_dearTogether_3 : decode cX4_dearTogether 3 = .ok (.istore_n 2, 1) := by decide +kernel
theorem dX4_dearTogether_4 : decode cX4_dearTogether 4 = .ok (.iload_n 2, 1) := by decide +kernel
theorem dX4_dearTogether_5 : decode cX4_dearTogether 5 = .ok (.aload_n 0, 1) := by decide +kernel
theorem dX4_dearTogether_6 : decode cX4_dearTogether 6 = .ok (.getfield 43, 3) := by decide +kernel
theorem dX4_dearTogether_9 : decode cX4_dearTogether 9 = .ok (.if_icmp .ge 29, 3) := by decide +kernel
theorem dX4_dearTogether_12 : decode cX4_dearTogether 12 = .ok (.aload_n 0, 1) := by decide +kernel
theorem dX4_dearTogether_13 : decode cX4_dearTogether 13 = .ok (.getfield 52, 3) := by decide +kernel
theorem dX4_dearTogether_16 : decode cX4_dearTogether 16 = .ok (.iload_n 2, 1) := by decide +kernel
theorem dX4_dearTogether_17 : decode cX4_dearTogether 17 = .ok (.invokestatic 62, 3) := by decide +kernel
theorem dX4_dearTogether_20 : decode cX4_dearTogether 20 = .ok (.ifCond .ne 12, 3) := by decide +kernel
theorem dX4_dearTogether_23 : decode cX4_dearTogether 23 = .ok (.iload_n 1, 1) := by decide +kernel
theorem dX4_dearTogether_24 : decode cX4_dearTogether 24 = .ok (.aload_n 0, 1) := by decide +kernel
theorem dX4_dearTogether_25 : decode cX4_dearTogether 25 = .ok (.getfield 18, 3) := by decide +kernel
theorem dX4_dearTogether_28 : decode cX4_dearTogether 28 = .ok (.iload_n 2, 1) := by decide +kernel
theorem dX4_dearTogether_29 : decode cX4_dearTogether 29 = .ok (.iaload, 1) := by decide +kernel
theorem dX4_dearTogether_30 : decode cX4_dearTogether 30 = .ok (.iadd, 1) := by decide +kernel
theorem dX4_dearTogether_31 : decode cX4_dearTogether 31 = .ok (.istore_n 1, 1) := by decide +kernel
theorem dX4_dearTogether_32 : decode cX4_dearTogether 32 = .ok (.iinc 2 1, 3) := by decide +kernel
theorem dX4_dearTogether_35 : decode cX4_dearTogether 35 = .ok (.goto (-31), 3) := by decide +kernel
theorem dX4_dearTogether_38 : decode cX4_dearTogether 38 = .ok (.iload_n 1, 1) := by decide +kernel
theorem dX4_dearTogether_39 : decode cX4_dearTogether 39 = .ok (.ireturn, 1) := by decide +kernel
theorem dX4_mayRob_0 : decode cX4_mayRob 0 = .ok (.aload_n 0, 1) := by decide +kernel
theorem dX4_mayRob_1 : decode cX4_mayRob 1 = .ok (.getfield 49, 3) := by decide +kernel
theorem dX4_mayRob_4 : decode cX4_mayRob 4 = .ok (.aload_n 0, 1) := by decide +kernel
theorem dX4_mayRob_5 : decode cX4_mayRob 5 = .ok (.getfield 52, 3) := by decide +kernel
theorem dX4_mayRob_8 : decode cX4_mayRob 8 = .ok (.iconst (-1), 1) := by decide +kernel
theorem dX4_mayRob_9 : decode cX4_mayRob 9 = .ok (.ixor, 1) := by decide +kernel
theorem dX4_mayRob_10 : decode cX4_mayRob 10 = .ok (.iand, 1) := by decide +kernel
theorem dX4_mayRob_11 : decode cX4_mayRob 11 = .ok (.iconst 1, 1) := by decide +kernel
theorem dX4_mayRob_12 : decode cX4_mayRob 12 = .ok (.iload_n 2, 1) := by decide +kernel
theorem dX4_mayRob_13 : decode cX4_mayRob 13 = .ok (.ishl, 1) := by decide +kernel
theorem dX4_mayRob_14 : decode cX4_mayRob 14 = .ok (.iand, 1) := by decide +kernel
theorem dX4_mayRob_15 : decode cX4_mayRob 15 = .ok (.ifCond .eq 7, 3) := by decide +kernel
theorem dX4_mayRob_18 : decode cX4_mayRob 18 = .ok (.iconst 1, 1) := by decide +kernel
theorem dX4_mayRob_19 : decode cX4_mayRob 19 = .ok (.goto 4, 3) := by decide +kernel
theorem dX4_mayRob_22 : decode cX4_mayRob 22 = .ok (.iconst 0, 1) := by decide +kernel
theorem dX4_mayRob_23 : decode cX4_mayRob 23 = .ok (.istore_n 3, 1) := by decide +kernel
theorem dX4_mayRob_24 : decode cX4_mayRob 24 = .ok (.iload_n 3, 1) := by decide +kernel
theorem dX4_mayRob_25 : decode cX4_mayRob 25 = .ok (.ifCond .eq 47, 3) := by decide +kernel
theorem dX4_mayRob_28 : decode cX4_mayRob 28 = .ok (.aload_n 0, 1) := by decide +kernel
theorem dX4_mayRob_29 : decode cX4_mayRob 29 = .ok (.getfield 21, 3) := by decide +kernel
theorem dX4_mayRob_32 : decode cX4_mayRob 32 = .ok (.iload_n 2, 1) := by decide +kernel
theorem dX4_mayRob_33 : decode cX4_mayRob 33 = .ok (.iaload, 1) := by decide +kernel
theorem dX4_mayRob_34 : decode cX4_mayRob 34 = .ok (.aload_n 0, 1) := by decide +kernel
theorem dX4_mayRob_35 : decode cX4_mayRob 35 = .ok (.getfield 24, 3) := by decide +kernel
theorem dX4_mayRob_38 : decode cX4_mayRob 38 = .ok (.iload_n 1, 1) := by decide +kernel
theorem dX4_mayRob_39 : decode cX4_mayRob 39 = .ok (.iaload, 1) := by decide +kernel
theorem dX4_mayRob_40 : decode cX4_mayRob 40 = .ok (.if_icmp .gt 32, 3) := by decide +kernel
theorem dX4_mayRob_43 : decode cX4_mayRob 43 = .ok (.aload_n 0, 1) := by decide +kernel
theorem dX4_mayRob_44 : decode cX4_mayRob 44 = .ok (.getfield 27, 3) := by decide +kernel
theorem dX4_mayRob_47 : decode cX4_mayRob 47 = .ok (.iload_n 1, 1) := by decide +kernel
theorem dX4_mayRob_48 : decode cX4_mayRob 48 = .ok (.iaload, 1) := by decide +kernel
theorem dX4_mayRob_49 : decode cX4_mayRob 49 = .ok (.iconst 4, 1) := by decide +kernel
theorem dX4_mayRob_50 : decode cX4_mayRob 50 = .ok (.if_icmp .eq 18, 3) := by decide +kernel
theorem dX4_mayRob_53 : decode cX4_mayRob 53 = .ok (.aload_n 0, 1) := by decide +kernel
theorem dX4_mayRob_54 : decode cX4_mayRob 54 = .ok (.getfield 27, 3) := by decide +kernel
theorem dX4_mayRob_57 : decode cX4_mayRob 57 = .ok (.iload_n 1, 1) := by decide +kernel
theorem dX4_mayRob_58 : decode cX4_mayRob 58 = .ok (.iaload, 1) := by decide +kernel
theorem dX4_mayRob_59 : decode cX4_mayRob 59 = .ok (.aload_n 0, 1) := by decide +kernel
theorem dX4_mayRob_60 : decode cX4_mayRob 60 = .ok (.getfield 15, 3) := by decide +kernel
theorem dX4_mayRob_63 : decode cX4_mayRob 63 = .ok (.iload_n 2, 1) := by decide +kernel
theorem dX4_mayRob_64 : decode cX4_mayRob 64 = .ok (.iaload, 1) := by decide +kernel
theorem dX4_mayRob_65 : decode cX4_mayRob 65 = .ok (.if_icmp .ne 7, 3) := by decide +kernel
theorem dX4_mayRob_68 : decode cX4_mayRob 68 = .ok (.iconst 1, 1) := by decide +kernel
theorem dX4_mayRob_69 : decode cX4_mayRob 69 = .ok (.goto 4, 3) := by decide +kernel
theorem dX4_mayRob_72 : decode cX4_mayRob 72 = .ok (.iconst 0, 1) := by decide +kernel
theorem dX4_mayRob_73 : decode cX4_mayRob 73 = .ok (.ireturn, 1) := by decide +kernel
theorem dX4_whomMayRob_0 : decode cX4_whomMayRob 0 = .ok (.iconst 0, 1) := by decide +kernel
theorem dX4_whomMayRob_1 : decode cX4_whomMayRob 1 = .ok (.istore_n 2, 1) := by decide +kernel
theorem dX4_whomMayRob_2 : decode cX4_whomMayRob 2 = .ok (.iconst 0, 1) := by decide +kernel
theorem dX4_whomMayRob_3 : decode cX4_whomMayRob 3 = .ok (.istore_n 3, 1) := by decide +kernel
theorem dX4_whomMayRob_4 : decode cX4_whomMayRob 4 = .ok (.iload_n 3, 1) := by decide +kernel
theorem dX4_whomMayRob_5 : decode cX4_whomMayRob 5 = .ok (.aload_n 0, 1) := by decide +kernel
theorem dX4_whomMayRob_6 : decode cX4_whomMayRob 6 = .ok (.getfield 43, 3) := by decide +kernel
theorem dX4_whomMayRob_9 : decode cX4_whomMayRob 9 = .ok (.if_icmp .ge 24, 3) := by decide +kernel
theorem dX4_whomMayRob_12 : decode cX4_whomMayRob 12 = .ok (.aload_n 0, 1) := by decide +kernel
theorem dX4_whomMayRob_13 : decode cX4_whomMayRob 13 = .ok (.iload_n 1, 1) := by decide +kernel
theorem dX4_whomMayRob_14 : decode cX4_whomMayRob 14 = .ok (.iload_n 3, 1) := by decide +kernel
theorem dX4_whomMayRob_15 : decode cX4_whomMayRob 15 = .ok (.invokevirtual 66, 3) := by decide +kernel
theorem dX4_whomMayRob_18 : decode cX4_whomMayRob 18 = .ok (.ifCond .eq 9, 3) := by decide +kernel
theorem dX4_whomMayRob_21 : decode cX4_whomMayRob 21 = .ok (.iload_n 2, 1) := by decide +kernel
theorem dX4_whomMayRob_22 : decode cX4_whomMayRob 22 = .ok (.iconst 1, 1) := by decide +kernel
theorem dX4_whomMayRob_23 : decode cX4_whomMayRob 23 = .ok (.iload_n 3, 1) := by decide +kernel
theorem dX4_whomMayRob_24 : decode cX4_whomMayRob 24 = .ok (.ishl, 1) := by decide +kernel
theorem dX4_whomMayRob_25 : decode cX4_whomMayRob 25 = .ok (.ior, 1) := by decide +kernel
theorem dX4_whomMayRob_26 : decode cX4_whomMayRob 26 = .ok (.istore_n 2, 1) := by decide +kernel
theorem dX4_whomMayRob_27 : decode cX4_whomMayRob 27 = .ok (.iinc 3 1, 3) := by decide +kernel
theorem dX4_whomMayRob_30 : decode cX4_whomMayRob 30 = .ok (.goto (-26), 3) := by decide +kernel
theorem dX4_whomMayRob_33 : decode cX4_whomMayRob 33 = .ok (.iload_n 2, 1) := by decide +kernel
theorem dX4_whomMayRob_34 : decode cX4_whomMayRob 34 = .ok (.ireturn, 1) := by decide +kernel
theorem dX4_thievesWhoMayRob_0 : decode cX4_thievesWhoMayRob 0 = .ok (.iconst 0, 1) := by decide +kernel
theorem dX4_thievesWhoMayRob_1 : decode cX4_thievesWhoMayRob 1 = .ok (.istore_n 2, 1) := by decide +kernel
theorem dX4_thievesWhoMayRob_2 : decode cX4_thievesWhoMayRob 2 = .ok (.iconst 0, 1) := by decide +kernel
theorem dX4_thievesWhoMayRob_3 : decode cX4_thievesWhoMayRob 3 = .ok (.istore_n 3, 1) := by decide +kernel
theorem dX4_thievesWhoMayRob_4 : decode cX4_thievesWhoMayRob 4 = .ok (.iload_n 3, 1) := by decide +kernel
theorem dX4_thievesWhoMayRob_5 : decode cX4_thievesWhoMayRob 5 = .ok (.aload_n 0, 1) := by decide +kernel
theorem dX4_thievesWhoMayRob_6 : decode cX4_thievesWhoMayRob 6 = .ok (.getfield 46, 3) := by decide +kernel
theorem dX4_thievesWhoMayRob_9 : decode cX4_thievesWhoMayRob 9 = .ok (.if_icmp .ge 24, 3) := by decide +kernel
theorem dX4_thievesWhoMayRob_12 : decode cX4_thievesWhoMayRob 12 = .ok (.aload_n 0, 1) := by decide +kernel
theorem dX4_thievesWhoMayRob_13 : decode cX4_thievesWhoMayRob 13 = .ok (.iload_n 3, 1) := by decide +kernel
theorem dX4_thievesWhoMayRob_14 : decode cX4_thievesWhoMayRob 14 = .ok (.iload_n 1, 1) := by decide +kernel
theorem dX4_thievesWhoMayRob_15 : decode cX4_thievesWhoMayRob 15 = .ok (.invokevirtual 66, 3) := by decide +kernel
theorem dX4_thievesWhoMayRob_18 : decode cX4_thievesWhoMayRob 18 = .ok (.ifCond .eq 9, 3) := by decide +kernel
theorem dX4_thievesWhoMayRob_21 : decode cX4_thievesWhoMayRob 21 = .ok (.iload_n 2, 1) := by decide +kernel
theorem dX4_thievesWhoMayRob_22 : decode cX4_thievesWhoMayRob 22 = .ok (.iconst 1, 1) := by decide +kernel
theorem dX4_thievesWhoMayRob_23 : decode cX4_thievesWhoMayRob 23 = .ok (.iload_n 3, 1) := by decide +kernel
theorem dX4_thievesWhoMayRob_24 : decode cX4_thievesWhoMayRob 24 = .ok (.ishl, 1) := by decide +kernel
theorem dX4_thievesWhoMayRob_25 : decode cX4_thievesWhoMayRob 25 = .ok (.ior, 1) := by decide +kernel
theorem dX4_thievesWhoMayRob_26 : decode cX4_thievesWhoMayRob 26 = .ok (.istore_n 2, 1) := by decide +kernel
theorem dX4_thievesWhoMayRob_27 : decode cX4_thievesWhoMayRob 27 = .ok (.iinc 3 1, 3) := by decide +kernel
theorem dX4_thievesWhoMayRob_30 : decode cX4_thievesWhoMayRob 30 = .ok (.goto (-26), 3) := by decide +kernel
theorem dX4_thievesWhoMayRob_33 : decode cX4_thievesWhoMayRob 33 = .ok (.iload_n 2, 1) := by decide +kernel
theorem dX4_thievesWhoMayRob_34 : decode cX4_thievesWhoMayRob 34 = .ok (.ireturn, 1) := by decide +kernel
theorem dX4_victim_0 : decode cX4_victim 0 = .ok (.bipush (-4), 2) := by decide +kernel
theorem dX4_victim_2 : decode cX4_victim 2 = .ok (.istore_n 3, 1) := by decide +kernel
theorem dX4_victim_3 : decode cX4_victim 3 = .ok (.iconst 0, 1) := by decide +kernel
theorem dX4_victim_4 : decode cX4_victim 4 = .ok (.istore 4, 2) := by decide +kernel
theorem dX4_victim_6 : decode cX4_victim 6 = .ok (.iload 4, 2) := by decide +kernel
theorem dX4_victim_8 : decode cX4_victim 8 = .ok (.aload_n 0, 1) := by decide +kernel
theorem dX4_victim_9 : decode cX4_victim 9 = .ok (.getfield 43, 3) := by decide +kernel
theorem dX4_victim_12 : decode cX4_victim 12 = .ok (.if_icmp .ge 51, 3) := by decide +kernel
theorem dX4_victim_15 : decode cX4_victim 15 = .ok (.iload_n 2, 1) := by decide +kernel
theorem dX4_victim_16 : decode cX4_victim 16 = .ok (.iload 4, 2) := by decide +kernel
theorem dX4_victim_18 : decode cX4_victim 18 = .ok (.invokestatic 62, 3) := by decide +kernel
theorem dX4_victim_21 : decode cX4_victim 21 = .ok (.ifCond .ne 36, 3) := by decide +kernel
theorem dX4_victim_24 : decode cX4_victim 24 = .ok (.aload_n 0, 1) := by decide +kernel
theorem dX4_victim_25 : decode cX4_victim 25 = .ok (.iload_n 1, 1) := by decide +kernel
theorem dX4_victim_26 : decode cX4_victim 26 = .ok (.iload 4, 2) := by decide +kernel
theorem dX4_victim_28 : decode cX4_victim 28 = .ok (.invokevirtual 66, 3) := by decide +kernel
theorem dX4_victim_31 : decode cX4_victim 31 = .ok (.ifCond .eq 26, 3) := by decide +kernel
theorem dX4_victim_34 : decode cX4_victim 34 = .ok (.iload_n 3, 1) := by decide +kernel
theorem dX4_victim_35 : decode cX4_victim 35 = .ok (.ifCond .lt 19, 3) := by decide +kernel
theorem dX4_victim_38 : decode cX4_victim 38 = .ok (.aload_n 0, 1) := by decide +kernel
theorem dX4_victim_39 : decode cX4_victim 39 = .ok (.getfield 18, 3) := by decide +kernel
theorem dX4_victim_42 : decode cX4_victim 42 = .ok (.iload 4, 2) := by decide +kernel
theorem dX4_victim_44 : decode cX4_victim 44 = .ok (.iaload, 1) := by decide +kernel
theorem dX4_victim_45 : decode cX4_victim 45 = .ok (.aload_n 0, 1) := by decide +kernel
theorem dX4_victim_46 : decode cX4_victim 46 = .ok (.getfield 18, 3) := by decide +kernel
theorem dX4_victim_49 : decode cX4_victim 49 = .ok (.iload_n 3, 1) := by decide +kernel
theorem dX4_victim_50 : decode cX4_victim 50 = .ok (.iaload, 1) := by decide +kernel
theorem dX4_victim_51 : decode cX4_victim 51 = .ok (.if_icmp .le 6, 3) := by decide +kernel
theorem dX4_victim_54 : decode cX4_victim 54 = .ok (.iload 4, 2) := by decide +kernel
theorem dX4_victim_56 : decode cX4_victim 56 = .ok (.istore_n 3, 1) := by decide +kernel
theorem dX4_victim_57 : decode cX4_victim 57 = .ok (.iinc 4 1, 3) := by decide +kernel
theorem dX4_victim_60 : decode cX4_victim 60 = .ok (.goto (-54), 3) := by decide +kernel
theorem dX4_victim_63 : decode cX4_victim 63 = .ok (.iload_n 3, 1) := by decide +kernel
theorem dX4_victim_64 : decode cX4_victim 64 = .ok (.ireturn, 1) := by decide +kernel
theorem dX4_robbedTonight_0 : decode cX4_robbedTonight 0 = .ok (.iconst 0, 1) := by decide +kernel
theorem dX4_robbedTonight_1 : decode cX4_robbedTonight 1 = .ok (.istore_n 2, 1) := by decide +kernel
theorem dX4_robbedTonight_2 : decode cX4_robbedTonight 2 = .ok (.iconst 0, 1) := by decide +kernel
theorem dX4_robbedTonight_3 : decode cX4_robbedTonight 3 = .ok (.istore_n 3, 1) := by decide +kernel
theorem dX4_robbedTonight_4 : decode cX4_robbedTonight 4 = .ok (.iload_n 3, 1) := by decide +kernel
theorem dX4_robbedTonight_5 : decode cX4_robbedTonight 5 = .ok (.aload_n 0, 1) := by decide +kernel
theorem dX4_robbedTonight_6 : decode cX4_robbedTonight 6 = .ok (.getfield 46, 3) := by decide +kernel
theorem dX4_robbedTonight_9 : decode cX4_robbedTonight 9 = .ok (.if_icmp .ge 42, 3) := by decide +kernel
theorem dX4_robbedTonight_12 : decode cX4_robbedTonight 12 = .ok (.iload_n 1, 1) := by decide +kernel
theorem dX4_robbedTonight_13 : decode cX4_robbedTonight 13 = .ok (.iload_n 3, 1) := by decide +kernel
theorem dX4_robbedTonight_14 : decode cX4_robbedTonight 14 = .ok (.invokestatic 62, 3) := by decide +kernel
theorem dX4_robbedTonight_17 : decode cX4_robbedTonight 17 = .ok (.ifCond .eq 8, 3) := by decide +kernel
theorem dX4_robbedTonight_20 : decode cX4_robbedTonight 20 = .ok (.bipush (-4), 2) := by decide +kernel
theorem dX4_robbedTonight_22 : decode cX4_robbedTonight 22 = .ok (.goto 9, 3) := by decide +kernel
theorem dX4_robbedTonight_25 : decode cX4_robbedTonight 25 = .ok (.aload_n 0, 1) := by decide +kernel
theorem dX4_robbedTonight_26 : decode cX4_robbedTonight 26 = .ok (.iload_n 3, 1) := by decide +kernel
theorem dX4_robbedTonight_27 : decode cX4_robbedTonight 27 = .ok (.iload_n 2, 1) := by decide +kernel
theorem dX4_robbedTonight_28 : decode cX4_robbedTonight 28 = .ok (.invokevirtual 69, 3) := by decide +kernel
theorem dX4_robbedTonight_31 : decode cX4_robbedTonight 31 = .ok (.istore 4, 2) := by decide +kernel
theorem dX4_robbedTonight_33 : decode cX4_robbedTonight 33 = .ok (.iload 4, 2) := by decide +kernel
theorem dX4_robbedTonight_35 : decode cX4_robbedTonight 35 = .ok (.ifCond .lt 10, 3) := by decide +kernel
theorem dX4_robbedTonight_38 : decode cX4_robbedTonight 38 = .ok (.iload_n 2, 1) := by decide +kernel
theorem dX4_robbedTonight_39 : decode cX4_robbedTonight 39 = .ok (.iconst 1, 1) := by decide +kernel
theorem dX4_robbedTonight_40 : decode cX4_robbedTonight 40 = .ok (.iload 4, 2) := by decide +kernel
theorem dX4_robbedTonight_42 : decode cX4_robbedTonight 42 = .ok (.ishl, 1) := by decide +kernel
theorem dX4_robbedTonight_43 : decode cX4_robbedTonight 43 = .ok (.ior, 1) := by decide +kernel
theorem dX4_robbedTonight_44 : decode cX4_robbedTonight 44 = .ok (.istore_n 2, 1) := by decide +kernel
theorem dX4_robbedTonight_45 : decode cX4_robbedTonight 45 = .ok (.iinc 3 1, 3) := by decide +kernel
theorem dX4_robbedTonight_48 : decode cX4_robbedTonight 48 = .ok (.goto (-44), 3) := by decide +kernel
theorem dX4_robbedTonight_51 : decode cX4_robbedTonight 51 = .ok (.iload_n 2, 1) := by decide +kernel
theorem dX4_robbedTonight_52 : decode cX4_robbedTonight 52 = .ok (.ireturn, 1) := by decide +kernel
theorem dX4_victimTonight_0 : decode cX4_victimTonight 0 = .ok (.iconst (-1), 1) := by decide +kernel
theorem dX4_victimTonight_1 : decode cX4_victimTonight 1 = .ok (.iload_n 1, 1) := by decide +kernel
theorem dX4_victimTonight_2 : decode cX4_victimTonight 2 = .ok (.ishl, 1) := by decide +kernel
theorem dX4_victimTonight_3 : decode cX4_victimTonight 3 = .ok (.istore_n 2, 1) := by decide +kernel
theorem dX4_victimTonight_4 : decode cX4_victimTonight 4 = .ok (.aload_n 0, 1) := by decide +kernel
theorem dX4_victimTonight_5 : decode cX4_victimTonight 5 = .ok (.iload_n 1, 1) := by decide +kernel
theorem dX4_victimTonight_6 : decode cX4_victimTonight 6 = .ok (.aload_n 0, 1) := by decide +kernel
theorem dX4_victimTonight_7 : decode cX4_victimTonight 7 = .ok (.iload_n 2, 1) := by decide +kernel
theorem dX4_victimTonight_8 : decode cX4_victimTonight 8 = .ok (.invokevirtual 73, 3) := by decide +kernel
theorem dX4_victimTonight_11 : decode cX4_victimTonight 11 = .ok (.invokevirtual 69, 3) := by decide +kernel
theorem dX4_victimTonight_14 : decode cX4_victimTonight 14 = .ok (.ireturn, 1) := by decide +kernel
theorem dX4_pass_0 : decode cX4_pass 0 = .ok (.aload_n 0, 1) := by decide +kernel
theorem dX4_pass_1 : decode cX4_pass 1 = .ok (.iload_n 1, 1) := by decide +kernel
theorem dX4_pass_2 : decode cX4_pass 2 = .ok (.invokevirtual 73, 3) := by decide +kernel
theorem dX4_pass_5 : decode cX4_pass 5 = .ok (.istore_n 2, 1) := by decide +kernel
theorem dX4_pass_6 : decode cX4_pass 6 = .ok (.iconst 0, 1) := by decide +kernel
theorem dX4_pass_7 : decode cX4_pass 7 = .ok (.istore_n 3, 1) := by decide +kernel
theorem dX4_pass_8 : decode cX4_pass 8 = .ok (.iload_n 3, 1) := by decide +kernel
theorem dX4_pass_9 : decode cX4_pass 9 = .ok (.aload_n 0, 1) := by decide +kernel
theorem dX4_pass_10 : decode cX4_pass 10 = .ok (.getfield 43, 3) := by decide +kernel
theorem dX4_pass_13 : decode cX4_pass 13 = .ok (.if_icmp .ge 59, 3) := by decide +kernel
theorem dX4_pass_16 : decode cX4_pass 16 = .ok (.iload_n 2, 1) := by decide +kernel
theorem dX4_pass_17 : decode cX4_pass 17 = .ok (.iload_n 3, 1) := by decide +kernel
theorem dX4_pass_18 : decode cX4_pass 18 = .ok (.invokestatic 62, 3) := by decide +kernel
theorem dX4_pass_21 : decode cX4_pass 21 = .ok (.ifCond .eq 11, 3) := by decide +kernel
theorem dX4_pass_24 : decode cX4_pass 24 = .ok (.aload_n 0, 1) := by decide +kernel
theorem dX4_pass_25 : decode cX4_pass 25 = .ok (.iload_n 3, 1) := by decide +kernel
theorem dX4_pass_26 : decode cX4_pass 26 = .ok (.invokevirtual 77, 3) := by decide +kernel
theorem dX4_pass_29 : decode cX4_pass 29 = .ok (.goto 37, 3) := by decide +kernel
theorem dX4_pass_32 : decode cX4_pass 32 = .ok (.aload_n 0, 1) := by decide +kernel
theorem dX4_pass_33 : decode cX4_pass 33 = .ok (.getfield 52, 3) := by decide +kernel
theorem dX4_pass_36 : decode cX4_pass 36 = .ok (.iload_n 3, 1) := by decide +kernel
theorem dX4_pass_37 : decode cX4_pass 37 = .ok (.invokestatic 62, 3) := by decide +kernel
theorem dX4_pass_40 : decode cX4_pass 40 = .ok (.ifCond .ne 26, 3) := by decide +kernel
theorem dX4_pass_43 : decode cX4_pass 43 = .ok (.aload_n 0, 1) := by decide +kernel
theorem dX4_pass_44 : decode cX4_pass 44 = .ok (.getfield 18, 3) := by decide +kernel
theorem dX4_pass_47 : decode cX4_pass 47 = .ok (.iload_n 3, 1) := by decide +kernel
theorem dX4_pass_48 : decode cX4_pass 48 = .ok (.bipush 99, 2) := by decide +kernel
theorem dX4_pass_50 : decode cX4_pass 50 = .ok (.aload_n 0, 1) := by decide +kernel
theorem dX4_pass_51 : decode cX4_pass 51 = .ok (.getfield 18, 3) := by decide +kernel
theorem dX4_pass_54 : decode cX4_pass 54 = .ok (.iload_n 3, 1) := by decide +kernel
theorem dX4_pass_55 : decode cX4_pass 55 = .ok (.iaload, 1) := by decide +kernel
theorem dX4_pass_56 : decode cX4_pass 56 = .ok (.aload_n 0, 1) := by decide +kernel
theorem dX4_pass_57 : decode cX4_pass 57 = .ok (.iload_n 3, 1) := by decide +kernel
theorem dX4_pass_58 : decode cX4_pass 58 = .ok (.invokevirtual 81, 3) := by decide +kernel
theorem dX4_pass_61 : decode cX4_pass 61 = .ok (.iadd, 1) := by decide +kernel
theorem dX4_pass_62 : decode cX4_pass 62 = .ok (.invokestatic 84, 3) := by decide +kernel
theorem dX4_pass_65 : decode cX4_pass 65 = .ok (.iastore, 1) := by decide +kernel
theorem dX4_pass_66 : decode cX4_pass 66 = .ok (.iinc 3 1, 3) := by decide +kernel
theorem dX4_pass_69 : decode cX4_pass 69 = .ok (.goto (-61), 3) := by decide +kernel
theorem dX4_pass_72 : decode cX4_pass 72 = .ok (.aload_n 0, 1) := by decide +kernel
theorem dX4_pass_73 : decode cX4_pass 73 = .ok (.dup, 1) := by decide +kernel
theorem dX4_pass_74 : decode cX4_pass 74 = .ok (.getfield 55, 3) := by decide +kernel
theorem dX4_pass_77 : decode cX4_pass 77 = .ok (.iconst 1, 1) := by decide +kernel
theorem dX4_pass_78 : decode cX4_pass 78 = .ok (.iadd, 1) := by decide +kernel
theorem dX4_pass_79 : decode cX4_pass 79 = .ok (.putfield 55, 3) := by decide +kernel
theorem dX4_pass_82 : decode cX4_pass 82 = .ok (.return_, 1) := by decide +kernel
theorem dX4_lose_0 : decode cX4_lose 0 = .ok (.aload_n 0, 1) := by decide +kernel
theorem dX4_lose_1 : decode cX4_lose 1 = .ok (.getfield 18, 3) := by decide +kernel
theorem dX4_lose_4 : decode cX4_lose 4 = .ok (.iload_n 1, 1) := by decide +kernel
theorem dX4_lose_5 : decode cX4_lose 5 = .ok (.iaload, 1) := by decide +kernel
theorem dX4_lose_6 : decode cX4_lose 6 = .ok (.aload_n 0, 1) := by decide +kernel
theorem dX4_lose_7 : decode cX4_lose 7 = .ok (.getfield 30, 3) := by decide +kernel
theorem dX4_lose_10 : decode cX4_lose 10 = .ok (.if_icmp .lt 18, 3) := by decide +kernel
theorem dX4_lose_13 : decode cX4_lose 13 = .ok (.aload_n 0, 1) := by decide +kernel
theorem dX4_lose_14 : decode cX4_lose 14 = .ok (.dup, 1) := by decide +kernel
theorem dX4_lose_15 : decode cX4_lose 15 = .ok (.getfield 52, 3) := by decide +kernel
theorem dX4_lose_18 : decode cX4_lose 18 = .ok (.iconst 1, 1) := by decide +kernel
theorem dX4_lose_19 : decode cX4_lose 19 = .ok (.iload_n 1, 1) := by decide +kernel
theorem dX4_lose_20 : decode cX4_lose 20 = .ok (.ishl, 1) := by decide +kernel
theorem dX4_lose_21 : decode cX4_lose 21 = .ok (.ior, 1) := by decide +kernel
theorem dX4_lose_22 : decode cX4_lose 22 = .ok (.putfield 52, 3) := by decide +kernel
theorem dX4_lose_25 : decode cX4_lose 25 = .ok (.goto 26, 3) := by decide +kernel
theorem dX4_lose_28 : decode cX4_lose 28 = .ok (.aload_n 0, 1) := by decide +kernel
theorem dX4_lose_29 : decode cX4_lose 29 = .ok (.getfield 15, 3) := by decide +kernel
theorem dX4_lose_32 : decode cX4_lose 32 = .ok (.iload_n 1, 1) := by decide +kernel
theorem dX4_lose_33 : decode cX4_lose 33 = .ok (.aload_n 0, 1) := by decide +kernel
theorem dX4_lose_34 : decode cX4_lose 34 = .ok (.getfield 15, 3) := by decide +kernel
theorem dX4_lose_37 : decode cX4_lose 37 = .ok (.iload_n 1, 1) := by decide +kernel
theorem dX4_lose_38 : decode cX4_lose 38 = .ok (.iaload, 1) := by decide +kernel
theorem dX4_lose_39 : decode cX4_lose 39 = .ok (.iconst 1, 1) := by decide +kernel
theorem dX4_lose_40 : decode cX4_lose 40 = .ok (.iadd, 1) := by decide +kernel
theorem dX4_lose_41 : decode cX4_lose 41 = .ok (.iconst 4, 1) := by decide +kernel
theorem dX4_lose_42 : decode cX4_lose 42 = .ok (.irem, 1) := by decide +kernel
theorem dX4_lose_43 : decode cX4_lose 43 = .ok (.iastore, 1) := by decide +kernel
theorem dX4_lose_44 : decode cX4_lose 44 = .ok (.aload_n 0, 1) := by decide +kernel
theorem dX4_lose_45 : decode cX4_lose 45 = .ok (.getfield 18, 3) := by decide +kernel
theorem dX4_lose_48 : decode cX4_lose 48 = .ok (.iload_n 1, 1) := by decide +kernel
theorem dX4_lose_49 : decode cX4_lose 49 = .ok (.iconst 0, 1) := by decide +kernel
theorem dX4_lose_50 : decode cX4_lose 50 = .ok (.iastore, 1) := by decide +kernel
theorem dX4_lose_51 : decode cX4_lose 51 = .ok (.return_, 1) := by decide +kernel
theorem dX4_growth_0 : decode cX4_growth 0 = .ok (.iconst 4, 1) := by decide +kernel
theorem dX4_growth_1 : decode cX4_growth 1 = .ok (.istore_n 2, 1) := by decide +kernel
theorem dX4_growth_2 : decode cX4_growth 2 = .ok (.aload_n 0, 1) := by decide +kernel
theorem dX4_growth_3 : decode cX4_growth 3 = .ok (.getfield 55, 3) := by decide +kernel
theorem dX4_growth_6 : decode cX4_growth 6 = .ok (.iconst 2, 1) := by decide +kernel
theorem dX4_growth_7 : decode cX4_growth 7 = .ok (.irem, 1) := by decide +kernel
theorem dX4_growth_8 : decode cX4_growth 8 = .ok (.iconst 1, 1) := by decide +kernel
theorem dX4_growth_9 : decode cX4_growth 9 = .ok (.if_icmp .ne 7, 3) := by decide +kernel
theorem dX4_growth_12 : decode cX4_growth 12 = .ok (.iconst 2, 1) := by decide +kernel
theorem dX4_growth_13 : decode cX4_growth 13 = .ok (.goto 4, 3) := by decide +kernel
theorem dX4_growth_16 : decode cX4_growth 16 = .ok (.iconst 0, 1) := by decide +kernel
theorem dX4_growth_17 : decode cX4_growth 17 = .ok (.istore_n 3, 1) := by decide +kernel
theorem dX4_growth_18 : decode cX4_growth 18 = .ok (.aload_n 0, 1) := by decide +kernel
theorem dX4_growth_19 : decode cX4_growth 19 = .ok (.getfield 9, 3) := by decide +kernel
theorem dX4_growth_22 : decode cX4_growth 22 = .ok (.iload_n 1, 1) := by decide +kernel
theorem dX4_growth_23 : decode cX4_growth 23 = .ok (.iaload, 1) := by decide +kernel
theorem dX4_growth_24 : decode cX4_growth 24 = .ok (.tableswitch 73 1 4 #[32, 34, 36, 55], 32) := by decide +kernel
theorem dX4_growth_56 : decode cX4_growth 56 = .ok (.iload_n 2, 1) := by decide +kernel
theorem dX4_growth_57 : decode cX4_growth 57 = .ok (.ireturn, 1) := by decide +kernel
theorem dX4_growth_58 : decode cX4_growth 58 = .ok (.iload_n 3, 1) := by decide +kernel
theorem dX4_growth_59 : decode cX4_growth 59 = .ok (.ireturn, 1) := by decide +kernel
theorem dX4_growth_60 : decode cX4_growth 60 = .ok (.aload_n 0, 1) := by decide +kernel
theorem dX4_growth_61 : decode cX4_growth 61 = .ok (.getfield 49, 3) := by decide +kernel
theorem dX4_growth_64 : decode cX4_growth 64 = .ok (.iload_n 1, 1) := by decide +kernel
theorem dX4_growth_65 : decode cX4_growth 65 = .ok (.invokestatic 62, 3) := by decide +kernel
theorem dX4_growth_68 : decode cX4_growth 68 = .ok (.ifCond .eq 9, 3) := by decide +kernel
theorem dX4_growth_71 : decode cX4_growth 71 = .ok (.iload_n 2, 1) := by decide +kernel
theorem dX4_growth_72 : decode cX4_growth 72 = .ok (.iconst 3, 1) := by decide +kernel
theorem dX4_growth_73 : decode cX4_growth 73 = .ok (.iadd, 1) := by decide +kernel
theorem dX4_growth_74 : decode cX4_growth 74 = .ok (.goto 4, 3) := by decide +kernel
theorem dX4_growth_77 : decode cX4_growth 77 = .ok (.iload_n 2, 1) := by decide +kernel
theorem dX4_growth_78 : decode cX4_growth 78 = .ok (.ireturn, 1) := by decide +kernel
theorem dX4_growth_79 : decode cX4_growth 79 = .ok (.iload_n 3, 1) := by decide +kernel
theorem dX4_growth_80 : decode cX4_growth 80 = .ok (.iconst 0, 1) := by decide +kernel
theorem dX4_growth_81 : decode cX4_growth 81 = .ok (.bipush 6, 2) := by decide +kernel
theorem dX4_growth_83 : decode cX4_growth 83 = .ok (.aload_n 0, 1) := by decide +kernel
theorem dX4_growth_84 : decode cX4_growth 84 = .ok (.getfield 18, 3) := by decide +kernel
theorem dX4_growth_87 : decode cX4_growth 87 = .ok (.iload_n 1, 1) := by decide +kernel
theorem dX4_growth_88 : decode cX4_growth 88 = .ok (.iaload, 1) := by decide +kernel
theorem dX4_growth_89 : decode cX4_growth 89 = .ok (.isub, 1) := by decide +kernel
theorem dX4_growth_90 : decode cX4_growth 90 = .ok (.invokestatic 89, 3) := by decide +kernel
theorem dX4_growth_93 : decode cX4_growth 93 = .ok (.invokestatic 84, 3) := by decide +kernel
theorem dX4_growth_96 : decode cX4_growth 96 = .ok (.ireturn, 1) := by decide +kernel
theorem dX4_growth_97 : decode cX4_growth 97 = .ok (.iconst 2, 1) := by decide +kernel
theorem dX4_growth_98 : decode cX4_growth 98 = .ok (.ireturn, 1) := by decide +kernel
theorem dX4_drawWhoShows_0 : decode cX4_drawWhoShows 0 = .ok (.aload_n 0, 1) := by decide +kernel
theorem dX4_drawWhoShows_1 : decode cX4_drawWhoShows 1 = .ok (.aload_n 0, 1) := by decide +kernel
theorem dX4_drawWhoShows_2 : decode cX4_drawWhoShows 2 = .ok (.getfield 34, 3) := by decide +kernel
theorem dX4_drawWhoShows_5 : decode cX4_drawWhoShows 5 = .ok (.ldc 92, 2) := by decide +kernel
theorem dX4_drawWhoShows_7 : decode cX4_drawWhoShows 7 = .ok (.imul, 1) := by decide +kernel
theorem dX4_drawWhoShows_8 : decode cX4_drawWhoShows 8 = .ok (.sipush 12345, 3) := by decide +kernel
theorem dX4_drawWhoShows_11 : decode cX4_drawWhoShows 11 = .ok (.iadd, 1) := by decide +kernel
theorem dX4_drawWhoShows_12 : decode cX4_drawWhoShows 12 = .ok (.ldc 93, 2) := by decide +kernel
theorem dX4_drawWhoShows_14 : decode cX4_drawWhoShows 14 = .ok (.iand, 1) := by decide +kernel
theorem dX4_drawWhoShows_15 : decode cX4_drawWhoShows 15 = .ok (.putfield 34, 3) := by decide +kernel
theorem dX4_drawWhoShows_18 : decode cX4_drawWhoShows 18 = .ok (.aload_n 0, 1) := by decide +kernel
theorem dX4_drawWhoShows_19 : decode cX4_drawWhoShows 19 = .ok (.getfield 43, 3) := by decide +kernel
theorem dX4_drawWhoShows_22 : decode cX4_drawWhoShows 22 = .ok (.ifCond .le 37, 3) := by decide +kernel
theorem dX4_drawWhoShows_25 : decode cX4_drawWhoShows 25 = .ok (.aload_n 0, 1) := by decide +kernel
theorem dX4_drawWhoShows_26 : decode cX4_drawWhoShows 26 = .ok (.aload_n 0, 1) := by decide +kernel
theorem dX4_drawWhoShows_27 : decode cX4_drawWhoShows 27 = .ok (.getfield 34, 3) := by decide +kernel
theorem dX4_drawWhoShows_30 : decode cX4_drawWhoShows 30 = .ok (.ldc 94, 2) := by decide +kernel
theorem dX4_drawWhoShows_32 : decode cX4_drawWhoShows 32 = .ok (.idiv, 1) := by decide +kernel
theorem dX4_drawWhoShows_33 : decode cX4_drawWhoShows 33 = .ok (.aload_n 0, 1) := by decide +kernel
theorem dX4_drawWhoShows_34 : decode cX4_drawWhoShows 34 = .ok (.getfield 43, 3) := by decide +kernel
theorem dX4_drawWhoShows_37 : decode cX4_drawWhoShows 37 = .ok (.irem, 1) := by decide +kernel
theorem dX4_drawWhoShows_38 : decode cX4_drawWhoShows 38 = .ok (.aload_n 0, 1) := by decide +kernel
theorem dX4_drawWhoShows_39 : decode cX4_drawWhoShows 39 = .ok (.getfield 34, 3) := by decide +kernel
theorem dX4_drawWhoShows_42 : decode cX4_drawWhoShows 42 = .ok (.sipush 128, 3) := by decide +kernel
theorem dX4_drawWhoShows_45 : decode cX4_drawWhoShows 45 = .ok (.idiv, 1) := by decide +kernel
theorem dX4_drawWhoShows_46 : decode cX4_drawWhoShows 46 = .ok (.iconst 2, 1) := by decide +kernel
theorem dX4_drawWhoShows_47 : decode cX4_drawWhoShows 47 = .ok (.irem, 1) := by decide +kernel
theorem dX4_drawWhoShows_48 : decode cX4_drawWhoShows 48 = .ok (.ifCond .ne 7, 3) := by decide +kernel
theorem dX4_drawWhoShows_51 : decode cX4_drawWhoShows 51 = .ok (.iconst 1, 1) := by decide +kernel
theorem dX4_drawWhoShows_52 : decode cX4_drawWhoShows 52 = .ok (.goto 4, 3) := by decide +kernel
theorem dX4_drawWhoShows_55 : decode cX4_drawWhoShows 55 = .ok (.iconst 0, 1) := by decide +kernel
theorem dX4_drawWhoShows_56 : decode cX4_drawWhoShows 56 = .ok (.invokevirtual 58, 3) := by decide +kernel
theorem dX4_drawWhoShows_59 : decode cX4_drawWhoShows 59 = .ok (.return_, 1) := by decide +kernel
theorem dX4_mostRobbedAtOnce_0 : decode cX4_mostRobbedAtOnce 0 = .ok (.aload_n 0, 1) := by decide +kernel
theorem dX4_mostRobbedAtOnce_1 : decode cX4_mostRobbedAtOnce 1 = .ok (.getfield 46, 3) := by decide +kernel
theorem dX4_mostRobbedAtOnce_4 : decode cX4_mostRobbedAtOnce 4 = .ok (.istore_n 1, 1) := by decide +kernel
theorem dX4_mostRobbedAtOnce_5 : decode cX4_mostRobbedAtOnce 5 = .ok (.iconst 0, 1) := by decide +kernel
theorem dX4_mostRobbedAtOnce_6 : decode cX4_mostRobbedAtOnce 6 = .ok (.istore_n 2, 1) := by decide +kernel
theorem dX4_mostRobbedAtOnce_7 : decode cX4_mostRobbedAtOnce 7 = .ok (.iload_n 2, 1) := by decide +kernel
theorem dX4_mostRobbedAtOnce_8 : decode cX4_mostRobbedAtOnce 8 = .ok (.iconst 1, 1) := by decide +kernel
theorem dX4_mostRobbedAtOnce_9 : decode cX4_mostRobbedAtOnce 9 = .ok (.aload_n 0, 1) := by decide +kernel
theorem dX4_mostRobbedAtOnce_10 : decode cX4_mostRobbedAtOnce 10 = .ok (.getfield 46, 3) := by decide +kernel
theorem dX4_mostRobbedAtOnce_13 : decode cX4_mostRobbedAtOnce 13 = .ok (.ishl, 1) := by decide +kernel
theorem dX4_mostRobbedAtOnce_14 : decode cX4_mostRobbedAtOnce 14 = .ok (.if_icmp .ge 66, 3) := by decide +kernel
theorem dX4_mostRobbedAtOnce_17 : decode cX4_mostRobbedAtOnce 17 = .ok (.iconst 0, 1) := by decide +kernel
theorem dX4_mostRobbedAtOnce_18 : decode cX4_mostRobbedAtOnce 18 = .ok (.istore_n 3, 1) := by decide +kernel
theorem dX4_mostRobbedAtOnce_19 : decode cX4_mostRobbedAtOnce 19 = .ok (.iconst 0, 1) := by decide +kernel
theorem dX4_mostRobbedAtOnce_20 : decode cX4_mostRobbedAtOnce 20 = .ok (.istore 4, 2) := by decide +kernel
theorem dX4_mostRobbedAtOnce_22 : decode cX4_mostRobbedAtOnce 22 = .ok (.iload 4, 2) := by decide +kernel
theorem dX4_mostRobbedAtOnce_24 : decode cX4_mostRobbedAtOnce 24 = .ok (.aload_n 0, 1) := by decide +kernel
theorem dX4_mostRobbedAtOnce_25 : decode cX4_mostRobbedAtOnce 25 = .ok (.getfield 46, 3) := by decide +kernel
theorem dX4_mostRobbedAtOnce_28 : decode cX4_mostRobbedAtOnce 28 = .ok (.if_icmp .ge 27, 3) := by decide +kernel
theorem dX4_mostRobbedAtOnce_31 : decode cX4_mostRobbedAtOnce 31 = .ok (.iload_n 2, 1) := by decide +kernel
theorem dX4_mostRobbedAtOnce_32 : decode cX4_mostRobbedAtOnce 32 = .ok (.iload 4, 2) := by decide +kernel
theorem dX4_mostRobbedAtOnce_34 : decode cX4_mostRobbedAtOnce 34 = .ok (.invokestatic 62, 3) := by decide +kernel
theorem dX4_mostRobbedAtOnce_37 : decode cX4_mostRobbedAtOnce 37 = .ok (.ifCond .eq 12, 3) := by decide +kernel
theorem dX4_mostRobbedAtOnce_40 : decode cX4_mostRobbedAtOnce 40 = .ok (.iload_n 3, 1) := by decide +kernel
theorem dX4_mostRobbedAtOnce_41 : decode cX4_mostRobbedAtOnce 41 = .ok (.aload_n 0, 1) := by decide +kernel
theorem dX4_mostRobbedAtOnce_42 : decode cX4_mostRobbedAtOnce 42 = .ok (.iload 4, 2) := by decide +kernel
theorem dX4_mostRobbedAtOnce_44 : decode cX4_mostRobbedAtOnce 44 = .ok (.invokevirtual 95, 3) := by decide +kernel
theorem dX4_mostRobbedAtOnce_47 : decode cX4_mostRobbedAtOnce 47 = .ok (.ior, 1) := by decide +kernel
theorem dX4_mostRobbedAtOnce_48 : decode cX4_mostRobbedAtOnce 48 = .ok (.istore_n 3, 1) := by decide +kernel
theorem dX4_mostRobbedAtOnce_49 : decode cX4_mostRobbedAtOnce 49 = .ok (.iinc 4 1, 3) := by decide +kernel
theorem dX4_mostRobbedAtOnce_52 : decode cX4_mostRobbedAtOnce 52 = .ok (.goto (-30), 3) := by decide +kernel
theorem dX4_mostRobbedAtOnce_55 : decode cX4_mostRobbedAtOnce 55 = .ok (.iload_n 1, 1) := by decide +kernel
theorem dX4_mostRobbedAtOnce_56 : decode cX4_mostRobbedAtOnce 56 = .ok (.aload_n 0, 1) := by decide +kernel
theorem dX4_mostRobbedAtOnce_57 : decode cX4_mostRobbedAtOnce 57 = .ok (.getfield 46, 3) := by decide +kernel
theorem dX4_mostRobbedAtOnce_60 : decode cX4_mostRobbedAtOnce 60 = .ok (.iload_n 2, 1) := by decide +kernel
theorem dX4_mostRobbedAtOnce_61 : decode cX4_mostRobbedAtOnce 61 = .ok (.invokestatic 98, 3) := by decide +kernel
theorem dX4_mostRobbedAtOnce_64 : decode cX4_mostRobbedAtOnce 64 = .ok (.isub, 1) := by decide +kernel
theorem dX4_mostRobbedAtOnce_65 : decode cX4_mostRobbedAtOnce 65 = .ok (.iload_n 3, 1) := by decide +kernel
theorem dX4_mostRobbedAtOnce_66 : decode cX4_mostRobbedAtOnce 66 = .ok (.invokestatic 98, 3) := by decide +kernel
theorem dX4_mostRobbedAtOnce_69 : decode cX4_mostRobbedAtOnce 69 = .ok (.iadd, 1) := by decide +kernel
theorem dX4_mostRobbedAtOnce_70 : decode cX4_mostRobbedAtOnce 70 = .ok (.invokestatic 84, 3) := by decide +kernel
theorem dX4_mostRobbedAtOnce_73 : decode cX4_mostRobbedAtOnce 73 = .ok (.istore_n 1, 1) := by decide +kernel
theorem dX4_mostRobbedAtOnce_74 : decode cX4_mostRobbedAtOnce 74 = .ok (.iinc 2 1, 3) := by decide +kernel
theorem dX4_mostRobbedAtOnce_77 : decode cX4_mostRobbedAtOnce 77 = .ok (.goto (-70), 3) := by decide +kernel
theorem dX4_mostRobbedAtOnce_80 : decode cX4_mostRobbedAtOnce 80 = .ok (.iload_n 1, 1) := by decide +kernel
theorem dX4_mostRobbedAtOnce_81 : decode cX4_mostRobbedAtOnce 81 = .ok (.ireturn, 1) := by decide +kernel
theorem dX4_waysRobbed_0 : decode cX4_waysRobbed 0 = .ok (.iconst 0, 1) := by decide +kernel
theorem dX4_waysRobbed_1 : decode cX4_waysRobbed 1 = .ok (.istore_n 3, 1) := by decide +kernel
theorem dX4_waysRobbed_2 : decode cX4_waysRobbed 2 = .ok (.iconst 0, 1) := by decide +kernel
theorem dX4_waysRobbed_3 : decode cX4_waysRobbed 3 = .ok (.istore 4, 2) := by decide +kernel
theorem dX4_waysRobbed_5 : decode cX4_waysRobbed 5 = .ok (.iload 4, 2) := by decide +kernel
theorem dX4_waysRobbed_7 : decode cX4_waysRobbed 7 = .ok (.iconst 1, 1) := by decide +kernel
theorem dX4_waysRobbed_8 : decode cX4_waysRobbed 8 = .ok (.aload_n 0, 1) := by decide +kernel
theorem dX4_waysRobbed_9 : decode cX4_waysRobbed 9 = .ok (.getfield 46, 3) := by decide +kernel
theorem dX4_waysRobbed_12 : decode cX4_waysRobbed 12 = .ok (.ishl, 1) := by decide +kernel
theorem dX4_waysRobbed_13 : decode cX4_waysRobbed 13 = .ok (.if_icmp .ge 53, 3) := by decide +kernel
theorem dX4_waysRobbed_16 : decode cX4_waysRobbed 16 = .ok (.aload_n 0, 1) := by decide +kernel
theorem dX4_waysRobbed_17 : decode cX4_waysRobbed 17 = .ok (.iload 4, 2) := by decide +kernel
theorem dX4_waysRobbed_19 : decode cX4_waysRobbed 19 = .ok (.invokevirtual 73, 3) := by decide +kernel
theorem dX4_waysRobbed_22 : decode cX4_waysRobbed 22 = .ok (.iload_n 1, 1) := by decide +kernel
theorem dX4_waysRobbed_23 : decode cX4_waysRobbed 23 = .ok (.invokestatic 62, 3) := by decide +kernel
theorem dX4_waysRobbed_26 : decode cX4_waysRobbed 26 = .ok (.ifCond .eq 34, 3) := by decide +kernel
theorem dX4_waysRobbed_29 : decode cX4_waysRobbed 29 = .ok (.iload 4, 2) := by decide +kernel
theorem dX4_waysRobbed_31 : decode cX4_waysRobbed 31 = .ok (.invokestatic 98, 3) := by decide +kernel
theorem dX4_waysRobbed_34 : decode cX4_waysRobbed 34 = .ok (.istore 5, 2) := by decide +kernel
theorem dX4_waysRobbed_36 : decode cX4_waysRobbed 36 = .ok (.iload_n 3, 1) := by decide +kernel
theorem dX4_waysRobbed_37 : decode cX4_waysRobbed 37 = .ok (.iload_n 2, 1) := by decide +kernel
theorem dX4_waysRobbed_38 : decode cX4_waysRobbed 38 = .ok (.iload 5, 2) := by decide +kernel
theorem dX4_waysRobbed_40 : decode cX4_waysRobbed 40 = .ok (.invokestatic 103, 3) := by decide +kernel
theorem dX4_waysRobbed_43 : decode cX4_waysRobbed 43 = .ok (.bipush 10, 2) := by decide +kernel
theorem dX4_waysRobbed_45 : decode cX4_waysRobbed 45 = .ok (.iload_n 2, 1) := by decide +kernel
theorem dX4_waysRobbed_46 : decode cX4_waysRobbed 46 = .ok (.isub, 1) := by decide +kernel
theorem dX4_waysRobbed_47 : decode cX4_waysRobbed 47 = .ok (.aload_n 0, 1) := by decide +kernel
theorem dX4_waysRobbed_48 : decode cX4_waysRobbed 48 = .ok (.getfield 46, 3) := by decide +kernel
theorem dX4_waysRobbed_51 : decode cX4_waysRobbed 51 = .ok (.iload 5, 2) := by decide +kernel
theorem dX4_waysRobbed_53 : decode cX4_waysRobbed 53 = .ok (.isub, 1) := by decide +kernel
theorem dX4_waysRobbed_54 : decode cX4_waysRobbed 54 = .ok (.invokestatic 103, 3) := by decide +kernel
theorem dX4_waysRobbed_57 : decode cX4_waysRobbed 57 = .ok (.imul, 1) := by decide +kernel
theorem dX4_waysRobbed_58 : decode cX4_waysRobbed 58 = .ok (.iadd, 1) := by decide +kernel
theorem dX4_waysRobbed_59 : decode cX4_waysRobbed 59 = .ok (.istore_n 3, 1) := by decide +kernel
theorem dX4_waysRobbed_60 : decode cX4_waysRobbed 60 = .ok (.iinc 4 1, 3) := by decide +kernel
theorem dX4_waysRobbed_63 : decode cX4_waysRobbed 63 = .ok (.goto (-58), 3) := by decide +kernel
theorem dX4_waysRobbed_66 : decode cX4_waysRobbed 66 = .ok (.iload_n 3, 1) := by decide +kernel
theorem dX4_waysRobbed_67 : decode cX4_waysRobbed 67 = .ok (.ireturn, 1) := by decide +kernel
theorem dX5_init_0 : decode cX5_init 0 = .ok (.aload_n 0, 1) := by decide +kernel
theorem dX5_init_1 : decode cX5_init 1 = .ok (.invokespecial 1, 3) := by decide +kernel
theorem dX5_init_4 : decode cX5_init 4 = .ok (.aload_n 0, 1) := by decide +kernel
theorem dX5_init_5 : decode cX5_init 5 = .ok (.new 7, 3) := by decide +kernel
theorem dX5_init_8 : decode cX5_init 8 = .ok (.dup, 1) := by decide +kernel
theorem dX5_init_9 : decode cX5_init 9 = .ok (.invokespecial 9, 3) := by decide +kernel
theorem dX5_init_12 : decode cX5_init 12 = .ok (.putfield 10, 3) := by decide +kernel
theorem dX5_init_15 : decode cX5_init 15 = .ok (.aload_n 0, 1) := by decide +kernel
theorem dX5_init_16 : decode cX5_init 16 = .ok (.new 16, 3) := by decide +kernel
theorem dX5_init_19 : decode cX5_init 19 = .ok (.dup, 1) := by decide +kernel
theorem dX5_init_20 : decode cX5_init 20 = .ok (.invokespecial 18, 3) := by decide +kernel
theorem dX5_init_23 : decode cX5_init 23 = .ok (.putfield 19, 3) := by decide +kernel
theorem dX5_init_26 : decode cX5_init 26 = .ok (.aload_n 0, 1) := by decide +kernel
theorem dX5_init_27 : decode cX5_init 27 = .ok (.new 7, 3) := by decide +kernel
theorem dX5_init_30 : decode cX5_init 30 = .ok (.dup, 1) := by decide +kernel
theorem dX5_init_31 : decode cX5_init 31 = .ok (.invokespecial 9, 3) := by decide +kernel
theorem dX5_init_34 : decode cX5_init 34 = .ok (.putfield 23, 3) := by decide +kernel
theorem dX5_init_37 : decode cX5_init 37 = .ok (.aload_n 0, 1) := by decide +kernel
theorem dX5_init_38 : decode cX5_init 38 = .ok (.new 16, 3) := by decide +kernel
theorem dX5_init_41 : decode cX5_init 41 = .ok (.dup, 1) := by decide +kernel
theorem dX5_init_42 : decode cX5_init 42 = .ok (.invokespecial 18, 3) := by decide +kernel
theorem dX5_init_45 : decode cX5_init 45 = .ok (.putfield 26, 3) := by decide +kernel
theorem dX5_init_48 : decode cX5_init 48 = .ok (.aload_n 0, 1) := by decide +kernel
theorem dX5_init_49 : decode cX5_init 49 = .ok (.new 29, 3) := by decide +kernel
theorem dX5_init_52 : decode cX5_init 52 = .ok (.dup, 1) := by decide +kernel
theorem dX5_init_53 : decode cX5_init 53 = .ok (.invokespecial 31, 3) := by decide +kernel
theorem dX5_init_56 : decode cX5_init 56 = .ok (.putfield 32, 3) := by decide +kernel
theorem dX5_init_59 : decode cX5_init 59 = .ok (.aload_n 0, 1) := by decide +kernel
theorem dX5_init_60 : decode cX5_init 60 = .ok (.new 36, 3) := by decide +kernel
theorem dX5_init_63 : decode cX5_init 63 = .ok (.dup, 1) := by decide +kernel
theorem dX5_init_64 : decode cX5_init 64 = .ok (.invokespecial 38, 3) := by decide +kernel
theorem dX5_init_67 : decode cX5_init 67 = .ok (.putfield 39, 3) := by decide +kernel
theorem dX5_init_70 : decode cX5_init 70 = .ok (.aload_n 0, 1) := by decide +kernel
theorem dX5_init_71 : decode cX5_init 71 = .ok (.new 7, 3) := by decide +kernel
theorem dX5_init_74 : decode cX5_init 74 = .ok (.dup, 1) := by decide +kernel
theorem dX5_init_75 : decode cX5_init 75 = .ok (.invokespecial 9, 3) := by decide +kernel
theorem dX5_init_78 : decode cX5_init 78 = .ok (.putfield 43, 3) := by decide +kernel
theorem dX5_init_81 : decode cX5_init 81 = .ok (.aload_n 0, 1) := by decide +kernel
theorem dX5_init_82 : decode cX5_init 82 = .ok (.iconst 4, 1) := by decide +kernel
theorem dX5_init_83 : decode cX5_init 83 = .ok (.anewarray 46, 3) := by decide +kernel
theorem dX5_init_86 : decode cX5_init 86 = .ok (.putfield 48, 3) := by decide +kernel
theorem dX5_init_89 : decode cX5_init 89 = .ok (.iconst 0, 1) := by decide +kernel
theorem dX5_init_90 : decode cX5_init 90 = .ok (.istore_n 1, 1) := by decide +kernel
theorem dX5_init_91 : decode cX5_init 91 = .ok (.iload_n 1, 1) := by decide +kernel
theorem dX5_init_92 : decode cX5_init 92 = .ok (.iconst 4, 1) := by decide +kernel
theorem dX5_init_93 : decode cX5_init 93 = .ok (.if_icmp .ge 22, 3) := by decide +kernel
theorem dX5_init_96 : decode cX5_init 96 = .ok (.aload_n 0, 1) := by decide +kernel
theorem dX5_init_97 : decode cX5_init 97 = .ok (.getfield 48, 3) := by decide +kernel
theorem dX5_init_100 : decode cX5_init 100 = .ok (.iload_n 1, 1) := by decide +kernel
theorem dX5_init_101 : decode cX5_init 101 = .ok (.new 46, 3) := by decide +kernel
theorem dX5_init_104 : decode cX5_init 104 = .ok (.dup, 1) := by decide +kernel
theorem dX5_init_105 : decode cX5_init 105 = .ok (.invokespecial 52, 3) := by decide +kernel
theorem dX5_init_108 : decode cX5_init 108 = .ok (.aastore, 1) := by decide +kernel
theorem dX5_init_109 : decode cX5_init 109 = .ok (.iinc 1 1, 3) := by decide +kernel
theorem dX5_init_112 : decode cX5_init 112 = .ok (.goto (-21), 3) := by decide +kernel
theorem dX5_init_115 : decode cX5_init 115 = .ok (.return_, 1) := by decide +kernel
theorem dX5_apprentice_0 : decode cX5_apprentice 0 = .ok (.iload_n 1, 1) := by decide +kernel
theorem dX5_apprentice_1 : decode cX5_apprentice 1 = .ok (.iconst 0, 1) := by decide +kernel
theorem dX5_apprentice_2 : decode cX5_apprentice 2 = .ok (.iconst 4, 1) := by decide +kernel
theorem dX5_apprentice_3 : decode cX5_apprentice 3 = .ok (.invokestatic 53, 3) := by decide +kernel
theorem dX5_apprentice_6 : decode cX5_apprentice 6 = .ok (.ifCond .eq 22, 3) := by decide +kernel
theorem dX5_apprentice_9 : decode cX5_apprentice 9 = .ok (.iload_n 2, 1) := by decide +kernel
theorem dX5_apprentice_10 : decode cX5_apprentice 10 = .ok (.iconst 0, 1) := by decide +kernel
theorem dX5_apprentice_11 : decode cX5_apprentice 11 = .ok (.iconst 3, 1) := by decide +kernel
theorem dX5_apprentice_12 : decode cX5_apprentice 12 = .ok (.invokestatic 53, 3) := by decide +kernel
theorem dX5_apprentice_15 : decode cX5_apprentice 15 = .ok (.ifCond .eq 13, 3) := by decide +kernel
theorem dX5_apprentice_18 : decode cX5_apprentice 18 = .ok (.iload_n 3, 1) := by decide +kernel
theorem dX5_apprentice_19 : decode cX5_apprentice 19 = .ok (.iconst 0, 1) := by decide +kernel
theorem dX5_apprentice_20 : decode cX5_apprentice 20 = .ok (.bipush 9, 2) := by decide +kernel
theorem dX5_apprentice_22 : decode cX5_apprentice 22 = .ok (.invokestatic 53, 3) := by decide +kernel
theorem dX5_apprentice_25 : decode cX5_apprentice 25 = .ok (.ifCond .ne 5, 3) := by decide +kernel
theorem dX5_apprentice_28 : decode cX5_apprentice 28 = .ok (.iconst (-1), 1) := by decide +kernel
theorem dX5_apprentice_29 : decode cX5_apprentice 29 = .ok (.ireturn, 1) := by decide +kernel
theorem dX5_apprentice_30 : decode cX5_apprentice 30 = .ok (.aload_n 0, 1) := by decide +kernel
theorem dX5_apprentice_31 : decode cX5_apprentice 31 = .ok (.getfield 10, 3) := by decide +kernel
theorem dX5_apprentice_34 : decode cX5_apprentice 34 = .ok (.getfield 57, 3) := by decide +kernel
theorem dX5_apprentice_37 : decode cX5_apprentice 37 = .ok (.bipush 6, 2) := by decide +kernel
theorem dX5_apprentice_39 : decode cX5_apprentice 39 = .ok (.if_icmp .lt 6, 3) := by decide +kernel
theorem dX5_apprentice_42 : decode cX5_apprentice 42 = .ok (.bipush (-3), 2) := by decide +kernel
theorem dX5_apprentice_44 : decode cX5_apprentice 44 = .ok (.ireturn, 1) := by decide +kernel
theorem dX5_apprentice_45 : decode cX5_apprentice 45 = .ok (.aload_n 0, 1) := by decide +kernel
theorem dX5_apprentice_46 : decode cX5_apprentice 46 = .ok (.getfield 19, 3) := by decide +kernel
theorem dX5_apprentice_49 : decode cX5_apprentice 49 = .ok (.invokevirtual 61, 3) := by decide +kernel
theorem dX5_apprentice_52 : decode cX5_apprentice 52 = .ok (.aload_n 0, 1) := by decide +kernel
theorem dX5_apprentice_53 : decode cX5_apprentice 53 = .ok (.getfield 10, 3) := by decide +kernel
theorem dX5_apprentice_56 : decode cX5_apprentice 56 = .ok (.iload_n 1, 1) := by decide +kernel
theorem dX5_apprentice_57 : decode cX5_apprentice 57 = .ok (.iload_n 2, 1) := by decide +kernel
theorem dX5_apprentice_58 : decode cX5_apprentice 58 = .ok (.iload_n 3, 1) := by decide +kernel
theorem dX5_apprentice_59 : decode cX5_apprentice 59 = .ok (.invokevirtual 64, 3) := by decide +kernel
theorem dX5_apprentice_62 : decode cX5_apprentice 62 = .ok (.ireturn, 1) := by decide +kernel
theorem dX5_thief_0 : decode cX5_thief 0 = .ok (.iload_n 1, 1) := by decide +kernel
theorem dX5_thief_1 : decode cX5_thief 1 = .ok (.iconst 0, 1) := by decide +kernel
theorem dX5_thief_2 : decode cX5_thief 2 = .ok (.bipush 9, 2) := by decide +kernel
theorem dX5_thief_4 : decode cX5_thief 4 = .ok (.invokestatic 53, 3) := by decide +kernel
theorem dX5_thief_7 : decode cX5_thief 7 = .ok (.ifCond .eq 12, 3) := by decide +kernel
theorem dX5_thief_10 : decode cX5_thief 10 = .ok (.iload_n 2, 1) := by decide +kernel
theorem dX5_thief_11 : decode cX5_thief 11 = .ok (.iconst 0, 1) := by decide +kernel
theorem dX5_thief_12 : decode cX5_thief 12 = .ok (.iconst 4, 1) := by decide +kernel
theorem dX5_thief_13 : decode cX5_thief 13 = .ok (.invokestatic 53, 3) := by decide +kernel
theorem dX5_thief_16 : decode cX5_thief 16 = .ok (.ifCond .ne 5, 3) := by decide +kernel
theorem dX5_thief_19 : decode cX5_thief 19 = .ok (.iconst (-1), 1) := by decide +kernel
theorem dX5_thief_20 : decode cX5_thief 20 = .ok (.ireturn, 1) := by decide +kernel
theorem dX5_thief_21 : decode cX5_thief 21 = .ok (.aload_n 0, 1) := by decide +kernel
theorem dX5_thief_22 : decode cX5_thief 22 = .ok (.getfield 10, 3) := by decide +kernel
theorem dX5_thief_25 : decode cX5_thief 25 = .ok (.getfield 68, 3) := by decide +kernel
theorem dX5_thief_28 : decode cX5_thief 28 = .ok (.iconst 4, 1) := by decide +kernel
theorem dX5_thief_29 : decode cX5_thief 29 = .ok (.if_icmp .lt 6, 3) := by decide +kernel
theorem dX5_thief_32 : decode cX5_thief 32 = .ok (.bipush (-3), 2) := by decide +kernel
theorem dX5_thief_34 : decode cX5_thief 34 = .ok (.ireturn, 1) := by decide +kernel
theorem dX5_thief_35 : decode cX5_thief 35 = .ok (.aload_n 0, 1) := by decide +kernel
theorem dX5_thief_36 : decode cX5_thief 36 = .ok (.getfield 19, 3) := by decide +kernel
theorem dX5_thief_39 : decode cX5_thief 39 = .ok (.invokevirtual 61, 3) := by decide +kernel
theorem dX5_thief_42 : decode cX5_thief 42 = .ok (.aload_n 0, 1) := by decide +kernel
theorem dX5_thief_43 : decode cX5_thief 43 = .ok (.getfield 10, 3) := by decide +kernel
theorem dX5_thief_46 : decode cX5_thief 46 = .ok (.iload_n 1, 1) := by decide +kernel
theorem dX5_thief_47 : decode cX5_thief 47 = .ok (.iload_n 2, 1) := by decide +kernel
theorem dX5_thief_48 : decode cX5_thief 48 = .ok (.invokevirtual 71, 3) := by decide +kernel
theorem dX5_thief_51 : decode cX5_thief 51 = .ok (.ireturn, 1) := by decide +kernel
theorem dX5_bar_0 : decode cX5_bar 0 = .ok (.iload_n 1, 1) := by decide +kernel
theorem dX5_bar_1 : decode cX5_bar 1 = .ok (.iconst 0, 1) := by decide +kernel
theorem dX5_bar_2 : decode cX5_bar 2 = .ok (.bipush 99, 2) := by decide +kernel
theorem dX5_bar_4 : decode cX5_bar 4 = .ok (.invokestatic 53, 3) := by decide +kernel
theorem dX5_bar_7 : decode cX5_bar 7 = .ok (.ifCond .ne 5, 3) := by decide +kernel
theorem dX5_bar_10 : decode cX5_bar 10 = .ok (.iconst (-1), 1) := by decide +kernel
theorem dX5_bar_11 : decode cX5_bar 11 = .ok (.ireturn, 1) := by decide +kernel
theorem dX5_bar_12 : decode cX5_bar 12 = .ok (.aload_n 0, 1) := by decide +kernel
theorem dX5_bar_13 : decode cX5_bar 13 = .ok (.getfield 10, 3) := by decide +kernel
theorem dX5_bar_16 : decode cX5_bar 16 = .ok (.getfield 75, 3) := by decide +kernel
theorem dX5_bar_19 : decode cX5_bar 19 = .ok (.istore_n 2, 1) := by decide +kernel
theorem dX5_bar_20 : decode cX5_bar 20 = .ok (.aload_n 0, 1) := by decide +kernel
theorem dX5_bar_21 : decode cX5_bar 21 = .ok (.getfield 10, 3) := by decide +kernel
theorem dX5_bar_24 : decode cX5_bar 24 = .ok (.iload_n 1, 1) := by decide +kernel
theorem dX5_bar_25 : decode cX5_bar 25 = .ok (.putfield 75, 3) := by decide +kernel
theorem dX5_bar_28 : decode cX5_bar 28 = .ok (.iload_n 2, 1) := by decide +kernel
theorem dX5_bar_29 : decode cX5_bar 29 = .ok (.ireturn, 1) := by decide +kernel
theorem dX5_of_0 : decode cX5_of 0 = .ok (.aload_n 0, 1) := by decide +kernel
theorem dX5_of_1 : decode cX5_of 1 = .ok (.iload_n 1, 1) := by decide +kernel
theorem dX5_of_2 : decode cX5_of 2 = .ok (.invokevirtual 78, 3) := by decide +kernel
theorem dX5_of_5 : decode cX5_of 5 = .ok (.ifCond .ne 5, 3) := by decide +kernel
theorem dX5_of_8 : decode cX5_of 8 = .ok (.iconst (-1), 1) := by decide +kernel
theorem dX5_of_9 : decode cX5_of 9 = .ok (.ireturn, 1) := by decide +kernel
theorem dX5_of_10 : decode cX5_of 10 = .ok (.iload_n 2, 1) := by decide +kernel
theorem dX5_of_11 : decode cX5_of 11 = .ok (.tableswitch 130 0 6 #[41, 51, 61, 71, 81, 101, 121], 41) := by decide +kernel
theorem dX5_of_52 : decode cX5_of 52 = .ok (.aload_n 0, 1) := by decide +kernel
theorem dX5_of_53 : decode cX5_of 53 = .ok (.getfield 10, 3) := by decide +kernel
theorem dX5_of_56 : decode cX5_of 56 = .ok (.getfield 82, 3) := by decide +kernel
theorem dX5_of_59 : decode cX5_of 59 = .ok (.iload_n 1, 1) := by decide +kernel
theorem dX5_of_60 : decode cX5_of 60 = .ok (.iaload, 1) := by decide +kernel
theorem dX5_of_61 : decode cX5_of 61 = .ok (.ireturn, 1) := by decide +kernel
theorem dX5_of_62 : decode cX5_of 62 = .ok (.aload_n 0, 1) := by decide +kernel
theorem dX5_of_63 : decode cX5_of 63 = .ok (.getfield 10, 3) := by decide +kernel
theorem dX5_of_66 : decode cX5_of 66 = .ok (.getfield 86, 3) := by decide +kernel
theorem dX5_of_69 : decode cX5_of 69 = .ok (.iload_n 1, 1) := by decide +kernel
theorem dX5_of_70 : decode cX5_of 70 = .ok (.iaload, 1) := by decide +kernel
theorem dX5_of_71 : decode cX5_of 71 = .ok (.ireturn, 1) := by decide +kernel
theorem dX5_of_72 : decode cX5_of 72 = .ok (.aload_n 0, 1) := by decide +kernel
theorem dX5_of_73 : decode cX5_of 73 = .ok (.getfield 10, 3) := by decide +kernel
theorem dX5_of_76 : decode cX5_of 76 = .ok (.getfield 89, 3) := by decide +kernel
theorem dX5_of_79 : decode cX5_of 79 = .ok (.iload_n 1, 1) := by decide +kernel
theorem dX5_of_80 : decode cX5_of 80 = .ok (.iaload, 1) := by decide +kernel
theorem dX5_of_81 : decode cX5_of 81 = .ok (.ireturn, 1) := by decide +kernel
theorem dX5_of_82 : decode cX5_of 82 = .ok (.aload_n 0, 1) := by decide +kernel
theorem dX5_of_83 : decode cX5_of 83 = .ok (.getfield 10, 3) := by decide +kernel
theorem dX5_of_86 : decode cX5_of 86 = .ok (.getfield 92, 3) := by decide +kernel
theorem dX5_of_89 : decode cX5_of 89 = .ok (.iload_n 1, 1) := by decide +kernel
theorem dX5_of_90 : decode cX5_of 90 = .ok (.iaload, 1) := by decide +kernel
theorem dX5_of_91 : decode cX5_of 91 = .ok (.ireturn, 1) := by decide +kernel
theorem dX5_of_92 : decode cX5_of 92 = .ok (.aload_n 0, 1) := by decide +kernel
theorem dX5_of_93 : decode cX5_of 93 = .ok (.getfield 10, 3) := by decide +kernel
theorem dX5_of_96 : decode cX5_of 96 = .ok (.getfield 95, 3) := by decide +kernel
theorem dX5_of_99 : decode cX5_of 99 = .ok (.iload_n 1, 1) := by decide +kernel
theorem dX5_of_100 : decode cX5_of 100 = .ok (.invokestatic 98, 3) := by decide +kernel
theorem dX5_of_103 : decode cX5_of 103 = .ok (.ifCond .eq 7, 3) := by decide +kernel
theorem dX5_of_106 : decode cX5_of 106 = .ok (.iconst 1, 1) := by decide +kernel
theorem dX5_of_107 : decode cX5_of 107 = .ok (.goto 4, 3) := by decide +kernel
theorem dX5_of_110 : decode cX5_of 110 = .ok (.iconst 0, 1) := by decide +kernel
theorem dX5_of_111 : decode cX5_of 111 = .ok (.ireturn, 1) := by decide +kernel
theorem dX5_of_112 : decode cX5_of 112 = .ok (.aload_n 0, 1) := by decide +kernel
theorem dX5_of_113 : decode cX5_of 113 = .ok (.getfield 10, 3) := by decide +kernel
theorem dX5_of_116 : decode cX5_of 116 = .ok (.getfield 102, 3) := by decide +kernel
theorem dX5_of_119 : decode cX5_of 119 = .ok (.iload_n 1, 1) := by decide +kernel
theorem dX5_of_120 : decode cX5_of 120 = .ok (.invokestatic 98, 3) := by decide +kernel
theorem dX5_of_123 : decode cX5_of 123 = .ok (.ifCond .eq 7, 3) := by decide +kernel
theorem dX5_of_126 : decode cX5_of 126 = .ok (.iconst 1, 1) := by decide +kernel
theorem dX5_of_127 : decode cX5_of 127 = .ok (.goto 4, 3) := by decide +kernel
theorem dX5_of_130 : decode cX5_of 130 = .ok (.iconst 0, 1) := by decide +kernel
theorem dX5_of_131 : decode cX5_of 131 = .ok (.ireturn, 1) := by decide +kernel
theorem dX5_of_132 : decode cX5_of 132 = .ok (.aload_n 0, 1) := by decide +kernel
theorem dX5_of_133 : decode cX5_of 133 = .ok (.getfield 10, 3) := by decide +kernel
theorem dX5_of_136 : decode cX5_of 136 = .ok (.iload_n 1, 1) := by decide +kernel
theorem dX5_of_137 : decode cX5_of 137 = .ok (.invokevirtual 105, 3) := by decide +kernel
theorem dX5_of_140 : decode cX5_of 140 = .ok (.ireturn, 1) := by decide +kernel
theorem dX5_of_141 : decode cX5_of 141 = .ok (.iconst (-1), 1) := by decide +kernel
theorem dX5_of_142 : decode cX5_of 142 = .ok (.ireturn, 1) := by decide +kernel
theorem dX5_at_0 : decode cX5_at 0 = .ok (.aload_n 0, 1) := by decide +kernel
theorem dX5_at_1 : decode cX5_at 1 = .ok (.iload_n 1, 1) := by decide +kernel
theorem dX5_at_2 : decode cX5_at 2 = .ok (.invokevirtual 109, 3) := by decide +kernel
theorem dX5_at_5 : decode cX5_at 5 = .ok (.ifCond .ne 5, 3) := by decide +kernel
theorem dX5_at_8 : decode cX5_at 8 = .ok (.iconst (-1), 1) := by decide +kernel
theorem dX5_at_9 : decode cX5_at 9 = .ok (.ireturn, 1) := by decide +kernel
theorem dX5_at_10 : decode cX5_at 10 = .ok (.iload_n 2, 1) := by decide +kernel
theorem dX5_at_11 : decode cX5_at 11 = .ok (.tableswitch 54 0 2 #[25, 35, 45], 25) := by decide +kernel
theorem dX5_at_36 : decode cX5_at 36 = .ok (.aload_n 0, 1) := by decide +kernel
theorem dX5_at_37 : decode cX5_at 37 = .ok (.getfield 10, 3) := by decide +kernel
theorem dX5_at_40 : decode cX5_at 40 = .ok (.getfield 112, 3) := by decide +kernel
theorem dX5_at_43 : decode cX5_at 43 = .ok (.iload_n 1, 1) := by decide +kernel
theorem dX5_at_44 : decode cX5_at 44 = .ok (.iaload, 1) := by decide +kernel
theorem dX5_at_45 : decode cX5_at 45 = .ok (.ireturn, 1) := by decide +kernel
theorem dX5_at_46 : decode cX5_at 46 = .ok (.aload_n 0, 1) := by decide +kernel
theorem dX5_at_47 : decode cX5_at 47 = .ok (.getfield 10, 3) := by decide +kernel
theorem dX5_at_50 : decode cX5_at 50 = .ok (.getfield 115, 3) := by decide +kernel
theorem dX5_at_53 : decode cX5_at 53 = .ok (.iload_n 1, 1) := by decide +kernel
theorem dX5_at_54 : decode cX5_at 54 = .ok (.iaload, 1) := by decide +kernel
theorem dX5_at_55 : decode cX5_at 55 = .ok (.ireturn, 1) := by decide +kernel
theorem dX5_at_56 : decode cX5_at 56 = .ok (.aload_n 0, 1) := by decide +kernel
theorem dX5_at_57 : decode cX5_at 57 = .ok (.getfield 10, 3) := by decide +kernel
theorem dX5_at_60 : decode cX5_at 60 = .ok (.iload_n 1, 1) := by decide +kernel
theorem dX5_at_61 : decode cX5_at 61 = .ok (.invokevirtual 118, 3) := by decide +kernel
theorem dX5_at_64 : decode cX5_at 64 = .ok (.ireturn, 1) := by decide +kernel
theorem dX5_at_65 : decode cX5_at 65 = .ok (.iconst (-1), 1) := by decide +kernel
theorem dX5_at_66 : decode cX5_at 66 = .ok (.ireturn, 1) := by decide +kernel
theorem dX5_type_0 : decode cX5_type 0 = .ok (.iload_n 1, 1) := by decide +kernel
theorem dX5_type_1 : decode cX5_type 1 = .ok (.bipush 32, 2) := by decide +kernel
theorem dX5_type_3 : decode cX5_type 3 = .ok (.bipush 126, 2) := by decide +kernel
theorem dX5_type_5 : decode cX5_type 5 = .ok (.invokestatic 53, 3) := by decide +kernel
theorem dX5_type_8 : decode cX5_type 8 = .ok (.ifCond .ne 5, 3) := by decide +kernel
theorem dX5_type_11 : decode cX5_type 11 = .ok (.iconst (-1), 1) := by decide +kernel
theorem dX5_type_12 : decode cX5_type 12 = .ok (.ireturn, 1) := by decide +kernel
theorem dX5_type_13 : decode cX5_type 13 = .ok (.aload_n 0, 1) := by decide +kernel
theorem dX5_type_14 : decode cX5_type 14 = .ok (.getfield 39, 3) := by decide +kernel
theorem dX5_type_17 : decode cX5_type 17 = .ok (.getfield 121, 3) := by decide +kernel
theorem dX5_type_20 : decode cX5_type 20 = .ok (.bipush 80, 2) := by decide +kernel
theorem dX5_type_22 : decode cX5_type 22 = .ok (.if_icmp .lt 6, 3) := by decide +kernel
theorem dX5_type_25 : decode cX5_type 25 = .ok (.bipush (-3), 2) := by decide +kernel
theorem dX5_type_27 : decode cX5_type 27 = .ok (.ireturn, 1) := by decide +kernel
theorem dX5_type_28 : decode cX5_type 28 = .ok (.aload_n 0, 1) := by decide +kernel
theorem dX5_type_29 : decode cX5_type 29 = .ok (.getfield 39, 3) := by decide +kernel
theorem dX5_type_32 : decode cX5_type 32 = .ok (.iload_n 1, 1) := by decide +kernel
theorem dX5_type_33 : decode cX5_type 33 = .ok (.invokevirtual 124, 3) := by decide +kernel
theorem dX5_type_36 : decode cX5_type 36 = .ok (.ireturn, 1) := by decide +kernel
theorem dX5_town_0 : decode cX5_town 0 = .ok (.aload_n 0, 1) := by decide +kernel
theorem dX5_town_1 : decode cX5_town 1 = .ok (.getfield 39, 3) := by decide +kernel
theorem dX5_town_4 : decode cX5_town 4 = .ok (.aload_n 0, 1) := by decide +kernel
theorem dX5_town_5 : decode cX5_town 5 = .ok (.getfield 43, 3) := by decide +kernel
theorem dX5_town_8 : decode cX5_town 8 = .ok (.invokevirtual 127, 3) := by decide +kernel
theorem dX5_town_11 : decode cX5_town 11 = .ok (.istore_n 1, 1) := by decide +kernel
theorem dX5_town_12 : decode cX5_town 12 = .ok (.bipush (-20), 2) := by decide +kernel
theorem dX5_town_14 : decode cX5_town 14 = .ok (.aload_n 0, 1) := by decide +kernel
theorem dX5_town_15 : decode cX5_town 15 = .ok (.getfield 39, 3) := by decide +kernel
theorem dX5_town_18 : decode cX5_town 18 = .ok (.getfield 131, 3) := by decide +kernel
theorem dX5_town_21 : decode cX5_town 21 = .ok (.isub, 1) := by decide +kernel
theorem dX5_town_22 : decode cX5_town 22 = .ok (.istore_n 2, 1) := by decide +kernel
theorem dX5_town_23 : decode cX5_town 23 = .ok (.aload_n 0, 1) := by decide +kernel
theorem dX5_town_24 : decode cX5_town 24 = .ok (.getfield 39, 3) := by decide +kernel
theorem dX5_town_27 : decode cX5_town 27 = .ok (.invokevirtual 134, 3) := by decide +kernel
theorem dX5_town_30 : decode cX5_town 30 = .ok (.iload_n 1, 1) := by decide +kernel
theorem dX5_town_31 : decode cX5_town 31 = .ok (.ifCond .ne 5, 3) := by decide +kernel
theorem dX5_town_34 : decode cX5_town 34 = .ok (.iload_n 2, 1) := by decide +kernel
theorem dX5_town_35 : decode cX5_town 35 = .ok (.ireturn, 1) := by decide +kernel
theorem dX5_town_36 : decode cX5_town 36 = .ok (.aload_n 0, 1) := by decide +kernel
theorem dX5_town_37 : decode cX5_town 37 = .ok (.getfield 43, 3) := by decide +kernel
theorem dX5_town_40 : decode cX5_town 40 = .ok (.aload_n 0, 1) := by decide +kernel
theorem dX5_town_41 : decode cX5_town 41 = .ok (.getfield 10, 3) := by decide +kernel
theorem dX5_town_44 : decode cX5_town 44 = .ok (.getfield 137, 3) := by decide +kernel
theorem dX5_town_47 : decode cX5_town 47 = .ok (.putfield 137, 3) := by decide +kernel
theorem dX5_town_50 : decode cX5_town 50 = .ok (.aload_n 0, 1) := by decide +kernel
theorem dX5_town_51 : decode cX5_town 51 = .ok (.getfield 10, 3) := by decide +kernel
theorem dX5_town_54 : decode cX5_town 54 = .ok (.aload_n 0, 1) := by decide +kernel
theorem dX5_town_55 : decode cX5_town 55 = .ok (.getfield 43, 3) := by decide +kernel
theorem dX5_town_58 : decode cX5_town 58 = .ok (.invokevirtual 140, 3) := by decide +kernel
theorem dX5_town_61 : decode cX5_town 61 = .ok (.aload_n 0, 1) := by decide +kernel
theorem dX5_town_62 : decode cX5_town 62 = .ok (.getfield 19, 3) := by decide +kernel
theorem dX5_town_65 : decode cX5_town 65 = .ok (.invokevirtual 61, 3) := by decide +kernel
theorem dX5_town_68 : decode cX5_town 68 = .ok (.aload_n 0, 1) := by decide +kernel
theorem dX5_town_69 : decode cX5_town 69 = .ok (.getfield 10, 3) := by decide +kernel
theorem dX5_town_72 : decode cX5_town 72 = .ok (.getfield 57, 3) := by decide +kernel
theorem dX5_town_75 : decode cX5_town 75 = .ok (.ireturn, 1) := by decide +kernel
theorem dX5_count_0 : decode cX5_count 0 = .ok (.iload_n 1, 1) := by decide +kernel
theorem dX5_count_1 : decode cX5_count 1 = .ok (.tableswitch 111 0 7 #[47, 55, 63, 71, 79, 87, 95, 103], 47) := by decide +kernel
theorem dX5_count_48 : decode cX5_count 48 = .ok (.aload_n 0, 1) := by decide +kernel
theorem dX5_count_49 : decode cX5_count 49 = .ok (.getfield 10, 3) := by decide +kernel
theorem dX5_count_52 : decode cX5_count 52 = .ok (.getfield 57, 3) := by decide +kernel
theorem dX5_count_55 : decode cX5_count 55 = .ok (.ireturn, 1) := by decide +kernel
theorem dX5_count_56 : decode cX5_count 56 = .ok (.aload_n 0, 1) := by decide +kernel
theorem dX5_count_57 : decode cX5_count 57 = .ok (.getfield 10, 3) := by decide +kernel
theorem dX5_count_60 : decode cX5_count 60 = .ok (.getfield 68, 3) := by decide +kernel
theorem dX5_count_63 : decode cX5_count 63 = .ok (.ireturn, 1) := by decide +kernel
theorem dX5_count_64 : decode cX5_count 64 = .ok (.aload_n 0, 1) := by decide +kernel
theorem dX5_count_65 : decode cX5_count 65 = .ok (.getfield 10, 3) := by decide +kernel
theorem dX5_count_68 : decode cX5_count 68 = .ok (.getfield 144, 3) := by decide +kernel
theorem dX5_count_71 : decode cX5_count 71 = .ok (.ireturn, 1) := by decide +kernel
theorem dX5_count_72 : decode cX5_count 72 = .ok (.aload_n 0, 1) := by decide +kernel
theorem dX5_count_73 : decode cX5_count 73 = .ok (.getfield 10, 3) := by decide +kernel
theorem dX5_count_76 : decode cX5_count 76 = .ok (.getfield 75, 3) := by decide +kernel
theorem dX5_count_79 : decode cX5_count 79 = .ok (.ireturn, 1) := by decide +kernel
theorem dX5_count_80 : decode cX5_count 80 = .ok (.aload_n 0, 1) := by decide +kernel
theorem dX5_count_81 : decode cX5_count 81 = .ok (.getfield 10, 3) := by decide +kernel
theorem dX5_count_84 : decode cX5_count 84 = .ok (.getfield 102, 3) := by decide +kernel
theorem dX5_count_87 : decode cX5_count 87 = .ok (.ireturn, 1) := by decide +kernel
theorem dX5_count_88 : decode cX5_count 88 = .ok (.aload_n 0, 1) := by decide +kernel
theorem dX5_count_89 : decode cX5_count 89 = .ok (.getfield 10, 3) := by decide +kernel
theorem dX5_count_92 : decode cX5_count 92 = .ok (.getfield 95, 3) := by decide +kernel
theorem dX5_count_95 : decode cX5_count 95 = .ok (.ireturn, 1) := by decide +kernel
theorem dX5_count_96 : decode cX5_count 96 = .ok (.aload_n 0, 1) := by decide +kernel
theorem dX5_count_97 : decode cX5_count 97 = .ok (.getfield 10, 3) := by decide +kernel
theorem dX5_count_100 : decode cX5_count 100 = .ok (.invokevirtual 147, 3) := by decide +kernel
theorem dX5_count_103 : decode cX5_count 103 = .ok (.ireturn, 1) := by decide +kernel
theorem dX5_count_104 : decode cX5_count 104 = .ok (.aload_n 0, 1) := by decide +kernel
theorem dX5_count_105 : decode cX5_count 105 = .ok (.getfield 19, 3) := by decide +kernel
theorem dX5_count_108 : decode cX5_count 108 = .ok (.getfield 151, 3) := by decide +kernel
theorem dX5_count_111 : decode cX5_count 111 = .ok (.ireturn, 1) := by decide +kernel
theorem dX5_count_112 : decode cX5_count 112 = .ok (.iconst (-1), 1) := by decide +kernel
theorem dX5_count_113 : decode cX5_count 113 = .ok (.ireturn, 1) := by decide +kernel
theorem dX5_nights_0 : decode cX5_nights 0 = .ok (.aload_n 0, 1) := by decide +kernel
theorem dX5_nights_1 : decode cX5_nights 1 = .ok (.iload_n 1, 1) := by decide +kernel
theorem dX5_nights_2 : decode cX5_nights 2 = .ok (.iconst 0, 1) := by decide +kernel
theorem dX5_nights_3 : decode cX5_nights 3 = .ok (.invokevirtual 154, 3) := by decide +kernel
theorem dX5_nights_6 : decode cX5_nights 6 = .ok (.ireturn, 1) := by decide +kernel
theorem dX5_show_0 : decode cX5_show 0 = .ok (.aload_n 0, 1) := by decide +kernel
theorem dX5_show_1 : decode cX5_show 1 = .ok (.iload_n 1, 1) := by decide +kernel
theorem dX5_show_2 : decode cX5_show 2 = .ok (.invokevirtual 78, 3) := by decide +kernel
theorem dX5_show_5 : decode cX5_show 5 = .ok (.ifCond .eq 12, 3) := by decide +kernel
theorem dX5_show_8 : decode cX5_show 8 = .ok (.iload_n 2, 1) := by decide +kernel
theorem dX5_show_9 : decode cX5_show 9 = .ok (.iconst 0, 1) := by decide +kernel
theorem dX5_show_10 : decode cX5_show 10 = .ok (.iconst 1, 1) := by decide +kernel
theorem dX5_show_11 : decode cX5_show 11 = .ok (.invokestatic 53, 3) := by decide +kernel
theorem dX5_show_14 : decode cX5_show 14 = .ok (.ifCond .ne 5, 3) := by decide +kernel
theorem dX5_show_17 : decode cX5_show 17 = .ok (.iconst (-1), 1) := by decide +kernel
theorem dX5_show_18 : decode cX5_show 18 = .ok (.ireturn, 1) := by decide +kernel
theorem dX5_show_19 : decode cX5_show 19 = .ok (.aload_n 0, 1) := by decide +kernel
theorem dX5_show_20 : decode cX5_show 20 = .ok (.getfield 10, 3) := by decide +kernel
theorem dX5_show_23 : decode cX5_show 23 = .ok (.getfield 102, 3) := by decide +kernel
theorem dX5_show_26 : decode cX5_show 26 = .ok (.iload_n 1, 1) := by decide +kernel
theorem dX5_show_27 : decode cX5_show 27 = .ok (.invokestatic 98, 3) := by decide +kernel
theorem dX5_show_30 : decode cX5_show 30 = .ok (.ifCond .ne 27, 3) := by decide +kernel
theorem dX5_show_33 : decode cX5_show 33 = .ok (.aload_n 0, 1) := by decide +kernel
theorem dX5_show_34 : decode cX5_show 34 = .ok (.getfield 10, 3) := by decide +kernel
theorem dX5_show_37 : decode cX5_show 37 = .ok (.getfield 95, 3) := by decide +kernel
theorem dX5_show_40 : decode cX5_show 40 = .ok (.iload_n 1, 1) := by decide +kernel
theorem dX5_show_41 : decode cX5_show 41 = .ok (.invokestatic 98, 3) := by decide +kernel
theorem dX5_show_44 : decode cX5_show 44 = .ok (.iload_n 2, 1) := by decide +kernel
theorem dX5_show_45 : decode cX5_show 45 = .ok (.iconst 1, 1) := by decide +kernel
theorem dX5_show_46 : decode cX5_show 46 = .ok (.if_icmp .ne 7, 3) := by decide +kernel
theorem dX5_show_49 : decode cX5_show 49 = .ok (.iconst 1, 1) := by decide +kernel
theorem dX5_show_50 : decode cX5_show 50 = .ok (.goto 4, 3) := by decide +kernel
theorem dX5_show_53 : decode cX5_show 53 = .ok (.iconst 0, 1) := by decide +kernel
theorem dX5_show_54 : decode cX5_show 54 = .ok (.if_icmp .ne 6, 3) := by decide +kernel
theorem dX5_show_57 : decode cX5_show 57 = .ok (.bipush (-2), 2) := by decide +kernel
theorem dX5_show_59 : decode cX5_show 59 = .ok (.ireturn, 1) := by decide +kernel
theorem dX5_show_60 : decode cX5_show 60 = .ok (.aload_n 0, 1) := by decide +kernel
theorem dX5_show_61 : decode cX5_show 61 = .ok (.getfield 19, 3) := by decide +kernel
theorem dX5_show_64 : decode cX5_show 64 = .ok (.aload_n 0, 1) := by decide +kernel
theorem dX5_show_65 : decode cX5_show 65 = .ok (.getfield 10, 3) := by decide +kernel
theorem dX5_show_68 : decode cX5_show 68 = .ok (.invokevirtual 158, 3) := by decide +kernel
theorem dX5_show_71 : decode cX5_show 71 = .ok (.aload_n 0, 1) := by decide +kernel
theorem dX5_show_72 : decode cX5_show 72 = .ok (.getfield 10, 3) := by decide +kernel
theorem dX5_show_75 : decode cX5_show 75 = .ok (.iload_n 1, 1) := by decide +kernel
theorem dX5_show_76 : decode cX5_show 76 = .ok (.iload_n 2, 1) := by decide +kernel
theorem dX5_show_77 : decode cX5_show 77 = .ok (.iconst 1, 1) := by decide +kernel
theorem dX5_show_78 : decode cX5_show 78 = .ok (.if_icmp .ne 7, 3) := by decide +kernel
theorem dX5_show_81 : decode cX5_show 81 = .ok (.iconst 1, 1) := by decide +kernel
theorem dX5_show_82 : decode cX5_show 82 = .ok (.goto 4, 3) := by decide +kernel
theorem dX5_show_85 : decode cX5_show 85 = .ok (.iconst 0, 1) := by decide +kernel
theorem dX5_show_86 : decode cX5_show 86 = .ok (.invokevirtual 161, 3) := by decide +kernel
theorem dX5_show_89 : decode cX5_show 89 = .ok (.aload_n 0, 1) := by decide +kernel
theorem dX5_show_90 : decode cX5_show 90 = .ok (.getfield 10, 3) := by decide +kernel
theorem dX5_show_93 : decode cX5_show 93 = .ok (.getfield 95, 3) := by decide +kernel
theorem dX5_show_96 : decode cX5_show 96 = .ok (.ireturn, 1) := by decide +kernel
theorem dX5_teach_0 : decode cX5_teach 0 = .ok (.aload_n 0, 1) := by decide +kernel
theorem dX5_teach_1 : decode cX5_teach 1 = .ok (.iload_n 1, 1) := by decide +kernel
theorem dX5_teach_2 : decode cX5_teach 2 = .ok (.invokevirtual 78, 3) := by decide +kernel
theorem dX5_teach_5 : decode cX5_teach 5 = .ok (.ifCond .eq 13, 3) := by decide +kernel
theorem dX5_teach_8 : decode cX5_teach 8 = .ok (.iload_n 2, 1) := by decide +kernel
theorem dX5_teach_9 : decode cX5_teach 9 = .ok (.iconst 0, 1) := by decide +kernel
theorem dX5_teach_10 : decode cX5_teach 10 = .ok (.bipush 9, 2) := by decide +kernel
theorem dX5_teach_12 : decode cX5_teach 12 = .ok (.invokestatic 53, 3) := by decide +kernel
theorem dX5_teach_15 : decode cX5_teach 15 = .ok (.ifCond .ne 5, 3) := by decide +kernel
theorem dX5_teach_18 : decode cX5_teach 18 = .ok (.iconst (-1), 1) := by decide +kernel
theorem dX5_teach_19 : decode cX5_teach 19 = .ok (.ireturn, 1) := by decide +kernel
theorem dX5_teach_20 : decode cX5_teach 20 = .ok (.aload_n 0, 1) := by decide +kernel
theorem dX5_teach_21 : decode cX5_teach 21 = .ok (.getfield 10, 3) := by decide +kernel
theorem dX5_teach_24 : decode cX5_teach 24 = .ok (.getfield 92, 3) := by decide +kernel
theorem dX5_teach_27 : decode cX5_teach 27 = .ok (.iload_n 1, 1) := by decide +kernel
theorem dX5_teach_28 : decode cX5_teach 28 = .ok (.iaload, 1) := by decide +kernel
theorem dX5_teach_29 : decode cX5_teach 29 = .ok (.istore_n 3, 1) := by decide +kernel
theorem dX5_teach_30 : decode cX5_teach 30 = .ok (.iload_n 3, 1) := by decide +kernel
theorem dX5_teach_31 : decode cX5_teach 31 = .ok (.iload_n 2, 1) := by decide +kernel
theorem dX5_teach_32 : decode cX5_teach 32 = .ok (.if_icmp .ne 6, 3) := by decide +kernel
theorem dX5_teach_35 : decode cX5_teach 35 = .ok (.bipush (-2), 2) := by decide +kernel
theorem dX5_teach_37 : decode cX5_teach 37 = .ok (.ireturn, 1) := by decide +kernel
theorem dX5_teach_38 : decode cX5_teach 38 = .ok (.aload_n 0, 1) := by decide +kernel
theorem dX5_teach_39 : decode cX5_teach 39 = .ok (.getfield 19, 3) := by decide +kernel
theorem dX5_teach_42 : decode cX5_teach 42 = .ok (.aload_n 0, 1) := by decide +kernel
theorem dX5_teach_43 : decode cX5_teach 43 = .ok (.getfield 10, 3) := by decide +kernel
theorem dX5_teach_46 : decode cX5_teach 46 = .ok (.invokevirtual 158, 3) := by decide +kernel
theorem dX5_teach_49 : decode cX5_teach 49 = .ok (.aload_n 0, 1) := by decide +kernel
theorem dX5_teach_50 : decode cX5_teach 50 = .ok (.getfield 10, 3) := by decide +kernel
theorem dX5_teach_53 : decode cX5_teach 53 = .ok (.getfield 92, 3) := by decide +kernel
theorem dX5_teach_56 : decode cX5_teach 56 = .ok (.iload_n 1, 1) := by decide +kernel
theorem dX5_teach_57 : decode cX5_teach 57 = .ok (.iload_n 2, 1) := by decide +kernel
theorem dX5_teach_58 : decode cX5_teach 58 = .ok (.iastore, 1) := by decide +kernel
theorem dX5_teach_59 : decode cX5_teach 59 = .ok (.iload_n 3, 1) := by decide +kernel
theorem dX5_teach_60 : decode cX5_teach 60 = .ok (.ireturn, 1) := by decide +kernel
theorem dX5_drift_0 : decode cX5_drift 0 = .ok (.aload_n 0, 1) := by decide +kernel
theorem dX5_drift_1 : decode cX5_drift 1 = .ok (.iload_n 1, 1) := by decide +kernel
theorem dX5_drift_2 : decode cX5_drift 2 = .ok (.iconst 1, 1) := by decide +kernel
theorem dX5_drift_3 : decode cX5_drift 3 = .ok (.invokevirtual 154, 3) := by decide +kernel
theorem dX5_drift_6 : decode cX5_drift 6 = .ok (.ireturn, 1) := by decide +kernel
theorem dX5_undo_0 : decode cX5_undo 0 = .ok (.aload_n 0, 1) := by decide +kernel
theorem dX5_undo_1 : decode cX5_undo 1 = .ok (.getfield 19, 3) := by decide +kernel
theorem dX5_undo_4 : decode cX5_undo 4 = .ok (.getfield 151, 3) := by decide +kernel
theorem dX5_undo_7 : decode cX5_undo 7 = .ok (.ifCond .ne 6, 3) := by decide +kernel
theorem dX5_undo_10 : decode cX5_undo 10 = .ok (.bipush (-4), 2) := by decide +kernel
theorem dX5_undo_12 : decode cX5_undo 12 = .ok (.ireturn, 1) := by decide +kernel
theorem dX5_undo_13 : decode cX5_undo 13 = .ok (.aload_n 0, 1) := by decide +kernel
theorem dX5_undo_14 : decode cX5_undo 14 = .ok (.getfield 19, 3) := by decide +kernel
theorem dX5_undo_17 : decode cX5_undo 17 = .ok (.aload_n 0, 1) := by decide +kernel
theorem dX5_undo_18 : decode cX5_undo 18 = .ok (.getfield 10, 3) := by decide +kernel
theorem dX5_undo_21 : decode cX5_undo 21 = .ok (.invokevirtual 165, 3) := by decide +kernel
theorem dX5_undo_24 : decode cX5_undo 24 = .ok (.aload_n 0, 1) := by decide +kernel
theorem dX5_undo_25 : decode cX5_undo 25 = .ok (.getfield 19, 3) := by decide +kernel
theorem dX5_undo_28 : decode cX5_undo 28 = .ok (.getfield 151, 3) := by decide +kernel
theorem dX5_undo_31 : decode cX5_undo 31 = .ok (.ireturn, 1) := by decide +kernel
theorem dX5_seed_0 : decode cX5_seed 0 = .ok (.iload_n 1, 1) := by decide +kernel
theorem dX5_seed_1 : decode cX5_seed 1 = .ok (.ifCond .ge 5, 3) := by decide +kernel
theorem dX5_seed_4 : decode cX5_seed 4 = .ok (.iconst (-1), 1) := by decide +kernel
theorem dX5_seed_5 : decode cX5_seed 5 = .ok (.ireturn, 1) := by decide +kernel
theorem dX5_seed_6 : decode cX5_seed 6 = .ok (.aload_n 0, 1) := by decide +kernel
theorem dX5_seed_7 : decode cX5_seed 7 = .ok (.getfield 10, 3) := by decide +kernel
theorem dX5_seed_10 : decode cX5_seed 10 = .ok (.getfield 137, 3) := by decide +kernel
theorem dX5_seed_13 : decode cX5_seed 13 = .ok (.istore_n 2, 1) := by decide +kernel
theorem dX5_seed_14 : decode cX5_seed 14 = .ok (.aload_n 0, 1) := by decide +kernel
theorem dX5_seed_15 : decode cX5_seed 15 = .ok (.getfield 10, 3) := by decide +kernel
theorem dX5_seed_18 : decode cX5_seed 18 = .ok (.iload_n 1, 1) := by decide +kernel
theorem dX5_seed_19 : decode cX5_seed 19 = .ok (.putfield 137, 3) := by decide +kernel
theorem dX5_seed_22 : decode cX5_seed 22 = .ok (.iload_n 2, 1) := by decide +kernel
theorem dX5_seed_23 : decode cX5_seed 23 = .ok (.ireturn, 1) := by decide +kernel
theorem dX5_ahead_0 : decode cX5_ahead 0 = .ok (.aload_n 0, 1) := by decide +kernel
theorem dX5_ahead_1 : decode cX5_ahead 1 = .ok (.iload_n 1, 1) := by decide +kernel
theorem dX5_ahead_2 : decode cX5_ahead 2 = .ok (.invokevirtual 78, 3) := by decide +kernel
theorem dX5_ahead_5 : decode cX5_ahead 5 = .ok (.ifCond .eq 13, 3) := by decide +kernel
theorem dX5_ahead_8 : decode cX5_ahead 8 = .ok (.iload_n 2, 1) := by decide +kernel
theorem dX5_ahead_9 : decode cX5_ahead 9 = .ok (.iconst 0, 1) := by decide +kernel
theorem dX5_ahead_10 : decode cX5_ahead 10 = .ok (.bipush 99, 2) := by decide +kernel
theorem dX5_ahead_12 : decode cX5_ahead 12 = .ok (.invokestatic 53, 3) := by decide +kernel
theorem dX5_ahead_15 : decode cX5_ahead 15 = .ok (.ifCond .ne 5, 3) := by decide +kernel
theorem dX5_ahead_18 : decode cX5_ahead 18 = .ok (.iconst (-1), 1) := by decide +kernel
theorem dX5_ahead_19 : decode cX5_ahead 19 = .ok (.ireturn, 1) := by decide +kernel
theorem dX5_ahead_20 : decode cX5_ahead 20 = .ok (.aload_n 0, 1) := by decide +kernel
theorem dX5_ahead_21 : decode cX5_ahead 21 = .ok (.getfield 32, 3) := by decide +kernel
theorem dX5_ahead_24 : decode cX5_ahead 24 = .ok (.aload_n 0, 1) := by decide +kernel
theorem dX5_ahead_25 : decode cX5_ahead 25 = .ok (.getfield 10, 3) := by decide +kernel
theorem dX5_ahead_28 : decode cX5_ahead 28 = .ok (.iload_n 2, 1) := by decide +kernel
theorem dX5_ahead_29 : decode cX5_ahead 29 = .ok (.invokevirtual 168, 3) := by decide +kernel
theorem dX5_ahead_32 : decode cX5_ahead 32 = .ok (.getfield 89, 3) := by decide +kernel
theorem dX5_ahead_35 : decode cX5_ahead 35 = .ok (.iload_n 1, 1) := by decide +kernel
theorem dX5_ahead_36 : decode cX5_ahead 36 = .ok (.iaload, 1) := by decide +kernel
theorem dX5_ahead_37 : decode cX5_ahead 37 = .ok (.ireturn, 1) := by decide +kernel
theorem dX5_then_0 : decode cX5_then 0 = .ok (.iload_n 1, 1) := by decide +kernel
theorem dX5_then_1 : decode cX5_then 1 = .ok (.iconst 0, 1) := by decide +kernel
theorem dX5_then_2 : decode cX5_then 2 = .ok (.bipush 99, 2) := by decide +kernel
theorem dX5_then_4 : decode cX5_then 4 = .ok (.invokestatic 53, 3) := by decide +kernel
theorem dX5_then_7 : decode cX5_then 7 = .ok (.ifCond .ne 5, 3) := by decide +kernel
theorem dX5_then_10 : decode cX5_then 10 = .ok (.iconst (-1), 1) := by decide +kernel
theorem dX5_then_11 : decode cX5_then 11 = .ok (.ireturn, 1) := by decide +kernel
theorem dX5_then_12 : decode cX5_then 12 = .ok (.aload_n 0, 1) := by decide +kernel
theorem dX5_then_13 : decode cX5_then 13 = .ok (.getfield 32, 3) := by decide +kernel
theorem dX5_then_16 : decode cX5_then 16 = .ok (.aload_n 0, 1) := by decide +kernel
theorem dX5_then_17 : decode cX5_then 17 = .ok (.getfield 10, 3) := by decide +kernel
theorem dX5_then_20 : decode cX5_then 20 = .ok (.iload_n 1, 1) := by decide +kernel
theorem dX5_then_21 : decode cX5_then 21 = .ok (.invokevirtual 168, 3) := by decide +kernel
theorem dX5_then_24 : decode cX5_then 24 = .ok (.getfield 102, 3) := by decide +kernel
theorem dX5_then_27 : decode cX5_then 27 = .ok (.ireturn, 1) := by decide +kernel
theorem dX5_sworn_0 : decode cX5_sworn 0 = .ok (.aload_n 0, 1) := by decide +kernel
theorem dX5_sworn_1 : decode cX5_sworn 1 = .ok (.iload_n 1, 1) := by decide +kernel
theorem dX5_sworn_2 : decode cX5_sworn 2 = .ok (.invokevirtual 78, 3) := by decide +kernel
theorem dX5_sworn_5 : decode cX5_sworn 5 = .ok (.ifCond .ne 5, 3) := by decide +kernel
theorem dX5_sworn_8 : decode cX5_sworn 8 = .ok (.iconst (-1), 1) := by decide +kernel
theorem dX5_sworn_9 : decode cX5_sworn 9 = .ok (.ireturn, 1) := by decide +kernel
theorem dX5_sworn_10 : decode cX5_sworn 10 = .ok (.aload_n 0, 1) := by decide +kernel
theorem dX5_sworn_11 : decode cX5_sworn 11 = .ok (.getfield 32, 3) := by decide +kernel
theorem dX5_sworn_14 : decode cX5_sworn 14 = .ok (.aload_n 0, 1) := by decide +kernel
theorem dX5_sworn_15 : decode cX5_sworn 15 = .ok (.getfield 10, 3) := by decide +kernel
theorem dX5_sworn_18 : decode cX5_sworn 18 = .ok (.iload_n 1, 1) := by decide +kernel
theorem dX5_sworn_19 : decode cX5_sworn 19 = .ok (.invokevirtual 172, 3) := by decide +kernel
theorem dX5_sworn_22 : decode cX5_sworn 22 = .ok (.ireturn, 1) := by decide +kernel
theorem dX5_robs_0 : decode cX5_robs 0 = .ok (.aload_n 0, 1) := by decide +kernel
theorem dX5_robs_1 : decode cX5_robs 1 = .ok (.iload_n 1, 1) := by decide +kernel
theorem dX5_robs_2 : decode cX5_robs 2 = .ok (.invokevirtual 109, 3) := by decide +kernel
theorem dX5_robs_5 : decode cX5_robs 5 = .ok (.ifCond .ne 5, 3) := by decide +kernel
theorem dX5_robs_8 : decode cX5_robs 8 = .ok (.iconst (-1), 1) := by decide +kernel
theorem dX5_robs_9 : decode cX5_robs 9 = .ok (.ireturn, 1) := by decide +kernel
theorem dX5_robs_10 : decode cX5_robs 10 = .ok (.aload_n 0, 1) := by decide +kernel
theorem dX5_robs_11 : decode cX5_robs 11 = .ok (.getfield 10, 3) := by decide +kernel
theorem dX5_robs_14 : decode cX5_robs 14 = .ok (.iload_n 1, 1) := by decide +kernel
theorem dX5_robs_15 : decode cX5_robs 15 = .ok (.invokevirtual 176, 3) := by decide +kernel
theorem dX5_robs_18 : decode cX5_robs 18 = .ok (.ireturn, 1) := by decide +kernel
theorem dX5_hides_0 : decode cX5_hides 0 = .ok (.aload_n 0, 1) := by decide +kernel
theorem dX5_hides_1 : decode cX5_hides 1 = .ok (.iload_n 1, 1) := by decide +kernel
theorem dX5_hides_2 : decode cX5_hides 2 = .ok (.invokevirtual 78, 3) := by decide +kernel
theorem dX5_hides_5 : decode cX5_hides 5 = .ok (.ifCond .eq 12, 3) := by decide +kernel
theorem dX5_hides_8 : decode cX5_hides 8 = .ok (.iload_n 2, 1) := by decide +kernel
theorem dX5_hides_9 : decode cX5_hides 9 = .ok (.iconst 0, 1) := by decide +kernel
theorem dX5_hides_10 : decode cX5_hides 10 = .ok (.iconst 1, 1) := by decide +kernel
theorem dX5_hides_11 : decode cX5_hides 11 = .ok (.invokestatic 53, 3) := by decide +kernel
theorem dX5_hides_14 : decode cX5_hides 14 = .ok (.ifCond .ne 5, 3) := by decide +kernel
theorem dX5_hides_17 : decode cX5_hides 17 = .ok (.iconst (-1), 1) := by decide +kernel
theorem dX5_hides_18 : decode cX5_hides 18 = .ok (.ireturn, 1) := by decide +kernel
theorem dX5_hides_19 : decode cX5_hides 19 = .ok (.aload_n 0, 1) := by decide +kernel
theorem dX5_hides_20 : decode cX5_hides 20 = .ok (.getfield 32, 3) := by decide +kernel
theorem dX5_hides_23 : decode cX5_hides 23 = .ok (.aload_n 0, 1) := by decide +kernel
theorem dX5_hides_24 : decode cX5_hides 24 = .ok (.getfield 10, 3) := by decide +kernel
theorem dX5_hides_27 : decode cX5_hides 27 = .ok (.iload_n 1, 1) := by decide +kernel
theorem dX5_hides_28 : decode cX5_hides 28 = .ok (.iload_n 2, 1) := by decide +kernel
theorem dX5_hides_29 : decode cX5_hides 29 = .ok (.ifCond .ne 7, 3) := by decide +kernel
theorem dX5_hides_32 : decode cX5_hides 32 = .ok (.iconst 1, 1) := by decide +kernel
theorem dX5_hides_33 : decode cX5_hides 33 = .ok (.goto 4, 3) := by decide +kernel
theorem dX5_hides_36 : decode cX5_hides 36 = .ok (.iconst 0, 1) := by decide +kernel
theorem dX5_hides_37 : decode cX5_hides 37 = .ok (.invokevirtual 179, 3) := by decide +kernel
theorem dX5_hides_40 : decode cX5_hides 40 = .ok (.ireturn, 1) := by decide +kernel
theorem dX5_cover_0 : decode cX5_cover 0 = .ok (.aload_n 0, 1) := by decide +kernel
theorem dX5_cover_1 : decode cX5_cover 1 = .ok (.iload_n 1, 1) := by decide +kernel
theorem dX5_cover_2 : decode cX5_cover 2 = .ok (.invokevirtual 78, 3) := by decide +kernel
theorem dX5_cover_5 : decode cX5_cover 5 = .ok (.ifCond .eq 22, 3) := by decide +kernel
theorem dX5_cover_8 : decode cX5_cover 8 = .ok (.iload_n 2, 1) := by decide +kernel
theorem dX5_cover_9 : decode cX5_cover 9 = .ok (.iconst 1, 1) := by decide +kernel
theorem dX5_cover_10 : decode cX5_cover 10 = .ok (.bipush 40, 2) := by decide +kernel
theorem dX5_cover_12 : decode cX5_cover 12 = .ok (.invokestatic 53, 3) := by decide +kernel
theorem dX5_cover_15 : decode cX5_cover 15 = .ok (.ifCond .eq 12, 3) := by decide +kernel
theorem dX5_cover_18 : decode cX5_cover 18 = .ok (.iload_n 3, 1) := by decide +kernel
theorem dX5_cover_19 : decode cX5_cover 19 = .ok (.iconst 0, 1) := by decide +kernel
theorem dX5_cover_20 : decode cX5_cover 20 = .ok (.iconst 1, 1) := by decide +kernel
theorem dX5_cover_21 : decode cX5_cover 21 = .ok (.invokestatic 53, 3) := by decide +kernel
theorem dX5_cover_24 : decode cX5_cover 24 = .ok (.ifCond .ne 5, 3) := by decide +kernel
theorem dX5_cover_27 : decode cX5_cover 27 = .ok (.iconst (-1), 1) := by decide +kernel
theorem dX5_cover_28 : decode cX5_cover 28 = .ok (.ireturn, 1) := by decide +kernel
theorem dX5_cover_29 : decode cX5_cover 29 = .ok (.aload_n 0, 1) := by decide +kernel
theorem dX5_cover_30 : decode cX5_cover 30 = .ok (.getfield 32, 3) := by decide +kernel
theorem dX5_cover_33 : decode cX5_cover 33 = .ok (.aload_n 0, 1) := by decide +kernel
theorem dX5_cover_34 : decode cX5_cover 34 = .ok (.getfield 10, 3) := by decide +kernel
theorem dX5_cover_37 : decode cX5_cover 37 = .ok (.iload_n 1, 1) := by decide +kernel
theorem dX5_cover_38 : decode cX5_cover 38 = .ok (.iload_n 2, 1) := by decide +kernel
theorem dX5_cover_39 : decode cX5_cover 39 = .ok (.invokevirtual 183, 3) := by decide +kernel
theorem dX5_cover_42 : decode cX5_cover 42 = .ok (.istore 4, 2) := by decide +kernel
theorem dX5_cover_44 : decode cX5_cover 44 = .ok (.iload 4, 2) := by decide +kernel
theorem dX5_cover_46 : decode cX5_cover 46 = .ok (.ifCond .lt 8, 3) := by decide +kernel
theorem dX5_cover_49 : decode cX5_cover 49 = .ok (.iload_n 3, 1) := by decide +kernel
theorem dX5_cover_50 : decode cX5_cover 50 = .ok (.iconst 1, 1) := by decide +kernel
theorem dX5_cover_51 : decode cX5_cover 51 = .ok (.if_icmp .ne 8, 3) := by decide +kernel
theorem dX5_cover_54 : decode cX5_cover 54 = .ok (.iload 4, 2) := by decide +kernel
theorem dX5_cover_56 : decode cX5_cover 56 = .ok (.goto 8, 3) := by decide +kernel
theorem dX5_cover_59 : decode cX5_cover 59 = .ok (.iload 4, 2) := by decide +kernel
theorem dX5_cover_61 : decode cX5_cover 61 = .ok (.invokestatic 187, 3) := by decide +kernel
theorem dX5_cover_64 : decode cX5_cover 64 = .ok (.ireturn, 1) := by decide +kernel
theorem dX5_low_0 : decode cX5_low 0 = .ok (.iload_n 1, 1) := by decide +kernel
theorem dX5_low_1 : decode cX5_low 1 = .ok (.iconst 1, 1) := by decide +kernel
theorem dX5_low_2 : decode cX5_low 2 = .ok (.bipush 40, 2) := by decide +kernel
theorem dX5_low_4 : decode cX5_low 4 = .ok (.invokestatic 53, 3) := by decide +kernel
theorem dX5_low_7 : decode cX5_low 7 = .ok (.ifCond .ne 5, 3) := by decide +kernel
theorem dX5_low_10 : decode cX5_low 10 = .ok (.iconst (-1), 1) := by decide +kernel
theorem dX5_low_11 : decode cX5_low 11 = .ok (.ireturn, 1) := by decide +kernel
theorem dX5_low_12 : decode cX5_low 12 = .ok (.aload_n 0, 1) := by decide +kernel
theorem dX5_low_13 : decode cX5_low 13 = .ok (.getfield 32, 3) := by decide +kernel
theorem dX5_low_16 : decode cX5_low 16 = .ok (.aload_n 0, 1) := by decide +kernel
theorem dX5_low_17 : decode cX5_low 17 = .ok (.getfield 10, 3) := by decide +kernel
theorem dX5_low_20 : decode cX5_low 20 = .ok (.iload_n 1, 1) := by decide +kernel
theorem dX5_low_21 : decode cX5_low 21 = .ok (.invokevirtual 192, 3) := by decide +kernel
theorem dX5_low_24 : decode cX5_low 24 = .ok (.ireturn, 1) := by decide +kernel
theorem dX5_spare_0 : decode cX5_spare 0 = .ok (.iload_n 1, 1) := by decide +kernel
theorem dX5_spare_1 : decode cX5_spare 1 = .ok (.iconst 1, 1) := by decide +kernel
theorem dX5_spare_2 : decode cX5_spare 2 = .ok (.bipush 40, 2) := by decide +kernel
theorem dX5_spare_4 : decode cX5_spare 4 = .ok (.invokestatic 53, 3) := by decide +kernel
theorem dX5_spare_7 : decode cX5_spare 7 = .ok (.ifCond .eq 12, 3) := by decide +kernel
theorem dX5_spare_10 : decode cX5_spare 10 = .ok (.iload_n 2, 1) := by decide +kernel
theorem dX5_spare_11 : decode cX5_spare 11 = .ok (.iconst 0, 1) := by decide +kernel
theorem dX5_spare_12 : decode cX5_spare 12 = .ok (.iconst 1, 1) := by decide +kernel
theorem dX5_spare_13 : decode cX5_spare 13 = .ok (.invokestatic 53, 3) := by decide +kernel
theorem dX5_spare_16 : decode cX5_spare 16 = .ok (.ifCond .ne 5, 3) := by decide +kernel
theorem dX5_spare_19 : decode cX5_spare 19 = .ok (.iconst (-1), 1) := by decide +kernel
theorem dX5_spare_20 : decode cX5_spare 20 = .ok (.ireturn, 1) := by decide +kernel
theorem dX5_spare_21 : decode cX5_spare 21 = .ok (.aload_n 0, 1) := by decide +kernel
theorem dX5_spare_22 : decode cX5_spare 22 = .ok (.getfield 32, 3) := by decide +kernel
theorem dX5_spare_25 : decode cX5_spare 25 = .ok (.aload_n 0, 1) := by decide +kernel
theorem dX5_spare_26 : decode cX5_spare 26 = .ok (.getfield 10, 3) := by decide +kernel
theorem dX5_spare_29 : decode cX5_spare 29 = .ok (.iload_n 1, 1) := by decide +kernel
theorem dX5_spare_30 : decode cX5_spare 30 = .ok (.invokevirtual 195, 3) := by decide +kernel
theorem dX5_spare_33 : decode cX5_spare 33 = .ok (.istore_n 3, 1) := by decide +kernel
theorem dX5_spare_34 : decode cX5_spare 34 = .ok (.iload_n 3, 1) := by decide +kernel
theorem dX5_spare_35 : decode cX5_spare 35 = .ok (.ifCond .lt 7, 3) := by decide +kernel
theorem dX5_spare_38 : decode cX5_spare 38 = .ok (.iload_n 2, 1) := by decide +kernel
theorem dX5_spare_39 : decode cX5_spare 39 = .ok (.ifCond .ne 7, 3) := by decide +kernel
theorem dX5_spare_42 : decode cX5_spare 42 = .ok (.iload_n 3, 1) := by decide +kernel
theorem dX5_spare_43 : decode cX5_spare 43 = .ok (.goto 16, 3) := by decide +kernel
theorem dX5_spare_46 : decode cX5_spare 46 = .ok (.aload_n 0, 1) := by decide +kernel
theorem dX5_spare_47 : decode cX5_spare 47 = .ok (.getfield 32, 3) := by decide +kernel
theorem dX5_spare_50 : decode cX5_spare 50 = .ok (.aload_n 0, 1) := by decide +kernel
theorem dX5_spare_51 : decode cX5_spare 51 = .ok (.getfield 10, 3) := by decide +kernel
theorem dX5_spare_54 : decode cX5_spare 54 = .ok (.iload_n 3, 1) := by decide +kernel
theorem dX5_spare_55 : decode cX5_spare 55 = .ok (.iload_n 1, 1) := by decide +kernel
theorem dX5_spare_56 : decode cX5_spare 56 = .ok (.invokevirtual 198, 3) := by decide +kernel
theorem dX5_spare_59 : decode cX5_spare 59 = .ok (.ireturn, 1) := by decide +kernel
theorem dX5_match_0 : decode cX5_match 0 = .ok (.aload_n 0, 1) := by decide +kernel
theorem dX5_match_1 : decode cX5_match 1 = .ok (.getfield 10, 3) := by decide +kernel
theorem dX5_match_4 : decode cX5_match 4 = .ok (.invokevirtual 201, 3) := by decide +kernel
theorem dX5_match_7 : decode cX5_match 7 = .ok (.ireturn, 1) := by decide +kernel
theorem dX5_care_0 : decode cX5_care 0 = .ok (.aload_n 0, 1) := by decide +kernel
theorem dX5_care_1 : decode cX5_care 1 = .ok (.iload_n 1, 1) := by decide +kernel
theorem dX5_care_2 : decode cX5_care 2 = .ok (.invokevirtual 78, 3) := by decide +kernel
theorem dX5_care_5 : decode cX5_care 5 = .ok (.ifCond .eq 13, 3) := by decide +kernel
theorem dX5_care_8 : decode cX5_care 8 = .ok (.iload_n 2, 1) := by decide +kernel
theorem dX5_care_9 : decode cX5_care 9 = .ok (.iconst 1, 1) := by decide +kernel
theorem dX5_care_10 : decode cX5_care 10 = .ok (.bipush 40, 2) := by decide +kernel
theorem dX5_care_12 : decode cX5_care 12 = .ok (.invokestatic 53, 3) := by decide +kernel
theorem dX5_care_15 : decode cX5_care 15 = .ok (.ifCond .ne 5, 3) := by decide +kernel
theorem dX5_care_18 : decode cX5_care 18 = .ok (.iconst (-1), 1) := by decide +kernel
theorem dX5_care_19 : decode cX5_care 19 = .ok (.ireturn, 1) := by decide +kernel
theorem dX5_care_20 : decode cX5_care 20 = .ok (.aload_n 0, 1) := by decide +kernel
theorem dX5_care_21 : decode cX5_care 21 = .ok (.getfield 32, 3) := by decide +kernel
theorem dX5_care_24 : decode cX5_care 24 = .ok (.aload_n 0, 1) := by decide +kernel
theorem dX5_care_25 : decode cX5_care 25 = .ok (.getfield 10, 3) := by decide +kernel
theorem dX5_care_28 : decode cX5_care 28 = .ok (.iload_n 1, 1) := by decide +kernel
theorem dX5_care_29 : decode cX5_care 29 = .ok (.iload_n 2, 1) := by decide +kernel
theorem dX5_care_30 : decode cX5_care 30 = .ok (.invokevirtual 204, 3) := by decide +kernel
theorem dX5_care_33 : decode cX5_care 33 = .ok (.ireturn, 1) := by decide +kernel
theorem dX5_leave_0 : decode cX5_leave 0 = .ok (.aload_n 0, 1) := by decide +kernel
theorem dX5_leave_1 : decode cX5_leave 1 = .ok (.iload_n 1, 1) := by decide +kernel
theorem dX5_leave_2 : decode cX5_leave 2 = .ok (.invokevirtual 78, 3) := by decide +kernel
theorem dX5_leave_5 : decode cX5_leave 5 = .ok (.ifCond .eq 22, 3) := by decide +kernel
theorem dX5_leave_8 : decode cX5_leave 8 = .ok (.iload_n 2, 1) := by decide +kernel
theorem dX5_leave_9 : decode cX5_leave 9 = .ok (.iconst 0, 1) := by decide +kernel
theorem dX5_leave_10 : decode cX5_leave 10 = .ok (.bipush 10, 2) := by decide +kernel
theorem dX5_leave_12 : decode cX5_leave 12 = .ok (.invokestatic 53, 3) := by decide +kernel
theorem dX5_leave_15 : decode cX5_leave 15 = .ok (.ifCond .eq 12, 3) := by decide +kernel
theorem dX5_leave_18 : decode cX5_leave 18 = .ok (.iload_n 3, 1) := by decide +kernel
theorem dX5_leave_19 : decode cX5_leave 19 = .ok (.iconst 0, 1) := by decide +kernel
theorem dX5_leave_20 : decode cX5_leave 20 = .ok (.iconst 1, 1) := by decide +kernel
theorem dX5_leave_21 : decode cX5_leave 21 = .ok (.invokestatic 53, 3) := by decide +kernel
theorem dX5_leave_24 : decode cX5_leave 24 = .ok (.ifCond .ne 5, 3) := by decide +kernel
theorem dX5_leave_27 : decode cX5_leave 27 = .ok (.iconst (-1), 1) := by decide +kernel
theorem dX5_leave_28 : decode cX5_leave 28 = .ok (.ireturn, 1) := by decide +kernel
theorem dX5_leave_29 : decode cX5_leave 29 = .ok (.aload_n 0, 1) := by decide +kernel
theorem dX5_leave_30 : decode cX5_leave 30 = .ok (.getfield 10, 3) := by decide +kernel
theorem dX5_leave_33 : decode cX5_leave 33 = .ok (.iload_n 1, 1) := by decide +kernel
theorem dX5_leave_34 : decode cX5_leave 34 = .ok (.iload_n 2, 1) := by decide +kernel
theorem dX5_leave_35 : decode cX5_leave 35 = .ok (.invokevirtual 207, 3) := by decide +kernel
theorem dX5_leave_38 : decode cX5_leave 38 = .ok (.istore 4, 2) := by decide +kernel
theorem dX5_leave_40 : decode cX5_leave 40 = .ok (.bipush 10, 2) := by decide +kernel
theorem dX5_leave_42 : decode cX5_leave 42 = .ok (.aload_n 0, 1) := by decide +kernel
theorem dX5_leave_43 : decode cX5_leave 43 = .ok (.getfield 10, 3) := by decide +kernel
theorem dX5_leave_46 : decode cX5_leave 46 = .ok (.getfield 68, 3) := by decide +kernel
theorem dX5_leave_49 : decode cX5_leave 49 = .ok (.invokestatic 210, 3) := by decide +kernel
theorem dX5_leave_52 : decode cX5_leave 52 = .ok (.istore 5, 2) := by decide +kernel
theorem dX5_leave_54 : decode cX5_leave 54 = .ok (.iconst 0, 1) := by decide +kernel
theorem dX5_leave_55 : decode cX5_leave 55 = .ok (.istore 6, 2) := by decide +kernel
theorem dX5_leave_57 : decode cX5_leave 57 = .ok (.iload 6, 2) := by decide +kernel
theorem dX5_leave_59 : decode cX5_leave 59 = .ok (.iconst 4, 1) := by decide +kernel
theorem dX5_leave_60 : decode cX5_leave 60 = .ok (.if_icmp .ge 61, 3) := by decide +kernel
theorem dX5_leave_63 : decode cX5_leave 63 = .ok (.iload 4, 2) := by decide +kernel
theorem dX5_leave_65 : decode cX5_leave 65 = .ok (.iconst 2, 1) := by decide +kernel
theorem dX5_leave_66 : decode cX5_leave 66 = .ok (.irem, 1) := by decide +kernel
theorem dX5_leave_67 : decode cX5_leave 67 = .ok (.ifCond .ne 22, 3) := by decide +kernel
theorem dX5_leave_70 : decode cX5_leave 70 = .ok (.iload 5, 2) := by decide +kernel
theorem dX5_leave_72 : decode cX5_leave 72 = .ok (.iconst 2, 1) := by decide +kernel
theorem dX5_leave_73 : decode cX5_leave 73 = .ok (.irem, 1) := by decide +kernel
theorem dX5_leave_74 : decode cX5_leave 74 = .ok (.ifCond .ne 15, 3) := by decide +kernel
theorem dX5_leave_77 : decode cX5_leave 77 = .ok (.iload 4, 2) := by decide +kernel
theorem dX5_leave_79 : decode cX5_leave 79 = .ok (.iconst 2, 1) := by decide +kernel
theorem dX5_leave_80 : decode cX5_leave 80 = .ok (.idiv, 1) := by decide +kernel
theorem dX5_leave_81 : decode cX5_leave 81 = .ok (.istore 4, 2) := by decide +kernel
theorem dX5_leave_83 : decode cX5_leave 83 = .ok (.iload 5, 2) := by decide +kernel
theorem dX5_leave_85 : decode cX5_leave 85 = .ok (.iconst 2, 1) := by decide +kernel
theorem dX5_leave_86 : decode cX5_leave 86 = .ok (.idiv, 1) := by decide +kernel
theorem dX5_leave_87 : decode cX5_leave 87 = .ok (.istore 5, 2) := by decide +kernel
theorem dX5_leave_89 : decode cX5_leave 89 = .ok (.iload 4, 2) := by decide +kernel
theorem dX5_leave_91 : decode cX5_leave 91 = .ok (.iconst 5, 1) := by decide +kernel
theorem dX5_leave_92 : decode cX5_leave 92 = .ok (.irem, 1) := by decide +kernel
theorem dX5_leave_93 : decode cX5_leave 93 = .ok (.ifCond .ne 22, 3) := by decide +kernel
theorem dX5_leave_96 : decode cX5_leave 96 = .ok (.iload 5, 2) := by decide +kernel
theorem dX5_leave_98 : decode cX5_leave 98 = .ok (.iconst 5, 1) := by decide +kernel
theorem dX5_leave_99 : decode cX5_leave 99 = .ok (.irem, 1) := by decide +kernel
theorem dX5_leave_100 : decode cX5_leave 100 = .ok (.ifCond .ne 15, 3) := by decide +kernel
theorem dX5_leave_103 : decode cX5_leave 103 = .ok (.iload 4, 2) := by decide +kernel
theorem dX5_leave_105 : decode cX5_leave 105 = .ok (.iconst 5, 1) := by decide +kernel
end
section
theorem dX5_leave_106 : decode cX5_leave 106 = .ok (.idiv, 1) := by decide +kernel
theorem dX5_leave_107 : decode cX5_leave 107 = .ok (.istore 4, 2) := by decide +kernel
theorem dX5_leave_109 : decode cX5_leave 109 = .ok (.iload 5, 2) := by decide +kernel
theorem dX5_leave_111 : decode cX5_leave 111 = .ok (.iconst 5, 1) := by decide +kernel
theorem dX5_leave_112 : decode cX5_leave 112 = .ok (.idiv, 1) := by decide +kernel
theorem dX5_leave_113 : decode cX5_leave 113 = .ok (.istore 5, 2) := by decide +kernel
theorem dX5_leave_115 : decode cX5_leave 115 = .ok (.iinc 6 1, 3) := by decide +kernel
theorem dX5_leave_118 : decode cX5_leave 118 = .ok (.goto (-61), 3) := by decide +kernel
theorem dX5_leave_121 : decode cX5_leave 121 = .ok (.iload_n 3, 1) := by decide +kernel
theorem dX5_leave_122 : decode cX5_leave 122 = .ok (.ifCond .ne 8, 3) := by decide +kernel
theorem dX5_leave_125 : decode cX5_leave 125 = .ok (.iload 4, 2) := by decide +kernel
theorem dX5_leave_127 : decode cX5_leave 127 = .ok (.goto 5, 3) := by decide +kernel
theorem dX5_leave_130 : decode cX5_leave 130 = .ok (.iload 5, 2) := by decide +kernel
theorem dX5_leave_132 : decode cX5_leave 132 = .ok (.ireturn, 1) := by decide +kernel
theorem dX5_image_0 : decode cX5_image 0 = .ok (.aload_n 0, 1) := by decide +kernel
theorem dX5_image_1 : decode cX5_image 1 = .ok (.getfield 23, 3) := by decide +kernel
theorem dX5_image_4 : decode cX5_image 4 = .ok (.aload_n 0, 1) := by decide +kernel
theorem dX5_image_5 : decode cX5_image 5 = .ok (.getfield 10, 3) := by decide +kernel
theorem dX5_image_8 : decode cX5_image 8 = .ok (.invokevirtual 140, 3) := by decide +kernel
theorem dX5_image_11 : decode cX5_image 11 = .ok (.aload_n 0, 1) := by decide +kernel
theorem dX5_image_12 : decode cX5_image 12 = .ok (.getfield 26, 3) := by decide +kernel
theorem dX5_image_15 : decode cX5_image 15 = .ok (.aload_n 0, 1) := by decide +kernel
theorem dX5_image_16 : decode cX5_image 16 = .ok (.getfield 19, 3) := by decide +kernel
theorem dX5_image_19 : decode cX5_image 19 = .ok (.invokevirtual 213, 3) := by decide +kernel
theorem dX5_image_22 : decode cX5_image 22 = .ok (.aload_n 0, 1) := by decide +kernel
theorem dX5_image_23 : decode cX5_image 23 = .ok (.iconst 1, 1) := by decide +kernel
theorem dX5_image_24 : decode cX5_image 24 = .ok (.putfield 216, 3) := by decide +kernel
theorem dX5_image_27 : decode cX5_image 27 = .ok (.iconst 1, 1) := by decide +kernel
theorem dX5_image_28 : decode cX5_image 28 = .ok (.ireturn, 1) := by decide +kernel
theorem dX5_restore_0 : decode cX5_restore 0 = .ok (.aload_n 0, 1) := by decide +kernel
theorem dX5_restore_1 : decode cX5_restore 1 = .ok (.getfield 216, 3) := by decide +kernel
theorem dX5_restore_4 : decode cX5_restore 4 = .ok (.ifCond .ne 6, 3) := by decide +kernel
theorem dX5_restore_7 : decode cX5_restore 7 = .ok (.bipush (-4), 2) := by decide +kernel
theorem dX5_restore_9 : decode cX5_restore 9 = .ok (.ireturn, 1) := by decide +kernel
theorem dX5_restore_10 : decode cX5_restore 10 = .ok (.aload_n 0, 1) := by decide +kernel
theorem dX5_restore_11 : decode cX5_restore 11 = .ok (.getfield 10, 3) := by decide +kernel
theorem dX5_restore_14 : decode cX5_restore 14 = .ok (.aload_n 0, 1) := by decide +kernel
theorem dX5_restore_15 : decode cX5_restore 15 = .ok (.getfield 23, 3) := by decide +kernel
theorem dX5_restore_18 : decode cX5_restore 18 = .ok (.invokevirtual 140, 3) := by decide +kernel
theorem dX5_restore_21 : decode cX5_restore 21 = .ok (.aload_n 0, 1) := by decide +kernel
theorem dX5_restore_22 : decode cX5_restore 22 = .ok (.getfield 19, 3) := by decide +kernel
theorem dX5_restore_25 : decode cX5_restore 25 = .ok (.aload_n 0, 1) := by decide +kernel
theorem dX5_restore_26 : decode cX5_restore 26 = .ok (.getfield 26, 3) := by decide +kernel
theorem dX5_restore_29 : decode cX5_restore 29 = .ok (.invokevirtual 213, 3) := by decide +kernel
theorem dX5_restore_32 : decode cX5_restore 32 = .ok (.iconst 1, 1) := by decide +kernel
theorem dX5_restore_33 : decode cX5_restore 33 = .ok (.ireturn, 1) := by decide +kernel
theorem dX5_grown_0 : decode cX5_grown 0 = .ok (.aload_n 0, 1) := by decide +kernel
theorem dX5_grown_1 : decode cX5_grown 1 = .ok (.iload_n 1, 1) := by decide +kernel
theorem dX5_grown_2 : decode cX5_grown 2 = .ok (.invokevirtual 78, 3) := by decide +kernel
theorem dX5_grown_5 : decode cX5_grown 5 = .ok (.ifCond .eq 17, 3) := by decide +kernel
theorem dX5_grown_8 : decode cX5_grown 8 = .ok (.iload_n 2, 1) := by decide +kernel
theorem dX5_grown_9 : decode cX5_grown 9 = .ok (.invokestatic 220, 3) := by decide +kernel
theorem dX5_grown_12 : decode cX5_grown 12 = .ok (.ifCond .eq 10, 3) := by decide +kernel
theorem dX5_grown_15 : decode cX5_grown 15 = .ok (.iload_n 3, 1) := by decide +kernel
theorem dX5_grown_16 : decode cX5_grown 16 = .ok (.invokestatic 223, 3) := by decide +kernel
theorem dX5_grown_19 : decode cX5_grown 19 = .ok (.ifCond .ne 5, 3) := by decide +kernel
theorem dX5_grown_22 : decode cX5_grown 22 = .ok (.iconst (-1), 1) := by decide +kernel
theorem dX5_grown_23 : decode cX5_grown 23 = .ok (.ireturn, 1) := by decide +kernel
theorem dX5_grown_24 : decode cX5_grown 24 = .ok (.iload 5, 2) := by decide +kernel
theorem dX5_grown_26 : decode cX5_grown 26 = .ok (.iconst 1, 1) := by decide +kernel
theorem dX5_grown_27 : decode cX5_grown 27 = .ok (.bipush 8, 2) := by decide +kernel
theorem dX5_grown_29 : decode cX5_grown 29 = .ok (.invokestatic 53, 3) := by decide +kernel
theorem dX5_grown_32 : decode cX5_grown 32 = .ok (.ifCond .eq 13, 3) := by decide +kernel
theorem dX5_grown_35 : decode cX5_grown 35 = .ok (.iload 6, 2) := by decide +kernel
theorem dX5_grown_37 : decode cX5_grown 37 = .ok (.iconst 0, 1) := by decide +kernel
theorem dX5_grown_38 : decode cX5_grown 38 = .ok (.iconst 2, 1) := by decide +kernel
theorem dX5_grown_39 : decode cX5_grown 39 = .ok (.invokestatic 53, 3) := by decide +kernel
theorem dX5_grown_42 : decode cX5_grown 42 = .ok (.ifCond .ne 5, 3) := by decide +kernel
theorem dX5_grown_45 : decode cX5_grown 45 = .ok (.iconst (-1), 1) := by decide +kernel
theorem dX5_grown_46 : decode cX5_grown 46 = .ok (.ireturn, 1) := by decide +kernel
theorem dX5_grown_47 : decode cX5_grown 47 = .ok (.aload_n 0, 1) := by decide +kernel
theorem dX5_grown_48 : decode cX5_grown 48 = .ok (.getfield 48, 3) := by decide +kernel
theorem dX5_grown_51 : decode cX5_grown 51 = .ok (.iload_n 2, 1) := by decide +kernel
theorem dX5_grown_52 : decode cX5_grown 52 = .ok (.aaload, 1) := by decide +kernel
theorem dX5_grown_53 : decode cX5_grown 53 = .ok (.astore 7, 2) := by decide +kernel
theorem dX5_grown_55 : decode cX5_grown 55 = .ok (.aload 7, 2) := by decide +kernel
theorem dX5_grown_57 : decode cX5_grown 57 = .ok (.iload_n 3, 1) := by decide +kernel
theorem dX5_grown_58 : decode cX5_grown 58 = .ok (.iload 4, 2) := by decide +kernel
theorem dX5_grown_60 : decode cX5_grown 60 = .ok (.iload 5, 2) := by decide +kernel
theorem dX5_grown_62 : decode cX5_grown 62 = .ok (.invokevirtual 226, 3) := by decide +kernel
theorem dX5_grown_65 : decode cX5_grown 65 = .ok (.istore 8, 2) := by decide +kernel
theorem dX5_grown_67 : decode cX5_grown 67 = .ok (.iload 8, 2) := by decide +kernel
theorem dX5_grown_69 : decode cX5_grown 69 = .ok (.ifCond .ge 6, 3) := by decide +kernel
theorem dX5_grown_72 : decode cX5_grown 72 = .ok (.iload 8, 2) := by decide +kernel
theorem dX5_grown_74 : decode cX5_grown 74 = .ok (.ireturn, 1) := by decide +kernel
theorem dX5_grown_75 : decode cX5_grown 75 = .ok (.iload 6, 2) := by decide +kernel
theorem dX5_grown_77 : decode cX5_grown 77 = .ok (.ifCond .ne 22, 3) := by decide +kernel
theorem dX5_grown_80 : decode cX5_grown 80 = .ok (.aload_n 0, 1) := by decide +kernel
theorem dX5_grown_81 : decode cX5_grown 81 = .ok (.getfield 32, 3) := by decide +kernel
theorem dX5_grown_84 : decode cX5_grown 84 = .ok (.aload_n 0, 1) := by decide +kernel
theorem dX5_grown_85 : decode cX5_grown 85 = .ok (.getfield 10, 3) := by decide +kernel
theorem dX5_grown_88 : decode cX5_grown 88 = .ok (.iload_n 1, 1) := by decide +kernel
theorem dX5_grown_89 : decode cX5_grown 89 = .ok (.aload 7, 2) := by decide +kernel
theorem dX5_grown_91 : decode cX5_grown 91 = .ok (.iload 4, 2) := by decide +kernel
theorem dX5_grown_93 : decode cX5_grown 93 = .ok (.iload 5, 2) := by decide +kernel
theorem dX5_grown_95 : decode cX5_grown 95 = .ok (.invokevirtual 229, 3) := by decide +kernel
theorem dX5_grown_98 : decode cX5_grown 98 = .ok (.ireturn, 1) := by decide +kernel
theorem dX5_grown_99 : decode cX5_grown 99 = .ok (.aload_n 0, 1) := by decide +kernel
theorem dX5_grown_100 : decode cX5_grown 100 = .ok (.getfield 32, 3) := by decide +kernel
theorem dX5_grown_103 : decode cX5_grown 103 = .ok (.aload_n 0, 1) := by decide +kernel
theorem dX5_grown_104 : decode cX5_grown 104 = .ok (.getfield 10, 3) := by decide +kernel
theorem dX5_grown_107 : decode cX5_grown 107 = .ok (.iload_n 1, 1) := by decide +kernel
theorem dX5_grown_108 : decode cX5_grown 108 = .ok (.aload 7, 2) := by decide +kernel
theorem dX5_grown_110 : decode cX5_grown 110 = .ok (.iload 4, 2) := by decide +kernel
theorem dX5_grown_112 : decode cX5_grown 112 = .ok (.iload 5, 2) := by decide +kernel
theorem dX5_grown_114 : decode cX5_grown 114 = .ok (.iload 6, 2) := by decide +kernel
theorem dX5_grown_116 : decode cX5_grown 116 = .ok (.iconst 2, 1) := by decide +kernel
theorem dX5_grown_117 : decode cX5_grown 117 = .ok (.if_icmp .ne 7, 3) := by decide +kernel
theorem dX5_grown_120 : decode cX5_grown 120 = .ok (.iconst 1, 1) := by decide +kernel
theorem dX5_grown_121 : decode cX5_grown 121 = .ok (.goto 4, 3) := by decide +kernel
theorem dX5_grown_124 : decode cX5_grown 124 = .ok (.iconst 0, 1) := by decide +kernel
theorem dX5_grown_125 : decode cX5_grown 125 = .ok (.invokevirtual 233, 3) := by decide +kernel
theorem dX5_grown_128 : decode cX5_grown 128 = .ok (.ireturn, 1) := by decide +kernel
theorem dX5_film_0 : decode cX5_film 0 = .ok (.aload_n 0, 1) := by decide +kernel
theorem dX5_film_1 : decode cX5_film 1 = .ok (.iload_n 1, 1) := by decide +kernel
theorem dX5_film_2 : decode cX5_film 2 = .ok (.invokevirtual 78, 3) := by decide +kernel
theorem dX5_film_5 : decode cX5_film 5 = .ok (.ifCond .eq 28, 3) := by decide +kernel
theorem dX5_film_8 : decode cX5_film 8 = .ok (.iload_n 2, 1) := by decide +kernel
theorem dX5_film_9 : decode cX5_film 9 = .ok (.iconst 1, 1) := by decide +kernel
theorem dX5_film_10 : decode cX5_film 10 = .ok (.bipush 24, 2) := by decide +kernel
theorem dX5_film_12 : decode cX5_film 12 = .ok (.invokestatic 53, 3) := by decide +kernel
theorem dX5_film_15 : decode cX5_film 15 = .ok (.ifCond .eq 18, 3) := by decide +kernel
theorem dX5_film_18 : decode cX5_film 18 = .ok (.iload_n 3, 1) := by decide +kernel
theorem dX5_film_19 : decode cX5_film 19 = .ok (.invokestatic 220, 3) := by decide +kernel
theorem dX5_film_22 : decode cX5_film 22 = .ok (.ifCond .eq 11, 3) := by decide +kernel
theorem dX5_film_25 : decode cX5_film 25 = .ok (.iload 4, 2) := by decide +kernel
theorem dX5_film_27 : decode cX5_film 27 = .ok (.invokestatic 223, 3) := by decide +kernel
theorem dX5_film_30 : decode cX5_film 30 = .ok (.ifCond .ne 5, 3) := by decide +kernel
theorem dX5_film_33 : decode cX5_film 33 = .ok (.iconst (-1), 1) := by decide +kernel
theorem dX5_film_34 : decode cX5_film 34 = .ok (.ireturn, 1) := by decide +kernel
theorem dX5_film_35 : decode cX5_film 35 = .ok (.aload_n 0, 1) := by decide +kernel
theorem dX5_film_36 : decode cX5_film 36 = .ok (.getfield 48, 3) := by decide +kernel
theorem dX5_film_39 : decode cX5_film 39 = .ok (.iload_n 3, 1) := by decide +kernel
theorem dX5_film_40 : decode cX5_film 40 = .ok (.aaload, 1) := by decide +kernel
theorem dX5_film_41 : decode cX5_film 41 = .ok (.astore 6, 2) := by decide +kernel
theorem dX5_film_43 : decode cX5_film 43 = .ok (.aload 6, 2) := by decide +kernel
theorem dX5_film_45 : decode cX5_film 45 = .ok (.iload 4, 2) := by decide +kernel
theorem dX5_film_47 : decode cX5_film 47 = .ok (.iload 5, 2) := by decide +kernel
theorem dX5_film_49 : decode cX5_film 49 = .ok (.iload_n 2, 1) := by decide +kernel
theorem dX5_film_50 : decode cX5_film 50 = .ok (.invokevirtual 226, 3) := by decide +kernel
theorem dX5_film_53 : decode cX5_film 53 = .ok (.istore 7, 2) := by decide +kernel
theorem dX5_film_55 : decode cX5_film 55 = .ok (.iload 7, 2) := by decide +kernel
theorem dX5_film_57 : decode cX5_film 57 = .ok (.ifCond .ge 6, 3) := by decide +kernel
theorem dX5_film_60 : decode cX5_film 60 = .ok (.iload 7, 2) := by decide +kernel
theorem dX5_film_62 : decode cX5_film 62 = .ok (.ireturn, 1) := by decide +kernel
theorem dX5_film_63 : decode cX5_film 63 = .ok (.aload_n 0, 1) := by decide +kernel
theorem dX5_film_64 : decode cX5_film 64 = .ok (.getfield 32, 3) := by decide +kernel
theorem dX5_film_67 : decode cX5_film 67 = .ok (.aload_n 0, 1) := by decide +kernel
theorem dX5_film_68 : decode cX5_film 68 = .ok (.getfield 10, 3) := by decide +kernel
theorem dX5_film_71 : decode cX5_film 71 = .ok (.iload_n 1, 1) := by decide +kernel
theorem dX5_film_72 : decode cX5_film 72 = .ok (.aload 6, 2) := by decide +kernel
theorem dX5_film_74 : decode cX5_film 74 = .ok (.iload 5, 2) := by decide +kernel
theorem dX5_film_76 : decode cX5_film 76 = .ok (.iload_n 2, 1) := by decide +kernel
theorem dX5_film_77 : decode cX5_film 77 = .ok (.invokevirtual 237, 3) := by decide +kernel
theorem dX5_film_80 : decode cX5_film 80 = .ok (.iload_n 2, 1) := by decide +kernel
theorem dX5_film_81 : decode cX5_film 81 = .ok (.ireturn, 1) := by decide +kernel
theorem dX5_sheet_0 : decode cX5_sheet 0 = .ok (.iload_n 1, 1) := by decide +kernel
theorem dX5_sheet_1 : decode cX5_sheet 1 = .ok (.invokestatic 220, 3) := by decide +kernel
theorem dX5_sheet_4 : decode cX5_sheet 4 = .ok (.ifCond .eq 16, 3) := by decide +kernel
theorem dX5_sheet_7 : decode cX5_sheet 7 = .ok (.iload_n 2, 1) := by decide +kernel
theorem dX5_sheet_8 : decode cX5_sheet 8 = .ok (.invokestatic 223, 3) := by decide +kernel
theorem dX5_sheet_11 : decode cX5_sheet 11 = .ok (.ifCond .eq 9, 3) := by decide +kernel
theorem dX5_sheet_14 : decode cX5_sheet 14 = .ok (.iload_n 3, 1) := by decide +kernel
theorem dX5_sheet_15 : decode cX5_sheet 15 = .ok (.bipush 24, 2) := by decide +kernel
theorem dX5_sheet_17 : decode cX5_sheet 17 = .ok (.if_icmp .le 5, 3) := by decide +kernel
theorem dX5_sheet_20 : decode cX5_sheet 20 = .ok (.iconst (-1), 1) := by decide +kernel
theorem dX5_sheet_21 : decode cX5_sheet 21 = .ok (.ireturn, 1) := by decide +kernel
theorem dX5_sheet_22 : decode cX5_sheet 22 = .ok (.iload_n 3, 1) := by decide +kernel
theorem dX5_sheet_23 : decode cX5_sheet 23 = .ok (.ifCond .ge 6, 3) := by decide +kernel
theorem dX5_sheet_26 : decode cX5_sheet 26 = .ok (.bipush (-14), 2) := by decide +kernel
theorem dX5_sheet_28 : decode cX5_sheet 28 = .ok (.ireturn, 1) := by decide +kernel
theorem dX5_sheet_29 : decode cX5_sheet 29 = .ok (.aload_n 0, 1) := by decide +kernel
theorem dX5_sheet_30 : decode cX5_sheet 30 = .ok (.getfield 48, 3) := by decide +kernel
theorem dX5_sheet_33 : decode cX5_sheet 33 = .ok (.iload_n 1, 1) := by decide +kernel
theorem dX5_sheet_34 : decode cX5_sheet 34 = .ok (.aaload, 1) := by decide +kernel
theorem dX5_sheet_35 : decode cX5_sheet 35 = .ok (.iload_n 2, 1) := by decide +kernel
theorem dX5_sheet_36 : decode cX5_sheet 36 = .ok (.iload_n 3, 1) := by decide +kernel
theorem dX5_sheet_37 : decode cX5_sheet 37 = .ok (.invokevirtual 241, 3) := by decide +kernel
theorem dX5_sheet_40 : decode cX5_sheet 40 = .ok (.iload_n 3, 1) := by decide +kernel
theorem dX5_sheet_41 : decode cX5_sheet 41 = .ok (.ireturn, 1) := by decide +kernel
theorem dX5_drop_0 : decode cX5_drop 0 = .ok (.iload_n 1, 1) := by decide +kernel
theorem dX5_drop_1 : decode cX5_drop 1 = .ok (.invokestatic 220, 3) := by decide +kernel
theorem dX5_drop_4 : decode cX5_drop 4 = .ok (.ifCond .ne 5, 3) := by decide +kernel
theorem dX5_drop_7 : decode cX5_drop 7 = .ok (.iconst (-1), 1) := by decide +kernel
theorem dX5_drop_8 : decode cX5_drop 8 = .ok (.ireturn, 1) := by decide +kernel
theorem dX5_drop_9 : decode cX5_drop 9 = .ok (.aload_n 0, 1) := by decide +kernel
theorem dX5_drop_10 : decode cX5_drop 10 = .ok (.getfield 48, 3) := by decide +kernel
theorem dX5_drop_13 : decode cX5_drop 13 = .ok (.iload_n 1, 1) := by decide +kernel
theorem dX5_drop_14 : decode cX5_drop 14 = .ok (.aaload, 1) := by decide +kernel
theorem dX5_drop_15 : decode cX5_drop 15 = .ok (.astore_n 2, 1) := by decide +kernel
theorem dX5_drop_16 : decode cX5_drop 16 = .ok (.aload_n 2, 1) := by decide +kernel
theorem dX5_drop_17 : decode cX5_drop 17 = .ok (.getfield 245, 3) := by decide +kernel
theorem dX5_drop_20 : decode cX5_drop 20 = .ok (.iconst (-1), 1) := by decide +kernel
theorem dX5_drop_21 : decode cX5_drop 21 = .ok (.if_icmp .ne 6, 3) := by decide +kernel
theorem dX5_drop_24 : decode cX5_drop 24 = .ok (.bipush (-11), 2) := by decide +kernel
theorem dX5_drop_26 : decode cX5_drop 26 = .ok (.ireturn, 1) := by decide +kernel
theorem dX5_drop_27 : decode cX5_drop 27 = .ok (.aload_n 2, 1) := by decide +kernel
theorem dX5_drop_28 : decode cX5_drop 28 = .ok (.getfield 248, 3) := by decide +kernel
theorem dX5_drop_31 : decode cX5_drop 31 = .ok (.istore_n 3, 1) := by decide +kernel
theorem dX5_drop_32 : decode cX5_drop 32 = .ok (.aload_n 2, 1) := by decide +kernel
theorem dX5_drop_33 : decode cX5_drop 33 = .ok (.invokevirtual 249, 3) := by decide +kernel
theorem dX5_drop_36 : decode cX5_drop 36 = .ok (.iload_n 3, 1) := by decide +kernel
theorem dX5_drop_37 : decode cX5_drop 37 = .ok (.ireturn, 1) := by decide +kernel
theorem dX5_item_0 : decode cX5_item 0 = .ok (.iload_n 1, 1) := by decide +kernel
theorem dX5_item_1 : decode cX5_item 1 = .ok (.invokestatic 220, 3) := by decide +kernel
theorem dX5_item_4 : decode cX5_item 4 = .ok (.ifCond .eq 10, 3) := by decide +kernel
theorem dX5_item_7 : decode cX5_item 7 = .ok (.iload_n 2, 1) := by decide +kernel
theorem dX5_item_8 : decode cX5_item 8 = .ok (.invokestatic 223, 3) := by decide +kernel
theorem dX5_item_11 : decode cX5_item 11 = .ok (.ifCond .ne 5, 3) := by decide +kernel
theorem dX5_item_14 : decode cX5_item 14 = .ok (.iconst (-1), 1) := by decide +kernel
theorem dX5_item_15 : decode cX5_item 15 = .ok (.ireturn, 1) := by decide +kernel
theorem dX5_item_16 : decode cX5_item 16 = .ok (.aload_n 0, 1) := by decide +kernel
theorem dX5_item_17 : decode cX5_item 17 = .ok (.getfield 48, 3) := by decide +kernel
theorem dX5_item_20 : decode cX5_item 20 = .ok (.iload_n 1, 1) := by decide +kernel
theorem dX5_item_21 : decode cX5_item 21 = .ok (.aaload, 1) := by decide +kernel
theorem dX5_item_22 : decode cX5_item 22 = .ok (.astore 6, 2) := by decide +kernel
theorem dX5_item_24 : decode cX5_item 24 = .ok (.aload 6, 2) := by decide +kernel
theorem dX5_item_26 : decode cX5_item 26 = .ok (.iload_n 2, 1) := by decide +kernel
theorem dX5_item_27 : decode cX5_item 27 = .ok (.iload_n 3, 1) := by decide +kernel
theorem dX5_item_28 : decode cX5_item 28 = .ok (.iconst 1, 1) := by decide +kernel
theorem dX5_item_29 : decode cX5_item 29 = .ok (.invokevirtual 226, 3) := by decide +kernel
theorem dX5_item_32 : decode cX5_item 32 = .ok (.istore 7, 2) := by decide +kernel
theorem dX5_item_34 : decode cX5_item 34 = .ok (.iload 7, 2) := by decide +kernel
theorem dX5_item_36 : decode cX5_item 36 = .ok (.ifCond .ge 6, 3) := by decide +kernel
theorem dX5_item_39 : decode cX5_item 39 = .ok (.iload 7, 2) := by decide +kernel
theorem dX5_item_41 : decode cX5_item 41 = .ok (.ireturn, 1) := by decide +kernel
theorem dX5_item_42 : decode cX5_item 42 = .ok (.aload 6, 2) := by decide +kernel
theorem dX5_item_44 : decode cX5_item 44 = .ok (.iload_n 3, 1) := by decide +kernel
theorem dX5_item_45 : decode cX5_item 45 = .ok (.lload 4, 2) := by decide +kernel
theorem dX5_item_47 : decode cX5_item 47 = .ok (.invokevirtual 252, 3) := by decide +kernel
theorem dX5_item_50 : decode cX5_item 50 = .ok (.iconst 1, 1) := by decide +kernel
theorem dX5_item_51 : decode cX5_item 51 = .ok (.ireturn, 1) := by decide +kernel
theorem dX5_copy_0 : decode cX5_copy 0 = .ok (.iload_n 1, 1) := by decide +kernel
theorem dX5_copy_1 : decode cX5_copy 1 = .ok (.invokestatic 220, 3) := by decide +kernel
theorem dX5_copy_4 : decode cX5_copy 4 = .ok (.ifCond .eq 10, 3) := by decide +kernel
theorem dX5_copy_7 : decode cX5_copy 7 = .ok (.iload_n 3, 1) := by decide +kernel
theorem dX5_copy_8 : decode cX5_copy 8 = .ok (.invokestatic 220, 3) := by decide +kernel
theorem dX5_copy_11 : decode cX5_copy 11 = .ok (.ifCond .ne 5, 3) := by decide +kernel
theorem dX5_copy_14 : decode cX5_copy 14 = .ok (.iconst (-1), 1) := by decide +kernel
theorem dX5_copy_15 : decode cX5_copy 15 = .ok (.ireturn, 1) := by decide +kernel
theorem dX5_copy_16 : decode cX5_copy 16 = .ok (.aload_n 0, 1) := by decide +kernel
theorem dX5_copy_17 : decode cX5_copy 17 = .ok (.getfield 48, 3) := by decide +kernel
theorem dX5_copy_20 : decode cX5_copy 20 = .ok (.iload_n 1, 1) := by decide +kernel
theorem dX5_copy_21 : decode cX5_copy 21 = .ok (.aaload, 1) := by decide +kernel
theorem dX5_copy_22 : decode cX5_copy 22 = .ok (.astore 6, 2) := by decide +kernel
theorem dX5_copy_24 : decode cX5_copy 24 = .ok (.aload_n 0, 1) := by decide +kernel
theorem dX5_copy_25 : decode cX5_copy 25 = .ok (.getfield 48, 3) := by decide +kernel
theorem dX5_copy_28 : decode cX5_copy 28 = .ok (.iload_n 3, 1) := by decide +kernel
theorem dX5_copy_29 : decode cX5_copy 29 = .ok (.aaload, 1) := by decide +kernel
theorem dX5_copy_30 : decode cX5_copy 30 = .ok (.astore 7, 2) := by decide +kernel
theorem dX5_copy_32 : decode cX5_copy 32 = .ok (.aload 6, 2) := by decide +kernel
theorem dX5_copy_34 : decode cX5_copy 34 = .ok (.getfield 245, 3) := by decide +kernel
theorem dX5_copy_37 : decode cX5_copy 37 = .ok (.iconst (-1), 1) := by decide +kernel
theorem dX5_copy_38 : decode cX5_copy 38 = .ok (.if_icmp .eq 12, 3) := by decide +kernel
theorem dX5_copy_41 : decode cX5_copy 41 = .ok (.aload 7, 2) := by decide +kernel
theorem dX5_copy_43 : decode cX5_copy 43 = .ok (.getfield 245, 3) := by decide +kernel
theorem dX5_copy_46 : decode cX5_copy 46 = .ok (.iconst (-1), 1) := by decide +kernel
theorem dX5_copy_47 : decode cX5_copy 47 = .ok (.if_icmp .ne 6, 3) := by decide +kernel
theorem dX5_copy_50 : decode cX5_copy 50 = .ok (.bipush (-11), 2) := by decide +kernel
theorem dX5_copy_52 : decode cX5_copy 52 = .ok (.ireturn, 1) := by decide +kernel
theorem dX5_copy_53 : decode cX5_copy 53 = .ok (.aload 6, 2) := by decide +kernel
theorem dX5_copy_55 : decode cX5_copy 55 = .ok (.getfield 245, 3) := by decide +kernel
theorem dX5_copy_58 : decode cX5_copy 58 = .ok (.aload 7, 2) := by decide +kernel
theorem dX5_copy_60 : decode cX5_copy 60 = .ok (.getfield 245, 3) := by decide +kernel
theorem dX5_copy_63 : decode cX5_copy 63 = .ok (.if_icmp .eq 6, 3) := by decide +kernel
theorem dX5_copy_66 : decode cX5_copy 66 = .ok (.bipush (-12), 2) := by decide +kernel
theorem dX5_copy_68 : decode cX5_copy 68 = .ok (.ireturn, 1) := by decide +kernel
theorem dX5_copy_69 : decode cX5_copy 69 = .ok (.aload 6, 2) := by decide +kernel
theorem dX5_copy_71 : decode cX5_copy 71 = .ok (.iload_n 2, 1) := by decide +kernel
theorem dX5_copy_72 : decode cX5_copy 72 = .ok (.iload 5, 2) := by decide +kernel
theorem dX5_copy_74 : decode cX5_copy 74 = .ok (.invokevirtual 256, 3) := by decide +kernel
theorem dX5_copy_77 : decode cX5_copy 77 = .ok (.ifCond .eq 15, 3) := by decide +kernel
theorem dX5_copy_80 : decode cX5_copy 80 = .ok (.aload 7, 2) := by decide +kernel
theorem dX5_copy_82 : decode cX5_copy 82 = .ok (.iload 4, 2) := by decide +kernel
theorem dX5_copy_84 : decode cX5_copy 84 = .ok (.iload 5, 2) := by decide +kernel
theorem dX5_copy_86 : decode cX5_copy 86 = .ok (.invokevirtual 256, 3) := by decide +kernel
theorem dX5_copy_89 : decode cX5_copy 89 = .ok (.ifCond .ne 6, 3) := by decide +kernel
theorem dX5_copy_92 : decode cX5_copy 92 = .ok (.bipush (-13), 2) := by decide +kernel
theorem dX5_copy_94 : decode cX5_copy 94 = .ok (.ireturn, 1) := by decide +kernel
theorem dX5_copy_95 : decode cX5_copy 95 = .ok (.aload 6, 2) := by decide +kernel
theorem dX5_copy_97 : decode cX5_copy 97 = .ok (.getfield 259, 3) := by decide +kernel
theorem dX5_copy_100 : decode cX5_copy 100 = .ok (.iload_n 2, 1) := by decide +kernel
theorem dX5_copy_101 : decode cX5_copy 101 = .ok (.aload 7, 2) := by decide +kernel
theorem dX5_copy_103 : decode cX5_copy 103 = .ok (.getfield 259, 3) := by decide +kernel
theorem dX5_copy_106 : decode cX5_copy 106 = .ok (.iload 4, 2) := by decide +kernel
theorem dX5_copy_108 : decode cX5_copy 108 = .ok (.iload 5, 2) := by decide +kernel
theorem dX5_copy_110 : decode cX5_copy 110 = .ok (.invokestatic 263, 3) := by decide +kernel
theorem dX5_copy_113 : decode cX5_copy 113 = .ok (.iload 5, 2) := by decide +kernel
theorem dX5_copy_115 : decode cX5_copy 115 = .ok (.ireturn, 1) := by decide +kernel
theorem dX5_spend_0 : decode cX5_spend 0 = .ok (.iload_n 1, 1) := by decide +kernel
theorem dX5_spend_1 : decode cX5_spend 1 = .ok (.iconst 1, 1) := by decide +kernel
theorem dX5_spend_2 : decode cX5_spend 2 = .ok (.bipush 40, 2) := by decide +kernel
theorem dX5_spend_4 : decode cX5_spend 4 = .ok (.invokestatic 53, 3) := by decide +kernel
theorem dX5_spend_7 : decode cX5_spend 7 = .ok (.ifCond .ne 5, 3) := by decide +kernel
theorem dX5_spend_10 : decode cX5_spend 10 = .ok (.iconst (-1), 1) := by decide +kernel
theorem dX5_spend_11 : decode cX5_spend 11 = .ok (.ireturn, 1) := by decide +kernel
theorem dX5_spend_12 : decode cX5_spend 12 = .ok (.aload_n 0, 1) := by decide +kernel
theorem dX5_spend_13 : decode cX5_spend 13 = .ok (.getfield 10, 3) := by decide +kernel
theorem dX5_spend_16 : decode cX5_spend 16 = .ok (.getfield 144, 3) := by decide +kernel
theorem dX5_spend_19 : decode cX5_spend 19 = .ok (.sipush 9999, 3) := by decide +kernel
theorem dX5_spend_22 : decode cX5_spend 22 = .ok (.iload_n 1, 1) := by decide +kernel
theorem dX5_spend_23 : decode cX5_spend 23 = .ok (.isub, 1) := by decide +kernel
theorem dX5_spend_24 : decode cX5_spend 24 = .ok (.if_icmp .le 6, 3) := by decide +kernel
theorem dX5_spend_27 : decode cX5_spend 27 = .ok (.bipush (-3), 2) := by decide +kernel
theorem dX5_spend_29 : decode cX5_spend 29 = .ok (.ireturn, 1) := by decide +kernel
theorem dX5_spend_30 : decode cX5_spend 30 = .ok (.iconst 0, 1) := by decide +kernel
theorem dX5_spend_31 : decode cX5_spend 31 = .ok (.istore_n 3, 1) := by decide +kernel
theorem dX5_spend_32 : decode cX5_spend 32 = .ok (.iload_n 3, 1) := by decide +kernel
theorem dX5_spend_33 : decode cX5_spend 33 = .ok (.iload_n 1, 1) := by decide +kernel
theorem dX5_spend_34 : decode cX5_spend 34 = .ok (.if_icmp .ge 39, 3) := by decide +kernel
theorem dX5_spend_37 : decode cX5_spend 37 = .ok (.aload_n 0, 1) := by decide +kernel
theorem dX5_spend_38 : decode cX5_spend 38 = .ok (.getfield 19, 3) := by decide +kernel
theorem dX5_spend_41 : decode cX5_spend 41 = .ok (.aload_n 0, 1) := by decide +kernel
theorem dX5_spend_42 : decode cX5_spend 42 = .ok (.getfield 10, 3) := by decide +kernel
theorem dX5_spend_45 : decode cX5_spend 45 = .ok (.invokevirtual 158, 3) := by decide +kernel
theorem dX5_spend_48 : decode cX5_spend 48 = .ok (.iload_n 2, 1) := by decide +kernel
theorem dX5_spend_49 : decode cX5_spend 49 = .ok (.ifCond .eq 10, 3) := by decide +kernel
theorem dX5_spend_52 : decode cX5_spend 52 = .ok (.aload_n 0, 1) := by decide +kernel
theorem dX5_spend_53 : decode cX5_spend 53 = .ok (.getfield 10, 3) := by decide +kernel
theorem dX5_spend_56 : decode cX5_spend 56 = .ok (.invokevirtual 269, 3) := by decide +kernel
theorem dX5_spend_59 : decode cX5_spend 59 = .ok (.aload_n 0, 1) := by decide +kernel
theorem dX5_spend_60 : decode cX5_spend 60 = .ok (.getfield 10, 3) := by decide +kernel
theorem dX5_spend_63 : decode cX5_spend 63 = .ok (.iconst 0, 1) := by decide +kernel
theorem dX5_spend_64 : decode cX5_spend 64 = .ok (.invokevirtual 272, 3) := by decide +kernel
theorem dX5_spend_67 : decode cX5_spend 67 = .ok (.iinc 3 1, 3) := by decide +kernel
theorem dX5_spend_70 : decode cX5_spend 70 = .ok (.goto (-38), 3) := by decide +kernel
theorem dX5_spend_73 : decode cX5_spend 73 = .ok (.aload_n 0, 1) := by decide +kernel
theorem dX5_spend_74 : decode cX5_spend 74 = .ok (.getfield 10, 3) := by decide +kernel
theorem dX5_spend_77 : decode cX5_spend 77 = .ok (.getfield 102, 3) := by decide +kernel
theorem dX5_spend_80 : decode cX5_spend 80 = .ok (.ireturn, 1) := by decide +kernel
theorem dX5_isApprentice_0 : decode cX5_isApprentice 0 = .ok (.iload_n 1, 1) := by decide +kernel
theorem dX5_isApprentice_1 : decode cX5_isApprentice 1 = .ok (.ifCond .lt 18, 3) := by decide +kernel
theorem dX5_isApprentice_4 : decode cX5_isApprentice 4 = .ok (.iload_n 1, 1) := by decide +kernel
theorem dX5_isApprentice_5 : decode cX5_isApprentice 5 = .ok (.aload_n 0, 1) := by decide +kernel
theorem dX5_isApprentice_6 : decode cX5_isApprentice 6 = .ok (.getfield 10, 3) := by decide +kernel
theorem dX5_isApprentice_9 : decode cX5_isApprentice 9 = .ok (.getfield 57, 3) := by decide +kernel
theorem dX5_isApprentice_12 : decode cX5_isApprentice 12 = .ok (.if_icmp .ge 7, 3) := by decide +kernel
theorem dX5_isApprentice_15 : decode cX5_isApprentice 15 = .ok (.iconst 1, 1) := by decide +kernel
theorem dX5_isApprentice_16 : decode cX5_isApprentice 16 = .ok (.goto 4, 3) := by decide +kernel
theorem dX5_isApprentice_19 : decode cX5_isApprentice 19 = .ok (.iconst 0, 1) := by decide +kernel
theorem dX5_isApprentice_20 : decode cX5_isApprentice 20 = .ok (.ireturn, 1) := by decide +kernel
theorem dX5_isThief_0 : decode cX5_isThief 0 = .ok (.iload_n 1, 1) := by decide +kernel
theorem dX5_isThief_1 : decode cX5_isThief 1 = .ok (.ifCond .lt 18, 3) := by decide +kernel
theorem dX5_isThief_4 : decode cX5_isThief 4 = .ok (.iload_n 1, 1) := by decide +kernel
theorem dX5_isThief_5 : decode cX5_isThief 5 = .ok (.aload_n 0, 1) := by decide +kernel
theorem dX5_isThief_6 : decode cX5_isThief 6 = .ok (.getfield 10, 3) := by decide +kernel
theorem dX5_isThief_9 : decode cX5_isThief 9 = .ok (.getfield 68, 3) := by decide +kernel
theorem dX5_isThief_12 : decode cX5_isThief 12 = .ok (.if_icmp .ge 7, 3) := by decide +kernel
theorem dX5_isThief_15 : decode cX5_isThief 15 = .ok (.iconst 1, 1) := by decide +kernel
theorem dX5_isThief_16 : decode cX5_isThief 16 = .ok (.goto 4, 3) := by decide +kernel
theorem dX5_isThief_19 : decode cX5_isThief 19 = .ok (.iconst 0, 1) := by decide +kernel
theorem dX5_isThief_20 : decode cX5_isThief 20 = .ok (.ireturn, 1) := by decide +kernel
theorem dX5_isSheet_0 : decode cX5_isSheet 0 = .ok (.iload_n 0, 1) := by decide +kernel
theorem dX5_isSheet_1 : decode cX5_isSheet 1 = .ok (.ifCond .lt 12, 3) := by decide +kernel
theorem dX5_isSheet_4 : decode cX5_isSheet 4 = .ok (.iload_n 0, 1) := by decide +kernel
theorem dX5_isSheet_5 : decode cX5_isSheet 5 = .ok (.iconst 4, 1) := by decide +kernel
theorem dX5_isSheet_6 : decode cX5_isSheet 6 = .ok (.if_icmp .ge 7, 3) := by decide +kernel
theorem dX5_isSheet_9 : decode cX5_isSheet 9 = .ok (.iconst 1, 1) := by decide +kernel
theorem dX5_isSheet_10 : decode cX5_isSheet 10 = .ok (.goto 4, 3) := by decide +kernel
theorem dX5_isSheet_13 : decode cX5_isSheet 13 = .ok (.iconst 0, 1) := by decide +kernel
theorem dX5_isSheet_14 : decode cX5_isSheet 14 = .ok (.ireturn, 1) := by decide +kernel
theorem dX5_isLane_0 : decode cX5_isLane 0 = .ok (.iload_n 0, 1) := by decide +kernel
theorem dX5_isLane_1 : decode cX5_isLane 1 = .ok (.ifCond .lt 12, 3) := by decide +kernel
theorem dX5_isLane_4 : decode cX5_isLane 4 = .ok (.iload_n 0, 1) := by decide +kernel
theorem dX5_isLane_5 : decode cX5_isLane 5 = .ok (.iconst 4, 1) := by decide +kernel
theorem dX5_isLane_6 : decode cX5_isLane 6 = .ok (.if_icmp .ge 7, 3) := by decide +kernel
theorem dX5_isLane_9 : decode cX5_isLane 9 = .ok (.iconst 1, 1) := by decide +kernel
theorem dX5_isLane_10 : decode cX5_isLane 10 = .ok (.goto 4, 3) := by decide +kernel
theorem dX5_isLane_13 : decode cX5_isLane 13 = .ok (.iconst 0, 1) := by decide +kernel
theorem dX5_isLane_14 : decode cX5_isLane 14 = .ok (.ireturn, 1) := by decide +kernel
theorem dX5_isWithin_0 : decode cX5_isWithin 0 = .ok (.iload_n 0, 1) := by decide +kernel
theorem dX5_isWithin_1 : decode cX5_isWithin 1 = .ok (.iload_n 1, 1) := by decide +kernel
theorem dX5_isWithin_2 : decode cX5_isWithin 2 = .ok (.if_icmp .lt 12, 3) := by decide +kernel
theorem dX5_isWithin_5 : decode cX5_isWithin 5 = .ok (.iload_n 0, 1) := by decide +kernel
theorem dX5_isWithin_6 : decode cX5_isWithin 6 = .ok (.iload_n 2, 1) := by decide +kernel
theorem dX5_isWithin_7 : decode cX5_isWithin 7 = .ok (.if_icmp .gt 7, 3) := by decide +kernel
theorem dX5_isWithin_10 : decode cX5_isWithin 10 = .ok (.iconst 1, 1) := by decide +kernel
theorem dX5_isWithin_11 : decode cX5_isWithin 11 = .ok (.goto 4, 3) := by decide +kernel
theorem dX5_isWithin_14 : decode cX5_isWithin 14 = .ok (.iconst 0, 1) := by decide +kernel
theorem dX5_isWithin_15 : decode cX5_isWithin 15 = .ok (.ireturn, 1) := by decide +kernel
theorem dX5_has_0 : decode cX5_has 0 = .ok (.iload_n 0, 1) := by decide +kernel
theorem dX5_has_1 : decode cX5_has 1 = .ok (.iload_n 1, 1) := by decide +kernel
theorem dX5_has_2 : decode cX5_has 2 = .ok (.ishr, 1) := by decide +kernel
theorem dX5_has_3 : decode cX5_has 3 = .ok (.iconst 1, 1) := by decide +kernel
theorem dX5_has_4 : decode cX5_has 4 = .ok (.iand, 1) := by decide +kernel
theorem dX5_has_5 : decode cX5_has 5 = .ok (.iconst 1, 1) := by decide +kernel
theorem dX5_has_6 : decode cX5_has 6 = .ok (.if_icmp .ne 7, 3) := by decide +kernel
theorem dX5_has_9 : decode cX5_has 9 = .ok (.iconst 1, 1) := by decide +kernel
theorem dX5_has_10 : decode cX5_has 10 = .ok (.goto 4, 3) := by decide +kernel
theorem dX5_has_13 : decode cX5_has 13 = .ok (.iconst 0, 1) := by decide +kernel
theorem dX5_has_14 : decode cX5_has 14 = .ok (.ireturn, 1) := by decide +kernel
theorem dX5_power_0 : decode cX5_power 0 = .ok (.iconst 1, 1) := by decide +kernel
theorem dX5_power_1 : decode cX5_power 1 = .ok (.istore_n 2, 1) := by decide +kernel
theorem dX5_power_2 : decode cX5_power 2 = .ok (.iconst 0, 1) := by decide +kernel
theorem dX5_power_3 : decode cX5_power 3 = .ok (.istore_n 3, 1) := by decide +kernel
theorem dX5_power_4 : decode cX5_power 4 = .ok (.iload_n 3, 1) := by decide +kernel
theorem dX5_power_5 : decode cX5_power 5 = .ok (.iload_n 1, 1) := by decide +kernel
theorem dX5_power_6 : decode cX5_power 6 = .ok (.if_icmp .ge 18, 3) := by decide +kernel
theorem dX5_power_9 : decode cX5_power 9 = .ok (.iload_n 3, 1) := by decide +kernel
theorem dX5_power_10 : decode cX5_power 10 = .ok (.iconst 4, 1) := by decide +kernel
theorem dX5_power_11 : decode cX5_power 11 = .ok (.if_icmp .ge 13, 3) := by decide +kernel
theorem dX5_power_14 : decode cX5_power 14 = .ok (.iload_n 2, 1) := by decide +kernel
theorem dX5_power_15 : decode cX5_power 15 = .ok (.iload_n 0, 1) := by decide +kernel
theorem dX5_power_16 : decode cX5_power 16 = .ok (.imul, 1) := by decide +kernel
theorem dX5_power_17 : decode cX5_power 17 = .ok (.istore_n 2, 1) := by decide +kernel
theorem dX5_power_18 : decode cX5_power 18 = .ok (.iinc 3 1, 3) := by decide +kernel
theorem dX5_power_21 : decode cX5_power 21 = .ok (.goto (-17), 3) := by decide +kernel
theorem dX5_power_24 : decode cX5_power 24 = .ok (.iload_n 2, 1) := by decide +kernel
theorem dX5_power_25 : decode cX5_power 25 = .ok (.ireturn, 1) := by decide +kernel
theorem dX6_init_0 : decode cX6_init 0 = .ok (.aload_n 0, 1) := by decide +kernel
theorem dX6_init_1 : decode cX6_init 1 = .ok (.invokespecial 1, 3) := by decide +kernel
theorem dX6_init_4 : decode cX6_init 4 = .ok (.aload_n 0, 1) := by decide +kernel
theorem dX6_init_5 : decode cX6_init 5 = .ok (.iconst 4, 1) := by decide +kernel
theorem dX6_init_6 : decode cX6_init 6 = .ok (.newarray .int, 2) := by decide +kernel
theorem dX6_init_8 : decode cX6_init 8 = .ok (.putfield 7, 3) := by decide +kernel
theorem dX6_init_11 : decode cX6_init 11 = .ok (.aload_n 0, 1) := by decide +kernel
theorem dX6_init_12 : decode cX6_init 12 = .ok (.iconst 4, 1) := by decide +kernel
theorem dX6_init_13 : decode cX6_init 13 = .ok (.newarray .int, 2) := by decide +kernel
theorem dX6_init_15 : decode cX6_init 15 = .ok (.putfield 13, 3) := by decide +kernel
theorem dX6_init_18 : decode cX6_init 18 = .ok (.aload_n 0, 1) := by decide +kernel
theorem dX6_init_19 : decode cX6_init 19 = .ok (.bipush 96, 2) := by decide +kernel
theorem dX6_init_21 : decode cX6_init 21 = .ok (.newarray .long, 2) := by decide +kernel
theorem dX6_init_23 : decode cX6_init 23 = .ok (.putfield 16, 3) := by decide +kernel
theorem dX6_init_26 : decode cX6_init 26 = .ok (.aload_n 0, 1) := by decide +kernel
theorem dX6_init_27 : decode cX6_init 27 = .ok (.bipush 80, 2) := by decide +kernel
theorem dX6_init_29 : decode cX6_init 29 = .ok (.newarray .int, 2) := by decide +kernel
theorem dX6_init_31 : decode cX6_init 31 = .ok (.putfield 20, 3) := by decide +kernel
theorem dX6_init_34 : decode cX6_init 34 = .ok (.aload_n 0, 1) := by decide +kernel
theorem dX6_init_35 : decode cX6_init 35 = .ok (.sipush 216, 3) := by decide +kernel
theorem dX6_init_38 : decode cX6_init 38 = .ok (.newarray .int, 2) := by decide +kernel
theorem dX6_init_40 : decode cX6_init 40 = .ok (.putfield 23, 3) := by decide +kernel
theorem dX6_init_43 : decode cX6_init 43 = .ok (.aload_n 0, 1) := by decide +kernel
theorem dX6_init_44 : decode cX6_init 44 = .ok (.sipush 216, 3) := by decide +kernel
theorem dX6_init_47 : decode cX6_init 47 = .ok (.newarray .int, 2) := by decide +kernel
theorem dX6_init_49 : decode cX6_init 49 = .ok (.putfield 26, 3) := by decide +kernel
theorem dX6_init_52 : decode cX6_init 52 = .ok (.aload_n 0, 1) := by decide +kernel
theorem dX6_init_53 : decode cX6_init 53 = .ok (.sipush 216, 3) := by decide +kernel
theorem dX6_init_56 : decode cX6_init 56 = .ok (.newarray .int, 2) := by decide +kernel
theorem dX6_init_58 : decode cX6_init 58 = .ok (.putfield 29, 3) := by decide +kernel
theorem dX6_init_61 : decode cX6_init 61 = .ok (.aload_n 0, 1) := by decide +kernel
theorem dX6_init_62 : decode cX6_init 62 = .ok (.sipush 216, 3) := by decide +kernel
theorem dX6_init_65 : decode cX6_init 65 = .ok (.newarray .int, 2) := by decide +kernel
theorem dX6_init_67 : decode cX6_init 67 = .ok (.putfield 32, 3) := by decide +kernel
theorem dX6_init_70 : decode cX6_init 70 = .ok (.aload_n 0, 1) := by decide +kernel
theorem dX6_init_71 : decode cX6_init 71 = .ok (.iconst 4, 1) := by decide +kernel
theorem dX6_init_72 : decode cX6_init 72 = .ok (.newarray .int, 2) := by decide +kernel
theorem dX6_init_74 : decode cX6_init 74 = .ok (.putfield 35, 3) := by decide +kernel
theorem dX6_init_77 : decode cX6_init 77 = .ok (.iconst 0, 1) := by decide +kernel
theorem dX6_init_78 : decode cX6_init 78 = .ok (.istore_n 1, 1) := by decide +kernel
theorem dX6_init_79 : decode cX6_init 79 = .ok (.iload_n 1, 1) := by decide +kernel
theorem dX6_init_80 : decode cX6_init 80 = .ok (.iconst 4, 1) := by decide +kernel
theorem dX6_init_81 : decode cX6_init 81 = .ok (.if_icmp .ge 16, 3) := by decide +kernel
theorem dX6_init_84 : decode cX6_init 84 = .ok (.aload_n 0, 1) := by decide +kernel
theorem dX6_init_85 : decode cX6_init 85 = .ok (.getfield 7, 3) := by decide +kernel
theorem dX6_init_88 : decode cX6_init 88 = .ok (.iload_n 1, 1) := by decide +kernel
theorem dX6_init_89 : decode cX6_init 89 = .ok (.iconst (-1), 1) := by decide +kernel
theorem dX6_init_90 : decode cX6_init 90 = .ok (.iastore, 1) := by decide +kernel
theorem dX6_init_91 : decode cX6_init 91 = .ok (.iinc 1 1, 3) := by decide +kernel
theorem dX6_init_94 : decode cX6_init 94 = .ok (.goto (-15), 3) := by decide +kernel
theorem dX6_init_97 : decode cX6_init 97 = .ok (.aload_n 0, 1) := by decide +kernel
theorem dX6_init_98 : decode cX6_init 98 = .ok (.getfield 23, 3) := by decide +kernel
theorem dX6_init_101 : decode cX6_init 101 = .ok (.iconst 1, 1) := by decide +kernel
theorem dX6_init_102 : decode cX6_init 102 = .ok (.iconst 1, 1) := by decide +kernel
theorem dX6_init_103 : decode cX6_init 103 = .ok (.iastore, 1) := by decide +kernel
theorem dX6_init_104 : decode cX6_init 104 = .ok (.aload_n 0, 1) := by decide +kernel
theorem dX6_init_105 : decode cX6_init 105 = .ok (.getfield 23, 3) := by decide +kernel
theorem dX6_init_108 : decode cX6_init 108 = .ok (.bipush 22, 2) := by decide +kernel
theorem dX6_init_110 : decode cX6_init 110 = .ok (.bipush 10, 2) := by decide +kernel
theorem dX6_init_112 : decode cX6_init 112 = .ok (.iastore, 1) := by decide +kernel
theorem dX6_init_113 : decode cX6_init 113 = .ok (.return_, 1) := by decide +kernel
theorem dX6_in_0 : decode cX6_in 0 = .ok (.iload_n 0, 1) := by decide +kernel
theorem dX6_in_1 : decode cX6_in 1 = .ok (.iload_n 1, 1) := by decide +kernel
theorem dX6_in_2 : decode cX6_in 2 = .ok (.if_icmp .lt 12, 3) := by decide +kernel
theorem dX6_in_5 : decode cX6_in 5 = .ok (.iload_n 0, 1) := by decide +kernel
theorem dX6_in_6 : decode cX6_in 6 = .ok (.iload_n 2, 1) := by decide +kernel
theorem dX6_in_7 : decode cX6_in 7 = .ok (.if_icmp .gt 7, 3) := by decide +kernel
theorem dX6_in_10 : decode cX6_in 10 = .ok (.iconst 1, 1) := by decide +kernel
theorem dX6_in_11 : decode cX6_in 11 = .ok (.goto 4, 3) := by decide +kernel
theorem dX6_in_14 : decode cX6_in 14 = .ok (.iconst 0, 1) := by decide +kernel
theorem dX6_in_15 : decode cX6_in 15 = .ok (.ireturn, 1) := by decide +kernel
theorem dX6_has_0 : decode cX6_has 0 = .ok (.iload_n 0, 1) := by decide +kernel
theorem dX6_has_1 : decode cX6_has 1 = .ok (.iload_n 1, 1) := by decide +kernel
theorem dX6_has_2 : decode cX6_has 2 = .ok (.ishr, 1) := by decide +kernel
theorem dX6_has_3 : decode cX6_has 3 = .ok (.iconst 1, 1) := by decide +kernel
theorem dX6_has_4 : decode cX6_has 4 = .ok (.iand, 1) := by decide +kernel
theorem dX6_has_5 : decode cX6_has 5 = .ok (.iconst 1, 1) := by decide +kernel
theorem dX6_has_6 : decode cX6_has 6 = .ok (.if_icmp .ne 7, 3) := by decide +kernel
theorem dX6_has_9 : decode cX6_has 9 = .ok (.iconst 1, 1) := by decide +kernel
theorem dX6_has_10 : decode cX6_has 10 = .ok (.goto 4, 3) := by decide +kernel
theorem dX6_has_13 : decode cX6_has 13 = .ok (.iconst 0, 1) := by decide +kernel
theorem dX6_has_14 : decode cX6_has 14 = .ok (.ireturn, 1) := by decide +kernel
theorem dX6_bits_0 : decode cX6_bits 0 = .ok (.iconst 0, 1) := by decide +kernel
theorem dX6_bits_1 : decode cX6_bits 1 = .ok (.istore_n 1, 1) := by decide +kernel
theorem dX6_bits_2 : decode cX6_bits 2 = .ok (.iconst 0, 1) := by decide +kernel
theorem dX6_bits_3 : decode cX6_bits 3 = .ok (.istore_n 2, 1) := by decide +kernel
theorem dX6_bits_4 : decode cX6_bits 4 = .ok (.iload_n 2, 1) := by decide +kernel
theorem dX6_bits_5 : decode cX6_bits 5 = .ok (.bipush 6, 2) := by decide +kernel
theorem dX6_bits_7 : decode cX6_bits 7 = .ok (.if_icmp .ge 17, 3) := by decide +kernel
theorem dX6_bits_10 : decode cX6_bits 10 = .ok (.iload_n 1, 1) := by decide +kernel
theorem dX6_bits_11 : decode cX6_bits 11 = .ok (.iload_n 0, 1) := by decide +kernel
theorem dX6_bits_12 : decode cX6_bits 12 = .ok (.iload_n 2, 1) := by decide +kernel
theorem dX6_bits_13 : decode cX6_bits 13 = .ok (.ishr, 1) := by decide +kernel
theorem dX6_bits_14 : decode cX6_bits 14 = .ok (.iconst 1, 1) := by decide +kernel
theorem dX6_bits_15 : decode cX6_bits 15 = .ok (.iand, 1) := by decide +kernel
theorem dX6_bits_16 : decode cX6_bits 16 = .ok (.iadd, 1) := by decide +kernel
theorem dX6_bits_17 : decode cX6_bits 17 = .ok (.istore_n 1, 1) := by decide +kernel
theorem dX6_bits_18 : decode cX6_bits 18 = .ok (.iinc 2 1, 3) := by decide +kernel
theorem dX6_bits_21 : decode cX6_bits 21 = .ok (.goto (-17), 3) := by decide +kernel
theorem dX6_bits_24 : decode cX6_bits 24 = .ok (.iload_n 1, 1) := by decide +kernel
theorem dX6_bits_25 : decode cX6_bits 25 = .ok (.ireturn, 1) := by decide +kernel
theorem dX6_bring_0 : decode cX6_bring 0 = .ok (.iconst 0, 1) := by decide +kernel
theorem dX6_bring_1 : decode cX6_bring 1 = .ok (.istore 5, 2) := by decide +kernel
theorem dX6_bring_3 : decode cX6_bring 3 = .ok (.iload 5, 2) := by decide +kernel
theorem dX6_bring_5 : decode cX6_bring 5 = .ok (.iload 4, 2) := by decide +kernel
theorem dX6_bring_7 : decode cX6_bring 7 = .ok (.if_icmp .ge 21, 3) := by decide +kernel
theorem dX6_bring_10 : decode cX6_bring 10 = .ok (.aload_n 2, 1) := by decide +kernel
theorem dX6_bring_11 : decode cX6_bring 11 = .ok (.iload_n 3, 1) := by decide +kernel
theorem dX6_bring_12 : decode cX6_bring 12 = .ok (.iload 5, 2) := by decide +kernel
theorem dX6_bring_14 : decode cX6_bring 14 = .ok (.iadd, 1) := by decide +kernel
theorem dX6_bring_15 : decode cX6_bring 15 = .ok (.aload_n 0, 1) := by decide +kernel
theorem dX6_bring_16 : decode cX6_bring 16 = .ok (.iload_n 1, 1) := by decide +kernel
theorem dX6_bring_17 : decode cX6_bring 17 = .ok (.iload 5, 2) := by decide +kernel
theorem dX6_bring_19 : decode cX6_bring 19 = .ok (.iadd, 1) := by decide +kernel
theorem dX6_bring_20 : decode cX6_bring 20 = .ok (.iaload, 1) := by decide +kernel
theorem dX6_bring_21 : decode cX6_bring 21 = .ok (.iastore, 1) := by decide +kernel
theorem dX6_bring_22 : decode cX6_bring 22 = .ok (.iinc 5 1, 3) := by decide +kernel
theorem dX6_bring_25 : decode cX6_bring 25 = .ok (.goto (-22), 3) := by decide +kernel
theorem dX6_bring_28 : decode cX6_bring 28 = .ok (.return_, 1) := by decide +kernel
theorem dX6_isOne_0 : decode cX6_isOne 0 = .ok (.iload_n 1, 1) := by decide +kernel
theorem dX6_isOne_1 : decode cX6_isOne 1 = .ok (.iconst 0, 1) := by decide +kernel
theorem dX6_isOne_2 : decode cX6_isOne 2 = .ok (.aload_n 0, 1) := by decide +kernel
theorem dX6_isOne_3 : decode cX6_isOne 3 = .ok (.getfield 23, 3) := by decide +kernel
theorem dX6_isOne_6 : decode cX6_isOne 6 = .ok (.bipush 23, 2) := by decide +kernel
theorem dX6_isOne_8 : decode cX6_isOne 8 = .ok (.iaload, 1) := by decide +kernel
theorem dX6_isOne_9 : decode cX6_isOne 9 = .ok (.iconst 1, 1) := by decide +kernel
theorem dX6_isOne_10 : decode cX6_isOne 10 = .ok (.isub, 1) := by decide +kernel
theorem dX6_isOne_11 : decode cX6_isOne 11 = .ok (.invokestatic 38, 3) := by decide +kernel
theorem dX6_isOne_14 : decode cX6_isOne 14 = .ok (.ireturn, 1) := by decide +kernel
theorem dX6_isThief_0 : decode cX6_isThief 0 = .ok (.iload_n 1, 1) := by decide +kernel
theorem dX6_isThief_1 : decode cX6_isThief 1 = .ok (.iconst 0, 1) := by decide +kernel
theorem dX6_isThief_2 : decode cX6_isThief 2 = .ok (.aload_n 0, 1) := by decide +kernel
theorem dX6_isThief_3 : decode cX6_isThief 3 = .ok (.getfield 23, 3) := by decide +kernel
theorem dX6_isThief_6 : decode cX6_isThief 6 = .ok (.bipush 30, 2) := by decide +kernel
theorem dX6_isThief_8 : decode cX6_isThief 8 = .ok (.iaload, 1) := by decide +kernel
theorem dX6_isThief_9 : decode cX6_isThief 9 = .ok (.iconst 1, 1) := by decide +kernel
theorem dX6_isThief_10 : decode cX6_isThief 10 = .ok (.isub, 1) := by decide +kernel
theorem dX6_isThief_11 : decode cX6_isThief 11 = .ok (.invokestatic 38, 3) := by decide +kernel
theorem dX6_isThief_14 : decode cX6_isThief 14 = .ok (.ireturn, 1) := by decide +kernel
theorem dX6_addOne_0 : decode cX6_addOne 0 = .ok (.aload_n 0, 1) := by decide +kernel
theorem dX6_addOne_1 : decode cX6_addOne 1 = .ok (.bipush 23, 2) := by decide +kernel
theorem dX6_addOne_3 : decode cX6_addOne 3 = .ok (.iaload, 1) := by decide +kernel
theorem dX6_addOne_4 : decode cX6_addOne 4 = .ok (.istore 4, 2) := by decide +kernel
theorem dX6_addOne_6 : decode cX6_addOne 6 = .ok (.aload_n 0, 1) := by decide +kernel
theorem dX6_addOne_7 : decode cX6_addOne 7 = .ok (.bipush 24, 2) := by decide +kernel
theorem dX6_addOne_9 : decode cX6_addOne 9 = .ok (.iload 4, 2) := by decide +kernel
theorem dX6_addOne_11 : decode cX6_addOne 11 = .ok (.iadd, 1) := by decide +kernel
theorem dX6_addOne_12 : decode cX6_addOne 12 = .ok (.iload_n 1, 1) := by decide +kernel
theorem dX6_addOne_13 : decode cX6_addOne 13 = .ok (.iastore, 1) := by decide +kernel
theorem dX6_addOne_14 : decode cX6_addOne 14 = .ok (.aload_n 0, 1) := by decide +kernel
theorem dX6_addOne_15 : decode cX6_addOne 15 = .ok (.bipush 8, 2) := by decide +kernel
theorem dX6_addOne_17 : decode cX6_addOne 17 = .ok (.iload 4, 2) := by decide +kernel
theorem dX6_addOne_19 : decode cX6_addOne 19 = .ok (.iadd, 1) := by decide +kernel
theorem dX6_addOne_20 : decode cX6_addOne 20 = .ok (.iload_n 2, 1) := by decide +kernel
theorem dX6_addOne_21 : decode cX6_addOne 21 = .ok (.iastore, 1) := by decide +kernel
theorem dX6_addOne_22 : decode cX6_addOne 22 = .ok (.aload_n 0, 1) := by decide +kernel
theorem dX6_addOne_23 : decode cX6_addOne 23 = .ok (.bipush 14, 2) := by decide +kernel
theorem dX6_addOne_25 : decode cX6_addOne 25 = .ok (.iload 4, 2) := by decide +kernel
theorem dX6_addOne_27 : decode cX6_addOne 27 = .ok (.iadd, 1) := by decide +kernel
theorem dX6_addOne_28 : decode cX6_addOne 28 = .ok (.iload_n 3, 1) := by decide +kernel
theorem dX6_addOne_29 : decode cX6_addOne 29 = .ok (.iastore, 1) := by decide +kernel
theorem dX6_addOne_30 : decode cX6_addOne 30 = .ok (.aload_n 0, 1) := by decide +kernel
theorem dX6_addOne_31 : decode cX6_addOne 31 = .ok (.iconst 2, 1) := by decide +kernel
theorem dX6_addOne_32 : decode cX6_addOne 32 = .ok (.iload 4, 2) := by decide +kernel
theorem dX6_addOne_34 : decode cX6_addOne 34 = .ok (.iadd, 1) := by decide +kernel
theorem dX6_addOne_35 : decode cX6_addOne 35 = .ok (.iconst 0, 1) := by decide +kernel
theorem dX6_addOne_36 : decode cX6_addOne 36 = .ok (.iastore, 1) := by decide +kernel
theorem dX6_addOne_37 : decode cX6_addOne 37 = .ok (.aload_n 0, 1) := by decide +kernel
theorem dX6_addOne_38 : decode cX6_addOne 38 = .ok (.bipush 20, 2) := by decide +kernel
theorem dX6_addOne_40 : decode cX6_addOne 40 = .ok (.aload_n 0, 1) := by decide +kernel
theorem dX6_addOne_41 : decode cX6_addOne 41 = .ok (.bipush 20, 2) := by decide +kernel
theorem dX6_addOne_43 : decode cX6_addOne 43 = .ok (.iaload, 1) := by decide +kernel
theorem dX6_addOne_44 : decode cX6_addOne 44 = .ok (.iconst 1, 1) := by decide +kernel
theorem dX6_addOne_45 : decode cX6_addOne 45 = .ok (.iload 4, 2) := by decide +kernel
theorem dX6_addOne_47 : decode cX6_addOne 47 = .ok (.ishl, 1) := by decide +kernel
theorem dX6_addOne_48 : decode cX6_addOne 48 = .ok (.ior, 1) := by decide +kernel
theorem dX6_addOne_49 : decode cX6_addOne 49 = .ok (.iastore, 1) := by decide +kernel
theorem dX6_addOne_50 : decode cX6_addOne 50 = .ok (.aload_n 0, 1) := by decide +kernel
theorem dX6_addOne_51 : decode cX6_addOne 51 = .ok (.bipush 23, 2) := by decide +kernel
theorem dX6_addOne_53 : decode cX6_addOne 53 = .ok (.dup2, 1) := by decide +kernel
theorem dX6_addOne_54 : decode cX6_addOne 54 = .ok (.iaload, 1) := by decide +kernel
theorem dX6_addOne_55 : decode cX6_addOne 55 = .ok (.iconst 1, 1) := by decide +kernel
theorem dX6_addOne_56 : decode cX6_addOne 56 = .ok (.iadd, 1) := by decide +kernel
theorem dX6_addOne_57 : decode cX6_addOne 57 = .ok (.iastore, 1) := by decide +kernel
theorem dX6_addOne_58 : decode cX6_addOne 58 = .ok (.iload 4, 2) := by decide +kernel
theorem dX6_addOne_60 : decode cX6_addOne 60 = .ok (.ireturn, 1) := by decide +kernel
theorem dX6_addThief_0 : decode cX6_addThief 0 = .ok (.aload_n 0, 1) := by decide +kernel
theorem dX6_addThief_1 : decode cX6_addThief 1 = .ok (.bipush 30, 2) := by decide +kernel
theorem dX6_addThief_3 : decode cX6_addThief 3 = .ok (.iaload, 1) := by decide +kernel
theorem dX6_addThief_4 : decode cX6_addThief 4 = .ok (.istore_n 3, 1) := by decide +kernel
theorem dX6_addThief_5 : decode cX6_addThief 5 = .ok (.aload_n 0, 1) := by decide +kernel
theorem dX6_addThief_6 : decode cX6_addThief 6 = .ok (.bipush 31, 2) := by decide +kernel
theorem dX6_addThief_8 : decode cX6_addThief 8 = .ok (.iload_n 3, 1) := by decide +kernel
theorem dX6_addThief_9 : decode cX6_addThief 9 = .ok (.iadd, 1) := by decide +kernel
theorem dX6_addThief_10 : decode cX6_addThief 10 = .ok (.iload_n 1, 1) := by decide +kernel
theorem dX6_addThief_11 : decode cX6_addThief 11 = .ok (.iastore, 1) := by decide +kernel
theorem dX6_addThief_12 : decode cX6_addThief 12 = .ok (.aload_n 0, 1) := by decide +kernel
theorem dX6_addThief_13 : decode cX6_addThief 13 = .ok (.bipush 35, 2) := by decide +kernel
theorem dX6_addThief_15 : decode cX6_addThief 15 = .ok (.iload_n 3, 1) := by decide +kernel
theorem dX6_addThief_16 : decode cX6_addThief 16 = .ok (.iadd, 1) := by decide +kernel
theorem dX6_addThief_17 : decode cX6_addThief 17 = .ok (.iload_n 2, 1) := by decide +kernel
theorem dX6_addThief_18 : decode cX6_addThief 18 = .ok (.iastore, 1) := by decide +kernel
theorem dX6_addThief_19 : decode cX6_addThief 19 = .ok (.aload_n 0, 1) := by decide +kernel
theorem dX6_addThief_20 : decode cX6_addThief 20 = .ok (.bipush 30, 2) := by decide +kernel
theorem dX6_addThief_22 : decode cX6_addThief 22 = .ok (.dup2, 1) := by decide +kernel
theorem dX6_addThief_23 : decode cX6_addThief 23 = .ok (.iaload, 1) := by decide +kernel
theorem dX6_addThief_24 : decode cX6_addThief 24 = .ok (.iconst 1, 1) := by decide +kernel
theorem dX6_addThief_25 : decode cX6_addThief 25 = .ok (.iadd, 1) := by decide +kernel
theorem dX6_addThief_26 : decode cX6_addThief 26 = .ok (.iastore, 1) := by decide +kernel
theorem dX6_addThief_27 : decode cX6_addThief 27 = .ok (.iload_n 3, 1) := by decide +kernel
theorem dX6_addThief_28 : decode cX6_addThief 28 = .ok (.ireturn, 1) := by decide +kernel
theorem dX6_apprentice_0 : decode cX6_apprentice 0 = .ok (.iload_n 1, 1) := by decide +kernel
theorem dX6_apprentice_1 : decode cX6_apprentice 1 = .ok (.iconst 0, 1) := by decide +kernel
theorem dX6_apprentice_2 : decode cX6_apprentice 2 = .ok (.iconst 4, 1) := by decide +kernel
theorem dX6_apprentice_3 : decode cX6_apprentice 3 = .ok (.invokestatic 38, 3) := by decide +kernel
theorem dX6_apprentice_6 : decode cX6_apprentice 6 = .ok (.ifCond .eq 22, 3) := by decide +kernel
theorem dX6_apprentice_9 : decode cX6_apprentice 9 = .ok (.iload_n 2, 1) := by decide +kernel
theorem dX6_apprentice_10 : decode cX6_apprentice 10 = .ok (.iconst 0, 1) := by decide +kernel
theorem dX6_apprentice_11 : decode cX6_apprentice 11 = .ok (.iconst 3, 1) := by decide +kernel
theorem dX6_apprentice_12 : decode cX6_apprentice 12 = .ok (.invokestatic 38, 3) := by decide +kernel
theorem dX6_apprentice_15 : decode cX6_apprentice 15 = .ok (.ifCond .eq 13, 3) := by decide +kernel
theorem dX6_apprentice_18 : decode cX6_apprentice 18 = .ok (.iload_n 3, 1) := by decide +kernel
theorem dX6_apprentice_19 : decode cX6_apprentice 19 = .ok (.iconst 0, 1) := by decide +kernel
theorem dX6_apprentice_20 : decode cX6_apprentice 20 = .ok (.bipush 9, 2) := by decide +kernel
theorem dX6_apprentice_22 : decode cX6_apprentice 22 = .ok (.invokestatic 38, 3) := by decide +kernel
theorem dX6_apprentice_25 : decode cX6_apprentice 25 = .ok (.ifCond .ne 5, 3) := by decide +kernel
theorem dX6_apprentice_28 : decode cX6_apprentice 28 = .ok (.iconst (-1), 1) := by decide +kernel
theorem dX6_apprentice_29 : decode cX6_apprentice 29 = .ok (.ireturn, 1) := by decide +kernel
theorem dX6_apprentice_30 : decode cX6_apprentice 30 = .ok (.aload_n 0, 1) := by decide +kernel
theorem dX6_apprentice_31 : decode cX6_apprentice 31 = .ok (.getfield 23, 3) := by decide +kernel
theorem dX6_apprentice_34 : decode cX6_apprentice 34 = .ok (.bipush 23, 2) := by decide +kernel
theorem dX6_apprentice_36 : decode cX6_apprentice 36 = .ok (.iaload, 1) := by decide +kernel
theorem dX6_apprentice_37 : decode cX6_apprentice 37 = .ok (.bipush 6, 2) := by decide +kernel
theorem dX6_apprentice_39 : decode cX6_apprentice 39 = .ok (.if_icmp .ne 6, 3) := by decide +kernel
theorem dX6_apprentice_42 : decode cX6_apprentice 42 = .ok (.bipush (-3), 2) := by decide +kernel
theorem dX6_apprentice_44 : decode cX6_apprentice 44 = .ok (.ireturn, 1) := by decide +kernel
theorem dX6_apprentice_45 : decode cX6_apprentice 45 = .ok (.aload_n 0, 1) := by decide +kernel
theorem dX6_apprentice_46 : decode cX6_apprentice 46 = .ok (.getfield 23, 3) := by decide +kernel
theorem dX6_apprentice_49 : decode cX6_apprentice 49 = .ok (.bipush 39, 2) := by decide +kernel
theorem dX6_apprentice_51 : decode cX6_apprentice 51 = .ok (.iconst 0, 1) := by decide +kernel
theorem dX6_apprentice_52 : decode cX6_apprentice 52 = .ok (.iastore, 1) := by decide +kernel
theorem dX6_apprentice_53 : decode cX6_apprentice 53 = .ok (.aload_n 0, 1) := by decide +kernel
theorem dX6_apprentice_54 : decode cX6_apprentice 54 = .ok (.getfield 23, 3) := by decide +kernel
theorem dX6_apprentice_57 : decode cX6_apprentice 57 = .ok (.iload_n 1, 1) := by decide +kernel
theorem dX6_apprentice_58 : decode cX6_apprentice 58 = .ok (.iload_n 2, 1) := by decide +kernel
theorem dX6_apprentice_59 : decode cX6_apprentice 59 = .ok (.iload_n 3, 1) := by decide +kernel
theorem dX6_apprentice_60 : decode cX6_apprentice 60 = .ok (.invokestatic 42, 3) := by decide +kernel
theorem dX6_apprentice_63 : decode cX6_apprentice 63 = .ok (.ireturn, 1) := by decide +kernel
theorem dX6_thief_0 : decode cX6_thief 0 = .ok (.iload_n 1, 1) := by decide +kernel
theorem dX6_thief_1 : decode cX6_thief 1 = .ok (.iconst 0, 1) := by decide +kernel
theorem dX6_thief_2 : decode cX6_thief 2 = .ok (.bipush 9, 2) := by decide +kernel
theorem dX6_thief_4 : decode cX6_thief 4 = .ok (.invokestatic 38, 3) := by decide +kernel
theorem dX6_thief_7 : decode cX6_thief 7 = .ok (.ifCond .eq 12, 3) := by decide +kernel
theorem dX6_thief_10 : decode cX6_thief 10 = .ok (.iload_n 2, 1) := by decide +kernel
theorem dX6_thief_11 : decode cX6_thief 11 = .ok (.iconst 0, 1) := by decide +kernel
theorem dX6_thief_12 : decode cX6_thief 12 = .ok (.iconst 4, 1) := by decide +kernel
theorem dX6_thief_13 : decode cX6_thief 13 = .ok (.invokestatic 38, 3) := by decide +kernel
theorem dX6_thief_16 : decode cX6_thief 16 = .ok (.ifCond .ne 5, 3) := by decide +kernel
theorem dX6_thief_19 : decode cX6_thief 19 = .ok (.iconst (-1), 1) := by decide +kernel
theorem dX6_thief_20 : decode cX6_thief 20 = .ok (.ireturn, 1) := by decide +kernel
theorem dX6_thief_21 : decode cX6_thief 21 = .ok (.aload_n 0, 1) := by decide +kernel
theorem dX6_thief_22 : decode cX6_thief 22 = .ok (.getfield 23, 3) := by decide +kernel
theorem dX6_thief_25 : decode cX6_thief 25 = .ok (.bipush 30, 2) := by decide +kernel
theorem dX6_thief_27 : decode cX6_thief 27 = .ok (.iaload, 1) := by decide +kernel
theorem dX6_thief_28 : decode cX6_thief 28 = .ok (.iconst 4, 1) := by decide +kernel
theorem dX6_thief_29 : decode cX6_thief 29 = .ok (.if_icmp .ne 6, 3) := by decide +kernel
theorem dX6_thief_32 : decode cX6_thief 32 = .ok (.bipush (-3), 2) := by decide +kernel
theorem dX6_thief_34 : decode cX6_thief 34 = .ok (.ireturn, 1) := by decide +kernel
theorem dX6_thief_35 : decode cX6_thief 35 = .ok (.aload_n 0, 1) := by decide +kernel
theorem dX6_thief_36 : decode cX6_thief 36 = .ok (.getfield 23, 3) := by decide +kernel
theorem dX6_thief_39 : decode cX6_thief 39 = .ok (.bipush 39, 2) := by decide +kernel
theorem dX6_thief_41 : decode cX6_thief 41 = .ok (.iconst 0, 1) := by decide +kernel
theorem dX6_thief_42 : decode cX6_thief 42 = .ok (.iastore, 1) := by decide +kernel
theorem dX6_thief_43 : decode cX6_thief 43 = .ok (.aload_n 0, 1) := by decide +kernel
theorem dX6_thief_44 : decode cX6_thief 44 = .ok (.getfield 23, 3) := by decide +kernel
theorem dX6_thief_47 : decode cX6_thief 47 = .ok (.iload_n 1, 1) := by decide +kernel
theorem dX6_thief_48 : decode cX6_thief 48 = .ok (.iload_n 2, 1) := by decide +kernel
theorem dX6_thief_49 : decode cX6_thief 49 = .ok (.invokestatic 46, 3) := by decide +kernel
theorem dX6_thief_52 : decode cX6_thief 52 = .ok (.ireturn, 1) := by decide +kernel
theorem dX6_bar_0 : decode cX6_bar 0 = .ok (.iload_n 1, 1) := by decide +kernel
theorem dX6_bar_1 : decode cX6_bar 1 = .ok (.iconst 0, 1) := by decide +kernel
theorem dX6_bar_2 : decode cX6_bar 2 = .ok (.bipush 99, 2) := by decide +kernel
theorem dX6_bar_4 : decode cX6_bar 4 = .ok (.invokestatic 38, 3) := by decide +kernel
theorem dX6_bar_7 : decode cX6_bar 7 = .ok (.ifCond .ne 5, 3) := by decide +kernel
theorem dX6_bar_10 : decode cX6_bar 10 = .ok (.iconst (-1), 1) := by decide +kernel
theorem dX6_bar_11 : decode cX6_bar 11 = .ok (.ireturn, 1) := by decide +kernel
theorem dX6_bar_12 : decode cX6_bar 12 = .ok (.aload_n 0, 1) := by decide +kernel
theorem dX6_bar_13 : decode cX6_bar 13 = .ok (.getfield 23, 3) := by decide +kernel
theorem dX6_bar_16 : decode cX6_bar 16 = .ok (.bipush 22, 2) := by decide +kernel
theorem dX6_bar_18 : decode cX6_bar 18 = .ok (.iaload, 1) := by decide +kernel
theorem dX6_bar_19 : decode cX6_bar 19 = .ok (.istore_n 2, 1) := by decide +kernel
theorem dX6_bar_20 : decode cX6_bar 20 = .ok (.aload_n 0, 1) := by decide +kernel
theorem dX6_bar_21 : decode cX6_bar 21 = .ok (.getfield 23, 3) := by decide +kernel
theorem dX6_bar_24 : decode cX6_bar 24 = .ok (.bipush 22, 2) := by decide +kernel
theorem dX6_bar_26 : decode cX6_bar 26 = .ok (.iload_n 1, 1) := by decide +kernel
theorem dX6_bar_27 : decode cX6_bar 27 = .ok (.iastore, 1) := by decide +kernel
theorem dX6_bar_28 : decode cX6_bar 28 = .ok (.iload_n 2, 1) := by decide +kernel
theorem dX6_bar_29 : decode cX6_bar 29 = .ok (.ireturn, 1) := by decide +kernel
theorem dX6_mayRob_0 : decode cX6_mayRob 0 = .ok (.aload_n 0, 1) := by decide +kernel
theorem dX6_mayRob_1 : decode cX6_mayRob 1 = .ok (.bipush 20, 2) := by decide +kernel
theorem dX6_mayRob_3 : decode cX6_mayRob 3 = .ok (.iaload, 1) := by decide +kernel
theorem dX6_mayRob_4 : decode cX6_mayRob 4 = .ok (.iload_n 2, 1) := by decide +kernel
theorem dX6_mayRob_5 : decode cX6_mayRob 5 = .ok (.invokestatic 50, 3) := by decide +kernel
theorem dX6_mayRob_8 : decode cX6_mayRob 8 = .ok (.ifCond .eq 33, 3) := by decide +kernel
theorem dX6_mayRob_11 : decode cX6_mayRob 11 = .ok (.aload_n 0, 1) := by decide +kernel
theorem dX6_mayRob_12 : decode cX6_mayRob 12 = .ok (.bipush 21, 2) := by decide +kernel
theorem dX6_mayRob_14 : decode cX6_mayRob 14 = .ok (.iaload, 1) := by decide +kernel
theorem dX6_mayRob_15 : decode cX6_mayRob 15 = .ok (.iload_n 2, 1) := by decide +kernel
theorem dX6_mayRob_16 : decode cX6_mayRob 16 = .ok (.invokestatic 50, 3) := by decide +kernel
theorem dX6_mayRob_19 : decode cX6_mayRob 19 = .ok (.ifCond .ne 22, 3) := by decide +kernel
theorem dX6_mayRob_22 : decode cX6_mayRob 22 = .ok (.aload_n 0, 1) := by decide +kernel
theorem dX6_mayRob_23 : decode cX6_mayRob 23 = .ok (.bipush 14, 2) := by decide +kernel
theorem dX6_mayRob_25 : decode cX6_mayRob 25 = .ok (.iload_n 2, 1) := by decide +kernel
theorem dX6_mayRob_26 : decode cX6_mayRob 26 = .ok (.iadd, 1) := by decide +kernel
theorem dX6_mayRob_27 : decode cX6_mayRob 27 = .ok (.iaload, 1) := by decide +kernel
theorem dX6_mayRob_28 : decode cX6_mayRob 28 = .ok (.aload_n 0, 1) := by decide +kernel
theorem dX6_mayRob_29 : decode cX6_mayRob 29 = .ok (.bipush 31, 2) := by decide +kernel
theorem dX6_mayRob_31 : decode cX6_mayRob 31 = .ok (.iload_n 1, 1) := by decide +kernel
theorem dX6_mayRob_32 : decode cX6_mayRob 32 = .ok (.iadd, 1) := by decide +kernel
theorem dX6_mayRob_33 : decode cX6_mayRob 33 = .ok (.iaload, 1) := by decide +kernel
theorem dX6_mayRob_34 : decode cX6_mayRob 34 = .ok (.if_icmp .gt 7, 3) := by decide +kernel
theorem dX6_mayRob_37 : decode cX6_mayRob 37 = .ok (.iconst 1, 1) := by decide +kernel
theorem dX6_mayRob_38 : decode cX6_mayRob 38 = .ok (.goto 4, 3) := by decide +kernel
theorem dX6_mayRob_41 : decode cX6_mayRob 41 = .ok (.iconst 0, 1) := by decide +kernel
theorem dX6_mayRob_42 : decode cX6_mayRob 42 = .ok (.istore_n 3, 1) := by decide +kernel
theorem dX6_mayRob_43 : decode cX6_mayRob 43 = .ok (.iload_n 3, 1) := by decide +kernel
theorem dX6_mayRob_44 : decode cX6_mayRob 44 = .ok (.ifCond .eq 32, 3) := by decide +kernel
theorem dX6_mayRob_47 : decode cX6_mayRob 47 = .ok (.aload_n 0, 1) := by decide +kernel
theorem dX6_mayRob_48 : decode cX6_mayRob 48 = .ok (.bipush 35, 2) := by decide +kernel
theorem dX6_mayRob_50 : decode cX6_mayRob 50 = .ok (.iload_n 1, 1) := by decide +kernel
theorem dX6_mayRob_51 : decode cX6_mayRob 51 = .ok (.iadd, 1) := by decide +kernel
theorem dX6_mayRob_52 : decode cX6_mayRob 52 = .ok (.iaload, 1) := by decide +kernel
theorem dX6_mayRob_53 : decode cX6_mayRob 53 = .ok (.iconst 4, 1) := by decide +kernel
theorem dX6_mayRob_54 : decode cX6_mayRob 54 = .ok (.if_icmp .eq 18, 3) := by decide +kernel
theorem dX6_mayRob_57 : decode cX6_mayRob 57 = .ok (.aload_n 0, 1) := by decide +kernel
theorem dX6_mayRob_58 : decode cX6_mayRob 58 = .ok (.bipush 35, 2) := by decide +kernel
theorem dX6_mayRob_60 : decode cX6_mayRob 60 = .ok (.iload_n 1, 1) := by decide +kernel
theorem dX6_mayRob_61 : decode cX6_mayRob 61 = .ok (.iadd, 1) := by decide +kernel
theorem dX6_mayRob_62 : decode cX6_mayRob 62 = .ok (.iaload, 1) := by decide +kernel
theorem dX6_mayRob_63 : decode cX6_mayRob 63 = .ok (.aload_n 0, 1) := by decide +kernel
theorem dX6_mayRob_64 : decode cX6_mayRob 64 = .ok (.bipush 8, 2) := by decide +kernel
theorem dX6_mayRob_66 : decode cX6_mayRob 66 = .ok (.iload_n 2, 1) := by decide +kernel
theorem dX6_mayRob_67 : decode cX6_mayRob 67 = .ok (.iadd, 1) := by decide +kernel
theorem dX6_mayRob_68 : decode cX6_mayRob 68 = .ok (.iaload, 1) := by decide +kernel
theorem dX6_mayRob_69 : decode cX6_mayRob 69 = .ok (.if_icmp .ne 7, 3) := by decide +kernel
theorem dX6_mayRob_72 : decode cX6_mayRob 72 = .ok (.iconst 1, 1) := by decide +kernel
theorem dX6_mayRob_73 : decode cX6_mayRob 73 = .ok (.goto 4, 3) := by decide +kernel
theorem dX6_mayRob_76 : decode cX6_mayRob 76 = .ok (.iconst 0, 1) := by decide +kernel
theorem dX6_mayRob_77 : decode cX6_mayRob 77 = .ok (.ireturn, 1) := by decide +kernel
theorem dX6_preyOf_0 : decode cX6_preyOf 0 = .ok (.iconst 0, 1) := by decide +kernel
theorem dX6_preyOf_1 : decode cX6_preyOf 1 = .ok (.istore_n 2, 1) := by decide +kernel
theorem dX6_preyOf_2 : decode cX6_preyOf 2 = .ok (.iconst 0, 1) := by decide +kernel
theorem dX6_preyOf_3 : decode cX6_preyOf 3 = .ok (.istore_n 3, 1) := by decide +kernel
theorem dX6_preyOf_4 : decode cX6_preyOf 4 = .ok (.iload_n 3, 1) := by decide +kernel
theorem dX6_preyOf_5 : decode cX6_preyOf 5 = .ok (.aload_n 0, 1) := by decide +kernel
theorem dX6_preyOf_6 : decode cX6_preyOf 6 = .ok (.getfield 23, 3) := by decide +kernel
theorem dX6_preyOf_9 : decode cX6_preyOf 9 = .ok (.bipush 23, 2) := by decide +kernel
theorem dX6_preyOf_11 : decode cX6_preyOf 11 = .ok (.iaload, 1) := by decide +kernel
theorem dX6_preyOf_12 : decode cX6_preyOf 12 = .ok (.if_icmp .ge 31, 3) := by decide +kernel
theorem dX6_preyOf_15 : decode cX6_preyOf 15 = .ok (.iload_n 2, 1) := by decide +kernel
theorem dX6_preyOf_16 : decode cX6_preyOf 16 = .ok (.aload_n 0, 1) := by decide +kernel
theorem dX6_preyOf_17 : decode cX6_preyOf 17 = .ok (.getfield 23, 3) := by decide +kernel
theorem dX6_preyOf_20 : decode cX6_preyOf 20 = .ok (.iload_n 1, 1) := by decide +kernel
theorem dX6_preyOf_21 : decode cX6_preyOf 21 = .ok (.iload_n 3, 1) := by decide +kernel
theorem dX6_preyOf_22 : decode cX6_preyOf 22 = .ok (.invokestatic 54, 3) := by decide +kernel
theorem dX6_preyOf_25 : decode cX6_preyOf 25 = .ok (.ifCond .eq 9, 3) := by decide +kernel
theorem dX6_preyOf_28 : decode cX6_preyOf 28 = .ok (.iconst 1, 1) := by decide +kernel
theorem dX6_preyOf_29 : decode cX6_preyOf 29 = .ok (.iload_n 3, 1) := by decide +kernel
theorem dX6_preyOf_30 : decode cX6_preyOf 30 = .ok (.ishl, 1) := by decide +kernel
theorem dX6_preyOf_31 : decode cX6_preyOf 31 = .ok (.goto 4, 3) := by decide +kernel
theorem dX6_preyOf_34 : decode cX6_preyOf 34 = .ok (.iconst 0, 1) := by decide +kernel
theorem dX6_preyOf_35 : decode cX6_preyOf 35 = .ok (.ior, 1) := by decide +kernel
theorem dX6_preyOf_36 : decode cX6_preyOf 36 = .ok (.istore_n 2, 1) := by decide +kernel
theorem dX6_preyOf_37 : decode cX6_preyOf 37 = .ok (.iinc 3 1, 3) := by decide +kernel
theorem dX6_preyOf_40 : decode cX6_preyOf 40 = .ok (.goto (-36), 3) := by decide +kernel
theorem dX6_preyOf_43 : decode cX6_preyOf 43 = .ok (.iload_n 2, 1) := by decide +kernel
theorem dX6_preyOf_44 : decode cX6_preyOf 44 = .ok (.ireturn, 1) := by decide +kernel
theorem dX6_robbersOf_0 : decode cX6_robbersOf 0 = .ok (.iconst 0, 1) := by decide +kernel
theorem dX6_robbersOf_1 : decode cX6_robbersOf 1 = .ok (.istore_n 2, 1) := by decide +kernel
theorem dX6_robbersOf_2 : decode cX6_robbersOf 2 = .ok (.iconst 0, 1) := by decide +kernel
theorem dX6_robbersOf_3 : decode cX6_robbersOf 3 = .ok (.istore_n 3, 1) := by decide +kernel
theorem dX6_robbersOf_4 : decode cX6_robbersOf 4 = .ok (.iload_n 3, 1) := by decide +kernel
theorem dX6_robbersOf_5 : decode cX6_robbersOf 5 = .ok (.aload_n 0, 1) := by decide +kernel
theorem dX6_robbersOf_6 : decode cX6_robbersOf 6 = .ok (.getfield 23, 3) := by decide +kernel
theorem dX6_robbersOf_9 : decode cX6_robbersOf 9 = .ok (.bipush 30, 2) := by decide +kernel
theorem dX6_robbersOf_11 : decode cX6_robbersOf 11 = .ok (.iaload, 1) := by decide +kernel
theorem dX6_robbersOf_12 : decode cX6_robbersOf 12 = .ok (.if_icmp .ge 31, 3) := by decide +kernel
theorem dX6_robbersOf_15 : decode cX6_robbersOf 15 = .ok (.iload_n 2, 1) := by decide +kernel
theorem dX6_robbersOf_16 : decode cX6_robbersOf 16 = .ok (.aload_n 0, 1) := by decide +kernel
theorem dX6_robbersOf_17 : decode cX6_robbersOf 17 = .ok (.getfield 23, 3) := by decide +kernel
theorem dX6_robbersOf_20 : decode cX6_robbersOf 20 = .ok (.iload_n 3, 1) := by decide +kernel
theorem dX6_robbersOf_21 : decode cX6_robbersOf 21 = .ok (.iload_n 1, 1) := by decide +kernel
theorem dX6_robbersOf_22 : decode cX6_robbersOf 22 = .ok (.invokestatic 54, 3) := by decide +kernel
theorem dX6_robbersOf_25 : decode cX6_robbersOf 25 = .ok (.ifCond .eq 9, 3) := by decide +kernel
theorem dX6_robbersOf_28 : decode cX6_robbersOf 28 = .ok (.iconst 1, 1) := by decide +kernel
theorem dX6_robbersOf_29 : decode cX6_robbersOf 29 = .ok (.iload_n 3, 1) := by decide +kernel
theorem dX6_robbersOf_30 : decode cX6_robbersOf 30 = .ok (.ishl, 1) := by decide +kernel
theorem dX6_robbersOf_31 : decode cX6_robbersOf 31 = .ok (.goto 4, 3) := by decide +kernel
theorem dX6_robbersOf_34 : decode cX6_robbersOf 34 = .ok (.iconst 0, 1) := by decide +kernel
theorem dX6_robbersOf_35 : decode cX6_robbersOf 35 = .ok (.ior, 1) := by decide +kernel
theorem dX6_robbersOf_36 : decode cX6_robbersOf 36 = .ok (.istore_n 2, 1) := by decide +kernel
theorem dX6_robbersOf_37 : decode cX6_robbersOf 37 = .ok (.iinc 3 1, 3) := by decide +kernel
theorem dX6_robbersOf_40 : decode cX6_robbersOf 40 = .ok (.goto (-36), 3) := by decide +kernel
theorem dX6_robbersOf_43 : decode cX6_robbersOf 43 = .ok (.iload_n 2, 1) := by decide +kernel
theorem dX6_robbersOf_44 : decode cX6_robbersOf 44 = .ok (.ireturn, 1) := by decide +kernel
theorem dX6_of_0 : decode cX6_of 0 = .ok (.aload_n 0, 1) := by decide +kernel
theorem dX6_of_1 : decode cX6_of 1 = .ok (.iload_n 1, 1) := by decide +kernel
theorem dX6_of_2 : decode cX6_of 2 = .ok (.invokevirtual 58, 3) := by decide +kernel
theorem dX6_of_5 : decode cX6_of 5 = .ok (.ifCond .ne 5, 3) := by decide +kernel
theorem dX6_of_8 : decode cX6_of 8 = .ok (.iconst (-1), 1) := by decide +kernel
theorem dX6_of_9 : decode cX6_of 9 = .ok (.ireturn, 1) := by decide +kernel
theorem dX6_of_10 : decode cX6_of 10 = .ok (.iload_n 2, 1) := by decide +kernel
theorem dX6_of_11 : decode cX6_of 11 = .ok (.tableswitch 110 0 6 #[41, 51, 61, 70, 80, 92, 104], 41) := by decide +kernel
theorem dX6_of_52 : decode cX6_of 52 = .ok (.aload_n 0, 1) := by decide +kernel
theorem dX6_of_53 : decode cX6_of 53 = .ok (.getfield 23, 3) := by decide +kernel
theorem dX6_of_56 : decode cX6_of 56 = .ok (.bipush 24, 2) := by decide +kernel
theorem dX6_of_58 : decode cX6_of 58 = .ok (.iload_n 1, 1) := by decide +kernel
theorem dX6_of_59 : decode cX6_of 59 = .ok (.iadd, 1) := by decide +kernel
theorem dX6_of_60 : decode cX6_of 60 = .ok (.iaload, 1) := by decide +kernel
theorem dX6_of_61 : decode cX6_of 61 = .ok (.ireturn, 1) := by decide +kernel
theorem dX6_of_62 : decode cX6_of 62 = .ok (.aload_n 0, 1) := by decide +kernel
theorem dX6_of_63 : decode cX6_of 63 = .ok (.getfield 23, 3) := by decide +kernel
theorem dX6_of_66 : decode cX6_of 66 = .ok (.bipush 8, 2) := by decide +kernel
theorem dX6_of_68 : decode cX6_of 68 = .ok (.iload_n 1, 1) := by decide +kernel
theorem dX6_of_69 : decode cX6_of 69 = .ok (.iadd, 1) := by decide +kernel
theorem dX6_of_70 : decode cX6_of 70 = .ok (.iaload, 1) := by decide +kernel
theorem dX6_of_71 : decode cX6_of 71 = .ok (.ireturn, 1) := by decide +kernel
theorem dX6_of_72 : decode cX6_of 72 = .ok (.aload_n 0, 1) := by decide +kernel
theorem dX6_of_73 : decode cX6_of 73 = .ok (.getfield 23, 3) := by decide +kernel
theorem dX6_of_76 : decode cX6_of 76 = .ok (.iconst 2, 1) := by decide +kernel
theorem dX6_of_77 : decode cX6_of 77 = .ok (.iload_n 1, 1) := by decide +kernel
theorem dX6_of_78 : decode cX6_of 78 = .ok (.iadd, 1) := by decide +kernel
theorem dX6_of_79 : decode cX6_of 79 = .ok (.iaload, 1) := by decide +kernel
theorem dX6_of_80 : decode cX6_of 80 = .ok (.ireturn, 1) := by decide +kernel
theorem dX6_of_81 : decode cX6_of 81 = .ok (.aload_n 0, 1) := by decide +kernel
theorem dX6_of_82 : decode cX6_of 82 = .ok (.getfield 23, 3) := by decide +kernel
theorem dX6_of_85 : decode cX6_of 85 = .ok (.bipush 14, 2) := by decide +kernel
theorem dX6_of_87 : decode cX6_of 87 = .ok (.iload_n 1, 1) := by decide +kernel
theorem dX6_of_88 : decode cX6_of 88 = .ok (.iadd, 1) := by decide +kernel
theorem dX6_of_89 : decode cX6_of 89 = .ok (.iaload, 1) := by decide +kernel
theorem dX6_of_90 : decode cX6_of 90 = .ok (.ireturn, 1) := by decide +kernel
theorem dX6_of_91 : decode cX6_of 91 = .ok (.aload_n 0, 1) := by decide +kernel
theorem dX6_of_92 : decode cX6_of 92 = .ok (.getfield 23, 3) := by decide +kernel
theorem dX6_of_95 : decode cX6_of 95 = .ok (.bipush 20, 2) := by decide +kernel
theorem dX6_of_97 : decode cX6_of 97 = .ok (.iaload, 1) := by decide +kernel
theorem dX6_of_98 : decode cX6_of 98 = .ok (.iload_n 1, 1) := by decide +kernel
theorem dX6_of_99 : decode cX6_of 99 = .ok (.ishr, 1) := by decide +kernel
theorem dX6_of_100 : decode cX6_of 100 = .ok (.iconst 1, 1) := by decide +kernel
theorem dX6_of_101 : decode cX6_of 101 = .ok (.iand, 1) := by decide +kernel
theorem dX6_of_102 : decode cX6_of 102 = .ok (.ireturn, 1) := by decide +kernel
theorem dX6_of_103 : decode cX6_of 103 = .ok (.aload_n 0, 1) := by decide +kernel
theorem dX6_of_104 : decode cX6_of 104 = .ok (.getfield 23, 3) := by decide +kernel
theorem dX6_of_107 : decode cX6_of 107 = .ok (.bipush 21, 2) := by decide +kernel
theorem dX6_of_109 : decode cX6_of 109 = .ok (.iaload, 1) := by decide +kernel
theorem dX6_of_110 : decode cX6_of 110 = .ok (.iload_n 1, 1) := by decide +kernel
theorem dX6_of_111 : decode cX6_of 111 = .ok (.ishr, 1) := by decide +kernel
theorem dX6_of_112 : decode cX6_of 112 = .ok (.iconst 1, 1) := by decide +kernel
theorem dX6_of_113 : decode cX6_of 113 = .ok (.iand, 1) := by decide +kernel
theorem dX6_of_114 : decode cX6_of 114 = .ok (.ireturn, 1) := by decide +kernel
theorem dX6_of_115 : decode cX6_of 115 = .ok (.aload_n 0, 1) := by decide +kernel
theorem dX6_of_116 : decode cX6_of 116 = .ok (.iload_n 1, 1) := by decide +kernel
theorem dX6_of_117 : decode cX6_of 117 = .ok (.invokevirtual 62, 3) := by decide +kernel
theorem dX6_of_120 : decode cX6_of 120 = .ok (.ireturn, 1) := by decide +kernel
theorem dX6_of_121 : decode cX6_of 121 = .ok (.iconst (-1), 1) := by decide +kernel
theorem dX6_of_122 : decode cX6_of 122 = .ok (.ireturn, 1) := by decide +kernel
theorem dX6_at_0 : decode cX6_at 0 = .ok (.aload_n 0, 1) := by decide +kernel
theorem dX6_at_1 : decode cX6_at 1 = .ok (.iload_n 1, 1) := by decide +kernel
theorem dX6_at_2 : decode cX6_at 2 = .ok (.invokevirtual 66, 3) := by decide +kernel
theorem dX6_at_5 : decode cX6_at 5 = .ok (.ifCond .ne 5, 3) := by decide +kernel
theorem dX6_at_8 : decode cX6_at 8 = .ok (.iconst (-1), 1) := by decide +kernel
theorem dX6_at_9 : decode cX6_at 9 = .ok (.ireturn, 1) := by decide +kernel
theorem dX6_at_10 : decode cX6_at 10 = .ok (.iload_n 2, 1) := by decide +kernel
theorem dX6_at_11 : decode cX6_at 11 = .ok (.ifCond .ne 15, 3) := by decide +kernel
theorem dX6_at_14 : decode cX6_at 14 = .ok (.aload_n 0, 1) := by decide +kernel
theorem dX6_at_15 : decode cX6_at 15 = .ok (.getfield 23, 3) := by decide +kernel
theorem dX6_at_18 : decode cX6_at 18 = .ok (.bipush 31, 2) := by decide +kernel
theorem dX6_at_20 : decode cX6_at 20 = .ok (.iload_n 1, 1) := by decide +kernel
theorem dX6_at_21 : decode cX6_at 21 = .ok (.iadd, 1) := by decide +kernel
theorem dX6_at_22 : decode cX6_at 22 = .ok (.iaload, 1) := by decide +kernel
theorem dX6_at_23 : decode cX6_at 23 = .ok (.goto 34, 3) := by decide +kernel
theorem dX6_at_26 : decode cX6_at 26 = .ok (.iload_n 2, 1) := by decide +kernel
theorem dX6_at_27 : decode cX6_at 27 = .ok (.iconst 1, 1) := by decide +kernel
theorem dX6_at_28 : decode cX6_at 28 = .ok (.if_icmp .ne 15, 3) := by decide +kernel
theorem dX6_at_31 : decode cX6_at 31 = .ok (.aload_n 0, 1) := by decide +kernel
theorem dX6_at_32 : decode cX6_at 32 = .ok (.getfield 23, 3) := by decide +kernel
theorem dX6_at_35 : decode cX6_at 35 = .ok (.bipush 35, 2) := by decide +kernel
theorem dX6_at_37 : decode cX6_at 37 = .ok (.iload_n 1, 1) := by decide +kernel
theorem dX6_at_38 : decode cX6_at 38 = .ok (.iadd, 1) := by decide +kernel
theorem dX6_at_39 : decode cX6_at 39 = .ok (.iaload, 1) := by decide +kernel
theorem dX6_at_40 : decode cX6_at 40 = .ok (.goto 17, 3) := by decide +kernel
theorem dX6_at_43 : decode cX6_at 43 = .ok (.iload_n 2, 1) := by decide +kernel
theorem dX6_at_44 : decode cX6_at 44 = .ok (.iconst 2, 1) := by decide +kernel
theorem dX6_at_45 : decode cX6_at 45 = .ok (.if_icmp .ne 11, 3) := by decide +kernel
theorem dX6_at_48 : decode cX6_at 48 = .ok (.aload_n 0, 1) := by decide +kernel
theorem dX6_at_49 : decode cX6_at 49 = .ok (.iload_n 1, 1) := by decide +kernel
theorem dX6_at_50 : decode cX6_at 50 = .ok (.invokevirtual 69, 3) := by decide +kernel
theorem dX6_at_53 : decode cX6_at 53 = .ok (.goto 4, 3) := by decide +kernel
theorem dX6_at_56 : decode cX6_at 56 = .ok (.iconst (-1), 1) := by decide +kernel
theorem dX6_at_57 : decode cX6_at 57 = .ok (.ireturn, 1) := by decide +kernel
theorem dX6_type_0 : decode cX6_type 0 = .ok (.iload_n 1, 1) := by decide +kernel
theorem dX6_type_1 : decode cX6_type 1 = .ok (.bipush 32, 2) := by decide +kernel
theorem dX6_type_3 : decode cX6_type 3 = .ok (.bipush 126, 2) := by decide +kernel
theorem dX6_type_5 : decode cX6_type 5 = .ok (.invokestatic 38, 3) := by decide +kernel
theorem dX6_type_8 : decode cX6_type 8 = .ok (.ifCond .ne 5, 3) := by decide +kernel
theorem dX6_type_11 : decode cX6_type 11 = .ok (.iconst (-1), 1) := by decide +kernel
theorem dX6_type_12 : decode cX6_type 12 = .ok (.ireturn, 1) := by decide +kernel
theorem dX6_type_13 : decode cX6_type 13 = .ok (.aload_n 0, 1) := by decide +kernel
theorem dX6_type_14 : decode cX6_type 14 = .ok (.getfield 72, 3) := by decide +kernel
theorem dX6_type_17 : decode cX6_type 17 = .ok (.bipush 80, 2) := by decide +kernel
theorem dX6_type_19 : decode cX6_type 19 = .ok (.if_icmp .ne 6, 3) := by decide +kernel
theorem dX6_type_22 : decode cX6_type 22 = .ok (.bipush (-3), 2) := by decide +kernel
theorem dX6_type_24 : decode cX6_type 24 = .ok (.ireturn, 1) := by decide +kernel
theorem dX6_type_25 : decode cX6_type 25 = .ok (.aload_n 0, 1) := by decide +kernel
theorem dX6_type_26 : decode cX6_type 26 = .ok (.getfield 20, 3) := by decide +kernel
theorem dX6_type_29 : decode cX6_type 29 = .ok (.aload_n 0, 1) := by decide +kernel
theorem dX6_type_30 : decode cX6_type 30 = .ok (.getfield 72, 3) := by decide +kernel
theorem dX6_type_33 : decode cX6_type 33 = .ok (.iload_n 1, 1) := by decide +kernel
theorem dX6_type_34 : decode cX6_type 34 = .ok (.iastore, 1) := by decide +kernel
theorem dX6_type_35 : decode cX6_type 35 = .ok (.aload_n 0, 1) := by decide +kernel
theorem dX6_type_36 : decode cX6_type 36 = .ok (.dup, 1) := by decide +kernel
theorem dX6_type_37 : decode cX6_type 37 = .ok (.getfield 72, 3) := by decide +kernel
theorem dX6_type_40 : decode cX6_type 40 = .ok (.iconst 1, 1) := by decide +kernel
theorem dX6_type_41 : decode cX6_type 41 = .ok (.iadd, 1) := by decide +kernel
theorem dX6_type_42 : decode cX6_type 42 = .ok (.putfield 72, 3) := by decide +kernel
theorem dX6_type_45 : decode cX6_type 45 = .ok (.aload_n 0, 1) := by decide +kernel
theorem dX6_type_46 : decode cX6_type 46 = .ok (.getfield 72, 3) := by decide +kernel
theorem dX6_type_49 : decode cX6_type 49 = .ok (.ireturn, 1) := by decide +kernel
theorem dX6_peek_0 : decode cX6_peek 0 = .ok (.aload_n 0, 1) := by decide +kernel
theorem dX6_peek_1 : decode cX6_peek 1 = .ok (.getfield 76, 3) := by decide +kernel
theorem dX6_peek_4 : decode cX6_peek 4 = .ok (.aload_n 0, 1) := by decide +kernel
theorem dX6_peek_5 : decode cX6_peek 5 = .ok (.getfield 72, 3) := by decide +kernel
theorem dX6_peek_8 : decode cX6_peek 8 = .ok (.if_icmp .ge 30, 3) := by decide +kernel
theorem dX6_peek_11 : decode cX6_peek 11 = .ok (.aload_n 0, 1) := by decide +kernel
theorem dX6_peek_12 : decode cX6_peek 12 = .ok (.getfield 20, 3) := by decide +kernel
theorem dX6_peek_15 : decode cX6_peek 15 = .ok (.aload_n 0, 1) := by decide +kernel
theorem dX6_peek_16 : decode cX6_peek 16 = .ok (.getfield 76, 3) := by decide +kernel
theorem dX6_peek_19 : decode cX6_peek 19 = .ok (.iaload, 1) := by decide +kernel
theorem dX6_peek_20 : decode cX6_peek 20 = .ok (.bipush 32, 2) := by decide +kernel
theorem dX6_peek_22 : decode cX6_peek 22 = .ok (.if_icmp .ne 16, 3) := by decide +kernel
theorem dX6_peek_25 : decode cX6_peek 25 = .ok (.aload_n 0, 1) := by decide +kernel
theorem dX6_peek_26 : decode cX6_peek 26 = .ok (.dup, 1) := by decide +kernel
theorem dX6_peek_27 : decode cX6_peek 27 = .ok (.getfield 76, 3) := by decide +kernel
theorem dX6_peek_30 : decode cX6_peek 30 = .ok (.iconst 1, 1) := by decide +kernel
theorem dX6_peek_31 : decode cX6_peek 31 = .ok (.iadd, 1) := by decide +kernel
theorem dX6_peek_32 : decode cX6_peek 32 = .ok (.putfield 76, 3) := by decide +kernel
theorem dX6_peek_35 : decode cX6_peek 35 = .ok (.goto (-35), 3) := by decide +kernel
theorem dX6_peek_38 : decode cX6_peek 38 = .ok (.aload_n 0, 1) := by decide +kernel
theorem dX6_peek_39 : decode cX6_peek 39 = .ok (.getfield 76, 3) := by decide +kernel
theorem dX6_peek_42 : decode cX6_peek 42 = .ok (.aload_n 0, 1) := by decide +kernel
theorem dX6_peek_43 : decode cX6_peek 43 = .ok (.getfield 72, 3) := by decide +kernel
theorem dX6_peek_46 : decode cX6_peek 46 = .ok (.if_icmp .ge 15, 3) := by decide +kernel
theorem dX6_peek_49 : decode cX6_peek 49 = .ok (.aload_n 0, 1) := by decide +kernel
theorem dX6_peek_50 : decode cX6_peek 50 = .ok (.getfield 20, 3) := by decide +kernel
theorem dX6_peek_53 : decode cX6_peek 53 = .ok (.aload_n 0, 1) := by decide +kernel
theorem dX6_peek_54 : decode cX6_peek 54 = .ok (.getfield 76, 3) := by decide +kernel
theorem dX6_peek_57 : decode cX6_peek 57 = .ok (.iaload, 1) := by decide +kernel
theorem dX6_peek_58 : decode cX6_peek 58 = .ok (.goto 4, 3) := by decide +kernel
theorem dX6_peek_61 : decode cX6_peek 61 = .ok (.iconst 0, 1) := by decide +kernel
theorem dX6_peek_62 : decode cX6_peek 62 = .ok (.ireturn, 1) := by decide +kernel
theorem dX6_isSign_0 : decode cX6_isSign 0 = .ok (.aload_n 0, 1) := by decide +kernel
theorem dX6_isSign_1 : decode cX6_isSign 1 = .ok (.invokevirtual 79, 3) := by decide +kernel
theorem dX6_isSign_4 : decode cX6_isSign 4 = .ok (.iload_n 1, 1) := by decide +kernel
theorem dX6_isSign_5 : decode cX6_isSign 5 = .ok (.if_icmp .eq 5, 3) := by decide +kernel
theorem dX6_isSign_8 : decode cX6_isSign 8 = .ok (.iconst 0, 1) := by decide +kernel
theorem dX6_isSign_9 : decode cX6_isSign 9 = .ok (.ireturn, 1) := by decide +kernel
theorem dX6_isSign_10 : decode cX6_isSign 10 = .ok (.aload_n 0, 1) := by decide +kernel
theorem dX6_isSign_11 : decode cX6_isSign 11 = .ok (.dup, 1) := by decide +kernel
theorem dX6_isSign_12 : decode cX6_isSign 12 = .ok (.getfield 76, 3) := by decide +kernel
theorem dX6_isSign_15 : decode cX6_isSign 15 = .ok (.iconst 1, 1) := by decide +kernel
theorem dX6_isSign_16 : decode cX6_isSign 16 = .ok (.iadd, 1) := by decide +kernel
theorem dX6_isSign_17 : decode cX6_isSign 17 = .ok (.putfield 76, 3) := by decide +kernel
theorem dX6_isSign_20 : decode cX6_isSign 20 = .ok (.iconst 1, 1) := by decide +kernel
theorem dX6_isSign_21 : decode cX6_isSign 21 = .ok (.ireturn, 1) := by decide +kernel
theorem dX6_isDigit_0 : decode cX6_isDigit 0 = .ok (.aload_n 0, 1) := by decide +kernel
theorem dX6_isDigit_1 : decode cX6_isDigit 1 = .ok (.aload_n 0, 1) := by decide +kernel
theorem dX6_isDigit_2 : decode cX6_isDigit 2 = .ok (.invokevirtual 79, 3) := by decide +kernel
theorem dX6_isDigit_5 : decode cX6_isDigit 5 = .ok (.bipush 48, 2) := by decide +kernel
theorem dX6_isDigit_7 : decode cX6_isDigit 7 = .ok (.isub, 1) := by decide +kernel
theorem dX6_isDigit_8 : decode cX6_isDigit 8 = .ok (.putfield 83, 3) := by decide +kernel
theorem dX6_isDigit_11 : decode cX6_isDigit 11 = .ok (.aload_n 0, 1) := by decide +kernel
theorem dX6_isDigit_12 : decode cX6_isDigit 12 = .ok (.getfield 83, 3) := by decide +kernel
theorem dX6_isDigit_15 : decode cX6_isDigit 15 = .ok (.iload_n 1, 1) := by decide +kernel
theorem dX6_isDigit_16 : decode cX6_isDigit 16 = .ok (.iload_n 2, 1) := by decide +kernel
theorem dX6_isDigit_17 : decode cX6_isDigit 17 = .ok (.invokestatic 38, 3) := by decide +kernel
theorem dX6_isDigit_20 : decode cX6_isDigit 20 = .ok (.ifCond .ne 5, 3) := by decide +kernel
theorem dX6_isDigit_23 : decode cX6_isDigit 23 = .ok (.iconst 0, 1) := by decide +kernel
theorem dX6_isDigit_24 : decode cX6_isDigit 24 = .ok (.ireturn, 1) := by decide +kernel
theorem dX6_isDigit_25 : decode cX6_isDigit 25 = .ok (.aload_n 0, 1) := by decide +kernel
theorem dX6_isDigit_26 : decode cX6_isDigit 26 = .ok (.dup, 1) := by decide +kernel
theorem dX6_isDigit_27 : decode cX6_isDigit 27 = .ok (.getfield 76, 3) := by decide +kernel
theorem dX6_isDigit_30 : decode cX6_isDigit 30 = .ok (.iconst 1, 1) := by decide +kernel
theorem dX6_isDigit_31 : decode cX6_isDigit 31 = .ok (.iadd, 1) := by decide +kernel
theorem dX6_isDigit_32 : decode cX6_isDigit 32 = .ok (.putfield 76, 3) := by decide +kernel
theorem dX6_isDigit_35 : decode cX6_isDigit 35 = .ok (.iconst 1, 1) := by decide +kernel
theorem dX6_isDigit_36 : decode cX6_isDigit 36 = .ok (.ireturn, 1) := by decide +kernel
theorem dX6_isNumber_0 : decode cX6_isNumber 0 = .ok (.aload_n 0, 1) := by decide +kernel
theorem dX6_isNumber_1 : decode cX6_isNumber 1 = .ok (.iconst 0, 1) := by decide +kernel
theorem dX6_isNumber_2 : decode cX6_isNumber 2 = .ok (.bipush 9, 2) := by decide +kernel
theorem dX6_isNumber_4 : decode cX6_isNumber 4 = .ok (.invokevirtual 86, 3) := by decide +kernel
theorem dX6_isNumber_7 : decode cX6_isNumber 7 = .ok (.ifCond .ne 5, 3) := by decide +kernel
theorem dX6_isNumber_10 : decode cX6_isNumber 10 = .ok (.iconst 0, 1) := by decide +kernel
theorem dX6_isNumber_11 : decode cX6_isNumber 11 = .ok (.ireturn, 1) := by decide +kernel
theorem dX6_isNumber_12 : decode cX6_isNumber 12 = .ok (.aload_n 0, 1) := by decide +kernel
theorem dX6_isNumber_13 : decode cX6_isNumber 13 = .ok (.getfield 83, 3) := by decide +kernel
theorem dX6_isNumber_16 : decode cX6_isNumber 16 = .ok (.istore_n 1, 1) := by decide +kernel
theorem dX6_isNumber_17 : decode cX6_isNumber 17 = .ok (.aload_n 0, 1) := by decide +kernel
theorem dX6_isNumber_18 : decode cX6_isNumber 18 = .ok (.getfield 76, 3) := by decide +kernel
theorem dX6_isNumber_21 : decode cX6_isNumber 21 = .ok (.aload_n 0, 1) := by decide +kernel
theorem dX6_isNumber_22 : decode cX6_isNumber 22 = .ok (.getfield 72, 3) := by decide +kernel
theorem dX6_isNumber_25 : decode cX6_isNumber 25 = .ok (.if_icmp .ge 50, 3) := by decide +kernel
theorem dX6_isNumber_28 : decode cX6_isNumber 28 = .ok (.aload_n 0, 1) := by decide +kernel
theorem dX6_isNumber_29 : decode cX6_isNumber 29 = .ok (.getfield 20, 3) := by decide +kernel
theorem dX6_isNumber_32 : decode cX6_isNumber 32 = .ok (.aload_n 0, 1) := by decide +kernel
theorem dX6_isNumber_33 : decode cX6_isNumber 33 = .ok (.getfield 76, 3) := by decide +kernel
theorem dX6_isNumber_36 : decode cX6_isNumber 36 = .ok (.iaload, 1) := by decide +kernel
theorem dX6_isNumber_37 : decode cX6_isNumber 37 = .ok (.bipush 48, 2) := by decide +kernel
theorem dX6_isNumber_39 : decode cX6_isNumber 39 = .ok (.bipush 57, 2) := by decide +kernel
theorem dX6_isNumber_41 : decode cX6_isNumber 41 = .ok (.invokestatic 38, 3) := by decide +kernel
theorem dX6_isNumber_44 : decode cX6_isNumber 44 = .ok (.ifCond .eq 31, 3) := by decide +kernel
theorem dX6_isNumber_47 : decode cX6_isNumber 47 = .ok (.bipush 10, 2) := by decide +kernel
theorem dX6_isNumber_49 : decode cX6_isNumber 49 = .ok (.iload_n 1, 1) := by decide +kernel
theorem dX6_isNumber_50 : decode cX6_isNumber 50 = .ok (.imul, 1) := by decide +kernel
theorem dX6_isNumber_51 : decode cX6_isNumber 51 = .ok (.aload_n 0, 1) := by decide +kernel
theorem dX6_isNumber_52 : decode cX6_isNumber 52 = .ok (.getfield 20, 3) := by decide +kernel
theorem dX6_isNumber_55 : decode cX6_isNumber 55 = .ok (.aload_n 0, 1) := by decide +kernel
theorem dX6_isNumber_56 : decode cX6_isNumber 56 = .ok (.getfield 76, 3) := by decide +kernel
theorem dX6_isNumber_59 : decode cX6_isNumber 59 = .ok (.iaload, 1) := by decide +kernel
theorem dX6_isNumber_60 : decode cX6_isNumber 60 = .ok (.iadd, 1) := by decide +kernel
theorem dX6_isNumber_61 : decode cX6_isNumber 61 = .ok (.bipush 48, 2) := by decide +kernel
theorem dX6_isNumber_63 : decode cX6_isNumber 63 = .ok (.isub, 1) := by decide +kernel
theorem dX6_isNumber_64 : decode cX6_isNumber 64 = .ok (.istore_n 1, 1) := by decide +kernel
theorem dX6_isNumber_65 : decode cX6_isNumber 65 = .ok (.aload_n 0, 1) := by decide +kernel
theorem dX6_isNumber_66 : decode cX6_isNumber 66 = .ok (.dup, 1) := by decide +kernel
theorem dX6_isNumber_67 : decode cX6_isNumber 67 = .ok (.getfield 76, 3) := by decide +kernel
theorem dX6_isNumber_70 : decode cX6_isNumber 70 = .ok (.iconst 1, 1) := by decide +kernel
theorem dX6_isNumber_71 : decode cX6_isNumber 71 = .ok (.iadd, 1) := by decide +kernel
theorem dX6_isNumber_72 : decode cX6_isNumber 72 = .ok (.putfield 76, 3) := by decide +kernel
theorem dX6_isNumber_75 : decode cX6_isNumber 75 = .ok (.aload_n 0, 1) := by decide +kernel
theorem dX6_isNumber_76 : decode cX6_isNumber 76 = .ok (.iload_n 1, 1) := by decide +kernel
theorem dX6_isNumber_77 : decode cX6_isNumber 77 = .ok (.putfield 83, 3) := by decide +kernel
theorem dX6_isNumber_80 : decode cX6_isNumber 80 = .ok (.aload_n 0, 1) := by decide +kernel
theorem dX6_isNumber_81 : decode cX6_isNumber 81 = .ok (.getfield 76, 3) := by decide +kernel
theorem dX6_isNumber_84 : decode cX6_isNumber 84 = .ok (.aload_n 0, 1) := by decide +kernel
theorem dX6_isNumber_85 : decode cX6_isNumber 85 = .ok (.getfield 72, 3) := by decide +kernel
theorem dX6_isNumber_88 : decode cX6_isNumber 88 = .ok (.if_icmp .eq 22, 3) := by decide +kernel
theorem dX6_isNumber_91 : decode cX6_isNumber 91 = .ok (.aload_n 0, 1) := by decide +kernel
theorem dX6_isNumber_92 : decode cX6_isNumber 92 = .ok (.getfield 20, 3) := by decide +kernel
theorem dX6_isNumber_95 : decode cX6_isNumber 95 = .ok (.aload_n 0, 1) := by decide +kernel
theorem dX6_isNumber_96 : decode cX6_isNumber 96 = .ok (.getfield 76, 3) := by decide +kernel
theorem dX6_isNumber_99 : decode cX6_isNumber 99 = .ok (.iaload, 1) := by decide +kernel
theorem dX6_isNumber_100 : decode cX6_isNumber 100 = .ok (.bipush 48, 2) := by decide +kernel
theorem dX6_isNumber_102 : decode cX6_isNumber 102 = .ok (.bipush 57, 2) := by decide +kernel
theorem dX6_isNumber_104 : decode cX6_isNumber 104 = .ok (.invokestatic 38, 3) := by decide +kernel
theorem dX6_isNumber_107 : decode cX6_isNumber 107 = .ok (.ifCond .ne 7, 3) := by decide +kernel
theorem dX6_isNumber_110 : decode cX6_isNumber 110 = .ok (.iconst 1, 1) := by decide +kernel
theorem dX6_isNumber_111 : decode cX6_isNumber 111 = .ok (.goto 4, 3) := by decide +kernel
theorem dX6_isNumber_114 : decode cX6_isNumber 114 = .ok (.iconst 0, 1) := by decide +kernel
theorem dX6_isNumber_115 : decode cX6_isNumber 115 = .ok (.ireturn, 1) := by decide +kernel
theorem dX6_kindBy_0 : decode cX6_kindBy 0 = .ok (.iload_n 0, 1) := by decide +kernel
theorem dX6_kindBy_1 : decode cX6_kindBy 1 = .ok (.bipush 112, 2) := by decide +kernel
theorem dX6_kindBy_3 : decode cX6_kindBy 3 = .ok (.if_icmp .ne 7, 3) := by decide +kernel
theorem dX6_kindBy_6 : decode cX6_kindBy 6 = .ok (.iconst 0, 1) := by decide +kernel
theorem dX6_kindBy_7 : decode cX6_kindBy 7 = .ok (.goto 44, 3) := by decide +kernel
theorem dX6_kindBy_10 : decode cX6_kindBy 10 = .ok (.iload_n 0, 1) := by decide +kernel
theorem dX6_kindBy_11 : decode cX6_kindBy 11 = .ok (.bipush 102, 2) := by decide +kernel
theorem dX6_kindBy_13 : decode cX6_kindBy 13 = .ok (.if_icmp .ne 7, 3) := by decide +kernel
theorem dX6_kindBy_16 : decode cX6_kindBy 16 = .ok (.iconst 1, 1) := by decide +kernel
theorem dX6_kindBy_17 : decode cX6_kindBy 17 = .ok (.goto 34, 3) := by decide +kernel
theorem dX6_kindBy_20 : decode cX6_kindBy 20 = .ok (.iload_n 0, 1) := by decide +kernel
theorem dX6_kindBy_21 : decode cX6_kindBy 21 = .ok (.bipush 99, 2) := by decide +kernel
theorem dX6_kindBy_23 : decode cX6_kindBy 23 = .ok (.if_icmp .ne 7, 3) := by decide +kernel
theorem dX6_kindBy_26 : decode cX6_kindBy 26 = .ok (.iconst 2, 1) := by decide +kernel
theorem dX6_kindBy_27 : decode cX6_kindBy 27 = .ok (.goto 24, 3) := by decide +kernel
theorem dX6_kindBy_30 : decode cX6_kindBy 30 = .ok (.iload_n 0, 1) := by decide +kernel
theorem dX6_kindBy_31 : decode cX6_kindBy 31 = .ok (.bipush 100, 2) := by decide +kernel
theorem dX6_kindBy_33 : decode cX6_kindBy 33 = .ok (.if_icmp .ne 7, 3) := by decide +kernel
theorem dX6_kindBy_36 : decode cX6_kindBy 36 = .ok (.iconst 3, 1) := by decide +kernel
theorem dX6_kindBy_37 : decode cX6_kindBy 37 = .ok (.goto 14, 3) := by decide +kernel
theorem dX6_kindBy_40 : decode cX6_kindBy 40 = .ok (.iload_n 0, 1) := by decide +kernel
theorem dX6_kindBy_41 : decode cX6_kindBy 41 = .ok (.bipush 114, 2) := by decide +kernel
theorem dX6_kindBy_43 : decode cX6_kindBy 43 = .ok (.if_icmp .ne 7, 3) := by decide +kernel
theorem dX6_kindBy_46 : decode cX6_kindBy 46 = .ok (.iconst 4, 1) := by decide +kernel
theorem dX6_kindBy_47 : decode cX6_kindBy 47 = .ok (.goto 4, 3) := by decide +kernel
theorem dX6_kindBy_50 : decode cX6_kindBy 50 = .ok (.iconst (-1), 1) := by decide +kernel
theorem dX6_kindBy_51 : decode cX6_kindBy 51 = .ok (.ireturn, 1) := by decide +kernel
theorem dX6_isOneItem_0 : decode cX6_isOneItem 0 = .ok (.aload_n 0, 1) := by decide +kernel
theorem dX6_isOneItem_1 : decode cX6_isOneItem 1 = .ok (.invokevirtual 79, 3) := by decide +kernel
theorem dX6_isOneItem_4 : decode cX6_isOneItem 4 = .ok (.invokestatic 89, 3) := by decide +kernel
theorem dX6_isOneItem_7 : decode cX6_isOneItem 7 = .ok (.istore_n 1, 1) := by decide +kernel
theorem dX6_isOneItem_8 : decode cX6_isOneItem 8 = .ok (.iload_n 1, 1) := by decide +kernel
theorem dX6_isOneItem_9 : decode cX6_isOneItem 9 = .ok (.ifCond .ge 5, 3) := by decide +kernel
theorem dX6_isOneItem_12 : decode cX6_isOneItem 12 = .ok (.iconst 0, 1) := by decide +kernel
theorem dX6_isOneItem_13 : decode cX6_isOneItem 13 = .ok (.ireturn, 1) := by decide +kernel
theorem dX6_isOneItem_14 : decode cX6_isOneItem 14 = .ok (.aload_n 0, 1) := by decide +kernel
theorem dX6_isOneItem_15 : decode cX6_isOneItem 15 = .ok (.dup, 1) := by decide +kernel
theorem dX6_isOneItem_16 : decode cX6_isOneItem 16 = .ok (.getfield 76, 3) := by decide +kernel
theorem dX6_isOneItem_19 : decode cX6_isOneItem 19 = .ok (.iconst 1, 1) := by decide +kernel
theorem dX6_isOneItem_20 : decode cX6_isOneItem 20 = .ok (.iadd, 1) := by decide +kernel
theorem dX6_isOneItem_21 : decode cX6_isOneItem 21 = .ok (.putfield 76, 3) := by decide +kernel
theorem dX6_isOneItem_24 : decode cX6_isOneItem 24 = .ok (.aload_n 0, 1) := by decide +kernel
theorem dX6_isOneItem_25 : decode cX6_isOneItem 25 = .ok (.iconst 0, 1) := by decide +kernel
theorem dX6_isOneItem_26 : decode cX6_isOneItem 26 = .ok (.iconst 3, 1) := by decide +kernel
theorem dX6_isOneItem_27 : decode cX6_isOneItem 27 = .ok (.invokevirtual 86, 3) := by decide +kernel
theorem dX6_isOneItem_30 : decode cX6_isOneItem 30 = .ok (.ifCond .ne 5, 3) := by decide +kernel
theorem dX6_isOneItem_33 : decode cX6_isOneItem 33 = .ok (.iconst 0, 1) := by decide +kernel
theorem dX6_isOneItem_34 : decode cX6_isOneItem 34 = .ok (.ireturn, 1) := by decide +kernel
theorem dX6_isOneItem_35 : decode cX6_isOneItem 35 = .ok (.aload_n 0, 1) := by decide +kernel
theorem dX6_isOneItem_36 : decode cX6_isOneItem 36 = .ok (.getfield 83, 3) := by decide +kernel
theorem dX6_isOneItem_39 : decode cX6_isOneItem 39 = .ok (.istore_n 2, 1) := by decide +kernel
theorem dX6_isOneItem_40 : decode cX6_isOneItem 40 = .ok (.aload_n 0, 1) := by decide +kernel
theorem dX6_isOneItem_41 : decode cX6_isOneItem 41 = .ok (.iconst 0, 1) := by decide +kernel
theorem dX6_isOneItem_42 : decode cX6_isOneItem 42 = .ok (.bipush 9, 2) := by decide +kernel
theorem dX6_isOneItem_44 : decode cX6_isOneItem 44 = .ok (.invokevirtual 86, 3) := by decide +kernel
theorem dX6_isOneItem_47 : decode cX6_isOneItem 47 = .ok (.ifCond .ne 5, 3) := by decide +kernel
theorem dX6_isOneItem_50 : decode cX6_isOneItem 50 = .ok (.iconst 0, 1) := by decide +kernel
theorem dX6_isOneItem_51 : decode cX6_isOneItem 51 = .ok (.ireturn, 1) := by decide +kernel
theorem dX6_isOneItem_52 : decode cX6_isOneItem 52 = .ok (.aload_n 0, 1) := by decide +kernel
theorem dX6_isOneItem_53 : decode cX6_isOneItem 53 = .ok (.getfield 29, 3) := by decide +kernel
theorem dX6_isOneItem_56 : decode cX6_isOneItem 56 = .ok (.iload_n 1, 1) := by decide +kernel
theorem dX6_isOneItem_57 : decode cX6_isOneItem 57 = .ok (.iload_n 2, 1) := by decide +kernel
theorem dX6_isOneItem_58 : decode cX6_isOneItem 58 = .ok (.aload_n 0, 1) := by decide +kernel
theorem dX6_isOneItem_59 : decode cX6_isOneItem 59 = .ok (.getfield 83, 3) := by decide +kernel
theorem dX6_isOneItem_62 : decode cX6_isOneItem 62 = .ok (.invokestatic 42, 3) := by decide +kernel
theorem dX6_isOneItem_65 : decode cX6_isOneItem 65 = .ok (.istore_n 3, 1) := by decide +kernel
theorem dX6_isOneItem_66 : decode cX6_isOneItem 66 = .ok (.aload_n 0, 1) := by decide +kernel
theorem dX6_isOneItem_67 : decode cX6_isOneItem 67 = .ok (.bipush 61, 2) := by decide +kernel
theorem dX6_isOneItem_69 : decode cX6_isOneItem 69 = .ok (.invokevirtual 92, 3) := by decide +kernel
theorem dX6_isOneItem_72 : decode cX6_isOneItem 72 = .ok (.ifCond .eq 24, 3) := by decide +kernel
theorem dX6_isOneItem_75 : decode cX6_isOneItem 75 = .ok (.aload_n 0, 1) := by decide +kernel
theorem dX6_isOneItem_76 : decode cX6_isOneItem 76 = .ok (.invokevirtual 95, 3) := by decide +kernel
theorem dX6_isOneItem_79 : decode cX6_isOneItem 79 = .ok (.ifCond .ne 5, 3) := by decide +kernel
theorem dX6_isOneItem_82 : decode cX6_isOneItem 82 = .ok (.iconst 0, 1) := by decide +kernel
theorem dX6_isOneItem_83 : decode cX6_isOneItem 83 = .ok (.ireturn, 1) := by decide +kernel
theorem dX6_isOneItem_84 : decode cX6_isOneItem 84 = .ok (.aload_n 0, 1) := by decide +kernel
theorem dX6_isOneItem_85 : decode cX6_isOneItem 85 = .ok (.getfield 29, 3) := by decide +kernel
theorem dX6_isOneItem_88 : decode cX6_isOneItem 88 = .ok (.iconst 2, 1) := by decide +kernel
theorem dX6_isOneItem_89 : decode cX6_isOneItem 89 = .ok (.iload_n 3, 1) := by decide +kernel
theorem dX6_isOneItem_90 : decode cX6_isOneItem 90 = .ok (.iadd, 1) := by decide +kernel
theorem dX6_isOneItem_91 : decode cX6_isOneItem 91 = .ok (.aload_n 0, 1) := by decide +kernel
theorem dX6_isOneItem_92 : decode cX6_isOneItem 92 = .ok (.getfield 83, 3) := by decide +kernel
theorem dX6_isOneItem_95 : decode cX6_isOneItem 95 = .ok (.iastore, 1) := by decide +kernel
end
section
theorem dX6_isOneItem_96 : decode cX6_isOneItem 96 = .ok (.aload_n 0, 1) := by decide +kernel
theorem dX6_isOneItem_97 : decode cX6_isOneItem 97 = .ok (.bipush 120, 2) := by decide +kernel
theorem dX6_isOneItem_99 : decode cX6_isOneItem 99 = .ok (.invokevirtual 92, 3) := by decide +kernel
theorem dX6_isOneItem_102 : decode cX6_isOneItem 102 = .ok (.ifCond .eq 23, 3) := by decide +kernel
theorem dX6_isOneItem_105 : decode cX6_isOneItem 105 = .ok (.aload_n 0, 1) := by decide +kernel
theorem dX6_isOneItem_106 : decode cX6_isOneItem 106 = .ok (.getfield 29, 3) := by decide +kernel
theorem dX6_isOneItem_109 : decode cX6_isOneItem 109 = .ok (.bipush 20, 2) := by decide +kernel
theorem dX6_isOneItem_111 : decode cX6_isOneItem 111 = .ok (.aload_n 0, 1) := by decide +kernel
theorem dX6_isOneItem_112 : decode cX6_isOneItem 112 = .ok (.getfield 29, 3) := by decide +kernel
theorem dX6_isOneItem_115 : decode cX6_isOneItem 115 = .ok (.bipush 20, 2) := by decide +kernel
theorem dX6_isOneItem_117 : decode cX6_isOneItem 117 = .ok (.iaload, 1) := by decide +kernel
theorem dX6_isOneItem_118 : decode cX6_isOneItem 118 = .ok (.iconst 1, 1) := by decide +kernel
theorem dX6_isOneItem_119 : decode cX6_isOneItem 119 = .ok (.iload_n 3, 1) := by decide +kernel
theorem dX6_isOneItem_120 : decode cX6_isOneItem 120 = .ok (.ishl, 1) := by decide +kernel
theorem dX6_isOneItem_121 : decode cX6_isOneItem 121 = .ok (.iconst (-1), 1) := by decide +kernel
theorem dX6_isOneItem_122 : decode cX6_isOneItem 122 = .ok (.ixor, 1) := by decide +kernel
theorem dX6_isOneItem_123 : decode cX6_isOneItem 123 = .ok (.iand, 1) := by decide +kernel
theorem dX6_isOneItem_124 : decode cX6_isOneItem 124 = .ok (.iastore, 1) := by decide +kernel
theorem dX6_isOneItem_125 : decode cX6_isOneItem 125 = .ok (.iconst 1, 1) := by decide +kernel
theorem dX6_isOneItem_126 : decode cX6_isOneItem 126 = .ok (.ireturn, 1) := by decide +kernel
theorem dX6_isThiefItem_0 : decode cX6_isThiefItem 0 = .ok (.aload_n 0, 1) := by decide +kernel
theorem dX6_isThiefItem_1 : decode cX6_isThiefItem 1 = .ok (.iconst 0, 1) := by decide +kernel
theorem dX6_isThiefItem_2 : decode cX6_isThiefItem 2 = .ok (.bipush 9, 2) := by decide +kernel
theorem dX6_isThiefItem_4 : decode cX6_isThiefItem 4 = .ok (.invokevirtual 86, 3) := by decide +kernel
theorem dX6_isThiefItem_7 : decode cX6_isThiefItem 7 = .ok (.ifCond .ne 5, 3) := by decide +kernel
theorem dX6_isThiefItem_10 : decode cX6_isThiefItem 10 = .ok (.iconst 0, 1) := by decide +kernel
theorem dX6_isThiefItem_11 : decode cX6_isThiefItem 11 = .ok (.ireturn, 1) := by decide +kernel
theorem dX6_isThiefItem_12 : decode cX6_isThiefItem 12 = .ok (.aload_n 0, 1) := by decide +kernel
theorem dX6_isThiefItem_13 : decode cX6_isThiefItem 13 = .ok (.getfield 83, 3) := by decide +kernel
theorem dX6_isThiefItem_16 : decode cX6_isThiefItem 16 = .ok (.istore_n 1, 1) := by decide +kernel
theorem dX6_isThiefItem_17 : decode cX6_isThiefItem 17 = .ok (.aload_n 0, 1) := by decide +kernel
theorem dX6_isThiefItem_18 : decode cX6_isThiefItem 18 = .ok (.iconst 0, 1) := by decide +kernel
theorem dX6_isThiefItem_19 : decode cX6_isThiefItem 19 = .ok (.iconst 4, 1) := by decide +kernel
theorem dX6_isThiefItem_20 : decode cX6_isThiefItem 20 = .ok (.invokevirtual 86, 3) := by decide +kernel
theorem dX6_isThiefItem_23 : decode cX6_isThiefItem 23 = .ok (.ifCond .ne 5, 3) := by decide +kernel
theorem dX6_isThiefItem_26 : decode cX6_isThiefItem 26 = .ok (.iconst 0, 1) := by decide +kernel
theorem dX6_isThiefItem_27 : decode cX6_isThiefItem 27 = .ok (.ireturn, 1) := by decide +kernel
theorem dX6_isThiefItem_28 : decode cX6_isThiefItem 28 = .ok (.aload_n 0, 1) := by decide +kernel
theorem dX6_isThiefItem_29 : decode cX6_isThiefItem 29 = .ok (.getfield 29, 3) := by decide +kernel
theorem dX6_isThiefItem_32 : decode cX6_isThiefItem 32 = .ok (.iload_n 1, 1) := by decide +kernel
theorem dX6_isThiefItem_33 : decode cX6_isThiefItem 33 = .ok (.aload_n 0, 1) := by decide +kernel
theorem dX6_isThiefItem_34 : decode cX6_isThiefItem 34 = .ok (.getfield 83, 3) := by decide +kernel
theorem dX6_isThiefItem_37 : decode cX6_isThiefItem 37 = .ok (.invokestatic 46, 3) := by decide +kernel
theorem dX6_isThiefItem_40 : decode cX6_isThiefItem 40 = .ok (.pop, 1) := by decide +kernel
theorem dX6_isThiefItem_41 : decode cX6_isThiefItem 41 = .ok (.iconst 1, 1) := by decide +kernel
theorem dX6_isThiefItem_42 : decode cX6_isThiefItem 42 = .ok (.ireturn, 1) := by decide +kernel
theorem dX6_isTown_0 : decode cX6_isTown 0 = .ok (.aload_n 0, 1) := by decide +kernel
theorem dX6_isTown_1 : decode cX6_isTown 1 = .ok (.invokevirtual 95, 3) := by decide +kernel
theorem dX6_isTown_4 : decode cX6_isTown 4 = .ok (.ifCond .ne 5, 3) := by decide +kernel
theorem dX6_isTown_7 : decode cX6_isTown 7 = .ok (.iconst 0, 1) := by decide +kernel
theorem dX6_isTown_8 : decode cX6_isTown 8 = .ok (.ireturn, 1) := by decide +kernel
theorem dX6_isTown_9 : decode cX6_isTown 9 = .ok (.aload_n 0, 1) := by decide +kernel
theorem dX6_isTown_10 : decode cX6_isTown 10 = .ok (.getfield 29, 3) := by decide +kernel
theorem dX6_isTown_13 : decode cX6_isTown 13 = .ok (.bipush 22, 2) := by decide +kernel
theorem dX6_isTown_15 : decode cX6_isTown 15 = .ok (.aload_n 0, 1) := by decide +kernel
theorem dX6_isTown_16 : decode cX6_isTown 16 = .ok (.getfield 83, 3) := by decide +kernel
theorem dX6_isTown_19 : decode cX6_isTown 19 = .ok (.iastore, 1) := by decide +kernel
theorem dX6_isTown_20 : decode cX6_isTown 20 = .ok (.aload_n 0, 1) := by decide +kernel
theorem dX6_isTown_21 : decode cX6_isTown 21 = .ok (.bipush 59, 2) := by decide +kernel
theorem dX6_isTown_23 : decode cX6_isTown 23 = .ok (.invokevirtual 92, 3) := by decide +kernel
theorem dX6_isTown_26 : decode cX6_isTown 26 = .ok (.ifCond .ne 5, 3) := by decide +kernel
theorem dX6_isTown_29 : decode cX6_isTown 29 = .ok (.iconst 0, 1) := by decide +kernel
theorem dX6_isTown_30 : decode cX6_isTown 30 = .ok (.ireturn, 1) := by decide +kernel
theorem dX6_isTown_31 : decode cX6_isTown 31 = .ok (.iconst 1, 1) := by decide +kernel
theorem dX6_isTown_32 : decode cX6_isTown 32 = .ok (.istore_n 1, 1) := by decide +kernel
theorem dX6_isTown_33 : decode cX6_isTown 33 = .ok (.iload_n 1, 1) := by decide +kernel
theorem dX6_isTown_34 : decode cX6_isTown 34 = .ok (.ifCond .eq 42, 3) := by decide +kernel
theorem dX6_isTown_37 : decode cX6_isTown 37 = .ok (.aload_n 0, 1) := by decide +kernel
theorem dX6_isTown_38 : decode cX6_isTown 38 = .ok (.invokevirtual 99, 3) := by decide +kernel
theorem dX6_isTown_41 : decode cX6_isTown 41 = .ok (.ifCond .ne 5, 3) := by decide +kernel
theorem dX6_isTown_44 : decode cX6_isTown 44 = .ok (.iconst 0, 1) := by decide +kernel
theorem dX6_isTown_45 : decode cX6_isTown 45 = .ok (.ireturn, 1) := by decide +kernel
theorem dX6_isTown_46 : decode cX6_isTown 46 = .ok (.aload_n 0, 1) := by decide +kernel
theorem dX6_isTown_47 : decode cX6_isTown 47 = .ok (.getfield 29, 3) := by decide +kernel
theorem dX6_isTown_50 : decode cX6_isTown 50 = .ok (.bipush 23, 2) := by decide +kernel
theorem dX6_isTown_52 : decode cX6_isTown 52 = .ok (.iaload, 1) := by decide +kernel
theorem dX6_isTown_53 : decode cX6_isTown 53 = .ok (.bipush 6, 2) := by decide +kernel
theorem dX6_isTown_55 : decode cX6_isTown 55 = .ok (.if_icmp .ge 16, 3) := by decide +kernel
theorem dX6_isTown_58 : decode cX6_isTown 58 = .ok (.aload_n 0, 1) := by decide +kernel
theorem dX6_isTown_59 : decode cX6_isTown 59 = .ok (.bipush 44, 2) := by decide +kernel
theorem dX6_isTown_61 : decode cX6_isTown 61 = .ok (.invokevirtual 92, 3) := by decide +kernel
theorem dX6_isTown_64 : decode cX6_isTown 64 = .ok (.ifCond .eq 7, 3) := by decide +kernel
theorem dX6_isTown_67 : decode cX6_isTown 67 = .ok (.iconst 1, 1) := by decide +kernel
theorem dX6_isTown_68 : decode cX6_isTown 68 = .ok (.goto 4, 3) := by decide +kernel
theorem dX6_isTown_71 : decode cX6_isTown 71 = .ok (.iconst 0, 1) := by decide +kernel
theorem dX6_isTown_72 : decode cX6_isTown 72 = .ok (.istore_n 1, 1) := by decide +kernel
theorem dX6_isTown_73 : decode cX6_isTown 73 = .ok (.goto (-40), 3) := by decide +kernel
theorem dX6_isTown_76 : decode cX6_isTown 76 = .ok (.aload_n 0, 1) := by decide +kernel
theorem dX6_isTown_77 : decode cX6_isTown 77 = .ok (.bipush 59, 2) := by decide +kernel
theorem dX6_isTown_79 : decode cX6_isTown 79 = .ok (.invokevirtual 92, 3) := by decide +kernel
theorem dX6_isTown_82 : decode cX6_isTown 82 = .ok (.istore_n 1, 1) := by decide +kernel
theorem dX6_isTown_83 : decode cX6_isTown 83 = .ok (.iload_n 1, 1) := by decide +kernel
theorem dX6_isTown_84 : decode cX6_isTown 84 = .ok (.ifCond .eq 41, 3) := by decide +kernel
theorem dX6_isTown_87 : decode cX6_isTown 87 = .ok (.aload_n 0, 1) := by decide +kernel
theorem dX6_isTown_88 : decode cX6_isTown 88 = .ok (.invokevirtual 102, 3) := by decide +kernel
theorem dX6_isTown_91 : decode cX6_isTown 91 = .ok (.ifCond .ne 5, 3) := by decide +kernel
theorem dX6_isTown_94 : decode cX6_isTown 94 = .ok (.iconst 0, 1) := by decide +kernel
theorem dX6_isTown_95 : decode cX6_isTown 95 = .ok (.ireturn, 1) := by decide +kernel
theorem dX6_isTown_96 : decode cX6_isTown 96 = .ok (.aload_n 0, 1) := by decide +kernel
theorem dX6_isTown_97 : decode cX6_isTown 97 = .ok (.getfield 29, 3) := by decide +kernel
theorem dX6_isTown_100 : decode cX6_isTown 100 = .ok (.bipush 30, 2) := by decide +kernel
theorem dX6_isTown_102 : decode cX6_isTown 102 = .ok (.iaload, 1) := by decide +kernel
theorem dX6_isTown_103 : decode cX6_isTown 103 = .ok (.iconst 4, 1) := by decide +kernel
theorem dX6_isTown_104 : decode cX6_isTown 104 = .ok (.if_icmp .ge 16, 3) := by decide +kernel
theorem dX6_isTown_107 : decode cX6_isTown 107 = .ok (.aload_n 0, 1) := by decide +kernel
theorem dX6_isTown_108 : decode cX6_isTown 108 = .ok (.bipush 44, 2) := by decide +kernel
theorem dX6_isTown_110 : decode cX6_isTown 110 = .ok (.invokevirtual 92, 3) := by decide +kernel
theorem dX6_isTown_113 : decode cX6_isTown 113 = .ok (.ifCond .eq 7, 3) := by decide +kernel
theorem dX6_isTown_116 : decode cX6_isTown 116 = .ok (.iconst 1, 1) := by decide +kernel
theorem dX6_isTown_117 : decode cX6_isTown 117 = .ok (.goto 4, 3) := by decide +kernel
theorem dX6_isTown_120 : decode cX6_isTown 120 = .ok (.iconst 0, 1) := by decide +kernel
theorem dX6_isTown_121 : decode cX6_isTown 121 = .ok (.istore_n 1, 1) := by decide +kernel
theorem dX6_isTown_122 : decode cX6_isTown 122 = .ok (.goto (-39), 3) := by decide +kernel
theorem dX6_isTown_125 : decode cX6_isTown 125 = .ok (.aload_n 0, 1) := by decide +kernel
theorem dX6_isTown_126 : decode cX6_isTown 126 = .ok (.invokevirtual 79, 3) := by decide +kernel
theorem dX6_isTown_129 : decode cX6_isTown 129 = .ok (.ifCond .ne 7, 3) := by decide +kernel
theorem dX6_isTown_132 : decode cX6_isTown 132 = .ok (.iconst 1, 1) := by decide +kernel
theorem dX6_isTown_133 : decode cX6_isTown 133 = .ok (.goto 4, 3) := by decide +kernel
theorem dX6_isTown_136 : decode cX6_isTown 136 = .ok (.iconst 0, 1) := by decide +kernel
theorem dX6_isTown_137 : decode cX6_isTown 137 = .ok (.ireturn, 1) := by decide +kernel
theorem dX6_town_0 : decode cX6_town 0 = .ok (.iconst 0, 1) := by decide +kernel
theorem dX6_town_1 : decode cX6_town 1 = .ok (.istore_n 1, 1) := by decide +kernel
theorem dX6_town_2 : decode cX6_town 2 = .ok (.iload_n 1, 1) := by decide +kernel
theorem dX6_town_3 : decode cX6_town 3 = .ok (.sipush 216, 3) := by decide +kernel
theorem dX6_town_6 : decode cX6_town 6 = .ok (.if_icmp .ge 16, 3) := by decide +kernel
theorem dX6_town_9 : decode cX6_town 9 = .ok (.aload_n 0, 1) := by decide +kernel
theorem dX6_town_10 : decode cX6_town 10 = .ok (.getfield 29, 3) := by decide +kernel
theorem dX6_town_13 : decode cX6_town 13 = .ok (.iload_n 1, 1) := by decide +kernel
theorem dX6_town_14 : decode cX6_town 14 = .ok (.iconst 0, 1) := by decide +kernel
theorem dX6_town_15 : decode cX6_town 15 = .ok (.iastore, 1) := by decide +kernel
theorem dX6_town_16 : decode cX6_town 16 = .ok (.iinc 1 1, 3) := by decide +kernel
theorem dX6_town_19 : decode cX6_town 19 = .ok (.goto (-17), 3) := by decide +kernel
theorem dX6_town_22 : decode cX6_town 22 = .ok (.aload_n 0, 1) := by decide +kernel
theorem dX6_town_23 : decode cX6_town 23 = .ok (.getfield 29, 3) := by decide +kernel
theorem dX6_town_26 : decode cX6_town 26 = .ok (.iconst 1, 1) := by decide +kernel
theorem dX6_town_27 : decode cX6_town 27 = .ok (.aload_n 0, 1) := by decide +kernel
theorem dX6_town_28 : decode cX6_town 28 = .ok (.getfield 23, 3) := by decide +kernel
theorem dX6_town_31 : decode cX6_town 31 = .ok (.iconst 1, 1) := by decide +kernel
theorem dX6_town_32 : decode cX6_town 32 = .ok (.iaload, 1) := by decide +kernel
theorem dX6_town_33 : decode cX6_town 33 = .ok (.iastore, 1) := by decide +kernel
theorem dX6_town_34 : decode cX6_town 34 = .ok (.aload_n 0, 1) := by decide +kernel
theorem dX6_town_35 : decode cX6_town 35 = .ok (.iconst 0, 1) := by decide +kernel
theorem dX6_town_36 : decode cX6_town 36 = .ok (.putfield 76, 3) := by decide +kernel
theorem dX6_town_39 : decode cX6_town 39 = .ok (.aload_n 0, 1) := by decide +kernel
theorem dX6_town_40 : decode cX6_town 40 = .ok (.invokevirtual 105, 3) := by decide +kernel
theorem dX6_town_43 : decode cX6_town 43 = .ok (.istore_n 1, 1) := by decide +kernel
theorem dX6_town_44 : decode cX6_town 44 = .ok (.aload_n 0, 1) := by decide +kernel
theorem dX6_town_45 : decode cX6_town 45 = .ok (.iconst 0, 1) := by decide +kernel
theorem dX6_town_46 : decode cX6_town 46 = .ok (.putfield 72, 3) := by decide +kernel
theorem dX6_town_49 : decode cX6_town 49 = .ok (.iload_n 1, 1) := by decide +kernel
theorem dX6_town_50 : decode cX6_town 50 = .ok (.ifCond .ne 11, 3) := by decide +kernel
theorem dX6_town_53 : decode cX6_town 53 = .ok (.bipush (-20), 2) := by decide +kernel
theorem dX6_town_55 : decode cX6_town 55 = .ok (.aload_n 0, 1) := by decide +kernel
theorem dX6_town_56 : decode cX6_town 56 = .ok (.getfield 76, 3) := by decide +kernel
theorem dX6_town_59 : decode cX6_town 59 = .ok (.isub, 1) := by decide +kernel
theorem dX6_town_60 : decode cX6_town 60 = .ok (.ireturn, 1) := by decide +kernel
theorem dX6_town_61 : decode cX6_town 61 = .ok (.aload_n 0, 1) := by decide +kernel
theorem dX6_town_62 : decode cX6_town 62 = .ok (.getfield 29, 3) := by decide +kernel
theorem dX6_town_65 : decode cX6_town 65 = .ok (.iconst 0, 1) := by decide +kernel
theorem dX6_town_66 : decode cX6_town 66 = .ok (.aload_n 0, 1) := by decide +kernel
theorem dX6_town_67 : decode cX6_town 67 = .ok (.getfield 23, 3) := by decide +kernel
theorem dX6_town_70 : decode cX6_town 70 = .ok (.iconst 0, 1) := by decide +kernel
theorem dX6_town_71 : decode cX6_town 71 = .ok (.sipush 216, 3) := by decide +kernel
theorem dX6_town_74 : decode cX6_town 74 = .ok (.invokestatic 108, 3) := by decide +kernel
theorem dX6_town_77 : decode cX6_town 77 = .ok (.aload_n 0, 1) := by decide +kernel
theorem dX6_town_78 : decode cX6_town 78 = .ok (.getfield 23, 3) := by decide +kernel
theorem dX6_town_81 : decode cX6_town 81 = .ok (.bipush 23, 2) := by decide +kernel
theorem dX6_town_83 : decode cX6_town 83 = .ok (.iaload, 1) := by decide +kernel
theorem dX6_town_84 : decode cX6_town 84 = .ok (.ireturn, 1) := by decide +kernel
theorem dX6_count_0 : decode cX6_count 0 = .ok (.iconst 0, 1) := by decide +kernel
theorem dX6_count_1 : decode cX6_count 1 = .ok (.istore_n 2, 1) := by decide +kernel
theorem dX6_count_2 : decode cX6_count 2 = .ok (.iload_n 1, 1) := by decide +kernel
theorem dX6_count_3 : decode cX6_count 3 = .ok (.tableswitch 150 0 7 #[45, 53, 61, 68, 76, 84, 92, 142], 45) := by decide +kernel
theorem dX6_count_48 : decode cX6_count 48 = .ok (.aload_n 0, 1) := by decide +kernel
theorem dX6_count_49 : decode cX6_count 49 = .ok (.getfield 23, 3) := by decide +kernel
theorem dX6_count_52 : decode cX6_count 52 = .ok (.bipush 23, 2) := by decide +kernel
theorem dX6_count_54 : decode cX6_count 54 = .ok (.iaload, 1) := by decide +kernel
theorem dX6_count_55 : decode cX6_count 55 = .ok (.ireturn, 1) := by decide +kernel
theorem dX6_count_56 : decode cX6_count 56 = .ok (.aload_n 0, 1) := by decide +kernel
theorem dX6_count_57 : decode cX6_count 57 = .ok (.getfield 23, 3) := by decide +kernel
theorem dX6_count_60 : decode cX6_count 60 = .ok (.bipush 30, 2) := by decide +kernel
theorem dX6_count_62 : decode cX6_count 62 = .ok (.iaload, 1) := by decide +kernel
theorem dX6_count_63 : decode cX6_count 63 = .ok (.ireturn, 1) := by decide +kernel
theorem dX6_count_64 : decode cX6_count 64 = .ok (.aload_n 0, 1) := by decide +kernel
theorem dX6_count_65 : decode cX6_count 65 = .ok (.getfield 23, 3) := by decide +kernel
theorem dX6_count_68 : decode cX6_count 68 = .ok (.iconst 0, 1) := by decide +kernel
theorem dX6_count_69 : decode cX6_count 69 = .ok (.iaload, 1) := by decide +kernel
theorem dX6_count_70 : decode cX6_count 70 = .ok (.ireturn, 1) := by decide +kernel
theorem dX6_count_71 : decode cX6_count 71 = .ok (.aload_n 0, 1) := by decide +kernel
theorem dX6_count_72 : decode cX6_count 72 = .ok (.getfield 23, 3) := by decide +kernel
theorem dX6_count_75 : decode cX6_count 75 = .ok (.bipush 22, 2) := by decide +kernel
theorem dX6_count_77 : decode cX6_count 77 = .ok (.iaload, 1) := by decide +kernel
theorem dX6_count_78 : decode cX6_count 78 = .ok (.ireturn, 1) := by decide +kernel
theorem dX6_count_79 : decode cX6_count 79 = .ok (.aload_n 0, 1) := by decide +kernel
theorem dX6_count_80 : decode cX6_count 80 = .ok (.getfield 23, 3) := by decide +kernel
theorem dX6_count_83 : decode cX6_count 83 = .ok (.bipush 21, 2) := by decide +kernel
theorem dX6_count_85 : decode cX6_count 85 = .ok (.iaload, 1) := by decide +kernel
theorem dX6_count_86 : decode cX6_count 86 = .ok (.ireturn, 1) := by decide +kernel
theorem dX6_count_87 : decode cX6_count 87 = .ok (.aload_n 0, 1) := by decide +kernel
theorem dX6_count_88 : decode cX6_count 88 = .ok (.getfield 23, 3) := by decide +kernel
theorem dX6_count_91 : decode cX6_count 91 = .ok (.bipush 20, 2) := by decide +kernel
theorem dX6_count_93 : decode cX6_count 93 = .ok (.iaload, 1) := by decide +kernel
theorem dX6_count_94 : decode cX6_count 94 = .ok (.ireturn, 1) := by decide +kernel
theorem dX6_count_95 : decode cX6_count 95 = .ok (.iconst 0, 1) := by decide +kernel
theorem dX6_count_96 : decode cX6_count 96 = .ok (.istore_n 3, 1) := by decide +kernel
theorem dX6_count_97 : decode cX6_count 97 = .ok (.iload_n 3, 1) := by decide +kernel
theorem dX6_count_98 : decode cX6_count 98 = .ok (.aload_n 0, 1) := by decide +kernel
theorem dX6_count_99 : decode cX6_count 99 = .ok (.getfield 23, 3) := by decide +kernel
theorem dX6_count_102 : decode cX6_count 102 = .ok (.bipush 23, 2) := by decide +kernel
theorem dX6_count_104 : decode cX6_count 104 = .ok (.iaload, 1) := by decide +kernel
theorem dX6_count_105 : decode cX6_count 105 = .ok (.if_icmp .ge 38, 3) := by decide +kernel
theorem dX6_count_108 : decode cX6_count 108 = .ok (.iload_n 2, 1) := by decide +kernel
theorem dX6_count_109 : decode cX6_count 109 = .ok (.aload_n 0, 1) := by decide +kernel
theorem dX6_count_110 : decode cX6_count 110 = .ok (.getfield 23, 3) := by decide +kernel
theorem dX6_count_113 : decode cX6_count 113 = .ok (.bipush 21, 2) := by decide +kernel
theorem dX6_count_115 : decode cX6_count 115 = .ok (.iaload, 1) := by decide +kernel
theorem dX6_count_116 : decode cX6_count 116 = .ok (.iload_n 3, 1) := by decide +kernel
theorem dX6_count_117 : decode cX6_count 117 = .ok (.invokestatic 50, 3) := by decide +kernel
theorem dX6_count_120 : decode cX6_count 120 = .ok (.ifCond .eq 7, 3) := by decide +kernel
theorem dX6_count_123 : decode cX6_count 123 = .ok (.iconst 0, 1) := by decide +kernel
theorem dX6_count_124 : decode cX6_count 124 = .ok (.goto 11, 3) := by decide +kernel
theorem dX6_count_127 : decode cX6_count 127 = .ok (.aload_n 0, 1) := by decide +kernel
theorem dX6_count_128 : decode cX6_count 128 = .ok (.getfield 23, 3) := by decide +kernel
theorem dX6_count_131 : decode cX6_count 131 = .ok (.iconst 2, 1) := by decide +kernel
theorem dX6_count_132 : decode cX6_count 132 = .ok (.iload_n 3, 1) := by decide +kernel
theorem dX6_count_133 : decode cX6_count 133 = .ok (.iadd, 1) := by decide +kernel
theorem dX6_count_134 : decode cX6_count 134 = .ok (.iaload, 1) := by decide +kernel
theorem dX6_count_135 : decode cX6_count 135 = .ok (.iadd, 1) := by decide +kernel
theorem dX6_count_136 : decode cX6_count 136 = .ok (.istore_n 2, 1) := by decide +kernel
theorem dX6_count_137 : decode cX6_count 137 = .ok (.iinc 3 1, 3) := by decide +kernel
theorem dX6_count_140 : decode cX6_count 140 = .ok (.goto (-43), 3) := by decide +kernel
theorem dX6_count_143 : decode cX6_count 143 = .ok (.iload_n 2, 1) := by decide +kernel
theorem dX6_count_144 : decode cX6_count 144 = .ok (.ireturn, 1) := by decide +kernel
theorem dX6_count_145 : decode cX6_count 145 = .ok (.aload_n 0, 1) := by decide +kernel
theorem dX6_count_146 : decode cX6_count 146 = .ok (.getfield 23, 3) := by decide +kernel
theorem dX6_count_149 : decode cX6_count 149 = .ok (.bipush 39, 2) := by decide +kernel
theorem dX6_count_151 : decode cX6_count 151 = .ok (.iaload, 1) := by decide +kernel
theorem dX6_count_152 : decode cX6_count 152 = .ok (.ireturn, 1) := by decide +kernel
theorem dX6_count_153 : decode cX6_count 153 = .ok (.iconst (-1), 1) := by decide +kernel
theorem dX6_count_154 : decode cX6_count 154 = .ok (.ireturn, 1) := by decide +kernel
theorem dX6_note_0 : decode cX6_note 0 = .ok (.aload_n 0, 1) := by decide +kernel
theorem dX6_note_1 : decode cX6_note 1 = .ok (.getfield 23, 3) := by decide +kernel
theorem dX6_note_4 : decode cX6_note 4 = .ok (.bipush 39, 2) := by decide +kernel
theorem dX6_note_6 : decode cX6_note 6 = .ok (.iaload, 1) := by decide +kernel
theorem dX6_note_7 : decode cX6_note 7 = .ok (.bipush 8, 2) := by decide +kernel
theorem dX6_note_9 : decode cX6_note 9 = .ok (.if_icmp .ne 32, 3) := by decide +kernel
theorem dX6_note_12 : decode cX6_note 12 = .ok (.aload_n 0, 1) := by decide +kernel
theorem dX6_note_13 : decode cX6_note 13 = .ok (.getfield 23, 3) := by decide +kernel
theorem dX6_note_16 : decode cX6_note 16 = .ok (.bipush 62, 2) := by decide +kernel
theorem dX6_note_18 : decode cX6_note 18 = .ok (.aload_n 0, 1) := by decide +kernel
theorem dX6_note_19 : decode cX6_note 19 = .ok (.getfield 23, 3) := by decide +kernel
theorem dX6_note_22 : decode cX6_note 22 = .ok (.bipush 40, 2) := by decide +kernel
theorem dX6_note_24 : decode cX6_note 24 = .ok (.sipush 154, 3) := by decide +kernel
theorem dX6_note_27 : decode cX6_note 27 = .ok (.invokestatic 108, 3) := by decide +kernel
theorem dX6_note_30 : decode cX6_note 30 = .ok (.aload_n 0, 1) := by decide +kernel
theorem dX6_note_31 : decode cX6_note 31 = .ok (.getfield 23, 3) := by decide +kernel
theorem dX6_note_34 : decode cX6_note 34 = .ok (.bipush 39, 2) := by decide +kernel
theorem dX6_note_36 : decode cX6_note 36 = .ok (.dup2, 1) := by decide +kernel
theorem dX6_note_37 : decode cX6_note 37 = .ok (.iaload, 1) := by decide +kernel
theorem dX6_note_38 : decode cX6_note 38 = .ok (.iconst 1, 1) := by decide +kernel
theorem dX6_note_39 : decode cX6_note 39 = .ok (.isub, 1) := by decide +kernel
theorem dX6_note_40 : decode cX6_note 40 = .ok (.iastore, 1) := by decide +kernel
theorem dX6_note_41 : decode cX6_note 41 = .ok (.aload_n 0, 1) := by decide +kernel
theorem dX6_note_42 : decode cX6_note 42 = .ok (.getfield 23, 3) := by decide +kernel
theorem dX6_note_45 : decode cX6_note 45 = .ok (.iconst 0, 1) := by decide +kernel
theorem dX6_note_46 : decode cX6_note 46 = .ok (.aload_n 0, 1) := by decide +kernel
theorem dX6_note_47 : decode cX6_note 47 = .ok (.getfield 23, 3) := by decide +kernel
theorem dX6_note_50 : decode cX6_note 50 = .ok (.bipush 40, 2) := by decide +kernel
theorem dX6_note_52 : decode cX6_note 52 = .ok (.bipush 22, 2) := by decide +kernel
theorem dX6_note_54 : decode cX6_note 54 = .ok (.aload_n 0, 1) := by decide +kernel
theorem dX6_note_55 : decode cX6_note 55 = .ok (.getfield 23, 3) := by decide +kernel
theorem dX6_note_58 : decode cX6_note 58 = .ok (.bipush 39, 2) := by decide +kernel
theorem dX6_note_60 : decode cX6_note 60 = .ok (.iaload, 1) := by decide +kernel
theorem dX6_note_61 : decode cX6_note 61 = .ok (.imul, 1) := by decide +kernel
theorem dX6_note_62 : decode cX6_note 62 = .ok (.iadd, 1) := by decide +kernel
theorem dX6_note_63 : decode cX6_note 63 = .ok (.bipush 22, 2) := by decide +kernel
theorem dX6_note_65 : decode cX6_note 65 = .ok (.invokestatic 108, 3) := by decide +kernel
theorem dX6_note_68 : decode cX6_note 68 = .ok (.aload_n 0, 1) := by decide +kernel
theorem dX6_note_69 : decode cX6_note 69 = .ok (.getfield 23, 3) := by decide +kernel
theorem dX6_note_72 : decode cX6_note 72 = .ok (.bipush 39, 2) := by decide +kernel
theorem dX6_note_74 : decode cX6_note 74 = .ok (.dup2, 1) := by decide +kernel
theorem dX6_note_75 : decode cX6_note 75 = .ok (.iaload, 1) := by decide +kernel
theorem dX6_note_76 : decode cX6_note 76 = .ok (.iconst 1, 1) := by decide +kernel
theorem dX6_note_77 : decode cX6_note 77 = .ok (.iadd, 1) := by decide +kernel
theorem dX6_note_78 : decode cX6_note 78 = .ok (.iastore, 1) := by decide +kernel
theorem dX6_note_79 : decode cX6_note 79 = .ok (.return_, 1) := by decide +kernel
theorem dX6_dearerBy_0 : decode cX6_dearerBy 0 = .ok (.iload_n 1, 1) := by decide +kernel
theorem dX6_dearerBy_1 : decode cX6_dearerBy 1 = .ok (.istore 4, 2) := by decide +kernel
theorem dX6_dearerBy_3 : decode cX6_dearerBy 3 = .ok (.iload_n 0, 1) := by decide +kernel
theorem dX6_dearerBy_4 : decode cX6_dearerBy 4 = .ok (.tableswitch 66 0 3 #[32, 40, 66, 48], 32) := by decide +kernel
theorem dX6_dearerBy_36 : decode cX6_dearerBy 36 = .ok (.iload_n 1, 1) := by decide +kernel
theorem dX6_dearerBy_37 : decode cX6_dearerBy 37 = .ok (.iconst 2, 1) := by decide +kernel
theorem dX6_dearerBy_38 : decode cX6_dearerBy 38 = .ok (.iadd, 1) := by decide +kernel
theorem dX6_dearerBy_39 : decode cX6_dearerBy 39 = .ok (.istore 4, 2) := by decide +kernel
theorem dX6_dearerBy_41 : decode cX6_dearerBy 41 = .ok (.goto 45, 3) := by decide +kernel
theorem dX6_dearerBy_44 : decode cX6_dearerBy 44 = .ok (.iload_n 1, 1) := by decide +kernel
theorem dX6_dearerBy_45 : decode cX6_dearerBy 45 = .ok (.iconst 4, 1) := by decide +kernel
theorem dX6_dearerBy_46 : decode cX6_dearerBy 46 = .ok (.iadd, 1) := by decide +kernel
theorem dX6_dearerBy_47 : decode cX6_dearerBy 47 = .ok (.istore 4, 2) := by decide +kernel
theorem dX6_dearerBy_49 : decode cX6_dearerBy 49 = .ok (.goto 37, 3) := by decide +kernel
theorem dX6_dearerBy_52 : decode cX6_dearerBy 52 = .ok (.iload_n 1, 1) := by decide +kernel
theorem dX6_dearerBy_53 : decode cX6_dearerBy 53 = .ok (.iconst 4, 1) := by decide +kernel
theorem dX6_dearerBy_54 : decode cX6_dearerBy 54 = .ok (.iadd, 1) := by decide +kernel
theorem dX6_dearerBy_55 : decode cX6_dearerBy 55 = .ok (.iload_n 2, 1) := by decide +kernel
theorem dX6_dearerBy_56 : decode cX6_dearerBy 56 = .ok (.ifCond .eq 7, 3) := by decide +kernel
theorem dX6_dearerBy_59 : decode cX6_dearerBy 59 = .ok (.iconst 3, 1) := by decide +kernel
theorem dX6_dearerBy_60 : decode cX6_dearerBy 60 = .ok (.goto 4, 3) := by decide +kernel
theorem dX6_dearerBy_63 : decode cX6_dearerBy 63 = .ok (.iconst 0, 1) := by decide +kernel
theorem dX6_dearerBy_64 : decode cX6_dearerBy 64 = .ok (.iadd, 1) := by decide +kernel
theorem dX6_dearerBy_65 : decode cX6_dearerBy 65 = .ok (.istore 4, 2) := by decide +kernel
theorem dX6_dearerBy_67 : decode cX6_dearerBy 67 = .ok (.goto 19, 3) := by decide +kernel
theorem dX6_dearerBy_70 : decode cX6_dearerBy 70 = .ok (.iload_n 1, 1) := by decide +kernel
theorem dX6_dearerBy_71 : decode cX6_dearerBy 71 = .ok (.iload_n 3, 1) := by decide +kernel
theorem dX6_dearerBy_72 : decode cX6_dearerBy 72 = .ok (.iconst 2, 1) := by decide +kernel
theorem dX6_dearerBy_73 : decode cX6_dearerBy 73 = .ok (.irem, 1) := by decide +kernel
theorem dX6_dearerBy_74 : decode cX6_dearerBy 74 = .ok (.iconst 1, 1) := by decide +kernel
theorem dX6_dearerBy_75 : decode cX6_dearerBy 75 = .ok (.if_icmp .ne 7, 3) := by decide +kernel
theorem dX6_dearerBy_78 : decode cX6_dearerBy 78 = .ok (.iconst 2, 1) := by decide +kernel
theorem dX6_dearerBy_79 : decode cX6_dearerBy 79 = .ok (.goto 4, 3) := by decide +kernel
theorem dX6_dearerBy_82 : decode cX6_dearerBy 82 = .ok (.iconst 0, 1) := by decide +kernel
theorem dX6_dearerBy_83 : decode cX6_dearerBy 83 = .ok (.iadd, 1) := by decide +kernel
theorem dX6_dearerBy_84 : decode cX6_dearerBy 84 = .ok (.istore 4, 2) := by decide +kernel
theorem dX6_dearerBy_86 : decode cX6_dearerBy 86 = .ok (.iload_n 0, 1) := by decide +kernel
theorem dX6_dearerBy_87 : decode cX6_dearerBy 87 = .ok (.iconst 4, 1) := by decide +kernel
theorem dX6_dearerBy_88 : decode cX6_dearerBy 88 = .ok (.if_icmp .ne 29, 3) := by decide +kernel
theorem dX6_dearerBy_91 : decode cX6_dearerBy 91 = .ok (.iload_n 1, 1) := by decide +kernel
theorem dX6_dearerBy_92 : decode cX6_dearerBy 92 = .ok (.bipush 6, 2) := by decide +kernel
theorem dX6_dearerBy_94 : decode cX6_dearerBy 94 = .ok (.if_icmp .lt 7, 3) := by decide +kernel
theorem dX6_dearerBy_97 : decode cX6_dearerBy 97 = .ok (.iload_n 1, 1) := by decide +kernel
theorem dX6_dearerBy_98 : decode cX6_dearerBy 98 = .ok (.goto 17, 3) := by decide +kernel
theorem dX6_dearerBy_101 : decode cX6_dearerBy 101 = .ok (.iload 4, 2) := by decide +kernel
theorem dX6_dearerBy_103 : decode cX6_dearerBy 103 = .ok (.bipush 6, 2) := by decide +kernel
theorem dX6_dearerBy_105 : decode cX6_dearerBy 105 = .ok (.if_icmp .le 8, 3) := by decide +kernel
theorem dX6_dearerBy_108 : decode cX6_dearerBy 108 = .ok (.bipush 6, 2) := by decide +kernel
theorem dX6_dearerBy_110 : decode cX6_dearerBy 110 = .ok (.goto 5, 3) := by decide +kernel
theorem dX6_dearerBy_113 : decode cX6_dearerBy 113 = .ok (.iload 4, 2) := by decide +kernel
theorem dX6_dearerBy_115 : decode cX6_dearerBy 115 = .ok (.istore 4, 2) := by decide +kernel
theorem dX6_dearerBy_117 : decode cX6_dearerBy 117 = .ok (.iload 4, 2) := by decide +kernel
theorem dX6_dearerBy_119 : decode cX6_dearerBy 119 = .ok (.bipush 99, 2) := by decide +kernel
theorem dX6_dearerBy_121 : decode cX6_dearerBy 121 = .ok (.if_icmp .le 8, 3) := by decide +kernel
theorem dX6_dearerBy_124 : decode cX6_dearerBy 124 = .ok (.bipush 99, 2) := by decide +kernel
theorem dX6_dearerBy_126 : decode cX6_dearerBy 126 = .ok (.goto 5, 3) := by decide +kernel
theorem dX6_dearerBy_129 : decode cX6_dearerBy 129 = .ok (.iload 4, 2) := by decide +kernel
theorem dX6_dearerBy_131 : decode cX6_dearerBy 131 = .ok (.ireturn, 1) := by decide +kernel
theorem dX6_dearest_0 : decode cX6_dearest 0 = .ok (.bipush (-4), 2) := by decide +kernel
theorem dX6_dearest_2 : decode cX6_dearest 2 = .ok (.istore_n 3, 1) := by decide +kernel
theorem dX6_dearest_3 : decode cX6_dearest 3 = .ok (.iconst 0, 1) := by decide +kernel
theorem dX6_dearest_4 : decode cX6_dearest 4 = .ok (.istore 4, 2) := by decide +kernel
theorem dX6_dearest_6 : decode cX6_dearest 6 = .ok (.iload 4, 2) := by decide +kernel
theorem dX6_dearest_8 : decode cX6_dearest 8 = .ok (.aload_n 0, 1) := by decide +kernel
theorem dX6_dearest_9 : decode cX6_dearest 9 = .ok (.bipush 23, 2) := by decide +kernel
theorem dX6_dearest_11 : decode cX6_dearest 11 = .ok (.iaload, 1) := by decide +kernel
theorem dX6_dearest_12 : decode cX6_dearest 12 = .ok (.if_icmp .ge 67, 3) := by decide +kernel
theorem dX6_dearest_15 : decode cX6_dearest 15 = .ok (.aload_n 0, 1) := by decide +kernel
theorem dX6_dearest_16 : decode cX6_dearest 16 = .ok (.iload_n 1, 1) := by decide +kernel
theorem dX6_dearest_17 : decode cX6_dearest 17 = .ok (.iload 4, 2) := by decide +kernel
theorem dX6_dearest_19 : decode cX6_dearest 19 = .ok (.invokestatic 54, 3) := by decide +kernel
theorem dX6_dearest_22 : decode cX6_dearest 22 = .ok (.ifCond .eq 16, 3) := by decide +kernel
theorem dX6_dearest_25 : decode cX6_dearest 25 = .ok (.iload_n 2, 1) := by decide +kernel
theorem dX6_dearest_26 : decode cX6_dearest 26 = .ok (.iload 4, 2) := by decide +kernel
theorem dX6_dearest_28 : decode cX6_dearest 28 = .ok (.invokestatic 50, 3) := by decide +kernel
theorem dX6_dearest_31 : decode cX6_dearest 31 = .ok (.ifCond .ne 7, 3) := by decide +kernel
theorem dX6_dearest_34 : decode cX6_dearest 34 = .ok (.iconst 1, 1) := by decide +kernel
theorem dX6_dearest_35 : decode cX6_dearest 35 = .ok (.goto 4, 3) := by decide +kernel
theorem dX6_dearest_38 : decode cX6_dearest 38 = .ok (.iconst 0, 1) := by decide +kernel
theorem dX6_dearest_39 : decode cX6_dearest 39 = .ok (.istore 5, 2) := by decide +kernel
theorem dX6_dearest_41 : decode cX6_dearest 41 = .ok (.iload 5, 2) := by decide +kernel
theorem dX6_dearest_43 : decode cX6_dearest 43 = .ok (.ifCond .eq 28, 3) := by decide +kernel
theorem dX6_dearest_46 : decode cX6_dearest 46 = .ok (.iload_n 3, 1) := by decide +kernel
theorem dX6_dearest_47 : decode cX6_dearest 47 = .ok (.bipush (-4), 2) := by decide +kernel
theorem dX6_dearest_49 : decode cX6_dearest 49 = .ok (.if_icmp .eq 17, 3) := by decide +kernel
theorem dX6_dearest_52 : decode cX6_dearest 52 = .ok (.aload_n 0, 1) := by decide +kernel
theorem dX6_dearest_53 : decode cX6_dearest 53 = .ok (.iconst 2, 1) := by decide +kernel
theorem dX6_dearest_54 : decode cX6_dearest 54 = .ok (.iload 4, 2) := by decide +kernel
theorem dX6_dearest_56 : decode cX6_dearest 56 = .ok (.iadd, 1) := by decide +kernel
theorem dX6_dearest_57 : decode cX6_dearest 57 = .ok (.iaload, 1) := by decide +kernel
theorem dX6_dearest_58 : decode cX6_dearest 58 = .ok (.aload_n 0, 1) := by decide +kernel
theorem dX6_dearest_59 : decode cX6_dearest 59 = .ok (.iconst 2, 1) := by decide +kernel
theorem dX6_dearest_60 : decode cX6_dearest 60 = .ok (.iload_n 3, 1) := by decide +kernel
theorem dX6_dearest_61 : decode cX6_dearest 61 = .ok (.iadd, 1) := by decide +kernel
theorem dX6_dearest_62 : decode cX6_dearest 62 = .ok (.iaload, 1) := by decide +kernel
theorem dX6_dearest_63 : decode cX6_dearest 63 = .ok (.if_icmp .le 8, 3) := by decide +kernel
theorem dX6_dearest_66 : decode cX6_dearest 66 = .ok (.iload 4, 2) := by decide +kernel
theorem dX6_dearest_68 : decode cX6_dearest 68 = .ok (.goto 4, 3) := by decide +kernel
theorem dX6_dearest_71 : decode cX6_dearest 71 = .ok (.iload_n 3, 1) := by decide +kernel
theorem dX6_dearest_72 : decode cX6_dearest 72 = .ok (.istore_n 3, 1) := by decide +kernel
theorem dX6_dearest_73 : decode cX6_dearest 73 = .ok (.iinc 4 1, 3) := by decide +kernel
theorem dX6_dearest_76 : decode cX6_dearest 76 = .ok (.goto (-70), 3) := by decide +kernel
theorem dX6_dearest_79 : decode cX6_dearest 79 = .ok (.iload_n 3, 1) := by decide +kernel
theorem dX6_dearest_80 : decode cX6_dearest 80 = .ok (.ireturn, 1) := by decide +kernel
theorem dX6_robIn_0 : decode cX6_robIn 0 = .ok (.iconst 0, 1) := by decide +kernel
theorem dX6_robIn_1 : decode cX6_robIn 1 = .ok (.istore_n 3, 1) := by decide +kernel
theorem dX6_robIn_2 : decode cX6_robIn 2 = .ok (.iconst 0, 1) := by decide +kernel
theorem dX6_robIn_3 : decode cX6_robIn 3 = .ok (.istore 4, 2) := by decide +kernel
theorem dX6_robIn_5 : decode cX6_robIn 5 = .ok (.iload 4, 2) := by decide +kernel
theorem dX6_robIn_7 : decode cX6_robIn 7 = .ok (.aload_n 1, 1) := by decide +kernel
theorem dX6_robIn_8 : decode cX6_robIn 8 = .ok (.bipush 30, 2) := by decide +kernel
theorem dX6_robIn_10 : decode cX6_robIn 10 = .ok (.iaload, 1) := by decide +kernel
theorem dX6_robIn_11 : decode cX6_robIn 11 = .ok (.if_icmp .ge 119, 3) := by decide +kernel
theorem dX6_robIn_14 : decode cX6_robIn 14 = .ok (.aload_n 0, 1) := by decide +kernel
theorem dX6_robIn_15 : decode cX6_robIn 15 = .ok (.getfield 35, 3) := by decide +kernel
theorem dX6_robIn_18 : decode cX6_robIn 18 = .ok (.iload 4, 2) := by decide +kernel
theorem dX6_robIn_20 : decode cX6_robIn 20 = .ok (.iload_n 2, 1) := by decide +kernel
theorem dX6_robIn_21 : decode cX6_robIn 21 = .ok (.iload 4, 2) := by decide +kernel
theorem dX6_robIn_23 : decode cX6_robIn 23 = .ok (.invokestatic 50, 3) := by decide +kernel
theorem dX6_robIn_26 : decode cX6_robIn 26 = .ok (.ifCond .eq 8, 3) := by decide +kernel
theorem dX6_robIn_29 : decode cX6_robIn 29 = .ok (.bipush (-4), 2) := by decide +kernel
theorem dX6_robIn_31 : decode cX6_robIn 31 = .ok (.goto 10, 3) := by decide +kernel
theorem dX6_robIn_34 : decode cX6_robIn 34 = .ok (.aload_n 1, 1) := by decide +kernel
theorem dX6_robIn_35 : decode cX6_robIn 35 = .ok (.iload 4, 2) := by decide +kernel
theorem dX6_robIn_37 : decode cX6_robIn 37 = .ok (.iload_n 3, 1) := by decide +kernel
theorem dX6_robIn_38 : decode cX6_robIn 38 = .ok (.invokestatic 112, 3) := by decide +kernel
theorem dX6_robIn_41 : decode cX6_robIn 41 = .ok (.iastore, 1) := by decide +kernel
theorem dX6_robIn_42 : decode cX6_robIn 42 = .ok (.aload_n 0, 1) := by decide +kernel
theorem dX6_robIn_43 : decode cX6_robIn 43 = .ok (.getfield 35, 3) := by decide +kernel
theorem dX6_robIn_46 : decode cX6_robIn 46 = .ok (.iload 4, 2) := by decide +kernel
theorem dX6_robIn_48 : decode cX6_robIn 48 = .ok (.iaload, 1) := by decide +kernel
theorem dX6_robIn_49 : decode cX6_robIn 49 = .ok (.bipush (-4), 2) := by decide +kernel
theorem dX6_robIn_51 : decode cX6_robIn 51 = .ok (.if_icmp .eq 73, 3) := by decide +kernel
theorem dX6_robIn_54 : decode cX6_robIn 54 = .ok (.aload_n 0, 1) := by decide +kernel
theorem dX6_robIn_55 : decode cX6_robIn 55 = .ok (.getfield 35, 3) := by decide +kernel
theorem dX6_robIn_58 : decode cX6_robIn 58 = .ok (.iload 4, 2) := by decide +kernel
theorem dX6_robIn_60 : decode cX6_robIn 60 = .ok (.iaload, 1) := by decide +kernel
theorem dX6_robIn_61 : decode cX6_robIn 61 = .ok (.istore 5, 2) := by decide +kernel
theorem dX6_robIn_63 : decode cX6_robIn 63 = .ok (.iload_n 3, 1) := by decide +kernel
theorem dX6_robIn_64 : decode cX6_robIn 64 = .ok (.iconst 1, 1) := by decide +kernel
theorem dX6_robIn_65 : decode cX6_robIn 65 = .ok (.iload 5, 2) := by decide +kernel
theorem dX6_robIn_67 : decode cX6_robIn 67 = .ok (.ishl, 1) := by decide +kernel
theorem dX6_robIn_68 : decode cX6_robIn 68 = .ok (.ior, 1) := by decide +kernel
theorem dX6_robIn_69 : decode cX6_robIn 69 = .ok (.istore_n 3, 1) := by decide +kernel
theorem dX6_robIn_70 : decode cX6_robIn 70 = .ok (.aload_n 1, 1) := by decide +kernel
theorem dX6_robIn_71 : decode cX6_robIn 71 = .ok (.iconst 2, 1) := by decide +kernel
theorem dX6_robIn_72 : decode cX6_robIn 72 = .ok (.iload 5, 2) := by decide +kernel
theorem dX6_robIn_74 : decode cX6_robIn 74 = .ok (.iadd, 1) := by decide +kernel
theorem dX6_robIn_75 : decode cX6_robIn 75 = .ok (.iaload, 1) := by decide +kernel
theorem dX6_robIn_76 : decode cX6_robIn 76 = .ok (.aload_n 1, 1) := by decide +kernel
theorem dX6_robIn_77 : decode cX6_robIn 77 = .ok (.bipush 22, 2) := by decide +kernel
theorem dX6_robIn_79 : decode cX6_robIn 79 = .ok (.iaload, 1) := by decide +kernel
theorem dX6_robIn_80 : decode cX6_robIn 80 = .ok (.if_icmp .lt 19, 3) := by decide +kernel
theorem dX6_robIn_83 : decode cX6_robIn 83 = .ok (.aload_n 1, 1) := by decide +kernel
theorem dX6_robIn_84 : decode cX6_robIn 84 = .ok (.bipush 21, 2) := by decide +kernel
theorem dX6_robIn_86 : decode cX6_robIn 86 = .ok (.aload_n 1, 1) := by decide +kernel
theorem dX6_robIn_87 : decode cX6_robIn 87 = .ok (.bipush 21, 2) := by decide +kernel
theorem dX6_robIn_89 : decode cX6_robIn 89 = .ok (.iaload, 1) := by decide +kernel
theorem dX6_robIn_90 : decode cX6_robIn 90 = .ok (.iconst 1, 1) := by decide +kernel
theorem dX6_robIn_91 : decode cX6_robIn 91 = .ok (.iload 5, 2) := by decide +kernel
theorem dX6_robIn_93 : decode cX6_robIn 93 = .ok (.ishl, 1) := by decide +kernel
theorem dX6_robIn_94 : decode cX6_robIn 94 = .ok (.ior, 1) := by decide +kernel
theorem dX6_robIn_95 : decode cX6_robIn 95 = .ok (.iastore, 1) := by decide +kernel
theorem dX6_robIn_96 : decode cX6_robIn 96 = .ok (.goto 28, 3) := by decide +kernel
theorem dX6_robIn_99 : decode cX6_robIn 99 = .ok (.aload_n 1, 1) := by decide +kernel
theorem dX6_robIn_100 : decode cX6_robIn 100 = .ok (.bipush 8, 2) := by decide +kernel
theorem dX6_robIn_102 : decode cX6_robIn 102 = .ok (.iload 5, 2) := by decide +kernel
theorem dX6_robIn_104 : decode cX6_robIn 104 = .ok (.iadd, 1) := by decide +kernel
theorem dX6_robIn_105 : decode cX6_robIn 105 = .ok (.aload_n 1, 1) := by decide +kernel
theorem dX6_robIn_106 : decode cX6_robIn 106 = .ok (.bipush 8, 2) := by decide +kernel
theorem dX6_robIn_108 : decode cX6_robIn 108 = .ok (.iload 5, 2) := by decide +kernel
theorem dX6_robIn_110 : decode cX6_robIn 110 = .ok (.iadd, 1) := by decide +kernel
theorem dX6_robIn_111 : decode cX6_robIn 111 = .ok (.iaload, 1) := by decide +kernel
theorem dX6_robIn_112 : decode cX6_robIn 112 = .ok (.iconst 1, 1) := by decide +kernel
theorem dX6_robIn_113 : decode cX6_robIn 113 = .ok (.iadd, 1) := by decide +kernel
theorem dX6_robIn_114 : decode cX6_robIn 114 = .ok (.iconst 4, 1) := by decide +kernel
theorem dX6_robIn_115 : decode cX6_robIn 115 = .ok (.irem, 1) := by decide +kernel
theorem dX6_robIn_116 : decode cX6_robIn 116 = .ok (.iastore, 1) := by decide +kernel
theorem dX6_robIn_117 : decode cX6_robIn 117 = .ok (.aload_n 1, 1) := by decide +kernel
theorem dX6_robIn_118 : decode cX6_robIn 118 = .ok (.iconst 2, 1) := by decide +kernel
theorem dX6_robIn_119 : decode cX6_robIn 119 = .ok (.iload 5, 2) := by decide +kernel
theorem dX6_robIn_121 : decode cX6_robIn 121 = .ok (.iadd, 1) := by decide +kernel
theorem dX6_robIn_122 : decode cX6_robIn 122 = .ok (.iconst 0, 1) := by decide +kernel
theorem dX6_robIn_123 : decode cX6_robIn 123 = .ok (.iastore, 1) := by decide +kernel
theorem dX6_robIn_124 : decode cX6_robIn 124 = .ok (.iinc 4 1, 3) := by decide +kernel
theorem dX6_robIn_127 : decode cX6_robIn 127 = .ok (.goto (-122), 3) := by decide +kernel
theorem dX6_robIn_130 : decode cX6_robIn 130 = .ok (.iload_n 3, 1) := by decide +kernel
theorem dX6_robIn_131 : decode cX6_robIn 131 = .ok (.ireturn, 1) := by decide +kernel
theorem dX6_nightIn_0 : decode cX6_nightIn 0 = .ok (.aload_n 0, 1) := by decide +kernel
theorem dX6_nightIn_1 : decode cX6_nightIn 1 = .ok (.aload_n 1, 1) := by decide +kernel
theorem dX6_nightIn_2 : decode cX6_nightIn 2 = .ok (.iload_n 2, 1) := by decide +kernel
theorem dX6_nightIn_3 : decode cX6_nightIn 3 = .ok (.invokevirtual 115, 3) := by decide +kernel
theorem dX6_nightIn_6 : decode cX6_nightIn 6 = .ok (.istore_n 3, 1) := by decide +kernel
theorem dX6_nightIn_7 : decode cX6_nightIn 7 = .ok (.iconst 0, 1) := by decide +kernel
theorem dX6_nightIn_8 : decode cX6_nightIn 8 = .ok (.istore 4, 2) := by decide +kernel
theorem dX6_nightIn_10 : decode cX6_nightIn 10 = .ok (.iload 4, 2) := by decide +kernel
theorem dX6_nightIn_12 : decode cX6_nightIn 12 = .ok (.aload_n 1, 1) := by decide +kernel
theorem dX6_nightIn_13 : decode cX6_nightIn 13 = .ok (.bipush 23, 2) := by decide +kernel
theorem dX6_nightIn_15 : decode cX6_nightIn 15 = .ok (.iaload, 1) := by decide +kernel
theorem dX6_nightIn_16 : decode cX6_nightIn 16 = .ok (.if_icmp .ge 85, 3) := by decide +kernel
theorem dX6_nightIn_19 : decode cX6_nightIn 19 = .ok (.aload_n 1, 1) := by decide +kernel
theorem dX6_nightIn_20 : decode cX6_nightIn 20 = .ok (.bipush 21, 2) := by decide +kernel
theorem dX6_nightIn_22 : decode cX6_nightIn 22 = .ok (.iaload, 1) := by decide +kernel
theorem dX6_nightIn_23 : decode cX6_nightIn 23 = .ok (.iload 4, 2) := by decide +kernel
theorem dX6_nightIn_25 : decode cX6_nightIn 25 = .ok (.invokestatic 50, 3) := by decide +kernel
theorem dX6_nightIn_28 : decode cX6_nightIn 28 = .ok (.ifCond .ne 16, 3) := by decide +kernel
theorem dX6_nightIn_31 : decode cX6_nightIn 31 = .ok (.iload_n 3, 1) := by decide +kernel
theorem dX6_nightIn_32 : decode cX6_nightIn 32 = .ok (.iload 4, 2) := by decide +kernel
theorem dX6_nightIn_34 : decode cX6_nightIn 34 = .ok (.invokestatic 50, 3) := by decide +kernel
theorem dX6_nightIn_37 : decode cX6_nightIn 37 = .ok (.ifCond .ne 7, 3) := by decide +kernel
theorem dX6_nightIn_40 : decode cX6_nightIn 40 = .ok (.iconst 1, 1) := by decide +kernel
theorem dX6_nightIn_41 : decode cX6_nightIn 41 = .ok (.goto 4, 3) := by decide +kernel
theorem dX6_nightIn_44 : decode cX6_nightIn 44 = .ok (.iconst 0, 1) := by decide +kernel
theorem dX6_nightIn_45 : decode cX6_nightIn 45 = .ok (.istore 5, 2) := by decide +kernel
theorem dX6_nightIn_47 : decode cX6_nightIn 47 = .ok (.aload_n 1, 1) := by decide +kernel
theorem dX6_nightIn_48 : decode cX6_nightIn 48 = .ok (.iconst 2, 1) := by decide +kernel
theorem dX6_nightIn_49 : decode cX6_nightIn 49 = .ok (.iload 4, 2) := by decide +kernel
theorem dX6_nightIn_51 : decode cX6_nightIn 51 = .ok (.iadd, 1) := by decide +kernel
theorem dX6_nightIn_52 : decode cX6_nightIn 52 = .ok (.iload 5, 2) := by decide +kernel
theorem dX6_nightIn_54 : decode cX6_nightIn 54 = .ok (.ifCond .eq 34, 3) := by decide +kernel
theorem dX6_nightIn_57 : decode cX6_nightIn 57 = .ok (.aload_n 1, 1) := by decide +kernel
theorem dX6_nightIn_58 : decode cX6_nightIn 58 = .ok (.bipush 24, 2) := by decide +kernel
theorem dX6_nightIn_60 : decode cX6_nightIn 60 = .ok (.iload 4, 2) := by decide +kernel
theorem dX6_nightIn_62 : decode cX6_nightIn 62 = .ok (.iadd, 1) := by decide +kernel
theorem dX6_nightIn_63 : decode cX6_nightIn 63 = .ok (.iaload, 1) := by decide +kernel
theorem dX6_nightIn_64 : decode cX6_nightIn 64 = .ok (.aload_n 1, 1) := by decide +kernel
theorem dX6_nightIn_65 : decode cX6_nightIn 65 = .ok (.iconst 2, 1) := by decide +kernel
theorem dX6_nightIn_66 : decode cX6_nightIn 66 = .ok (.iload 4, 2) := by decide +kernel
theorem dX6_nightIn_68 : decode cX6_nightIn 68 = .ok (.iadd, 1) := by decide +kernel
theorem dX6_nightIn_69 : decode cX6_nightIn 69 = .ok (.iaload, 1) := by decide +kernel
theorem dX6_nightIn_70 : decode cX6_nightIn 70 = .ok (.aload_n 1, 1) := by decide +kernel
theorem dX6_nightIn_71 : decode cX6_nightIn 71 = .ok (.bipush 20, 2) := by decide +kernel
theorem dX6_nightIn_73 : decode cX6_nightIn 73 = .ok (.iaload, 1) := by decide +kernel
theorem dX6_nightIn_74 : decode cX6_nightIn 74 = .ok (.iload 4, 2) := by decide +kernel
theorem dX6_nightIn_76 : decode cX6_nightIn 76 = .ok (.invokestatic 50, 3) := by decide +kernel
theorem dX6_nightIn_79 : decode cX6_nightIn 79 = .ok (.aload_n 1, 1) := by decide +kernel
theorem dX6_nightIn_80 : decode cX6_nightIn 80 = .ok (.iconst 0, 1) := by decide +kernel
theorem dX6_nightIn_81 : decode cX6_nightIn 81 = .ok (.iaload, 1) := by decide +kernel
theorem dX6_nightIn_82 : decode cX6_nightIn 82 = .ok (.invokestatic 119, 3) := by decide +kernel
theorem dX6_nightIn_85 : decode cX6_nightIn 85 = .ok (.goto 9, 3) := by decide +kernel
theorem dX6_nightIn_88 : decode cX6_nightIn 88 = .ok (.aload_n 1, 1) := by decide +kernel
theorem dX6_nightIn_89 : decode cX6_nightIn 89 = .ok (.iconst 2, 1) := by decide +kernel
theorem dX6_nightIn_90 : decode cX6_nightIn 90 = .ok (.iload 4, 2) := by decide +kernel
theorem dX6_nightIn_92 : decode cX6_nightIn 92 = .ok (.iadd, 1) := by decide +kernel
theorem dX6_nightIn_93 : decode cX6_nightIn 93 = .ok (.iaload, 1) := by decide +kernel
theorem dX6_nightIn_94 : decode cX6_nightIn 94 = .ok (.iastore, 1) := by decide +kernel
theorem dX6_nightIn_95 : decode cX6_nightIn 95 = .ok (.iinc 4 1, 3) := by decide +kernel
theorem dX6_nightIn_98 : decode cX6_nightIn 98 = .ok (.goto (-88), 3) := by decide +kernel
theorem dX6_nightIn_101 : decode cX6_nightIn 101 = .ok (.aload_n 1, 1) := by decide +kernel
theorem dX6_nightIn_102 : decode cX6_nightIn 102 = .ok (.iconst 0, 1) := by decide +kernel
theorem dX6_nightIn_103 : decode cX6_nightIn 103 = .ok (.dup2, 1) := by decide +kernel
theorem dX6_nightIn_104 : decode cX6_nightIn 104 = .ok (.iaload, 1) := by decide +kernel
theorem dX6_nightIn_105 : decode cX6_nightIn 105 = .ok (.iconst 1, 1) := by decide +kernel
theorem dX6_nightIn_106 : decode cX6_nightIn 106 = .ok (.iadd, 1) := by decide +kernel
theorem dX6_nightIn_107 : decode cX6_nightIn 107 = .ok (.iastore, 1) := by decide +kernel
theorem dX6_nightIn_108 : decode cX6_nightIn 108 = .ok (.return_, 1) := by decide +kernel
theorem dX6_nights_0 : decode cX6_nights 0 = .ok (.iload_n 1, 1) := by decide +kernel
theorem dX6_nights_1 : decode cX6_nights 1 = .ok (.iconst 1, 1) := by decide +kernel
theorem dX6_nights_2 : decode cX6_nights 2 = .ok (.bipush 40, 2) := by decide +kernel
theorem dX6_nights_4 : decode cX6_nights 4 = .ok (.invokestatic 38, 3) := by decide +kernel
theorem dX6_nights_7 : decode cX6_nights 7 = .ok (.ifCond .ne 5, 3) := by decide +kernel
theorem dX6_nights_10 : decode cX6_nights 10 = .ok (.iconst (-1), 1) := by decide +kernel
theorem dX6_nights_11 : decode cX6_nights 11 = .ok (.ireturn, 1) := by decide +kernel
theorem dX6_nights_12 : decode cX6_nights 12 = .ok (.aload_n 0, 1) := by decide +kernel
theorem dX6_nights_13 : decode cX6_nights 13 = .ok (.getfield 23, 3) := by decide +kernel
theorem dX6_nights_16 : decode cX6_nights 16 = .ok (.iconst 0, 1) := by decide +kernel
theorem dX6_nights_17 : decode cX6_nights 17 = .ok (.iaload, 1) := by decide +kernel
theorem dX6_nights_18 : decode cX6_nights 18 = .ok (.iload_n 1, 1) := by decide +kernel
theorem dX6_nights_19 : decode cX6_nights 19 = .ok (.iadd, 1) := by decide +kernel
theorem dX6_nights_20 : decode cX6_nights 20 = .ok (.sipush 9999, 3) := by decide +kernel
theorem dX6_nights_23 : decode cX6_nights 23 = .ok (.if_icmp .le 6, 3) := by decide +kernel
theorem dX6_nights_26 : decode cX6_nights 26 = .ok (.bipush (-3), 2) := by decide +kernel
theorem dX6_nights_28 : decode cX6_nights 28 = .ok (.ireturn, 1) := by decide +kernel
theorem dX6_nights_29 : decode cX6_nights 29 = .ok (.iconst 0, 1) := by decide +kernel
theorem dX6_nights_30 : decode cX6_nights 30 = .ok (.istore_n 2, 1) := by decide +kernel
theorem dX6_nights_31 : decode cX6_nights 31 = .ok (.iload_n 2, 1) := by decide +kernel
theorem dX6_nights_32 : decode cX6_nights 32 = .ok (.iload_n 1, 1) := by decide +kernel
theorem dX6_nights_33 : decode cX6_nights 33 = .ok (.if_icmp .ge 22, 3) := by decide +kernel
theorem dX6_nights_36 : decode cX6_nights 36 = .ok (.aload_n 0, 1) := by decide +kernel
theorem dX6_nights_37 : decode cX6_nights 37 = .ok (.invokevirtual 123, 3) := by decide +kernel
theorem dX6_nights_40 : decode cX6_nights 40 = .ok (.aload_n 0, 1) := by decide +kernel
theorem dX6_nights_41 : decode cX6_nights 41 = .ok (.aload_n 0, 1) := by decide +kernel
theorem dX6_nights_42 : decode cX6_nights 42 = .ok (.getfield 23, 3) := by decide +kernel
theorem dX6_nights_45 : decode cX6_nights 45 = .ok (.iconst 0, 1) := by decide +kernel
theorem dX6_nights_46 : decode cX6_nights 46 = .ok (.invokevirtual 126, 3) := by decide +kernel
theorem dX6_nights_49 : decode cX6_nights 49 = .ok (.iinc 2 1, 3) := by decide +kernel
theorem dX6_nights_52 : decode cX6_nights 52 = .ok (.goto (-21), 3) := by decide +kernel
theorem dX6_nights_55 : decode cX6_nights 55 = .ok (.aload_n 0, 1) := by decide +kernel
theorem dX6_nights_56 : decode cX6_nights 56 = .ok (.getfield 23, 3) := by decide +kernel
theorem dX6_nights_59 : decode cX6_nights 59 = .ok (.bipush 21, 2) := by decide +kernel
theorem dX6_nights_61 : decode cX6_nights 61 = .ok (.iaload, 1) := by decide +kernel
theorem dX6_nights_62 : decode cX6_nights 62 = .ok (.ireturn, 1) := by decide +kernel
theorem dX6_setShows_0 : decode cX6_setShows 0 = .ok (.aload_n 0, 1) := by decide +kernel
theorem dX6_setShows_1 : decode cX6_setShows 1 = .ok (.bipush 20, 2) := by decide +kernel
theorem dX6_setShows_3 : decode cX6_setShows 3 = .ok (.iload_n 2, 1) := by decide +kernel
theorem dX6_setShows_4 : decode cX6_setShows 4 = .ok (.ifCond .eq 14, 3) := by decide +kernel
theorem dX6_setShows_7 : decode cX6_setShows 7 = .ok (.aload_n 0, 1) := by decide +kernel
theorem dX6_setShows_8 : decode cX6_setShows 8 = .ok (.bipush 20, 2) := by decide +kernel
theorem dX6_setShows_10 : decode cX6_setShows 10 = .ok (.iaload, 1) := by decide +kernel
theorem dX6_setShows_11 : decode cX6_setShows 11 = .ok (.iconst 1, 1) := by decide +kernel
theorem dX6_setShows_12 : decode cX6_setShows 12 = .ok (.iload_n 1, 1) := by decide +kernel
theorem dX6_setShows_13 : decode cX6_setShows 13 = .ok (.ishl, 1) := by decide +kernel
theorem dX6_setShows_14 : decode cX6_setShows 14 = .ok (.ior, 1) := by decide +kernel
theorem dX6_setShows_15 : decode cX6_setShows 15 = .ok (.goto 13, 3) := by decide +kernel
theorem dX6_setShows_18 : decode cX6_setShows 18 = .ok (.aload_n 0, 1) := by decide +kernel
theorem dX6_setShows_19 : decode cX6_setShows 19 = .ok (.bipush 20, 2) := by decide +kernel
theorem dX6_setShows_21 : decode cX6_setShows 21 = .ok (.iaload, 1) := by decide +kernel
theorem dX6_setShows_22 : decode cX6_setShows 22 = .ok (.iconst 1, 1) := by decide +kernel
theorem dX6_setShows_23 : decode cX6_setShows 23 = .ok (.iload_n 1, 1) := by decide +kernel
theorem dX6_setShows_24 : decode cX6_setShows 24 = .ok (.ishl, 1) := by decide +kernel
theorem dX6_setShows_25 : decode cX6_setShows 25 = .ok (.iconst (-1), 1) := by decide +kernel
theorem dX6_setShows_26 : decode cX6_setShows 26 = .ok (.ixor, 1) := by decide +kernel
theorem dX6_setShows_27 : decode cX6_setShows 27 = .ok (.iand, 1) := by decide +kernel
theorem dX6_setShows_28 : decode cX6_setShows 28 = .ok (.iastore, 1) := by decide +kernel
theorem dX6_setShows_29 : decode cX6_setShows 29 = .ok (.return_, 1) := by decide +kernel
theorem dX6_show_0 : decode cX6_show 0 = .ok (.aload_n 0, 1) := by decide +kernel
theorem dX6_show_1 : decode cX6_show 1 = .ok (.iload_n 1, 1) := by decide +kernel
theorem dX6_show_2 : decode cX6_show 2 = .ok (.invokevirtual 58, 3) := by decide +kernel
theorem dX6_show_5 : decode cX6_show 5 = .ok (.ifCond .eq 12, 3) := by decide +kernel
theorem dX6_show_8 : decode cX6_show 8 = .ok (.iload_n 2, 1) := by decide +kernel
theorem dX6_show_9 : decode cX6_show 9 = .ok (.iconst 0, 1) := by decide +kernel
theorem dX6_show_10 : decode cX6_show 10 = .ok (.iconst 1, 1) := by decide +kernel
theorem dX6_show_11 : decode cX6_show 11 = .ok (.invokestatic 38, 3) := by decide +kernel
theorem dX6_show_14 : decode cX6_show 14 = .ok (.ifCond .ne 5, 3) := by decide +kernel
theorem dX6_show_17 : decode cX6_show 17 = .ok (.iconst (-1), 1) := by decide +kernel
theorem dX6_show_18 : decode cX6_show 18 = .ok (.ireturn, 1) := by decide +kernel
theorem dX6_show_19 : decode cX6_show 19 = .ok (.aload_n 0, 1) := by decide +kernel
theorem dX6_show_20 : decode cX6_show 20 = .ok (.getfield 23, 3) := by decide +kernel
theorem dX6_show_23 : decode cX6_show 23 = .ok (.bipush 20, 2) := by decide +kernel
theorem dX6_show_25 : decode cX6_show 25 = .ok (.iaload, 1) := by decide +kernel
theorem dX6_show_26 : decode cX6_show 26 = .ok (.iload_n 1, 1) := by decide +kernel
theorem dX6_show_27 : decode cX6_show 27 = .ok (.ishr, 1) := by decide +kernel
theorem dX6_show_28 : decode cX6_show 28 = .ok (.iconst 1, 1) := by decide +kernel
theorem dX6_show_29 : decode cX6_show 29 = .ok (.iand, 1) := by decide +kernel
theorem dX6_show_30 : decode cX6_show 30 = .ok (.iload_n 2, 1) := by decide +kernel
theorem dX6_show_31 : decode cX6_show 31 = .ok (.if_icmp .eq 17, 3) := by decide +kernel
theorem dX6_show_34 : decode cX6_show 34 = .ok (.aload_n 0, 1) := by decide +kernel
theorem dX6_show_35 : decode cX6_show 35 = .ok (.getfield 23, 3) := by decide +kernel
theorem dX6_show_38 : decode cX6_show 38 = .ok (.bipush 21, 2) := by decide +kernel
theorem dX6_show_40 : decode cX6_show 40 = .ok (.iaload, 1) := by decide +kernel
theorem dX6_show_41 : decode cX6_show 41 = .ok (.iload_n 1, 1) := by decide +kernel
theorem dX6_show_42 : decode cX6_show 42 = .ok (.invokestatic 50, 3) := by decide +kernel
theorem dX6_show_45 : decode cX6_show 45 = .ok (.ifCond .eq 6, 3) := by decide +kernel
theorem dX6_show_48 : decode cX6_show 48 = .ok (.bipush (-2), 2) := by decide +kernel
theorem dX6_show_50 : decode cX6_show 50 = .ok (.ireturn, 1) := by decide +kernel
theorem dX6_show_51 : decode cX6_show 51 = .ok (.aload_n 0, 1) := by decide +kernel
theorem dX6_show_52 : decode cX6_show 52 = .ok (.invokevirtual 123, 3) := by decide +kernel
theorem dX6_show_55 : decode cX6_show 55 = .ok (.aload_n 0, 1) := by decide +kernel
theorem dX6_show_56 : decode cX6_show 56 = .ok (.getfield 23, 3) := by decide +kernel
theorem dX6_show_59 : decode cX6_show 59 = .ok (.iload_n 1, 1) := by decide +kernel
theorem dX6_show_60 : decode cX6_show 60 = .ok (.iload_n 2, 1) := by decide +kernel
theorem dX6_show_61 : decode cX6_show 61 = .ok (.iconst 1, 1) := by decide +kernel
theorem dX6_show_62 : decode cX6_show 62 = .ok (.if_icmp .ne 7, 3) := by decide +kernel
theorem dX6_show_65 : decode cX6_show 65 = .ok (.iconst 1, 1) := by decide +kernel
theorem dX6_show_66 : decode cX6_show 66 = .ok (.goto 4, 3) := by decide +kernel
theorem dX6_show_69 : decode cX6_show 69 = .ok (.iconst 0, 1) := by decide +kernel
theorem dX6_show_70 : decode cX6_show 70 = .ok (.invokestatic 130, 3) := by decide +kernel
theorem dX6_show_73 : decode cX6_show 73 = .ok (.aload_n 0, 1) := by decide +kernel
theorem dX6_show_74 : decode cX6_show 74 = .ok (.getfield 23, 3) := by decide +kernel
theorem dX6_show_77 : decode cX6_show 77 = .ok (.bipush 20, 2) := by decide +kernel
theorem dX6_show_79 : decode cX6_show 79 = .ok (.iaload, 1) := by decide +kernel
theorem dX6_show_80 : decode cX6_show 80 = .ok (.ireturn, 1) := by decide +kernel
theorem dX6_teach_0 : decode cX6_teach 0 = .ok (.aload_n 0, 1) := by decide +kernel
theorem dX6_teach_1 : decode cX6_teach 1 = .ok (.iload_n 1, 1) := by decide +kernel
theorem dX6_teach_2 : decode cX6_teach 2 = .ok (.invokevirtual 58, 3) := by decide +kernel
theorem dX6_teach_5 : decode cX6_teach 5 = .ok (.ifCond .eq 13, 3) := by decide +kernel
theorem dX6_teach_8 : decode cX6_teach 8 = .ok (.iload_n 2, 1) := by decide +kernel
theorem dX6_teach_9 : decode cX6_teach 9 = .ok (.iconst 0, 1) := by decide +kernel
theorem dX6_teach_10 : decode cX6_teach 10 = .ok (.bipush 9, 2) := by decide +kernel
theorem dX6_teach_12 : decode cX6_teach 12 = .ok (.invokestatic 38, 3) := by decide +kernel
theorem dX6_teach_15 : decode cX6_teach 15 = .ok (.ifCond .ne 5, 3) := by decide +kernel
theorem dX6_teach_18 : decode cX6_teach 18 = .ok (.iconst (-1), 1) := by decide +kernel
theorem dX6_teach_19 : decode cX6_teach 19 = .ok (.ireturn, 1) := by decide +kernel
theorem dX6_teach_20 : decode cX6_teach 20 = .ok (.aload_n 0, 1) := by decide +kernel
theorem dX6_teach_21 : decode cX6_teach 21 = .ok (.getfield 23, 3) := by decide +kernel
theorem dX6_teach_24 : decode cX6_teach 24 = .ok (.bipush 14, 2) := by decide +kernel
theorem dX6_teach_26 : decode cX6_teach 26 = .ok (.iload_n 1, 1) := by decide +kernel
theorem dX6_teach_27 : decode cX6_teach 27 = .ok (.iadd, 1) := by decide +kernel
theorem dX6_teach_28 : decode cX6_teach 28 = .ok (.iaload, 1) := by decide +kernel
theorem dX6_teach_29 : decode cX6_teach 29 = .ok (.istore_n 3, 1) := by decide +kernel
theorem dX6_teach_30 : decode cX6_teach 30 = .ok (.iload_n 3, 1) := by decide +kernel
theorem dX6_teach_31 : decode cX6_teach 31 = .ok (.iload_n 2, 1) := by decide +kernel
theorem dX6_teach_32 : decode cX6_teach 32 = .ok (.if_icmp .ne 6, 3) := by decide +kernel
theorem dX6_teach_35 : decode cX6_teach 35 = .ok (.bipush (-2), 2) := by decide +kernel
theorem dX6_teach_37 : decode cX6_teach 37 = .ok (.ireturn, 1) := by decide +kernel
theorem dX6_teach_38 : decode cX6_teach 38 = .ok (.aload_n 0, 1) := by decide +kernel
theorem dX6_teach_39 : decode cX6_teach 39 = .ok (.invokevirtual 123, 3) := by decide +kernel
theorem dX6_teach_42 : decode cX6_teach 42 = .ok (.aload_n 0, 1) := by decide +kernel
theorem dX6_teach_43 : decode cX6_teach 43 = .ok (.getfield 23, 3) := by decide +kernel
theorem dX6_teach_46 : decode cX6_teach 46 = .ok (.bipush 14, 2) := by decide +kernel
theorem dX6_teach_48 : decode cX6_teach 48 = .ok (.iload_n 1, 1) := by decide +kernel
theorem dX6_teach_49 : decode cX6_teach 49 = .ok (.iadd, 1) := by decide +kernel
theorem dX6_teach_50 : decode cX6_teach 50 = .ok (.iload_n 2, 1) := by decide +kernel
theorem dX6_teach_51 : decode cX6_teach 51 = .ok (.iastore, 1) := by decide +kernel
theorem dX6_teach_52 : decode cX6_teach 52 = .ok (.iload_n 3, 1) := by decide +kernel
theorem dX6_teach_53 : decode cX6_teach 53 = .ok (.ireturn, 1) := by decide +kernel
theorem dX6_drift_0 : decode cX6_drift 0 = .ok (.iload_n 1, 1) := by decide +kernel
theorem dX6_drift_1 : decode cX6_drift 1 = .ok (.iconst 1, 1) := by decide +kernel
theorem dX6_drift_2 : decode cX6_drift 2 = .ok (.bipush 40, 2) := by decide +kernel
theorem dX6_drift_4 : decode cX6_drift 4 = .ok (.invokestatic 38, 3) := by decide +kernel
theorem dX6_drift_7 : decode cX6_drift 7 = .ok (.ifCond .ne 5, 3) := by decide +kernel
theorem dX6_drift_10 : decode cX6_drift 10 = .ok (.iconst (-1), 1) := by decide +kernel
theorem dX6_drift_11 : decode cX6_drift 11 = .ok (.ireturn, 1) := by decide +kernel
theorem dX6_drift_12 : decode cX6_drift 12 = .ok (.aload_n 0, 1) := by decide +kernel
theorem dX6_drift_13 : decode cX6_drift 13 = .ok (.getfield 23, 3) := by decide +kernel
theorem dX6_drift_16 : decode cX6_drift 16 = .ok (.iconst 0, 1) := by decide +kernel
theorem dX6_drift_17 : decode cX6_drift 17 = .ok (.iaload, 1) := by decide +kernel
theorem dX6_drift_18 : decode cX6_drift 18 = .ok (.iload_n 1, 1) := by decide +kernel
theorem dX6_drift_19 : decode cX6_drift 19 = .ok (.iadd, 1) := by decide +kernel
theorem dX6_drift_20 : decode cX6_drift 20 = .ok (.sipush 9999, 3) := by decide +kernel
theorem dX6_drift_23 : decode cX6_drift 23 = .ok (.if_icmp .le 6, 3) := by decide +kernel
theorem dX6_drift_26 : decode cX6_drift 26 = .ok (.bipush (-3), 2) := by decide +kernel
theorem dX6_drift_28 : decode cX6_drift 28 = .ok (.ireturn, 1) := by decide +kernel
theorem dX6_drift_29 : decode cX6_drift 29 = .ok (.iconst 0, 1) := by decide +kernel
theorem dX6_drift_30 : decode cX6_drift 30 = .ok (.istore_n 2, 1) := by decide +kernel
theorem dX6_drift_31 : decode cX6_drift 31 = .ok (.iload_n 2, 1) := by decide +kernel
theorem dX6_drift_32 : decode cX6_drift 32 = .ok (.iload_n 1, 1) := by decide +kernel
theorem dX6_drift_33 : decode cX6_drift 33 = .ok (.if_icmp .ge 102, 3) := by decide +kernel
theorem dX6_drift_36 : decode cX6_drift 36 = .ok (.aload_n 0, 1) := by decide +kernel
theorem dX6_drift_37 : decode cX6_drift 37 = .ok (.invokevirtual 123, 3) := by decide +kernel
theorem dX6_drift_40 : decode cX6_drift 40 = .ok (.aload_n 0, 1) := by decide +kernel
theorem dX6_drift_41 : decode cX6_drift 41 = .ok (.getfield 23, 3) := by decide +kernel
theorem dX6_drift_44 : decode cX6_drift 44 = .ok (.iconst 1, 1) := by decide +kernel
theorem dX6_drift_45 : decode cX6_drift 45 = .ok (.aload_n 0, 1) := by decide +kernel
theorem dX6_drift_46 : decode cX6_drift 46 = .ok (.getfield 23, 3) := by decide +kernel
theorem dX6_drift_49 : decode cX6_drift 49 = .ok (.iconst 1, 1) := by decide +kernel
theorem dX6_drift_50 : decode cX6_drift 50 = .ok (.iaload, 1) := by decide +kernel
theorem dX6_drift_51 : decode cX6_drift 51 = .ok (.i2l, 1) := by decide +kernel
theorem dX6_drift_52 : decode cX6_drift 52 = .ok (.ldc2_w 134, 3) := by decide +kernel
theorem dX6_drift_55 : decode cX6_drift 55 = .ok (.lmul, 1) := by decide +kernel
theorem dX6_drift_56 : decode cX6_drift 56 = .ok (.ldc2_w 136, 3) := by decide +kernel
theorem dX6_drift_59 : decode cX6_drift 59 = .ok (.ladd, 1) := by decide +kernel
theorem dX6_drift_60 : decode cX6_drift 60 = .ok (.ldc2_w 138, 3) := by decide +kernel
theorem dX6_drift_63 : decode cX6_drift 63 = .ok (.lrem, 1) := by decide +kernel
theorem dX6_drift_64 : decode cX6_drift 64 = .ok (.l2i, 1) := by decide +kernel
theorem dX6_drift_65 : decode cX6_drift 65 = .ok (.iastore, 1) := by decide +kernel
theorem dX6_drift_66 : decode cX6_drift 66 = .ok (.aload_n 0, 1) := by decide +kernel
theorem dX6_drift_67 : decode cX6_drift 67 = .ok (.getfield 23, 3) := by decide +kernel
theorem dX6_drift_70 : decode cX6_drift 70 = .ok (.bipush 23, 2) := by decide +kernel
theorem dX6_drift_72 : decode cX6_drift 72 = .ok (.iaload, 1) := by decide +kernel
theorem dX6_drift_73 : decode cX6_drift 73 = .ok (.ifCond .le 47, 3) := by decide +kernel
theorem dX6_drift_76 : decode cX6_drift 76 = .ok (.aload_n 0, 1) := by decide +kernel
theorem dX6_drift_77 : decode cX6_drift 77 = .ok (.getfield 23, 3) := by decide +kernel
theorem dX6_drift_80 : decode cX6_drift 80 = .ok (.aload_n 0, 1) := by decide +kernel
theorem dX6_drift_81 : decode cX6_drift 81 = .ok (.getfield 23, 3) := by decide +kernel
theorem dX6_drift_84 : decode cX6_drift 84 = .ok (.iconst 1, 1) := by decide +kernel
theorem dX6_drift_85 : decode cX6_drift 85 = .ok (.iaload, 1) := by decide +kernel
theorem dX6_drift_86 : decode cX6_drift 86 = .ok (.ldc 140, 2) := by decide +kernel
theorem dX6_drift_88 : decode cX6_drift 88 = .ok (.idiv, 1) := by decide +kernel
theorem dX6_drift_89 : decode cX6_drift 89 = .ok (.aload_n 0, 1) := by decide +kernel
theorem dX6_drift_90 : decode cX6_drift 90 = .ok (.getfield 23, 3) := by decide +kernel
theorem dX6_drift_93 : decode cX6_drift 93 = .ok (.bipush 23, 2) := by decide +kernel
theorem dX6_drift_95 : decode cX6_drift 95 = .ok (.iaload, 1) := by decide +kernel
theorem dX6_drift_96 : decode cX6_drift 96 = .ok (.irem, 1) := by decide +kernel
theorem dX6_drift_97 : decode cX6_drift 97 = .ok (.aload_n 0, 1) := by decide +kernel
theorem dX6_drift_98 : decode cX6_drift 98 = .ok (.getfield 23, 3) := by decide +kernel
theorem dX6_drift_101 : decode cX6_drift 101 = .ok (.iconst 1, 1) := by decide +kernel
theorem dX6_drift_102 : decode cX6_drift 102 = .ok (.iaload, 1) := by decide +kernel
theorem dX6_drift_103 : decode cX6_drift 103 = .ok (.sipush 128, 3) := by decide +kernel
theorem dX6_drift_106 : decode cX6_drift 106 = .ok (.idiv, 1) := by decide +kernel
theorem dX6_drift_107 : decode cX6_drift 107 = .ok (.iconst 2, 1) := by decide +kernel
theorem dX6_drift_108 : decode cX6_drift 108 = .ok (.irem, 1) := by decide +kernel
theorem dX6_drift_109 : decode cX6_drift 109 = .ok (.ifCond .ne 7, 3) := by decide +kernel
theorem dX6_drift_112 : decode cX6_drift 112 = .ok (.iconst 1, 1) := by decide +kernel
theorem dX6_drift_113 : decode cX6_drift 113 = .ok (.goto 4, 3) := by decide +kernel
theorem dX6_drift_116 : decode cX6_drift 116 = .ok (.iconst 0, 1) := by decide +kernel
theorem dX6_drift_117 : decode cX6_drift 117 = .ok (.invokestatic 130, 3) := by decide +kernel
theorem dX6_drift_120 : decode cX6_drift 120 = .ok (.aload_n 0, 1) := by decide +kernel
theorem dX6_drift_121 : decode cX6_drift 121 = .ok (.aload_n 0, 1) := by decide +kernel
theorem dX6_drift_122 : decode cX6_drift 122 = .ok (.getfield 23, 3) := by decide +kernel
theorem dX6_drift_125 : decode cX6_drift 125 = .ok (.iconst 0, 1) := by decide +kernel
theorem dX6_drift_126 : decode cX6_drift 126 = .ok (.invokevirtual 126, 3) := by decide +kernel
theorem dX6_drift_129 : decode cX6_drift 129 = .ok (.iinc 2 1, 3) := by decide +kernel
theorem dX6_drift_132 : decode cX6_drift 132 = .ok (.goto (-101), 3) := by decide +kernel
theorem dX6_drift_135 : decode cX6_drift 135 = .ok (.aload_n 0, 1) := by decide +kernel
theorem dX6_drift_136 : decode cX6_drift 136 = .ok (.getfield 23, 3) := by decide +kernel
theorem dX6_drift_139 : decode cX6_drift 139 = .ok (.bipush 21, 2) := by decide +kernel
theorem dX6_drift_141 : decode cX6_drift 141 = .ok (.iaload, 1) := by decide +kernel
theorem dX6_drift_142 : decode cX6_drift 142 = .ok (.ireturn, 1) := by decide +kernel
theorem dX6_undo_0 : decode cX6_undo 0 = .ok (.aload_n 0, 1) := by decide +kernel
theorem dX6_undo_1 : decode cX6_undo 1 = .ok (.getfield 23, 3) := by decide +kernel
theorem dX6_undo_4 : decode cX6_undo 4 = .ok (.bipush 39, 2) := by decide +kernel
theorem dX6_undo_6 : decode cX6_undo 6 = .ok (.iaload, 1) := by decide +kernel
theorem dX6_undo_7 : decode cX6_undo 7 = .ok (.ifCond .ne 6, 3) := by decide +kernel
theorem dX6_undo_10 : decode cX6_undo 10 = .ok (.bipush (-4), 2) := by decide +kernel
theorem dX6_undo_12 : decode cX6_undo 12 = .ok (.ireturn, 1) := by decide +kernel
theorem dX6_undo_13 : decode cX6_undo 13 = .ok (.aload_n 0, 1) := by decide +kernel
theorem dX6_undo_14 : decode cX6_undo 14 = .ok (.getfield 23, 3) := by decide +kernel
theorem dX6_undo_17 : decode cX6_undo 17 = .ok (.bipush 39, 2) := by decide +kernel
theorem dX6_undo_19 : decode cX6_undo 19 = .ok (.dup2, 1) := by decide +kernel
theorem dX6_undo_20 : decode cX6_undo 20 = .ok (.iaload, 1) := by decide +kernel
theorem dX6_undo_21 : decode cX6_undo 21 = .ok (.iconst 1, 1) := by decide +kernel
theorem dX6_undo_22 : decode cX6_undo 22 = .ok (.isub, 1) := by decide +kernel
theorem dX6_undo_23 : decode cX6_undo 23 = .ok (.iastore, 1) := by decide +kernel
theorem dX6_undo_24 : decode cX6_undo 24 = .ok (.aload_n 0, 1) := by decide +kernel
theorem dX6_undo_25 : decode cX6_undo 25 = .ok (.getfield 23, 3) := by decide +kernel
theorem dX6_undo_28 : decode cX6_undo 28 = .ok (.bipush 40, 2) := by decide +kernel
theorem dX6_undo_30 : decode cX6_undo 30 = .ok (.bipush 22, 2) := by decide +kernel
theorem dX6_undo_32 : decode cX6_undo 32 = .ok (.aload_n 0, 1) := by decide +kernel
theorem dX6_undo_33 : decode cX6_undo 33 = .ok (.getfield 23, 3) := by decide +kernel
theorem dX6_undo_36 : decode cX6_undo 36 = .ok (.bipush 39, 2) := by decide +kernel
theorem dX6_undo_38 : decode cX6_undo 38 = .ok (.iaload, 1) := by decide +kernel
theorem dX6_undo_39 : decode cX6_undo 39 = .ok (.imul, 1) := by decide +kernel
theorem dX6_undo_40 : decode cX6_undo 40 = .ok (.iadd, 1) := by decide +kernel
theorem dX6_undo_41 : decode cX6_undo 41 = .ok (.aload_n 0, 1) := by decide +kernel
theorem dX6_undo_42 : decode cX6_undo 42 = .ok (.getfield 23, 3) := by decide +kernel
theorem dX6_undo_45 : decode cX6_undo 45 = .ok (.iconst 0, 1) := by decide +kernel
theorem dX6_undo_46 : decode cX6_undo 46 = .ok (.bipush 22, 2) := by decide +kernel
theorem dX6_undo_48 : decode cX6_undo 48 = .ok (.invokestatic 108, 3) := by decide +kernel
theorem dX6_undo_51 : decode cX6_undo 51 = .ok (.aload_n 0, 1) := by decide +kernel
theorem dX6_undo_52 : decode cX6_undo 52 = .ok (.getfield 23, 3) := by decide +kernel
theorem dX6_undo_55 : decode cX6_undo 55 = .ok (.bipush 39, 2) := by decide +kernel
theorem dX6_undo_57 : decode cX6_undo 57 = .ok (.iaload, 1) := by decide +kernel
theorem dX6_undo_58 : decode cX6_undo 58 = .ok (.ireturn, 1) := by decide +kernel
theorem dX6_seed_0 : decode cX6_seed 0 = .ok (.iload_n 1, 1) := by decide +kernel
theorem dX6_seed_1 : decode cX6_seed 1 = .ok (.ifCond .ge 5, 3) := by decide +kernel
theorem dX6_seed_4 : decode cX6_seed 4 = .ok (.iconst (-1), 1) := by decide +kernel
theorem dX6_seed_5 : decode cX6_seed 5 = .ok (.ireturn, 1) := by decide +kernel
theorem dX6_seed_6 : decode cX6_seed 6 = .ok (.aload_n 0, 1) := by decide +kernel
theorem dX6_seed_7 : decode cX6_seed 7 = .ok (.getfield 23, 3) := by decide +kernel
theorem dX6_seed_10 : decode cX6_seed 10 = .ok (.iconst 1, 1) := by decide +kernel
theorem dX6_seed_11 : decode cX6_seed 11 = .ok (.iaload, 1) := by decide +kernel
theorem dX6_seed_12 : decode cX6_seed 12 = .ok (.istore_n 2, 1) := by decide +kernel
theorem dX6_seed_13 : decode cX6_seed 13 = .ok (.aload_n 0, 1) := by decide +kernel
theorem dX6_seed_14 : decode cX6_seed 14 = .ok (.getfield 23, 3) := by decide +kernel
theorem dX6_seed_17 : decode cX6_seed 17 = .ok (.iconst 1, 1) := by decide +kernel
theorem dX6_seed_18 : decode cX6_seed 18 = .ok (.iload_n 1, 1) := by decide +kernel
theorem dX6_seed_19 : decode cX6_seed 19 = .ok (.iastore, 1) := by decide +kernel
theorem dX6_seed_20 : decode cX6_seed 20 = .ok (.iload_n 2, 1) := by decide +kernel
theorem dX6_seed_21 : decode cX6_seed 21 = .ok (.ireturn, 1) := by decide +kernel
theorem dX6_begin_0 : decode cX6_begin 0 = .ok (.aload_n 0, 1) := by decide +kernel
theorem dX6_begin_1 : decode cX6_begin 1 = .ok (.getfield 23, 3) := by decide +kernel
theorem dX6_begin_4 : decode cX6_begin 4 = .ok (.iconst 0, 1) := by decide +kernel
theorem dX6_begin_5 : decode cX6_begin 5 = .ok (.aload_n 0, 1) := by decide +kernel
theorem dX6_begin_6 : decode cX6_begin 6 = .ok (.getfield 26, 3) := by decide +kernel
theorem dX6_begin_9 : decode cX6_begin 9 = .ok (.iconst 0, 1) := by decide +kernel
theorem dX6_begin_10 : decode cX6_begin 10 = .ok (.sipush 216, 3) := by decide +kernel
theorem dX6_begin_13 : decode cX6_begin 13 = .ok (.invokestatic 108, 3) := by decide +kernel
theorem dX6_begin_16 : decode cX6_begin 16 = .ok (.return_, 1) := by decide +kernel
theorem dX6_goOn_0 : decode cX6_goOn 0 = .ok (.iconst 0, 1) := by decide +kernel
theorem dX6_goOn_1 : decode cX6_goOn 1 = .ok (.istore_n 3, 1) := by decide +kernel
theorem dX6_goOn_2 : decode cX6_goOn 2 = .ok (.iload_n 3, 1) := by decide +kernel
theorem dX6_goOn_3 : decode cX6_goOn 3 = .ok (.iload_n 1, 1) := by decide +kernel
theorem dX6_goOn_4 : decode cX6_goOn 4 = .ok (.if_icmp .ge 18, 3) := by decide +kernel
theorem dX6_goOn_7 : decode cX6_goOn 7 = .ok (.aload_n 0, 1) := by decide +kernel
theorem dX6_goOn_8 : decode cX6_goOn 8 = .ok (.aload_n 0, 1) := by decide +kernel
theorem dX6_goOn_9 : decode cX6_goOn 9 = .ok (.getfield 26, 3) := by decide +kernel
theorem dX6_goOn_12 : decode cX6_goOn 12 = .ok (.iload_n 2, 1) := by decide +kernel
theorem dX6_goOn_13 : decode cX6_goOn 13 = .ok (.invokevirtual 126, 3) := by decide +kernel
theorem dX6_goOn_16 : decode cX6_goOn 16 = .ok (.iinc 3 1, 3) := by decide +kernel
theorem dX6_goOn_19 : decode cX6_goOn 19 = .ok (.goto (-17), 3) := by decide +kernel
theorem dX6_goOn_22 : decode cX6_goOn 22 = .ok (.return_, 1) := by decide +kernel
theorem dX6_ahead_0 : decode cX6_ahead 0 = .ok (.aload_n 0, 1) := by decide +kernel
theorem dX6_ahead_1 : decode cX6_ahead 1 = .ok (.iload_n 1, 1) := by decide +kernel
theorem dX6_ahead_2 : decode cX6_ahead 2 = .ok (.invokevirtual 58, 3) := by decide +kernel
theorem dX6_ahead_5 : decode cX6_ahead 5 = .ok (.ifCond .eq 13, 3) := by decide +kernel
theorem dX6_ahead_8 : decode cX6_ahead 8 = .ok (.iload_n 2, 1) := by decide +kernel
theorem dX6_ahead_9 : decode cX6_ahead 9 = .ok (.iconst 0, 1) := by decide +kernel
theorem dX6_ahead_10 : decode cX6_ahead 10 = .ok (.bipush 99, 2) := by decide +kernel
theorem dX6_ahead_12 : decode cX6_ahead 12 = .ok (.invokestatic 38, 3) := by decide +kernel
theorem dX6_ahead_15 : decode cX6_ahead 15 = .ok (.ifCond .ne 5, 3) := by decide +kernel
theorem dX6_ahead_18 : decode cX6_ahead 18 = .ok (.iconst (-1), 1) := by decide +kernel
theorem dX6_ahead_19 : decode cX6_ahead 19 = .ok (.ireturn, 1) := by decide +kernel
theorem dX6_ahead_20 : decode cX6_ahead 20 = .ok (.aload_n 0, 1) := by decide +kernel
theorem dX6_ahead_21 : decode cX6_ahead 21 = .ok (.invokevirtual 141, 3) := by decide +kernel
theorem dX6_ahead_24 : decode cX6_ahead 24 = .ok (.aload_n 0, 1) := by decide +kernel
theorem dX6_ahead_25 : decode cX6_ahead 25 = .ok (.iload_n 2, 1) := by decide +kernel
theorem dX6_ahead_26 : decode cX6_ahead 26 = .ok (.iconst 0, 1) := by decide +kernel
theorem dX6_ahead_27 : decode cX6_ahead 27 = .ok (.invokevirtual 144, 3) := by decide +kernel
theorem dX6_ahead_30 : decode cX6_ahead 30 = .ok (.aload_n 0, 1) := by decide +kernel
theorem dX6_ahead_31 : decode cX6_ahead 31 = .ok (.getfield 26, 3) := by decide +kernel
theorem dX6_ahead_34 : decode cX6_ahead 34 = .ok (.iconst 2, 1) := by decide +kernel
theorem dX6_ahead_35 : decode cX6_ahead 35 = .ok (.iload_n 1, 1) := by decide +kernel
theorem dX6_ahead_36 : decode cX6_ahead 36 = .ok (.iadd, 1) := by decide +kernel
theorem dX6_ahead_37 : decode cX6_ahead 37 = .ok (.iaload, 1) := by decide +kernel
theorem dX6_ahead_38 : decode cX6_ahead 38 = .ok (.ireturn, 1) := by decide +kernel
theorem dX6_then_0 : decode cX6_then 0 = .ok (.iload_n 1, 1) := by decide +kernel
theorem dX6_then_1 : decode cX6_then 1 = .ok (.iconst 0, 1) := by decide +kernel
theorem dX6_then_2 : decode cX6_then 2 = .ok (.bipush 99, 2) := by decide +kernel
theorem dX6_then_4 : decode cX6_then 4 = .ok (.invokestatic 38, 3) := by decide +kernel
theorem dX6_then_7 : decode cX6_then 7 = .ok (.ifCond .ne 5, 3) := by decide +kernel
theorem dX6_then_10 : decode cX6_then 10 = .ok (.iconst (-1), 1) := by decide +kernel
theorem dX6_then_11 : decode cX6_then 11 = .ok (.ireturn, 1) := by decide +kernel
theorem dX6_then_12 : decode cX6_then 12 = .ok (.aload_n 0, 1) := by decide +kernel
theorem dX6_then_13 : decode cX6_then 13 = .ok (.invokevirtual 141, 3) := by decide +kernel
theorem dX6_then_16 : decode cX6_then 16 = .ok (.aload_n 0, 1) := by decide +kernel
theorem dX6_then_17 : decode cX6_then 17 = .ok (.iload_n 1, 1) := by decide +kernel
theorem dX6_then_18 : decode cX6_then 18 = .ok (.iconst 0, 1) := by decide +kernel
theorem dX6_then_19 : decode cX6_then 19 = .ok (.invokevirtual 144, 3) := by decide +kernel
theorem dX6_then_22 : decode cX6_then 22 = .ok (.aload_n 0, 1) := by decide +kernel
theorem dX6_then_23 : decode cX6_then 23 = .ok (.getfield 26, 3) := by decide +kernel
theorem dX6_then_26 : decode cX6_then 26 = .ok (.bipush 21, 2) := by decide +kernel
theorem dX6_then_28 : decode cX6_then 28 = .ok (.iaload, 1) := by decide +kernel
theorem dX6_then_29 : decode cX6_then 29 = .ok (.ireturn, 1) := by decide +kernel
theorem dX6_swornFrom_0 : decode cX6_swornFrom 0 = .ok (.iload_n 2, 1) := by decide +kernel
theorem dX6_swornFrom_1 : decode cX6_swornFrom 1 = .ok (.istore_n 3, 1) := by decide +kernel
theorem dX6_swornFrom_2 : decode cX6_swornFrom 2 = .ok (.iload_n 3, 1) := by decide +kernel
theorem dX6_swornFrom_3 : decode cX6_swornFrom 3 = .ok (.bipush 99, 2) := by decide +kernel
theorem dX6_swornFrom_5 : decode cX6_swornFrom 5 = .ok (.if_icmp .gt 34, 3) := by decide +kernel
theorem dX6_swornFrom_8 : decode cX6_swornFrom 8 = .ok (.aload_n 0, 1) := by decide +kernel
theorem dX6_swornFrom_9 : decode cX6_swornFrom 9 = .ok (.getfield 26, 3) := by decide +kernel
theorem dX6_swornFrom_12 : decode cX6_swornFrom 12 = .ok (.bipush 21, 2) := by decide +kernel
theorem dX6_swornFrom_14 : decode cX6_swornFrom 14 = .ok (.iaload, 1) := by decide +kernel
theorem dX6_swornFrom_15 : decode cX6_swornFrom 15 = .ok (.iload_n 1, 1) := by decide +kernel
theorem dX6_swornFrom_16 : decode cX6_swornFrom 16 = .ok (.invokestatic 50, 3) := by decide +kernel
theorem dX6_swornFrom_19 : decode cX6_swornFrom 19 = .ok (.ifCond .eq 5, 3) := by decide +kernel
theorem dX6_swornFrom_22 : decode cX6_swornFrom 22 = .ok (.iload_n 3, 1) := by decide +kernel
theorem dX6_swornFrom_23 : decode cX6_swornFrom 23 = .ok (.ireturn, 1) := by decide +kernel
theorem dX6_swornFrom_24 : decode cX6_swornFrom 24 = .ok (.aload_n 0, 1) := by decide +kernel
theorem dX6_swornFrom_25 : decode cX6_swornFrom 25 = .ok (.aload_n 0, 1) := by decide +kernel
theorem dX6_swornFrom_26 : decode cX6_swornFrom 26 = .ok (.getfield 26, 3) := by decide +kernel
theorem dX6_swornFrom_29 : decode cX6_swornFrom 29 = .ok (.iconst 0, 1) := by decide +kernel
theorem dX6_swornFrom_30 : decode cX6_swornFrom 30 = .ok (.invokevirtual 126, 3) := by decide +kernel
theorem dX6_swornFrom_33 : decode cX6_swornFrom 33 = .ok (.iinc 3 1, 3) := by decide +kernel
theorem dX6_swornFrom_36 : decode cX6_swornFrom 36 = .ok (.goto (-34), 3) := by decide +kernel
theorem dX6_swornFrom_39 : decode cX6_swornFrom 39 = .ok (.bipush (-4), 2) := by decide +kernel
theorem dX6_swornFrom_41 : decode cX6_swornFrom 41 = .ok (.ireturn, 1) := by decide +kernel
theorem dX6_sworn_0 : decode cX6_sworn 0 = .ok (.aload_n 0, 1) := by decide +kernel
theorem dX6_sworn_1 : decode cX6_sworn 1 = .ok (.iload_n 1, 1) := by decide +kernel
theorem dX6_sworn_2 : decode cX6_sworn 2 = .ok (.invokevirtual 58, 3) := by decide +kernel
theorem dX6_sworn_5 : decode cX6_sworn 5 = .ok (.ifCond .ne 5, 3) := by decide +kernel
theorem dX6_sworn_8 : decode cX6_sworn 8 = .ok (.iconst (-1), 1) := by decide +kernel
theorem dX6_sworn_9 : decode cX6_sworn 9 = .ok (.ireturn, 1) := by decide +kernel
theorem dX6_sworn_10 : decode cX6_sworn 10 = .ok (.aload_n 0, 1) := by decide +kernel
theorem dX6_sworn_11 : decode cX6_sworn 11 = .ok (.invokevirtual 141, 3) := by decide +kernel
theorem dX6_sworn_14 : decode cX6_sworn 14 = .ok (.aload_n 0, 1) := by decide +kernel
theorem dX6_sworn_15 : decode cX6_sworn 15 = .ok (.iload_n 1, 1) := by decide +kernel
theorem dX6_sworn_16 : decode cX6_sworn 16 = .ok (.iconst 0, 1) := by decide +kernel
theorem dX6_sworn_17 : decode cX6_sworn 17 = .ok (.invokevirtual 148, 3) := by decide +kernel
theorem dX6_sworn_20 : decode cX6_sworn 20 = .ok (.ireturn, 1) := by decide +kernel
theorem dX6_robs_0 : decode cX6_robs 0 = .ok (.aload_n 0, 1) := by decide +kernel
theorem dX6_robs_1 : decode cX6_robs 1 = .ok (.iload_n 1, 1) := by decide +kernel
theorem dX6_robs_2 : decode cX6_robs 2 = .ok (.invokevirtual 66, 3) := by decide +kernel
theorem dX6_robs_5 : decode cX6_robs 5 = .ok (.ifCond .ne 5, 3) := by decide +kernel
theorem dX6_robs_8 : decode cX6_robs 8 = .ok (.iconst (-1), 1) := by decide +kernel
theorem dX6_robs_9 : decode cX6_robs 9 = .ok (.ireturn, 1) := by decide +kernel
theorem dX6_robs_10 : decode cX6_robs 10 = .ok (.aload_n 0, 1) := by decide +kernel
theorem dX6_robs_11 : decode cX6_robs 11 = .ok (.invokevirtual 141, 3) := by decide +kernel
theorem dX6_robs_14 : decode cX6_robs 14 = .ok (.aload_n 0, 1) := by decide +kernel
theorem dX6_robs_15 : decode cX6_robs 15 = .ok (.aload_n 0, 1) := by decide +kernel
theorem dX6_robs_16 : decode cX6_robs 16 = .ok (.getfield 26, 3) := by decide +kernel
theorem dX6_robs_19 : decode cX6_robs 19 = .ok (.iconst 0, 1) := by decide +kernel
theorem dX6_robs_20 : decode cX6_robs 20 = .ok (.invokevirtual 115, 3) := by decide +kernel
theorem dX6_robs_23 : decode cX6_robs 23 = .ok (.pop, 1) := by decide +kernel
theorem dX6_robs_24 : decode cX6_robs 24 = .ok (.aload_n 0, 1) := by decide +kernel
theorem dX6_robs_25 : decode cX6_robs 25 = .ok (.getfield 35, 3) := by decide +kernel
theorem dX6_robs_28 : decode cX6_robs 28 = .ok (.iload_n 1, 1) := by decide +kernel
theorem dX6_robs_29 : decode cX6_robs 29 = .ok (.iaload, 1) := by decide +kernel
theorem dX6_robs_30 : decode cX6_robs 30 = .ok (.ireturn, 1) := by decide +kernel
theorem dX6_hides_0 : decode cX6_hides 0 = .ok (.aload_n 0, 1) := by decide +kernel
theorem dX6_hides_1 : decode cX6_hides 1 = .ok (.iload_n 1, 1) := by decide +kernel
theorem dX6_hides_2 : decode cX6_hides 2 = .ok (.invokevirtual 58, 3) := by decide +kernel
theorem dX6_hides_5 : decode cX6_hides 5 = .ok (.ifCond .eq 12, 3) := by decide +kernel
theorem dX6_hides_8 : decode cX6_hides 8 = .ok (.iload_n 2, 1) := by decide +kernel
theorem dX6_hides_9 : decode cX6_hides 9 = .ok (.iconst 0, 1) := by decide +kernel
theorem dX6_hides_10 : decode cX6_hides 10 = .ok (.iconst 1, 1) := by decide +kernel
theorem dX6_hides_11 : decode cX6_hides 11 = .ok (.invokestatic 38, 3) := by decide +kernel
theorem dX6_hides_14 : decode cX6_hides 14 = .ok (.ifCond .ne 5, 3) := by decide +kernel
theorem dX6_hides_17 : decode cX6_hides 17 = .ok (.iconst (-1), 1) := by decide +kernel
theorem dX6_hides_18 : decode cX6_hides 18 = .ok (.ireturn, 1) := by decide +kernel
theorem dX6_hides_19 : decode cX6_hides 19 = .ok (.aload_n 0, 1) := by decide +kernel
theorem dX6_hides_20 : decode cX6_hides 20 = .ok (.getfield 23, 3) := by decide +kernel
theorem dX6_hides_23 : decode cX6_hides 23 = .ok (.bipush 21, 2) := by decide +kernel
theorem dX6_hides_25 : decode cX6_hides 25 = .ok (.iaload, 1) := by decide +kernel
theorem dX6_hides_26 : decode cX6_hides 26 = .ok (.iload_n 1, 1) := by decide +kernel
theorem dX6_hides_27 : decode cX6_hides 27 = .ok (.invokestatic 50, 3) := by decide +kernel
theorem dX6_hides_30 : decode cX6_hides 30 = .ok (.ifCond .eq 5, 3) := by decide +kernel
theorem dX6_hides_33 : decode cX6_hides 33 = .ok (.iconst 0, 1) := by decide +kernel
theorem dX6_hides_34 : decode cX6_hides 34 = .ok (.ireturn, 1) := by decide +kernel
theorem dX6_hides_35 : decode cX6_hides 35 = .ok (.bipush (-4), 2) := by decide +kernel
theorem dX6_hides_37 : decode cX6_hides 37 = .ok (.istore_n 3, 1) := by decide +kernel
theorem dX6_hides_38 : decode cX6_hides 38 = .ok (.bipush (-4), 2) := by decide +kernel
theorem dX6_hides_40 : decode cX6_hides 40 = .ok (.istore 4, 2) := by decide +kernel
theorem dX6_hides_42 : decode cX6_hides 42 = .ok (.iconst 0, 1) := by decide +kernel
theorem dX6_hides_43 : decode cX6_hides 43 = .ok (.istore 5, 2) := by decide +kernel
theorem dX6_hides_45 : decode cX6_hides 45 = .ok (.iload 5, 2) := by decide +kernel
theorem dX6_hides_47 : decode cX6_hides 47 = .ok (.bipush 20, 2) := by decide +kernel
theorem dX6_hides_49 : decode cX6_hides 49 = .ok (.if_icmp .gt 75, 3) := by decide +kernel
theorem dX6_hides_52 : decode cX6_hides 52 = .ok (.aload_n 0, 1) := by decide +kernel
theorem dX6_hides_53 : decode cX6_hides 53 = .ok (.invokevirtual 141, 3) := by decide +kernel
theorem dX6_hides_56 : decode cX6_hides 56 = .ok (.aload_n 0, 1) := by decide +kernel
theorem dX6_hides_57 : decode cX6_hides 57 = .ok (.getfield 26, 3) := by decide +kernel
theorem dX6_hides_60 : decode cX6_hides 60 = .ok (.iload_n 1, 1) := by decide +kernel
theorem dX6_hides_61 : decode cX6_hides 61 = .ok (.iconst 0, 1) := by decide +kernel
theorem dX6_hides_62 : decode cX6_hides 62 = .ok (.invokestatic 130, 3) := by decide +kernel
theorem dX6_hides_65 : decode cX6_hides 65 = .ok (.aload_n 0, 1) := by decide +kernel
theorem dX6_hides_66 : decode cX6_hides 66 = .ok (.iload 5, 2) := by decide +kernel
theorem dX6_hides_68 : decode cX6_hides 68 = .ok (.iconst 0, 1) := by decide +kernel
theorem dX6_hides_69 : decode cX6_hides 69 = .ok (.invokevirtual 144, 3) := by decide +kernel
theorem dX6_hides_72 : decode cX6_hides 72 = .ok (.aload_n 0, 1) := by decide +kernel
theorem dX6_hides_73 : decode cX6_hides 73 = .ok (.getfield 26, 3) := by decide +kernel
theorem dX6_hides_76 : decode cX6_hides 76 = .ok (.iload_n 1, 1) := by decide +kernel
theorem dX6_hides_77 : decode cX6_hides 77 = .ok (.iconst 1, 1) := by decide +kernel
theorem dX6_hides_78 : decode cX6_hides 78 = .ok (.invokestatic 130, 3) := by decide +kernel
theorem dX6_hides_81 : decode cX6_hides 81 = .ok (.aload_n 0, 1) := by decide +kernel
theorem dX6_hides_82 : decode cX6_hides 82 = .ok (.iload_n 1, 1) := by decide +kernel
theorem dX6_hides_83 : decode cX6_hides 83 = .ok (.iload 5, 2) := by decide +kernel
theorem dX6_hides_85 : decode cX6_hides 85 = .ok (.invokevirtual 148, 3) := by decide +kernel
theorem dX6_hides_88 : decode cX6_hides 88 = .ok (.istore 6, 2) := by decide +kernel
theorem dX6_hides_90 : decode cX6_hides 90 = .ok (.iload 6, 2) := by decide +kernel
theorem dX6_hides_92 : decode cX6_hides 92 = .ok (.bipush (-4), 2) := by decide +kernel
theorem dX6_hides_94 : decode cX6_hides 94 = .ok (.if_icmp .eq 24, 3) := by decide +kernel
theorem dX6_hides_97 : decode cX6_hides 97 = .ok (.iload 4, 2) := by decide +kernel
theorem dX6_hides_99 : decode cX6_hides 99 = .ok (.bipush (-4), 2) := by decide +kernel
theorem dX6_hides_101 : decode cX6_hides 101 = .ok (.if_icmp .eq 10, 3) := by decide +kernel
theorem dX6_hides_104 : decode cX6_hides 104 = .ok (.iload 6, 2) := by decide +kernel
theorem dX6_hides_106 : decode cX6_hides 106 = .ok (.iload 4, 2) := by decide +kernel
theorem dX6_hides_108 : decode cX6_hides 108 = .ok (.if_icmp .ge 10, 3) := by decide +kernel
theorem dX6_hides_111 : decode cX6_hides 111 = .ok (.iload 5, 2) := by decide +kernel
theorem dX6_hides_113 : decode cX6_hides 113 = .ok (.istore_n 3, 1) := by decide +kernel
theorem dX6_hides_114 : decode cX6_hides 114 = .ok (.iload 6, 2) := by decide +kernel
theorem dX6_hides_116 : decode cX6_hides 116 = .ok (.istore 4, 2) := by decide +kernel
theorem dX6_hides_118 : decode cX6_hides 118 = .ok (.iinc 5 1, 3) := by decide +kernel
theorem dX6_hides_121 : decode cX6_hides 121 = .ok (.goto (-76), 3) := by decide +kernel
theorem dX6_hides_124 : decode cX6_hides 124 = .ok (.iload_n 2, 1) := by decide +kernel
theorem dX6_hides_125 : decode cX6_hides 125 = .ok (.ifCond .ne 7, 3) := by decide +kernel
theorem dX6_hides_128 : decode cX6_hides 128 = .ok (.iload_n 3, 1) := by decide +kernel
theorem dX6_hides_129 : decode cX6_hides 129 = .ok (.goto 5, 3) := by decide +kernel
theorem dX6_hides_132 : decode cX6_hides 132 = .ok (.iload 4, 2) := by decide +kernel
theorem dX6_hides_134 : decode cX6_hides 134 = .ok (.ireturn, 1) := by decide +kernel
theorem dX6_cover_0 : decode cX6_cover 0 = .ok (.aload_n 0, 1) := by decide +kernel
theorem dX6_cover_1 : decode cX6_cover 1 = .ok (.iload_n 1, 1) := by decide +kernel
theorem dX6_cover_2 : decode cX6_cover 2 = .ok (.invokevirtual 58, 3) := by decide +kernel
theorem dX6_cover_5 : decode cX6_cover 5 = .ok (.ifCond .eq 22, 3) := by decide +kernel
theorem dX6_cover_8 : decode cX6_cover 8 = .ok (.iload_n 2, 1) := by decide +kernel
theorem dX6_cover_9 : decode cX6_cover 9 = .ok (.iconst 1, 1) := by decide +kernel
theorem dX6_cover_10 : decode cX6_cover 10 = .ok (.bipush 40, 2) := by decide +kernel
theorem dX6_cover_12 : decode cX6_cover 12 = .ok (.invokestatic 38, 3) := by decide +kernel
theorem dX6_cover_15 : decode cX6_cover 15 = .ok (.ifCond .eq 12, 3) := by decide +kernel
theorem dX6_cover_18 : decode cX6_cover 18 = .ok (.iload_n 3, 1) := by decide +kernel
theorem dX6_cover_19 : decode cX6_cover 19 = .ok (.iconst 0, 1) := by decide +kernel
theorem dX6_cover_20 : decode cX6_cover 20 = .ok (.iconst 1, 1) := by decide +kernel
theorem dX6_cover_21 : decode cX6_cover 21 = .ok (.invokestatic 38, 3) := by decide +kernel
theorem dX6_cover_24 : decode cX6_cover 24 = .ok (.ifCond .ne 5, 3) := by decide +kernel
theorem dX6_cover_27 : decode cX6_cover 27 = .ok (.iconst (-1), 1) := by decide +kernel
theorem dX6_cover_28 : decode cX6_cover 28 = .ok (.ireturn, 1) := by decide +kernel
theorem dX6_cover_29 : decode cX6_cover 29 = .ok (.aload_n 0, 1) := by decide +kernel
theorem dX6_cover_30 : decode cX6_cover 30 = .ok (.getfield 23, 3) := by decide +kernel
theorem dX6_cover_33 : decode cX6_cover 33 = .ok (.bipush 20, 2) := by decide +kernel
theorem dX6_cover_35 : decode cX6_cover 35 = .ok (.iaload, 1) := by decide +kernel
theorem dX6_cover_36 : decode cX6_cover 36 = .ok (.aload_n 0, 1) := by decide +kernel
theorem dX6_cover_37 : decode cX6_cover 37 = .ok (.getfield 23, 3) := by decide +kernel
theorem dX6_cover_40 : decode cX6_cover 40 = .ok (.bipush 21, 2) := by decide +kernel
theorem dX6_cover_42 : decode cX6_cover 42 = .ok (.iaload, 1) := by decide +kernel
theorem dX6_cover_43 : decode cX6_cover 43 = .ok (.iconst (-1), 1) := by decide +kernel
theorem dX6_cover_44 : decode cX6_cover 44 = .ok (.ixor, 1) := by decide +kernel
theorem dX6_cover_45 : decode cX6_cover 45 = .ok (.iand, 1) := by decide +kernel
theorem dX6_cover_46 : decode cX6_cover 46 = .ok (.iconst 1, 1) := by decide +kernel
theorem dX6_cover_47 : decode cX6_cover 47 = .ok (.iload_n 1, 1) := by decide +kernel
theorem dX6_cover_48 : decode cX6_cover 48 = .ok (.ishl, 1) := by decide +kernel
theorem dX6_cover_49 : decode cX6_cover 49 = .ok (.iconst (-1), 1) := by decide +kernel
theorem dX6_cover_50 : decode cX6_cover 50 = .ok (.ixor, 1) := by decide +kernel
theorem dX6_cover_51 : decode cX6_cover 51 = .ok (.iand, 1) := by decide +kernel
theorem dX6_cover_52 : decode cX6_cover 52 = .ok (.istore 4, 2) := by decide +kernel
theorem dX6_cover_54 : decode cX6_cover 54 = .ok (.bipush (-4), 2) := by decide +kernel
theorem dX6_cover_56 : decode cX6_cover 56 = .ok (.istore 5, 2) := by decide +kernel
theorem dX6_cover_58 : decode cX6_cover 58 = .ok (.iconst 0, 1) := by decide +kernel
theorem dX6_cover_59 : decode cX6_cover 59 = .ok (.istore 6, 2) := by decide +kernel
theorem dX6_cover_61 : decode cX6_cover 61 = .ok (.iload 6, 2) := by decide +kernel
theorem dX6_cover_63 : decode cX6_cover 63 = .ok (.iload 4, 2) := by decide +kernel
theorem dX6_cover_65 : decode cX6_cover 65 = .ok (.if_icmp .gt 91, 3) := by decide +kernel
theorem dX6_cover_68 : decode cX6_cover 68 = .ok (.iload 6, 2) := by decide +kernel
theorem dX6_cover_70 : decode cX6_cover 70 = .ok (.iload 4, 2) := by decide +kernel
theorem dX6_cover_72 : decode cX6_cover 72 = .ok (.iconst (-1), 1) := by decide +kernel
theorem dX6_cover_73 : decode cX6_cover 73 = .ok (.ixor, 1) := by decide +kernel
theorem dX6_cover_74 : decode cX6_cover 74 = .ok (.iand, 1) := by decide +kernel
theorem dX6_cover_75 : decode cX6_cover 75 = .ok (.ifCond .ne 75, 3) := by decide +kernel
theorem dX6_cover_78 : decode cX6_cover 78 = .ok (.iload 5, 2) := by decide +kernel
theorem dX6_cover_80 : decode cX6_cover 80 = .ok (.bipush (-4), 2) := by decide +kernel
theorem dX6_cover_82 : decode cX6_cover 82 = .ok (.if_icmp .eq 16, 3) := by decide +kernel
theorem dX6_cover_85 : decode cX6_cover 85 = .ok (.iload 6, 2) := by decide +kernel
theorem dX6_cover_87 : decode cX6_cover 87 = .ok (.invokestatic 152, 3) := by decide +kernel
theorem dX6_cover_90 : decode cX6_cover 90 = .ok (.iload 5, 2) := by decide +kernel
theorem dX6_cover_92 : decode cX6_cover 92 = .ok (.invokestatic 152, 3) := by decide +kernel
theorem dX6_cover_95 : decode cX6_cover 95 = .ok (.if_icmp .ge 55, 3) := by decide +kernel
theorem dX6_cover_98 : decode cX6_cover 98 = .ok (.aload_n 0, 1) := by decide +kernel
theorem dX6_cover_99 : decode cX6_cover 99 = .ok (.invokevirtual 141, 3) := by decide +kernel
theorem dX6_cover_102 : decode cX6_cover 102 = .ok (.aload_n 0, 1) := by decide +kernel
theorem dX6_cover_103 : decode cX6_cover 103 = .ok (.getfield 26, 3) := by decide +kernel
theorem dX6_cover_106 : decode cX6_cover 106 = .ok (.bipush 20, 2) := by decide +kernel
theorem dX6_cover_108 : decode cX6_cover 108 = .ok (.aload_n 0, 1) := by decide +kernel
theorem dX6_cover_109 : decode cX6_cover 109 = .ok (.getfield 26, 3) := by decide +kernel
theorem dX6_cover_112 : decode cX6_cover 112 = .ok (.bipush 20, 2) := by decide +kernel
theorem dX6_cover_114 : decode cX6_cover 114 = .ok (.iaload, 1) := by decide +kernel
theorem dX6_cover_115 : decode cX6_cover 115 = .ok (.iload 6, 2) := by decide +kernel
theorem dX6_cover_117 : decode cX6_cover 117 = .ok (.iconst (-1), 1) := by decide +kernel
theorem dX6_cover_118 : decode cX6_cover 118 = .ok (.ixor, 1) := by decide +kernel
theorem dX6_cover_119 : decode cX6_cover 119 = .ok (.iand, 1) := by decide +kernel
theorem dX6_cover_120 : decode cX6_cover 120 = .ok (.iastore, 1) := by decide +kernel
theorem dX6_cover_121 : decode cX6_cover 121 = .ok (.aload_n 0, 1) := by decide +kernel
theorem dX6_cover_122 : decode cX6_cover 122 = .ok (.iload_n 2, 1) := by decide +kernel
theorem dX6_cover_123 : decode cX6_cover 123 = .ok (.iconst 0, 1) := by decide +kernel
theorem dX6_cover_124 : decode cX6_cover 124 = .ok (.invokevirtual 144, 3) := by decide +kernel
theorem dX6_cover_127 : decode cX6_cover 127 = .ok (.aload_n 0, 1) := by decide +kernel
theorem dX6_cover_128 : decode cX6_cover 128 = .ok (.getfield 26, 3) := by decide +kernel
theorem dX6_cover_131 : decode cX6_cover 131 = .ok (.bipush 21, 2) := by decide +kernel
theorem dX6_cover_133 : decode cX6_cover 133 = .ok (.iaload, 1) := by decide +kernel
theorem dX6_cover_134 : decode cX6_cover 134 = .ok (.iload_n 1, 1) := by decide +kernel
theorem dX6_cover_135 : decode cX6_cover 135 = .ok (.invokestatic 50, 3) := by decide +kernel
theorem dX6_cover_138 : decode cX6_cover 138 = .ok (.ifCond .eq 8, 3) := by decide +kernel
theorem dX6_cover_141 : decode cX6_cover 141 = .ok (.iload 6, 2) := by decide +kernel
theorem dX6_cover_143 : decode cX6_cover 143 = .ok (.goto 5, 3) := by decide +kernel
theorem dX6_cover_146 : decode cX6_cover 146 = .ok (.iload 5, 2) := by decide +kernel
theorem dX6_cover_148 : decode cX6_cover 148 = .ok (.istore 5, 2) := by decide +kernel
theorem dX6_cover_150 : decode cX6_cover 150 = .ok (.iinc 6 1, 3) := by decide +kernel
theorem dX6_cover_153 : decode cX6_cover 153 = .ok (.goto (-92), 3) := by decide +kernel
theorem dX6_cover_156 : decode cX6_cover 156 = .ok (.iload 5, 2) := by decide +kernel
theorem dX6_cover_158 : decode cX6_cover 158 = .ok (.bipush (-4), 2) := by decide +kernel
theorem dX6_cover_160 : decode cX6_cover 160 = .ok (.if_icmp .ne 8, 3) := by decide +kernel
theorem dX6_cover_163 : decode cX6_cover 163 = .ok (.bipush (-4), 2) := by decide +kernel
theorem dX6_cover_165 : decode cX6_cover 165 = .ok (.goto 17, 3) := by decide +kernel
theorem dX6_cover_168 : decode cX6_cover 168 = .ok (.iload_n 3, 1) := by decide +kernel
theorem dX6_cover_169 : decode cX6_cover 169 = .ok (.ifCond .ne 11, 3) := by decide +kernel
theorem dX6_cover_172 : decode cX6_cover 172 = .ok (.iload 5, 2) := by decide +kernel
theorem dX6_cover_174 : decode cX6_cover 174 = .ok (.invokestatic 152, 3) := by decide +kernel
theorem dX6_cover_177 : decode cX6_cover 177 = .ok (.goto 5, 3) := by decide +kernel
theorem dX6_cover_180 : decode cX6_cover 180 = .ok (.iload 5, 2) := by decide +kernel
theorem dX6_cover_182 : decode cX6_cover 182 = .ok (.ireturn, 1) := by decide +kernel
theorem dX6_low_0 : decode cX6_low 0 = .ok (.iload_n 1, 1) := by decide +kernel
theorem dX6_low_1 : decode cX6_low 1 = .ok (.iconst 1, 1) := by decide +kernel
theorem dX6_low_2 : decode cX6_low 2 = .ok (.bipush 40, 2) := by decide +kernel
theorem dX6_low_4 : decode cX6_low 4 = .ok (.invokestatic 38, 3) := by decide +kernel
theorem dX6_low_7 : decode cX6_low 7 = .ok (.ifCond .ne 5, 3) := by decide +kernel
theorem dX6_low_10 : decode cX6_low 10 = .ok (.iconst (-1), 1) := by decide +kernel
theorem dX6_low_11 : decode cX6_low 11 = .ok (.ireturn, 1) := by decide +kernel
theorem dX6_low_12 : decode cX6_low 12 = .ok (.bipush 99, 2) := by decide +kernel
theorem dX6_low_14 : decode cX6_low 14 = .ok (.istore_n 2, 1) := by decide +kernel
theorem dX6_low_15 : decode cX6_low 15 = .ok (.iload_n 2, 1) := by decide +kernel
theorem dX6_low_16 : decode cX6_low 16 = .ok (.ifCond .lt 50, 3) := by decide +kernel
theorem dX6_low_19 : decode cX6_low 19 = .ok (.aload_n 0, 1) := by decide +kernel
theorem dX6_low_20 : decode cX6_low 20 = .ok (.invokevirtual 141, 3) := by decide +kernel
theorem dX6_low_23 : decode cX6_low 23 = .ok (.aload_n 0, 1) := by decide +kernel
theorem dX6_low_24 : decode cX6_low 24 = .ok (.getfield 26, 3) := by decide +kernel
theorem dX6_low_27 : decode cX6_low 27 = .ok (.bipush 22, 2) := by decide +kernel
theorem dX6_low_29 : decode cX6_low 29 = .ok (.iload_n 2, 1) := by decide +kernel
theorem dX6_low_30 : decode cX6_low 30 = .ok (.iastore, 1) := by decide +kernel
theorem dX6_low_31 : decode cX6_low 31 = .ok (.aload_n 0, 1) := by decide +kernel
theorem dX6_low_32 : decode cX6_low 32 = .ok (.iload_n 1, 1) := by decide +kernel
theorem dX6_low_33 : decode cX6_low 33 = .ok (.iconst 0, 1) := by decide +kernel
theorem dX6_low_34 : decode cX6_low 34 = .ok (.invokevirtual 144, 3) := by decide +kernel
theorem dX6_low_37 : decode cX6_low 37 = .ok (.aload_n 0, 1) := by decide +kernel
theorem dX6_low_38 : decode cX6_low 38 = .ok (.getfield 26, 3) := by decide +kernel
theorem dX6_low_41 : decode cX6_low 41 = .ok (.bipush 21, 2) := by decide +kernel
theorem dX6_low_43 : decode cX6_low 43 = .ok (.iaload, 1) := by decide +kernel
theorem dX6_low_44 : decode cX6_low 44 = .ok (.iconst 1, 1) := by decide +kernel
theorem dX6_low_45 : decode cX6_low 45 = .ok (.aload_n 0, 1) := by decide +kernel
theorem dX6_low_46 : decode cX6_low 46 = .ok (.getfield 23, 3) := by decide +kernel
theorem dX6_low_49 : decode cX6_low 49 = .ok (.bipush 23, 2) := by decide +kernel
theorem dX6_low_51 : decode cX6_low 51 = .ok (.iaload, 1) := by decide +kernel
theorem dX6_low_52 : decode cX6_low 52 = .ok (.ishl, 1) := by decide +kernel
theorem dX6_low_53 : decode cX6_low 53 = .ok (.iconst 1, 1) := by decide +kernel
theorem dX6_low_54 : decode cX6_low 54 = .ok (.isub, 1) := by decide +kernel
theorem dX6_low_55 : decode cX6_low 55 = .ok (.if_icmp .ne 5, 3) := by decide +kernel
theorem dX6_low_58 : decode cX6_low 58 = .ok (.iload_n 2, 1) := by decide +kernel
theorem dX6_low_59 : decode cX6_low 59 = .ok (.ireturn, 1) := by decide +kernel
theorem dX6_low_60 : decode cX6_low 60 = .ok (.iinc 2 (-1), 3) := by decide +kernel
theorem dX6_low_63 : decode cX6_low 63 = .ok (.goto (-48), 3) := by decide +kernel
theorem dX6_low_66 : decode cX6_low 66 = .ok (.bipush (-4), 2) := by decide +kernel
theorem dX6_low_68 : decode cX6_low 68 = .ok (.ireturn, 1) := by decide +kernel
theorem dX6_spare_0 : decode cX6_spare 0 = .ok (.iload_n 1, 1) := by decide +kernel
theorem dX6_spare_1 : decode cX6_spare 1 = .ok (.iconst 1, 1) := by decide +kernel
theorem dX6_spare_2 : decode cX6_spare 2 = .ok (.bipush 40, 2) := by decide +kernel
theorem dX6_spare_4 : decode cX6_spare 4 = .ok (.invokestatic 38, 3) := by decide +kernel
theorem dX6_spare_7 : decode cX6_spare 7 = .ok (.ifCond .eq 12, 3) := by decide +kernel
end
section
theorem dX6_spare_10 : decode cX6_spare 10 = .ok (.iload_n 2, 1) := by decide +kernel
theorem dX6_spare_11 : decode cX6_spare 11 = .ok (.iconst 0, 1) := by decide +kernel
theorem dX6_spare_12 : decode cX6_spare 12 = .ok (.iconst 1, 1) := by decide +kernel
theorem dX6_spare_13 : decode cX6_spare 13 = .ok (.invokestatic 38, 3) := by decide +kernel
theorem dX6_spare_16 : decode cX6_spare 16 = .ok (.ifCond .ne 5, 3) := by decide +kernel
theorem dX6_spare_19 : decode cX6_spare 19 = .ok (.iconst (-1), 1) := by decide +kernel
theorem dX6_spare_20 : decode cX6_spare 20 = .ok (.ireturn, 1) := by decide +kernel
theorem dX6_spare_21 : decode cX6_spare 21 = .ok (.bipush (-4), 2) := by decide +kernel
theorem dX6_spare_23 : decode cX6_spare 23 = .ok (.istore_n 3, 1) := by decide +kernel
theorem dX6_spare_24 : decode cX6_spare 24 = .ok (.bipush (-4), 2) := by decide +kernel
theorem dX6_spare_26 : decode cX6_spare 26 = .ok (.istore 4, 2) := by decide +kernel
theorem dX6_spare_28 : decode cX6_spare 28 = .ok (.iconst 0, 1) := by decide +kernel
theorem dX6_spare_29 : decode cX6_spare 29 = .ok (.istore 5, 2) := by decide +kernel
theorem dX6_spare_31 : decode cX6_spare 31 = .ok (.iload 5, 2) := by decide +kernel
theorem dX6_spare_33 : decode cX6_spare 33 = .ok (.aload_n 0, 1) := by decide +kernel
theorem dX6_spare_34 : decode cX6_spare 34 = .ok (.getfield 23, 3) := by decide +kernel
theorem dX6_spare_37 : decode cX6_spare 37 = .ok (.bipush 30, 2) := by decide +kernel
theorem dX6_spare_39 : decode cX6_spare 39 = .ok (.iaload, 1) := by decide +kernel
theorem dX6_spare_40 : decode cX6_spare 40 = .ok (.if_icmp .ge 58, 3) := by decide +kernel
theorem dX6_spare_43 : decode cX6_spare 43 = .ok (.aload_n 0, 1) := by decide +kernel
theorem dX6_spare_44 : decode cX6_spare 44 = .ok (.invokevirtual 141, 3) := by decide +kernel
theorem dX6_spare_47 : decode cX6_spare 47 = .ok (.aload_n 0, 1) := by decide +kernel
theorem dX6_spare_48 : decode cX6_spare 48 = .ok (.iload_n 1, 1) := by decide +kernel
theorem dX6_spare_49 : decode cX6_spare 49 = .ok (.iconst 1, 1) := by decide +kernel
theorem dX6_spare_50 : decode cX6_spare 50 = .ok (.iload 5, 2) := by decide +kernel
theorem dX6_spare_52 : decode cX6_spare 52 = .ok (.ishl, 1) := by decide +kernel
theorem dX6_spare_53 : decode cX6_spare 53 = .ok (.invokevirtual 144, 3) := by decide +kernel
theorem dX6_spare_56 : decode cX6_spare 56 = .ok (.iload_n 3, 1) := by decide +kernel
theorem dX6_spare_57 : decode cX6_spare 57 = .ok (.bipush (-4), 2) := by decide +kernel
theorem dX6_spare_59 : decode cX6_spare 59 = .ok (.if_icmp .eq 18, 3) := by decide +kernel
theorem dX6_spare_62 : decode cX6_spare 62 = .ok (.aload_n 0, 1) := by decide +kernel
theorem dX6_spare_63 : decode cX6_spare 63 = .ok (.getfield 26, 3) := by decide +kernel
theorem dX6_spare_66 : decode cX6_spare 66 = .ok (.bipush 21, 2) := by decide +kernel
theorem dX6_spare_68 : decode cX6_spare 68 = .ok (.iaload, 1) := by decide +kernel
theorem dX6_spare_69 : decode cX6_spare 69 = .ok (.invokestatic 152, 3) := by decide +kernel
theorem dX6_spare_72 : decode cX6_spare 72 = .ok (.iload 4, 2) := by decide +kernel
theorem dX6_spare_74 : decode cX6_spare 74 = .ok (.if_icmp .le 18, 3) := by decide +kernel
theorem dX6_spare_77 : decode cX6_spare 77 = .ok (.iload 5, 2) := by decide +kernel
theorem dX6_spare_79 : decode cX6_spare 79 = .ok (.istore_n 3, 1) := by decide +kernel
theorem dX6_spare_80 : decode cX6_spare 80 = .ok (.aload_n 0, 1) := by decide +kernel
theorem dX6_spare_81 : decode cX6_spare 81 = .ok (.getfield 26, 3) := by decide +kernel
theorem dX6_spare_84 : decode cX6_spare 84 = .ok (.bipush 21, 2) := by decide +kernel
theorem dX6_spare_86 : decode cX6_spare 86 = .ok (.iaload, 1) := by decide +kernel
theorem dX6_spare_87 : decode cX6_spare 87 = .ok (.invokestatic 152, 3) := by decide +kernel
theorem dX6_spare_90 : decode cX6_spare 90 = .ok (.istore 4, 2) := by decide +kernel
theorem dX6_spare_92 : decode cX6_spare 92 = .ok (.iinc 5 1, 3) := by decide +kernel
theorem dX6_spare_95 : decode cX6_spare 95 = .ok (.goto (-64), 3) := by decide +kernel
theorem dX6_spare_98 : decode cX6_spare 98 = .ok (.iload_n 2, 1) := by decide +kernel
theorem dX6_spare_99 : decode cX6_spare 99 = .ok (.ifCond .ne 7, 3) := by decide +kernel
theorem dX6_spare_102 : decode cX6_spare 102 = .ok (.iload_n 3, 1) := by decide +kernel
theorem dX6_spare_103 : decode cX6_spare 103 = .ok (.goto 5, 3) := by decide +kernel
theorem dX6_spare_106 : decode cX6_spare 106 = .ok (.iload 4, 2) := by decide +kernel
theorem dX6_spare_108 : decode cX6_spare 108 = .ok (.ireturn, 1) := by decide +kernel
theorem dX6_match_0 : decode cX6_match 0 = .ok (.iconst 0, 1) := by decide +kernel
theorem dX6_match_1 : decode cX6_match 1 = .ok (.istore_n 1, 1) := by decide +kernel
theorem dX6_match_2 : decode cX6_match 2 = .ok (.iconst 0, 1) := by decide +kernel
theorem dX6_match_3 : decode cX6_match 3 = .ok (.istore_n 2, 1) := by decide +kernel
theorem dX6_match_4 : decode cX6_match 4 = .ok (.iload_n 2, 1) := by decide +kernel
theorem dX6_match_5 : decode cX6_match 5 = .ok (.sipush 2401, 3) := by decide +kernel
theorem dX6_match_8 : decode cX6_match 8 = .ok (.if_icmp .ge 137, 3) := by decide +kernel
theorem dX6_match_11 : decode cX6_match 11 = .ok (.iload_n 2, 1) := by decide +kernel
theorem dX6_match_12 : decode cX6_match 12 = .ok (.istore_n 3, 1) := by decide +kernel
theorem dX6_match_13 : decode cX6_match 13 = .ok (.iconst 0, 1) := by decide +kernel
theorem dX6_match_14 : decode cX6_match 14 = .ok (.istore 4, 2) := by decide +kernel
theorem dX6_match_16 : decode cX6_match 16 = .ok (.iconst 1, 1) := by decide +kernel
theorem dX6_match_17 : decode cX6_match 17 = .ok (.istore 5, 2) := by decide +kernel
theorem dX6_match_19 : decode cX6_match 19 = .ok (.iconst 0, 1) := by decide +kernel
theorem dX6_match_20 : decode cX6_match 20 = .ok (.istore 6, 2) := by decide +kernel
theorem dX6_match_22 : decode cX6_match 22 = .ok (.iload 6, 2) := by decide +kernel
theorem dX6_match_24 : decode cX6_match 24 = .ok (.iconst 4, 1) := by decide +kernel
theorem dX6_match_25 : decode cX6_match 25 = .ok (.if_icmp .ge 90, 3) := by decide +kernel
theorem dX6_match_28 : decode cX6_match 28 = .ok (.iload_n 3, 1) := by decide +kernel
theorem dX6_match_29 : decode cX6_match 29 = .ok (.bipush 7, 2) := by decide +kernel
theorem dX6_match_31 : decode cX6_match 31 = .ok (.irem, 1) := by decide +kernel
theorem dX6_match_32 : decode cX6_match 32 = .ok (.istore 7, 2) := by decide +kernel
theorem dX6_match_34 : decode cX6_match 34 = .ok (.iload_n 3, 1) := by decide +kernel
theorem dX6_match_35 : decode cX6_match 35 = .ok (.bipush 7, 2) := by decide +kernel
theorem dX6_match_37 : decode cX6_match 37 = .ok (.idiv, 1) := by decide +kernel
theorem dX6_match_38 : decode cX6_match 38 = .ok (.istore_n 3, 1) := by decide +kernel
theorem dX6_match_39 : decode cX6_match 39 = .ok (.iload 7, 2) := by decide +kernel
theorem dX6_match_41 : decode cX6_match 41 = .ok (.bipush 6, 2) := by decide +kernel
theorem dX6_match_43 : decode cX6_match 43 = .ok (.if_icmp .ge 66, 3) := by decide +kernel
theorem dX6_match_46 : decode cX6_match 46 = .ok (.iload 5, 2) := by decide +kernel
theorem dX6_match_48 : decode cX6_match 48 = .ok (.ifCond .eq 49, 3) := by decide +kernel
theorem dX6_match_51 : decode cX6_match 51 = .ok (.aload_n 0, 1) := by decide +kernel
theorem dX6_match_52 : decode cX6_match 52 = .ok (.iload 6, 2) := by decide +kernel
theorem dX6_match_54 : decode cX6_match 54 = .ok (.invokevirtual 66, 3) := by decide +kernel
theorem dX6_match_57 : decode cX6_match 57 = .ok (.ifCond .eq 40, 3) := by decide +kernel
theorem dX6_match_60 : decode cX6_match 60 = .ok (.aload_n 0, 1) := by decide +kernel
theorem dX6_match_61 : decode cX6_match 61 = .ok (.iload 7, 2) := by decide +kernel
theorem dX6_match_63 : decode cX6_match 63 = .ok (.invokevirtual 58, 3) := by decide +kernel
theorem dX6_match_66 : decode cX6_match 66 = .ok (.ifCond .eq 31, 3) := by decide +kernel
theorem dX6_match_69 : decode cX6_match 69 = .ok (.iload 4, 2) := by decide +kernel
theorem dX6_match_71 : decode cX6_match 71 = .ok (.iload 7, 2) := by decide +kernel
theorem dX6_match_73 : decode cX6_match 73 = .ok (.invokestatic 50, 3) := by decide +kernel
theorem dX6_match_76 : decode cX6_match 76 = .ok (.ifCond .ne 21, 3) := by decide +kernel
theorem dX6_match_79 : decode cX6_match 79 = .ok (.aload_n 0, 1) := by decide +kernel
theorem dX6_match_80 : decode cX6_match 80 = .ok (.getfield 23, 3) := by decide +kernel
theorem dX6_match_83 : decode cX6_match 83 = .ok (.iload 6, 2) := by decide +kernel
theorem dX6_match_85 : decode cX6_match 85 = .ok (.iload 7, 2) := by decide +kernel
theorem dX6_match_87 : decode cX6_match 87 = .ok (.invokestatic 54, 3) := by decide +kernel
theorem dX6_match_90 : decode cX6_match 90 = .ok (.ifCond .eq 7, 3) := by decide +kernel
theorem dX6_match_93 : decode cX6_match 93 = .ok (.iconst 1, 1) := by decide +kernel
theorem dX6_match_94 : decode cX6_match 94 = .ok (.goto 4, 3) := by decide +kernel
theorem dX6_match_97 : decode cX6_match 97 = .ok (.iconst 0, 1) := by decide +kernel
theorem dX6_match_98 : decode cX6_match 98 = .ok (.istore 5, 2) := by decide +kernel
theorem dX6_match_100 : decode cX6_match 100 = .ok (.iload 4, 2) := by decide +kernel
theorem dX6_match_102 : decode cX6_match 102 = .ok (.iconst 1, 1) := by decide +kernel
theorem dX6_match_103 : decode cX6_match 103 = .ok (.iload 7, 2) := by decide +kernel
theorem dX6_match_105 : decode cX6_match 105 = .ok (.ishl, 1) := by decide +kernel
theorem dX6_match_106 : decode cX6_match 106 = .ok (.ior, 1) := by decide +kernel
theorem dX6_match_107 : decode cX6_match 107 = .ok (.istore 4, 2) := by decide +kernel
theorem dX6_match_109 : decode cX6_match 109 = .ok (.iinc 6 1, 3) := by decide +kernel
theorem dX6_match_112 : decode cX6_match 112 = .ok (.goto (-90), 3) := by decide +kernel
theorem dX6_match_115 : decode cX6_match 115 = .ok (.iload 5, 2) := by decide +kernel
theorem dX6_match_117 : decode cX6_match 117 = .ok (.ifCond .eq 20, 3) := by decide +kernel
theorem dX6_match_120 : decode cX6_match 120 = .ok (.iload 4, 2) := by decide +kernel
theorem dX6_match_122 : decode cX6_match 122 = .ok (.invokestatic 152, 3) := by decide +kernel
theorem dX6_match_125 : decode cX6_match 125 = .ok (.iload_n 1, 1) := by decide +kernel
theorem dX6_match_126 : decode cX6_match 126 = .ok (.if_icmp .le 11, 3) := by decide +kernel
theorem dX6_match_129 : decode cX6_match 129 = .ok (.iload 4, 2) := by decide +kernel
theorem dX6_match_131 : decode cX6_match 131 = .ok (.invokestatic 152, 3) := by decide +kernel
theorem dX6_match_134 : decode cX6_match 134 = .ok (.goto 4, 3) := by decide +kernel
theorem dX6_match_137 : decode cX6_match 137 = .ok (.iload_n 1, 1) := by decide +kernel
theorem dX6_match_138 : decode cX6_match 138 = .ok (.istore_n 1, 1) := by decide +kernel
theorem dX6_match_139 : decode cX6_match 139 = .ok (.iinc 2 1, 3) := by decide +kernel
theorem dX6_match_142 : decode cX6_match 142 = .ok (.goto (-138), 3) := by decide +kernel
theorem dX6_match_145 : decode cX6_match 145 = .ok (.iload_n 1, 1) := by decide +kernel
theorem dX6_match_146 : decode cX6_match 146 = .ok (.ireturn, 1) := by decide +kernel
theorem dX6_care_0 : decode cX6_care 0 = .ok (.aload_n 0, 1) := by decide +kernel
theorem dX6_care_1 : decode cX6_care 1 = .ok (.iload_n 1, 1) := by decide +kernel
theorem dX6_care_2 : decode cX6_care 2 = .ok (.invokevirtual 58, 3) := by decide +kernel
theorem dX6_care_5 : decode cX6_care 5 = .ok (.ifCond .eq 13, 3) := by decide +kernel
theorem dX6_care_8 : decode cX6_care 8 = .ok (.iload_n 2, 1) := by decide +kernel
theorem dX6_care_9 : decode cX6_care 9 = .ok (.iconst 1, 1) := by decide +kernel
theorem dX6_care_10 : decode cX6_care 10 = .ok (.bipush 40, 2) := by decide +kernel
theorem dX6_care_12 : decode cX6_care 12 = .ok (.invokestatic 38, 3) := by decide +kernel
theorem dX6_care_15 : decode cX6_care 15 = .ok (.ifCond .ne 5, 3) := by decide +kernel
theorem dX6_care_18 : decode cX6_care 18 = .ok (.iconst (-1), 1) := by decide +kernel
theorem dX6_care_19 : decode cX6_care 19 = .ok (.ireturn, 1) := by decide +kernel
theorem dX6_care_20 : decode cX6_care 20 = .ok (.bipush 9, 2) := by decide +kernel
theorem dX6_care_22 : decode cX6_care 22 = .ok (.istore_n 3, 1) := by decide +kernel
theorem dX6_care_23 : decode cX6_care 23 = .ok (.iload_n 3, 1) := by decide +kernel
theorem dX6_care_24 : decode cX6_care 24 = .ok (.ifCond .lt 45, 3) := by decide +kernel
theorem dX6_care_27 : decode cX6_care 27 = .ok (.aload_n 0, 1) := by decide +kernel
theorem dX6_care_28 : decode cX6_care 28 = .ok (.invokevirtual 141, 3) := by decide +kernel
theorem dX6_care_31 : decode cX6_care 31 = .ok (.aload_n 0, 1) := by decide +kernel
theorem dX6_care_32 : decode cX6_care 32 = .ok (.getfield 26, 3) := by decide +kernel
theorem dX6_care_35 : decode cX6_care 35 = .ok (.bipush 14, 2) := by decide +kernel
theorem dX6_care_37 : decode cX6_care 37 = .ok (.iload_n 1, 1) := by decide +kernel
theorem dX6_care_38 : decode cX6_care 38 = .ok (.iadd, 1) := by decide +kernel
theorem dX6_care_39 : decode cX6_care 39 = .ok (.iload_n 3, 1) := by decide +kernel
theorem dX6_care_40 : decode cX6_care 40 = .ok (.iastore, 1) := by decide +kernel
theorem dX6_care_41 : decode cX6_care 41 = .ok (.aload_n 0, 1) := by decide +kernel
theorem dX6_care_42 : decode cX6_care 42 = .ok (.iload_n 2, 1) := by decide +kernel
theorem dX6_care_43 : decode cX6_care 43 = .ok (.iconst 0, 1) := by decide +kernel
theorem dX6_care_44 : decode cX6_care 44 = .ok (.invokevirtual 144, 3) := by decide +kernel
theorem dX6_care_47 : decode cX6_care 47 = .ok (.aload_n 0, 1) := by decide +kernel
theorem dX6_care_48 : decode cX6_care 48 = .ok (.getfield 26, 3) := by decide +kernel
theorem dX6_care_51 : decode cX6_care 51 = .ok (.bipush 21, 2) := by decide +kernel
theorem dX6_care_53 : decode cX6_care 53 = .ok (.iaload, 1) := by decide +kernel
theorem dX6_care_54 : decode cX6_care 54 = .ok (.iload_n 1, 1) := by decide +kernel
theorem dX6_care_55 : decode cX6_care 55 = .ok (.invokestatic 50, 3) := by decide +kernel
theorem dX6_care_58 : decode cX6_care 58 = .ok (.ifCond .eq 5, 3) := by decide +kernel
theorem dX6_care_61 : decode cX6_care 61 = .ok (.iload_n 3, 1) := by decide +kernel
theorem dX6_care_62 : decode cX6_care 62 = .ok (.ireturn, 1) := by decide +kernel
theorem dX6_care_63 : decode cX6_care 63 = .ok (.iinc 3 (-1), 3) := by decide +kernel
theorem dX6_care_66 : decode cX6_care 66 = .ok (.goto (-43), 3) := by decide +kernel
theorem dX6_care_69 : decode cX6_care 69 = .ok (.bipush (-4), 2) := by decide +kernel
theorem dX6_care_71 : decode cX6_care 71 = .ok (.ireturn, 1) := by decide +kernel
theorem dX6_leave_0 : decode cX6_leave 0 = .ok (.aload_n 0, 1) := by decide +kernel
theorem dX6_leave_1 : decode cX6_leave 1 = .ok (.iload_n 1, 1) := by decide +kernel
theorem dX6_leave_2 : decode cX6_leave 2 = .ok (.invokevirtual 58, 3) := by decide +kernel
theorem dX6_leave_5 : decode cX6_leave 5 = .ok (.ifCond .eq 22, 3) := by decide +kernel
theorem dX6_leave_8 : decode cX6_leave 8 = .ok (.iload_n 2, 1) := by decide +kernel
theorem dX6_leave_9 : decode cX6_leave 9 = .ok (.iconst 0, 1) := by decide +kernel
theorem dX6_leave_10 : decode cX6_leave 10 = .ok (.bipush 10, 2) := by decide +kernel
theorem dX6_leave_12 : decode cX6_leave 12 = .ok (.invokestatic 38, 3) := by decide +kernel
theorem dX6_leave_15 : decode cX6_leave 15 = .ok (.ifCond .eq 12, 3) := by decide +kernel
theorem dX6_leave_18 : decode cX6_leave 18 = .ok (.iload_n 3, 1) := by decide +kernel
theorem dX6_leave_19 : decode cX6_leave 19 = .ok (.iconst 0, 1) := by decide +kernel
theorem dX6_leave_20 : decode cX6_leave 20 = .ok (.iconst 1, 1) := by decide +kernel
theorem dX6_leave_21 : decode cX6_leave 21 = .ok (.invokestatic 38, 3) := by decide +kernel
theorem dX6_leave_24 : decode cX6_leave 24 = .ok (.ifCond .ne 5, 3) := by decide +kernel
theorem dX6_leave_27 : decode cX6_leave 27 = .ok (.iconst (-1), 1) := by decide +kernel
theorem dX6_leave_28 : decode cX6_leave 28 = .ok (.ireturn, 1) := by decide +kernel
theorem dX6_leave_29 : decode cX6_leave 29 = .ok (.iconst 0, 1) := by decide +kernel
theorem dX6_leave_30 : decode cX6_leave 30 = .ok (.istore 4, 2) := by decide +kernel
theorem dX6_leave_32 : decode cX6_leave 32 = .ok (.iconst 1, 1) := by decide +kernel
theorem dX6_leave_33 : decode cX6_leave 33 = .ok (.istore 5, 2) := by decide +kernel
theorem dX6_leave_35 : decode cX6_leave 35 = .ok (.iconst 0, 1) := by decide +kernel
theorem dX6_leave_36 : decode cX6_leave 36 = .ok (.istore 6, 2) := by decide +kernel
theorem dX6_leave_38 : decode cX6_leave 38 = .ok (.iload 6, 2) := by decide +kernel
theorem dX6_leave_40 : decode cX6_leave 40 = .ok (.aload_n 0, 1) := by decide +kernel
theorem dX6_leave_41 : decode cX6_leave 41 = .ok (.getfield 23, 3) := by decide +kernel
theorem dX6_leave_44 : decode cX6_leave 44 = .ok (.bipush 30, 2) := by decide +kernel
theorem dX6_leave_46 : decode cX6_leave 46 = .ok (.iaload, 1) := by decide +kernel
theorem dX6_leave_47 : decode cX6_leave 47 = .ok (.if_icmp .ge 16, 3) := by decide +kernel
theorem dX6_leave_50 : decode cX6_leave 50 = .ok (.iload 5, 2) := by decide +kernel
theorem dX6_leave_52 : decode cX6_leave 52 = .ok (.bipush 10, 2) := by decide +kernel
theorem dX6_leave_54 : decode cX6_leave 54 = .ok (.imul, 1) := by decide +kernel
theorem dX6_leave_55 : decode cX6_leave 55 = .ok (.istore 5, 2) := by decide +kernel
theorem dX6_leave_57 : decode cX6_leave 57 = .ok (.iinc 6 1, 3) := by decide +kernel
theorem dX6_leave_60 : decode cX6_leave 60 = .ok (.goto (-22), 3) := by decide +kernel
theorem dX6_leave_63 : decode cX6_leave 63 = .ok (.iconst 0, 1) := by decide +kernel
theorem dX6_leave_64 : decode cX6_leave 64 = .ok (.istore 6, 2) := by decide +kernel
theorem dX6_leave_66 : decode cX6_leave 66 = .ok (.iload 6, 2) := by decide +kernel
theorem dX6_leave_68 : decode cX6_leave 68 = .ok (.iconst 1, 1) := by decide +kernel
theorem dX6_leave_69 : decode cX6_leave 69 = .ok (.aload_n 0, 1) := by decide +kernel
theorem dX6_leave_70 : decode cX6_leave 70 = .ok (.getfield 23, 3) := by decide +kernel
theorem dX6_leave_73 : decode cX6_leave 73 = .ok (.bipush 30, 2) := by decide +kernel
theorem dX6_leave_75 : decode cX6_leave 75 = .ok (.iaload, 1) := by decide +kernel
theorem dX6_leave_76 : decode cX6_leave 76 = .ok (.ishl, 1) := by decide +kernel
theorem dX6_leave_77 : decode cX6_leave 77 = .ok (.if_icmp .ge 88, 3) := by decide +kernel
theorem dX6_leave_80 : decode cX6_leave 80 = .ok (.iconst 1, 1) := by decide +kernel
theorem dX6_leave_81 : decode cX6_leave 81 = .ok (.istore 7, 2) := by decide +kernel
theorem dX6_leave_83 : decode cX6_leave 83 = .ok (.iconst 0, 1) := by decide +kernel
theorem dX6_leave_84 : decode cX6_leave 84 = .ok (.istore 8, 2) := by decide +kernel
theorem dX6_leave_86 : decode cX6_leave 86 = .ok (.iload 8, 2) := by decide +kernel
theorem dX6_leave_88 : decode cX6_leave 88 = .ok (.aload_n 0, 1) := by decide +kernel
theorem dX6_leave_89 : decode cX6_leave 89 = .ok (.getfield 23, 3) := by decide +kernel
theorem dX6_leave_92 : decode cX6_leave 92 = .ok (.bipush 30, 2) := by decide +kernel
theorem dX6_leave_94 : decode cX6_leave 94 = .ok (.iaload, 1) := by decide +kernel
theorem dX6_leave_95 : decode cX6_leave 95 = .ok (.if_icmp .ge 32, 3) := by decide +kernel
theorem dX6_leave_98 : decode cX6_leave 98 = .ok (.iload 7, 2) := by decide +kernel
theorem dX6_leave_100 : decode cX6_leave 100 = .ok (.iload 6, 2) := by decide +kernel
theorem dX6_leave_102 : decode cX6_leave 102 = .ok (.iload 8, 2) := by decide +kernel
theorem dX6_leave_104 : decode cX6_leave 104 = .ok (.invokestatic 50, 3) := by decide +kernel
theorem dX6_leave_107 : decode cX6_leave 107 = .ok (.ifCond .eq 7, 3) := by decide +kernel
theorem dX6_leave_110 : decode cX6_leave 110 = .ok (.iload_n 2, 1) := by decide +kernel
theorem dX6_leave_111 : decode cX6_leave 111 = .ok (.goto 7, 3) := by decide +kernel
theorem dX6_leave_114 : decode cX6_leave 114 = .ok (.bipush 10, 2) := by decide +kernel
theorem dX6_leave_116 : decode cX6_leave 116 = .ok (.iload_n 2, 1) := by decide +kernel
theorem dX6_leave_117 : decode cX6_leave 117 = .ok (.isub, 1) := by decide +kernel
theorem dX6_leave_118 : decode cX6_leave 118 = .ok (.imul, 1) := by decide +kernel
theorem dX6_leave_119 : decode cX6_leave 119 = .ok (.istore 7, 2) := by decide +kernel
theorem dX6_leave_121 : decode cX6_leave 121 = .ok (.iinc 8 1, 3) := by decide +kernel
theorem dX6_leave_124 : decode cX6_leave 124 = .ok (.goto (-38), 3) := by decide +kernel
theorem dX6_leave_127 : decode cX6_leave 127 = .ok (.aload_n 0, 1) := by decide +kernel
theorem dX6_leave_128 : decode cX6_leave 128 = .ok (.invokevirtual 141, 3) := by decide +kernel
theorem dX6_leave_131 : decode cX6_leave 131 = .ok (.iload 4, 2) := by decide +kernel
theorem dX6_leave_133 : decode cX6_leave 133 = .ok (.aload_n 0, 1) := by decide +kernel
theorem dX6_leave_134 : decode cX6_leave 134 = .ok (.aload_n 0, 1) := by decide +kernel
theorem dX6_leave_135 : decode cX6_leave 135 = .ok (.getfield 26, 3) := by decide +kernel
theorem dX6_leave_138 : decode cX6_leave 138 = .ok (.iload 6, 2) := by decide +kernel
theorem dX6_leave_140 : decode cX6_leave 140 = .ok (.invokevirtual 115, 3) := by decide +kernel
theorem dX6_leave_143 : decode cX6_leave 143 = .ok (.iload_n 1, 1) := by decide +kernel
theorem dX6_leave_144 : decode cX6_leave 144 = .ok (.invokestatic 50, 3) := by decide +kernel
theorem dX6_leave_147 : decode cX6_leave 147 = .ok (.ifCond .eq 8, 3) := by decide +kernel
theorem dX6_leave_150 : decode cX6_leave 150 = .ok (.iload 7, 2) := by decide +kernel
theorem dX6_leave_152 : decode cX6_leave 152 = .ok (.goto 4, 3) := by decide +kernel
theorem dX6_leave_155 : decode cX6_leave 155 = .ok (.iconst 0, 1) := by decide +kernel
theorem dX6_leave_156 : decode cX6_leave 156 = .ok (.iadd, 1) := by decide +kernel
theorem dX6_leave_157 : decode cX6_leave 157 = .ok (.istore 4, 2) := by decide +kernel
theorem dX6_leave_159 : decode cX6_leave 159 = .ok (.iinc 6 1, 3) := by decide +kernel
theorem dX6_leave_162 : decode cX6_leave 162 = .ok (.goto (-96), 3) := by decide +kernel
theorem dX6_leave_165 : decode cX6_leave 165 = .ok (.iload 4, 2) := by decide +kernel
theorem dX6_leave_167 : decode cX6_leave 167 = .ok (.istore 6, 2) := by decide +kernel
theorem dX6_leave_169 : decode cX6_leave 169 = .ok (.iload 5, 2) := by decide +kernel
theorem dX6_leave_171 : decode cX6_leave 171 = .ok (.istore 7, 2) := by decide +kernel
theorem dX6_leave_173 : decode cX6_leave 173 = .ok (.iload 7, 2) := by decide +kernel
theorem dX6_leave_175 : decode cX6_leave 175 = .ok (.ifCond .le 21, 3) := by decide +kernel
theorem dX6_leave_178 : decode cX6_leave 178 = .ok (.iload 6, 2) := by decide +kernel
theorem dX6_leave_180 : decode cX6_leave 180 = .ok (.iload 7, 2) := by decide +kernel
theorem dX6_leave_182 : decode cX6_leave 182 = .ok (.irem, 1) := by decide +kernel
theorem dX6_leave_183 : decode cX6_leave 183 = .ok (.istore 8, 2) := by decide +kernel
theorem dX6_leave_185 : decode cX6_leave 185 = .ok (.iload 7, 2) := by decide +kernel
theorem dX6_leave_187 : decode cX6_leave 187 = .ok (.istore 6, 2) := by decide +kernel
theorem dX6_leave_189 : decode cX6_leave 189 = .ok (.iload 8, 2) := by decide +kernel
theorem dX6_leave_191 : decode cX6_leave 191 = .ok (.istore 7, 2) := by decide +kernel
theorem dX6_leave_193 : decode cX6_leave 193 = .ok (.goto (-20), 3) := by decide +kernel
theorem dX6_leave_196 : decode cX6_leave 196 = .ok (.iload_n 3, 1) := by decide +kernel
theorem dX6_leave_197 : decode cX6_leave 197 = .ok (.ifCond .ne 8, 3) := by decide +kernel
theorem dX6_leave_200 : decode cX6_leave 200 = .ok (.iload 4, 2) := by decide +kernel
theorem dX6_leave_202 : decode cX6_leave 202 = .ok (.goto 5, 3) := by decide +kernel
theorem dX6_leave_205 : decode cX6_leave 205 = .ok (.iload 5, 2) := by decide +kernel
theorem dX6_leave_207 : decode cX6_leave 207 = .ok (.iload 6, 2) := by decide +kernel
theorem dX6_leave_209 : decode cX6_leave 209 = .ok (.idiv, 1) := by decide +kernel
theorem dX6_leave_210 : decode cX6_leave 210 = .ok (.ireturn, 1) := by decide +kernel
theorem dX6_image_0 : decode cX6_image 0 = .ok (.aload_n 0, 1) := by decide +kernel
theorem dX6_image_1 : decode cX6_image 1 = .ok (.getfield 23, 3) := by decide +kernel
theorem dX6_image_4 : decode cX6_image 4 = .ok (.iconst 0, 1) := by decide +kernel
theorem dX6_image_5 : decode cX6_image 5 = .ok (.aload_n 0, 1) := by decide +kernel
theorem dX6_image_6 : decode cX6_image 6 = .ok (.getfield 32, 3) := by decide +kernel
theorem dX6_image_9 : decode cX6_image 9 = .ok (.iconst 0, 1) := by decide +kernel
theorem dX6_image_10 : decode cX6_image 10 = .ok (.sipush 216, 3) := by decide +kernel
theorem dX6_image_13 : decode cX6_image 13 = .ok (.invokestatic 108, 3) := by decide +kernel
theorem dX6_image_16 : decode cX6_image 16 = .ok (.aload_n 0, 1) := by decide +kernel
theorem dX6_image_17 : decode cX6_image 17 = .ok (.iconst 1, 1) := by decide +kernel
theorem dX6_image_18 : decode cX6_image 18 = .ok (.putfield 155, 3) := by decide +kernel
theorem dX6_image_21 : decode cX6_image 21 = .ok (.iconst 1, 1) := by decide +kernel
theorem dX6_image_22 : decode cX6_image 22 = .ok (.ireturn, 1) := by decide +kernel
theorem dX6_restore_0 : decode cX6_restore 0 = .ok (.aload_n 0, 1) := by decide +kernel
theorem dX6_restore_1 : decode cX6_restore 1 = .ok (.getfield 155, 3) := by decide +kernel
theorem dX6_restore_4 : decode cX6_restore 4 = .ok (.ifCond .ne 6, 3) := by decide +kernel
theorem dX6_restore_7 : decode cX6_restore 7 = .ok (.bipush (-4), 2) := by decide +kernel
theorem dX6_restore_9 : decode cX6_restore 9 = .ok (.ireturn, 1) := by decide +kernel
theorem dX6_restore_10 : decode cX6_restore 10 = .ok (.aload_n 0, 1) := by decide +kernel
theorem dX6_restore_11 : decode cX6_restore 11 = .ok (.getfield 32, 3) := by decide +kernel
theorem dX6_restore_14 : decode cX6_restore 14 = .ok (.iconst 0, 1) := by decide +kernel
theorem dX6_restore_15 : decode cX6_restore 15 = .ok (.aload_n 0, 1) := by decide +kernel
theorem dX6_restore_16 : decode cX6_restore 16 = .ok (.getfield 23, 3) := by decide +kernel
theorem dX6_restore_19 : decode cX6_restore 19 = .ok (.iconst 0, 1) := by decide +kernel
theorem dX6_restore_20 : decode cX6_restore 20 = .ok (.sipush 216, 3) := by decide +kernel
theorem dX6_restore_23 : decode cX6_restore 23 = .ok (.invokestatic 108, 3) := by decide +kernel
theorem dX6_restore_26 : decode cX6_restore 26 = .ok (.iconst 1, 1) := by decide +kernel
theorem dX6_restore_27 : decode cX6_restore 27 = .ok (.ireturn, 1) := by decide +kernel
theorem dX6_isSheet_0 : decode cX6_isSheet 0 = .ok (.iload_n 0, 1) := by decide +kernel
theorem dX6_isSheet_1 : decode cX6_isSheet 1 = .ok (.iconst 0, 1) := by decide +kernel
theorem dX6_isSheet_2 : decode cX6_isSheet 2 = .ok (.iconst 3, 1) := by decide +kernel
theorem dX6_isSheet_3 : decode cX6_isSheet 3 = .ok (.invokestatic 38, 3) := by decide +kernel
theorem dX6_isSheet_6 : decode cX6_isSheet 6 = .ok (.ireturn, 1) := by decide +kernel
theorem dX6_isPart_0 : decode cX6_isPart 0 = .ok (.iload_n 1, 1) := by decide +kernel
theorem dX6_isPart_1 : decode cX6_isPart 1 = .ok (.ifCond .lt 23, 3) := by decide +kernel
theorem dX6_isPart_4 : decode cX6_isPart 4 = .ok (.iload_n 0, 1) := by decide +kernel
theorem dX6_isPart_5 : decode cX6_isPart 5 = .ok (.ifCond .lt 19, 3) := by decide +kernel
theorem dX6_isPart_8 : decode cX6_isPart 8 = .ok (.iload_n 1, 1) := by decide +kernel
theorem dX6_isPart_9 : decode cX6_isPart 9 = .ok (.iload_n 2, 1) := by decide +kernel
theorem dX6_isPart_10 : decode cX6_isPart 10 = .ok (.if_icmp .gt 14, 3) := by decide +kernel
theorem dX6_isPart_13 : decode cX6_isPart 13 = .ok (.iload_n 0, 1) := by decide +kernel
theorem dX6_isPart_14 : decode cX6_isPart 14 = .ok (.iload_n 2, 1) := by decide +kernel
theorem dX6_isPart_15 : decode cX6_isPart 15 = .ok (.iload_n 1, 1) := by decide +kernel
theorem dX6_isPart_16 : decode cX6_isPart 16 = .ok (.isub, 1) := by decide +kernel
theorem dX6_isPart_17 : decode cX6_isPart 17 = .ok (.if_icmp .gt 7, 3) := by decide +kernel
theorem dX6_isPart_20 : decode cX6_isPart 20 = .ok (.iconst 1, 1) := by decide +kernel
theorem dX6_isPart_21 : decode cX6_isPart 21 = .ok (.goto 4, 3) := by decide +kernel
theorem dX6_isPart_24 : decode cX6_isPart 24 = .ok (.iconst 0, 1) := by decide +kernel
theorem dX6_isPart_25 : decode cX6_isPart 25 = .ok (.ireturn, 1) := by decide +kernel
theorem dX6_wrong_0 : decode cX6_wrong 0 = .ok (.aload_n 0, 1) := by decide +kernel
theorem dX6_wrong_1 : decode cX6_wrong 1 = .ok (.getfield 7, 3) := by decide +kernel
theorem dX6_wrong_4 : decode cX6_wrong 4 = .ok (.iload_n 1, 1) := by decide +kernel
theorem dX6_wrong_5 : decode cX6_wrong 5 = .ok (.iaload, 1) := by decide +kernel
theorem dX6_wrong_6 : decode cX6_wrong 6 = .ok (.ifCond .ge 8, 3) := by decide +kernel
theorem dX6_wrong_9 : decode cX6_wrong 9 = .ok (.bipush (-11), 2) := by decide +kernel
theorem dX6_wrong_11 : decode cX6_wrong 11 = .ok (.goto 39, 3) := by decide +kernel
theorem dX6_wrong_14 : decode cX6_wrong 14 = .ok (.aload_n 0, 1) := by decide +kernel
theorem dX6_wrong_15 : decode cX6_wrong 15 = .ok (.getfield 7, 3) := by decide +kernel
theorem dX6_wrong_18 : decode cX6_wrong 18 = .ok (.iload_n 1, 1) := by decide +kernel
theorem dX6_wrong_19 : decode cX6_wrong 19 = .ok (.iaload, 1) := by decide +kernel
theorem dX6_wrong_20 : decode cX6_wrong 20 = .ok (.iload_n 2, 1) := by decide +kernel
theorem dX6_wrong_21 : decode cX6_wrong 21 = .ok (.if_icmp .eq 8, 3) := by decide +kernel
theorem dX6_wrong_24 : decode cX6_wrong 24 = .ok (.bipush (-12), 2) := by decide +kernel
theorem dX6_wrong_26 : decode cX6_wrong 26 = .ok (.goto 24, 3) := by decide +kernel
theorem dX6_wrong_29 : decode cX6_wrong 29 = .ok (.iload_n 3, 1) := by decide +kernel
theorem dX6_wrong_30 : decode cX6_wrong 30 = .ok (.iload 4, 2) := by decide +kernel
theorem dX6_wrong_32 : decode cX6_wrong 32 = .ok (.aload_n 0, 1) := by decide +kernel
theorem dX6_wrong_33 : decode cX6_wrong 33 = .ok (.getfield 13, 3) := by decide +kernel
theorem dX6_wrong_36 : decode cX6_wrong 36 = .ok (.iload_n 1, 1) := by decide +kernel
theorem dX6_wrong_37 : decode cX6_wrong 37 = .ok (.iaload, 1) := by decide +kernel
theorem dX6_wrong_38 : decode cX6_wrong 38 = .ok (.invokestatic 159, 3) := by decide +kernel
theorem dX6_wrong_41 : decode cX6_wrong 41 = .ok (.ifCond .eq 7, 3) := by decide +kernel
theorem dX6_wrong_44 : decode cX6_wrong 44 = .ok (.iconst 0, 1) := by decide +kernel
theorem dX6_wrong_45 : decode cX6_wrong 45 = .ok (.goto 5, 3) := by decide +kernel
theorem dX6_wrong_48 : decode cX6_wrong 48 = .ok (.bipush (-13), 2) := by decide +kernel
theorem dX6_wrong_50 : decode cX6_wrong 50 = .ok (.ireturn, 1) := by decide +kernel
theorem dX6_isGrown_0 : decode cX6_isGrown 0 = .ok (.iconst 1, 1) := by decide +kernel
theorem dX6_isGrown_1 : decode cX6_isGrown 1 = .ok (.istore 5, 2) := by decide +kernel
theorem dX6_isGrown_3 : decode cX6_isGrown 3 = .ok (.iconst 0, 1) := by decide +kernel
theorem dX6_isGrown_4 : decode cX6_isGrown 4 = .ok (.istore 6, 2) := by decide +kernel
theorem dX6_isGrown_6 : decode cX6_isGrown 6 = .ok (.iload 6, 2) := by decide +kernel
theorem dX6_isGrown_8 : decode cX6_isGrown 8 = .ok (.iload 4, 2) := by decide +kernel
theorem dX6_isGrown_10 : decode cX6_isGrown 10 = .ok (.if_icmp .ge 57, 3) := by decide +kernel
theorem dX6_isGrown_13 : decode cX6_isGrown 13 = .ok (.iload 5, 2) := by decide +kernel
theorem dX6_isGrown_15 : decode cX6_isGrown 15 = .ok (.ifCond .eq 52, 3) := by decide +kernel
theorem dX6_isGrown_18 : decode cX6_isGrown 18 = .ok (.aload_n 0, 1) := by decide +kernel
theorem dX6_isGrown_19 : decode cX6_isGrown 19 = .ok (.aload_n 0, 1) := by decide +kernel
theorem dX6_isGrown_20 : decode cX6_isGrown 20 = .ok (.getfield 26, 3) := by decide +kernel
theorem dX6_isGrown_23 : decode cX6_isGrown 23 = .ok (.iconst 0, 1) := by decide +kernel
theorem dX6_isGrown_24 : decode cX6_isGrown 24 = .ok (.invokevirtual 126, 3) := by decide +kernel
theorem dX6_isGrown_27 : decode cX6_isGrown 27 = .ok (.aload_n 0, 1) := by decide +kernel
theorem dX6_isGrown_28 : decode cX6_isGrown 28 = .ok (.getfield 26, 3) := by decide +kernel
theorem dX6_isGrown_31 : decode cX6_isGrown 31 = .ok (.iconst 2, 1) := by decide +kernel
theorem dX6_isGrown_32 : decode cX6_isGrown 32 = .ok (.iload_n 1, 1) := by decide +kernel
theorem dX6_isGrown_33 : decode cX6_isGrown 33 = .ok (.iadd, 1) := by decide +kernel
theorem dX6_isGrown_34 : decode cX6_isGrown 34 = .ok (.iaload, 1) := by decide +kernel
theorem dX6_isGrown_35 : decode cX6_isGrown 35 = .ok (.i2l, 1) := by decide +kernel
theorem dX6_isGrown_36 : decode cX6_isGrown 36 = .ok (.aload_n 0, 1) := by decide +kernel
theorem dX6_isGrown_37 : decode cX6_isGrown 37 = .ok (.getfield 16, 3) := by decide +kernel
theorem dX6_isGrown_40 : decode cX6_isGrown 40 = .ok (.bipush 24, 2) := by decide +kernel
theorem dX6_isGrown_42 : decode cX6_isGrown 42 = .ok (.iload_n 2, 1) := by decide +kernel
theorem dX6_isGrown_43 : decode cX6_isGrown 43 = .ok (.imul, 1) := by decide +kernel
theorem dX6_isGrown_44 : decode cX6_isGrown 44 = .ok (.iload_n 3, 1) := by decide +kernel
theorem dX6_isGrown_45 : decode cX6_isGrown 45 = .ok (.iadd, 1) := by decide +kernel
theorem dX6_isGrown_46 : decode cX6_isGrown 46 = .ok (.iload 6, 2) := by decide +kernel
theorem dX6_isGrown_48 : decode cX6_isGrown 48 = .ok (.iadd, 1) := by decide +kernel
theorem dX6_isGrown_49 : decode cX6_isGrown 49 = .ok (.laload, 1) := by decide +kernel
theorem dX6_isGrown_50 : decode cX6_isGrown 50 = .ok (.lcmp, 1) := by decide +kernel
theorem dX6_isGrown_51 : decode cX6_isGrown 51 = .ok (.ifCond .ne 7, 3) := by decide +kernel
theorem dX6_isGrown_54 : decode cX6_isGrown 54 = .ok (.iconst 1, 1) := by decide +kernel
theorem dX6_isGrown_55 : decode cX6_isGrown 55 = .ok (.goto 4, 3) := by decide +kernel
theorem dX6_isGrown_58 : decode cX6_isGrown 58 = .ok (.iconst 0, 1) := by decide +kernel
theorem dX6_isGrown_59 : decode cX6_isGrown 59 = .ok (.istore 5, 2) := by decide +kernel
theorem dX6_isGrown_61 : decode cX6_isGrown 61 = .ok (.iinc 6 1, 3) := by decide +kernel
theorem dX6_isGrown_64 : decode cX6_isGrown 64 = .ok (.goto (-58), 3) := by decide +kernel
theorem dX6_isGrown_67 : decode cX6_isGrown 67 = .ok (.iload 5, 2) := by decide +kernel
theorem dX6_isGrown_69 : decode cX6_isGrown 69 = .ok (.ireturn, 1) := by decide +kernel
theorem dX6_grown_0 : decode cX6_grown 0 = .ok (.aload_n 0, 1) := by decide +kernel
theorem dX6_grown_1 : decode cX6_grown 1 = .ok (.iload_n 1, 1) := by decide +kernel
theorem dX6_grown_2 : decode cX6_grown 2 = .ok (.invokevirtual 58, 3) := by decide +kernel
theorem dX6_grown_5 : decode cX6_grown 5 = .ok (.ifCond .eq 40, 3) := by decide +kernel
theorem dX6_grown_8 : decode cX6_grown 8 = .ok (.iload_n 2, 1) := by decide +kernel
theorem dX6_grown_9 : decode cX6_grown 9 = .ok (.invokestatic 162, 3) := by decide +kernel
theorem dX6_grown_12 : decode cX6_grown 12 = .ok (.ifCond .eq 33, 3) := by decide +kernel
theorem dX6_grown_15 : decode cX6_grown 15 = .ok (.iload_n 3, 1) := by decide +kernel
theorem dX6_grown_16 : decode cX6_grown 16 = .ok (.iconst 0, 1) := by decide +kernel
theorem dX6_grown_17 : decode cX6_grown 17 = .ok (.iconst 3, 1) := by decide +kernel
theorem dX6_grown_18 : decode cX6_grown 18 = .ok (.invokestatic 38, 3) := by decide +kernel
theorem dX6_grown_21 : decode cX6_grown 21 = .ok (.ifCond .eq 24, 3) := by decide +kernel
theorem dX6_grown_24 : decode cX6_grown 24 = .ok (.iload 5, 2) := by decide +kernel
theorem dX6_grown_26 : decode cX6_grown 26 = .ok (.iconst 1, 1) := by decide +kernel
theorem dX6_grown_27 : decode cX6_grown 27 = .ok (.bipush 8, 2) := by decide +kernel
theorem dX6_grown_29 : decode cX6_grown 29 = .ok (.invokestatic 38, 3) := by decide +kernel
theorem dX6_grown_32 : decode cX6_grown 32 = .ok (.ifCond .eq 13, 3) := by decide +kernel
theorem dX6_grown_35 : decode cX6_grown 35 = .ok (.iload 6, 2) := by decide +kernel
theorem dX6_grown_37 : decode cX6_grown 37 = .ok (.iconst 0, 1) := by decide +kernel
theorem dX6_grown_38 : decode cX6_grown 38 = .ok (.iconst 2, 1) := by decide +kernel
theorem dX6_grown_39 : decode cX6_grown 39 = .ok (.invokestatic 38, 3) := by decide +kernel
theorem dX6_grown_42 : decode cX6_grown 42 = .ok (.ifCond .ne 5, 3) := by decide +kernel
theorem dX6_grown_45 : decode cX6_grown 45 = .ok (.iconst (-1), 1) := by decide +kernel
theorem dX6_grown_46 : decode cX6_grown 46 = .ok (.ireturn, 1) := by decide +kernel
theorem dX6_grown_47 : decode cX6_grown 47 = .ok (.aload_n 0, 1) := by decide +kernel
theorem dX6_grown_48 : decode cX6_grown 48 = .ok (.iload_n 2, 1) := by decide +kernel
theorem dX6_grown_49 : decode cX6_grown 49 = .ok (.iload_n 3, 1) := by decide +kernel
theorem dX6_grown_50 : decode cX6_grown 50 = .ok (.iload 4, 2) := by decide +kernel
theorem dX6_grown_52 : decode cX6_grown 52 = .ok (.iload 5, 2) := by decide +kernel
theorem dX6_grown_54 : decode cX6_grown 54 = .ok (.invokevirtual 165, 3) := by decide +kernel
theorem dX6_grown_57 : decode cX6_grown 57 = .ok (.istore 7, 2) := by decide +kernel
theorem dX6_grown_59 : decode cX6_grown 59 = .ok (.iload 7, 2) := by decide +kernel
theorem dX6_grown_61 : decode cX6_grown 61 = .ok (.ifCond .eq 6, 3) := by decide +kernel
theorem dX6_grown_64 : decode cX6_grown 64 = .ok (.iload 7, 2) := by decide +kernel
theorem dX6_grown_66 : decode cX6_grown 66 = .ok (.ireturn, 1) := by decide +kernel
theorem dX6_grown_67 : decode cX6_grown 67 = .ok (.iconst 0, 1) := by decide +kernel
theorem dX6_grown_68 : decode cX6_grown 68 = .ok (.istore 8, 2) := by decide +kernel
theorem dX6_grown_70 : decode cX6_grown 70 = .ok (.iconst 0, 1) := by decide +kernel
theorem dX6_grown_71 : decode cX6_grown 71 = .ok (.istore 9, 2) := by decide +kernel
theorem dX6_grown_73 : decode cX6_grown 73 = .ok (.bipush (-4), 2) := by decide +kernel
theorem dX6_grown_75 : decode cX6_grown 75 = .ok (.istore 10, 2) := by decide +kernel
theorem dX6_grown_77 : decode cX6_grown 77 = .ok (.iload 6, 2) := by decide +kernel
theorem dX6_grown_79 : decode cX6_grown 79 = .ok (.ifCond .ne 7, 3) := by decide +kernel
theorem dX6_grown_82 : decode cX6_grown 82 = .ok (.iconst 4, 1) := by decide +kernel
theorem dX6_grown_83 : decode cX6_grown 83 = .ok (.goto 5, 3) := by decide +kernel
theorem dX6_grown_86 : decode cX6_grown 86 = .ok (.bipush 99, 2) := by decide +kernel
theorem dX6_grown_88 : decode cX6_grown 88 = .ok (.istore 11, 2) := by decide +kernel
theorem dX6_grown_90 : decode cX6_grown 90 = .ok (.iload 11, 2) := by decide +kernel
theorem dX6_grown_92 : decode cX6_grown 92 = .ok (.ifCond .lt 97, 3) := by decide +kernel
theorem dX6_grown_95 : decode cX6_grown 95 = .ok (.aload_n 0, 1) := by decide +kernel
theorem dX6_grown_96 : decode cX6_grown 96 = .ok (.invokevirtual 141, 3) := by decide +kernel
theorem dX6_grown_99 : decode cX6_grown 99 = .ok (.aload_n 0, 1) := by decide +kernel
theorem dX6_grown_100 : decode cX6_grown 100 = .ok (.getfield 26, 3) := by decide +kernel
theorem dX6_grown_103 : decode cX6_grown 103 = .ok (.iload 6, 2) := by decide +kernel
theorem dX6_grown_105 : decode cX6_grown 105 = .ok (.ifCond .ne 8, 3) := by decide +kernel
theorem dX6_grown_108 : decode cX6_grown 108 = .ok (.bipush 24, 2) := by decide +kernel
theorem dX6_grown_110 : decode cX6_grown 110 = .ok (.goto 4, 3) := by decide +kernel
theorem dX6_grown_113 : decode cX6_grown 113 = .ok (.iconst 2, 1) := by decide +kernel
theorem dX6_grown_114 : decode cX6_grown 114 = .ok (.iload_n 1, 1) := by decide +kernel
theorem dX6_grown_115 : decode cX6_grown 115 = .ok (.iadd, 1) := by decide +kernel
theorem dX6_grown_116 : decode cX6_grown 116 = .ok (.iload 11, 2) := by decide +kernel
theorem dX6_grown_118 : decode cX6_grown 118 = .ok (.iastore, 1) := by decide +kernel
theorem dX6_grown_119 : decode cX6_grown 119 = .ok (.aload_n 0, 1) := by decide +kernel
theorem dX6_grown_120 : decode cX6_grown 120 = .ok (.iload_n 1, 1) := by decide +kernel
theorem dX6_grown_121 : decode cX6_grown 121 = .ok (.iload_n 2, 1) := by decide +kernel
theorem dX6_grown_122 : decode cX6_grown 122 = .ok (.iload 4, 2) := by decide +kernel
theorem dX6_grown_124 : decode cX6_grown 124 = .ok (.iload 5, 2) := by decide +kernel
theorem dX6_grown_126 : decode cX6_grown 126 = .ok (.invokevirtual 169, 3) := by decide +kernel
theorem dX6_grown_129 : decode cX6_grown 129 = .ok (.istore 12, 2) := by decide +kernel
theorem dX6_grown_131 : decode cX6_grown 131 = .ok (.iload 8, 2) := by decide +kernel
theorem dX6_grown_133 : decode cX6_grown 133 = .ok (.iload 12, 2) := by decide +kernel
theorem dX6_grown_135 : decode cX6_grown 135 = .ok (.ifCond .eq 15, 3) := by decide +kernel
theorem dX6_grown_138 : decode cX6_grown 138 = .ok (.iload 6, 2) := by decide +kernel
theorem dX6_grown_140 : decode cX6_grown 140 = .ok (.ifCond .ne 10, 3) := by decide +kernel
theorem dX6_grown_143 : decode cX6_grown 143 = .ok (.iconst 1, 1) := by decide +kernel
theorem dX6_grown_144 : decode cX6_grown 144 = .ok (.iload 11, 2) := by decide +kernel
theorem dX6_grown_146 : decode cX6_grown 146 = .ok (.ishl, 1) := by decide +kernel
theorem dX6_grown_147 : decode cX6_grown 147 = .ok (.goto 4, 3) := by decide +kernel
theorem dX6_grown_150 : decode cX6_grown 150 = .ok (.iconst 0, 1) := by decide +kernel
theorem dX6_grown_151 : decode cX6_grown 151 = .ok (.ior, 1) := by decide +kernel
theorem dX6_grown_152 : decode cX6_grown 152 = .ok (.istore 8, 2) := by decide +kernel
theorem dX6_grown_154 : decode cX6_grown 154 = .ok (.iload 9, 2) := by decide +kernel
theorem dX6_grown_156 : decode cX6_grown 156 = .ok (.iload 12, 2) := by decide +kernel
theorem dX6_grown_158 : decode cX6_grown 158 = .ok (.ifCond .eq 7, 3) := by decide +kernel
theorem dX6_grown_161 : decode cX6_grown 161 = .ok (.iconst 1, 1) := by decide +kernel
theorem dX6_grown_162 : decode cX6_grown 162 = .ok (.goto 4, 3) := by decide +kernel
theorem dX6_grown_165 : decode cX6_grown 165 = .ok (.iconst 0, 1) := by decide +kernel
theorem dX6_grown_166 : decode cX6_grown 166 = .ok (.iadd, 1) := by decide +kernel
theorem dX6_grown_167 : decode cX6_grown 167 = .ok (.istore 9, 2) := by decide +kernel
theorem dX6_grown_169 : decode cX6_grown 169 = .ok (.iload 12, 2) := by decide +kernel
theorem dX6_grown_171 : decode cX6_grown 171 = .ok (.ifCond .eq 8, 3) := by decide +kernel
theorem dX6_grown_174 : decode cX6_grown 174 = .ok (.iload 11, 2) := by decide +kernel
theorem dX6_grown_176 : decode cX6_grown 176 = .ok (.goto 5, 3) := by decide +kernel
theorem dX6_grown_179 : decode cX6_grown 179 = .ok (.iload 10, 2) := by decide +kernel
theorem dX6_grown_181 : decode cX6_grown 181 = .ok (.istore 10, 2) := by decide +kernel
theorem dX6_grown_183 : decode cX6_grown 183 = .ok (.iinc 11 (-1), 3) := by decide +kernel
theorem dX6_grown_186 : decode cX6_grown 186 = .ok (.goto (-96), 3) := by decide +kernel
theorem dX6_grown_189 : decode cX6_grown 189 = .ok (.iload 6, 2) := by decide +kernel
theorem dX6_grown_191 : decode cX6_grown 191 = .ok (.ifCond .ne 8, 3) := by decide +kernel
theorem dX6_grown_194 : decode cX6_grown 194 = .ok (.iload 8, 2) := by decide +kernel
theorem dX6_grown_196 : decode cX6_grown 196 = .ok (.goto 16, 3) := by decide +kernel
theorem dX6_grown_199 : decode cX6_grown 199 = .ok (.iload 6, 2) := by decide +kernel
theorem dX6_grown_201 : decode cX6_grown 201 = .ok (.iconst 1, 1) := by decide +kernel
theorem dX6_grown_202 : decode cX6_grown 202 = .ok (.if_icmp .ne 8, 3) := by decide +kernel
theorem dX6_grown_205 : decode cX6_grown 205 = .ok (.iload 9, 2) := by decide +kernel
theorem dX6_grown_207 : decode cX6_grown 207 = .ok (.goto 5, 3) := by decide +kernel
theorem dX6_grown_210 : decode cX6_grown 210 = .ok (.iload 10, 2) := by decide +kernel
theorem dX6_grown_212 : decode cX6_grown 212 = .ok (.ireturn, 1) := by decide +kernel
theorem dX6_film_0 : decode cX6_film 0 = .ok (.aload_n 0, 1) := by decide +kernel
theorem dX6_film_1 : decode cX6_film 1 = .ok (.iload_n 1, 1) := by decide +kernel
theorem dX6_film_2 : decode cX6_film 2 = .ok (.invokevirtual 58, 3) := by decide +kernel
theorem dX6_film_5 : decode cX6_film 5 = .ok (.ifCond .eq 30, 3) := by decide +kernel
theorem dX6_film_8 : decode cX6_film 8 = .ok (.iload_n 2, 1) := by decide +kernel
theorem dX6_film_9 : decode cX6_film 9 = .ok (.iconst 1, 1) := by decide +kernel
theorem dX6_film_10 : decode cX6_film 10 = .ok (.bipush 24, 2) := by decide +kernel
theorem dX6_film_12 : decode cX6_film 12 = .ok (.invokestatic 38, 3) := by decide +kernel
theorem dX6_film_15 : decode cX6_film 15 = .ok (.ifCond .eq 20, 3) := by decide +kernel
theorem dX6_film_18 : decode cX6_film 18 = .ok (.iload_n 3, 1) := by decide +kernel
theorem dX6_film_19 : decode cX6_film 19 = .ok (.invokestatic 162, 3) := by decide +kernel
theorem dX6_film_22 : decode cX6_film 22 = .ok (.ifCond .eq 13, 3) := by decide +kernel
theorem dX6_film_25 : decode cX6_film 25 = .ok (.iload 4, 2) := by decide +kernel
theorem dX6_film_27 : decode cX6_film 27 = .ok (.iconst 0, 1) := by decide +kernel
theorem dX6_film_28 : decode cX6_film 28 = .ok (.iconst 3, 1) := by decide +kernel
theorem dX6_film_29 : decode cX6_film 29 = .ok (.invokestatic 38, 3) := by decide +kernel
theorem dX6_film_32 : decode cX6_film 32 = .ok (.ifCond .ne 5, 3) := by decide +kernel
theorem dX6_film_35 : decode cX6_film 35 = .ok (.iconst (-1), 1) := by decide +kernel
theorem dX6_film_36 : decode cX6_film 36 = .ok (.ireturn, 1) := by decide +kernel
theorem dX6_film_37 : decode cX6_film 37 = .ok (.aload_n 0, 1) := by decide +kernel
theorem dX6_film_38 : decode cX6_film 38 = .ok (.iload_n 3, 1) := by decide +kernel
theorem dX6_film_39 : decode cX6_film 39 = .ok (.iload 4, 2) := by decide +kernel
theorem dX6_film_41 : decode cX6_film 41 = .ok (.iload 5, 2) := by decide +kernel
theorem dX6_film_43 : decode cX6_film 43 = .ok (.iload_n 2, 1) := by decide +kernel
theorem dX6_film_44 : decode cX6_film 44 = .ok (.invokevirtual 165, 3) := by decide +kernel
theorem dX6_film_47 : decode cX6_film 47 = .ok (.istore 6, 2) := by decide +kernel
theorem dX6_film_49 : decode cX6_film 49 = .ok (.iload 6, 2) := by decide +kernel
theorem dX6_film_51 : decode cX6_film 51 = .ok (.ifCond .eq 6, 3) := by decide +kernel
theorem dX6_film_54 : decode cX6_film 54 = .ok (.iload 6, 2) := by decide +kernel
theorem dX6_film_56 : decode cX6_film 56 = .ok (.ireturn, 1) := by decide +kernel
theorem dX6_film_57 : decode cX6_film 57 = .ok (.aload_n 0, 1) := by decide +kernel
theorem dX6_film_58 : decode cX6_film 58 = .ok (.invokevirtual 141, 3) := by decide +kernel
theorem dX6_film_61 : decode cX6_film 61 = .ok (.iconst 0, 1) := by decide +kernel
theorem dX6_film_62 : decode cX6_film 62 = .ok (.istore 7, 2) := by decide +kernel
theorem dX6_film_64 : decode cX6_film 64 = .ok (.iload 7, 2) := by decide +kernel
theorem dX6_film_66 : decode cX6_film 66 = .ok (.iload_n 2, 1) := by decide +kernel
theorem dX6_film_67 : decode cX6_film 67 = .ok (.if_icmp .ge 42, 3) := by decide +kernel
theorem dX6_film_70 : decode cX6_film 70 = .ok (.aload_n 0, 1) := by decide +kernel
theorem dX6_film_71 : decode cX6_film 71 = .ok (.aload_n 0, 1) := by decide +kernel
theorem dX6_film_72 : decode cX6_film 72 = .ok (.getfield 26, 3) := by decide +kernel
theorem dX6_film_75 : decode cX6_film 75 = .ok (.iconst 0, 1) := by decide +kernel
theorem dX6_film_76 : decode cX6_film 76 = .ok (.invokevirtual 126, 3) := by decide +kernel
theorem dX6_film_79 : decode cX6_film 79 = .ok (.aload_n 0, 1) := by decide +kernel
theorem dX6_film_80 : decode cX6_film 80 = .ok (.getfield 16, 3) := by decide +kernel
theorem dX6_film_83 : decode cX6_film 83 = .ok (.bipush 24, 2) := by decide +kernel
theorem dX6_film_85 : decode cX6_film 85 = .ok (.iload_n 3, 1) := by decide +kernel
theorem dX6_film_86 : decode cX6_film 86 = .ok (.imul, 1) := by decide +kernel
theorem dX6_film_87 : decode cX6_film 87 = .ok (.iload 5, 2) := by decide +kernel
theorem dX6_film_89 : decode cX6_film 89 = .ok (.iadd, 1) := by decide +kernel
theorem dX6_film_90 : decode cX6_film 90 = .ok (.iload 7, 2) := by decide +kernel
theorem dX6_film_92 : decode cX6_film 92 = .ok (.iadd, 1) := by decide +kernel
theorem dX6_film_93 : decode cX6_film 93 = .ok (.aload_n 0, 1) := by decide +kernel
theorem dX6_film_94 : decode cX6_film 94 = .ok (.getfield 26, 3) := by decide +kernel
theorem dX6_film_97 : decode cX6_film 97 = .ok (.iconst 2, 1) := by decide +kernel
theorem dX6_film_98 : decode cX6_film 98 = .ok (.iload_n 1, 1) := by decide +kernel
theorem dX6_film_99 : decode cX6_film 99 = .ok (.iadd, 1) := by decide +kernel
theorem dX6_film_100 : decode cX6_film 100 = .ok (.iaload, 1) := by decide +kernel
theorem dX6_film_101 : decode cX6_film 101 = .ok (.i2l, 1) := by decide +kernel
theorem dX6_film_102 : decode cX6_film 102 = .ok (.lastore, 1) := by decide +kernel
theorem dX6_film_103 : decode cX6_film 103 = .ok (.iinc 7 1, 3) := by decide +kernel
theorem dX6_film_106 : decode cX6_film 106 = .ok (.goto (-42), 3) := by decide +kernel
theorem dX6_film_109 : decode cX6_film 109 = .ok (.iload_n 2, 1) := by decide +kernel
theorem dX6_film_110 : decode cX6_film 110 = .ok (.ireturn, 1) := by decide +kernel
theorem dX6_sheet_0 : decode cX6_sheet 0 = .ok (.iload_n 1, 1) := by decide +kernel
theorem dX6_sheet_1 : decode cX6_sheet 1 = .ok (.invokestatic 162, 3) := by decide +kernel
theorem dX6_sheet_4 : decode cX6_sheet 4 = .ok (.ifCond .eq 18, 3) := by decide +kernel
theorem dX6_sheet_7 : decode cX6_sheet 7 = .ok (.iload_n 2, 1) := by decide +kernel
theorem dX6_sheet_8 : decode cX6_sheet 8 = .ok (.iconst 0, 1) := by decide +kernel
theorem dX6_sheet_9 : decode cX6_sheet 9 = .ok (.iconst 3, 1) := by decide +kernel
theorem dX6_sheet_10 : decode cX6_sheet 10 = .ok (.invokestatic 38, 3) := by decide +kernel
theorem dX6_sheet_13 : decode cX6_sheet 13 = .ok (.ifCond .eq 9, 3) := by decide +kernel
theorem dX6_sheet_16 : decode cX6_sheet 16 = .ok (.iload_n 3, 1) := by decide +kernel
theorem dX6_sheet_17 : decode cX6_sheet 17 = .ok (.bipush 24, 2) := by decide +kernel
theorem dX6_sheet_19 : decode cX6_sheet 19 = .ok (.if_icmp .le 5, 3) := by decide +kernel
theorem dX6_sheet_22 : decode cX6_sheet 22 = .ok (.iconst (-1), 1) := by decide +kernel
theorem dX6_sheet_23 : decode cX6_sheet 23 = .ok (.ireturn, 1) := by decide +kernel
theorem dX6_sheet_24 : decode cX6_sheet 24 = .ok (.iload_n 3, 1) := by decide +kernel
theorem dX6_sheet_25 : decode cX6_sheet 25 = .ok (.ifCond .ge 6, 3) := by decide +kernel
theorem dX6_sheet_28 : decode cX6_sheet 28 = .ok (.bipush (-14), 2) := by decide +kernel
theorem dX6_sheet_30 : decode cX6_sheet 30 = .ok (.ireturn, 1) := by decide +kernel
theorem dX6_sheet_31 : decode cX6_sheet 31 = .ok (.aload_n 0, 1) := by decide +kernel
theorem dX6_sheet_32 : decode cX6_sheet 32 = .ok (.getfield 7, 3) := by decide +kernel
theorem dX6_sheet_35 : decode cX6_sheet 35 = .ok (.iload_n 1, 1) := by decide +kernel
theorem dX6_sheet_36 : decode cX6_sheet 36 = .ok (.iload_n 2, 1) := by decide +kernel
theorem dX6_sheet_37 : decode cX6_sheet 37 = .ok (.iastore, 1) := by decide +kernel
theorem dX6_sheet_38 : decode cX6_sheet 38 = .ok (.aload_n 0, 1) := by decide +kernel
theorem dX6_sheet_39 : decode cX6_sheet 39 = .ok (.getfield 13, 3) := by decide +kernel
theorem dX6_sheet_42 : decode cX6_sheet 42 = .ok (.iload_n 1, 1) := by decide +kernel
theorem dX6_sheet_43 : decode cX6_sheet 43 = .ok (.iload_n 3, 1) := by decide +kernel
theorem dX6_sheet_44 : decode cX6_sheet 44 = .ok (.iastore, 1) := by decide +kernel
theorem dX6_sheet_45 : decode cX6_sheet 45 = .ok (.iconst 0, 1) := by decide +kernel
theorem dX6_sheet_46 : decode cX6_sheet 46 = .ok (.istore 4, 2) := by decide +kernel
theorem dX6_sheet_48 : decode cX6_sheet 48 = .ok (.iload 4, 2) := by decide +kernel
theorem dX6_sheet_50 : decode cX6_sheet 50 = .ok (.bipush 24, 2) := by decide +kernel
theorem dX6_sheet_52 : decode cX6_sheet 52 = .ok (.if_icmp .ge 22, 3) := by decide +kernel
theorem dX6_sheet_55 : decode cX6_sheet 55 = .ok (.aload_n 0, 1) := by decide +kernel
theorem dX6_sheet_56 : decode cX6_sheet 56 = .ok (.getfield 16, 3) := by decide +kernel
theorem dX6_sheet_59 : decode cX6_sheet 59 = .ok (.bipush 24, 2) := by decide +kernel
theorem dX6_sheet_61 : decode cX6_sheet 61 = .ok (.iload_n 1, 1) := by decide +kernel
theorem dX6_sheet_62 : decode cX6_sheet 62 = .ok (.imul, 1) := by decide +kernel
theorem dX6_sheet_63 : decode cX6_sheet 63 = .ok (.iload 4, 2) := by decide +kernel
theorem dX6_sheet_65 : decode cX6_sheet 65 = .ok (.iadd, 1) := by decide +kernel
theorem dX6_sheet_66 : decode cX6_sheet 66 = .ok (.lconst 0, 1) := by decide +kernel
theorem dX6_sheet_67 : decode cX6_sheet 67 = .ok (.lastore, 1) := by decide +kernel
theorem dX6_sheet_68 : decode cX6_sheet 68 = .ok (.iinc 4 1, 3) := by decide +kernel
theorem dX6_sheet_71 : decode cX6_sheet 71 = .ok (.goto (-23), 3) := by decide +kernel
theorem dX6_sheet_74 : decode cX6_sheet 74 = .ok (.iload_n 3, 1) := by decide +kernel
theorem dX6_sheet_75 : decode cX6_sheet 75 = .ok (.ireturn, 1) := by decide +kernel
theorem dX6_drop_0 : decode cX6_drop 0 = .ok (.iload_n 1, 1) := by decide +kernel
theorem dX6_drop_1 : decode cX6_drop 1 = .ok (.invokestatic 162, 3) := by decide +kernel
theorem dX6_drop_4 : decode cX6_drop 4 = .ok (.ifCond .ne 5, 3) := by decide +kernel
theorem dX6_drop_7 : decode cX6_drop 7 = .ok (.iconst (-1), 1) := by decide +kernel
theorem dX6_drop_8 : decode cX6_drop 8 = .ok (.ireturn, 1) := by decide +kernel
theorem dX6_drop_9 : decode cX6_drop 9 = .ok (.aload_n 0, 1) := by decide +kernel
theorem dX6_drop_10 : decode cX6_drop 10 = .ok (.getfield 7, 3) := by decide +kernel
theorem dX6_drop_13 : decode cX6_drop 13 = .ok (.iload_n 1, 1) := by decide +kernel
theorem dX6_drop_14 : decode cX6_drop 14 = .ok (.iaload, 1) := by decide +kernel
theorem dX6_drop_15 : decode cX6_drop 15 = .ok (.ifCond .ge 6, 3) := by decide +kernel
theorem dX6_drop_18 : decode cX6_drop 18 = .ok (.bipush (-11), 2) := by decide +kernel
theorem dX6_drop_20 : decode cX6_drop 20 = .ok (.ireturn, 1) := by decide +kernel
theorem dX6_drop_21 : decode cX6_drop 21 = .ok (.aload_n 0, 1) := by decide +kernel
theorem dX6_drop_22 : decode cX6_drop 22 = .ok (.getfield 7, 3) := by decide +kernel
theorem dX6_drop_25 : decode cX6_drop 25 = .ok (.iload_n 1, 1) := by decide +kernel
theorem dX6_drop_26 : decode cX6_drop 26 = .ok (.iconst (-1), 1) := by decide +kernel
theorem dX6_drop_27 : decode cX6_drop 27 = .ok (.iastore, 1) := by decide +kernel
theorem dX6_drop_28 : decode cX6_drop 28 = .ok (.aload_n 0, 1) := by decide +kernel
theorem dX6_drop_29 : decode cX6_drop 29 = .ok (.getfield 13, 3) := by decide +kernel
theorem dX6_drop_32 : decode cX6_drop 32 = .ok (.iload_n 1, 1) := by decide +kernel
theorem dX6_drop_33 : decode cX6_drop 33 = .ok (.iaload, 1) := by decide +kernel
theorem dX6_drop_34 : decode cX6_drop 34 = .ok (.ireturn, 1) := by decide +kernel
theorem dX6_item_0 : decode cX6_item 0 = .ok (.iload_n 1, 1) := by decide +kernel
theorem dX6_item_1 : decode cX6_item 1 = .ok (.invokestatic 162, 3) := by decide +kernel
theorem dX6_item_4 : decode cX6_item 4 = .ok (.ifCond .eq 12, 3) := by decide +kernel
theorem dX6_item_7 : decode cX6_item 7 = .ok (.iload_n 2, 1) := by decide +kernel
theorem dX6_item_8 : decode cX6_item 8 = .ok (.iconst 0, 1) := by decide +kernel
theorem dX6_item_9 : decode cX6_item 9 = .ok (.iconst 3, 1) := by decide +kernel
theorem dX6_item_10 : decode cX6_item 10 = .ok (.invokestatic 38, 3) := by decide +kernel
theorem dX6_item_13 : decode cX6_item 13 = .ok (.ifCond .ne 5, 3) := by decide +kernel
theorem dX6_item_16 : decode cX6_item 16 = .ok (.iconst (-1), 1) := by decide +kernel
theorem dX6_item_17 : decode cX6_item 17 = .ok (.ireturn, 1) := by decide +kernel
theorem dX6_item_18 : decode cX6_item 18 = .ok (.aload_n 0, 1) := by decide +kernel
theorem dX6_item_19 : decode cX6_item 19 = .ok (.iload_n 1, 1) := by decide +kernel
theorem dX6_item_20 : decode cX6_item 20 = .ok (.iload_n 2, 1) := by decide +kernel
theorem dX6_item_21 : decode cX6_item 21 = .ok (.iload_n 3, 1) := by decide +kernel
theorem dX6_item_22 : decode cX6_item 22 = .ok (.iconst 1, 1) := by decide +kernel
theorem dX6_item_23 : decode cX6_item 23 = .ok (.invokevirtual 165, 3) := by decide +kernel
theorem dX6_item_26 : decode cX6_item 26 = .ok (.istore 6, 2) := by decide +kernel
theorem dX6_item_28 : decode cX6_item 28 = .ok (.iload 6, 2) := by decide +kernel
theorem dX6_item_30 : decode cX6_item 30 = .ok (.ifCond .eq 6, 3) := by decide +kernel
theorem dX6_item_33 : decode cX6_item 33 = .ok (.iload 6, 2) := by decide +kernel
theorem dX6_item_35 : decode cX6_item 35 = .ok (.ireturn, 1) := by decide +kernel
theorem dX6_item_36 : decode cX6_item 36 = .ok (.aload_n 0, 1) := by decide +kernel
theorem dX6_item_37 : decode cX6_item 37 = .ok (.getfield 16, 3) := by decide +kernel
theorem dX6_item_40 : decode cX6_item 40 = .ok (.bipush 24, 2) := by decide +kernel
theorem dX6_item_42 : decode cX6_item 42 = .ok (.iload_n 1, 1) := by decide +kernel
theorem dX6_item_43 : decode cX6_item 43 = .ok (.imul, 1) := by decide +kernel
theorem dX6_item_44 : decode cX6_item 44 = .ok (.iload_n 3, 1) := by decide +kernel
theorem dX6_item_45 : decode cX6_item 45 = .ok (.iadd, 1) := by decide +kernel
theorem dX6_item_46 : decode cX6_item 46 = .ok (.iload_n 2, 1) := by decide +kernel
theorem dX6_item_47 : decode cX6_item 47 = .ok (.ifCond .ne 11, 3) := by decide +kernel
theorem dX6_item_50 : decode cX6_item 50 = .ok (.lload 4, 2) := by decide +kernel
theorem dX6_item_52 : decode cX6_item 52 = .ok (.l2i, 1) := by decide +kernel
theorem dX6_item_53 : decode cX6_item 53 = .ok (.i2b, 1) := by decide +kernel
theorem dX6_item_54 : decode cX6_item 54 = .ok (.i2l, 1) := by decide +kernel
theorem dX6_item_55 : decode cX6_item 55 = .ok (.goto 30, 3) := by decide +kernel
theorem dX6_item_58 : decode cX6_item 58 = .ok (.iload_n 2, 1) := by decide +kernel
theorem dX6_item_59 : decode cX6_item 59 = .ok (.iconst 1, 1) := by decide +kernel
theorem dX6_item_60 : decode cX6_item 60 = .ok (.if_icmp .ne 11, 3) := by decide +kernel
theorem dX6_item_63 : decode cX6_item 63 = .ok (.lload 4, 2) := by decide +kernel
theorem dX6_item_65 : decode cX6_item 65 = .ok (.l2i, 1) := by decide +kernel
theorem dX6_item_66 : decode cX6_item 66 = .ok (.i2s, 1) := by decide +kernel
theorem dX6_item_67 : decode cX6_item 67 = .ok (.i2l, 1) := by decide +kernel
theorem dX6_item_68 : decode cX6_item 68 = .ok (.goto 17, 3) := by decide +kernel
theorem dX6_item_71 : decode cX6_item 71 = .ok (.iload_n 2, 1) := by decide +kernel
theorem dX6_item_72 : decode cX6_item 72 = .ok (.iconst 2, 1) := by decide +kernel
theorem dX6_item_73 : decode cX6_item 73 = .ok (.if_icmp .ne 10, 3) := by decide +kernel
theorem dX6_item_76 : decode cX6_item 76 = .ok (.lload 4, 2) := by decide +kernel
theorem dX6_item_78 : decode cX6_item 78 = .ok (.l2i, 1) := by decide +kernel
theorem dX6_item_79 : decode cX6_item 79 = .ok (.i2l, 1) := by decide +kernel
theorem dX6_item_80 : decode cX6_item 80 = .ok (.goto 5, 3) := by decide +kernel
theorem dX6_item_83 : decode cX6_item 83 = .ok (.lload 4, 2) := by decide +kernel
theorem dX6_item_85 : decode cX6_item 85 = .ok (.lastore, 1) := by decide +kernel
theorem dX6_item_86 : decode cX6_item 86 = .ok (.iconst 1, 1) := by decide +kernel
theorem dX6_item_87 : decode cX6_item 87 = .ok (.ireturn, 1) := by decide +kernel
theorem dX6_copy_0 : decode cX6_copy 0 = .ok (.iload_n 1, 1) := by decide +kernel
theorem dX6_copy_1 : decode cX6_copy 1 = .ok (.invokestatic 162, 3) := by decide +kernel
theorem dX6_copy_4 : decode cX6_copy 4 = .ok (.ifCond .eq 10, 3) := by decide +kernel
theorem dX6_copy_7 : decode cX6_copy 7 = .ok (.iload_n 3, 1) := by decide +kernel
theorem dX6_copy_8 : decode cX6_copy 8 = .ok (.invokestatic 162, 3) := by decide +kernel
theorem dX6_copy_11 : decode cX6_copy 11 = .ok (.ifCond .ne 5, 3) := by decide +kernel
theorem dX6_copy_14 : decode cX6_copy 14 = .ok (.iconst (-1), 1) := by decide +kernel
theorem dX6_copy_15 : decode cX6_copy 15 = .ok (.ireturn, 1) := by decide +kernel
theorem dX6_copy_16 : decode cX6_copy 16 = .ok (.aload_n 0, 1) := by decide +kernel
theorem dX6_copy_17 : decode cX6_copy 17 = .ok (.getfield 7, 3) := by decide +kernel
theorem dX6_copy_20 : decode cX6_copy 20 = .ok (.iload_n 1, 1) := by decide +kernel
theorem dX6_copy_21 : decode cX6_copy 21 = .ok (.iaload, 1) := by decide +kernel
theorem dX6_copy_22 : decode cX6_copy 22 = .ok (.ifCond .lt 12, 3) := by decide +kernel
theorem dX6_copy_25 : decode cX6_copy 25 = .ok (.aload_n 0, 1) := by decide +kernel
theorem dX6_copy_26 : decode cX6_copy 26 = .ok (.getfield 7, 3) := by decide +kernel
theorem dX6_copy_29 : decode cX6_copy 29 = .ok (.iload_n 3, 1) := by decide +kernel
theorem dX6_copy_30 : decode cX6_copy 30 = .ok (.iaload, 1) := by decide +kernel
theorem dX6_copy_31 : decode cX6_copy 31 = .ok (.ifCond .ge 6, 3) := by decide +kernel
theorem dX6_copy_34 : decode cX6_copy 34 = .ok (.bipush (-11), 2) := by decide +kernel
theorem dX6_copy_36 : decode cX6_copy 36 = .ok (.ireturn, 1) := by decide +kernel
theorem dX6_copy_37 : decode cX6_copy 37 = .ok (.aload_n 0, 1) := by decide +kernel
theorem dX6_copy_38 : decode cX6_copy 38 = .ok (.getfield 7, 3) := by decide +kernel
theorem dX6_copy_41 : decode cX6_copy 41 = .ok (.iload_n 1, 1) := by decide +kernel
theorem dX6_copy_42 : decode cX6_copy 42 = .ok (.iaload, 1) := by decide +kernel
theorem dX6_copy_43 : decode cX6_copy 43 = .ok (.aload_n 0, 1) := by decide +kernel
theorem dX6_copy_44 : decode cX6_copy 44 = .ok (.getfield 7, 3) := by decide +kernel
theorem dX6_copy_47 : decode cX6_copy 47 = .ok (.iload_n 3, 1) := by decide +kernel
theorem dX6_copy_48 : decode cX6_copy 48 = .ok (.iaload, 1) := by decide +kernel
theorem dX6_copy_49 : decode cX6_copy 49 = .ok (.if_icmp .eq 6, 3) := by decide +kernel
theorem dX6_copy_52 : decode cX6_copy 52 = .ok (.bipush (-12), 2) := by decide +kernel
theorem dX6_copy_54 : decode cX6_copy 54 = .ok (.ireturn, 1) := by decide +kernel
theorem dX6_copy_55 : decode cX6_copy 55 = .ok (.iload_n 2, 1) := by decide +kernel
theorem dX6_copy_56 : decode cX6_copy 56 = .ok (.iload 5, 2) := by decide +kernel
theorem dX6_copy_58 : decode cX6_copy 58 = .ok (.aload_n 0, 1) := by decide +kernel
theorem dX6_copy_59 : decode cX6_copy 59 = .ok (.getfield 13, 3) := by decide +kernel
theorem dX6_copy_62 : decode cX6_copy 62 = .ok (.iload_n 1, 1) := by decide +kernel
theorem dX6_copy_63 : decode cX6_copy 63 = .ok (.iaload, 1) := by decide +kernel
theorem dX6_copy_64 : decode cX6_copy 64 = .ok (.invokestatic 159, 3) := by decide +kernel
theorem dX6_copy_67 : decode cX6_copy 67 = .ok (.ifCond .eq 19, 3) := by decide +kernel
theorem dX6_copy_70 : decode cX6_copy 70 = .ok (.iload 4, 2) := by decide +kernel
theorem dX6_copy_72 : decode cX6_copy 72 = .ok (.iload 5, 2) := by decide +kernel
theorem dX6_copy_74 : decode cX6_copy 74 = .ok (.aload_n 0, 1) := by decide +kernel
theorem dX6_copy_75 : decode cX6_copy 75 = .ok (.getfield 13, 3) := by decide +kernel
theorem dX6_copy_78 : decode cX6_copy 78 = .ok (.iload_n 3, 1) := by decide +kernel
theorem dX6_copy_79 : decode cX6_copy 79 = .ok (.iaload, 1) := by decide +kernel
theorem dX6_copy_80 : decode cX6_copy 80 = .ok (.invokestatic 159, 3) := by decide +kernel
theorem dX6_copy_83 : decode cX6_copy 83 = .ok (.ifCond .ne 6, 3) := by decide +kernel
theorem dX6_copy_86 : decode cX6_copy 86 = .ok (.bipush (-13), 2) := by decide +kernel
theorem dX6_copy_88 : decode cX6_copy 88 = .ok (.ireturn, 1) := by decide +kernel
theorem dX6_copy_89 : decode cX6_copy 89 = .ok (.iload_n 1, 1) := by decide +kernel
theorem dX6_copy_90 : decode cX6_copy 90 = .ok (.iload_n 3, 1) := by decide +kernel
theorem dX6_copy_91 : decode cX6_copy 91 = .ok (.if_icmp .ne 13, 3) := by decide +kernel
theorem dX6_copy_94 : decode cX6_copy 94 = .ok (.iload 4, 2) := by decide +kernel
theorem dX6_copy_96 : decode cX6_copy 96 = .ok (.iload_n 2, 1) := by decide +kernel
theorem dX6_copy_97 : decode cX6_copy 97 = .ok (.if_icmp .le 7, 3) := by decide +kernel
theorem dX6_copy_100 : decode cX6_copy 100 = .ok (.iconst 1, 1) := by decide +kernel
theorem dX6_copy_101 : decode cX6_copy 101 = .ok (.goto 4, 3) := by decide +kernel
theorem dX6_copy_104 : decode cX6_copy 104 = .ok (.iconst 0, 1) := by decide +kernel
theorem dX6_copy_105 : decode cX6_copy 105 = .ok (.istore 6, 2) := by decide +kernel
theorem dX6_copy_107 : decode cX6_copy 107 = .ok (.iconst 0, 1) := by decide +kernel
theorem dX6_copy_108 : decode cX6_copy 108 = .ok (.istore 7, 2) := by decide +kernel
theorem dX6_copy_110 : decode cX6_copy 110 = .ok (.iload 7, 2) := by decide +kernel
theorem dX6_copy_112 : decode cX6_copy 112 = .ok (.iload 5, 2) := by decide +kernel
theorem dX6_copy_114 : decode cX6_copy 114 = .ok (.if_icmp .ge 57, 3) := by decide +kernel
theorem dX6_copy_117 : decode cX6_copy 117 = .ok (.iload 6, 2) := by decide +kernel
theorem dX6_copy_119 : decode cX6_copy 119 = .ok (.ifCond .eq 13, 3) := by decide +kernel
theorem dX6_copy_122 : decode cX6_copy 122 = .ok (.iload 5, 2) := by decide +kernel
theorem dX6_copy_124 : decode cX6_copy 124 = .ok (.iconst 1, 1) := by decide +kernel
theorem dX6_copy_125 : decode cX6_copy 125 = .ok (.isub, 1) := by decide +kernel
theorem dX6_copy_126 : decode cX6_copy 126 = .ok (.iload 7, 2) := by decide +kernel
theorem dX6_copy_128 : decode cX6_copy 128 = .ok (.isub, 1) := by decide +kernel
theorem dX6_copy_129 : decode cX6_copy 129 = .ok (.goto 5, 3) := by decide +kernel
theorem dX6_copy_132 : decode cX6_copy 132 = .ok (.iload 7, 2) := by decide +kernel
theorem dX6_copy_134 : decode cX6_copy 134 = .ok (.istore 8, 2) := by decide +kernel
theorem dX6_copy_136 : decode cX6_copy 136 = .ok (.aload_n 0, 1) := by decide +kernel
theorem dX6_copy_137 : decode cX6_copy 137 = .ok (.getfield 16, 3) := by decide +kernel
theorem dX6_copy_140 : decode cX6_copy 140 = .ok (.bipush 24, 2) := by decide +kernel
theorem dX6_copy_142 : decode cX6_copy 142 = .ok (.iload_n 3, 1) := by decide +kernel
theorem dX6_copy_143 : decode cX6_copy 143 = .ok (.imul, 1) := by decide +kernel
theorem dX6_copy_144 : decode cX6_copy 144 = .ok (.iload 4, 2) := by decide +kernel
theorem dX6_copy_146 : decode cX6_copy 146 = .ok (.iadd, 1) := by decide +kernel
theorem dX6_copy_147 : decode cX6_copy 147 = .ok (.iload 8, 2) := by decide +kernel
theorem dX6_copy_149 : decode cX6_copy 149 = .ok (.iadd, 1) := by decide +kernel
theorem dX6_copy_150 : decode cX6_copy 150 = .ok (.aload_n 0, 1) := by decide +kernel
theorem dX6_copy_151 : decode cX6_copy 151 = .ok (.getfield 16, 3) := by decide +kernel
theorem dX6_copy_154 : decode cX6_copy 154 = .ok (.bipush 24, 2) := by decide +kernel
theorem dX6_copy_156 : decode cX6_copy 156 = .ok (.iload_n 1, 1) := by decide +kernel
theorem dX6_copy_157 : decode cX6_copy 157 = .ok (.imul, 1) := by decide +kernel
theorem dX6_copy_158 : decode cX6_copy 158 = .ok (.iload_n 2, 1) := by decide +kernel
theorem dX6_copy_159 : decode cX6_copy 159 = .ok (.iadd, 1) := by decide +kernel
theorem dX6_copy_160 : decode cX6_copy 160 = .ok (.iload 8, 2) := by decide +kernel
theorem dX6_copy_162 : decode cX6_copy 162 = .ok (.iadd, 1) := by decide +kernel
theorem dX6_copy_163 : decode cX6_copy 163 = .ok (.laload, 1) := by decide +kernel
theorem dX6_copy_164 : decode cX6_copy 164 = .ok (.lastore, 1) := by decide +kernel
theorem dX6_copy_165 : decode cX6_copy 165 = .ok (.iinc 7 1, 3) := by decide +kernel
theorem dX6_copy_168 : decode cX6_copy 168 = .ok (.goto (-58), 3) := by decide +kernel
theorem dX6_copy_171 : decode cX6_copy 171 = .ok (.iload 5, 2) := by decide +kernel
theorem dX6_copy_173 : decode cX6_copy 173 = .ok (.ireturn, 1) := by decide +kernel
theorem dJ6_bitCount_0f7a4_0 : decode cJ6_bitCount_0f7a4 0 = .ok (.iload_n 0, 1) := by decide +kernel
theorem dJ6_bitCount_0f7a4_1 : decode cJ6_bitCount_0f7a4 1 = .ok (.iload_n 0, 1) := by decide +kernel
theorem dJ6_bitCount_0f7a4_2 : decode cJ6_bitCount_0f7a4 2 = .ok (.iconst 1, 1) := by decide +kernel
theorem dJ6_bitCount_0f7a4_3 : decode cJ6_bitCount_0f7a4 3 = .ok (.iushr, 1) := by decide +kernel
theorem dJ6_bitCount_0f7a4_4 : decode cJ6_bitCount_0f7a4 4 = .ok (.ldc_w 265, 3) := by decide +kernel
theorem dJ6_bitCount_0f7a4_7 : decode cJ6_bitCount_0f7a4 7 = .ok (.iand, 1) := by decide +kernel
theorem dJ6_bitCount_0f7a4_8 : decode cJ6_bitCount_0f7a4 8 = .ok (.isub, 1) := by decide +kernel
theorem dJ6_bitCount_0f7a4_9 : decode cJ6_bitCount_0f7a4 9 = .ok (.istore_n 0, 1) := by decide +kernel
theorem dJ6_bitCount_0f7a4_10 : decode cJ6_bitCount_0f7a4 10 = .ok (.iload_n 0, 1) := by decide +kernel
theorem dJ6_bitCount_0f7a4_11 : decode cJ6_bitCount_0f7a4 11 = .ok (.ldc_w 266, 3) := by decide +kernel
theorem dJ6_bitCount_0f7a4_14 : decode cJ6_bitCount_0f7a4 14 = .ok (.iand, 1) := by decide +kernel
theorem dJ6_bitCount_0f7a4_15 : decode cJ6_bitCount_0f7a4 15 = .ok (.iload_n 0, 1) := by decide +kernel
theorem dJ6_bitCount_0f7a4_16 : decode cJ6_bitCount_0f7a4 16 = .ok (.iconst 2, 1) := by decide +kernel
theorem dJ6_bitCount_0f7a4_17 : decode cJ6_bitCount_0f7a4 17 = .ok (.iushr, 1) := by decide +kernel
theorem dJ6_bitCount_0f7a4_18 : decode cJ6_bitCount_0f7a4 18 = .ok (.ldc_w 266, 3) := by decide +kernel
theorem dJ6_bitCount_0f7a4_21 : decode cJ6_bitCount_0f7a4 21 = .ok (.iand, 1) := by decide +kernel
theorem dJ6_bitCount_0f7a4_22 : decode cJ6_bitCount_0f7a4 22 = .ok (.iadd, 1) := by decide +kernel
theorem dJ6_bitCount_0f7a4_23 : decode cJ6_bitCount_0f7a4 23 = .ok (.istore_n 0, 1) := by decide +kernel
theorem dJ6_bitCount_0f7a4_24 : decode cJ6_bitCount_0f7a4 24 = .ok (.iload_n 0, 1) := by decide +kernel
theorem dJ6_bitCount_0f7a4_25 : decode cJ6_bitCount_0f7a4 25 = .ok (.iload_n 0, 1) := by decide +kernel
theorem dJ6_bitCount_0f7a4_26 : decode cJ6_bitCount_0f7a4 26 = .ok (.iconst 4, 1) := by decide +kernel
theorem dJ6_bitCount_0f7a4_27 : decode cJ6_bitCount_0f7a4 27 = .ok (.iushr, 1) := by decide +kernel
theorem dJ6_bitCount_0f7a4_28 : decode cJ6_bitCount_0f7a4 28 = .ok (.iadd, 1) := by decide +kernel
theorem dJ6_bitCount_0f7a4_29 : decode cJ6_bitCount_0f7a4 29 = .ok (.ldc_w 267, 3) := by decide +kernel
theorem dJ6_bitCount_0f7a4_32 : decode cJ6_bitCount_0f7a4 32 = .ok (.iand, 1) := by decide +kernel
theorem dJ6_bitCount_0f7a4_33 : decode cJ6_bitCount_0f7a4 33 = .ok (.istore_n 0, 1) := by decide +kernel
theorem dJ6_bitCount_0f7a4_34 : decode cJ6_bitCount_0f7a4 34 = .ok (.iload_n 0, 1) := by decide +kernel
theorem dJ6_bitCount_0f7a4_35 : decode cJ6_bitCount_0f7a4 35 = .ok (.iload_n 0, 1) := by decide +kernel
theorem dJ6_bitCount_0f7a4_36 : decode cJ6_bitCount_0f7a4 36 = .ok (.bipush 8, 2) := by decide +kernel
theorem dJ6_bitCount_0f7a4_38 : decode cJ6_bitCount_0f7a4 38 = .ok (.iushr, 1) := by decide +kernel
theorem dJ6_bitCount_0f7a4_39 : decode cJ6_bitCount_0f7a4 39 = .ok (.iadd, 1) := by decide +kernel
theorem dJ6_bitCount_0f7a4_40 : decode cJ6_bitCount_0f7a4 40 = .ok (.istore_n 0, 1) := by decide +kernel
theorem dJ6_bitCount_0f7a4_41 : decode cJ6_bitCount_0f7a4 41 = .ok (.iload_n 0, 1) := by decide +kernel
theorem dJ6_bitCount_0f7a4_42 : decode cJ6_bitCount_0f7a4 42 = .ok (.iload_n 0, 1) := by decide +kernel
theorem dJ6_bitCount_0f7a4_43 : decode cJ6_bitCount_0f7a4 43 = .ok (.bipush 16, 2) := by decide +kernel
theorem dJ6_bitCount_0f7a4_45 : decode cJ6_bitCount_0f7a4 45 = .ok (.iushr, 1) := by decide +kernel
theorem dJ6_bitCount_0f7a4_46 : decode cJ6_bitCount_0f7a4 46 = .ok (.iadd, 1) := by decide +kernel
theorem dJ6_bitCount_0f7a4_47 : decode cJ6_bitCount_0f7a4 47 = .ok (.istore_n 0, 1) := by decide +kernel
theorem dJ6_bitCount_0f7a4_48 : decode cJ6_bitCount_0f7a4 48 = .ok (.iload_n 0, 1) := by decide +kernel
theorem dJ6_bitCount_0f7a4_49 : decode cJ6_bitCount_0f7a4 49 = .ok (.bipush 63, 2) := by decide +kernel
theorem dJ6_bitCount_0f7a4_51 : decode cJ6_bitCount_0f7a4 51 = .ok (.iand, 1) := by decide +kernel
theorem dJ6_bitCount_0f7a4_52 : decode cJ6_bitCount_0f7a4 52 = .ok (.ireturn, 1) := by decide +kernel
theorem dJ0_length_8abf5_0 : decode cJ0_length_8abf5 0 = .ok (.aload_n 0, 1) := by decide +kernel
theorem dJ0_length_8abf5_1 : decode cJ0_length_8abf5 1 = .ok (.getfield 9, 3) := by decide +kernel
theorem dJ0_length_8abf5_4 : decode cJ0_length_8abf5 4 = .ok (.arraylength, 1) := by decide +kernel
theorem dJ0_length_8abf5_5 : decode cJ0_length_8abf5 5 = .ok (.aload_n 0, 1) := by decide +kernel
theorem dJ0_length_8abf5_6 : decode cJ0_length_8abf5 6 = .ok (.invokevirtual 335, 3) := by decide +kernel
theorem dJ0_length_8abf5_9 : decode cJ0_length_8abf5 9 = .ok (.ishr, 1) := by decide +kernel
theorem dJ0_length_8abf5_10 : decode cJ0_length_8abf5 10 = .ok (.ireturn, 1) := by decide +kernel
theorem dJ0_indexOf_0f7a4_0 : decode cJ0_indexOf_0f7a4 0 = .ok (.aload_n 0, 1) := by decide +kernel
theorem dJ0_indexOf_0f7a4_1 : decode cJ0_indexOf_0f7a4 1 = .ok (.iload_n 1, 1) := by decide +kernel
theorem dJ0_indexOf_0f7a4_2 : decode cJ0_indexOf_0f7a4 2 = .ok (.iconst 0, 1) := by decide +kernel
theorem dJ0_indexOf_0f7a4_3 : decode cJ0_indexOf_0f7a4 3 = .ok (.invokevirtual 633, 3) := by decide +kernel
theorem dJ0_indexOf_0f7a4_6 : decode cJ0_indexOf_0f7a4 6 = .ok (.ireturn, 1) := by decide +kernel
theorem dJ0_indexOf_7cf53_0 : decode cJ0_indexOf_7cf53 0 = .ok (.aload_n 0, 1) := by decide +kernel
theorem dJ0_indexOf_7cf53_1 : decode cJ0_indexOf_7cf53 1 = .ok (.invokevirtual 492, 3) := by decide +kernel
theorem dJ0_indexOf_7cf53_4 : decode cJ0_indexOf_7cf53 4 = .ok (.ifCond .eq 19, 3) := by decide +kernel
theorem dJ0_indexOf_7cf53_7 : decode cJ0_indexOf_7cf53 7 = .ok (.aload_n 0, 1) := by decide +kernel
theorem dJ0_indexOf_7cf53_8 : decode cJ0_indexOf_7cf53 8 = .ok (.getfield 9, 3) := by decide +kernel
theorem dJ0_indexOf_7cf53_11 : decode cJ0_indexOf_7cf53 11 = .ok (.iload_n 1, 1) := by decide +kernel
theorem dJ0_indexOf_7cf53_12 : decode cJ0_indexOf_7cf53 12 = .ok (.iload_n 2, 1) := by decide +kernel
theorem dJ0_indexOf_7cf53_13 : decode cJ0_indexOf_7cf53 13 = .ok (.aload_n 0, 1) := by decide +kernel
theorem dJ0_indexOf_7cf53_14 : decode cJ0_indexOf_7cf53 14 = .ok (.invokevirtual 505, 3) := by decide +kernel
theorem dJ0_indexOf_7cf53_17 : decode cJ0_indexOf_7cf53 17 = .ok (.invokestatic 637, 3) := by decide +kernel
theorem dJ0_indexOf_7cf53_20 : decode cJ0_indexOf_7cf53 20 = .ok (.goto 16, 3) := by decide +kernel
theorem dJ0_indexOf_7cf53_23 : decode cJ0_indexOf_7cf53 23 = .ok (.aload_n 0, 1) := by decide +kernel
theorem dJ0_indexOf_7cf53_24 : decode cJ0_indexOf_7cf53 24 = .ok (.getfield 9, 3) := by decide +kernel
theorem dJ0_indexOf_7cf53_27 : decode cJ0_indexOf_7cf53 27 = .ok (.iload_n 1, 1) := by decide +kernel
theorem dJ0_indexOf_7cf53_28 : decode cJ0_indexOf_7cf53 28 = .ok (.iload_n 2, 1) := by decide +kernel
theorem dJ0_indexOf_7cf53_29 : decode cJ0_indexOf_7cf53 29 = .ok (.aload_n 0, 1) := by decide +kernel
theorem dJ0_indexOf_7cf53_30 : decode cJ0_indexOf_7cf53 30 = .ok (.invokevirtual 505, 3) := by decide +kernel
theorem dJ0_indexOf_7cf53_33 : decode cJ0_indexOf_7cf53 33 = .ok (.invokestatic 640, 3) := by decide +kernel
theorem dJ0_indexOf_7cf53_36 : decode cJ0_indexOf_7cf53 36 = .ok (.ireturn, 1) := by decide +kernel
theorem dJ0_coder_7d493_0 : decode cJ0_coder_7d493 0 = .ok (.getstatic 38, 3) := by decide +kernel
theorem dJ0_coder_7d493_3 : decode cJ0_coder_7d493 3 = .ok (.ifCond .eq 10, 3) := by decide +kernel
theorem dJ0_coder_7d493_6 : decode cJ0_coder_7d493 6 = .ok (.aload_n 0, 1) := by decide +kernel
theorem dJ0_coder_7d493_7 : decode cJ0_coder_7d493 7 = .ok (.getfield 15, 3) := by decide +kernel
theorem dJ0_coder_7d493_10 : decode cJ0_coder_7d493 10 = .ok (.goto 4, 3) := by decide +kernel
theorem dJ0_coder_7d493_13 : decode cJ0_coder_7d493 13 = .ok (.iconst 1, 1) := by decide +kernel
theorem dJ0_coder_7d493_14 : decode cJ0_coder_7d493 14 = .ok (.ireturn, 1) := by decide +kernel
theorem dJ0_isLatin1_aae02_0 : decode cJ0_isLatin1_aae02 0 = .ok (.getstatic 38, 3) := by decide +kernel
theorem dJ0_isLatin1_aae02_3 : decode cJ0_isLatin1_aae02 3 = .ok (.ifCond .eq 14, 3) := by decide +kernel
theorem dJ0_isLatin1_aae02_6 : decode cJ0_isLatin1_aae02 6 = .ok (.aload_n 0, 1) := by decide +kernel
theorem dJ0_isLatin1_aae02_7 : decode cJ0_isLatin1_aae02 7 = .ok (.getfield 15, 3) := by decide +kernel
theorem dJ0_isLatin1_aae02_10 : decode cJ0_isLatin1_aae02 10 = .ok (.ifCond .ne 7, 3) := by decide +kernel
theorem dJ0_isLatin1_aae02_13 : decode cJ0_isLatin1_aae02 13 = .ok (.iconst 1, 1) := by decide +kernel
theorem dJ0_isLatin1_aae02_14 : decode cJ0_isLatin1_aae02 14 = .ok (.goto 4, 3) := by decide +kernel
theorem dJ0_isLatin1_aae02_17 : decode cJ0_isLatin1_aae02 17 = .ok (.iconst 0, 1) := by decide +kernel
theorem dJ0_isLatin1_aae02_18 : decode cJ0_isLatin1_aae02 18 = .ok (.ireturn, 1) := by decide +kernel
theorem dJ1_canEncode_9a6ad_0 : decode cJ1_canEncode_9a6ad 0 = .ok (.iload_n 0, 1) := by decide +kernel
theorem dJ1_canEncode_9a6ad_1 : decode cJ1_canEncode_9a6ad 1 = .ok (.ifCond .lt 14, 3) := by decide +kernel
theorem dJ1_canEncode_9a6ad_4 : decode cJ1_canEncode_9a6ad 4 = .ok (.iload_n 0, 1) := by decide +kernel
theorem dJ1_canEncode_9a6ad_5 : decode cJ1_canEncode_9a6ad 5 = .ok (.sipush 255, 3) := by decide +kernel
theorem dJ1_canEncode_9a6ad_8 : decode cJ1_canEncode_9a6ad 8 = .ok (.if_icmp .gt 7, 3) := by decide +kernel
theorem dJ1_canEncode_9a6ad_11 : decode cJ1_canEncode_9a6ad 11 = .ok (.iconst 1, 1) := by decide +kernel
theorem dJ1_canEncode_9a6ad_12 : decode cJ1_canEncode_9a6ad 12 = .ok (.goto 4, 3) := by decide +kernel
theorem dJ1_canEncode_9a6ad_15 : decode cJ1_canEncode_9a6ad 15 = .ok (.iconst 0, 1) := by decide +kernel
theorem dJ1_canEncode_9a6ad_16 : decode cJ1_canEncode_9a6ad 16 = .ok (.ireturn, 1) := by decide +kernel
theorem dJ1_indexOf_4cfef_0 : decode cJ1_indexOf_4cfef 0 = .ok (.iload_n 1, 1) := by decide +kernel
theorem dJ1_indexOf_4cfef_1 : decode cJ1_indexOf_4cfef 1 = .ok (.invokestatic 88, 3) := by decide +kernel
theorem dJ1_indexOf_4cfef_4 : decode cJ1_indexOf_4cfef 4 = .ok (.ifCond .ne 5, 3) := by decide +kernel
theorem dJ1_indexOf_4cfef_7 : decode cJ1_indexOf_4cfef 7 = .ok (.iconst (-1), 1) := by decide +kernel
theorem dJ1_indexOf_4cfef_8 : decode cJ1_indexOf_4cfef 8 = .ok (.ireturn, 1) := by decide +kernel
theorem dJ1_indexOf_4cfef_9 : decode cJ1_indexOf_4cfef 9 = .ok (.iload_n 2, 1) := by decide +kernel
theorem dJ1_indexOf_4cfef_10 : decode cJ1_indexOf_4cfef 10 = .ok (.iconst 0, 1) := by decide +kernel
theorem dJ1_indexOf_4cfef_11 : decode cJ1_indexOf_4cfef 11 = .ok (.invokestatic 92, 3) := by decide +kernel
theorem dJ1_indexOf_4cfef_14 : decode cJ1_indexOf_4cfef 14 = .ok (.istore_n 2, 1) := by decide +kernel
theorem dJ1_indexOf_4cfef_15 : decode cJ1_indexOf_4cfef 15 = .ok (.iload_n 3, 1) := by decide +kernel
theorem dJ1_indexOf_4cfef_16 : decode cJ1_indexOf_4cfef 16 = .ok (.aload_n 0, 1) := by decide +kernel
theorem dJ1_indexOf_4cfef_17 : decode cJ1_indexOf_4cfef 17 = .ok (.arraylength, 1) := by decide +kernel
theorem dJ1_indexOf_4cfef_18 : decode cJ1_indexOf_4cfef 18 = .ok (.invokestatic 38, 3) := by decide +kernel
theorem dJ1_indexOf_4cfef_21 : decode cJ1_indexOf_4cfef 21 = .ok (.istore_n 3, 1) := by decide +kernel
theorem dJ1_indexOf_4cfef_22 : decode cJ1_indexOf_4cfef 22 = .ok (.iload_n 2, 1) := by decide +kernel
theorem dJ1_indexOf_4cfef_23 : decode cJ1_indexOf_4cfef 23 = .ok (.iload_n 3, 1) := by decide +kernel
theorem dJ1_indexOf_4cfef_24 : decode cJ1_indexOf_4cfef 24 = .ok (.if_icmp .lt 5, 3) := by decide +kernel
theorem dJ1_indexOf_4cfef_27 : decode cJ1_indexOf_4cfef 27 = .ok (.iconst (-1), 1) := by decide +kernel
theorem dJ1_indexOf_4cfef_28 : decode cJ1_indexOf_4cfef 28 = .ok (.ireturn, 1) := by decide +kernel
theorem dJ1_indexOf_4cfef_29 : decode cJ1_indexOf_4cfef 29 = .ok (.aload_n 0, 1) := by decide +kernel
theorem dJ1_indexOf_4cfef_30 : decode cJ1_indexOf_4cfef 30 = .ok (.iload_n 1, 1) := by decide +kernel
theorem dJ1_indexOf_4cfef_31 : decode cJ1_indexOf_4cfef 31 = .ok (.iload_n 2, 1) := by decide +kernel
theorem dJ1_indexOf_4cfef_32 : decode cJ1_indexOf_4cfef 32 = .ok (.iload_n 3, 1) := by decide +kernel
theorem dJ1_indexOf_4cfef_33 : decode cJ1_indexOf_4cfef 33 = .ok (.invokestatic 95, 3) := by decide +kernel
theorem dJ1_indexOf_4cfef_36 : decode cJ1_indexOf_4cfef 36 = .ok (.ireturn, 1) := by decide +kernel
theorem dJ1_indexOfChar_4cfef_0 : decode cJ1_indexOfChar_4cfef 0 = .ok (.iload_n 1, 1) := by decide +kernel
theorem dJ1_indexOfChar_4cfef_1 : decode cJ1_indexOfChar_4cfef 1 = .ok (.i2b, 1) := by decide +kernel
theorem dJ1_indexOfChar_4cfef_2 : decode cJ1_indexOfChar_4cfef 2 = .ok (.istore 4, 2) := by decide +kernel
theorem dJ1_indexOfChar_4cfef_4 : decode cJ1_indexOfChar_4cfef 4 = .ok (.iload_n 2, 1) := by decide +kernel
theorem dJ1_indexOfChar_4cfef_5 : decode cJ1_indexOfChar_4cfef 5 = .ok (.istore 5, 2) := by decide +kernel
theorem dJ1_indexOfChar_4cfef_7 : decode cJ1_indexOfChar_4cfef 7 = .ok (.iload 5, 2) := by decide +kernel
theorem dJ1_indexOfChar_4cfef_9 : decode cJ1_indexOfChar_4cfef 9 = .ok (.iload_n 3, 1) := by decide +kernel
theorem dJ1_indexOfChar_4cfef_10 : decode cJ1_indexOfChar_4cfef 10 = .ok (.if_icmp .ge 21, 3) := by decide +kernel
theorem dJ1_indexOfChar_4cfef_13 : decode cJ1_indexOfChar_4cfef 13 = .ok (.aload_n 0, 1) := by decide +kernel
theorem dJ1_indexOfChar_4cfef_14 : decode cJ1_indexOfChar_4cfef 14 = .ok (.iload 5, 2) := by decide +kernel
theorem dJ1_indexOfChar_4cfef_16 : decode cJ1_indexOfChar_4cfef 16 = .ok (.baload, 1) := by decide +kernel
theorem dJ1_indexOfChar_4cfef_17 : decode cJ1_indexOfChar_4cfef 17 = .ok (.iload 4, 2) := by decide +kernel
theorem dJ1_indexOfChar_4cfef_19 : decode cJ1_indexOfChar_4cfef 19 = .ok (.if_icmp .ne 6, 3) := by decide +kernel
theorem dJ1_indexOfChar_4cfef_22 : decode cJ1_indexOfChar_4cfef 22 = .ok (.iload 5, 2) := by decide +kernel
theorem dJ1_indexOfChar_4cfef_24 : decode cJ1_indexOfChar_4cfef 24 = .ok (.ireturn, 1) := by decide +kernel
theorem dJ1_indexOfChar_4cfef_25 : decode cJ1_indexOfChar_4cfef 25 = .ok (.iinc 5 1, 3) := by decide +kernel
theorem dJ1_indexOfChar_4cfef_28 : decode cJ1_indexOfChar_4cfef 28 = .ok (.goto (-21), 3) := by decide +kernel
theorem dJ1_indexOfChar_4cfef_31 : decode cJ1_indexOfChar_4cfef 31 = .ok (.iconst (-1), 1) := by decide +kernel
theorem dJ1_indexOfChar_4cfef_32 : decode cJ1_indexOfChar_4cfef 32 = .ok (.ireturn, 1) := by decide +kernel
end
section
/-! ===== THE PURE JUDGEMENT: a walk over a partial map of cells, the machine behind it ===== -/
abbrev xE : Type := (va_G × (Nat → ClassId)) × (Nat → Nat)
abbrev xHp : Type := Nat → Option va_E
abbrev xM : Type := MethodName × ByteArray × Nat × Option FieldType × Nat × Nat × Nat
abbrev xY (M : xM) : MethodName := M.1
abbrev xC (M : xM) : ByteArray := M.2.1
abbrev xL (M : xM) : Nat := M.2.2.1
abbrev xR (M : xM) : Option FieldType := M.2.2.2.1
abbrev xd (M : xM) : Nat := M.2.2.2.2.1
abbrev xmc (M : xM) : Nat := M.2.2.2.2.2.1
abbrev xms (M : xM) : Nat := M.2.2.2.2.2.2
abbrev xRm (M : xM) : Room := { frames := xd M, cells := xmc M, slots := xms M, locals := 39 * xd M }
def xTys (E : xE) : List (ClassId × FieldType) := [(E.1.2 0, .int), (E.1.2 1, .long), (E.1.2 2, .char), (E.1.2 3, .object "RobbedOnce$Town"), (E.1.2 4, .object "RobbedOnce$Sheet")]
def xA (E : xE) : Nat → Prop := fun q => E.2 0 ≤ q
def GW : List Cond := lw_tbl.filter goodWord
def isNest : Cond → Bool
  | .fieldLinkNest _ _ _ _ _ _ => true
  | .methodLinkNest _ _ _ _ => true
  | _ => false
def NW : List Cond := lw_tbl.filter isNest
theorem gw_t {w : Cond} (i : Nat) (h : tables_1[i]? = some w) (hg : goodWord w = true) : w ∈ GW := List.mem_filter.mpr ⟨List.mem_append_right _ (List.mem_of_getElem? h), hg⟩
theorem gw_s {w : Cond} (i : Nat) (h : (k2_sels lw_privs)[i]? = some w) (hg : goodWord w = true) : w ∈ GW := List.mem_filter.mpr ⟨List.mem_append_left _ (List.mem_of_getElem? h), hg⟩
theorem nw_t {w : Cond} (i : Nat) (h : tables_1[i]? = some w) (hg : isNest w = true) : w ∈ NW := List.mem_filter.mpr ⟨List.mem_append_right _ (List.mem_of_getElem? h), hg⟩
theorem gw_good {w : Cond} (h : w ∈ GW) : goodWord w = true := (List.mem_filter.mp h).2
theorem gw_in : GoodIn GW GW := fun w h => ⟨h, good_of_word (gw_good h)⟩
theorem gw_cons {c : Cond} (h : c ∈ GW) : GoodIn GW (c :: GW) := fun w hw => by
  rcases List.mem_cons.mp hw with rfl | hw
  · exact gw_in _ h
  · exact gw_in _ hw
theorem nw_warm {w : Cond} {s U : State} (hw : isNest w = true) (hW : s.WarmedH U.vm) (h : va_Nw w s) : va_Nw w U := by
  cases w with
  | fieldLinkNest a i b n d h' => exact va_Nw.warmF hW h
  | methodLinkNest a i x h' => exact va_Nw.warmM hW h
  | _ => cases hw
theorem nw_same {w : Cond} {s U : State} (hw : isNest w = true) (hv : s.vm = U.vm) (h : va_Nw w s) : va_Nw w U := by
  cases w with
  | fieldLinkNest a i b n d h' => exact va_Nw.same rfl hv h
  | methodLinkNest a i x h' => exact va_Nw.same rfl hv h
  | _ => cases hw
def xVm (E : xE) (U : State) : Prop := va_K E.1.1 vwCl (xTys E) U ∧ ∀ w ∈ NW, va_Nw w U
def xStr (E : xE) (U : State) (H : Heap) : Prop := vk_S 1 [5] [[112, 102, 99, 100, 114]] (fun _ => E.2 1) (fun _ => E.2 2) (xA E) U H ∧ vk_R "RobbedOnce$Tape" 51 "pfcdr" (E.2 1) U ∧ va_Z "java/lang/String" "COMPACT_STRINGS" "Z" (.int 1) (xA E) U H ∧ va_AO "RobbedOnce$Town" U ∧ va_AO "RobbedOnce$Sheet" U
def xHold (E : xE) (h : xHp) (H : Heap) : Prop := (∀ (a : Nat) (e : va_E), h a = some e → va_at E.1.1 vwCl (a, e) H ∧ E.2 0 ≤ a) ∧ (∀ a : Nat, E.2 0 ≤ a → ((h a).isSome = true ↔ a < H.size)) ∧ E.2 0 ≤ H.size
def xPre (E : xE) (h : xHp) (U : State) : Prop := xHold E h U.heap ∧ xVm E U ∧ xStr E U U.heap
def xPost (E : xE) (Q : Option Value → xHp → Prop) : Array Value → State → Outcome → State → Prop := fun _ st o t => (∃ (r : Option Value) (h' : xHp), o = .returned r ∧ Q r h' ∧ xHold E h' t.heap) ∧ va_F (xA E) st t
theorem xVm_warm {E : xE} {s U : State} (hW : s.WarmedH U.vm) (h : xVm E s) : xVm E U := ⟨va_K.moved hW.alike h.1, fun w hw => nw_warm (List.mem_filter.mp hw).2 hW (h.2 w hw)⟩
theorem xVm_same {E : xE} {s U : State} (hv : s.vm = U.vm) (h : xVm E s) : xVm E U := ⟨va_K.moved (by rw [hv]; exact Vm.Alike.refl _) h.1, fun w hw => nw_same (List.mem_filter.mp hw).2 hv (h.2 w hw)⟩
theorem xStr_warm {E : xE} {s U : State} {H : Heap} (hW : s.WarmedH U.vm) (h : xStr E s H) : xStr E U H := ⟨h.1.moved hW.alike, h.2.1.warm hW, h.2.2.1.moved hW.alike, h.2.2.2.1.moved hW.alike, h.2.2.2.2.moved hW.alike⟩
theorem xStr_same {E : xE} {s U : State} {H : Heap} (hv : s.vm = U.vm) (h : xStr E s H) : xStr E U H := ⟨h.1.moved (by rw [hv]; exact Vm.Alike.refl _), h.2.1.same hv.symm, h.2.2.1.moved (by rw [hv]; exact Vm.Alike.refl _), h.2.2.2.1.moved (by rw [hv]; exact Vm.Alike.refl _), h.2.2.2.2.moved (by rw [hv]; exact Vm.Alike.refl _)⟩
theorem xStr_kept {E : xE} {s : State} {H H1 : Heap} (h : xStr E s H) (hq : ∀ a : Nat, a < H.size → ¬ xA E a → H1[a]? = H[a]?) : xStr E s H1 := ⟨h.1.kept hq, h.2.1, h.2.2.1.kept hq, h.2.2.2⟩
def xLv (ls : Array Slot) (nL : Nat) (lo : List (Option Value)) : Prop := ls.size = nL ∧ lv_wf ls ∧ ∀ (i : Nat) (v : Value), lo[i]? = some (some v) → ls[i]? = some (.val v)
def xCx (E : xE) (M : xM) (p : Program) (s : State) (m : MethodId) (args : Array Value) (meth : Method) (c : Code) : Prop :=
  p.tables.exec = Jvm.exec ∧ c.code = xC M ∧ c.maxLocals = xL M ∧ meth.sig.returnType = xR M ∧ meth.locks = false ∧ s.vm.findClass (xY M).cls = some m.cls ∧ (∀ w ∈ GW, w.before args s = true) ∧ xVm E s ∧ xStr E s s.heap ∧ meth.name = (xY M).name
def PW (E : xE) (M : xM) (Q : Option Value → xHp → Prop) (k n pc : Nat) (lo : List (Option Value)) (st : List Value) (h : xHp) : Prop :=
  ∀ (l : Launch) (p : Program) (e : Env) (s : State) (m : MethodId) (args : Array Value) (below : List Frame) (meth : Method) (c : Code), xCx E M p s m args meth c → ∀ (H : Heap) (locs : List Loc) (ls : Array Slot), xHold E h H → va_S (xA E) s.heap H locs → xLv ls (xL M) lo →
    W p l e (xRm M) s m args below meth c H locs k n (MQ below (xPost E Q) args s (xmc M) (xms M) (xA E)) (F0 m pc ls st)
def PMet (E : xE) (M : xM) (av : List Value) (h : xHp) (Q : Option Value → xHp → Prop) : Prop :=
  ∀ l : Launch, Met l (xY M) (Cond.code (xY M) (xC M) (xL M) (xR M) :: GW) (xRm M) (va_Pc av (xPre E h)) (xPost E Q) (xmc M) (xms M) (xA E)
/-- a local list of a method's entry -/
def xEnt (n : Nat) (av : List Value) : List (Option Value) := (List.range n).map (fun i => ((lv_args 0 av).find? (fun q => q.1 == i)).map (fun q => q.2))
theorem xEnt_at {n : Nat} {av : List Value} {i : Nat} {v : Value} (h : (xEnt n av)[i]? = some (some v)) : (i, v) ∈ lv_args 0 av := by
  unfold xEnt at h
  rw [List.getElem?_map] at h
  cases hr : (List.range n)[i]? with
  | none => rw [hr] at h; cases h
  | some j =>
    rw [hr] at h
    have hj : i = j := by
      obtain ⟨h1, h2⟩ := List.getElem?_eq_some_iff.mp hr
      rw [List.getElem_range] at h2
      exact h2
    subst hj
    simp only [Option.map_some, Option.some.injEq] at h
    cases hf : (lv_args 0 av).find? (fun q => q.1 == i) with
    | none => rw [hf] at h; cases h
    | some q =>
      rw [hf] at h
      simp only [Option.map_some, Option.some.injEq] at h
      have h1 := List.mem_of_find?_eq_some hf
      have h2 := List.find?_some hf
      simp only [beq_iff_eq] at h2
      rw [← h, ← h2]
      exact h1
theorem pm_of {E : xE} {M : xM} {av : List Value} {h : xHp} {Q : Option Value → xHp → Prop} (lo : List (Option Value)) (hpl : plainName (xY M).cls = true) (hlen : (lg_sl av).length ≤ xL M) (hlo : xEnt (xL M) av = lo) (hw : PW E M Q 0 0 0 lo [] h) : PMet E M av h Q := by
  intro l
  refine Met.ofW (cc := xC M) (maxL := xL M) (ret := xR M) hpl rfl ?_
  intro p e s m args below meth c s₁ B hml hv
  obtain ⟨rfl, hH, hVm, hStr⟩ := hv
  have hts := atoms_spec (ws := Cond.code (xY M) (xC M) (xL M) (xR M) :: GW) B.pre
  have hl := lv_entry av (n := xL M) hlen
  rw [lg_entry_eq]
  refine hw l p e s m _ below meth c ⟨B.exec, B.bytes, hml, B.returns, B.notSynchronized, findClass_of_methodNamed B.named, fun w hw => hts w (List.mem_cons_of_mem _ hw), hVm, hStr, (name_of_methodNamed B.named B.method).1⟩ s.heap [] _ hH va_S.rf ⟨hl.1, hl.2.1, fun i v hi => ?_⟩
  subst hlo
  exact hl.2.2 (i, v) (xEnt_at hi)
theorem pm_mono {E : xE} {M : xM} {av : List Value} {h : xHp} {Q Q' : Option Value → xHp → Prop} (hm : PMet E M av h Q) (hq : ∀ r h', Q r h' → Q' r h') : PMet E M av h Q' := by
  intro l p e ha hc hk s m args below hf hfit happ hpre
  obtain ⟨k, o, h1, h2, h3, ⟨⟨⟨r, h', e1, e2, e3⟩, e4⟩, e5⟩⟩ := hm l p e ha hc hk s m args below hf hfit happ hpre
  exact ⟨k, o, h1, h2, h3, ⟨⟨r, h', e1, hq _ _ e2, e3⟩, e4⟩, e5⟩
end
section
section PXR
variable {E : xE} {M : xM} {Q : Option Value → xHp → Prop} {k n pc : Nat} {lo : List (Option Value)} {r : List Value} {h : xHp}
theorem nI_lit (a : Nat) : (OfNat.ofNat a : Int32) = nI a := rfl
/-- locals as the kit has them -/
def xAsc (lo : List (Option Value)) : List (Nat × Value) := (List.range lo.length).filterMap (fun i => match lo[i]? with
  | some (some v) => some (i, v)
  | _ => none)
theorem xAsc_mem {lo : List (Option Value)} {i : Nat} {v : Value} : (i, v) ∈ xAsc lo ↔ lo[i]? = some (some v) := by
  unfold xAsc
  rw [List.mem_filterMap]
  constructor
  · rintro ⟨j, hj, he⟩
    split at he
    · rename_i w hw
      cases he
      exact hw
    · cases he
  · intro hv
    refine ⟨i, ?_, ?_⟩
    · rw [List.mem_range]
      exact (List.getElem?_eq_some_iff.mp hv).1
    · rw [hv]
theorem xLv_has {ls : Array Slot} {nL : Nat} {lo : List (Option Value)} (hl : xLv ls nL lo) : lv_has ls nL (xAsc lo) := ⟨hl.1, hl.2.1, fun q hq => hl.2.2 q.1 q.2 (xAsc_mem.mp hq)⟩
def xSt (lo : List (Option Value)) (i : Nat) : Bool := match lo[i - 1]? with
  | some (some v) => v.category == 1
  | _ => true
theorem xLv_set {ls' : Array Slot} {nL : Nat} {lo : List (Option Value)} {i : Nat} {v : Value} (hok : xSt lo i = true) (hl : lv_has ls' nL ((i, v) :: (xAsc lo).filter (fun q => !(q.1 == i) && !(q.1 + 1 == i && q.2.category == 2)))) : xLv ls' nL (lo.set i (some v)) := by
  refine ⟨hl.1, hl.2.1, fun j w hj => ?_⟩
  by_cases hji : j = i
  · subst hji
    have hlt : j < lo.length := by
      have := (List.getElem?_eq_some_iff.mp hj).1
      rwa [List.length_set] at this
    rw [List.getElem?_set_self hlt] at hj
    cases hj
    exact hl.2.2 (j, v) List.mem_cons_self
  · rw [List.getElem?_set_ne (Ne.symm hji)] at hj
    refine hl.2.2 (j, w) (List.mem_cons_of_mem _ (List.mem_filter.mpr ⟨xAsc_mem.mpr hj, ?_⟩))
    have h1 : (j == i) = false := by simp [hji]
    by_cases hj1 : j + 1 = i
    · subst hj1
      unfold xSt at hok
      rw [Nat.add_sub_cancel, hj] at hok
      have h2 : (w.category == 2) = false := by
        simp only [beq_iff_eq] at hok
        simp [hok]
      simp [h1, h2]
    · have h2 : (j + 1 == i) = false := by simp [hj1]
      simp [h1, h2]
theorem px_top {a b : Value} (he : a = b) (kk : PW E M Q k n pc lo (b :: r) h) : PW E M Q k n pc lo (a :: r) h := he ▸ kk
theorem px_topi {x y : Int32} (he : x = y) (kk : PW E M Q k n pc lo (.int y :: r) h) : PW E M Q k n pc lo (.int x :: r) h := he ▸ kk
theorem px_eq {lo2 : List (Option Value)} {r2 : List Value} {h2 : xHp} (e1 : lo = lo2) (e2 : r = r2) (e3 : h = h2) (kk : PW E M Q k n pc lo2 r2 h2) : PW E M Q k n pc lo r h := by
  subst e1; subst e2; subst e3; exact kk
theorem px_heap {h2 : xHp} (e3 : h = h2) (kk : PW E M Q k n pc lo r h2) : PW E M Q k n pc lo r h := by
  subst e3; exact kk
theorem px_mono {Q' : Option Value → xHp → Prop} (hq : ∀ r h, Q' r h → Q r h) (kk : PW E M Q' k n pc lo r h) : PW E M Q k n pc lo r h := by
  intro l p e s m args below meth c C H locs ls hH hS hl T hT X
  obtain ⟨t, a1, o, b1, b2, ⟨⟨rv, h', e1, e2, e3⟩, e4⟩, b4⟩ := kk l p e s m args below meth c C H locs ls hH hS hl T hT X
  exact ⟨t, a1, o, b1, b2, ⟨⟨rv, h', e1, hq _ _ e2, e3⟩, e4⟩, b4⟩
theorem px_iconst {q : Int} {v : Int32} (hd : decode (xC M) pc = .ok (.iconst q, 1)) (hv : Int32.ofInt q = v) (kk : PW E M Q k n (pc + 1) lo (.int v :: r) h) : PW E M Q k n pc lo (r) h := fun l p e s m args below meth c C H locs ls hH hS hl => lv_iconst C.1 C.2.1 hd hv (kk l p e s m args below meth c C H locs ls hH hS hl)
theorem px_bipush {q : Int} {v : Int32} (hd : decode (xC M) pc = .ok (.bipush q, 2)) (hv : (Int8.ofInt q).toInt32 = v) (kk : PW E M Q k n (pc + 2) lo (.int v :: r) h) : PW E M Q k n pc lo (r) h := fun l p e s m args below meth c C H locs ls hH hS hl => lv_bipush C.1 C.2.1 hd hv (kk l p e s m args below meth c C H locs ls hH hS hl)
theorem px_sipush {q : Int} {v : Int32} (hd : decode (xC M) pc = .ok (.sipush q, 3)) (hv : (Int16.ofInt q).toInt32 = v) (kk : PW E M Q k n (pc + 3) lo (.int v :: r) h) : PW E M Q k n pc lo (r) h := fun l p e s m args below meth c C H locs ls hH hS hl => lv_sipush C.1 C.2.1 hd hv (kk l p e s m args below meth c C H locs ls hH hS hl)
theorem px_lconst {q : Fin 2} {v : Int64} (hd : decode (xC M) pc = .ok (.lconst q, 1)) (hv : Int64.ofNat (q : Nat) = v) (kk : PW E M Q k n (pc + 1) lo (.long v :: r) h) : PW E M Q k n pc lo (r) h := fun l p e s m args below meth c C H locs ls hH hS hl => lv_lconst C.1 C.2.1 hd hv (kk l p e s m args below meth c C H locs ls hH hS hl)
theorem px_ldc {idx : Nat} {v : Int32} (hd : decode (xC M) pc = .ok (.ldc idx, 2)) (hc : Cond.constant (xY M).cls idx v ∈ GW) (kk : PW E M Q k n (pc + 2) lo (.int v :: r) h) : PW E M Q k n pc lo (r) h := fun l p e s m args below meth c C H locs ls hH hS hl => lv_ldc C.1 C.2.1 C.2.2.2.2.2.1 (C.2.2.2.2.2.2.1 _ hc) hd (kk l p e s m args below meth c C H locs ls hH hS hl)
theorem px_ldcw {idx : Nat} {v : Int32} (hd : decode (xC M) pc = .ok (.ldc_w idx, 3)) (hc : Cond.constant (xY M).cls idx v ∈ GW) (kk : PW E M Q k n (pc + 3) lo (.int v :: r) h) : PW E M Q k n pc lo (r) h := fun l p e s m args below meth c C H locs ls hH hS hl => lv_ldcw C.1 C.2.1 C.2.2.2.2.2.1 (C.2.2.2.2.2.2.1 _ hc) hd (kk l p e s m args below meth c C H locs ls hH hS hl)
theorem px_ldc2 {idx : Nat} {v : Int64} (hd : decode (xC M) pc = .ok (.ldc2_w idx, 3)) (hc : Cond.constantLong (xY M).cls idx v ∈ GW) (kk : PW E M Q k n (pc + 3) lo (.long v :: r) h) : PW E M Q k n pc lo (r) h := fun l p e s m args below meth c C H locs ls hH hS hl => lv_ldc2 C.1 C.2.1 C.2.2.2.2.2.1 (C.2.2.2.2.2.2.1 _ hc) hd (kk l p e s m args below meth c C H locs ls hH hS hl)
theorem px_iload_n {j : Fin 4} {x : Int32} (hd : decode (xC M) pc = .ok (.iload_n j, 1)) (hx : lo[(j : Nat)]? = some (some (.int x))) (kk : PW E M Q k n (pc + 1) lo (.int x :: r) h) : PW E M Q k n pc lo (r) h := fun l p e s m args below meth c C H locs ls hH hS hl => lv_iload_n C.1 C.2.1 hd rfl (hl.2.2 _ _ hx) (kk l p e s m args below meth c C H locs ls hH hS hl)
theorem px_iload {j : Nat} {x : Int32} (hd : decode (xC M) pc = .ok (.iload j, 2)) (hx : lo[j]? = some (some (.int x))) (kk : PW E M Q k n (pc + 2) lo (.int x :: r) h) : PW E M Q k n pc lo (r) h := fun l p e s m args below meth c C H locs ls hH hS hl => lv_iload C.1 C.2.1 hd (hl.2.2 _ _ hx) (kk l p e s m args below meth c C H locs ls hH hS hl)
theorem px_aload_n {j : Fin 4} {x : Nat} (hd : decode (xC M) pc = .ok (.aload_n j, 1)) (hx : lo[(j : Nat)]? = some (some (.ref x))) (kk : PW E M Q k n (pc + 1) lo (.ref x :: r) h) : PW E M Q k n pc lo (r) h := fun l p e s m args below meth c C H locs ls hH hS hl => lv_aload_n C.1 C.2.1 hd rfl (hl.2.2 _ _ hx) (kk l p e s m args below meth c C H locs ls hH hS hl)
theorem px_aload {j : Nat} {x : Nat} (hd : decode (xC M) pc = .ok (.aload j, 2)) (hx : lo[j]? = some (some (.ref x))) (kk : PW E M Q k n (pc + 2) lo (.ref x :: r) h) : PW E M Q k n pc lo (r) h := fun l p e s m args below meth c C H locs ls hH hS hl => lv_aload C.1 C.2.1 hd (hl.2.2 _ _ hx) (kk l p e s m args below meth c C H locs ls hH hS hl)
theorem px_lload_n {j : Fin 4} {x : Int64} (hd : decode (xC M) pc = .ok (.lload_n j, 1)) (hx : lo[(j : Nat)]? = some (some (.long x))) (kk : PW E M Q k n (pc + 1) lo (.long x :: r) h) : PW E M Q k n pc lo (r) h := fun l p e s m args below meth c C H locs ls hH hS hl => lv_lload_n C.1 C.2.1 hd rfl (hl.2.2 _ _ hx) (kk l p e s m args below meth c C H locs ls hH hS hl)
theorem px_lload {j : Nat} {x : Int64} (hd : decode (xC M) pc = .ok (.lload j, 2)) (hx : lo[j]? = some (some (.long x))) (kk : PW E M Q k n (pc + 2) lo (.long x :: r) h) : PW E M Q k n pc lo (r) h := fun l p e s m args below meth c C H locs ls hH hS hl => lv_lload C.1 C.2.1 hd (hl.2.2 _ _ hx) (kk l p e s m args below meth c C H locs ls hH hS hl)
theorem px_istore_n {j : Fin 4} {x : Int32} (hd : decode (xC M) pc = .ok (.istore_n j, 1)) (hn : (j : Nat) < xL M) (hok : xSt lo (j : Nat) = true) (kk : PW E M Q k n (pc + 1) (lo.set (j : Nat) (some (.int x))) r h) : PW E M Q k n pc lo (.int x :: r) h := fun l p e s m args below meth c C H locs ls hH hS hl => lv_istore_n C.1 C.2.1 hd rfl (xLv_has hl) hn rfl (fun ls2 h2 => kk l p e s m args below meth c C H locs ls2 hH hS (xLv_set hok h2))
theorem px_istore {j : Nat} {x : Int32} (hd : decode (xC M) pc = .ok (.istore j, 2)) (hn : (j : Nat) < xL M) (hok : xSt lo (j : Nat) = true) (kk : PW E M Q k n (pc + 2) (lo.set (j : Nat) (some (.int x))) r h) : PW E M Q k n pc lo (.int x :: r) h := fun l p e s m args below meth c C H locs ls hH hS hl => lv_istore C.1 C.2.1 hd (xLv_has hl) hn rfl (fun ls2 h2 => kk l p e s m args below meth c C H locs ls2 hH hS (xLv_set hok h2))
theorem px_astore_n {j : Fin 4} {x : Nat} (hd : decode (xC M) pc = .ok (.astore_n j, 1)) (hn : (j : Nat) < xL M) (hok : xSt lo (j : Nat) = true) (kk : PW E M Q k n (pc + 1) (lo.set (j : Nat) (some (.ref x))) r h) : PW E M Q k n pc lo (.ref x :: r) h := fun l p e s m args below meth c C H locs ls hH hS hl => lv_astore_n C.1 C.2.1 hd rfl (xLv_has hl) hn rfl (fun ls2 h2 => kk l p e s m args below meth c C H locs ls2 hH hS (xLv_set hok h2))
theorem px_astore {j : Nat} {x : Nat} (hd : decode (xC M) pc = .ok (.astore j, 2)) (hn : (j : Nat) < xL M) (hok : xSt lo (j : Nat) = true) (kk : PW E M Q k n (pc + 2) (lo.set (j : Nat) (some (.ref x))) r h) : PW E M Q k n pc lo (.ref x :: r) h := fun l p e s m args below meth c C H locs ls hH hS hl => lv_astore C.1 C.2.1 hd (xLv_has hl) hn rfl (fun ls2 h2 => kk l p e s m args below meth c C H locs ls2 hH hS (xLv_set hok h2))
theorem px_iinc {j : Nat} {q : Int} {x v : Int32} (hd : decode (xC M) pc = .ok (.iinc j q, 3)) (hx : lo[j]? = some (some (.int x))) (hv : x + Int32.ofInt q = v) (hn : j < xL M) (hok : xSt lo j = true) (kk : PW E M Q k n (pc + 3) (lo.set j (some (.int v))) r h) : PW E M Q k n pc lo r h := by
  intro l p e s m args below meth c C H locs ls hH hS hl
  obtain ⟨i, hi⟩ := List.getElem?_of_mem (xAsc_mem.mpr hx)
  exact lv_iinc (k := i) C.1 C.2.1 hd (xLv_has hl) hi hv hn rfl (fun ls2 h2 => kk l p e s m args below meth c C H locs ls2 hH hS (xLv_set hok h2))
theorem px_iadd {x y : Int32} (hd : decode (xC M) pc = .ok (.iadd, 1))  (kk : PW E M Q k n (pc + 1) lo (.int (x + y) :: r) h) : PW E M Q k n pc lo (.int y :: .int x :: r) h := fun l p e s m args below meth c C H locs ls hH hS hl => lv_iadd C.1 C.2.1 hd (kk l p e s m args below meth c C H locs ls hH hS hl)
theorem px_isub {x y : Int32} (hd : decode (xC M) pc = .ok (.isub, 1))  (kk : PW E M Q k n (pc + 1) lo (.int (x - y) :: r) h) : PW E M Q k n pc lo (.int y :: .int x :: r) h := fun l p e s m args below meth c C H locs ls hH hS hl => lv_isub C.1 C.2.1 hd (kk l p e s m args below meth c C H locs ls hH hS hl)
theorem px_imul {x y : Int32} (hd : decode (xC M) pc = .ok (.imul, 1))  (kk : PW E M Q k n (pc + 1) lo (.int (x * y) :: r) h) : PW E M Q k n pc lo (.int y :: .int x :: r) h := fun l p e s m args below meth c C H locs ls hH hS hl => lv_imul C.1 C.2.1 hd (kk l p e s m args below meth c C H locs ls hH hS hl)
theorem px_iand {x y : Int32} (hd : decode (xC M) pc = .ok (.iand, 1))  (kk : PW E M Q k n (pc + 1) lo (.int (x &&& y) :: r) h) : PW E M Q k n pc lo (.int y :: .int x :: r) h := fun l p e s m args below meth c C H locs ls hH hS hl => lv_iand C.1 C.2.1 hd (kk l p e s m args below meth c C H locs ls hH hS hl)
theorem px_ior {x y : Int32} (hd : decode (xC M) pc = .ok (.ior, 1))  (kk : PW E M Q k n (pc + 1) lo (.int (x ||| y) :: r) h) : PW E M Q k n pc lo (.int y :: .int x :: r) h := fun l p e s m args below meth c C H locs ls hH hS hl => lv_ior C.1 C.2.1 hd (kk l p e s m args below meth c C H locs ls hH hS hl)
theorem px_ixor {x y : Int32} (hd : decode (xC M) pc = .ok (.ixor, 1))  (kk : PW E M Q k n (pc + 1) lo (.int (x ^^^ y) :: r) h) : PW E M Q k n pc lo (.int y :: .int x :: r) h := fun l p e s m args below meth c C H locs ls hH hS hl => lv_ixor C.1 C.2.1 hd (kk l p e s m args below meth c C H locs ls hH hS hl)
theorem px_ishl {x y : Int32} (hd : decode (xC M) pc = .ok (.ishl, 1))  (kk : PW E M Q k n (pc + 1) lo (.int (x <<< (y &&& 31)) :: r) h) : PW E M Q k n pc lo (.int y :: .int x :: r) h := fun l p e s m args below meth c C H locs ls hH hS hl => lv_ishl C.1 C.2.1 hd (kk l p e s m args below meth c C H locs ls hH hS hl)
theorem px_ishr {x y : Int32} (hd : decode (xC M) pc = .ok (.ishr, 1))  (kk : PW E M Q k n (pc + 1) lo (.int (x >>> (y &&& 31)) :: r) h) : PW E M Q k n pc lo (.int y :: .int x :: r) h := fun l p e s m args below meth c C H locs ls hH hS hl => lv_ishr C.1 C.2.1 hd (kk l p e s m args below meth c C H locs ls hH hS hl)
theorem px_idiv {x y : Int32} (hd : decode (xC M) pc = .ok (.idiv, 1)) (hne : ¬ y = 0) (kk : PW E M Q k n (pc + 1) lo (.int (x / y) :: r) h) : PW E M Q k n pc lo (.int y :: .int x :: r) h := fun l p e s m args below meth c C H locs ls hH hS hl => lv_idiv C.1 C.2.1 hd hne (kk l p e s m args below meth c C H locs ls hH hS hl)
theorem px_irem {x y : Int32} (hd : decode (xC M) pc = .ok (.irem, 1)) (hne : ¬ y = 0) (kk : PW E M Q k n (pc + 1) lo (.int (x - x / y * y) :: r) h) : PW E M Q k n pc lo (.int y :: .int x :: r) h := fun l p e s m args below meth c C H locs ls hH hS hl => lv_irem C.1 C.2.1 hd hne (kk l p e s m args below meth c C H locs ls hH hS hl)
theorem px_iushr {x y : Int32} (hd : decode (xC M) pc = .ok (.iushr, 1))  (kk : PW E M Q k n (pc + 1) lo (.int (x.toUInt32 >>> (y.toUInt32 &&& Int32.toUInt32 31)).toInt32 :: r) h) : PW E M Q k n pc lo (.int y :: .int x :: r) h := fun l p e s m args below meth c C H locs ls hH hS hl => lv_iushr C.1 C.2.1 hd rfl (kk l p e s m args below meth c C H locs ls hH hS hl)
theorem px_ladd {x y : Int64} (hd : decode (xC M) pc = .ok (.ladd, 1))  (kk : PW E M Q k n (pc + 1) lo (.long (x + y) :: r) h) : PW E M Q k n pc lo (.long y :: .long x :: r) h := fun l p e s m args below meth c C H locs ls hH hS hl => lv_ladd C.1 C.2.1 hd (kk l p e s m args below meth c C H locs ls hH hS hl)
theorem px_lmul {x y : Int64} (hd : decode (xC M) pc = .ok (.lmul, 1))  (kk : PW E M Q k n (pc + 1) lo (.long (x * y) :: r) h) : PW E M Q k n pc lo (.long y :: .long x :: r) h := fun l p e s m args below meth c C H locs ls hH hS hl => lv_lmul C.1 C.2.1 hd (kk l p e s m args below meth c C H locs ls hH hS hl)
theorem px_land {x y : Int64} (hd : decode (xC M) pc = .ok (.land, 1))  (kk : PW E M Q k n (pc + 1) lo (.long (x &&& y) :: r) h) : PW E M Q k n pc lo (.long y :: .long x :: r) h := fun l p e s m args below meth c C H locs ls hH hS hl => lv_land C.1 C.2.1 hd (kk l p e s m args below meth c C H locs ls hH hS hl)
theorem px_lor {x y : Int64} (hd : decode (xC M) pc = .ok (.lor, 1))  (kk : PW E M Q k n (pc + 1) lo (.long (x ||| y) :: r) h) : PW E M Q k n pc lo (.long y :: .long x :: r) h := fun l p e s m args below meth c C H locs ls hH hS hl => lv_lor C.1 C.2.1 hd (kk l p e s m args below meth c C H locs ls hH hS hl)
theorem px_lrem {x y : Int64} (hd : decode (xC M) pc = .ok (.lrem, 1)) (hne : ¬ y = 0) (kk : PW E M Q k n (pc + 1) lo (.long (x - x / y * y) :: r) h) : PW E M Q k n pc lo (.long y :: .long x :: r) h := fun l p e s m args below meth c C H locs ls hH hS hl => lv_lrem C.1 C.2.1 hd hne (kk l p e s m args below meth c C H locs ls hH hS hl)
theorem px_lshl {x : Int64} {y : Int32} (hd : decode (xC M) pc = .ok (.lshl, 1))  (kk : PW E M Q k n (pc + 1) lo (.long (x <<< (y.toInt64 &&& 63)) :: r) h) : PW E M Q k n pc lo (.int y :: .long x :: r) h := fun l p e s m args below meth c C H locs ls hH hS hl => lv_lshl C.1 C.2.1 hd rfl (kk l p e s m args below meth c C H locs ls hH hS hl)
theorem px_lcmp {x y : Int64} (hd : decode (xC M) pc = .ok (.lcmp, 1))  (kk : PW E M Q k n (pc + 1) lo (.int (lg_cmp x y) :: r) h) : PW E M Q k n pc lo (.long y :: .long x :: r) h := fun l p e s m args below meth c C H locs ls hH hS hl => W.lcmp C.1 C.2.1 hd (kk l p e s m args below meth c C H locs ls hH hS hl)
theorem px_i2l {x : Int32} (hd : decode (xC M) pc = .ok (.i2l, 1))  (kk : PW E M Q k n (pc + 1) lo (.long x.toInt64 :: r) h) : PW E M Q k n pc lo (.int x :: r) h := fun l p e s m args below meth c C H locs ls hH hS hl => lv_i2l C.1 C.2.1 hd rfl (kk l p e s m args below meth c C H locs ls hH hS hl)
theorem px_l2i {x : Int64} (hd : decode (xC M) pc = .ok (.l2i, 1))  (kk : PW E M Q k n (pc + 1) lo (.int x.toInt32 :: r) h) : PW E M Q k n pc lo (.long x :: r) h := fun l p e s m args below meth c C H locs ls hH hS hl => lv_l2i C.1 C.2.1 hd rfl (kk l p e s m args below meth c C H locs ls hH hS hl)
theorem px_i2b {x : Int32} (hd : decode (xC M) pc = .ok (.i2b, 1))  (kk : PW E M Q k n (pc + 1) lo (.int x.toInt8.toInt32 :: r) h) : PW E M Q k n pc lo (.int x :: r) h := fun l p e s m args below meth c C H locs ls hH hS hl => lv_i2b C.1 C.2.1 hd rfl (kk l p e s m args below meth c C H locs ls hH hS hl)
theorem px_i2s {x : Int32} (hd : decode (xC M) pc = .ok (.i2s, 1))  (kk : PW E M Q k n (pc + 1) lo (.int x.toInt16.toInt32 :: r) h) : PW E M Q k n pc lo (.int x :: r) h := fun l p e s m args below meth c C H locs ls hH hS hl => lv_i2s C.1 C.2.1 hd rfl (kk l p e s m args below meth c C H locs ls hH hS hl)
theorem px_i2c {x : Int32} (hd : decode (xC M) pc = .ok (.i2c, 1))  (kk : PW E M Q k n (pc + 1) lo (.int (x.toUInt32 % 65536).toInt32 :: r) h) : PW E M Q k n pc lo (.int x :: r) h := fun l p e s m args below meth c C H locs ls hH hS hl => lv_i2c C.1 C.2.1 hd rfl (kk l p e s m args below meth c C H locs ls hH hS hl)
theorem px_dup {a : Value} (hd : decode (xC M) pc = .ok (.dup, 1)) (hc : a.category = 1) (kk : PW E M Q k n (pc + 1) lo (a :: a :: r) h) : PW E M Q k n pc lo (a :: r) h := fun l p e s m args below meth c C H locs ls hH hS hl => lv_dup C.1 C.2.1 hd hc (kk l p e s m args below meth c C H locs ls hH hS hl)
theorem px_pop {a : Value} (hd : decode (xC M) pc = .ok (.pop, 1)) (hc : a.category = 1) (kk : PW E M Q k n (pc + 1) lo (r) h) : PW E M Q k n pc lo (a :: r) h := fun l p e s m args below meth c C H locs ls hH hS hl => lv_pop C.1 C.2.1 hd hc (kk l p e s m args below meth c C H locs ls hH hS hl)
theorem px_dup2 {a b : Value} (hd : decode (xC M) pc = .ok (.dup2, 1)) (hc : a.category = 1) (hc2 : b.category = 1) (kk : PW E M Q k n (pc + 1) lo (a :: b :: a :: b :: r) h) : PW E M Q k n pc lo (a :: b :: r) h := fun l p e s m args below meth c C H locs ls hH hS hl => lv_dup2_11 C.1 C.2.1 hd hc hc2 (kk l p e s m args below meth c C H locs ls hH hS hl)
theorem px_if_eq {x : Int32} {off : Int} (tgt : Nat) (hd : decode (xC M) pc = .ok (.ifCond .eq off, 3)) (ht : (pc : Int) + off = (tgt : Int)) (kt : x = 0 → PW E M Q k n tgt lo r h) (kf : ¬ x = 0 → PW E M Q k n (pc + 3) lo r h) : PW E M Q k n pc lo (.int x :: r) h := fun l p e s m args below meth c C H locs ls hH hS hl => lv_if_eq C.1 C.2.1 hd ht (fun z => kt z l p e s m args below meth c C H locs ls hH hS hl) (fun z => kf z l p e s m args below meth c C H locs ls hH hS hl)
theorem px_if_ne {x : Int32} {off : Int} (tgt : Nat) (hd : decode (xC M) pc = .ok (.ifCond .ne off, 3)) (ht : (pc : Int) + off = (tgt : Int)) (kt : ¬ x = 0 → PW E M Q k n tgt lo r h) (kf : x = 0 → PW E M Q k n (pc + 3) lo r h) : PW E M Q k n pc lo (.int x :: r) h := fun l p e s m args below meth c C H locs ls hH hS hl => lv_if_ne C.1 C.2.1 hd ht (fun z => kt z l p e s m args below meth c C H locs ls hH hS hl) (fun z => kf z l p e s m args below meth c C H locs ls hH hS hl)
theorem px_if_lt {x : Int32} {off : Int} (tgt : Nat) (hd : decode (xC M) pc = .ok (.ifCond .lt off, 3)) (ht : (pc : Int) + off = (tgt : Int)) (kt : x < 0 → PW E M Q k n tgt lo r h) (kf : ¬ x < 0 → PW E M Q k n (pc + 3) lo r h) : PW E M Q k n pc lo (.int x :: r) h := fun l p e s m args below meth c C H locs ls hH hS hl => lv_if_lt C.1 C.2.1 hd ht (fun z => kt z l p e s m args below meth c C H locs ls hH hS hl) (fun z => kf z l p e s m args below meth c C H locs ls hH hS hl)
theorem px_if_ge {x : Int32} {off : Int} (tgt : Nat) (hd : decode (xC M) pc = .ok (.ifCond .ge off, 3)) (ht : (pc : Int) + off = (tgt : Int)) (kt : 0 ≤ x → PW E M Q k n tgt lo r h) (kf : ¬ 0 ≤ x → PW E M Q k n (pc + 3) lo r h) : PW E M Q k n pc lo (.int x :: r) h := fun l p e s m args below meth c C H locs ls hH hS hl => lv_if_ge C.1 C.2.1 hd ht (fun z => kt z l p e s m args below meth c C H locs ls hH hS hl) (fun z => kf z l p e s m args below meth c C H locs ls hH hS hl)
theorem px_if_gt {x : Int32} {off : Int} (tgt : Nat) (hd : decode (xC M) pc = .ok (.ifCond .gt off, 3)) (ht : (pc : Int) + off = (tgt : Int)) (kt : 0 < x → PW E M Q k n tgt lo r h) (kf : ¬ 0 < x → PW E M Q k n (pc + 3) lo r h) : PW E M Q k n pc lo (.int x :: r) h := fun l p e s m args below meth c C H locs ls hH hS hl => lv_if_gt C.1 C.2.1 hd ht (fun z => kt z l p e s m args below meth c C H locs ls hH hS hl) (fun z => kf z l p e s m args below meth c C H locs ls hH hS hl)
theorem px_if_le {x : Int32} {off : Int} (tgt : Nat) (hd : decode (xC M) pc = .ok (.ifCond .le off, 3)) (ht : (pc : Int) + off = (tgt : Int)) (kt : x ≤ 0 → PW E M Q k n tgt lo r h) (kf : ¬ x ≤ 0 → PW E M Q k n (pc + 3) lo r h) : PW E M Q k n pc lo (.int x :: r) h := fun l p e s m args below meth c C H locs ls hH hS hl => lv_if_le C.1 C.2.1 hd ht (fun z => kt z l p e s m args below meth c C H locs ls hH hS hl) (fun z => kf z l p e s m args below meth c C H locs ls hH hS hl)
theorem px_icmp_eq {x y : Int32} {off : Int} (tgt : Nat) (hd : decode (xC M) pc = .ok (.if_icmp .eq off, 3)) (ht : (pc : Int) + off = (tgt : Int)) (kt : x = y → PW E M Q k n tgt lo r h) (kf : ¬ x = y → PW E M Q k n (pc + 3) lo r h) : PW E M Q k n pc lo (.int y :: .int x :: r) h := fun l p e s m args below meth c C H locs ls hH hS hl => lv_icmp_eq C.1 C.2.1 hd ht (fun z => kt z l p e s m args below meth c C H locs ls hH hS hl) (fun z => kf z l p e s m args below meth c C H locs ls hH hS hl)
theorem px_icmp_ne {x y : Int32} {off : Int} (tgt : Nat) (hd : decode (xC M) pc = .ok (.if_icmp .ne off, 3)) (ht : (pc : Int) + off = (tgt : Int)) (kt : ¬ x = y → PW E M Q k n tgt lo r h) (kf : x = y → PW E M Q k n (pc + 3) lo r h) : PW E M Q k n pc lo (.int y :: .int x :: r) h := fun l p e s m args below meth c C H locs ls hH hS hl => lv_icmp_ne C.1 C.2.1 hd ht (fun z => kt z l p e s m args below meth c C H locs ls hH hS hl) (fun z => kf z l p e s m args below meth c C H locs ls hH hS hl)
theorem px_icmp_lt {x y : Int32} {off : Int} (tgt : Nat) (hd : decode (xC M) pc = .ok (.if_icmp .lt off, 3)) (ht : (pc : Int) + off = (tgt : Int)) (kt : x < y → PW E M Q k n tgt lo r h) (kf : ¬ x < y → PW E M Q k n (pc + 3) lo r h) : PW E M Q k n pc lo (.int y :: .int x :: r) h := fun l p e s m args below meth c C H locs ls hH hS hl => lv_icmp_lt C.1 C.2.1 hd ht (fun z => kt z l p e s m args below meth c C H locs ls hH hS hl) (fun z => kf z l p e s m args below meth c C H locs ls hH hS hl)
theorem px_icmp_ge {x y : Int32} {off : Int} (tgt : Nat) (hd : decode (xC M) pc = .ok (.if_icmp .ge off, 3)) (ht : (pc : Int) + off = (tgt : Int)) (kt : y ≤ x → PW E M Q k n tgt lo r h) (kf : ¬ y ≤ x → PW E M Q k n (pc + 3) lo r h) : PW E M Q k n pc lo (.int y :: .int x :: r) h := fun l p e s m args below meth c C H locs ls hH hS hl => lv_icmp_ge C.1 C.2.1 hd ht (fun z => kt z l p e s m args below meth c C H locs ls hH hS hl) (fun z => kf z l p e s m args below meth c C H locs ls hH hS hl)
theorem px_icmp_gt {x y : Int32} {off : Int} (tgt : Nat) (hd : decode (xC M) pc = .ok (.if_icmp .gt off, 3)) (ht : (pc : Int) + off = (tgt : Int)) (kt : y < x → PW E M Q k n tgt lo r h) (kf : ¬ y < x → PW E M Q k n (pc + 3) lo r h) : PW E M Q k n pc lo (.int y :: .int x :: r) h := fun l p e s m args below meth c C H locs ls hH hS hl => lv_icmp_gt C.1 C.2.1 hd ht (fun z => kt z l p e s m args below meth c C H locs ls hH hS hl) (fun z => kf z l p e s m args below meth c C H locs ls hH hS hl)
theorem px_icmp_le {x y : Int32} {off : Int} (tgt : Nat) (hd : decode (xC M) pc = .ok (.if_icmp .le off, 3)) (ht : (pc : Int) + off = (tgt : Int)) (kt : x ≤ y → PW E M Q k n tgt lo r h) (kf : ¬ x ≤ y → PW E M Q k n (pc + 3) lo r h) : PW E M Q k n pc lo (.int y :: .int x :: r) h := fun l p e s m args below meth c C H locs ls hH hS hl => lv_icmp_le C.1 C.2.1 hd ht (fun z => kt z l p e s m args below meth c C H locs ls hH hS hl) (fun z => kf z l p e s m args below meth c C H locs ls hH hS hl)
theorem px_goto {off : Int} (tgt : Nat) (hd : decode (xC M) pc = .ok (.goto off, 3)) (ht : (pc : Int) + off = (tgt : Int)) (kk : PW E M Q k n tgt lo r h) : PW E M Q k n pc lo r h := fun l p e s m args below meth c C H locs ls hH hS hl => lv_goto C.1 C.2.1 hd ht (kk l p e s m args below meth c C H locs ls hH hS hl)
theorem px_tabIn {dflt lw hi : Int} {offs : Array Int} {len : Nat} {x : Int32} {off : Int} (tgt : Nat) (hd : decode (xC M) pc = .ok (.tableswitch dflt lw hi offs, len)) (h1 : ¬ x.toInt < lw) (h2 : ¬ hi < x.toInt) (ho : offs[(x.toInt - lw).toNat]? = some off) (ht : (pc : Int) + off = (tgt : Int)) (kk : PW E M Q k n tgt lo r h) : PW E M Q k n pc lo (.int x :: r) h := fun l p e s m args below meth c C H locs ls hH hS hl => lv_tableIn C.1 C.2.1 hd h1 h2 ho ht (kk l p e s m args below meth c C H locs ls hH hS hl)
theorem px_tabOut {dflt lw hi : Int} {offs : Array Int} {len : Nat} {x : Int32} (tgt : Nat) (hd : decode (xC M) pc = .ok (.tableswitch dflt lw hi offs, len)) (hh : x.toInt < lw ∨ hi < x.toInt) (ht : (pc : Int) + dflt = (tgt : Int)) (kk : PW E M Q k n tgt lo r h) : PW E M Q k n pc lo (.int x :: r) h := fun l p e s m args below meth c C H locs ls hH hS hl => lv_tableOut C.1 C.2.1 hd hh ht (kk l p e s m args below meth c C H locs ls hH hS hl)
theorem px_iret {v : Int32} (hd : decode (xC M) pc = .ok (.ireturn, 1)) (hr : xR M = some .int) (hk : k = xmc M) (hn : n = xms M) (hq : Q (some (.int v)) h) : PW E M Q k n pc lo [.int v] h := by
  subst hk; subst hn
  intro l p e s m args below meth c C H locs ls hH hS hl
  have hlocks := C.2.2.2.2.1
  exact W.iret C.1 C.2.1 (C.2.2.2.1.trans hr) (fun t ht hW => ⟨⟨_, h, rfl, hq, by rw [ht]; exact hH⟩, hS.F ht⟩) hS.2.2 hd
theorem px_zret {v : Int32} {ty : FieldType} (hd : decode (xC M) pc = .ok (.ireturn, 1)) (hr : xR M = some ty) (hnar : narrow ty (.int v) = .int v) (hk : k = xmc M) (hn : n = xms M) (hq : Q (some (.int v)) h) : PW E M Q k n pc lo [.int v] h := by
  subst hk; subst hn
  intro l p e s m args below meth c C H locs ls hH hS hl
  have hlocks := C.2.2.2.2.1
  exact W.zret C.1 C.2.1 (C.2.2.2.1.trans hr) hnar (fun t ht hW => ⟨⟨_, h, rfl, hq, by rw [ht]; exact hH⟩, hS.F ht⟩) hS.2.2 hd
theorem px_vret (hd : decode (xC M) pc = .ok (.return_, 1)) (hr : xR M = none) (hk : k = xmc M) (hn : n = xms M) (hq : Q none h) : PW E M Q k n pc lo [] h := by
  subst hk; subst hn
  intro l p e s m args below meth c C H locs ls hH hS hl
  have hlocks := C.2.2.2.2.1
  exact W.vret C.1 C.2.1 (C.2.2.2.1.trans hr) (fun t ht hW => ⟨⟨_, h, rfl, hq, by rw [ht]; exact hH⟩, hS.F ht⟩) hS.2.2 hd
theorem px_aret {a : Nat} {nm : String} (hd : decode (xC M) pc = .ok (.areturn, 1)) (hr : xR M = some (.object nm)) (hk : k = xmc M) (hn : n = xms M) (hq : Q (some (.ref a)) h) : PW E M Q k n pc lo [.ref a] h := by
  subst hk; subst hn
  intro l p e s m args below meth c C H locs ls hH hS hl
  have hlocks := C.2.2.2.2.1
  exact W.aret C.1 C.2.1 (C.2.2.2.1.trans hr) (Or.inl ⟨_, rfl⟩) (Or.inr ⟨_, rfl⟩) (fun t ht hW => ⟨⟨_, h, rfl, hq, by rw [ht]; exact hH⟩, hS.F ht⟩) hS.2.2 hd
end PXR
end
section
theorem va_P_one {D : va_G} {cl : List vw_C} {a : Nat} {e : va_E} {H : Heap} (h : va_at D cl (a, e) H) : va_P D cl [(a, e)] H := by
  intro k q hq
  have hz : k < 1 := (List.getElem?_eq_some_iff.mp hq).1
  rw [show k = 0 by omega] at hq
  cases hq
  exact h
theorem xHold_put {E : xE} {h : xHp} {H H1 : Heap} {a : Nat} {e0 e : va_E} (hH : xHold E h H) (ha : h a = some e0) (he : va_at E.1.1 vwCl (a, e) H1) (oq : ∀ q : Nat, q ≠ a → H1[q]? = H[q]?) (hz : H1.size = H.size) : xHold E (va_up h a (some e)) H1 := by
  obtain ⟨h1, h2, h3⟩ := hH
  refine ⟨fun q e' hq => ?_, fun q hq => ?_, by rw [hz]; exact h3⟩
  · by_cases hqa : q = a
    · subst hqa
      rw [va_up_self] at hq
      cases hq
      exact ⟨he, (h1 _ _ ha).2⟩
    · rw [va_up_ne _ _ hqa] at hq
      exact ⟨(h1 q e' hq).1.kept (oq q hqa), (h1 q e' hq).2⟩
  · rw [hz, ← h2 q hq]
    by_cases hqa : q = a
    · subst hqa
      rw [va_up_self, ha]
      simp
    · rw [va_up_ne _ _ hqa]
theorem xHold_new {E : xE} {h : xHp} {H H1 : Heap} {e : va_E} (hH : xHold E h H) (he : va_at E.1.1 vwCl (H.size, e) H1) (oq : ∀ q : Nat, q < H.size → H1[q]? = H[q]?) (hz : H1.size = H.size + 1) : xHold E (va_up h H.size (some e)) H1 := by
  obtain ⟨h1, h2, h3⟩ := hH
  refine ⟨fun q e' hq => ?_, fun q hq => ?_, by omega⟩
  · by_cases hqa : q = H.size
    · subst hqa
      rw [va_up_self] at hq
      cases hq
      exact ⟨he, h3⟩
    · rw [va_up_ne _ _ hqa] at hq
      exact ⟨(h1 q e' hq).1.kept (oq q (h1 q e' hq).1.lt), (h1 q e' hq).2⟩
  · rw [hz]
    by_cases hqa : q = H.size
    · subst hqa
      rw [va_up_self]
      simp
    · rw [va_up_ne _ _ hqa, h2 q hq]
      omega
def xFL (own : String) (idx : Nat) (ref nm d : String) : Prop := Cond.fieldLink own idx ref nm d ∈ GW ∨ ∃ host, Cond.fieldLinkNest own idx ref nm d host ∈ NW
def xML (own : String) (idx : Nat) (y : MethodName) : Prop := Cond.methodLink own idx y ∈ GW ∨ ∃ host, Cond.methodLinkNest own idx y host ∈ NW
def xCl (ci : Nat) (C : String) (T : u_T) (N : Nat) (ty0 : Nat → FieldType) : Prop := vwCl[ci]? = some (C, T, N) ∧ (∀ w ∈ u_ws C T N, w ∈ GW) ∧ (∀ k, k < N → parseFieldDescriptor (T k).2.2.1 = some (ty0 k)) ∧ (∀ a, a < N → ∀ b, b < N → a ≠ b → (T a).2.1 ≠ (T b).2.1)
section PXH
variable {E : xE} {M : xM} {Q : Option Value → xHp → Prop} {k n pc : Nat} {lo : List (Option Value)} {r : List Value} {h : xHp}
theorem px_get {ci N idx a : Nat} {Cn : String} {T : u_T} {ty0 : Nat → FieldType} {fs : List Value} {v : Value} (hk : xCl ci Cn T N ty0) (j : Nat) (hd : decode (xC M) pc = .ok (.getfield idx, 3)) (hl : xFL (xY M).cls idx (T j).1 (T j).2.1 (T j).2.2.1) (he : h a = some (.inr (ci, fs))) (hj : j < N) (hv : fs[j]? = some v) (kk : PW E M Q k n (pc + 3) lo (v :: r) h) : PW E M Q k n pc lo (.ref a :: r) h := by
  intro l p e s m args below meth c C H locs ls hH hS hlv
  rcases hl with hl | ⟨host, hl⟩
  · exact va_get (ws := [(a, .inr (ci, fs))]) C.1 C.2.1 C.2.2.2.2.2.2.1 hk.2.1 C.2.2.2.2.2.1 C.2.2.2.2.2.2.2.1.1 (va_P_one (hH.1 a _ he).1) 0 rfl hk.1 j hj (C.2.2.2.2.2.2.1 _ hl) (fun _ h9 => h9) hv hd (kk l p e s m args below meth c C H locs ls hH hS hlv)
  · exact va_getN (ws := [(a, .inr (ci, fs))]) C.1 C.2.1 C.2.2.2.2.2.2.1 hk.2.1 C.2.2.2.2.2.1 C.2.2.2.2.2.2.2.1.1 (va_P_one (hH.1 a _ he).1) 0 rfl hk.1 j hj (va_Nw.use rfl (C.2.2.2.2.2.2.2.1.2 _ hl)) (fun _ h9 => h9) hv hd (kk l p e s m args below meth c C H locs ls hH hS hlv)
theorem px_put {ci N idx a : Nat} {Cn : String} {T : u_T} {ty0 : Nat → FieldType} {fs : List Value} {v : Value} (hk : xCl ci Cn T N ty0) (j : Nat) (hd : decode (xC M) pc = .ok (.putfield idx, 3)) (hl : xFL (xY M).cls idx (T j).1 (T j).2.1 (T j).2.2.1) (he : h a = some (.inr (ci, fs))) (hj : j < N) (hlen : j < fs.length) (hfin : (T j).2.2.2 = false) (hn : narrow (ty0 j) v = v) (hfit : fits (ty0 j) v = true) (kk : PW E M Q k n (pc + 3) lo r (va_up h a (some (.inr (ci, fs.set j v))))) : PW E M Q k n pc lo (v :: .ref a :: r) h := by
  intro l p e s m args below meth c C H locs ls hH hS hlv
  obtain ⟨hc, hin, hty, hnm⟩ := hk
  have hts := C.2.2.2.2.2.2.1
  have hK := C.2.2.2.2.2.2.2.1.1
  have hap := va_apart (own := "") hts hin ty0 hty hnm hK hc
  obtain ⟨⟨r', h1, cell, q1, q2, q3, q4⟩, hza⟩ := hH.1 a _ he
  have hr : r' = (Cn, T, N) := Option.some.inj (h1.symm.trans hc)
  subst hr
  obtain ⟨hSl, hfc, kC, hkC, hkind⟩ := hK.1 ci _ hc
  obtain ⟨cf, kf, fi, f, hi, hsl⟩ := hSl j hj
  have hlay := hts _ (hin _ (u_in_lay hj))
  unfold u_lay at hlay
  rw [if_neg (by rw [hfin]; decide)] at hlay
  have hst := (u_facts hfc hkC (u_lays hts hin hj) hi).1
  have h6 := u_store hfc hkC hkind hlay hi (hty j hj) hn hfit
  have fin : ∀ H' : Heap, H'[a]? = some (cell.setSlot f.slot v) → H'.size = H.size → (∀ q, q ≠ a → H'[q]? = H[q]?) → W p l e (xRm M) s m args below meth c H' (locs ++ [⟨a, f.slot⟩]) k n (MQ below (xPost E Q) args s (xmc M) (xms M) (xA E)) (F0 m (pc + 3) ls r) := by
    intro H' e1 e2 e3
    rw [hsl] at e1 ⊢
    exact kk l p e s m args below meth c C H' _ ls (xHold_put hH he ⟨_, hc, t_OB.to (V := updV (vp_V fs) j v) ⟨_, e1, q2, q3, t_set q4 hap hj v⟩ (fun i _ => vp_updV_set hlen v i)⟩ e3 e2) (hS.put e2 e3 hza) hlv
  rcases hl with hl | ⟨host, hl⟩
  · exact W.putK C.1 C.2.1 (f := f) ⟨C.2.2.2.2.2.1, hts _ hl, ⟨_, _, _, hi⟩, hst⟩ (by rw [q2]; exact h6) q1 q3 (by rw [hsl]; exact k2_hasslot (q4 j hj)) rfl rfl hd fin
  · exact va_WputK C.1 C.2.1 (f := f) C.2.2.2.2.2.1 (va_Nw.use rfl (C.2.2.2.2.2.2.2.1.2 _ hl)) hi hst (by rw [q2]; exact h6) q1 q3 (by rw [hsl]; exact k2_hasslot (q4 j hj)) rfl rfl hd fin
theorem px_putF {ci N idx a : Nat} {Cn : String} {T : u_T} {ty0 : Nat → FieldType} {fs : List Value} {v : Value} (hk : xCl ci Cn T N ty0) (j : Nat) (hd : decode (xC M) pc = .ok (.putfield idx, 3)) (hl : Cond.fieldLink (xY M).cls idx (T j).1 (T j).2.1 (T j).2.2.1 ∈ GW) (he : h a = some (.inr (ci, fs))) (hj : j < N) (hlen : j < fs.length) (hfin : (T j).2.2.2 = true) (hin2 : (xY M).name = "<init>") (hdecl : (T j).1 = (xY M).cls) (hn : narrow (ty0 j) v = v) (hfit : fits (ty0 j) v = true) (kk : PW E M Q k n (pc + 3) lo r (va_up h a (some (.inr (ci, fs.set j v))))) : PW E M Q k n pc lo (v :: .ref a :: r) h := by
  intro l p e s m args below meth c C H locs ls hH hS hlv
  obtain ⟨hc, hin, hty, hnm⟩ := hk
  have hts := C.2.2.2.2.2.2.1
  have hK := C.2.2.2.2.2.2.2.1.1
  have hown := C.2.2.2.2.2.1
  have hap := va_apart (own := "") hts hin ty0 hty hnm hK hc
  obtain ⟨⟨r', h1, cell, q1, q2, q3, q4⟩, hza⟩ := hH.1 a _ he
  have hr : r' = (Cn, T, N) := Option.some.inj (h1.symm.trans hc)
  subst hr
  obtain ⟨hSl, hfc, kC, hkC, hkind⟩ := hK.1 ci _ hc
  obtain ⟨cf, kf, fi, f, hi, hsl⟩ := hSl j hj
  have hlay := hts _ (hin _ (u_in_lay hj))
  unfold u_lay at hlay
  rw [if_pos hfin] at hlay
  have hst := (u_facts hfc hkC (u_lays hts hin hj) hi).1
  have hcf : m.cls = cf := by
    obtain ⟨_, _, c', _, _, _, -, -, hf', -, -, -, hown2, -⟩ := Cond.laysFinal_spec hlay
    have e1 : c' = cf := by have := hi.symm.trans hf'; simp at this; exact this.1.symm
    rw [hdecl] at hown2
    rw [← e1]; exact Option.some.inj (hown.symm.trans hown2)
  have h6 := u_fits hfc hkC hkind (Or.inr hlay) hi (hty j hj) hn hfit
  refine W.putFinK C.1 C.2.1 hown (hts _ hl) hi hst hcf (C.2.2.2.2.2.2.2.2.2.trans hin2) (by rw [q2]; exact h6) q1 q3 (by rw [hsl]; exact k2_hasslot (q4 j hj)) rfl rfl hd fun H' e1 e2 e3 => ?_
  rw [hsl] at e1 ⊢
  exact kk l p e s m args below meth c C H' _ ls (xHold_put hH he ⟨_, hc, t_OB.to (V := updV (vp_V fs) j v) ⟨_, e1, q2, q3, t_set q4 hap hj v⟩ (fun i _ => vp_updV_set hlen v i)⟩ e3 e2) (hS.put e2 e3 hza) hlv
theorem px_iald {a len : Nat} {f : Nat → Int32} {i : Int32} (hd : decode (xC M) pc = .ok (.iaload, 1)) (ha : h a = some (.inl (E.1.2 0, len, .inl f))) (hin : vp_in i len) (kk : PW E M Q k n (pc + 1) lo (.int (f i.toNatClampNeg) :: r) h) : PW E M Q k n pc lo (.int i :: .ref a :: r) h := fun l p e s m args below meth c C H locs ls hH hS hlv => va_iald C.1 C.2.1 C.2.2.2.2.2.2.2.1.1 (va_P_one (hH.1 a _ ha).1) 0 0 rfl rfl hin hd (kk l p e s m args below meth c C H locs ls hH hS hlv)
theorem px_cald {a len : Nat} {f : Nat → Int32} {i : Int32} (hd : decode (xC M) pc = .ok (.caload, 1)) (ha : h a = some (.inl (E.1.2 2, len, .inl f))) (hin : vp_in i len) (kk : PW E M Q k n (pc + 1) lo (.int (f i.toNatClampNeg) :: r) h) : PW E M Q k n pc lo (.int i :: .ref a :: r) h := fun l p e s m args below meth c C H locs ls hH hS hlv => va_cald C.1 C.2.1 C.2.2.2.2.2.2.2.1.1 (va_P_one (hH.1 a _ ha).1) 0 2 rfl rfl hin hd (kk l p e s m args below meth c C H locs ls hH hS hlv)
theorem px_lald {a len : Nat} {f : Nat → Int64} {i : Int32} (hd : decode (xC M) pc = .ok (.laload, 1)) (ha : h a = some (.inl (E.1.2 1, len, .inr (.inl f)))) (hin : vp_in i len) (kk : PW E M Q k n (pc + 1) lo (.long (f i.toNatClampNeg) :: r) h) : PW E M Q k n pc lo (.int i :: .ref a :: r) h := fun l p e s m args below meth c C H locs ls hH hS hlv => va_lald C.1 C.2.1 C.2.2.2.2.2.2.2.1.1 (va_P_one (hH.1 a _ ha).1) 0 1 rfl rfl hin hd (kk l p e s m args below meth c C H locs ls hH hS hlv)
theorem px_aald3 {a len : Nat} {f : Nat → Option Nat} {i : Int32} (hd : decode (xC M) pc = .ok (.aaload, 1)) (ha : h a = some (.inl (E.1.2 3, len, .inr (.inr (.inr (.inr f)))))) (hin : vp_in i len) (kk : PW E M Q k n (pc + 1) lo (va_rf (f i.toNatClampNeg) :: r) h) : PW E M Q k n pc lo (.int i :: .ref a :: r) h := fun l p e s m args below meth c C H locs ls hH hS hlv => va_aldq C.1 C.2.1 C.2.2.2.2.2.2.2.1.1 (va_P_one (hH.1 a _ ha).1) 0 3 rfl rfl hin hd (kk l p e s m args below meth c C H locs ls hH hS hlv)
theorem px_aald4 {a len : Nat} {f : Nat → Option Nat} {i : Int32} (hd : decode (xC M) pc = .ok (.aaload, 1)) (ha : h a = some (.inl (E.1.2 4, len, .inr (.inr (.inr (.inr f)))))) (hin : vp_in i len) (kk : PW E M Q k n (pc + 1) lo (va_rf (f i.toNatClampNeg) :: r) h) : PW E M Q k n pc lo (.int i :: .ref a :: r) h := fun l p e s m args below meth c C H locs ls hH hS hlv => va_aldq C.1 C.2.1 C.2.2.2.2.2.2.2.1.1 (va_P_one (hH.1 a _ ha).1) 0 4 rfl rfl hin hd (kk l p e s m args below meth c C H locs ls hH hS hlv)
theorem px_iast {a len : Nat} {f : Nat → Int32} {i x : Int32} (hd : decode (xC M) pc = .ok (.iastore, 1)) (ha : h a = some (.inl (E.1.2 0, len, .inl f))) (hin : vp_in i len) (kk : PW E M Q k n (pc + 1) lo r (va_up h a (some (.inl (E.1.2 0, len, .inl (upd f i.toNatClampNeg x)))))) : PW E M Q k n pc lo (.int x :: .int i :: .ref a :: r) h := by
  intro l p e s m args below meth c C H locs ls hH hS hlv
  have hK := C.2.2.2.2.2.2.2.1.1
  obtain ⟨hc, hza⟩ := hH.1 a _ ha
  refine W.iast C.1 C.2.1 hc ((hK.2 0 (E.1.2 0, .int) rfl).1 len (fun j => .int (f j))) (fun q => by cases q) (by show ¬ (i < 0 ∨ (arrV _ _ _).slots.size ≤ _); rw [arrV_size]; exact hin) rfl rfl hd fun H1 e1 z oq => ?_
  refine kk l p e s m args below meth c C H1 _ ls (xHold_put hH ha ?_ oq z) (hS.put z oq hza) hlv
  show H1[a]? = some (vp_cell _ _)
  rw [e1, vp_cell_i, vp_cell_i, arrV_store]
  congr 2
  funext q
  by_cases hq : q = i.toNatClampNeg
  · subst hq
    simp [updV, upd]
  · simp [updV, upd, hq]
theorem px_cast {a len : Nat} {f : Nat → Int32} {i x : Int32} (hd : decode (xC M) pc = .ok (.castore, 1)) (ha : h a = some (.inl (E.1.2 2, len, .inl f))) (hin : vp_in i len) (kk : PW E M Q k n (pc + 1) lo r (va_up h a (some (.inl (E.1.2 2, len, .inl (upd f i.toNatClampNeg (vp_nar .char x))))))) : PW E M Q k n pc lo (.int x :: .int i :: .ref a :: r) h := by
  intro l p e s m args below meth c C H locs ls hH hS hlv
  have hK := C.2.2.2.2.2.2.2.1.1
  obtain ⟨hc, hza⟩ := hH.1 a _ ha
  refine W.cast C.1 C.2.1 hc ((hK.2 2 (E.1.2 2, .char) rfl).1 len (fun j => .int (f j))) (fun q => by cases q) (by show ¬ (i < 0 ∨ (arrV _ _ _).slots.size ≤ _); rw [arrV_size]; exact hin) rfl rfl hd fun H1 e1 z oq => ?_
  refine kk l p e s m args below meth c C H1 _ ls (xHold_put hH ha ?_ oq z) (hS.put z oq hza) hlv
  show H1[a]? = some (vp_cell _ _)
  rw [e1, vp_cell_i, vp_cell_i, arrV_store]
  congr 2
  funext q
  by_cases hq : q = i.toNatClampNeg
  · subst hq
    simp [updV, upd, vp_nar, narrow]
  · simp [updV, upd, hq]
theorem px_last {a len : Nat} {f : Nat → Int64} {i : Int32} {x : Int64} (hd : decode (xC M) pc = .ok (.lastore, 1)) (ha : h a = some (.inl (E.1.2 1, len, .inr (.inl f)))) (hin : vp_in i len) (kk : PW E M Q k n (pc + 1) lo r (va_up h a (some (.inl (E.1.2 1, len, .inr (.inl (vp_updL f i.toNatClampNeg x))))))) : PW E M Q k n pc lo (.long x :: .int i :: .ref a :: r) h := by
  intro l p e s m args below meth c C H locs ls hH hS hlv
  have hK := C.2.2.2.2.2.2.2.1.1
  obtain ⟨hc, hza⟩ := hH.1 a _ ha
  refine W.last C.1 C.2.1 hc ((hK.2 1 (E.1.2 1, .long) rfl).1 len (fun j => .long (f j))) (fun q => by cases q) (by show ¬ (i < 0 ∨ (arrV _ _ _).slots.size ≤ _); rw [arrV_size]; exact hin) rfl rfl hd fun H1 e1 z oq => ?_
  refine kk l p e s m args below meth c C H1 _ ls (xHold_put hH ha ?_ oq z) (hS.put z oq hza) hlv
  show H1[a]? = some (vp_cell _ _)
  rw [e1, vp_cell_l, vp_cell_l, arrV_store]
  congr 2
  funext q
  by_cases hq : q = i.toNatClampNeg
  · subst hq
    simp [updV, vp_updL]
  · simp [updV, vp_updL, hq]
/-- a call's run, to the pure judgement -/
theorem px_run {M2 : xM} {Q2 : Option Value → xHp → Prop} {st : List Value} {a : Array Value} {l : Launch} {p : Program} {e : Env} {s : State} {m : MethodId} {args : Array Value} {below : List Frame} {meth : Method} {c : Code} {H : Heap} {locs : List Loc} {ls : Array Slot} (C : xCx E M p s m args meth c) (hS : va_S (xA E) s.heap H locs) (hlv : xLv ls (xL M) lo)
    (hr : va_Run p l e (xRm M) s m args below meth c H locs k n (xmc M2) (xms M2) (F0 m pc ls st) r (xPost E Q2 a) (xA E)) (kk : ∀ (v : Option Value) (h' : xHp), Q2 v h' → PW E M Q (k + xmc M2) (n + xms M2) (pc + 3) lo (v.toList ++ r) h') :
    W p l e (xRm M) s m args below meth c H locs k n (MQ below (xPost E Q) args s (xmc M) (xms M) (xA E)) (F0 m pc ls st) := by
  intro T hT X
  obtain ⟨v, st₀, t, T', L, h0, X', hL, e1, e2, ⟨⟨rv, h', hv, hq, hh⟩, hz, hk⟩, st⟩ := hr T hT X
  cases hv
  rw [h0] at hz hk
  obtain ⟨t2, a1, b1⟩ := kk v h' hq l p e s m args below meth c C T'.heap (locs ++ L) ls (by rw [e1]; exact hh) ⟨Nat.le_trans hS.1 (by rw [e1]; exact hz), fun q h1 h2 => by rw [e1, hk q (Nat.lt_of_lt_of_le h1 hS.1) h2]; exact hS.2.1 q h1 h2, fun q hq => by
      rcases List.mem_append.mp hq with h | h
      · exact hS.2.2 q h
      · exact hL q h⟩ hlv T' rfl X'
  exact ⟨t2, st t2 a1, b1⟩
theorem xPre_blind (av : List Value) : FrameBlind (va_Pc av (xPre E h)) := by
  intro a U g mk q
  obtain ⟨q0, q1, q2, q3⟩ := q
  exact ⟨q0, q1, xVm_same (s := U) rfl q2, xStr_same (s := U) rfl q3⟩
theorem xPre_of {s U : State} {H : Heap} {locs : List Loc} (hV : xVm E s) (hSt : xStr E s s.heap) (hS : va_S (xA E) s.heap H locs) (hH : xHold E h H) (hU : U.heap = H) (hW : s.WarmedH U.vm) : xPre E h U :=
  ⟨by rw [hU]; exact hH, xVm_warm hW hV, by rw [hU]; exact xStr_warm hW (xStr_kept hSt (fun a h1 h2 => hS.2.1 a h1 h2))⟩
def xMW (M : xM) (np : Nat) : Prop := Cond.code (xY M) (xC M) (xL M) (xR M) ∈ GW ∧ Cond.initialized (xY M).cls ∈ GW ∧ ((xY M).cls ≠ "java/lang/invoke/MethodHandle" ∧ (xY M).cls ≠ "java/lang/invoke/VarHandle" ∧ (parseMethodDescriptor (xY M).desc).map (fun d => d.parameters.length) = some np)
theorem px_callV {M2 : xM} {Q2 : Option Value → xHp → Prop} {idx np b ci N : Nat} {As fs st : List Value} {T : u_T} (hm : PMet E M2 (.ref b :: As) h Q2) (hw : xMW M2 np) (hi : Cond.instanceMethod (xY M2) ∈ GW) (hse : Cond.selects (xY M2).cls (xY M2) (xY M2) ∈ GW) (hl : xML (xY M).cls idx (xY M2)) (hd : decode (xC M) pc = .ok (.invokevirtual idx, 3)) (hb : h b = some (.inr (ci, fs))) (hc : vwCl[ci]? = some ((xY M2).cls, T, N)) (hR : xd M2 + 1 ≤ xd M ∧ 8 + (xL M2 + 11) + 39 * xd M2 ≤ 39 * xd M) (hn : As.length = np) (hst : st = As.reverse ++ .ref b :: r) (hcat : (r.map fun v => v.category).sum ≤ 8) (hf : k + xmc M2 ≤ xmc M ∧ n + xms M2 ≤ xms M)
    (kk : ∀ (v : Option Value) (h' : xHp), Q2 v h' → PW E M Q (k + xmc M2) (n + xms M2) (pc + 3) lo (v.toList ++ r) h') : PW E M Q k n pc lo st h := by
  subst hst
  intro l p e s m args below meth c C H locs ls hH hS hlv
  have hts := C.2.2.2.2.2.2.1
  have hrecv : ∃ cell : Cell, H[b]? = some cell ∧ cell.vm.isStatics = false ∧ s.vm.findClass (xY M2).cls = some cell.cls := va_recv (q := ((xY M2).cls, T, N)) C.2.2.2.2.2.2.2.1.1 (va_P_one (hH.1 b _ hb).1) hc (q0 := 0) rfl
  have hpre : ∀ U : State, U.heap = H → s.WarmedH U.vm → va_Pc (.ref b :: As) (xPre E h) (Value.ref b :: As).toArray U := fun U hU hW => ⟨rfl, xPre_of C.2.2.2.2.2.2.2.1 C.2.2.2.2.2.2.2.2.1 hS hH hU hW⟩
  rcases hl with hl | ⟨host, hl⟩
  · refine px_run (M2 := M2) C hS hlv (va_runV (bytes := xC M2) (maxL := xL M2) (ret := xR M2) ⟨C.1, C.2.1, C.2.2.1, C.2.2.2.2.2.1, hts⟩ (hm l) ⟨callB_of np hts (gw_cons hw.1) rfl rfl rfl (hts _ hw.2.1) (hts _ hl) hw.2.2 hR, hts _ hi, hts _ hse⟩ ⟨xPre_blind _, hrecv, hpre⟩ rfl hn hlv.1 rfl (lv_room hcat) hd hf) kk
  · refine px_run (M2 := M2) C hS hlv (va_runVN (bytes := xC M2) (maxL := xL M2) (ret := xR M2) (C := (xY M2).cls) (host := host) ⟨C.1, C.2.1, C.2.2.1, C.2.2.2.2.2.1, hts⟩ (hm l) ⟨va_cnB np hts (gw_cons hw.1) rfl rfl rfl (C.2.2.2.2.2.2.2.1.2 _ hl) (hts _ hw.2.1) hw.2.2 hR, hts _ hi, hts _ hse⟩ ⟨xPre_blind _, hrecv, hpre⟩ rfl hn hlv.1 rfl (lv_room hcat) hd hf) kk
theorem px_callS {M2 : xM} {Q2 : Option Value → xHp → Prop} {idx np : Nat} {As st : List Value} (hm : PMet E M2 As h Q2) (hw : xMW M2 np) (hi : Cond.static (xY M2) ∈ GW) (hl : xML (xY M).cls idx (xY M2)) (hd : decode (xC M) pc = .ok (.invokestatic idx, 3)) (hR : xd M2 + 1 ≤ xd M ∧ 8 + (xL M2 + 11) + 39 * xd M2 ≤ 39 * xd M) (hn : As.length = np) (hst : st = As.reverse ++ r) (hcat : (r.map fun v => v.category).sum ≤ 8) (hf : k + xmc M2 ≤ xmc M ∧ n + xms M2 ≤ xms M)
    (kk : ∀ (v : Option Value) (h' : xHp), Q2 v h' → PW E M Q (k + xmc M2) (n + xms M2) (pc + 3) lo (v.toList ++ r) h') : PW E M Q k n pc lo st h := by
  subst hst
  intro l p e s m args below meth c C H locs ls hH hS hlv
  have hts := C.2.2.2.2.2.2.1
  have hpre : ∀ U : State, U.heap = H → s.WarmedH U.vm → va_Pc As (xPre E h) As.toArray U := fun U hU hW => ⟨rfl, xPre_of C.2.2.2.2.2.2.2.1 C.2.2.2.2.2.2.2.2.1 hS hH hU hW⟩
  rcases hl with hl | ⟨host, hl⟩
  · refine px_run (M2 := M2) C hS hlv (va_runS (bytes := xC M2) (maxL := xL M2) (ret := xR M2) ⟨C.1, C.2.1, C.2.2.1, C.2.2.2.2.2.1, hts⟩ (hm l) ⟨callB_of np hts (gw_cons hw.1) rfl rfl rfl (hts _ hw.2.1) (hts _ hl) hw.2.2 hR, hts _ hi⟩ ⟨xPre_blind _, hpre⟩ rfl hn hlv.1 rfl (lv_room hcat) hd hf) kk
  · refine px_run (M2 := M2) C hS hlv (va_runSN (bytes := xC M2) (maxL := xL M2) (ret := xR M2) (host := host) ⟨C.1, C.2.1, C.2.2.1, C.2.2.2.2.2.1, hts⟩ (hm l) ⟨va_cnB np hts (gw_cons hw.1) rfl rfl rfl (C.2.2.2.2.2.2.2.1.2 _ hl) (hts _ hw.2.1) hw.2.2 hR, hts _ hi, trivial⟩ ⟨xPre_blind _, hpre⟩ rfl hn hlv.1 rfl (lv_room hcat) hd hf) kk
end PXH
end
section
def xSz (E : xE) (h : xHp) (sz : Nat) : Prop := E.2 0 ≤ sz ∧ ∀ a : Nat, E.2 0 ≤ a → ((h a).isSome = true ↔ a < sz)
theorem xSz_of {E : xE} {h : xHp} {sz : Nat} {H : Heap} (h1 : xSz E h sz) (h2 : xHold E h H) : H.size = sz := by
  obtain ⟨a1, a2⟩ := h1
  obtain ⟨-, b2, b3⟩ := h2
  have c1 := (a2 sz a1).symm.trans (b2 sz a1)
  have c2 := (a2 H.size b3).symm.trans (b2 H.size b3)
  omega
theorem xSz_new {E : xE} {h : xHp} {sz : Nat} {e : va_E} (h1 : xSz E h sz) : xSz E (va_up h sz (some e)) (sz + 1) := by
  obtain ⟨a1, a2⟩ := h1
  refine ⟨by omega, fun a ha => ?_⟩
  by_cases hs : a = sz
  · subst hs
    rw [va_up_self]
    simp
  · rw [va_up_ne _ _ hs, a2 a ha]
    omega
theorem xSz_put {E : xE} {h : xHp} {sz a : Nat} {e0 e : va_E} (h1 : xSz E h sz) (ha : h a = some e0) : xSz E (va_up h a (some e)) sz := by
  obtain ⟨a1, a2⟩ := h1
  refine ⟨a1, fun q hq => ?_⟩
  rw [← a2 q hq]
  by_cases hs : q = a
  · subst hs
    rw [va_up_self, ha]
    simp
  · rw [va_up_ne _ _ hs]
theorem xSz_cong {E : xE} {h h2 : xHp} {sz : Nat} (h1 : xSz E h sz) (he : ∀ a, E.2 0 ≤ a → (h2 a).isSome = (h a).isSome) : xSz E h2 sz := ⟨h1.1, fun a ha => by rw [he a ha]; exact h1.2 a ha⟩
section PXA
variable {E : xE} {M : xM} {Q : Option Value → xHp → Prop} {k n pc : Nat} {lo : List (Option Value)} {r : List Value} {h : xHp}
theorem px_new {ci N idx sz : Nat} {Cn : String} {T : u_T} {ty0 : Nat → FieldType} {fs : List Value} (hk : xCl ci Cn T N ty0) (hd : decode (xC M) pc = .ok (.new idx, 3)) (hl : Cond.classLink (xY M).cls idx Cn ∈ GW) (hins : Cond.instantiable Cn N ∈ GW) (hini : Cond.initialized Cn ∈ GW) (hsz : xSz E h sz) (hfs : ∀ j, j < N → defaultValue (ty0 j) = vp_V fs j) (hf : k + 1 ≤ xmc M ∧ n + N ≤ xms M) (kk : PW E M Q (k + 1) (n + N) (pc + 3) lo (.ref sz :: r) (va_up h sz (some (.inr (ci, fs))))) : PW E M Q k n pc lo r h := by
  intro l p e s m args below meth c C H locs ls hH hS hlv
  obtain ⟨hc, hin, hty, hnm⟩ := hk
  have hts := C.2.2.2.2.2.2.1
  have hK := C.2.2.2.2.2.2.2.1.1
  have hKn := hK.1 ci _ hc
  have hz := xSz_of hsz hH
  subst hz
  refine W.newcK C.1 C.2.1 C.2.2.2.2.2.1 (hts _ hl) (hts _ hins) (hts _ hini) rfl hd hf.1 hf.2 hKn.2.1 rfl fun H1 kC hkC e1 z1 o1 => ?_
  exact kk l p e s m args below meth c C H1 locs ls (xHold_new hH ⟨_, hc, (u_born ty0 hts hin hKn hkC e1 hty).to hfs⟩ o1 z1) ⟨Nat.le_trans hS.1 (by omega), fun x h1 h2 => (o1 x (Nat.lt_of_lt_of_le h1 hS.1)).trans (hS.2.1 x h1 h2), hS.2.2⟩ hlv
theorem px_newa {atype : ArrayType} {t0 sz len : Nat} {ty : FieldType} {a0 : vp_A} {i : Int32} (hd : decode (xC M) pc = .ok (.newarray atype, 2)) (hw : Cond.arrayClass (newarray.typeOf atype) ∈ GW) (hty : newarray.typeOf atype = ty) (ht : (xTys E)[t0]? = some (E.1.2 t0, ty)) (hra : ∀ (U : State) (c1 c2 : ClassId), va_RA U c1 ty → U.vm.findClass ("[" ++ ty.toString) = some c2 → c1 = c2) (ha : ∀ cA : ClassId, vp_cell cA a0 = arrV cA len (fun _ => defaultValue ty)) (hn : ¬ i < 0) (hN : i.toNatClampNeg = len) (hbytes : len * componentBytes ty ≤ 536870912) (hsz : xSz E h sz) (hf : k + 1 ≤ xmc M ∧ n + len ≤ xms M) (kk : PW E M Q (k + 1) (n + len) (pc + 2) lo (.ref sz :: r) (va_up h sz (some (.inl (E.1.2 t0, a0))))) : PW E M Q k n pc lo (.int i :: r) h := by
  subst hty
  intro l p e s m args below meth c C H locs ls hH hS hlv
  have hts := C.2.2.2.2.2.2.1
  have hK := C.2.2.2.2.2.2.2.1.1
  have hz := xSz_of hsz hH
  subst hz
  refine va_newaK C.1 C.2.1 (hts _ hw) rfl hd rfl hn hN hbytes hf.1 hf.2 rfl fun H1 cA e1 z1 o1 hAr hNm => ?_
  have hcA : E.1.2 t0 = cA := hra s _ _ (hK.2 t0 _ ht).2 hNm
  subst hcA
  exact kk l p e s m args below meth c C H1 locs ls (xHold_new hH (by show H1[H.size]? = some (vp_cell _ _); rw [ha]; exact e1) o1 z1) ⟨Nat.le_trans hS.1 (by omega), fun x h1 h2 => (o1 x (Nat.lt_of_lt_of_le h1 hS.1)).trans (hS.2.1 x h1 h2), hS.2.2⟩ hlv
theorem px_objInit {idx a : Nat} (hd : decode (xC M) pc = .ok (.invokespecial idx, 3)) (hl : Cond.methodLink (xY M).cls idx Lib.objectInit ∈ GW) (hi : Cond.instanceMethod Lib.objectInit ∈ GW) (hc : Cond.code Lib.objectInit ⟨#[0xb1]⟩ 1 none ∈ GW) (hR : 1 ≤ xd M) (hcat : (r.map fun v => v.category).sum ≤ 8) (kk : PW E M Q k n (pc + 3) lo r h) : PW E M Q k n pc lo (.ref a :: r) h := by
  intro l p e s m args below meth c C H locs ls hH hS hlv
  have hts := C.2.2.2.2.2.2.1
  refine W.objInit C.1 C.2.1 C.2.2.2.2.2.1 (hts _ hl) (hts _ hi) (hts _ hc) rfl (by rw [C.2.2.1]; exact hlv.1) rfl hd hR (by show 2 * 0 + _ + 12 ≤ 39 * xd M; omega) ?_
  exact W.eq (g2 := F0 m (pc + 3) ls r) rfl (kk l p e s m args below meth c C H locs ls hH hS hlv)
theorem px_callI {M2 : xM} {Q2 : Option Value → xHp → Prop} {idx np b : Nat} {As st : List Value} (hm : PMet E M2 (.ref b :: As) h Q2) (hw : xMW M2 np) (hi : Cond.instanceMethod (xY M2) ∈ GW) (hnm : (xY M2).name = "<init>") (hrt : xR M2 = none) (hl : xML (xY M).cls idx (xY M2)) (hd : decode (xC M) pc = .ok (.invokespecial idx, 3)) (hR : xd M2 + 1 ≤ xd M ∧ 8 + (xL M2 + 11) + 39 * xd M2 ≤ 39 * xd M) (hn : As.length = np) (hst : st = As.reverse ++ .ref b :: r) (hcat : (r.map fun v => v.category).sum ≤ 8) (hf : k + xmc M2 ≤ xmc M ∧ n + xms M2 ≤ xms M)
    (kk : ∀ (v : Option Value) (h' : xHp), Q2 v h' → PW E M Q (k + xmc M2) (n + xms M2) (pc + 3) lo (v.toList ++ r) h') : PW E M Q k n pc lo st h := by
  subst hst
  intro l p e s m args below meth c C H locs ls hH hS hlv
  have hts := C.2.2.2.2.2.2.1
  have hm := hm l
  have hw1 := hw.1
  rw [hrt] at hm hw1
  have hpre : ∀ U : State, U.heap = H → s.WarmedH U.vm → va_Pc (.ref b :: As) (xPre E h) (Value.ref b :: As).toArray U := fun U hU hW => ⟨rfl, xPre_of C.2.2.2.2.2.2.2.1 C.2.2.2.2.2.2.2.2.1 hS hH hU hW⟩
  rcases hl with hl | ⟨host, hl⟩
  · refine px_run (M2 := M2) C hS hlv (va_runI (bytes := xC M2) (maxL := xL M2) ⟨C.1, C.2.1, C.2.2.1, C.2.2.2.2.2.1, hts⟩ hm ⟨callB_of np hts (gw_cons hw1) rfl rfl rfl (hts _ hw.2.1) (hts _ hl) hw.2.2 hR, hnm, hts _ hi⟩ ⟨xPre_blind _, hpre⟩ rfl hn hlv.1 rfl (lv_room hcat) hd hf) kk
  · refine px_run (M2 := M2) C hS hlv (va_runIN (bytes := xC M2) (maxL := xL M2) (host := host) ⟨C.1, C.2.1, C.2.2.1, C.2.2.2.2.2.1, hts⟩ hm ⟨va_cnB np hts (gw_cons hw1) rfl rfl rfl (C.2.2.2.2.2.2.2.1.2 _ hl) (hts _ hw.2.1) hw.2.2 hR, hnm, hts _ hi⟩ ⟨xPre_blind _, hpre⟩ rfl hn hlv.1 rfl (lv_room hcat) hd hf) kk
theorem px_min {idx : Nat} {x y : Int32} (hd : decode (xC M) pc = .ok (.invokestatic idx, 3)) (hl : Cond.methodLink (xY M).cls idx Lib.Math.min.name ∈ GW) (h1 : Cond.static Lib.Math.min.name ∈ GW) (h2 : Cond.initialized "java/lang/Math" ∈ GW) (h3 : Cond.code Lib.Math.min.name Lib.Math.min.code 2 (some .int) ∈ GW) (hR : 1 ≤ xd M) (hcat : (r.map fun v => v.category).sum ≤ 8) (hf : k ≤ xmc M ∧ n ≤ xms M) (kk : PW E M Q k n (pc + 3) lo (.int (if y < x then y else x) :: r) h) : PW E M Q k n pc lo (.int y :: .int x :: r) h := by
  intro l p e s m args below meth c C H locs ls hH hS hlv
  have hts := C.2.2.2.2.2.2.1
  exact va_mmin C.1 C.2.1 (by rw [C.2.2.1]; exact hlv.1.symm) C.2.2.2.2.2.1 (hts _ hl) (hts _ h1) (hts _ h2) (hts _ h3) hR (by show _ + 13 ≤ 39 * xd M; omega) hf.1 hf.2 hd (kk l p e s m args below meth c C H locs ls hH hS hlv)
theorem px_max {idx : Nat} {x y : Int32} (hd : decode (xC M) pc = .ok (.invokestatic idx, 3)) (hl : Cond.methodLink (xY M).cls idx Lib.Math.max.name ∈ GW) (h1 : Cond.static Lib.Math.max.name ∈ GW) (h2 : Cond.initialized "java/lang/Math" ∈ GW) (h3 : Cond.code Lib.Math.max.name Lib.Math.max.code 2 (some .int) ∈ GW) (hR : 1 ≤ xd M) (hcat : (r.map fun v => v.category).sum ≤ 8) (hf : k ≤ xmc M ∧ n ≤ xms M) (kk : PW E M Q k n (pc + 3) lo (.int (if x < y then y else x) :: r) h) : PW E M Q k n pc lo (.int y :: .int x :: r) h := by
  intro l p e s m args below meth c C H locs ls hH hS hlv
  have hts := C.2.2.2.2.2.2.1
  exact va_mmax C.1 C.2.1 (by rw [C.2.2.1]; exact hlv.1.symm) C.2.2.2.2.2.1 (hts _ hl) (hts _ h1) (hts _ h2) (hts _ h3) hR (by show _ + 13 ≤ 39 * xd M; omega) hf.1 hf.2 hd (kk l p e s m args below meth c C H locs ls hH hS hlv)
end PXA
end
section
theorem wi_RobbedOnceLaw : Cond.initialized "RobbedOnceLaw" ∈ GW := gw_t 0 (by decide +kernel) rfl
theorem wi_RobbedOnce : Cond.initialized "RobbedOnce" ∈ GW := gw_t 1 (by decide +kernel) rfl
theorem wi_RobbedOnce_Town : Cond.initialized "RobbedOnce$Town" ∈ GW := gw_t 2 (by decide +kernel) rfl
theorem wi_RobbedOnce_Past : Cond.initialized "RobbedOnce$Past" ∈ GW := gw_t 3 (by decide +kernel) rfl
theorem wi_RobbedOnce_Foretelling : Cond.initialized "RobbedOnce$Foretelling" ∈ GW := gw_t 4 (by decide +kernel) rfl
theorem wi_RobbedOnce_Tape : Cond.initialized "RobbedOnce$Tape" ∈ GW := gw_t 5 (by decide +kernel) rfl
theorem wi_RobbedOnce_Sheet : Cond.initialized "RobbedOnce$Sheet" ∈ GW := gw_t 6 (by decide +kernel) rfl
theorem wi_RobbedOnceModel : Cond.initialized "RobbedOnceModel" ∈ GW := gw_t 7 (by decide +kernel) rfl
theorem wi_java_lang_String : Cond.initialized "java/lang/String" ∈ GW := gw_t 8 (by decide +kernel) rfl
theorem wi_java_lang_StringLatin1 : Cond.initialized "java/lang/StringLatin1" ∈ GW := gw_t 9 (by decide +kernel) rfl
theorem wi_java_lang_Math : Cond.initialized "java/lang/Math" ∈ GW := gw_t 10 (by decide +kernel) rfl
theorem wi_java_lang_StringUTF16 : Cond.initialized "java/lang/StringUTF16" ∈ GW := gw_t 11 (by decide +kernel) rfl
theorem wi_jdk_internal_util_Preconditions : Cond.initialized "jdk/internal/util/Preconditions" ∈ GW := gw_t 12 (by decide +kernel) rfl
theorem wi_java_lang_Character : Cond.initialized "java/lang/Character" ∈ GW := gw_t 13 (by decide +kernel) rfl
theorem wi_java_lang_System : Cond.initialized "java/lang/System" ∈ GW := gw_t 14 (by decide +kernel) rfl
theorem wi_java_lang_Integer : Cond.initialized "java/lang/Integer" ∈ GW := gw_t 15 (by decide +kernel) rfl
theorem cl_L_7 : Cond.classLink RL 7 RX5 ∈ GW := gw_t 16 (by decide +kernel) rfl
theorem in_X5 : Cond.instantiable RX5 9 ∈ GW := gw_t 17 (by decide +kernel) rfl
theorem ml_L_9 : Cond.methodLink RL 9 yX5_init ∈ GW := gw_t 18 (by decide +kernel) rfl
theorem wm_X5_init : Cond.instanceMethod yX5_init ∈ GW := gw_t 19 (by decide +kernel) rfl
theorem wc_X5_init : Cond.code yX5_init cX5_init 2 none ∈ GW := gw_t 20 (by decide +kernel) rfl
theorem ml_X5_1 : Cond.methodLink RX5 1 Lib.objectInit ∈ GW := gw_t 21 (by decide +kernel) rfl
theorem wm_objectInit : Cond.instanceMethod Lib.objectInit ∈ GW := gw_t 22 (by decide +kernel) rfl
theorem wc_objectInit : Cond.code Lib.objectInit ⟨#[0xb1]⟩ 1 none ∈ GW := gw_t 23 (by decide +kernel) rfl
theorem cl_X5_7 : Cond.classLink RX5 7 RX4 ∈ GW := gw_t 24 (by decide +kernel) rfl
theorem in_X4 : Cond.instantiable RX4 13 ∈ GW := gw_t 25 (by decide +kernel) rfl
theorem ml_X5_9 : Cond.methodLinkNest RX5 9 yX4_init "RobbedOnce" ∈ NW := nw_t 26 (by decide +kernel) rfl
theorem wm_X4_init : Cond.instanceMethod yX4_init ∈ GW := gw_t 27 (by decide +kernel) rfl
theorem wc_X4_init : Cond.code yX4_init cX4_init 1 none ∈ GW := gw_t 28 (by decide +kernel) rfl
theorem ml_X4_3 : Cond.methodLink RX4 3 Lib.objectInit ∈ GW := gw_t 29 (by decide +kernel) rfl
theorem fl_X4_9 : Cond.fieldLink RX4 9 "RobbedOnce$Town" "kind" "[I" ∈ GW := gw_t 30 (by decide +kernel) rfl
theorem fl_X5_82 : Cond.fieldLinkNest RX5 82 "RobbedOnce$Town" "kind" "[I" "RobbedOnce" ∈ NW := nw_t 31 (by decide +kernel) rfl
theorem fl_X0_73 : Cond.fieldLinkNest RX0 73 "RobbedOnce$Town" "kind" "[I" "RobbedOnce" ∈ NW := nw_t 32 (by decide +kernel) rfl
theorem fl_X4_15 : Cond.fieldLink RX4 15 "RobbedOnce$Town" "sort" "[I" ∈ GW := gw_t 33 (by decide +kernel) rfl
theorem fl_X5_86 : Cond.fieldLinkNest RX5 86 "RobbedOnce$Town" "sort" "[I" "RobbedOnce" ∈ NW := nw_t 34 (by decide +kernel) rfl
theorem fl_X4_18 : Cond.fieldLink RX4 18 "RobbedOnce$Town" "dear" "[I" ∈ GW := gw_t 35 (by decide +kernel) rfl
theorem fl_X5_89 : Cond.fieldLinkNest RX5 89 "RobbedOnce$Town" "dear" "[I" "RobbedOnce" ∈ NW := nw_t 36 (by decide +kernel) rfl
theorem fl_X3_66 : Cond.fieldLinkNest RX3 66 "RobbedOnce$Town" "dear" "[I" "RobbedOnce" ∈ NW := nw_t 37 (by decide +kernel) rfl
theorem fl_X0_80 : Cond.fieldLinkNest RX0 80 "RobbedOnce$Town" "dear" "[I" "RobbedOnce" ∈ NW := nw_t 38 (by decide +kernel) rfl
theorem fl_X4_21 : Cond.fieldLink RX4 21 "RobbedOnce$Town" "careful" "[I" ∈ GW := gw_t 39 (by decide +kernel) rfl
theorem fl_X5_92 : Cond.fieldLinkNest RX5 92 "RobbedOnce$Town" "careful" "[I" "RobbedOnce" ∈ NW := nw_t 40 (by decide +kernel) rfl
theorem fl_X0_69 : Cond.fieldLinkNest RX0 69 "RobbedOnce$Town" "careful" "[I" "RobbedOnce" ∈ NW := nw_t 41 (by decide +kernel) rfl
theorem fl_X4_24 : Cond.fieldLink RX4 24 "RobbedOnce$Town" "skill" "[I" ∈ GW := gw_t 42 (by decide +kernel) rfl
theorem fl_X5_112 : Cond.fieldLinkNest RX5 112 "RobbedOnce$Town" "skill" "[I" "RobbedOnce" ∈ NW := nw_t 43 (by decide +kernel) rfl
theorem fl_X4_27 : Cond.fieldLink RX4 27 "RobbedOnce$Town" "wants" "[I" ∈ GW := gw_t 44 (by decide +kernel) rfl
theorem fl_X5_115 : Cond.fieldLinkNest RX5 115 "RobbedOnce$Town" "wants" "[I" "RobbedOnce" ∈ NW := nw_t 45 (by decide +kernel) rfl
theorem fl_X5_57 : Cond.fieldLinkNest RX5 57 "RobbedOnce$Town" "apprentices" "I" "RobbedOnce" ∈ NW := nw_t 46 (by decide +kernel) rfl
theorem fl_X4_43 : Cond.fieldLink RX4 43 "RobbedOnce$Town" "apprentices" "I" ∈ GW := gw_t 47 (by decide +kernel) rfl
theorem fl_X4_46 : Cond.fieldLink RX4 46 "RobbedOnce$Town" "thieves" "I" ∈ GW := gw_t 48 (by decide +kernel) rfl
theorem fl_X5_68 : Cond.fieldLinkNest RX5 68 "RobbedOnce$Town" "thieves" "I" "RobbedOnce" ∈ NW := nw_t 49 (by decide +kernel) rfl
theorem fl_X0_62 : Cond.fieldLinkNest RX0 62 "RobbedOnce$Town" "thieves" "I" "RobbedOnce" ∈ NW := nw_t 50 (by decide +kernel) rfl
theorem fl_X4_49 : Cond.fieldLink RX4 49 "RobbedOnce$Town" "shows" "I" ∈ GW := gw_t 51 (by decide +kernel) rfl
theorem fl_X5_95 : Cond.fieldLinkNest RX5 95 "RobbedOnce$Town" "shows" "I" "RobbedOnce" ∈ NW := nw_t 52 (by decide +kernel) rfl
theorem fl_X0_46 : Cond.fieldLinkNest RX0 46 "RobbedOnce$Town" "shows" "I" "RobbedOnce" ∈ NW := nw_t 53 (by decide +kernel) rfl
theorem fl_X4_52 : Cond.fieldLink RX4 52 "RobbedOnce$Town" "sworn" "I" ∈ GW := gw_t 54 (by decide +kernel) rfl
theorem fl_X0_30 : Cond.fieldLinkNest RX0 30 "RobbedOnce$Town" "sworn" "I" "RobbedOnce" ∈ NW := nw_t 55 (by decide +kernel) rfl
theorem fl_X5_102 : Cond.fieldLinkNest RX5 102 "RobbedOnce$Town" "sworn" "I" "RobbedOnce" ∈ NW := nw_t 56 (by decide +kernel) rfl
theorem fl_X4_55 : Cond.fieldLink RX4 55 "RobbedOnce$Town" "night" "I" ∈ GW := gw_t 57 (by decide +kernel) rfl
theorem fl_X5_144 : Cond.fieldLinkNest RX5 144 "RobbedOnce$Town" "night" "I" "RobbedOnce" ∈ NW := nw_t 58 (by decide +kernel) rfl
theorem fl_X4_30 : Cond.fieldLink RX4 30 "RobbedOnce$Town" "bar" "I" ∈ GW := gw_t 59 (by decide +kernel) rfl
theorem fl_X1_35 : Cond.fieldLinkNest RX1 35 "RobbedOnce$Town" "bar" "I" "RobbedOnce" ∈ NW := nw_t 60 (by decide +kernel) rfl
theorem fl_X5_75 : Cond.fieldLinkNest RX5 75 "RobbedOnce$Town" "bar" "I" "RobbedOnce" ∈ NW := nw_t 61 (by decide +kernel) rfl
theorem fl_X3_35 : Cond.fieldLinkNest RX3 35 "RobbedOnce$Town" "bar" "I" "RobbedOnce" ∈ NW := nw_t 62 (by decide +kernel) rfl
theorem fl_X0_55 : Cond.fieldLinkNest RX0 55 "RobbedOnce$Town" "bar" "I" "RobbedOnce" ∈ NW := nw_t 63 (by decide +kernel) rfl
theorem fl_X4_34 : Cond.fieldLink RX4 34 "RobbedOnce$Town" "draw" "I" ∈ GW := gw_t 64 (by decide +kernel) rfl
theorem fl_X5_137 : Cond.fieldLinkNest RX5 137 "RobbedOnce$Town" "draw" "I" "RobbedOnce" ∈ NW := nw_t 65 (by decide +kernel) rfl
theorem ac_int : Cond.arrayClass .int ∈ GW := gw_t 93 (by decide +kernel) rfl
theorem cl_X5_16 : Cond.classLink RX5 16 RX1 ∈ GW := gw_t 94 (by decide +kernel) rfl
theorem in_X1 : Cond.instantiable RX1 3 ∈ GW := gw_t 95 (by decide +kernel) rfl
theorem ml_X5_18 : Cond.methodLinkNest RX5 18 yX1_init "RobbedOnce" ∈ NW := nw_t 96 (by decide +kernel) rfl
theorem wm_X1_init : Cond.instanceMethod yX1_init ∈ GW := gw_t 97 (by decide +kernel) rfl
theorem wc_X1_init : Cond.code yX1_init cX1_init 2 none ∈ GW := gw_t 98 (by decide +kernel) rfl
theorem ml_X1_3 : Cond.methodLink RX1 3 Lib.objectInit ∈ GW := gw_t 99 (by decide +kernel) rfl
theorem cl_X1_9 : Cond.classLink RX1 9 RX4 ∈ GW := gw_t 100 (by decide +kernel) rfl
theorem ml_X1_17 : Cond.methodLinkNest RX1 17 yX4_init "RobbedOnce" ∈ NW := nw_t 102 (by decide +kernel) rfl
theorem fl_X1_11 : Cond.fieldLink RX1 11 "RobbedOnce$Past" "moments" "[LRobbedOnce$Town;" ∈ GW := gw_t 103 (by decide +kernel) rfl
theorem fl_X1_18 : Cond.fieldLink RX1 18 "RobbedOnce$Past" "next" "I" ∈ GW := gw_t 104 (by decide +kernel) rfl
theorem fl_X1_26 : Cond.fieldLink RX1 26 "RobbedOnce$Past" "known" "I" ∈ GW := gw_t 105 (by decide +kernel) rfl
theorem fl_X5_151 : Cond.fieldLinkNest RX5 151 "RobbedOnce$Past" "known" "I" "RobbedOnce" ∈ NW := nw_t 106 (by decide +kernel) rfl
theorem cl_X5_29 : Cond.classLink RX5 29 RX0 ∈ GW := gw_t 114 (by decide +kernel) rfl
theorem in_X0 : Cond.instantiable RX0 1 ∈ GW := gw_t 115 (by decide +kernel) rfl
theorem ml_X5_31 : Cond.methodLinkNest RX5 31 yX0_init "RobbedOnce" ∈ NW := nw_t 116 (by decide +kernel) rfl
theorem wm_X0_init : Cond.instanceMethod yX0_init ∈ GW := gw_t 117 (by decide +kernel) rfl
theorem wc_X0_init : Cond.code yX0_init cX0_init 1 none ∈ GW := gw_t 118 (by decide +kernel) rfl
theorem ml_X0_3 : Cond.methodLink RX0 3 Lib.objectInit ∈ GW := gw_t 119 (by decide +kernel) rfl
theorem cl_X0_9 : Cond.classLink RX0 9 RX4 ∈ GW := gw_t 120 (by decide +kernel) rfl
theorem ml_X0_11 : Cond.methodLinkNest RX0 11 yX4_init "RobbedOnce" ∈ NW := nw_t 121 (by decide +kernel) rfl
theorem fl_X0_12 : Cond.fieldLink RX0 12 "RobbedOnce$Foretelling" "trial" "LRobbedOnce$Town;" ∈ GW := gw_t 122 (by decide +kernel) rfl
theorem cl_X5_36 : Cond.classLink RX5 36 RX3 ∈ GW := gw_t 126 (by decide +kernel) rfl
theorem in_X3 : Cond.instantiable RX3 3 ∈ GW := gw_t 127 (by decide +kernel) rfl
theorem ml_X5_38 : Cond.methodLinkNest RX5 38 yX3_init "RobbedOnce" ∈ NW := nw_t 128 (by decide +kernel) rfl
theorem wm_X3_init : Cond.instanceMethod yX3_init ∈ GW := gw_t 129 (by decide +kernel) rfl
theorem wc_X3_init : Cond.code yX3_init cX3_init 1 none ∈ GW := gw_t 130 (by decide +kernel) rfl
theorem ml_X3_3 : Cond.methodLink RX3 3 Lib.objectInit ∈ GW := gw_t 131 (by decide +kernel) rfl
theorem fl_X3_9 : Cond.fieldLink RX3 9 "RobbedOnce$Tape" "letters" "[C" ∈ GW := gw_t 132 (by decide +kernel) rfl
theorem fl_X3_15 : Cond.fieldLink RX3 15 "RobbedOnce$Tape" "size" "I" ∈ GW := gw_t 133 (by decide +kernel) rfl
theorem fl_X5_121 : Cond.fieldLinkNest RX5 121 "RobbedOnce$Tape" "size" "I" "RobbedOnce" ∈ NW := nw_t 134 (by decide +kernel) rfl
theorem fl_X3_19 : Cond.fieldLink RX3 19 "RobbedOnce$Tape" "place" "I" ∈ GW := gw_t 135 (by decide +kernel) rfl
theorem fl_X5_131 : Cond.fieldLinkNest RX5 131 "RobbedOnce$Tape" "place" "I" "RobbedOnce" ∈ NW := nw_t 136 (by decide +kernel) rfl
theorem ac_char : Cond.arrayClass .char ∈ GW := gw_t 144 (by decide +kernel) rfl
theorem cl_X5_46 : Cond.classLink RX5 46 RX2 ∈ GW := gw_t 145 (by decide +kernel) rfl
theorem in_X2 : Cond.instantiable RX2 3 ∈ GW := gw_t 147 (by decide +kernel) rfl
theorem ml_X5_52 : Cond.methodLinkNest RX5 52 yX2_init "RobbedOnce" ∈ NW := nw_t 148 (by decide +kernel) rfl
theorem wm_X2_init : Cond.instanceMethod yX2_init ∈ GW := gw_t 149 (by decide +kernel) rfl
theorem wc_X2_init : Cond.code yX2_init cX2_init 1 none ∈ GW := gw_t 150 (by decide +kernel) rfl
theorem ml_X2_3 : Cond.methodLink RX2 3 Lib.objectInit ∈ GW := gw_t 151 (by decide +kernel) rfl
theorem fl_X2_9 : Cond.fieldLink RX2 9 "RobbedOnce$Sheet" "items" "[J" ∈ GW := gw_t 152 (by decide +kernel) rfl
theorem fl_X0_83 : Cond.fieldLinkNest RX0 83 "RobbedOnce$Sheet" "items" "[J" "RobbedOnce" ∈ NW := nw_t 153 (by decide +kernel) rfl
theorem fl_X5_259 : Cond.fieldLinkNest RX5 259 "RobbedOnce$Sheet" "items" "[J" "RobbedOnce" ∈ NW := nw_t 154 (by decide +kernel) rfl
theorem fl_X2_15 : Cond.fieldLink RX2 15 "RobbedOnce$Sheet" "lane" "I" ∈ GW := gw_t 155 (by decide +kernel) rfl
theorem fl_X5_245 : Cond.fieldLinkNest RX5 245 "RobbedOnce$Sheet" "lane" "I" "RobbedOnce" ∈ NW := nw_t 156 (by decide +kernel) rfl
theorem fl_X2_19 : Cond.fieldLink RX2 19 "RobbedOnce$Sheet" "size" "I" ∈ GW := gw_t 157 (by decide +kernel) rfl
theorem fl_X5_248 : Cond.fieldLinkNest RX5 248 "RobbedOnce$Sheet" "size" "I" "RobbedOnce" ∈ NW := nw_t 158 (by decide +kernel) rfl
theorem ac_long : Cond.arrayClass .long ∈ GW := gw_t 166 (by decide +kernel) rfl
theorem fl_X5_10 : Cond.fieldLink RX5 10 "RobbedOnce" "now" "LRobbedOnce$Town;" ∈ GW := gw_t 167 (by decide +kernel) rfl
theorem fl_X5_19 : Cond.fieldLink RX5 19 "RobbedOnce" "past" "LRobbedOnce$Past;" ∈ GW := gw_t 168 (by decide +kernel) rfl
theorem fl_X5_23 : Cond.fieldLink RX5 23 "RobbedOnce" "keptTown" "LRobbedOnce$Town;" ∈ GW := gw_t 169 (by decide +kernel) rfl
theorem fl_X5_26 : Cond.fieldLink RX5 26 "RobbedOnce" "keptPast" "LRobbedOnce$Past;" ∈ GW := gw_t 170 (by decide +kernel) rfl
theorem fl_X5_216 : Cond.fieldLink RX5 216 "RobbedOnce" "kept" "Z" ∈ GW := gw_t 171 (by decide +kernel) rfl
theorem fl_X5_32 : Cond.fieldLink RX5 32 "RobbedOnce" "foretelling" "LRobbedOnce$Foretelling;" ∈ GW := gw_t 172 (by decide +kernel) rfl
theorem fl_X5_39 : Cond.fieldLink RX5 39 "RobbedOnce" "tape" "LRobbedOnce$Tape;" ∈ GW := gw_t 173 (by decide +kernel) rfl
theorem fl_X5_43 : Cond.fieldLink RX5 43 "RobbedOnce" "written" "LRobbedOnce$Town;" ∈ GW := gw_t 174 (by decide +kernel) rfl
theorem fl_X5_48 : Cond.fieldLink RX5 48 "RobbedOnce" "sheets" "[LRobbedOnce$Sheet;" ∈ GW := gw_t 175 (by decide +kernel) rfl
theorem ml_L_13 : Cond.methodLink RL 13 yX5_apprentice ∈ GW := gw_t 195 (by decide +kernel) rfl
theorem wm_X5_apprentice : Cond.instanceMethod yX5_apprentice ∈ GW := gw_t 196 (by decide +kernel) rfl
theorem we_X5_apprentice : Cond.selects RX5 yX5_apprentice yX5_apprentice ∈ GW := gw_t 197 (by decide +kernel) rfl
theorem wc_X5_apprentice : Cond.code yX5_apprentice cX5_apprentice 4 (some .int) ∈ GW := gw_t 198 (by decide +kernel) rfl
theorem ml_X5_53 : Cond.methodLink RX5 53 yX5_isWithin ∈ GW := gw_t 199 (by decide +kernel) rfl
theorem wt_X5_isWithin : Cond.static yX5_isWithin ∈ GW := gw_t 200 (by decide +kernel) rfl
theorem wc_X5_isWithin : Cond.code yX5_isWithin cX5_isWithin 3 (some .boolean) ∈ GW := gw_t 201 (by decide +kernel) rfl
theorem ml_X5_61 : Cond.methodLinkNest RX5 61 yX1_forget "RobbedOnce" ∈ NW := nw_t 202 (by decide +kernel) rfl
theorem wm_X1_forget : Cond.instanceMethod yX1_forget ∈ GW := gw_t 204 (by decide +kernel) rfl
theorem wc_X1_forget : Cond.code yX1_forget cX1_forget 1 none ∈ GW := gw_t 205 (by decide +kernel) rfl
theorem ml_X5_64 : Cond.methodLinkNest RX5 64 yX4_addApprentice "RobbedOnce" ∈ NW := nw_t 206 (by decide +kernel) rfl
theorem wm_X4_addApprentice : Cond.instanceMethod yX4_addApprentice ∈ GW := gw_t 208 (by decide +kernel) rfl
theorem wc_X4_addApprentice : Cond.code yX4_addApprentice cX4_addApprentice 5 (some .int) ∈ GW := gw_t 209 (by decide +kernel) rfl
theorem ml_X4_58 : Cond.methodLink RX4 58 yX4_setShown ∈ GW := gw_t 210 (by decide +kernel) rfl
theorem wm_X4_setShown : Cond.instanceMethod yX4_setShown ∈ GW := gw_t 212 (by decide +kernel) rfl
theorem wc_X4_setShown : Cond.code yX4_setShown cX4_setShown 3 none ∈ GW := gw_t 213 (by decide +kernel) rfl
theorem ml_L_18 : Cond.methodLink RL 18 yX5_thief ∈ GW := gw_t 214 (by decide +kernel) rfl
theorem wm_X5_thief : Cond.instanceMethod yX5_thief ∈ GW := gw_t 215 (by decide +kernel) rfl
theorem we_X5_thief : Cond.selects RX5 yX5_thief yX5_thief ∈ GW := gw_t 216 (by decide +kernel) rfl
theorem wc_X5_thief : Cond.code yX5_thief cX5_thief 3 (some .int) ∈ GW := gw_t 217 (by decide +kernel) rfl
theorem ml_X5_71 : Cond.methodLinkNest RX5 71 yX4_addThief "RobbedOnce" ∈ NW := nw_t 218 (by decide +kernel) rfl
theorem wm_X4_addThief : Cond.instanceMethod yX4_addThief ∈ GW := gw_t 220 (by decide +kernel) rfl
theorem wc_X4_addThief : Cond.code yX4_addThief cX4_addThief 4 (some .int) ∈ GW := gw_t 221 (by decide +kernel) rfl
theorem ml_L_23 : Cond.methodLink RL 23 yX5_bar ∈ GW := gw_t 222 (by decide +kernel) rfl
theorem wm_X5_bar : Cond.instanceMethod yX5_bar ∈ GW := gw_t 223 (by decide +kernel) rfl
theorem we_X5_bar : Cond.selects RX5 yX5_bar yX5_bar ∈ GW := gw_t 224 (by decide +kernel) rfl
theorem wc_X5_bar : Cond.code yX5_bar cX5_bar 3 (some .int) ∈ GW := gw_t 225 (by decide +kernel) rfl
theorem ml_L_28 : Cond.methodLink RL 28 yX5_of ∈ GW := gw_t 226 (by decide +kernel) rfl
theorem wm_X5_of : Cond.instanceMethod yX5_of ∈ GW := gw_t 227 (by decide +kernel) rfl
theorem we_X5_of : Cond.selects RX5 yX5_of yX5_of ∈ GW := gw_t 228 (by decide +kernel) rfl
theorem wc_X5_of : Cond.code yX5_of cX5_of 3 (some .int) ∈ GW := gw_t 229 (by decide +kernel) rfl
theorem ml_X5_78 : Cond.methodLink RX5 78 yX5_isApprentice ∈ GW := gw_t 230 (by decide +kernel) rfl
theorem wm_X5_isApprentice : Cond.instanceMethod yX5_isApprentice ∈ GW := gw_t 232 (by decide +kernel) rfl
theorem wc_X5_isApprentice : Cond.code yX5_isApprentice cX5_isApprentice 2 (some .boolean) ∈ GW := gw_t 233 (by decide +kernel) rfl
theorem ml_X5_98 : Cond.methodLink RX5 98 yX5_has ∈ GW := gw_t 234 (by decide +kernel) rfl
theorem wt_X5_has : Cond.static yX5_has ∈ GW := gw_t 235 (by decide +kernel) rfl
theorem wc_X5_has : Cond.code yX5_has cX5_has 2 (some .boolean) ∈ GW := gw_t 236 (by decide +kernel) rfl
theorem ml_X5_105 : Cond.methodLinkNest RX5 105 yX4_thievesWhoMayRob "RobbedOnce" ∈ NW := nw_t 237 (by decide +kernel) rfl
theorem wm_X4_thievesWhoMayRob : Cond.instanceMethod yX4_thievesWhoMayRob ∈ GW := gw_t 239 (by decide +kernel) rfl
theorem wc_X4_thievesWhoMayRob : Cond.code yX4_thievesWhoMayRob cX4_thievesWhoMayRob 4 (some .int) ∈ GW := gw_t 240 (by decide +kernel) rfl
theorem ml_X4_66 : Cond.methodLink RX4 66 yX4_mayRob ∈ GW := gw_t 241 (by decide +kernel) rfl
theorem wm_X4_mayRob : Cond.instanceMethod yX4_mayRob ∈ GW := gw_t 243 (by decide +kernel) rfl
theorem wc_X4_mayRob : Cond.code yX4_mayRob cX4_mayRob 4 (some .boolean) ∈ GW := gw_t 244 (by decide +kernel) rfl
theorem ml_L_32 : Cond.methodLink RL 32 yX5_at ∈ GW := gw_t 245 (by decide +kernel) rfl
theorem wm_X5_at : Cond.instanceMethod yX5_at ∈ GW := gw_t 246 (by decide +kernel) rfl
theorem we_X5_at : Cond.selects RX5 yX5_at yX5_at ∈ GW := gw_t 247 (by decide +kernel) rfl
theorem wc_X5_at : Cond.code yX5_at cX5_at 3 (some .int) ∈ GW := gw_t 248 (by decide +kernel) rfl
theorem ml_X5_109 : Cond.methodLink RX5 109 yX5_isThief ∈ GW := gw_t 249 (by decide +kernel) rfl
theorem wm_X5_isThief : Cond.instanceMethod yX5_isThief ∈ GW := gw_t 251 (by decide +kernel) rfl
theorem wc_X5_isThief : Cond.code yX5_isThief cX5_isThief 2 (some .boolean) ∈ GW := gw_t 252 (by decide +kernel) rfl
theorem ml_X5_118 : Cond.methodLinkNest RX5 118 yX4_whomMayRob "RobbedOnce" ∈ NW := nw_t 253 (by decide +kernel) rfl
theorem wm_X4_whomMayRob : Cond.instanceMethod yX4_whomMayRob ∈ GW := gw_t 255 (by decide +kernel) rfl
theorem wc_X4_whomMayRob : Cond.code yX4_whomMayRob cX4_whomMayRob 4 (some .int) ∈ GW := gw_t 256 (by decide +kernel) rfl
theorem ml_L_36 : Cond.methodLink RL 36 yX5_type ∈ GW := gw_t 257 (by decide +kernel) rfl
theorem wm_X5_type : Cond.instanceMethod yX5_type ∈ GW := gw_t 258 (by decide +kernel) rfl
theorem we_X5_type : Cond.selects RX5 yX5_type yX5_type ∈ GW := gw_t 259 (by decide +kernel) rfl
theorem wc_X5_type : Cond.code yX5_type cX5_type 2 (some .int) ∈ GW := gw_t 260 (by decide +kernel) rfl
theorem ml_X5_124 : Cond.methodLinkNest RX5 124 yX3_add "RobbedOnce" ∈ NW := nw_t 261 (by decide +kernel) rfl
theorem wm_X3_add : Cond.instanceMethod yX3_add ∈ GW := gw_t 263 (by decide +kernel) rfl
theorem wc_X3_add : Cond.code yX3_add cX3_add 2 (some .int) ∈ GW := gw_t 264 (by decide +kernel) rfl
theorem ml_L_40 : Cond.methodLink RL 40 yX5_town ∈ GW := gw_t 265 (by decide +kernel) rfl
theorem wm_X5_town : Cond.instanceMethod yX5_town ∈ GW := gw_t 266 (by decide +kernel) rfl
theorem we_X5_town : Cond.selects RX5 yX5_town yX5_town ∈ GW := gw_t 267 (by decide +kernel) rfl
theorem wc_X5_town : Cond.code yX5_town cX5_town 3 (some .int) ∈ GW := gw_t 268 (by decide +kernel) rfl
theorem ml_X5_127 : Cond.methodLinkNest RX5 127 yX3_readTown "RobbedOnce" ∈ NW := nw_t 269 (by decide +kernel) rfl
theorem wm_X3_readTown : Cond.instanceMethod yX3_readTown ∈ GW := gw_t 271 (by decide +kernel) rfl
theorem wc_X3_readTown : Cond.code yX3_readTown cX3_readTown 3 (some .boolean) ∈ GW := gw_t 272 (by decide +kernel) rfl
theorem ml_X3_22 : Cond.methodLinkNest RX3 22 yX4_empty "RobbedOnce" ∈ NW := nw_t 273 (by decide +kernel) rfl
theorem wm_X4_empty : Cond.instanceMethod yX4_empty ∈ GW := gw_t 275 (by decide +kernel) rfl
theorem wc_X4_empty : Cond.code yX4_empty cX4_empty 1 none ∈ GW := gw_t 276 (by decide +kernel) rfl
theorem ml_X3_27 : Cond.methodLink RX3 27 yX3_readNumber ∈ GW := gw_t 277 (by decide +kernel) rfl
theorem wm_X3_readNumber : Cond.instanceMethod yX3_readNumber ∈ GW := gw_t 279 (by decide +kernel) rfl
theorem wc_X3_readNumber : Cond.code yX3_readNumber cX3_readNumber 3 (some .int) ∈ GW := gw_t 280 (by decide +kernel) rfl
theorem ml_X3_59 : Cond.methodLink RX3 59 yX3_readDigit ∈ GW := gw_t 281 (by decide +kernel) rfl
theorem wm_X3_readDigit : Cond.instanceMethod yX3_readDigit ∈ GW := gw_t 283 (by decide +kernel) rfl
theorem wc_X3_readDigit : Cond.code yX3_readDigit cX3_readDigit 3 (some .int) ∈ GW := gw_t 284 (by decide +kernel) rfl
theorem ml_X3_45 : Cond.methodLink RX3 45 yX3_peek ∈ GW := gw_t 285 (by decide +kernel) rfl
theorem wm_X3_peek : Cond.instanceMethod yX3_peek ∈ GW := gw_t 287 (by decide +kernel) rfl
theorem wc_X3_peek : Cond.code yX3_peek cX3_peek 1 (some .int) ∈ GW := gw_t 288 (by decide +kernel) rfl
theorem ml_X3_31 : Cond.methodLink RX3 31 yX3_takes ∈ GW := gw_t 289 (by decide +kernel) rfl
theorem wm_X3_takes : Cond.instanceMethod yX3_takes ∈ GW := gw_t 291 (by decide +kernel) rfl
theorem wc_X3_takes : Cond.code yX3_takes cX3_takes 3 (some .boolean) ∈ GW := gw_t 292 (by decide +kernel) rfl
theorem ml_X3_38 : Cond.methodLink RX3 38 yX3_readApprentices ∈ GW := gw_t 293 (by decide +kernel) rfl
theorem wm_X3_readApprentices : Cond.instanceMethod yX3_readApprentices ∈ GW := gw_t 295 (by decide +kernel) rfl
theorem wc_X3_readApprentices : Cond.code yX3_readApprentices cX3_readApprentices 3 (some .boolean) ∈ GW := gw_t 296 (by decide +kernel) rfl
theorem ml_X3_48 : Cond.methodLink RX3 48 yX3_readApprentice ∈ GW := gw_t 297 (by decide +kernel) rfl
theorem wm_X3_readApprentice : Cond.instanceMethod yX3_readApprentice ∈ GW := gw_t 299 (by decide +kernel) rfl
theorem wc_X3_readApprentice : Cond.code yX3_readApprentice cX3_readApprentice 8 (some .boolean) ∈ GW := gw_t 300 (by decide +kernel) rfl
theorem ml_X3_53 : Cond.methodLink RX3 53 yJ0_indexOf_0f7a4 ∈ GW := gw_t 302 (by decide +kernel) rfl
theorem wm_J0_indexOf_0f7a4 : Cond.instanceMethod yJ0_indexOf_0f7a4 ∈ GW := gw_t 303 (by decide +kernel) rfl
theorem we_J0_indexOf_0f7a4 : Cond.selects RJ0 yJ0_indexOf_0f7a4 yJ0_indexOf_0f7a4 ∈ GW := gw_t 304 (by decide +kernel) rfl
theorem wc_J0_indexOf_0f7a4 : Cond.code yJ0_indexOf_0f7a4 cJ0_indexOf_0f7a4 2 (some .int) ∈ GW := gw_t 305 (by decide +kernel) rfl
theorem ml_J0_633 : Cond.methodLink RJ0 633 yJ0_indexOf_7cf53 ∈ GW := gw_t 306 (by decide +kernel) rfl
theorem wm_J0_indexOf_7cf53 : Cond.instanceMethod yJ0_indexOf_7cf53 ∈ GW := gw_t 307 (by decide +kernel) rfl
theorem we_J0_indexOf_7cf53 : Cond.selects RJ0 yJ0_indexOf_7cf53 yJ0_indexOf_7cf53 ∈ GW := gw_t 308 (by decide +kernel) rfl
theorem wc_J0_indexOf_7cf53 : Cond.code yJ0_indexOf_7cf53 cJ0_indexOf_7cf53 3 (some .int) ∈ GW := gw_t 309 (by decide +kernel) rfl
theorem ml_J0_492 : Cond.methodLink RJ0 492 yJ0_isLatin1_aae02 ∈ GW := gw_t 310 (by decide +kernel) rfl
theorem wm_J0_isLatin1_aae02 : Cond.instanceMethod yJ0_isLatin1_aae02 ∈ GW := gw_t 311 (by decide +kernel) rfl
theorem we_J0_isLatin1_aae02 : Cond.selects RJ0 yJ0_isLatin1_aae02 yJ0_isLatin1_aae02 ∈ GW := gw_t 312 (by decide +kernel) rfl
theorem wc_J0_isLatin1_aae02 : Cond.code yJ0_isLatin1_aae02 cJ0_isLatin1_aae02 1 (some .boolean) ∈ GW := gw_t 313 (by decide +kernel) rfl
theorem fl_J0_38 : Cond.fieldLink RJ0 38 "java/lang/String" "COMPACT_STRINGS" "Z" ∈ GW := gw_t 314 (by decide +kernel) rfl
theorem ml_J0_505 : Cond.methodLink RJ0 505 yJ0_length_8abf5 ∈ GW := gw_t 316 (by decide +kernel) rfl
theorem wm_J0_length_8abf5 : Cond.instanceMethod yJ0_length_8abf5 ∈ GW := gw_t 317 (by decide +kernel) rfl
theorem we_J0_length_8abf5 : Cond.selects RJ0 yJ0_length_8abf5 yJ0_length_8abf5 ∈ GW := gw_t 318 (by decide +kernel) rfl
theorem wc_J0_length_8abf5 : Cond.code yJ0_length_8abf5 cJ0_length_8abf5 1 (some .int) ∈ GW := gw_t 319 (by decide +kernel) rfl
theorem ml_J0_335 : Cond.methodLink RJ0 335 yJ0_coder_7d493 ∈ GW := gw_t 320 (by decide +kernel) rfl
theorem wm_J0_coder_7d493 : Cond.instanceMethod yJ0_coder_7d493 ∈ GW := gw_t 321 (by decide +kernel) rfl
theorem we_J0_coder_7d493 : Cond.selects RJ0 yJ0_coder_7d493 yJ0_coder_7d493 ∈ GW := gw_t 322 (by decide +kernel) rfl
theorem wc_J0_coder_7d493 : Cond.code yJ0_coder_7d493 cJ0_coder_7d493 1 (some .byte) ∈ GW := gw_t 323 (by decide +kernel) rfl
theorem ml_J0_637 : Cond.methodLink RJ0 637 yJ1_indexOf_4cfef ∈ GW := gw_t 324 (by decide +kernel) rfl
theorem wt_J1_indexOf_4cfef : Cond.static yJ1_indexOf_4cfef ∈ GW := gw_t 325 (by decide +kernel) rfl
theorem wc_J1_indexOf_4cfef : Cond.code yJ1_indexOf_4cfef cJ1_indexOf_4cfef 4 (some .int) ∈ GW := gw_t 326 (by decide +kernel) rfl
theorem ml_J1_88 : Cond.methodLink RJ1 88 yJ1_canEncode_9a6ad ∈ GW := gw_t 327 (by decide +kernel) rfl
theorem wt_J1_canEncode_9a6ad : Cond.static yJ1_canEncode_9a6ad ∈ GW := gw_t 328 (by decide +kernel) rfl
theorem wc_J1_canEncode_9a6ad : Cond.code yJ1_canEncode_9a6ad cJ1_canEncode_9a6ad 1 (some .boolean) ∈ GW := gw_t 329 (by decide +kernel) rfl
theorem ml_J1_92 : Cond.methodLink RJ1 92 Lib.Math.max.name ∈ GW := gw_t 330 (by decide +kernel) rfl
theorem wt_Math_max : Cond.static Lib.Math.max.name ∈ GW := gw_t 331 (by decide +kernel) rfl
theorem wc_Math_max : Cond.code Lib.Math.max.name Lib.Math.max.code 2 (some .int) ∈ GW := gw_t 332 (by decide +kernel) rfl
theorem ml_J1_38 : Cond.methodLink RJ1 38 Lib.Math.min.name ∈ GW := gw_t 333 (by decide +kernel) rfl
theorem wt_Math_min : Cond.static Lib.Math.min.name ∈ GW := gw_t 334 (by decide +kernel) rfl
theorem wc_Math_min : Cond.code Lib.Math.min.name Lib.Math.min.code 2 (some .int) ∈ GW := gw_t 335 (by decide +kernel) rfl
theorem ml_J1_95 : Cond.methodLink RJ1 95 yJ1_indexOfChar_4cfef ∈ GW := gw_t 336 (by decide +kernel) rfl
theorem wt_J1_indexOfChar_4cfef : Cond.static yJ1_indexOfChar_4cfef ∈ GW := gw_t 337 (by decide +kernel) rfl
theorem wc_J1_indexOfChar_4cfef : Cond.code yJ1_indexOfChar_4cfef cJ1_indexOfChar_4cfef 6 (some .int) ∈ GW := gw_t 338 (by decide +kernel) rfl
theorem ml_J0_640 : Cond.methodLink RJ0 640 yJ2_indexOf_4cfef ∈ GW := gw_t 339 (by decide +kernel) rfl
theorem wt_J2_indexOf_4cfef : Cond.static yJ2_indexOf_4cfef ∈ GW := gw_t 340 (by decide +kernel) rfl
theorem wc_J2_indexOf_4cfef : Cond.code yJ2_indexOf_4cfef cJ2_indexOf_4cfef 4 (some .int) ∈ GW := gw_t 341 (by decide +kernel) rfl
theorem ml_J2_224 : Cond.methodLink RJ2 224 Lib.Math.max.name ∈ GW := gw_t 342 (by decide +kernel) rfl
theorem ml_J2_183 : Cond.methodLink RJ2 183 Lib.Math.min.name ∈ GW := gw_t 343 (by decide +kernel) rfl
theorem kc_J2_227 : Cond.constant RJ2 227 (65536 : Int32) ∈ GW := gw_t 344 (by decide +kernel) rfl
theorem ml_J2_228 : Cond.methodLink RJ2 228 yJ2_indexOfChar_4cfef ∈ GW := gw_t 345 (by decide +kernel) rfl
theorem wt_J2_indexOfChar_4cfef : Cond.static yJ2_indexOfChar_4cfef ∈ GW := gw_t 346 (by decide +kernel) rfl
theorem wc_J2_indexOfChar_4cfef : Cond.code yJ2_indexOfChar_4cfef cJ2_indexOfChar_4cfef 4 (some .int) ∈ GW := gw_t 347 (by decide +kernel) rfl
theorem ml_J2_96 : Cond.methodLink RJ2 96 yJ2_checkBoundsBeginEnd_d044e ∈ GW := gw_t 348 (by decide +kernel) rfl
theorem wt_J2_checkBoundsBeginEnd_d044e : Cond.static yJ2_checkBoundsBeginEnd_d044e ∈ GW := gw_t 349 (by decide +kernel) rfl
theorem wc_J2_checkBoundsBeginEnd_d044e : Cond.code yJ2_checkBoundsBeginEnd_d044e cJ2_checkBoundsBeginEnd_d044e 3 none ∈ GW := gw_t 350 (by decide +kernel) rfl
theorem ml_J2_48 : Cond.methodLink RJ2 48 yJ2_length_9d52b ∈ GW := gw_t 351 (by decide +kernel) rfl
theorem wt_J2_length_9d52b : Cond.static yJ2_length_9d52b ∈ GW := gw_t 352 (by decide +kernel) rfl
theorem wc_J2_length_9d52b : Cond.code yJ2_length_9d52b cJ2_length_9d52b 1 (some .int) ∈ GW := gw_t 353 (by decide +kernel) rfl
theorem ml_J2_241 : Cond.methodLink RJ2 241 yJ0_checkBoundsBeginEnd_23922 ∈ GW := gw_t 354 (by decide +kernel) rfl
theorem wt_J0_checkBoundsBeginEnd_23922 : Cond.static yJ0_checkBoundsBeginEnd_23922 ∈ GW := gw_t 355 (by decide +kernel) rfl
theorem wc_J0_checkBoundsBeginEnd_23922 : Cond.code yJ0_checkBoundsBeginEnd_23922 cJ0_checkBoundsBeginEnd_23922 3 none ∈ GW := gw_t 356 (by decide +kernel) rfl
theorem fl_J0_1053 : Cond.fieldLink RJ0 1053 "jdk/internal/util/Preconditions" "SIOOBE_FORMATTER" "Ljava/util/function/BiFunction;" ∈ GW := gw_t 357 (by decide +kernel) rfl
theorem ml_J0_1062 : Cond.methodLink RJ0 1062 yJ3_checkFromToIndex_8c36e ∈ GW := gw_t 359 (by decide +kernel) rfl
theorem wt_J3_checkFromToIndex_8c36e : Cond.static yJ3_checkFromToIndex_8c36e ∈ GW := gw_t 360 (by decide +kernel) rfl
theorem wc_J3_checkFromToIndex_8c36e : Cond.code yJ3_checkFromToIndex_8c36e cJ3_checkFromToIndex_8c36e 4 (some .int) ∈ GW := gw_t 361 (by decide +kernel) rfl
theorem ml_J2_244 : Cond.methodLink RJ2 244 yJ2_indexOfCharUnsafe_4cfef ∈ GW := gw_t 362 (by decide +kernel) rfl
theorem wt_J2_indexOfCharUnsafe_4cfef : Cond.static yJ2_indexOfCharUnsafe_4cfef ∈ GW := gw_t 363 (by decide +kernel) rfl
theorem wc_J2_indexOfCharUnsafe_4cfef : Cond.code yJ2_indexOfCharUnsafe_4cfef cJ2_indexOfCharUnsafe_4cfef 5 (some .int) ∈ GW := gw_t 364 (by decide +kernel) rfl
theorem ml_J2_71 : Cond.methodLink RJ2 71 yJ2_getChar_3b067 ∈ GW := gw_t 365 (by decide +kernel) rfl
theorem wt_J2_getChar_3b067 : Cond.static yJ2_getChar_3b067 ∈ GW := gw_t 366 (by decide +kernel) rfl
theorem wc_J2_getChar_3b067 : Cond.code yJ2_getChar_3b067 cJ2_getChar_3b067 2 (some .char) ∈ GW := gw_t 367 (by decide +kernel) rfl
theorem fl_J2_44 : Cond.fieldLink RJ2 44 "java/lang/StringUTF16" "$assertionsDisabled" "Z" ∈ GW := gw_t 368 (by decide +kernel) rfl
theorem fl_J2_59 : Cond.fieldLink RJ2 59 "java/lang/StringUTF16" "HI_BYTE_SHIFT" "I" ∈ GW := gw_t 370 (by decide +kernel) rfl
theorem fl_J2_63 : Cond.fieldLink RJ2 63 "java/lang/StringUTF16" "LO_BYTE_SHIFT" "I" ∈ GW := gw_t 372 (by decide +kernel) rfl
theorem ml_J2_232 : Cond.methodLink RJ2 232 yJ2_indexOfSupplementary_4cfef ∈ GW := gw_t 374 (by decide +kernel) rfl
theorem wt_J2_indexOfSupplementary_4cfef : Cond.static yJ2_indexOfSupplementary_4cfef ∈ GW := gw_t 375 (by decide +kernel) rfl
theorem wc_J2_indexOfSupplementary_4cfef : Cond.code yJ2_indexOfSupplementary_4cfef cJ2_indexOfSupplementary_4cfef 7 (some .int) ∈ GW := gw_t 376 (by decide +kernel) rfl
theorem ml_J2_164 : Cond.methodLink RJ2 164 yJ11_isValidCodePoint_9a6ad ∈ GW := gw_t 377 (by decide +kernel) rfl
theorem wt_J11_isValidCodePoint_9a6ad : Cond.static yJ11_isValidCodePoint_9a6ad ∈ GW := gw_t 378 (by decide +kernel) rfl
theorem wc_J11_isValidCodePoint_9a6ad : Cond.code yJ11_isValidCodePoint_9a6ad cJ11_isValidCodePoint_9a6ad 2 (some .boolean) ∈ GW := gw_t 379 (by decide +kernel) rfl
theorem ml_J2_157 : Cond.methodLink RJ2 157 yJ11_highSurrogate_5068e ∈ GW := gw_t 380 (by decide +kernel) rfl
theorem wt_J11_highSurrogate_5068e : Cond.static yJ11_highSurrogate_5068e ∈ GW := gw_t 381 (by decide +kernel) rfl
theorem wc_J11_highSurrogate_5068e : Cond.code yJ11_highSurrogate_5068e cJ11_highSurrogate_5068e 1 (some .char) ∈ GW := gw_t 382 (by decide +kernel) rfl
theorem kc_J11_110 : Cond.constant RJ11 110 (55232 : Int32) ∈ GW := gw_t 383 (by decide +kernel) rfl
theorem ml_J2_161 : Cond.methodLink RJ2 161 yJ11_lowSurrogate_5068e ∈ GW := gw_t 384 (by decide +kernel) rfl
theorem wt_J11_lowSurrogate_5068e : Cond.static yJ11_lowSurrogate_5068e ∈ GW := gw_t 385 (by decide +kernel) rfl
theorem wc_J11_lowSurrogate_5068e : Cond.code yJ11_lowSurrogate_5068e cJ11_lowSurrogate_5068e 1 (some .char) ∈ GW := gw_t 386 (by decide +kernel) rfl
theorem kc_J11_76 : Cond.constant RJ11 76 (56320 : Int32) ∈ GW := gw_t 387 (by decide +kernel) rfl
theorem ml_X3_62 : Cond.methodLinkNest RX3 62 yX4_addApprentice "RobbedOnce" ∈ NW := nw_t 388 (by decide +kernel) rfl
theorem ml_X3_70 : Cond.methodLinkNest RX3 70 yX4_setShown "RobbedOnce" ∈ NW := nw_t 389 (by decide +kernel) rfl
theorem ml_X3_42 : Cond.methodLink RX3 42 yX3_readThieves ∈ GW := gw_t 390 (by decide +kernel) rfl
theorem wm_X3_readThieves : Cond.instanceMethod yX3_readThieves ∈ GW := gw_t 392 (by decide +kernel) rfl
theorem wc_X3_readThieves : Cond.code yX3_readThieves cX3_readThieves 5 (some .boolean) ∈ GW := gw_t 393 (by decide +kernel) rfl
theorem ml_X3_74 : Cond.methodLinkNest RX3 74 yX4_addThief "RobbedOnce" ∈ NW := nw_t 394 (by decide +kernel) rfl
theorem ml_X5_134 : Cond.methodLinkNest RX5 134 yX3_clear "RobbedOnce" ∈ NW := nw_t 395 (by decide +kernel) rfl
theorem wm_X3_clear : Cond.instanceMethod yX3_clear ∈ GW := gw_t 397 (by decide +kernel) rfl
theorem wc_X3_clear : Cond.code yX3_clear cX3_clear 1 none ∈ GW := gw_t 398 (by decide +kernel) rfl
theorem ml_X5_140 : Cond.methodLinkNest RX5 140 yX4_become "RobbedOnce" ∈ NW := nw_t 399 (by decide +kernel) rfl
theorem wm_X4_become : Cond.instanceMethod yX4_become ∈ GW := gw_t 401 (by decide +kernel) rfl
theorem wc_X4_become : Cond.code yX4_become cX4_become 2 none ∈ GW := gw_t 402 (by decide +kernel) rfl
theorem ml_X4_37 : Cond.methodLink RX4 37 arraycopyName ∈ GW := gw_t 403 (by decide +kernel) rfl
theorem wt_arraycopy : Cond.static arraycopyName ∈ GW := gw_t 404 (by decide +kernel) rfl
theorem wn_arraycopy : Cond.native arraycopyName ∈ GW := gw_t 405 (by decide +kernel) rfl
theorem ac_byte : Cond.arrayClass .byte ∈ GW := gw_t 406 (by decide +kernel) rfl
theorem ml_L_45 : Cond.methodLink RL 45 yX5_count ∈ GW := gw_t 407 (by decide +kernel) rfl
theorem wm_X5_count : Cond.instanceMethod yX5_count ∈ GW := gw_t 408 (by decide +kernel) rfl
theorem we_X5_count : Cond.selects RX5 yX5_count yX5_count ∈ GW := gw_t 409 (by decide +kernel) rfl
theorem wc_X5_count : Cond.code yX5_count cX5_count 2 (some .int) ∈ GW := gw_t 410 (by decide +kernel) rfl
theorem ml_X5_147 : Cond.methodLinkNest RX5 147 yX4_dearTogether "RobbedOnce" ∈ NW := nw_t 411 (by decide +kernel) rfl
theorem wm_X4_dearTogether : Cond.instanceMethod yX4_dearTogether ∈ GW := gw_t 413 (by decide +kernel) rfl
theorem wc_X4_dearTogether : Cond.code yX4_dearTogether cX4_dearTogether 3 (some .int) ∈ GW := gw_t 414 (by decide +kernel) rfl
theorem ml_X4_62 : Cond.methodLinkNest RX4 62 yX5_has "RobbedOnce" ∈ NW := nw_t 415 (by decide +kernel) rfl
theorem ml_L_49 : Cond.methodLink RL 49 yX5_nights ∈ GW := gw_t 416 (by decide +kernel) rfl
theorem wm_X5_nights : Cond.instanceMethod yX5_nights ∈ GW := gw_t 417 (by decide +kernel) rfl
theorem we_X5_nights : Cond.selects RX5 yX5_nights yX5_nights ∈ GW := gw_t 418 (by decide +kernel) rfl
theorem wc_X5_nights : Cond.code yX5_nights cX5_nights 2 (some .int) ∈ GW := gw_t 419 (by decide +kernel) rfl
theorem ml_X5_154 : Cond.methodLink RX5 154 yX5_spend ∈ GW := gw_t 420 (by decide +kernel) rfl
theorem wm_X5_spend : Cond.instanceMethod yX5_spend ∈ GW := gw_t 422 (by decide +kernel) rfl
theorem wc_X5_spend : Cond.code yX5_spend cX5_spend 4 (some .int) ∈ GW := gw_t 423 (by decide +kernel) rfl
theorem ml_X5_158 : Cond.methodLinkNest RX5 158 yX1_keep "RobbedOnce" ∈ NW := nw_t 424 (by decide +kernel) rfl
theorem wm_X1_keep : Cond.instanceMethod yX1_keep ∈ GW := gw_t 426 (by decide +kernel) rfl
theorem wc_X1_keep : Cond.code yX1_keep cX1_keep 2 none ∈ GW := gw_t 427 (by decide +kernel) rfl
theorem ml_X1_22 : Cond.methodLinkNest RX1 22 yX4_become "RobbedOnce" ∈ NW := nw_t 428 (by decide +kernel) rfl
theorem ml_X1_29 : Cond.methodLink RX1 29 Lib.Math.min.name ∈ GW := gw_t 429 (by decide +kernel) rfl
theorem ml_X5_269 : Cond.methodLinkNest RX5 269 yX4_drawWhoShows "RobbedOnce" ∈ NW := nw_t 430 (by decide +kernel) rfl
theorem wm_X4_drawWhoShows : Cond.instanceMethod yX4_drawWhoShows ∈ GW := gw_t 432 (by decide +kernel) rfl
theorem wc_X4_drawWhoShows : Cond.code yX4_drawWhoShows cX4_drawWhoShows 1 none ∈ GW := gw_t 433 (by decide +kernel) rfl
theorem kc_X4_92 : Cond.constant RX4 92 (1103515245 : Int32) ∈ GW := gw_t 434 (by decide +kernel) rfl
theorem kc_X4_93 : Cond.constant RX4 93 (2147483647 : Int32) ∈ GW := gw_t 435 (by decide +kernel) rfl
theorem kc_X4_94 : Cond.constant RX4 94 (65536 : Int32) ∈ GW := gw_t 436 (by decide +kernel) rfl
theorem ml_X5_272 : Cond.methodLinkNest RX5 272 yX4_pass "RobbedOnce" ∈ NW := nw_t 437 (by decide +kernel) rfl
theorem wm_X4_pass : Cond.instanceMethod yX4_pass ∈ GW := gw_t 439 (by decide +kernel) rfl
theorem wc_X4_pass : Cond.code yX4_pass cX4_pass 4 none ∈ GW := gw_t 440 (by decide +kernel) rfl
theorem ml_X4_73 : Cond.methodLink RX4 73 yX4_robbedTonight ∈ GW := gw_t 441 (by decide +kernel) rfl
theorem wm_X4_robbedTonight : Cond.instanceMethod yX4_robbedTonight ∈ GW := gw_t 443 (by decide +kernel) rfl
theorem wc_X4_robbedTonight : Cond.code yX4_robbedTonight cX4_robbedTonight 5 (some .int) ∈ GW := gw_t 444 (by decide +kernel) rfl
theorem ml_X4_69 : Cond.methodLink RX4 69 yX4_victim ∈ GW := gw_t 445 (by decide +kernel) rfl
theorem wm_X4_victim : Cond.instanceMethod yX4_victim ∈ GW := gw_t 447 (by decide +kernel) rfl
theorem wc_X4_victim : Cond.code yX4_victim cX4_victim 5 (some .int) ∈ GW := gw_t 448 (by decide +kernel) rfl
theorem ml_X4_77 : Cond.methodLink RX4 77 yX4_lose ∈ GW := gw_t 449 (by decide +kernel) rfl
theorem wm_X4_lose : Cond.instanceMethod yX4_lose ∈ GW := gw_t 451 (by decide +kernel) rfl
theorem wc_X4_lose : Cond.code yX4_lose cX4_lose 2 none ∈ GW := gw_t 452 (by decide +kernel) rfl
theorem ml_X4_81 : Cond.methodLink RX4 81 yX4_growth ∈ GW := gw_t 453 (by decide +kernel) rfl
theorem wm_X4_growth : Cond.instanceMethod yX4_growth ∈ GW := gw_t 455 (by decide +kernel) rfl
theorem wc_X4_growth : Cond.code yX4_growth cX4_growth 4 (some .int) ∈ GW := gw_t 456 (by decide +kernel) rfl
theorem ml_X4_89 : Cond.methodLink RX4 89 Lib.Math.max.name ∈ GW := gw_t 457 (by decide +kernel) rfl
theorem ml_X4_84 : Cond.methodLink RX4 84 Lib.Math.min.name ∈ GW := gw_t 458 (by decide +kernel) rfl
theorem ml_L_53 : Cond.methodLink RL 53 yX5_show ∈ GW := gw_t 459 (by decide +kernel) rfl
theorem wm_X5_show : Cond.instanceMethod yX5_show ∈ GW := gw_t 460 (by decide +kernel) rfl
theorem we_X5_show : Cond.selects RX5 yX5_show yX5_show ∈ GW := gw_t 461 (by decide +kernel) rfl
theorem wc_X5_show : Cond.code yX5_show cX5_show 3 (some .int) ∈ GW := gw_t 462 (by decide +kernel) rfl
theorem ml_X5_161 : Cond.methodLinkNest RX5 161 yX4_setShown "RobbedOnce" ∈ NW := nw_t 463 (by decide +kernel) rfl
theorem ml_L_57 : Cond.methodLink RL 57 yX5_teach ∈ GW := gw_t 464 (by decide +kernel) rfl
theorem wm_X5_teach : Cond.instanceMethod yX5_teach ∈ GW := gw_t 465 (by decide +kernel) rfl
theorem we_X5_teach : Cond.selects RX5 yX5_teach yX5_teach ∈ GW := gw_t 466 (by decide +kernel) rfl
theorem wc_X5_teach : Cond.code yX5_teach cX5_teach 4 (some .int) ∈ GW := gw_t 467 (by decide +kernel) rfl
theorem ml_L_61 : Cond.methodLink RL 61 yX5_drift ∈ GW := gw_t 468 (by decide +kernel) rfl
theorem wm_X5_drift : Cond.instanceMethod yX5_drift ∈ GW := gw_t 469 (by decide +kernel) rfl
theorem we_X5_drift : Cond.selects RX5 yX5_drift yX5_drift ∈ GW := gw_t 470 (by decide +kernel) rfl
theorem wc_X5_drift : Cond.code yX5_drift cX5_drift 2 (some .int) ∈ GW := gw_t 471 (by decide +kernel) rfl
theorem ml_L_65 : Cond.methodLink RL 65 yX5_undo ∈ GW := gw_t 472 (by decide +kernel) rfl
theorem wm_X5_undo : Cond.instanceMethod yX5_undo ∈ GW := gw_t 473 (by decide +kernel) rfl
theorem we_X5_undo : Cond.selects RX5 yX5_undo yX5_undo ∈ GW := gw_t 474 (by decide +kernel) rfl
theorem wc_X5_undo : Cond.code yX5_undo cX5_undo 1 (some .int) ∈ GW := gw_t 475 (by decide +kernel) rfl
theorem ml_X5_165 : Cond.methodLinkNest RX5 165 yX1_takeBack "RobbedOnce" ∈ NW := nw_t 476 (by decide +kernel) rfl
theorem wm_X1_takeBack : Cond.instanceMethod yX1_takeBack ∈ GW := gw_t 478 (by decide +kernel) rfl
theorem wc_X1_takeBack : Cond.code yX1_takeBack cX1_takeBack 3 none ∈ GW := gw_t 479 (by decide +kernel) rfl
theorem ml_L_69 : Cond.methodLink RL 69 yX5_seed ∈ GW := gw_t 480 (by decide +kernel) rfl
theorem wm_X5_seed : Cond.instanceMethod yX5_seed ∈ GW := gw_t 481 (by decide +kernel) rfl
theorem we_X5_seed : Cond.selects RX5 yX5_seed yX5_seed ∈ GW := gw_t 482 (by decide +kernel) rfl
theorem wc_X5_seed : Cond.code yX5_seed cX5_seed 3 (some .int) ∈ GW := gw_t 483 (by decide +kernel) rfl
theorem ml_L_73 : Cond.methodLink RL 73 yX5_ahead ∈ GW := gw_t 484 (by decide +kernel) rfl
theorem wm_X5_ahead : Cond.instanceMethod yX5_ahead ∈ GW := gw_t 485 (by decide +kernel) rfl
theorem we_X5_ahead : Cond.selects RX5 yX5_ahead yX5_ahead ∈ GW := gw_t 486 (by decide +kernel) rfl
theorem wc_X5_ahead : Cond.code yX5_ahead cX5_ahead 3 (some .int) ∈ GW := gw_t 487 (by decide +kernel) rfl
theorem ml_X5_168 : Cond.methodLinkNest RX5 168 yX0_after "RobbedOnce" ∈ NW := nw_t 488 (by decide +kernel) rfl
theorem wm_X0_after : Cond.instanceMethod yX0_after ∈ GW := gw_t 490 (by decide +kernel) rfl
theorem wc_X0_after : Cond.code yX0_after cX0_after 3 (some (.object "RobbedOnce$Town")) ∈ GW := gw_t 491 (by decide +kernel) rfl
theorem ml_X0_18 : Cond.methodLinkNest RX0 18 yX4_become "RobbedOnce" ∈ NW := nw_t 492 (by decide +kernel) rfl
theorem ml_X0_22 : Cond.methodLink RX0 22 yX0_passNights ∈ GW := gw_t 493 (by decide +kernel) rfl
theorem wm_X0_passNights : Cond.instanceMethod yX0_passNights ∈ GW := gw_t 495 (by decide +kernel) rfl
theorem wc_X0_passNights : Cond.code yX0_passNights cX0_passNights 4 none ∈ GW := gw_t 496 (by decide +kernel) rfl
theorem ml_X0_26 : Cond.methodLinkNest RX0 26 yX4_pass "RobbedOnce" ∈ NW := nw_t 497 (by decide +kernel) rfl
theorem ml_L_77 : Cond.methodLink RL 77 yX5_then ∈ GW := gw_t 498 (by decide +kernel) rfl
theorem wm_X5_then : Cond.instanceMethod yX5_then ∈ GW := gw_t 499 (by decide +kernel) rfl
theorem we_X5_then : Cond.selects RX5 yX5_then yX5_then ∈ GW := gw_t 500 (by decide +kernel) rfl
theorem wc_X5_then : Cond.code yX5_then cX5_then 2 (some .int) ∈ GW := gw_t 501 (by decide +kernel) rfl
theorem ml_L_81 : Cond.methodLink RL 81 yX5_sworn ∈ GW := gw_t 502 (by decide +kernel) rfl
theorem wm_X5_sworn : Cond.instanceMethod yX5_sworn ∈ GW := gw_t 503 (by decide +kernel) rfl
theorem we_X5_sworn : Cond.selects RX5 yX5_sworn yX5_sworn ∈ GW := gw_t 504 (by decide +kernel) rfl
theorem wc_X5_sworn : Cond.code yX5_sworn cX5_sworn 2 (some .int) ∈ GW := gw_t 505 (by decide +kernel) rfl
theorem ml_X5_172 : Cond.methodLinkNest RX5 172 yX0_nightsUntilSworn "RobbedOnce" ∈ NW := nw_t 506 (by decide +kernel) rfl
theorem wm_X0_nightsUntilSworn : Cond.instanceMethod yX0_nightsUntilSworn ∈ GW := gw_t 508 (by decide +kernel) rfl
theorem wc_X0_nightsUntilSworn : Cond.code yX0_nightsUntilSworn cX0_nightsUntilSworn 4 (some .int) ∈ GW := gw_t 509 (by decide +kernel) rfl
theorem ml_X0_34 : Cond.methodLinkNest RX0 34 yX5_has "RobbedOnce" ∈ NW := nw_t 510 (by decide +kernel) rfl
theorem ml_L_85 : Cond.methodLink RL 85 yX5_robs ∈ GW := gw_t 511 (by decide +kernel) rfl
theorem wm_X5_robs : Cond.instanceMethod yX5_robs ∈ GW := gw_t 512 (by decide +kernel) rfl
theorem we_X5_robs : Cond.selects RX5 yX5_robs yX5_robs ∈ GW := gw_t 513 (by decide +kernel) rfl
theorem wc_X5_robs : Cond.code yX5_robs cX5_robs 2 (some .int) ∈ GW := gw_t 514 (by decide +kernel) rfl
theorem ml_X5_176 : Cond.methodLinkNest RX5 176 yX4_victimTonight "RobbedOnce" ∈ NW := nw_t 515 (by decide +kernel) rfl
theorem wm_X4_victimTonight : Cond.instanceMethod yX4_victimTonight ∈ GW := gw_t 517 (by decide +kernel) rfl
theorem wc_X4_victimTonight : Cond.code yX4_victimTonight cX4_victimTonight 3 (some .int) ∈ GW := gw_t 518 (by decide +kernel) rfl
theorem ml_L_89 : Cond.methodLink RL 89 yX5_hides ∈ GW := gw_t 519 (by decide +kernel) rfl
theorem wm_X5_hides : Cond.instanceMethod yX5_hides ∈ GW := gw_t 520 (by decide +kernel) rfl
theorem we_X5_hides : Cond.selects RX5 yX5_hides yX5_hides ∈ GW := gw_t 521 (by decide +kernel) rfl
theorem wc_X5_hides : Cond.code yX5_hides cX5_hides 3 (some .int) ∈ GW := gw_t 522 (by decide +kernel) rfl
theorem ml_X5_179 : Cond.methodLinkNest RX5 179 yX0_bestHiding "RobbedOnce" ∈ NW := nw_t 523 (by decide +kernel) rfl
theorem wm_X0_bestHiding : Cond.instanceMethod yX0_bestHiding ∈ GW := gw_t 525 (by decide +kernel) rfl
theorem wc_X0_bestHiding : Cond.code yX0_bestHiding cX0_bestHiding 8 (some .int) ∈ GW := gw_t 526 (by decide +kernel) rfl
theorem ml_X0_38 : Cond.methodLink RX0 38 yX0_nightsIfHidden ∈ GW := gw_t 527 (by decide +kernel) rfl
theorem wm_X0_nightsIfHidden : Cond.instanceMethod yX0_nightsIfHidden ∈ GW := gw_t 529 (by decide +kernel) rfl
theorem wc_X0_nightsIfHidden : Cond.code yX0_nightsIfHidden cX0_nightsIfHidden 6 (some .int) ∈ GW := gw_t 530 (by decide +kernel) rfl
theorem ml_X0_42 : Cond.methodLinkNest RX0 42 yX4_setShown "RobbedOnce" ∈ NW := nw_t 531 (by decide +kernel) rfl
theorem ml_L_93 : Cond.methodLink RL 93 yX5_cover ∈ GW := gw_t 532 (by decide +kernel) rfl
theorem wm_X5_cover : Cond.instanceMethod yX5_cover ∈ GW := gw_t 533 (by decide +kernel) rfl
theorem we_X5_cover : Cond.selects RX5 yX5_cover yX5_cover ∈ GW := gw_t 534 (by decide +kernel) rfl
theorem wc_X5_cover : Cond.code yX5_cover cX5_cover 5 (some .int) ∈ GW := gw_t 535 (by decide +kernel) rfl
theorem ml_X5_183 : Cond.methodLinkNest RX5 183 yX0_leastCover "RobbedOnce" ∈ NW := nw_t 536 (by decide +kernel) rfl
theorem wm_X0_leastCover : Cond.instanceMethod yX0_leastCover ∈ GW := gw_t 538 (by decide +kernel) rfl
theorem wc_X0_leastCover : Cond.code yX0_leastCover cX0_leastCover 8 (some .int) ∈ GW := gw_t 539 (by decide +kernel) rfl
theorem ml_X0_49 : Cond.methodLink RX0 49 yJ6_bitCount_0f7a4 ∈ GW := gw_t 540 (by decide +kernel) rfl
theorem wt_J6_bitCount_0f7a4 : Cond.static yJ6_bitCount_0f7a4 ∈ GW := gw_t 541 (by decide +kernel) rfl
theorem wc_J6_bitCount_0f7a4 : Cond.code yJ6_bitCount_0f7a4 cJ6_bitCount_0f7a4 1 (some .int) ∈ GW := gw_t 542 (by decide +kernel) rfl
theorem kc_J6_265 : Cond.constant RJ6 265 (1431655765 : Int32) ∈ GW := gw_t 543 (by decide +kernel) rfl
theorem kc_J6_266 : Cond.constant RJ6 266 (858993459 : Int32) ∈ GW := gw_t 544 (by decide +kernel) rfl
theorem kc_J6_267 : Cond.constant RJ6 267 (252645135 : Int32) ∈ GW := gw_t 545 (by decide +kernel) rfl
theorem ml_X5_187 : Cond.methodLink RX5 187 yJ6_bitCount_0f7a4 ∈ GW := gw_t 546 (by decide +kernel) rfl
theorem ml_L_97 : Cond.methodLink RL 97 yX5_low ∈ GW := gw_t 547 (by decide +kernel) rfl
theorem wm_X5_low : Cond.instanceMethod yX5_low ∈ GW := gw_t 548 (by decide +kernel) rfl
theorem we_X5_low : Cond.selects RX5 yX5_low yX5_low ∈ GW := gw_t 549 (by decide +kernel) rfl
theorem wc_X5_low : Cond.code yX5_low cX5_low 2 (some .int) ∈ GW := gw_t 550 (by decide +kernel) rfl
theorem ml_X5_192 : Cond.methodLinkNest RX5 192 yX0_greatestBar "RobbedOnce" ∈ NW := nw_t 551 (by decide +kernel) rfl
theorem wm_X0_greatestBar : Cond.instanceMethod yX0_greatestBar ∈ GW := gw_t 553 (by decide +kernel) rfl
theorem wc_X0_greatestBar : Cond.code yX0_greatestBar cX0_greatestBar 4 (some .int) ∈ GW := gw_t 554 (by decide +kernel) rfl
theorem ml_X0_58 : Cond.methodLinkNest RX0 58 yX4_everybody "RobbedOnce" ∈ NW := nw_t 555 (by decide +kernel) rfl
theorem wm_X4_everybody : Cond.instanceMethod yX4_everybody ∈ GW := gw_t 557 (by decide +kernel) rfl
theorem wc_X4_everybody : Cond.code yX4_everybody cX4_everybody 1 (some .int) ∈ GW := gw_t 558 (by decide +kernel) rfl
theorem ml_L_101 : Cond.methodLink RL 101 yX5_spare ∈ GW := gw_t 559 (by decide +kernel) rfl
theorem wm_X5_spare : Cond.instanceMethod yX5_spare ∈ GW := gw_t 560 (by decide +kernel) rfl
theorem we_X5_spare : Cond.selects RX5 yX5_spare yX5_spare ∈ GW := gw_t 561 (by decide +kernel) rfl
theorem wc_X5_spare : Cond.code yX5_spare cX5_spare 4 (some .int) ∈ GW := gw_t 562 (by decide +kernel) rfl
theorem ml_X5_195 : Cond.methodLinkNest RX5 195 yX0_sparedThief "RobbedOnce" ∈ NW := nw_t 563 (by decide +kernel) rfl
theorem wm_X0_sparedThief : Cond.instanceMethod yX0_sparedThief ∈ GW := gw_t 565 (by decide +kernel) rfl
theorem wc_X0_sparedThief : Cond.code yX0_sparedThief cX0_sparedThief 7 (some .int) ∈ GW := gw_t 566 (by decide +kernel) rfl
theorem ml_X0_65 : Cond.methodLink RX0 65 yX0_swornWithout ∈ GW := gw_t 567 (by decide +kernel) rfl
theorem wm_X0_swornWithout : Cond.instanceMethod yX0_swornWithout ∈ GW := gw_t 569 (by decide +kernel) rfl
theorem wc_X0_swornWithout : Cond.code yX0_swornWithout cX0_swornWithout 4 (some .int) ∈ GW := gw_t 570 (by decide +kernel) rfl
theorem ml_X5_198 : Cond.methodLinkNest RX5 198 yX0_swornWithout "RobbedOnce" ∈ NW := nw_t 571 (by decide +kernel) rfl
theorem ml_L_105 : Cond.methodLink RL 105 yX5_match ∈ GW := gw_t 572 (by decide +kernel) rfl
theorem wm_X5_match : Cond.instanceMethod yX5_match ∈ GW := gw_t 573 (by decide +kernel) rfl
theorem we_X5_match : Cond.selects RX5 yX5_match yX5_match ∈ GW := gw_t 574 (by decide +kernel) rfl
theorem wc_X5_match : Cond.code yX5_match cX5_match 1 (some .int) ∈ GW := gw_t 575 (by decide +kernel) rfl
theorem ml_X5_201 : Cond.methodLinkNest RX5 201 yX4_mostRobbedAtOnce "RobbedOnce" ∈ NW := nw_t 576 (by decide +kernel) rfl
theorem wm_X4_mostRobbedAtOnce : Cond.instanceMethod yX4_mostRobbedAtOnce ∈ GW := gw_t 578 (by decide +kernel) rfl
theorem wc_X4_mostRobbedAtOnce : Cond.code yX4_mostRobbedAtOnce cX4_mostRobbedAtOnce 5 (some .int) ∈ GW := gw_t 579 (by decide +kernel) rfl
theorem ml_X4_95 : Cond.methodLink RX4 95 yX4_whomMayRob ∈ GW := gw_t 580 (by decide +kernel) rfl
theorem ml_X4_98 : Cond.methodLink RX4 98 yJ6_bitCount_0f7a4 ∈ GW := gw_t 581 (by decide +kernel) rfl
theorem ml_L_109 : Cond.methodLink RL 109 yX5_care ∈ GW := gw_t 582 (by decide +kernel) rfl
theorem wm_X5_care : Cond.instanceMethod yX5_care ∈ GW := gw_t 583 (by decide +kernel) rfl
theorem we_X5_care : Cond.selects RX5 yX5_care yX5_care ∈ GW := gw_t 584 (by decide +kernel) rfl
theorem wc_X5_care : Cond.code yX5_care cX5_care 3 (some .int) ∈ GW := gw_t 585 (by decide +kernel) rfl
theorem ml_X5_204 : Cond.methodLinkNest RX5 204 yX0_mostCareful "RobbedOnce" ∈ NW := nw_t 586 (by decide +kernel) rfl
theorem wm_X0_mostCareful : Cond.instanceMethod yX0_mostCareful ∈ GW := gw_t 588 (by decide +kernel) rfl
theorem wc_X0_mostCareful : Cond.code yX0_mostCareful cX0_mostCareful 5 (some .int) ∈ GW := gw_t 589 (by decide +kernel) rfl
theorem ml_L_113 : Cond.methodLink RL 113 yX5_leave ∈ GW := gw_t 590 (by decide +kernel) rfl
theorem wm_X5_leave : Cond.instanceMethod yX5_leave ∈ GW := gw_t 591 (by decide +kernel) rfl
theorem we_X5_leave : Cond.selects RX5 yX5_leave yX5_leave ∈ GW := gw_t 592 (by decide +kernel) rfl
theorem wc_X5_leave : Cond.code yX5_leave cX5_leave 7 (some .int) ∈ GW := gw_t 593 (by decide +kernel) rfl
theorem ml_X5_207 : Cond.methodLinkNest RX5 207 yX4_waysRobbed "RobbedOnce" ∈ NW := nw_t 594 (by decide +kernel) rfl
theorem wm_X4_waysRobbed : Cond.instanceMethod yX4_waysRobbed ∈ GW := gw_t 596 (by decide +kernel) rfl
theorem wc_X4_waysRobbed : Cond.code yX4_waysRobbed cX4_waysRobbed 6 (some .int) ∈ GW := gw_t 597 (by decide +kernel) rfl
theorem ml_X4_103 : Cond.methodLinkNest RX4 103 yX5_power "RobbedOnce" ∈ NW := nw_t 598 (by decide +kernel) rfl
theorem wt_X5_power : Cond.static yX5_power ∈ GW := gw_t 599 (by decide +kernel) rfl
theorem wc_X5_power : Cond.code yX5_power cX5_power 4 (some .int) ∈ GW := gw_t 600 (by decide +kernel) rfl
theorem ml_X5_210 : Cond.methodLink RX5 210 yX5_power ∈ GW := gw_t 601 (by decide +kernel) rfl
theorem ml_L_117 : Cond.methodLink RL 117 yX5_image ∈ GW := gw_t 602 (by decide +kernel) rfl
theorem wm_X5_image : Cond.instanceMethod yX5_image ∈ GW := gw_t 603 (by decide +kernel) rfl
theorem we_X5_image : Cond.selects RX5 yX5_image yX5_image ∈ GW := gw_t 604 (by decide +kernel) rfl
theorem wc_X5_image : Cond.code yX5_image cX5_image 1 (some .int) ∈ GW := gw_t 605 (by decide +kernel) rfl
theorem ml_X5_213 : Cond.methodLinkNest RX5 213 yX1_become "RobbedOnce" ∈ NW := nw_t 606 (by decide +kernel) rfl
theorem wm_X1_become : Cond.instanceMethod yX1_become ∈ GW := gw_t 608 (by decide +kernel) rfl
theorem wc_X1_become : Cond.code yX1_become cX1_become 3 none ∈ GW := gw_t 609 (by decide +kernel) rfl
theorem ml_L_121 : Cond.methodLink RL 121 yX5_restore ∈ GW := gw_t 610 (by decide +kernel) rfl
theorem wm_X5_restore : Cond.instanceMethod yX5_restore ∈ GW := gw_t 611 (by decide +kernel) rfl
theorem we_X5_restore : Cond.selects RX5 yX5_restore yX5_restore ∈ GW := gw_t 612 (by decide +kernel) rfl
theorem wc_X5_restore : Cond.code yX5_restore cX5_restore 1 (some .int) ∈ GW := gw_t 613 (by decide +kernel) rfl
theorem ml_L_125 : Cond.methodLink RL 125 yX5_grown ∈ GW := gw_t 614 (by decide +kernel) rfl
theorem wm_X5_grown : Cond.instanceMethod yX5_grown ∈ GW := gw_t 615 (by decide +kernel) rfl
theorem we_X5_grown : Cond.selects RX5 yX5_grown yX5_grown ∈ GW := gw_t 616 (by decide +kernel) rfl
theorem wc_X5_grown : Cond.code yX5_grown cX5_grown 9 (some .int) ∈ GW := gw_t 617 (by decide +kernel) rfl
theorem ml_X5_220 : Cond.methodLink RX5 220 yX5_isSheet ∈ GW := gw_t 618 (by decide +kernel) rfl
theorem wt_X5_isSheet : Cond.static yX5_isSheet ∈ GW := gw_t 619 (by decide +kernel) rfl
theorem wc_X5_isSheet : Cond.code yX5_isSheet cX5_isSheet 1 (some .boolean) ∈ GW := gw_t 620 (by decide +kernel) rfl
theorem ml_X5_223 : Cond.methodLink RX5 223 yX5_isLane ∈ GW := gw_t 621 (by decide +kernel) rfl
theorem wt_X5_isLane : Cond.static yX5_isLane ∈ GW := gw_t 622 (by decide +kernel) rfl
theorem wc_X5_isLane : Cond.code yX5_isLane cX5_isLane 1 (some .boolean) ∈ GW := gw_t 623 (by decide +kernel) rfl
theorem ml_X5_226 : Cond.methodLinkNest RX5 226 yX2_refusal "RobbedOnce" ∈ NW := nw_t 624 (by decide +kernel) rfl
theorem wm_X2_refusal : Cond.instanceMethod yX2_refusal ∈ GW := gw_t 626 (by decide +kernel) rfl
theorem wc_X2_refusal : Cond.code yX2_refusal cX2_refusal 4 (some .int) ∈ GW := gw_t 627 (by decide +kernel) rfl
theorem ml_X2_22 : Cond.methodLink RX2 22 yX2_holds ∈ GW := gw_t 628 (by decide +kernel) rfl
theorem wm_X2_holds : Cond.instanceMethod yX2_holds ∈ GW := gw_t 630 (by decide +kernel) rfl
theorem wc_X2_holds : Cond.code yX2_holds cX2_holds 3 (some .boolean) ∈ GW := gw_t 631 (by decide +kernel) rfl
theorem ml_X5_229 : Cond.methodLinkNest RX5 229 yX0_kindsTold "RobbedOnce" ∈ NW := nw_t 632 (by decide +kernel) rfl
theorem wm_X0_kindsTold : Cond.instanceMethod yX0_kindsTold ∈ GW := gw_t 634 (by decide +kernel) rfl
theorem wc_X0_kindsTold : Cond.code yX0_kindsTold cX0_kindsTold 8 (some .int) ∈ GW := gw_t 635 (by decide +kernel) rfl
theorem ml_X0_76 : Cond.methodLink RX0 76 yX0_goesAsTold ∈ GW := gw_t 636 (by decide +kernel) rfl
theorem wm_X0_goesAsTold : Cond.instanceMethod yX0_goesAsTold ∈ GW := gw_t 638 (by decide +kernel) rfl
theorem wc_X0_goesAsTold : Cond.code yX0_goesAsTold cX0_goesAsTold 6 (some .boolean) ∈ GW := gw_t 639 (by decide +kernel) rfl
theorem ml_X5_233 : Cond.methodLinkNest RX5 233 yX0_numbersTold "RobbedOnce" ∈ NW := nw_t 640 (by decide +kernel) rfl
theorem wm_X0_numbersTold : Cond.instanceMethod yX0_numbersTold ∈ GW := gw_t 642 (by decide +kernel) rfl
theorem wc_X0_numbersTold : Cond.code yX0_numbersTold cX0_numbersTold 9 (some .int) ∈ GW := gw_t 643 (by decide +kernel) rfl
theorem ml_L_130 : Cond.methodLink RL 130 yX5_film ∈ GW := gw_t 644 (by decide +kernel) rfl
theorem wm_X5_film : Cond.instanceMethod yX5_film ∈ GW := gw_t 645 (by decide +kernel) rfl
theorem we_X5_film : Cond.selects RX5 yX5_film yX5_film ∈ GW := gw_t 646 (by decide +kernel) rfl
theorem wc_X5_film : Cond.code yX5_film cX5_film 8 (some .int) ∈ GW := gw_t 647 (by decide +kernel) rfl
theorem ml_X5_237 : Cond.methodLinkNest RX5 237 yX0_tell "RobbedOnce" ∈ NW := nw_t 648 (by decide +kernel) rfl
theorem wm_X0_tell : Cond.instanceMethod yX0_tell ∈ GW := gw_t 650 (by decide +kernel) rfl
theorem wc_X0_tell : Cond.code yX0_tell cX0_tell 7 none ∈ GW := gw_t 651 (by decide +kernel) rfl
theorem ml_X0_89 : Cond.methodLinkNest RX0 89 yX2_put "RobbedOnce" ∈ NW := nw_t 652 (by decide +kernel) rfl
theorem wm_X2_put : Cond.instanceMethod yX2_put ∈ GW := gw_t 654 (by decide +kernel) rfl
theorem wc_X2_put : Cond.code yX2_put cX2_put 4 none ∈ GW := gw_t 655 (by decide +kernel) rfl
theorem ml_L_135 : Cond.methodLink RL 135 yX5_sheet ∈ GW := gw_t 656 (by decide +kernel) rfl
theorem wm_X5_sheet : Cond.instanceMethod yX5_sheet ∈ GW := gw_t 657 (by decide +kernel) rfl
theorem we_X5_sheet : Cond.selects RX5 yX5_sheet yX5_sheet ∈ GW := gw_t 658 (by decide +kernel) rfl
theorem wc_X5_sheet : Cond.code yX5_sheet cX5_sheet 4 (some .int) ∈ GW := gw_t 659 (by decide +kernel) rfl
theorem ml_X5_241 : Cond.methodLinkNest RX5 241 yX2_begin "RobbedOnce" ∈ NW := nw_t 660 (by decide +kernel) rfl
theorem wm_X2_begin : Cond.instanceMethod yX2_begin ∈ GW := gw_t 662 (by decide +kernel) rfl
theorem wc_X2_begin : Cond.code yX2_begin cX2_begin 4 none ∈ GW := gw_t 663 (by decide +kernel) rfl
theorem ml_L_139 : Cond.methodLink RL 139 yX5_drop ∈ GW := gw_t 664 (by decide +kernel) rfl
theorem wm_X5_drop : Cond.instanceMethod yX5_drop ∈ GW := gw_t 665 (by decide +kernel) rfl
theorem we_X5_drop : Cond.selects RX5 yX5_drop yX5_drop ∈ GW := gw_t 666 (by decide +kernel) rfl
theorem wc_X5_drop : Cond.code yX5_drop cX5_drop 4 (some .int) ∈ GW := gw_t 667 (by decide +kernel) rfl
theorem ml_X5_249 : Cond.methodLinkNest RX5 249 yX2_end "RobbedOnce" ∈ NW := nw_t 668 (by decide +kernel) rfl
theorem wm_X2_end : Cond.instanceMethod yX2_end ∈ GW := gw_t 670 (by decide +kernel) rfl
theorem wc_X2_end : Cond.code yX2_end cX2_end 1 none ∈ GW := gw_t 671 (by decide +kernel) rfl
theorem ml_L_145 : Cond.methodLink RL 145 yX5_item ∈ GW := gw_t 672 (by decide +kernel) rfl
theorem wm_X5_item : Cond.instanceMethod yX5_item ∈ GW := gw_t 673 (by decide +kernel) rfl
theorem we_X5_item : Cond.selects RX5 yX5_item yX5_item ∈ GW := gw_t 674 (by decide +kernel) rfl
theorem wc_X5_item : Cond.code yX5_item cX5_item 8 (some .int) ∈ GW := gw_t 675 (by decide +kernel) rfl
theorem ml_X5_252 : Cond.methodLinkNest RX5 252 yX2_put "RobbedOnce" ∈ NW := nw_t 676 (by decide +kernel) rfl
theorem ml_L_150 : Cond.methodLink RL 150 yX5_copy ∈ GW := gw_t 677 (by decide +kernel) rfl
theorem wm_X5_copy : Cond.instanceMethod yX5_copy ∈ GW := gw_t 678 (by decide +kernel) rfl
theorem we_X5_copy : Cond.selects RX5 yX5_copy yX5_copy ∈ GW := gw_t 679 (by decide +kernel) rfl
theorem wc_X5_copy : Cond.code yX5_copy cX5_copy 8 (some .int) ∈ GW := gw_t 680 (by decide +kernel) rfl
theorem ml_X5_256 : Cond.methodLinkNest RX5 256 yX2_holds "RobbedOnce" ∈ NW := nw_t 681 (by decide +kernel) rfl
theorem ml_X5_263 : Cond.methodLink RX5 263 arraycopyName ∈ GW := gw_t 682 (by decide +kernel) rfl
theorem cl_L_10 : Cond.classLink RL 10 RX6 ∈ GW := gw_t 683 (by decide +kernel) rfl
theorem in_X6 : Cond.instantiable RX6 13 ∈ GW := gw_t 684 (by decide +kernel) rfl
theorem ml_L_12 : Cond.methodLink RL 12 yX6_init ∈ GW := gw_t 685 (by decide +kernel) rfl
theorem wm_X6_init : Cond.instanceMethod yX6_init ∈ GW := gw_t 686 (by decide +kernel) rfl
theorem wc_X6_init : Cond.code yX6_init cX6_init 2 none ∈ GW := gw_t 687 (by decide +kernel) rfl
theorem ml_X6_1 : Cond.methodLink RX6 1 Lib.objectInit ∈ GW := gw_t 688 (by decide +kernel) rfl
theorem fl_X6_7 : Cond.fieldLink RX6 7 "RobbedOnceModel" "lane" "[I" ∈ GW := gw_t 689 (by decide +kernel) rfl
theorem fl_X6_13 : Cond.fieldLink RX6 13 "RobbedOnceModel" "size" "[I" ∈ GW := gw_t 690 (by decide +kernel) rfl
theorem fl_X6_16 : Cond.fieldLink RX6 16 "RobbedOnceModel" "item" "[J" ∈ GW := gw_t 691 (by decide +kernel) rfl
theorem fl_X6_72 : Cond.fieldLink RX6 72 "RobbedOnceModel" "letters" "I" ∈ GW := gw_t 692 (by decide +kernel) rfl
theorem fl_X6_20 : Cond.fieldLink RX6 20 "RobbedOnceModel" "tape" "[I" ∈ GW := gw_t 693 (by decide +kernel) rfl
theorem fl_X6_76 : Cond.fieldLink RX6 76 "RobbedOnceModel" "position" "I" ∈ GW := gw_t 694 (by decide +kernel) rfl
theorem fl_X6_83 : Cond.fieldLink RX6 83 "RobbedOnceModel" "number" "I" ∈ GW := gw_t 695 (by decide +kernel) rfl
theorem fl_X6_23 : Cond.fieldLink RX6 23 "RobbedOnceModel" "now" "[I" ∈ GW := gw_t 696 (by decide +kernel) rfl
theorem fl_X6_26 : Cond.fieldLink RX6 26 "RobbedOnceModel" "tried" "[I" ∈ GW := gw_t 697 (by decide +kernel) rfl
theorem fl_X6_29 : Cond.fieldLink RX6 29 "RobbedOnceModel" "read" "[I" ∈ GW := gw_t 698 (by decide +kernel) rfl
theorem fl_X6_32 : Cond.fieldLink RX6 32 "RobbedOnceModel" "kept" "[I" ∈ GW := gw_t 699 (by decide +kernel) rfl
theorem fl_X6_155 : Cond.fieldLink RX6 155 "RobbedOnceModel" "isKept" "Z" ∈ GW := gw_t 700 (by decide +kernel) rfl
theorem fl_X6_35 : Cond.fieldLink RX6 35 "RobbedOnceModel" "prey" "[I" ∈ GW := gw_t 701 (by decide +kernel) rfl
theorem ml_L_17 : Cond.methodLink RL 17 yX6_apprentice ∈ GW := gw_t 729 (by decide +kernel) rfl
theorem wm_X6_apprentice : Cond.instanceMethod yX6_apprentice ∈ GW := gw_t 730 (by decide +kernel) rfl
theorem we_X6_apprentice : Cond.selects RX6 yX6_apprentice yX6_apprentice ∈ GW := gw_t 731 (by decide +kernel) rfl
theorem wc_X6_apprentice : Cond.code yX6_apprentice cX6_apprentice 4 (some .int) ∈ GW := gw_t 732 (by decide +kernel) rfl
theorem ml_X6_38 : Cond.methodLink RX6 38 yX6_in ∈ GW := gw_t 733 (by decide +kernel) rfl
theorem wt_X6_in : Cond.static yX6_in ∈ GW := gw_t 734 (by decide +kernel) rfl
theorem wc_X6_in : Cond.code yX6_in cX6_in 3 (some .boolean) ∈ GW := gw_t 735 (by decide +kernel) rfl
theorem ml_X6_42 : Cond.methodLink RX6 42 yX6_addOne ∈ GW := gw_t 736 (by decide +kernel) rfl
theorem wt_X6_addOne : Cond.static yX6_addOne ∈ GW := gw_t 737 (by decide +kernel) rfl
theorem wc_X6_addOne : Cond.code yX6_addOne cX6_addOne 5 (some .int) ∈ GW := gw_t 738 (by decide +kernel) rfl
theorem ml_L_22 : Cond.methodLink RL 22 yX6_thief ∈ GW := gw_t 739 (by decide +kernel) rfl
theorem wm_X6_thief : Cond.instanceMethod yX6_thief ∈ GW := gw_t 740 (by decide +kernel) rfl
theorem we_X6_thief : Cond.selects RX6 yX6_thief yX6_thief ∈ GW := gw_t 741 (by decide +kernel) rfl
theorem wc_X6_thief : Cond.code yX6_thief cX6_thief 3 (some .int) ∈ GW := gw_t 742 (by decide +kernel) rfl
theorem ml_X6_46 : Cond.methodLink RX6 46 yX6_addThief ∈ GW := gw_t 743 (by decide +kernel) rfl
theorem wt_X6_addThief : Cond.static yX6_addThief ∈ GW := gw_t 744 (by decide +kernel) rfl
theorem wc_X6_addThief : Cond.code yX6_addThief cX6_addThief 4 (some .int) ∈ GW := gw_t 745 (by decide +kernel) rfl
theorem ml_L_27 : Cond.methodLink RL 27 yX6_bar ∈ GW := gw_t 746 (by decide +kernel) rfl
theorem wm_X6_bar : Cond.instanceMethod yX6_bar ∈ GW := gw_t 747 (by decide +kernel) rfl
theorem we_X6_bar : Cond.selects RX6 yX6_bar yX6_bar ∈ GW := gw_t 748 (by decide +kernel) rfl
theorem wc_X6_bar : Cond.code yX6_bar cX6_bar 3 (some .int) ∈ GW := gw_t 749 (by decide +kernel) rfl
theorem ml_L_31 : Cond.methodLink RL 31 yX6_of ∈ GW := gw_t 750 (by decide +kernel) rfl
theorem wm_X6_of : Cond.instanceMethod yX6_of ∈ GW := gw_t 751 (by decide +kernel) rfl
theorem we_X6_of : Cond.selects RX6 yX6_of yX6_of ∈ GW := gw_t 752 (by decide +kernel) rfl
theorem wc_X6_of : Cond.code yX6_of cX6_of 3 (some .int) ∈ GW := gw_t 753 (by decide +kernel) rfl
theorem ml_X6_58 : Cond.methodLink RX6 58 yX6_isOne ∈ GW := gw_t 754 (by decide +kernel) rfl
theorem wm_X6_isOne : Cond.instanceMethod yX6_isOne ∈ GW := gw_t 756 (by decide +kernel) rfl
theorem wc_X6_isOne : Cond.code yX6_isOne cX6_isOne 2 (some .boolean) ∈ GW := gw_t 757 (by decide +kernel) rfl
theorem ml_X6_62 : Cond.methodLink RX6 62 yX6_robbersOf ∈ GW := gw_t 758 (by decide +kernel) rfl
theorem wm_X6_robbersOf : Cond.instanceMethod yX6_robbersOf ∈ GW := gw_t 760 (by decide +kernel) rfl
theorem wc_X6_robbersOf : Cond.code yX6_robbersOf cX6_robbersOf 4 (some .int) ∈ GW := gw_t 761 (by decide +kernel) rfl
theorem ml_X6_54 : Cond.methodLink RX6 54 yX6_mayRob ∈ GW := gw_t 762 (by decide +kernel) rfl
theorem wt_X6_mayRob : Cond.static yX6_mayRob ∈ GW := gw_t 763 (by decide +kernel) rfl
theorem wc_X6_mayRob : Cond.code yX6_mayRob cX6_mayRob 4 (some .boolean) ∈ GW := gw_t 764 (by decide +kernel) rfl
theorem ml_X6_50 : Cond.methodLink RX6 50 yX6_has ∈ GW := gw_t 765 (by decide +kernel) rfl
theorem wt_X6_has : Cond.static yX6_has ∈ GW := gw_t 766 (by decide +kernel) rfl
theorem wc_X6_has : Cond.code yX6_has cX6_has 2 (some .boolean) ∈ GW := gw_t 767 (by decide +kernel) rfl
theorem ml_L_35 : Cond.methodLink RL 35 yX6_at ∈ GW := gw_t 768 (by decide +kernel) rfl
theorem wm_X6_at : Cond.instanceMethod yX6_at ∈ GW := gw_t 769 (by decide +kernel) rfl
theorem we_X6_at : Cond.selects RX6 yX6_at yX6_at ∈ GW := gw_t 770 (by decide +kernel) rfl
theorem wc_X6_at : Cond.code yX6_at cX6_at 3 (some .int) ∈ GW := gw_t 771 (by decide +kernel) rfl
theorem ml_X6_66 : Cond.methodLink RX6 66 yX6_isThief ∈ GW := gw_t 772 (by decide +kernel) rfl
theorem wm_X6_isThief : Cond.instanceMethod yX6_isThief ∈ GW := gw_t 774 (by decide +kernel) rfl
theorem wc_X6_isThief : Cond.code yX6_isThief cX6_isThief 2 (some .boolean) ∈ GW := gw_t 775 (by decide +kernel) rfl
theorem ml_X6_69 : Cond.methodLink RX6 69 yX6_preyOf ∈ GW := gw_t 776 (by decide +kernel) rfl
theorem wm_X6_preyOf : Cond.instanceMethod yX6_preyOf ∈ GW := gw_t 778 (by decide +kernel) rfl
theorem wc_X6_preyOf : Cond.code yX6_preyOf cX6_preyOf 4 (some .int) ∈ GW := gw_t 779 (by decide +kernel) rfl
theorem ml_L_39 : Cond.methodLink RL 39 yX6_type ∈ GW := gw_t 780 (by decide +kernel) rfl
theorem wm_X6_type : Cond.instanceMethod yX6_type ∈ GW := gw_t 781 (by decide +kernel) rfl
theorem we_X6_type : Cond.selects RX6 yX6_type yX6_type ∈ GW := gw_t 782 (by decide +kernel) rfl
theorem wc_X6_type : Cond.code yX6_type cX6_type 2 (some .int) ∈ GW := gw_t 783 (by decide +kernel) rfl
theorem ml_L_44 : Cond.methodLink RL 44 yX6_town ∈ GW := gw_t 784 (by decide +kernel) rfl
theorem wm_X6_town : Cond.instanceMethod yX6_town ∈ GW := gw_t 785 (by decide +kernel) rfl
theorem we_X6_town : Cond.selects RX6 yX6_town yX6_town ∈ GW := gw_t 786 (by decide +kernel) rfl
theorem wc_X6_town : Cond.code yX6_town cX6_town 2 (some .int) ∈ GW := gw_t 787 (by decide +kernel) rfl
theorem ml_X6_105 : Cond.methodLink RX6 105 yX6_isTown ∈ GW := gw_t 788 (by decide +kernel) rfl
theorem wm_X6_isTown : Cond.instanceMethod yX6_isTown ∈ GW := gw_t 790 (by decide +kernel) rfl
theorem wc_X6_isTown : Cond.code yX6_isTown cX6_isTown 2 (some .boolean) ∈ GW := gw_t 791 (by decide +kernel) rfl
theorem ml_X6_95 : Cond.methodLink RX6 95 yX6_isNumber ∈ GW := gw_t 792 (by decide +kernel) rfl
theorem wm_X6_isNumber : Cond.instanceMethod yX6_isNumber ∈ GW := gw_t 794 (by decide +kernel) rfl
theorem wc_X6_isNumber : Cond.code yX6_isNumber cX6_isNumber 2 (some .boolean) ∈ GW := gw_t 795 (by decide +kernel) rfl
theorem ml_X6_86 : Cond.methodLink RX6 86 yX6_isDigit ∈ GW := gw_t 796 (by decide +kernel) rfl
theorem wm_X6_isDigit : Cond.instanceMethod yX6_isDigit ∈ GW := gw_t 798 (by decide +kernel) rfl
theorem wc_X6_isDigit : Cond.code yX6_isDigit cX6_isDigit 3 (some .boolean) ∈ GW := gw_t 799 (by decide +kernel) rfl
theorem ml_X6_79 : Cond.methodLink RX6 79 yX6_peek ∈ GW := gw_t 800 (by decide +kernel) rfl
theorem wm_X6_peek : Cond.instanceMethod yX6_peek ∈ GW := gw_t 802 (by decide +kernel) rfl
theorem wc_X6_peek : Cond.code yX6_peek cX6_peek 1 (some .int) ∈ GW := gw_t 803 (by decide +kernel) rfl
theorem ml_X6_92 : Cond.methodLink RX6 92 yX6_isSign ∈ GW := gw_t 804 (by decide +kernel) rfl
theorem wm_X6_isSign : Cond.instanceMethod yX6_isSign ∈ GW := gw_t 806 (by decide +kernel) rfl
theorem wc_X6_isSign : Cond.code yX6_isSign cX6_isSign 2 (some .boolean) ∈ GW := gw_t 807 (by decide +kernel) rfl
theorem ml_X6_99 : Cond.methodLink RX6 99 yX6_isOneItem ∈ GW := gw_t 808 (by decide +kernel) rfl
theorem wm_X6_isOneItem : Cond.instanceMethod yX6_isOneItem ∈ GW := gw_t 810 (by decide +kernel) rfl
theorem wc_X6_isOneItem : Cond.code yX6_isOneItem cX6_isOneItem 4 (some .boolean) ∈ GW := gw_t 811 (by decide +kernel) rfl
theorem ml_X6_89 : Cond.methodLink RX6 89 yX6_kindBy ∈ GW := gw_t 812 (by decide +kernel) rfl
theorem wt_X6_kindBy : Cond.static yX6_kindBy ∈ GW := gw_t 813 (by decide +kernel) rfl
theorem wc_X6_kindBy : Cond.code yX6_kindBy cX6_kindBy 1 (some .int) ∈ GW := gw_t 814 (by decide +kernel) rfl
theorem ml_X6_102 : Cond.methodLink RX6 102 yX6_isThiefItem ∈ GW := gw_t 815 (by decide +kernel) rfl
theorem wm_X6_isThiefItem : Cond.instanceMethod yX6_isThiefItem ∈ GW := gw_t 817 (by decide +kernel) rfl
theorem wc_X6_isThiefItem : Cond.code yX6_isThiefItem cX6_isThiefItem 2 (some .boolean) ∈ GW := gw_t 818 (by decide +kernel) rfl
theorem ml_X6_108 : Cond.methodLink RX6 108 yX6_bring ∈ GW := gw_t 819 (by decide +kernel) rfl
theorem wt_X6_bring : Cond.static yX6_bring ∈ GW := gw_t 820 (by decide +kernel) rfl
theorem wc_X6_bring : Cond.code yX6_bring cX6_bring 6 none ∈ GW := gw_t 821 (by decide +kernel) rfl
theorem ml_L_48 : Cond.methodLink RL 48 yX6_count ∈ GW := gw_t 822 (by decide +kernel) rfl
theorem wm_X6_count : Cond.instanceMethod yX6_count ∈ GW := gw_t 823 (by decide +kernel) rfl
theorem we_X6_count : Cond.selects RX6 yX6_count yX6_count ∈ GW := gw_t 824 (by decide +kernel) rfl
theorem wc_X6_count : Cond.code yX6_count cX6_count 4 (some .int) ∈ GW := gw_t 825 (by decide +kernel) rfl
theorem ml_L_52 : Cond.methodLink RL 52 yX6_nights ∈ GW := gw_t 826 (by decide +kernel) rfl
theorem wm_X6_nights : Cond.instanceMethod yX6_nights ∈ GW := gw_t 827 (by decide +kernel) rfl
theorem we_X6_nights : Cond.selects RX6 yX6_nights yX6_nights ∈ GW := gw_t 828 (by decide +kernel) rfl
theorem wc_X6_nights : Cond.code yX6_nights cX6_nights 3 (some .int) ∈ GW := gw_t 829 (by decide +kernel) rfl
theorem ml_X6_123 : Cond.methodLink RX6 123 yX6_note ∈ GW := gw_t 830 (by decide +kernel) rfl
theorem wm_X6_note : Cond.instanceMethod yX6_note ∈ GW := gw_t 832 (by decide +kernel) rfl
theorem wc_X6_note : Cond.code yX6_note cX6_note 1 none ∈ GW := gw_t 833 (by decide +kernel) rfl
theorem ml_X6_126 : Cond.methodLink RX6 126 yX6_nightIn ∈ GW := gw_t 834 (by decide +kernel) rfl
theorem wm_X6_nightIn : Cond.instanceMethod yX6_nightIn ∈ GW := gw_t 836 (by decide +kernel) rfl
theorem wc_X6_nightIn : Cond.code yX6_nightIn cX6_nightIn 6 none ∈ GW := gw_t 837 (by decide +kernel) rfl
theorem ml_X6_115 : Cond.methodLink RX6 115 yX6_robIn ∈ GW := gw_t 838 (by decide +kernel) rfl
theorem wm_X6_robIn : Cond.instanceMethod yX6_robIn ∈ GW := gw_t 840 (by decide +kernel) rfl
theorem wc_X6_robIn : Cond.code yX6_robIn cX6_robIn 6 (some .int) ∈ GW := gw_t 841 (by decide +kernel) rfl
theorem ml_X6_112 : Cond.methodLink RX6 112 yX6_dearest ∈ GW := gw_t 842 (by decide +kernel) rfl
theorem wt_X6_dearest : Cond.static yX6_dearest ∈ GW := gw_t 843 (by decide +kernel) rfl
theorem wc_X6_dearest : Cond.code yX6_dearest cX6_dearest 6 (some .int) ∈ GW := gw_t 844 (by decide +kernel) rfl
theorem ml_X6_119 : Cond.methodLink RX6 119 yX6_dearerBy ∈ GW := gw_t 845 (by decide +kernel) rfl
theorem wt_X6_dearerBy : Cond.static yX6_dearerBy ∈ GW := gw_t 846 (by decide +kernel) rfl
theorem wc_X6_dearerBy : Cond.code yX6_dearerBy cX6_dearerBy 5 (some .int) ∈ GW := gw_t 847 (by decide +kernel) rfl
theorem ml_L_56 : Cond.methodLink RL 56 yX6_show ∈ GW := gw_t 848 (by decide +kernel) rfl
theorem wm_X6_show : Cond.instanceMethod yX6_show ∈ GW := gw_t 849 (by decide +kernel) rfl
theorem we_X6_show : Cond.selects RX6 yX6_show yX6_show ∈ GW := gw_t 850 (by decide +kernel) rfl
theorem wc_X6_show : Cond.code yX6_show cX6_show 3 (some .int) ∈ GW := gw_t 851 (by decide +kernel) rfl
theorem ml_X6_130 : Cond.methodLink RX6 130 yX6_setShows ∈ GW := gw_t 852 (by decide +kernel) rfl
theorem wt_X6_setShows : Cond.static yX6_setShows ∈ GW := gw_t 853 (by decide +kernel) rfl
theorem wc_X6_setShows : Cond.code yX6_setShows cX6_setShows 3 none ∈ GW := gw_t 854 (by decide +kernel) rfl
theorem ml_L_60 : Cond.methodLink RL 60 yX6_teach ∈ GW := gw_t 855 (by decide +kernel) rfl
theorem wm_X6_teach : Cond.instanceMethod yX6_teach ∈ GW := gw_t 856 (by decide +kernel) rfl
theorem we_X6_teach : Cond.selects RX6 yX6_teach yX6_teach ∈ GW := gw_t 857 (by decide +kernel) rfl
theorem wc_X6_teach : Cond.code yX6_teach cX6_teach 4 (some .int) ∈ GW := gw_t 858 (by decide +kernel) rfl
theorem ml_L_64 : Cond.methodLink RL 64 yX6_drift ∈ GW := gw_t 859 (by decide +kernel) rfl
theorem wm_X6_drift : Cond.instanceMethod yX6_drift ∈ GW := gw_t 860 (by decide +kernel) rfl
theorem we_X6_drift : Cond.selects RX6 yX6_drift yX6_drift ∈ GW := gw_t 861 (by decide +kernel) rfl
theorem wc_X6_drift : Cond.code yX6_drift cX6_drift 3 (some .int) ∈ GW := gw_t 862 (by decide +kernel) rfl
theorem kc_X6_134 : Cond.constantLong RX6 134 (1103515245 : Int64) ∈ GW := gw_t 863 (by decide +kernel) rfl
theorem kc_X6_136 : Cond.constantLong RX6 136 (12345 : Int64) ∈ GW := gw_t 864 (by decide +kernel) rfl
theorem kc_X6_138 : Cond.constantLong RX6 138 (2147483648 : Int64) ∈ GW := gw_t 865 (by decide +kernel) rfl
theorem kc_X6_140 : Cond.constant RX6 140 (65536 : Int32) ∈ GW := gw_t 866 (by decide +kernel) rfl
theorem ml_L_68 : Cond.methodLink RL 68 yX6_undo ∈ GW := gw_t 867 (by decide +kernel) rfl
theorem wm_X6_undo : Cond.instanceMethod yX6_undo ∈ GW := gw_t 868 (by decide +kernel) rfl
theorem we_X6_undo : Cond.selects RX6 yX6_undo yX6_undo ∈ GW := gw_t 869 (by decide +kernel) rfl
theorem wc_X6_undo : Cond.code yX6_undo cX6_undo 1 (some .int) ∈ GW := gw_t 870 (by decide +kernel) rfl
theorem ml_L_72 : Cond.methodLink RL 72 yX6_seed ∈ GW := gw_t 871 (by decide +kernel) rfl
theorem wm_X6_seed : Cond.instanceMethod yX6_seed ∈ GW := gw_t 872 (by decide +kernel) rfl
theorem we_X6_seed : Cond.selects RX6 yX6_seed yX6_seed ∈ GW := gw_t 873 (by decide +kernel) rfl
theorem wc_X6_seed : Cond.code yX6_seed cX6_seed 3 (some .int) ∈ GW := gw_t 874 (by decide +kernel) rfl
theorem ml_L_76 : Cond.methodLink RL 76 yX6_ahead ∈ GW := gw_t 875 (by decide +kernel) rfl
theorem wm_X6_ahead : Cond.instanceMethod yX6_ahead ∈ GW := gw_t 876 (by decide +kernel) rfl
theorem we_X6_ahead : Cond.selects RX6 yX6_ahead yX6_ahead ∈ GW := gw_t 877 (by decide +kernel) rfl
theorem wc_X6_ahead : Cond.code yX6_ahead cX6_ahead 3 (some .int) ∈ GW := gw_t 878 (by decide +kernel) rfl
theorem ml_X6_141 : Cond.methodLink RX6 141 yX6_begin ∈ GW := gw_t 879 (by decide +kernel) rfl
theorem wm_X6_begin : Cond.instanceMethod yX6_begin ∈ GW := gw_t 881 (by decide +kernel) rfl
theorem wc_X6_begin : Cond.code yX6_begin cX6_begin 1 none ∈ GW := gw_t 882 (by decide +kernel) rfl
theorem ml_X6_144 : Cond.methodLink RX6 144 yX6_goOn ∈ GW := gw_t 883 (by decide +kernel) rfl
theorem wm_X6_goOn : Cond.instanceMethod yX6_goOn ∈ GW := gw_t 885 (by decide +kernel) rfl
theorem wc_X6_goOn : Cond.code yX6_goOn cX6_goOn 4 none ∈ GW := gw_t 886 (by decide +kernel) rfl
theorem ml_L_80 : Cond.methodLink RL 80 yX6_then ∈ GW := gw_t 887 (by decide +kernel) rfl
theorem wm_X6_then : Cond.instanceMethod yX6_then ∈ GW := gw_t 888 (by decide +kernel) rfl
theorem we_X6_then : Cond.selects RX6 yX6_then yX6_then ∈ GW := gw_t 889 (by decide +kernel) rfl
theorem wc_X6_then : Cond.code yX6_then cX6_then 2 (some .int) ∈ GW := gw_t 890 (by decide +kernel) rfl
theorem ml_L_84 : Cond.methodLink RL 84 yX6_sworn ∈ GW := gw_t 891 (by decide +kernel) rfl
theorem wm_X6_sworn : Cond.instanceMethod yX6_sworn ∈ GW := gw_t 892 (by decide +kernel) rfl
theorem we_X6_sworn : Cond.selects RX6 yX6_sworn yX6_sworn ∈ GW := gw_t 893 (by decide +kernel) rfl
theorem wc_X6_sworn : Cond.code yX6_sworn cX6_sworn 2 (some .int) ∈ GW := gw_t 894 (by decide +kernel) rfl
theorem ml_X6_148 : Cond.methodLink RX6 148 yX6_swornFrom ∈ GW := gw_t 895 (by decide +kernel) rfl
theorem wm_X6_swornFrom : Cond.instanceMethod yX6_swornFrom ∈ GW := gw_t 897 (by decide +kernel) rfl
theorem wc_X6_swornFrom : Cond.code yX6_swornFrom cX6_swornFrom 4 (some .int) ∈ GW := gw_t 898 (by decide +kernel) rfl
theorem ml_L_88 : Cond.methodLink RL 88 yX6_robs ∈ GW := gw_t 899 (by decide +kernel) rfl
theorem wm_X6_robs : Cond.instanceMethod yX6_robs ∈ GW := gw_t 900 (by decide +kernel) rfl
theorem we_X6_robs : Cond.selects RX6 yX6_robs yX6_robs ∈ GW := gw_t 901 (by decide +kernel) rfl
theorem wc_X6_robs : Cond.code yX6_robs cX6_robs 2 (some .int) ∈ GW := gw_t 902 (by decide +kernel) rfl
theorem ml_L_92 : Cond.methodLink RL 92 yX6_hides ∈ GW := gw_t 903 (by decide +kernel) rfl
theorem wm_X6_hides : Cond.instanceMethod yX6_hides ∈ GW := gw_t 904 (by decide +kernel) rfl
theorem we_X6_hides : Cond.selects RX6 yX6_hides yX6_hides ∈ GW := gw_t 905 (by decide +kernel) rfl
theorem wc_X6_hides : Cond.code yX6_hides cX6_hides 7 (some .int) ∈ GW := gw_t 906 (by decide +kernel) rfl
theorem ml_L_96 : Cond.methodLink RL 96 yX6_cover ∈ GW := gw_t 907 (by decide +kernel) rfl
theorem wm_X6_cover : Cond.instanceMethod yX6_cover ∈ GW := gw_t 908 (by decide +kernel) rfl
theorem we_X6_cover : Cond.selects RX6 yX6_cover yX6_cover ∈ GW := gw_t 909 (by decide +kernel) rfl
theorem wc_X6_cover : Cond.code yX6_cover cX6_cover 7 (some .int) ∈ GW := gw_t 910 (by decide +kernel) rfl
theorem ml_X6_152 : Cond.methodLink RX6 152 yX6_bits ∈ GW := gw_t 911 (by decide +kernel) rfl
theorem wt_X6_bits : Cond.static yX6_bits ∈ GW := gw_t 912 (by decide +kernel) rfl
theorem wc_X6_bits : Cond.code yX6_bits cX6_bits 3 (some .int) ∈ GW := gw_t 913 (by decide +kernel) rfl
theorem ml_L_100 : Cond.methodLink RL 100 yX6_low ∈ GW := gw_t 914 (by decide +kernel) rfl
theorem wm_X6_low : Cond.instanceMethod yX6_low ∈ GW := gw_t 915 (by decide +kernel) rfl
theorem we_X6_low : Cond.selects RX6 yX6_low yX6_low ∈ GW := gw_t 916 (by decide +kernel) rfl
theorem wc_X6_low : Cond.code yX6_low cX6_low 3 (some .int) ∈ GW := gw_t 917 (by decide +kernel) rfl
theorem ml_L_104 : Cond.methodLink RL 104 yX6_spare ∈ GW := gw_t 918 (by decide +kernel) rfl
theorem wm_X6_spare : Cond.instanceMethod yX6_spare ∈ GW := gw_t 919 (by decide +kernel) rfl
theorem we_X6_spare : Cond.selects RX6 yX6_spare yX6_spare ∈ GW := gw_t 920 (by decide +kernel) rfl
theorem wc_X6_spare : Cond.code yX6_spare cX6_spare 6 (some .int) ∈ GW := gw_t 921 (by decide +kernel) rfl
theorem ml_L_108 : Cond.methodLink RL 108 yX6_match ∈ GW := gw_t 922 (by decide +kernel) rfl
theorem wm_X6_match : Cond.instanceMethod yX6_match ∈ GW := gw_t 923 (by decide +kernel) rfl
theorem we_X6_match : Cond.selects RX6 yX6_match yX6_match ∈ GW := gw_t 924 (by decide +kernel) rfl
theorem wc_X6_match : Cond.code yX6_match cX6_match 8 (some .int) ∈ GW := gw_t 925 (by decide +kernel) rfl
theorem ml_L_112 : Cond.methodLink RL 112 yX6_care ∈ GW := gw_t 926 (by decide +kernel) rfl
theorem wm_X6_care : Cond.instanceMethod yX6_care ∈ GW := gw_t 927 (by decide +kernel) rfl
theorem we_X6_care : Cond.selects RX6 yX6_care yX6_care ∈ GW := gw_t 928 (by decide +kernel) rfl
theorem wc_X6_care : Cond.code yX6_care cX6_care 4 (some .int) ∈ GW := gw_t 929 (by decide +kernel) rfl
theorem ml_L_116 : Cond.methodLink RL 116 yX6_leave ∈ GW := gw_t 930 (by decide +kernel) rfl
theorem wm_X6_leave : Cond.instanceMethod yX6_leave ∈ GW := gw_t 931 (by decide +kernel) rfl
theorem we_X6_leave : Cond.selects RX6 yX6_leave yX6_leave ∈ GW := gw_t 932 (by decide +kernel) rfl
theorem wc_X6_leave : Cond.code yX6_leave cX6_leave 9 (some .int) ∈ GW := gw_t 933 (by decide +kernel) rfl
theorem ml_L_120 : Cond.methodLink RL 120 yX6_image ∈ GW := gw_t 934 (by decide +kernel) rfl
theorem wm_X6_image : Cond.instanceMethod yX6_image ∈ GW := gw_t 935 (by decide +kernel) rfl
theorem we_X6_image : Cond.selects RX6 yX6_image yX6_image ∈ GW := gw_t 936 (by decide +kernel) rfl
theorem wc_X6_image : Cond.code yX6_image cX6_image 1 (some .int) ∈ GW := gw_t 937 (by decide +kernel) rfl
theorem ml_L_124 : Cond.methodLink RL 124 yX6_restore ∈ GW := gw_t 938 (by decide +kernel) rfl
theorem wm_X6_restore : Cond.instanceMethod yX6_restore ∈ GW := gw_t 939 (by decide +kernel) rfl
theorem we_X6_restore : Cond.selects RX6 yX6_restore yX6_restore ∈ GW := gw_t 940 (by decide +kernel) rfl
theorem wc_X6_restore : Cond.code yX6_restore cX6_restore 1 (some .int) ∈ GW := gw_t 941 (by decide +kernel) rfl
theorem ml_L_129 : Cond.methodLink RL 129 yX6_grown ∈ GW := gw_t 942 (by decide +kernel) rfl
theorem wm_X6_grown : Cond.instanceMethod yX6_grown ∈ GW := gw_t 943 (by decide +kernel) rfl
theorem we_X6_grown : Cond.selects RX6 yX6_grown yX6_grown ∈ GW := gw_t 944 (by decide +kernel) rfl
theorem wc_X6_grown : Cond.code yX6_grown cX6_grown 13 (some .int) ∈ GW := gw_t 945 (by decide +kernel) rfl
theorem ml_X6_162 : Cond.methodLink RX6 162 yX6_isSheet ∈ GW := gw_t 946 (by decide +kernel) rfl
theorem wt_X6_isSheet : Cond.static yX6_isSheet ∈ GW := gw_t 947 (by decide +kernel) rfl
theorem wc_X6_isSheet : Cond.code yX6_isSheet cX6_isSheet 1 (some .boolean) ∈ GW := gw_t 948 (by decide +kernel) rfl
theorem ml_X6_165 : Cond.methodLink RX6 165 yX6_wrong ∈ GW := gw_t 949 (by decide +kernel) rfl
theorem wm_X6_wrong : Cond.instanceMethod yX6_wrong ∈ GW := gw_t 951 (by decide +kernel) rfl
theorem wc_X6_wrong : Cond.code yX6_wrong cX6_wrong 5 (some .int) ∈ GW := gw_t 952 (by decide +kernel) rfl
theorem ml_X6_159 : Cond.methodLink RX6 159 yX6_isPart ∈ GW := gw_t 953 (by decide +kernel) rfl
theorem wt_X6_isPart : Cond.static yX6_isPart ∈ GW := gw_t 954 (by decide +kernel) rfl
theorem wc_X6_isPart : Cond.code yX6_isPart cX6_isPart 3 (some .boolean) ∈ GW := gw_t 955 (by decide +kernel) rfl
theorem ml_X6_169 : Cond.methodLink RX6 169 yX6_isGrown ∈ GW := gw_t 956 (by decide +kernel) rfl
theorem wm_X6_isGrown : Cond.instanceMethod yX6_isGrown ∈ GW := gw_t 958 (by decide +kernel) rfl
theorem wc_X6_isGrown : Cond.code yX6_isGrown cX6_isGrown 7 (some .boolean) ∈ GW := gw_t 959 (by decide +kernel) rfl
theorem ml_L_134 : Cond.methodLink RL 134 yX6_film ∈ GW := gw_t 960 (by decide +kernel) rfl
theorem wm_X6_film : Cond.instanceMethod yX6_film ∈ GW := gw_t 961 (by decide +kernel) rfl
theorem we_X6_film : Cond.selects RX6 yX6_film yX6_film ∈ GW := gw_t 962 (by decide +kernel) rfl
theorem wc_X6_film : Cond.code yX6_film cX6_film 8 (some .int) ∈ GW := gw_t 963 (by decide +kernel) rfl
theorem ml_L_138 : Cond.methodLink RL 138 yX6_sheet ∈ GW := gw_t 964 (by decide +kernel) rfl
theorem wm_X6_sheet : Cond.instanceMethod yX6_sheet ∈ GW := gw_t 965 (by decide +kernel) rfl
theorem we_X6_sheet : Cond.selects RX6 yX6_sheet yX6_sheet ∈ GW := gw_t 966 (by decide +kernel) rfl
theorem wc_X6_sheet : Cond.code yX6_sheet cX6_sheet 5 (some .int) ∈ GW := gw_t 967 (by decide +kernel) rfl
theorem ml_L_142 : Cond.methodLink RL 142 yX6_drop ∈ GW := gw_t 968 (by decide +kernel) rfl
theorem wm_X6_drop : Cond.instanceMethod yX6_drop ∈ GW := gw_t 969 (by decide +kernel) rfl
theorem we_X6_drop : Cond.selects RX6 yX6_drop yX6_drop ∈ GW := gw_t 970 (by decide +kernel) rfl
theorem wc_X6_drop : Cond.code yX6_drop cX6_drop 2 (some .int) ∈ GW := gw_t 971 (by decide +kernel) rfl
theorem ml_L_149 : Cond.methodLink RL 149 yX6_item ∈ GW := gw_t 972 (by decide +kernel) rfl
theorem wm_X6_item : Cond.instanceMethod yX6_item ∈ GW := gw_t 973 (by decide +kernel) rfl
theorem we_X6_item : Cond.selects RX6 yX6_item yX6_item ∈ GW := gw_t 974 (by decide +kernel) rfl
theorem wc_X6_item : Cond.code yX6_item cX6_item 7 (some .int) ∈ GW := gw_t 975 (by decide +kernel) rfl
theorem ml_L_153 : Cond.methodLink RL 153 yX6_copy ∈ GW := gw_t 976 (by decide +kernel) rfl
theorem wm_X6_copy : Cond.instanceMethod yX6_copy ∈ GW := gw_t 977 (by decide +kernel) rfl
theorem we_X6_copy : Cond.selects RX6 yX6_copy yX6_copy ∈ GW := gw_t 978 (by decide +kernel) rfl
theorem wc_X6_copy : Cond.code yX6_copy cX6_copy 9 (some .int) ∈ GW := gw_t 979 (by decide +kernel) rfl
theorem kc_L_143 : Cond.constantLong RL 143 (4294967295 : Int64) ∈ GW := gw_t 980 (by decide +kernel) rfl
theorem fl_J0_15 : Cond.fieldLink RJ0 15 "java/lang/String" "coder" "B" ∈ GW := gw_t 981 (by decide +kernel) rfl
theorem fl_J0_9 : Cond.fieldLink RJ0 9 "java/lang/String" "value" "[B" ∈ GW := gw_t 982 (by decide +kernel) rfl
theorem we_X1_forget : Cond.selects RX1 yX1_forget yX1_forget ∈ GW := gw_s 0 (by decide +kernel) rfl
theorem we_X4_addApprentice : Cond.selects RX4 yX4_addApprentice yX4_addApprentice ∈ GW := gw_s 1 (by decide +kernel) rfl
theorem we_X4_setShown : Cond.selects RX4 yX4_setShown yX4_setShown ∈ GW := gw_s 2 (by decide +kernel) rfl
theorem we_X4_addThief : Cond.selects RX4 yX4_addThief yX4_addThief ∈ GW := gw_s 3 (by decide +kernel) rfl
theorem we_X5_isApprentice : Cond.selects RX5 yX5_isApprentice yX5_isApprentice ∈ GW := gw_s 4 (by decide +kernel) rfl
theorem we_X4_thievesWhoMayRob : Cond.selects RX4 yX4_thievesWhoMayRob yX4_thievesWhoMayRob ∈ GW := gw_s 5 (by decide +kernel) rfl
theorem we_X4_mayRob : Cond.selects RX4 yX4_mayRob yX4_mayRob ∈ GW := gw_s 6 (by decide +kernel) rfl
theorem we_X5_isThief : Cond.selects RX5 yX5_isThief yX5_isThief ∈ GW := gw_s 7 (by decide +kernel) rfl
theorem we_X4_whomMayRob : Cond.selects RX4 yX4_whomMayRob yX4_whomMayRob ∈ GW := gw_s 8 (by decide +kernel) rfl
theorem we_X3_add : Cond.selects RX3 yX3_add yX3_add ∈ GW := gw_s 9 (by decide +kernel) rfl
theorem we_X3_readTown : Cond.selects RX3 yX3_readTown yX3_readTown ∈ GW := gw_s 10 (by decide +kernel) rfl
theorem we_X4_empty : Cond.selects RX4 yX4_empty yX4_empty ∈ GW := gw_s 11 (by decide +kernel) rfl
theorem we_X3_readNumber : Cond.selects RX3 yX3_readNumber yX3_readNumber ∈ GW := gw_s 12 (by decide +kernel) rfl
theorem we_X3_readDigit : Cond.selects RX3 yX3_readDigit yX3_readDigit ∈ GW := gw_s 13 (by decide +kernel) rfl
theorem we_X3_peek : Cond.selects RX3 yX3_peek yX3_peek ∈ GW := gw_s 14 (by decide +kernel) rfl
theorem we_X3_takes : Cond.selects RX3 yX3_takes yX3_takes ∈ GW := gw_s 15 (by decide +kernel) rfl
theorem we_X3_readApprentices : Cond.selects RX3 yX3_readApprentices yX3_readApprentices ∈ GW := gw_s 16 (by decide +kernel) rfl
theorem we_X3_readApprentice : Cond.selects RX3 yX3_readApprentice yX3_readApprentice ∈ GW := gw_s 17 (by decide +kernel) rfl
theorem we_X3_readThieves : Cond.selects RX3 yX3_readThieves yX3_readThieves ∈ GW := gw_s 18 (by decide +kernel) rfl
theorem we_X3_clear : Cond.selects RX3 yX3_clear yX3_clear ∈ GW := gw_s 19 (by decide +kernel) rfl
theorem we_X4_become : Cond.selects RX4 yX4_become yX4_become ∈ GW := gw_s 20 (by decide +kernel) rfl
theorem we_X4_dearTogether : Cond.selects RX4 yX4_dearTogether yX4_dearTogether ∈ GW := gw_s 21 (by decide +kernel) rfl
theorem we_X5_spend : Cond.selects RX5 yX5_spend yX5_spend ∈ GW := gw_s 22 (by decide +kernel) rfl
theorem we_X1_keep : Cond.selects RX1 yX1_keep yX1_keep ∈ GW := gw_s 23 (by decide +kernel) rfl
theorem we_X4_drawWhoShows : Cond.selects RX4 yX4_drawWhoShows yX4_drawWhoShows ∈ GW := gw_s 24 (by decide +kernel) rfl
theorem we_X4_pass : Cond.selects RX4 yX4_pass yX4_pass ∈ GW := gw_s 25 (by decide +kernel) rfl
theorem we_X4_robbedTonight : Cond.selects RX4 yX4_robbedTonight yX4_robbedTonight ∈ GW := gw_s 26 (by decide +kernel) rfl
theorem we_X4_victim : Cond.selects RX4 yX4_victim yX4_victim ∈ GW := gw_s 27 (by decide +kernel) rfl
theorem we_X4_lose : Cond.selects RX4 yX4_lose yX4_lose ∈ GW := gw_s 28 (by decide +kernel) rfl
theorem we_X4_growth : Cond.selects RX4 yX4_growth yX4_growth ∈ GW := gw_s 29 (by decide +kernel) rfl
theorem we_X1_takeBack : Cond.selects RX1 yX1_takeBack yX1_takeBack ∈ GW := gw_s 30 (by decide +kernel) rfl
theorem we_X0_after : Cond.selects RX0 yX0_after yX0_after ∈ GW := gw_s 31 (by decide +kernel) rfl
theorem we_X0_passNights : Cond.selects RX0 yX0_passNights yX0_passNights ∈ GW := gw_s 32 (by decide +kernel) rfl
theorem we_X0_nightsUntilSworn : Cond.selects RX0 yX0_nightsUntilSworn yX0_nightsUntilSworn ∈ GW := gw_s 33 (by decide +kernel) rfl
theorem we_X4_victimTonight : Cond.selects RX4 yX4_victimTonight yX4_victimTonight ∈ GW := gw_s 34 (by decide +kernel) rfl
theorem we_X0_bestHiding : Cond.selects RX0 yX0_bestHiding yX0_bestHiding ∈ GW := gw_s 35 (by decide +kernel) rfl
theorem we_X0_nightsIfHidden : Cond.selects RX0 yX0_nightsIfHidden yX0_nightsIfHidden ∈ GW := gw_s 36 (by decide +kernel) rfl
theorem we_X0_leastCover : Cond.selects RX0 yX0_leastCover yX0_leastCover ∈ GW := gw_s 37 (by decide +kernel) rfl
theorem we_X0_greatestBar : Cond.selects RX0 yX0_greatestBar yX0_greatestBar ∈ GW := gw_s 38 (by decide +kernel) rfl
theorem we_X4_everybody : Cond.selects RX4 yX4_everybody yX4_everybody ∈ GW := gw_s 39 (by decide +kernel) rfl
theorem we_X0_sparedThief : Cond.selects RX0 yX0_sparedThief yX0_sparedThief ∈ GW := gw_s 40 (by decide +kernel) rfl
theorem we_X0_swornWithout : Cond.selects RX0 yX0_swornWithout yX0_swornWithout ∈ GW := gw_s 41 (by decide +kernel) rfl
theorem we_X4_mostRobbedAtOnce : Cond.selects RX4 yX4_mostRobbedAtOnce yX4_mostRobbedAtOnce ∈ GW := gw_s 42 (by decide +kernel) rfl
theorem we_X0_mostCareful : Cond.selects RX0 yX0_mostCareful yX0_mostCareful ∈ GW := gw_s 43 (by decide +kernel) rfl
theorem we_X4_waysRobbed : Cond.selects RX4 yX4_waysRobbed yX4_waysRobbed ∈ GW := gw_s 44 (by decide +kernel) rfl
theorem we_X1_become : Cond.selects RX1 yX1_become yX1_become ∈ GW := gw_s 45 (by decide +kernel) rfl
theorem we_X2_refusal : Cond.selects RX2 yX2_refusal yX2_refusal ∈ GW := gw_s 46 (by decide +kernel) rfl
theorem we_X2_holds : Cond.selects RX2 yX2_holds yX2_holds ∈ GW := gw_s 47 (by decide +kernel) rfl
theorem we_X0_kindsTold : Cond.selects RX0 yX0_kindsTold yX0_kindsTold ∈ GW := gw_s 48 (by decide +kernel) rfl
theorem we_X0_goesAsTold : Cond.selects RX0 yX0_goesAsTold yX0_goesAsTold ∈ GW := gw_s 49 (by decide +kernel) rfl
theorem we_X0_numbersTold : Cond.selects RX0 yX0_numbersTold yX0_numbersTold ∈ GW := gw_s 50 (by decide +kernel) rfl
theorem we_X0_tell : Cond.selects RX0 yX0_tell yX0_tell ∈ GW := gw_s 51 (by decide +kernel) rfl
theorem we_X2_put : Cond.selects RX2 yX2_put yX2_put ∈ GW := gw_s 52 (by decide +kernel) rfl
theorem we_X2_begin : Cond.selects RX2 yX2_begin yX2_begin ∈ GW := gw_s 53 (by decide +kernel) rfl
theorem we_X2_end : Cond.selects RX2 yX2_end yX2_end ∈ GW := gw_s 54 (by decide +kernel) rfl
theorem we_X6_isOne : Cond.selects RX6 yX6_isOne yX6_isOne ∈ GW := gw_s 55 (by decide +kernel) rfl
theorem we_X6_robbersOf : Cond.selects RX6 yX6_robbersOf yX6_robbersOf ∈ GW := gw_s 56 (by decide +kernel) rfl
theorem we_X6_isThief : Cond.selects RX6 yX6_isThief yX6_isThief ∈ GW := gw_s 57 (by decide +kernel) rfl
theorem we_X6_preyOf : Cond.selects RX6 yX6_preyOf yX6_preyOf ∈ GW := gw_s 58 (by decide +kernel) rfl
theorem we_X6_isTown : Cond.selects RX6 yX6_isTown yX6_isTown ∈ GW := gw_s 59 (by decide +kernel) rfl
theorem we_X6_isNumber : Cond.selects RX6 yX6_isNumber yX6_isNumber ∈ GW := gw_s 60 (by decide +kernel) rfl
theorem we_X6_isDigit : Cond.selects RX6 yX6_isDigit yX6_isDigit ∈ GW := gw_s 61 (by decide +kernel) rfl
theorem we_X6_peek : Cond.selects RX6 yX6_peek yX6_peek ∈ GW := gw_s 62 (by decide +kernel) rfl
theorem we_X6_isSign : Cond.selects RX6 yX6_isSign yX6_isSign ∈ GW := gw_s 63 (by decide +kernel) rfl
theorem we_X6_isOneItem : Cond.selects RX6 yX6_isOneItem yX6_isOneItem ∈ GW := gw_s 64 (by decide +kernel) rfl
theorem we_X6_isThiefItem : Cond.selects RX6 yX6_isThiefItem yX6_isThiefItem ∈ GW := gw_s 65 (by decide +kernel) rfl
theorem we_X6_note : Cond.selects RX6 yX6_note yX6_note ∈ GW := gw_s 66 (by decide +kernel) rfl
theorem we_X6_nightIn : Cond.selects RX6 yX6_nightIn yX6_nightIn ∈ GW := gw_s 67 (by decide +kernel) rfl
theorem we_X6_robIn : Cond.selects RX6 yX6_robIn yX6_robIn ∈ GW := gw_s 68 (by decide +kernel) rfl
theorem we_X6_begin : Cond.selects RX6 yX6_begin yX6_begin ∈ GW := gw_s 69 (by decide +kernel) rfl
theorem we_X6_goOn : Cond.selects RX6 yX6_goOn yX6_goOn ∈ GW := gw_s 70 (by decide +kernel) rfl
theorem we_X6_swornFrom : Cond.selects RX6 yX6_swornFrom yX6_swornFrom ∈ GW := gw_s 71 (by decide +kernel) rfl
theorem we_X6_wrong : Cond.selects RX6 yX6_wrong yX6_wrong ∈ GW := gw_s 72 (by decide +kernel) rfl
theorem we_X6_isGrown : Cond.selects RX6 yX6_isGrown yX6_isGrown ∈ GW := gw_s 73 (by decide +kernel) rfl
theorem gw_l {ws : List Cond} (ps : List Nat) (h : ws = ps.filterMap (fun i => tables_1[i]?)) (hg : ws.all goodWord = true) : ∀ w ∈ ws, w ∈ GW := by
  intro w hw
  have h1 := List.all_eq_true.mp hg w hw
  rw [h] at hw
  obtain ⟨i, -, hi⟩ := List.mem_filterMap.mp hw
  exact gw_t i hi h1
theorem xk_X0 : xCl 0 RX0 TX0 1 tyX0 := ⟨rfl, gw_l [123] (by decide +kernel) (by decide +kernel), tyX0_ok, nmX0⟩
theorem xk_X1 : xCl 1 RX1 TX1 3 tyX1 := ⟨rfl, gw_l [107, 109, 111] (by decide +kernel) (by decide +kernel), tyX1_ok, nmX1⟩
theorem xk_X2 : xCl 2 RX2 TX2 3 tyX2 := ⟨rfl, gw_l [159, 161, 163] (by decide +kernel) (by decide +kernel), tyX2_ok, nmX2⟩
theorem xk_X3 : xCl 3 RX3 TX3 3 tyX3 := ⟨rfl, gw_l [137, 139, 141] (by decide +kernel) (by decide +kernel), tyX3_ok, nmX3⟩
theorem xk_X4 : xCl 4 RX4 TX4 13 tyX4 := ⟨rfl, gw_l [66, 68, 70, 72, 74, 76, 78, 80, 82, 84, 86, 88, 90] (by decide +kernel) (by decide +kernel), tyX4_ok, nmX4⟩
theorem xk_X5 : xCl 5 RX5 TX5 9 tyX5 := ⟨rfl, gw_l [176, 178, 180, 182, 184, 186, 188, 190, 192] (by decide +kernel) (by decide +kernel), tyX5_ok, nmX5⟩
theorem xk_X6 : xCl 6 RX6 TX6 13 tyX6 := ⟨rfl, gw_l [702, 704, 706, 708, 710, 712, 714, 716, 718, 720, 722, 724, 726] (by decide +kernel) (by decide +kernel), tyX6_ok, nmX6⟩
abbrev mX5_init : xM := (yX5_init, cX5_init, 2, none, 3, 156, 1118)
theorem mw_X5_init : xMW mX5_init 0 := ⟨wc_X5_init, wi_RobbedOnce, by decide +kernel⟩
abbrev mX4_init : xM := (yX4_init, cX4_init, 1, none, 1, 6, 32)
theorem mw_X4_init : xMW mX4_init 0 := ⟨wc_X4_init, wi_RobbedOnce_Town, by decide +kernel⟩
abbrev mX1_init : xM := (yX1_init, cX1_init, 2, none, 2, 57, 368)
theorem mw_X1_init : xMW mX1_init 0 := ⟨wc_X1_init, wi_RobbedOnce_Past, by decide +kernel⟩
abbrev mX0_init : xM := (yX0_init, cX0_init, 1, none, 2, 7, 45)
theorem mw_X0_init : xMW mX0_init 0 := ⟨wc_X0_init, wi_RobbedOnce_Foretelling, by decide +kernel⟩
abbrev mX3_init : xM := (yX3_init, cX3_init, 1, none, 1, 1, 80)
theorem mw_X3_init : xMW mX3_init 0 := ⟨wc_X3_init, wi_RobbedOnce_Tape, by decide +kernel⟩
abbrev mX2_init : xM := (yX2_init, cX2_init, 1, none, 1, 1, 24)
theorem mw_X2_init : xMW mX2_init 0 := ⟨wc_X2_init, wi_RobbedOnce_Sheet, by decide +kernel⟩
abbrev mX5_apprentice : xM := (yX5_apprentice, cX5_apprentice, 4, (some .int), 2, 0, 0)
theorem mw_X5_apprentice : xMW mX5_apprentice 3 := ⟨wc_X5_apprentice, wi_RobbedOnce, by decide +kernel⟩
abbrev mX5_isWithin : xM := (yX5_isWithin, cX5_isWithin, 3, (some .boolean), 0, 0, 0)
theorem mw_X5_isWithin : xMW mX5_isWithin 3 := ⟨wc_X5_isWithin, wi_RobbedOnce, by decide +kernel⟩
abbrev mX1_forget : xM := (yX1_forget, cX1_forget, 1, none, 0, 0, 0)
theorem mw_X1_forget : xMW mX1_forget 0 := ⟨wc_X1_forget, wi_RobbedOnce_Past, by decide +kernel⟩
abbrev mX4_addApprentice : xM := (yX4_addApprentice, cX4_addApprentice, 5, (some .int), 1, 0, 0)
theorem mw_X4_addApprentice : xMW mX4_addApprentice 3 := ⟨wc_X4_addApprentice, wi_RobbedOnce_Town, by decide +kernel⟩
abbrev mX4_setShown : xM := (yX4_setShown, cX4_setShown, 3, none, 0, 0, 0)
theorem mw_X4_setShown : xMW mX4_setShown 2 := ⟨wc_X4_setShown, wi_RobbedOnce_Town, by decide +kernel⟩
abbrev mX5_thief : xM := (yX5_thief, cX5_thief, 3, (some .int), 1, 0, 0)
theorem mw_X5_thief : xMW mX5_thief 2 := ⟨wc_X5_thief, wi_RobbedOnce, by decide +kernel⟩
abbrev mX4_addThief : xM := (yX4_addThief, cX4_addThief, 4, (some .int), 0, 0, 0)
theorem mw_X4_addThief : xMW mX4_addThief 2 := ⟨wc_X4_addThief, wi_RobbedOnce_Town, by decide +kernel⟩
abbrev mX5_bar : xM := (yX5_bar, cX5_bar, 3, (some .int), 1, 0, 0)
theorem mw_X5_bar : xMW mX5_bar 1 := ⟨wc_X5_bar, wi_RobbedOnce, by decide +kernel⟩
abbrev mX5_of : xM := (yX5_of, cX5_of, 3, (some .int), 2, 0, 0)
theorem mw_X5_of : xMW mX5_of 2 := ⟨wc_X5_of, wi_RobbedOnce, by decide +kernel⟩
abbrev mX5_isApprentice : xM := (yX5_isApprentice, cX5_isApprentice, 2, (some .boolean), 0, 0, 0)
theorem mw_X5_isApprentice : xMW mX5_isApprentice 1 := ⟨wc_X5_isApprentice, wi_RobbedOnce, by decide +kernel⟩
abbrev mX5_has : xM := (yX5_has, cX5_has, 2, (some .boolean), 0, 0, 0)
theorem mw_X5_has : xMW mX5_has 2 := ⟨wc_X5_has, wi_RobbedOnce, by decide +kernel⟩
abbrev mX4_thievesWhoMayRob : xM := (yX4_thievesWhoMayRob, cX4_thievesWhoMayRob, 4, (some .int), 1, 0, 0)
theorem mw_X4_thievesWhoMayRob : xMW mX4_thievesWhoMayRob 1 := ⟨wc_X4_thievesWhoMayRob, wi_RobbedOnce_Town, by decide +kernel⟩
abbrev mX4_mayRob : xM := (yX4_mayRob, cX4_mayRob, 4, (some .boolean), 0, 0, 0)
theorem mw_X4_mayRob : xMW mX4_mayRob 2 := ⟨wc_X4_mayRob, wi_RobbedOnce_Town, by decide +kernel⟩
abbrev mX5_at : xM := (yX5_at, cX5_at, 3, (some .int), 2, 0, 0)
theorem mw_X5_at : xMW mX5_at 2 := ⟨wc_X5_at, wi_RobbedOnce, by decide +kernel⟩
abbrev mX5_isThief : xM := (yX5_isThief, cX5_isThief, 2, (some .boolean), 0, 0, 0)
theorem mw_X5_isThief : xMW mX5_isThief 1 := ⟨wc_X5_isThief, wi_RobbedOnce, by decide +kernel⟩
abbrev mX4_whomMayRob : xM := (yX4_whomMayRob, cX4_whomMayRob, 4, (some .int), 1, 0, 0)
theorem mw_X4_whomMayRob : xMW mX4_whomMayRob 1 := ⟨wc_X4_whomMayRob, wi_RobbedOnce_Town, by decide +kernel⟩
abbrev mX5_type : xM := (yX5_type, cX5_type, 2, (some .int), 1, 0, 0)
theorem mw_X5_type : xMW mX5_type 1 := ⟨wc_X5_type, wi_RobbedOnce, by decide +kernel⟩
abbrev mX3_add : xM := (yX3_add, cX3_add, 2, (some .int), 0, 0, 0)
theorem mw_X3_add : xMW mX3_add 1 := ⟨wc_X3_add, wi_RobbedOnce_Tape, by decide +kernel⟩
abbrev mX5_town : xM := (yX5_town, cX5_town, 3, (some .int), 10, 0, 0)
theorem mw_X5_town : xMW mX5_town 0 := ⟨wc_X5_town, wi_RobbedOnce, by decide +kernel⟩
abbrev mX3_readTown : xM := (yX3_readTown, cX3_readTown, 3, (some .boolean), 9, 0, 0)
theorem mw_X3_readTown : xMW mX3_readTown 1 := ⟨wc_X3_readTown, wi_RobbedOnce_Tape, by decide +kernel⟩
abbrev mX4_empty : xM := (yX4_empty, cX4_empty, 1, none, 0, 0, 0)
theorem mw_X4_empty : xMW mX4_empty 0 := ⟨wc_X4_empty, wi_RobbedOnce_Town, by decide +kernel⟩
abbrev mX3_readNumber : xM := (yX3_readNumber, cX3_readNumber, 3, (some .int), 2, 0, 0)
theorem mw_X3_readNumber : xMW mX3_readNumber 0 := ⟨wc_X3_readNumber, wi_RobbedOnce_Tape, by decide +kernel⟩
abbrev mX3_readDigit : xM := (yX3_readDigit, cX3_readDigit, 3, (some .int), 1, 0, 0)
theorem mw_X3_readDigit : xMW mX3_readDigit 1 := ⟨wc_X3_readDigit, wi_RobbedOnce_Tape, by decide +kernel⟩
abbrev mX3_peek : xM := (yX3_peek, cX3_peek, 1, (some .int), 0, 0, 0)
theorem mw_X3_peek : xMW mX3_peek 0 := ⟨wc_X3_peek, wi_RobbedOnce_Tape, by decide +kernel⟩
abbrev mX3_takes : xM := (yX3_takes, cX3_takes, 3, (some .boolean), 1, 0, 0)
theorem mw_X3_takes : xMW mX3_takes 1 := ⟨wc_X3_takes, wi_RobbedOnce_Tape, by decide +kernel⟩
abbrev mX3_readApprentices : xM := (yX3_readApprentices, cX3_readApprentices, 3, (some .boolean), 8, 0, 0)
theorem mw_X3_readApprentices : xMW mX3_readApprentices 1 := ⟨wc_X3_readApprentices, wi_RobbedOnce_Tape, by decide +kernel⟩
abbrev mX3_readApprentice : xM := (yX3_readApprentice, cX3_readApprentice, 8, (some .boolean), 7, 0, 0)
theorem mw_X3_readApprentice : xMW mX3_readApprentice 1 := ⟨wc_X3_readApprentice, wi_RobbedOnce_Tape, by decide +kernel⟩
abbrev mJ0_indexOf_0f7a4 : xM := (yJ0_indexOf_0f7a4, cJ0_indexOf_0f7a4, 2, (some .int), 6, 0, 0)
theorem mw_J0_indexOf_0f7a4 : xMW mJ0_indexOf_0f7a4 1 := ⟨wc_J0_indexOf_0f7a4, wi_java_lang_String, by decide +kernel⟩
abbrev mJ0_indexOf_7cf53 : xM := (yJ0_indexOf_7cf53, cJ0_indexOf_7cf53, 3, (some .int), 5, 0, 0)
theorem mw_J0_indexOf_7cf53 : xMW mJ0_indexOf_7cf53 2 := ⟨wc_J0_indexOf_7cf53, wi_java_lang_String, by decide +kernel⟩
abbrev mJ0_isLatin1_aae02 : xM := (yJ0_isLatin1_aae02, cJ0_isLatin1_aae02, 1, (some .boolean), 0, 0, 0)
theorem mw_J0_isLatin1_aae02 : xMW mJ0_isLatin1_aae02 0 := ⟨wc_J0_isLatin1_aae02, wi_java_lang_String, by decide +kernel⟩
abbrev mJ0_length_8abf5 : xM := (yJ0_length_8abf5, cJ0_length_8abf5, 1, (some .int), 1, 0, 0)
theorem mw_J0_length_8abf5 : xMW mJ0_length_8abf5 0 := ⟨wc_J0_length_8abf5, wi_java_lang_String, by decide +kernel⟩
abbrev mJ0_coder_7d493 : xM := (yJ0_coder_7d493, cJ0_coder_7d493, 1, (some .byte), 0, 0, 0)
theorem mw_J0_coder_7d493 : xMW mJ0_coder_7d493 0 := ⟨wc_J0_coder_7d493, wi_java_lang_String, by decide +kernel⟩
abbrev mJ1_indexOf_4cfef : xM := (yJ1_indexOf_4cfef, cJ1_indexOf_4cfef, 4, (some .int), 1, 0, 0)
theorem mw_J1_indexOf_4cfef : xMW mJ1_indexOf_4cfef 4 := ⟨wc_J1_indexOf_4cfef, wi_java_lang_StringLatin1, by decide +kernel⟩
abbrev mJ1_canEncode_9a6ad : xM := (yJ1_canEncode_9a6ad, cJ1_canEncode_9a6ad, 1, (some .boolean), 0, 0, 0)
theorem mw_J1_canEncode_9a6ad : xMW mJ1_canEncode_9a6ad 1 := ⟨wc_J1_canEncode_9a6ad, wi_java_lang_StringLatin1, by decide +kernel⟩
abbrev mJ1_indexOfChar_4cfef : xM := (yJ1_indexOfChar_4cfef, cJ1_indexOfChar_4cfef, 6, (some .int), 0, 0, 0)
theorem mw_J1_indexOfChar_4cfef : xMW mJ1_indexOfChar_4cfef 4 := ⟨wc_J1_indexOfChar_4cfef, wi_java_lang_StringLatin1, by decide +kernel⟩
abbrev mJ2_indexOf_4cfef : xM := (yJ2_indexOf_4cfef, cJ2_indexOf_4cfef, 4, (some .int), 4, 0, 0)
theorem mw_J2_indexOf_4cfef : xMW mJ2_indexOf_4cfef 4 := ⟨wc_J2_indexOf_4cfef, wi_java_lang_StringUTF16, by decide +kernel⟩
abbrev mJ2_indexOfChar_4cfef : xM := (yJ2_indexOfChar_4cfef, cJ2_indexOfChar_4cfef, 4, (some .int), 3, 0, 0)
theorem mw_J2_indexOfChar_4cfef : xMW mJ2_indexOfChar_4cfef 4 := ⟨wc_J2_indexOfChar_4cfef, wi_java_lang_StringUTF16, by decide +kernel⟩
abbrev mJ2_checkBoundsBeginEnd_d044e : xM := (yJ2_checkBoundsBeginEnd_d044e, cJ2_checkBoundsBeginEnd_d044e, 3, none, 2, 0, 0)
theorem mw_J2_checkBoundsBeginEnd_d044e : xMW mJ2_checkBoundsBeginEnd_d044e 3 := ⟨wc_J2_checkBoundsBeginEnd_d044e, wi_java_lang_StringUTF16, by decide +kernel⟩
abbrev mJ2_length_9d52b : xM := (yJ2_length_9d52b, cJ2_length_9d52b, 1, (some .int), 0, 0, 0)
theorem mw_J2_length_9d52b : xMW mJ2_length_9d52b 1 := ⟨wc_J2_length_9d52b, wi_java_lang_StringUTF16, by decide +kernel⟩
abbrev mJ0_checkBoundsBeginEnd_23922 : xM := (yJ0_checkBoundsBeginEnd_23922, cJ0_checkBoundsBeginEnd_23922, 3, none, 1, 0, 0)
theorem mw_J0_checkBoundsBeginEnd_23922 : xMW mJ0_checkBoundsBeginEnd_23922 3 := ⟨wc_J0_checkBoundsBeginEnd_23922, wi_java_lang_String, by decide +kernel⟩
abbrev mJ3_checkFromToIndex_8c36e : xM := (yJ3_checkFromToIndex_8c36e, cJ3_checkFromToIndex_8c36e, 4, (some .int), 0, 0, 0)
theorem mw_J3_checkFromToIndex_8c36e : xMW mJ3_checkFromToIndex_8c36e 4 := ⟨wc_J3_checkFromToIndex_8c36e, wi_jdk_internal_util_Preconditions, by decide +kernel⟩
abbrev mJ2_indexOfCharUnsafe_4cfef : xM := (yJ2_indexOfCharUnsafe_4cfef, cJ2_indexOfCharUnsafe_4cfef, 5, (some .int), 2, 0, 0)
theorem mw_J2_indexOfCharUnsafe_4cfef : xMW mJ2_indexOfCharUnsafe_4cfef 4 := ⟨wc_J2_indexOfCharUnsafe_4cfef, wi_java_lang_StringUTF16, by decide +kernel⟩
abbrev mJ2_getChar_3b067 : xM := (yJ2_getChar_3b067, cJ2_getChar_3b067, 2, (some .char), 1, 0, 0)
theorem mw_J2_getChar_3b067 : xMW mJ2_getChar_3b067 2 := ⟨wc_J2_getChar_3b067, wi_java_lang_StringUTF16, by decide +kernel⟩
abbrev mJ2_indexOfSupplementary_4cfef : xM := (yJ2_indexOfSupplementary_4cfef, cJ2_indexOfSupplementary_4cfef, 7, (some .int), 3, 0, 0)
theorem mw_J2_indexOfSupplementary_4cfef : xMW mJ2_indexOfSupplementary_4cfef 4 := ⟨wc_J2_indexOfSupplementary_4cfef, wi_java_lang_StringUTF16, by decide +kernel⟩
abbrev mJ11_isValidCodePoint_9a6ad : xM := (yJ11_isValidCodePoint_9a6ad, cJ11_isValidCodePoint_9a6ad, 2, (some .boolean), 0, 0, 0)
theorem mw_J11_isValidCodePoint_9a6ad : xMW mJ11_isValidCodePoint_9a6ad 1 := ⟨wc_J11_isValidCodePoint_9a6ad, wi_java_lang_Character, by decide +kernel⟩
abbrev mJ11_highSurrogate_5068e : xM := (yJ11_highSurrogate_5068e, cJ11_highSurrogate_5068e, 1, (some .char), 0, 0, 0)
theorem mw_J11_highSurrogate_5068e : xMW mJ11_highSurrogate_5068e 1 := ⟨wc_J11_highSurrogate_5068e, wi_java_lang_Character, by decide +kernel⟩
abbrev mJ11_lowSurrogate_5068e : xM := (yJ11_lowSurrogate_5068e, cJ11_lowSurrogate_5068e, 1, (some .char), 0, 0, 0)
theorem mw_J11_lowSurrogate_5068e : xMW mJ11_lowSurrogate_5068e 1 := ⟨wc_J11_lowSurrogate_5068e, wi_java_lang_Character, by decide +kernel⟩
abbrev mX3_readThieves : xM := (yX3_readThieves, cX3_readThieves, 5, (some .boolean), 2, 0, 0)
theorem mw_X3_readThieves : xMW mX3_readThieves 1 := ⟨wc_X3_readThieves, wi_RobbedOnce_Tape, by decide +kernel⟩
abbrev mX3_clear : xM := (yX3_clear, cX3_clear, 1, none, 0, 0, 0)
theorem mw_X3_clear : xMW mX3_clear 0 := ⟨wc_X3_clear, wi_RobbedOnce_Tape, by decide +kernel⟩
abbrev mX4_become : xM := (yX4_become, cX4_become, 2, none, 1, 0, 0)
theorem mw_X4_become : xMW mX4_become 1 := ⟨wc_X4_become, wi_RobbedOnce_Town, by decide +kernel⟩
abbrev mX5_count : xM := (yX5_count, cX5_count, 2, (some .int), 2, 0, 0)
theorem mw_X5_count : xMW mX5_count 1 := ⟨wc_X5_count, wi_RobbedOnce, by decide +kernel⟩
abbrev mX4_dearTogether : xM := (yX4_dearTogether, cX4_dearTogether, 3, (some .int), 1, 0, 0)
theorem mw_X4_dearTogether : xMW mX4_dearTogether 0 := ⟨wc_X4_dearTogether, wi_RobbedOnce_Town, by decide +kernel⟩
abbrev mX5_nights : xM := (yX5_nights, cX5_nights, 2, (some .int), 5, 0, 0)
theorem mw_X5_nights : xMW mX5_nights 1 := ⟨wc_X5_nights, wi_RobbedOnce, by decide +kernel⟩
abbrev mX5_spend : xM := (yX5_spend, cX5_spend, 4, (some .int), 4, 0, 0)
theorem mw_X5_spend : xMW mX5_spend 2 := ⟨wc_X5_spend, wi_RobbedOnce, by decide +kernel⟩
abbrev mX1_keep : xM := (yX1_keep, cX1_keep, 2, none, 2, 0, 0)
theorem mw_X1_keep : xMW mX1_keep 1 := ⟨wc_X1_keep, wi_RobbedOnce_Past, by decide +kernel⟩
abbrev mX4_drawWhoShows : xM := (yX4_drawWhoShows, cX4_drawWhoShows, 1, none, 1, 0, 0)
theorem mw_X4_drawWhoShows : xMW mX4_drawWhoShows 0 := ⟨wc_X4_drawWhoShows, wi_RobbedOnce_Town, by decide +kernel⟩
abbrev mX4_pass : xM := (yX4_pass, cX4_pass, 4, none, 3, 0, 0)
theorem mw_X4_pass : xMW mX4_pass 1 := ⟨wc_X4_pass, wi_RobbedOnce_Town, by decide +kernel⟩
abbrev mX4_robbedTonight : xM := (yX4_robbedTonight, cX4_robbedTonight, 5, (some .int), 2, 0, 0)
theorem mw_X4_robbedTonight : xMW mX4_robbedTonight 1 := ⟨wc_X4_robbedTonight, wi_RobbedOnce_Town, by decide +kernel⟩
abbrev mX4_victim : xM := (yX4_victim, cX4_victim, 5, (some .int), 1, 0, 0)
theorem mw_X4_victim : xMW mX4_victim 2 := ⟨wc_X4_victim, wi_RobbedOnce_Town, by decide +kernel⟩
abbrev mX4_lose : xM := (yX4_lose, cX4_lose, 2, none, 0, 0, 0)
theorem mw_X4_lose : xMW mX4_lose 1 := ⟨wc_X4_lose, wi_RobbedOnce_Town, by decide +kernel⟩
abbrev mX4_growth : xM := (yX4_growth, cX4_growth, 4, (some .int), 1, 0, 0)
theorem mw_X4_growth : xMW mX4_growth 1 := ⟨wc_X4_growth, wi_RobbedOnce_Town, by decide +kernel⟩
abbrev mX5_show : xM := (yX5_show, cX5_show, 3, (some .int), 3, 0, 0)
theorem mw_X5_show : xMW mX5_show 2 := ⟨wc_X5_show, wi_RobbedOnce, by decide +kernel⟩
abbrev mX5_teach : xM := (yX5_teach, cX5_teach, 4, (some .int), 3, 0, 0)
theorem mw_X5_teach : xMW mX5_teach 2 := ⟨wc_X5_teach, wi_RobbedOnce, by decide +kernel⟩
abbrev mX5_drift : xM := (yX5_drift, cX5_drift, 2, (some .int), 5, 0, 0)
theorem mw_X5_drift : xMW mX5_drift 1 := ⟨wc_X5_drift, wi_RobbedOnce, by decide +kernel⟩
abbrev mX5_undo : xM := (yX5_undo, cX5_undo, 1, (some .int), 3, 0, 0)
theorem mw_X5_undo : xMW mX5_undo 0 := ⟨wc_X5_undo, wi_RobbedOnce, by decide +kernel⟩
abbrev mX1_takeBack : xM := (yX1_takeBack, cX1_takeBack, 3, none, 2, 0, 0)
theorem mw_X1_takeBack : xMW mX1_takeBack 1 := ⟨wc_X1_takeBack, wi_RobbedOnce_Past, by decide +kernel⟩
abbrev mX5_seed : xM := (yX5_seed, cX5_seed, 3, (some .int), 0, 0, 0)
theorem mw_X5_seed : xMW mX5_seed 1 := ⟨wc_X5_seed, wi_RobbedOnce, by decide +kernel⟩
abbrev mX5_ahead : xM := (yX5_ahead, cX5_ahead, 3, (some .int), 6, 0, 0)
theorem mw_X5_ahead : xMW mX5_ahead 2 := ⟨wc_X5_ahead, wi_RobbedOnce, by decide +kernel⟩
abbrev mX0_after : xM := (yX0_after, cX0_after, 3, (some (.object "RobbedOnce$Town")), 5, 0, 0)
theorem mw_X0_after : xMW mX0_after 2 := ⟨wc_X0_after, wi_RobbedOnce_Foretelling, by decide +kernel⟩
abbrev mX0_passNights : xM := (yX0_passNights, cX0_passNights, 4, none, 4, 0, 0)
theorem mw_X0_passNights : xMW mX0_passNights 2 := ⟨wc_X0_passNights, wi_RobbedOnce_Foretelling, by decide +kernel⟩
abbrev mX5_then : xM := (yX5_then, cX5_then, 2, (some .int), 6, 0, 0)
theorem mw_X5_then : xMW mX5_then 1 := ⟨wc_X5_then, wi_RobbedOnce, by decide +kernel⟩
abbrev mX5_sworn : xM := (yX5_sworn, cX5_sworn, 2, (some .int), 5, 0, 0)
theorem mw_X5_sworn : xMW mX5_sworn 1 := ⟨wc_X5_sworn, wi_RobbedOnce, by decide +kernel⟩
abbrev mX0_nightsUntilSworn : xM := (yX0_nightsUntilSworn, cX0_nightsUntilSworn, 4, (some .int), 4, 0, 0)
theorem mw_X0_nightsUntilSworn : xMW mX0_nightsUntilSworn 2 := ⟨wc_X0_nightsUntilSworn, wi_RobbedOnce_Foretelling, by decide +kernel⟩
abbrev mX5_robs : xM := (yX5_robs, cX5_robs, 2, (some .int), 4, 0, 0)
theorem mw_X5_robs : xMW mX5_robs 1 := ⟨wc_X5_robs, wi_RobbedOnce, by decide +kernel⟩
abbrev mX4_victimTonight : xM := (yX4_victimTonight, cX4_victimTonight, 3, (some .int), 3, 0, 0)
theorem mw_X4_victimTonight : xMW mX4_victimTonight 1 := ⟨wc_X4_victimTonight, wi_RobbedOnce_Town, by decide +kernel⟩
abbrev mX5_hides : xM := (yX5_hides, cX5_hides, 3, (some .int), 6, 0, 0)
theorem mw_X5_hides : xMW mX5_hides 2 := ⟨wc_X5_hides, wi_RobbedOnce, by decide +kernel⟩
abbrev mX0_bestHiding : xM := (yX0_bestHiding, cX0_bestHiding, 8, (some .int), 5, 0, 0)
theorem mw_X0_bestHiding : xMW mX0_bestHiding 3 := ⟨wc_X0_bestHiding, wi_RobbedOnce_Foretelling, by decide +kernel⟩
abbrev mX0_nightsIfHidden : xM := (yX0_nightsIfHidden, cX0_nightsIfHidden, 6, (some .int), 4, 0, 0)
theorem mw_X0_nightsIfHidden : xMW mX0_nightsIfHidden 4 := ⟨wc_X0_nightsIfHidden, wi_RobbedOnce_Foretelling, by decide +kernel⟩
abbrev mX5_cover : xM := (yX5_cover, cX5_cover, 5, (some .int), 6, 0, 0)
theorem mw_X5_cover : xMW mX5_cover 3 := ⟨wc_X5_cover, wi_RobbedOnce, by decide +kernel⟩
abbrev mX0_leastCover : xM := (yX0_leastCover, cX0_leastCover, 8, (some .int), 5, 0, 0)
theorem mw_X0_leastCover : xMW mX0_leastCover 3 := ⟨wc_X0_leastCover, wi_RobbedOnce_Foretelling, by decide +kernel⟩
abbrev mJ6_bitCount_0f7a4 : xM := (yJ6_bitCount_0f7a4, cJ6_bitCount_0f7a4, 1, (some .int), 0, 0, 0)
theorem mw_J6_bitCount_0f7a4 : xMW mJ6_bitCount_0f7a4 1 := ⟨wc_J6_bitCount_0f7a4, wi_java_lang_Integer, by decide +kernel⟩
abbrev mX5_low : xM := (yX5_low, cX5_low, 2, (some .int), 6, 0, 0)
theorem mw_X5_low : xMW mX5_low 1 := ⟨wc_X5_low, wi_RobbedOnce, by decide +kernel⟩
abbrev mX0_greatestBar : xM := (yX0_greatestBar, cX0_greatestBar, 4, (some .int), 5, 0, 0)
theorem mw_X0_greatestBar : xMW mX0_greatestBar 2 := ⟨wc_X0_greatestBar, wi_RobbedOnce_Foretelling, by decide +kernel⟩
abbrev mX4_everybody : xM := (yX4_everybody, cX4_everybody, 1, (some .int), 0, 0, 0)
theorem mw_X4_everybody : xMW mX4_everybody 0 := ⟨wc_X4_everybody, wi_RobbedOnce_Town, by decide +kernel⟩
abbrev mX5_spare : xM := (yX5_spare, cX5_spare, 4, (some .int), 7, 0, 0)
theorem mw_X5_spare : xMW mX5_spare 2 := ⟨wc_X5_spare, wi_RobbedOnce, by decide +kernel⟩
abbrev mX0_sparedThief : xM := (yX0_sparedThief, cX0_sparedThief, 7, (some .int), 6, 0, 0)
theorem mw_X0_sparedThief : xMW mX0_sparedThief 2 := ⟨wc_X0_sparedThief, wi_RobbedOnce_Foretelling, by decide +kernel⟩
abbrev mX0_swornWithout : xM := (yX0_swornWithout, cX0_swornWithout, 4, (some .int), 5, 0, 0)
theorem mw_X0_swornWithout : xMW mX0_swornWithout 3 := ⟨wc_X0_swornWithout, wi_RobbedOnce_Foretelling, by decide +kernel⟩
abbrev mX5_match : xM := (yX5_match, cX5_match, 1, (some .int), 3, 0, 0)
theorem mw_X5_match : xMW mX5_match 0 := ⟨wc_X5_match, wi_RobbedOnce, by decide +kernel⟩
abbrev mX4_mostRobbedAtOnce : xM := (yX4_mostRobbedAtOnce, cX4_mostRobbedAtOnce, 5, (some .int), 2, 0, 0)
theorem mw_X4_mostRobbedAtOnce : xMW mX4_mostRobbedAtOnce 0 := ⟨wc_X4_mostRobbedAtOnce, wi_RobbedOnce_Town, by decide +kernel⟩
abbrev mX5_care : xM := (yX5_care, cX5_care, 3, (some .int), 6, 0, 0)
theorem mw_X5_care : xMW mX5_care 2 := ⟨wc_X5_care, wi_RobbedOnce, by decide +kernel⟩
abbrev mX0_mostCareful : xM := (yX0_mostCareful, cX0_mostCareful, 5, (some .int), 5, 0, 0)
theorem mw_X0_mostCareful : xMW mX0_mostCareful 3 := ⟨wc_X0_mostCareful, wi_RobbedOnce_Foretelling, by decide +kernel⟩
abbrev mX5_leave : xM := (yX5_leave, cX5_leave, 7, (some .int), 4, 0, 0)
theorem mw_X5_leave : xMW mX5_leave 3 := ⟨wc_X5_leave, wi_RobbedOnce, by decide +kernel⟩
abbrev mX4_waysRobbed : xM := (yX4_waysRobbed, cX4_waysRobbed, 6, (some .int), 3, 0, 0)
theorem mw_X4_waysRobbed : xMW mX4_waysRobbed 2 := ⟨wc_X4_waysRobbed, wi_RobbedOnce_Town, by decide +kernel⟩
abbrev mX5_power : xM := (yX5_power, cX5_power, 4, (some .int), 0, 0, 0)
theorem mw_X5_power : xMW mX5_power 2 := ⟨wc_X5_power, wi_RobbedOnce, by decide +kernel⟩
abbrev mX5_image : xM := (yX5_image, cX5_image, 1, (some .int), 3, 0, 0)
theorem mw_X5_image : xMW mX5_image 0 := ⟨wc_X5_image, wi_RobbedOnce, by decide +kernel⟩
abbrev mX1_become : xM := (yX1_become, cX1_become, 3, none, 2, 0, 0)
theorem mw_X1_become : xMW mX1_become 1 := ⟨wc_X1_become, wi_RobbedOnce_Past, by decide +kernel⟩
abbrev mX5_restore : xM := (yX5_restore, cX5_restore, 1, (some .int), 3, 0, 0)
theorem mw_X5_restore : xMW mX5_restore 0 := ⟨wc_X5_restore, wi_RobbedOnce, by decide +kernel⟩
abbrev mX5_grown : xM := (yX5_grown, cX5_grown, 9, (some .int), 6, 0, 0)
theorem mw_X5_grown : xMW mX5_grown 6 := ⟨wc_X5_grown, wi_RobbedOnce, by decide +kernel⟩
abbrev mX5_isSheet : xM := (yX5_isSheet, cX5_isSheet, 1, (some .boolean), 0, 0, 0)
theorem mw_X5_isSheet : xMW mX5_isSheet 1 := ⟨wc_X5_isSheet, wi_RobbedOnce, by decide +kernel⟩
abbrev mX5_isLane : xM := (yX5_isLane, cX5_isLane, 1, (some .boolean), 0, 0, 0)
theorem mw_X5_isLane : xMW mX5_isLane 1 := ⟨wc_X5_isLane, wi_RobbedOnce, by decide +kernel⟩
abbrev mX2_refusal : xM := (yX2_refusal, cX2_refusal, 4, (some .int), 1, 0, 0)
theorem mw_X2_refusal : xMW mX2_refusal 3 := ⟨wc_X2_refusal, wi_RobbedOnce_Sheet, by decide +kernel⟩
abbrev mX2_holds : xM := (yX2_holds, cX2_holds, 3, (some .boolean), 0, 0, 0)
theorem mw_X2_holds : xMW mX2_holds 2 := ⟨wc_X2_holds, wi_RobbedOnce_Sheet, by decide +kernel⟩
abbrev mX0_kindsTold : xM := (yX0_kindsTold, cX0_kindsTold, 8, (some .int), 5, 0, 0)
theorem mw_X0_kindsTold : xMW mX0_kindsTold 5 := ⟨wc_X0_kindsTold, wi_RobbedOnce_Foretelling, by decide +kernel⟩
abbrev mX0_goesAsTold : xM := (yX0_goesAsTold, cX0_goesAsTold, 6, (some .boolean), 4, 0, 0)
theorem mw_X0_goesAsTold : xMW mX0_goesAsTold 4 := ⟨wc_X0_goesAsTold, wi_RobbedOnce_Foretelling, by decide +kernel⟩
abbrev mX0_numbersTold : xM := (yX0_numbersTold, cX0_numbersTold, 9, (some .int), 5, 0, 0)
theorem mw_X0_numbersTold : xMW mX0_numbersTold 6 := ⟨wc_X0_numbersTold, wi_RobbedOnce_Foretelling, by decide +kernel⟩
abbrev mX5_film : xM := (yX5_film, cX5_film, 8, (some .int), 5, 0, 0)
theorem mw_X5_film : xMW mX5_film 5 := ⟨wc_X5_film, wi_RobbedOnce, by decide +kernel⟩
abbrev mX0_tell : xM := (yX0_tell, cX0_tell, 7, none, 4, 0, 0)
theorem mw_X0_tell : xMW mX0_tell 5 := ⟨wc_X0_tell, wi_RobbedOnce_Foretelling, by decide +kernel⟩
abbrev mX2_put : xM := (yX2_put, cX2_put, 4, none, 0, 0, 0)
theorem mw_X2_put : xMW mX2_put 2 := ⟨wc_X2_put, wi_RobbedOnce_Sheet, by decide +kernel⟩
abbrev mX5_sheet : xM := (yX5_sheet, cX5_sheet, 4, (some .int), 1, 0, 0)
theorem mw_X5_sheet : xMW mX5_sheet 3 := ⟨wc_X5_sheet, wi_RobbedOnce, by decide +kernel⟩
abbrev mX2_begin : xM := (yX2_begin, cX2_begin, 4, none, 0, 0, 0)
theorem mw_X2_begin : xMW mX2_begin 2 := ⟨wc_X2_begin, wi_RobbedOnce_Sheet, by decide +kernel⟩
abbrev mX5_drop : xM := (yX5_drop, cX5_drop, 4, (some .int), 1, 0, 0)
theorem mw_X5_drop : xMW mX5_drop 1 := ⟨wc_X5_drop, wi_RobbedOnce, by decide +kernel⟩
abbrev mX2_end : xM := (yX2_end, cX2_end, 1, none, 0, 0, 0)
theorem mw_X2_end : xMW mX2_end 0 := ⟨wc_X2_end, wi_RobbedOnce_Sheet, by decide +kernel⟩
abbrev mX5_item : xM := (yX5_item, cX5_item, 8, (some .int), 2, 0, 0)
theorem mw_X5_item : xMW mX5_item 4 := ⟨wc_X5_item, wi_RobbedOnce, by decide +kernel⟩
abbrev mX5_copy : xM := (yX5_copy, cX5_copy, 8, (some .int), 1, 0, 0)
theorem mw_X5_copy : xMW mX5_copy 5 := ⟨wc_X5_copy, wi_RobbedOnce, by decide +kernel⟩
abbrev mX6_init : xM := (yX6_init, cX6_init, 2, none, 1, 9, 1052)
theorem mw_X6_init : xMW mX6_init 0 := ⟨wc_X6_init, wi_RobbedOnceModel, by decide +kernel⟩
abbrev mX6_apprentice : xM := (yX6_apprentice, cX6_apprentice, 4, (some .int), 1, 0, 0)
theorem mw_X6_apprentice : xMW mX6_apprentice 3 := ⟨wc_X6_apprentice, wi_RobbedOnceModel, by decide +kernel⟩
abbrev mX6_in : xM := (yX6_in, cX6_in, 3, (some .boolean), 0, 0, 0)
theorem mw_X6_in : xMW mX6_in 3 := ⟨wc_X6_in, wi_RobbedOnceModel, by decide +kernel⟩
abbrev mX6_addOne : xM := (yX6_addOne, cX6_addOne, 5, (some .int), 0, 0, 0)
theorem mw_X6_addOne : xMW mX6_addOne 4 := ⟨wc_X6_addOne, wi_RobbedOnceModel, by decide +kernel⟩
abbrev mX6_thief : xM := (yX6_thief, cX6_thief, 3, (some .int), 1, 0, 0)
theorem mw_X6_thief : xMW mX6_thief 2 := ⟨wc_X6_thief, wi_RobbedOnceModel, by decide +kernel⟩
abbrev mX6_addThief : xM := (yX6_addThief, cX6_addThief, 4, (some .int), 0, 0, 0)
theorem mw_X6_addThief : xMW mX6_addThief 3 := ⟨wc_X6_addThief, wi_RobbedOnceModel, by decide +kernel⟩
abbrev mX6_bar : xM := (yX6_bar, cX6_bar, 3, (some .int), 1, 0, 0)
theorem mw_X6_bar : xMW mX6_bar 1 := ⟨wc_X6_bar, wi_RobbedOnceModel, by decide +kernel⟩
abbrev mX6_of : xM := (yX6_of, cX6_of, 3, (some .int), 3, 0, 0)
theorem mw_X6_of : xMW mX6_of 2 := ⟨wc_X6_of, wi_RobbedOnceModel, by decide +kernel⟩
abbrev mX6_isOne : xM := (yX6_isOne, cX6_isOne, 2, (some .boolean), 1, 0, 0)
theorem mw_X6_isOne : xMW mX6_isOne 1 := ⟨wc_X6_isOne, wi_RobbedOnceModel, by decide +kernel⟩
abbrev mX6_robbersOf : xM := (yX6_robbersOf, cX6_robbersOf, 4, (some .int), 2, 0, 0)
theorem mw_X6_robbersOf : xMW mX6_robbersOf 1 := ⟨wc_X6_robbersOf, wi_RobbedOnceModel, by decide +kernel⟩
abbrev mX6_mayRob : xM := (yX6_mayRob, cX6_mayRob, 4, (some .boolean), 1, 0, 0)
theorem mw_X6_mayRob : xMW mX6_mayRob 3 := ⟨wc_X6_mayRob, wi_RobbedOnceModel, by decide +kernel⟩
abbrev mX6_has : xM := (yX6_has, cX6_has, 2, (some .boolean), 0, 0, 0)
theorem mw_X6_has : xMW mX6_has 2 := ⟨wc_X6_has, wi_RobbedOnceModel, by decide +kernel⟩
abbrev mX6_at : xM := (yX6_at, cX6_at, 3, (some .int), 3, 0, 0)
theorem mw_X6_at : xMW mX6_at 2 := ⟨wc_X6_at, wi_RobbedOnceModel, by decide +kernel⟩
abbrev mX6_isThief : xM := (yX6_isThief, cX6_isThief, 2, (some .boolean), 1, 0, 0)
theorem mw_X6_isThief : xMW mX6_isThief 1 := ⟨wc_X6_isThief, wi_RobbedOnceModel, by decide +kernel⟩
abbrev mX6_preyOf : xM := (yX6_preyOf, cX6_preyOf, 4, (some .int), 2, 0, 0)
theorem mw_X6_preyOf : xMW mX6_preyOf 1 := ⟨wc_X6_preyOf, wi_RobbedOnceModel, by decide +kernel⟩
abbrev mX6_type : xM := (yX6_type, cX6_type, 2, (some .int), 1, 0, 0)
theorem mw_X6_type : xMW mX6_type 1 := ⟨wc_X6_type, wi_RobbedOnceModel, by decide +kernel⟩
abbrev mX6_town : xM := (yX6_town, cX6_town, 2, (some .int), 5, 0, 0)
theorem mw_X6_town : xMW mX6_town 0 := ⟨wc_X6_town, wi_RobbedOnceModel, by decide +kernel⟩
abbrev mX6_isTown : xM := (yX6_isTown, cX6_isTown, 2, (some .boolean), 4, 0, 0)
theorem mw_X6_isTown : xMW mX6_isTown 0 := ⟨wc_X6_isTown, wi_RobbedOnceModel, by decide +kernel⟩
abbrev mX6_isNumber : xM := (yX6_isNumber, cX6_isNumber, 2, (some .boolean), 2, 0, 0)
theorem mw_X6_isNumber : xMW mX6_isNumber 0 := ⟨wc_X6_isNumber, wi_RobbedOnceModel, by decide +kernel⟩
abbrev mX6_isDigit : xM := (yX6_isDigit, cX6_isDigit, 3, (some .boolean), 1, 0, 0)
theorem mw_X6_isDigit : xMW mX6_isDigit 2 := ⟨wc_X6_isDigit, wi_RobbedOnceModel, by decide +kernel⟩
abbrev mX6_peek : xM := (yX6_peek, cX6_peek, 1, (some .int), 0, 0, 0)
theorem mw_X6_peek : xMW mX6_peek 0 := ⟨wc_X6_peek, wi_RobbedOnceModel, by decide +kernel⟩
abbrev mX6_isSign : xM := (yX6_isSign, cX6_isSign, 2, (some .boolean), 1, 0, 0)
theorem mw_X6_isSign : xMW mX6_isSign 1 := ⟨wc_X6_isSign, wi_RobbedOnceModel, by decide +kernel⟩
abbrev mX6_isOneItem : xM := (yX6_isOneItem, cX6_isOneItem, 4, (some .boolean), 3, 0, 0)
theorem mw_X6_isOneItem : xMW mX6_isOneItem 0 := ⟨wc_X6_isOneItem, wi_RobbedOnceModel, by decide +kernel⟩
abbrev mX6_kindBy : xM := (yX6_kindBy, cX6_kindBy, 1, (some .int), 0, 0, 0)
theorem mw_X6_kindBy : xMW mX6_kindBy 1 := ⟨wc_X6_kindBy, wi_RobbedOnceModel, by decide +kernel⟩
abbrev mX6_isThiefItem : xM := (yX6_isThiefItem, cX6_isThiefItem, 2, (some .boolean), 2, 0, 0)
theorem mw_X6_isThiefItem : xMW mX6_isThiefItem 0 := ⟨wc_X6_isThiefItem, wi_RobbedOnceModel, by decide +kernel⟩
abbrev mX6_bring : xM := (yX6_bring, cX6_bring, 6, none, 0, 0, 0)
theorem mw_X6_bring : xMW mX6_bring 5 := ⟨wc_X6_bring, wi_RobbedOnceModel, by decide +kernel⟩
abbrev mX6_count : xM := (yX6_count, cX6_count, 4, (some .int), 1, 0, 0)
theorem mw_X6_count : xMW mX6_count 1 := ⟨wc_X6_count, wi_RobbedOnceModel, by decide +kernel⟩
abbrev mX6_nights : xM := (yX6_nights, cX6_nights, 3, (some .int), 5, 0, 0)
theorem mw_X6_nights : xMW mX6_nights 1 := ⟨wc_X6_nights, wi_RobbedOnceModel, by decide +kernel⟩
abbrev mX6_note : xM := (yX6_note, cX6_note, 1, none, 1, 0, 0)
theorem mw_X6_note : xMW mX6_note 0 := ⟨wc_X6_note, wi_RobbedOnceModel, by decide +kernel⟩
abbrev mX6_nightIn : xM := (yX6_nightIn, cX6_nightIn, 6, none, 4, 0, 0)
theorem mw_X6_nightIn : xMW mX6_nightIn 2 := ⟨wc_X6_nightIn, wi_RobbedOnceModel, by decide +kernel⟩
abbrev mX6_robIn : xM := (yX6_robIn, cX6_robIn, 6, (some .int), 3, 0, 0)
theorem mw_X6_robIn : xMW mX6_robIn 2 := ⟨wc_X6_robIn, wi_RobbedOnceModel, by decide +kernel⟩
abbrev mX6_dearest : xM := (yX6_dearest, cX6_dearest, 6, (some .int), 2, 0, 0)
theorem mw_X6_dearest : xMW mX6_dearest 3 := ⟨wc_X6_dearest, wi_RobbedOnceModel, by decide +kernel⟩
abbrev mX6_dearerBy : xM := (yX6_dearerBy, cX6_dearerBy, 5, (some .int), 0, 0, 0)
theorem mw_X6_dearerBy : xMW mX6_dearerBy 4 := ⟨wc_X6_dearerBy, wi_RobbedOnceModel, by decide +kernel⟩
abbrev mX6_show : xM := (yX6_show, cX6_show, 3, (some .int), 2, 0, 0)
theorem mw_X6_show : xMW mX6_show 2 := ⟨wc_X6_show, wi_RobbedOnceModel, by decide +kernel⟩
abbrev mX6_setShows : xM := (yX6_setShows, cX6_setShows, 3, none, 0, 0, 0)
theorem mw_X6_setShows : xMW mX6_setShows 3 := ⟨wc_X6_setShows, wi_RobbedOnceModel, by decide +kernel⟩
abbrev mX6_teach : xM := (yX6_teach, cX6_teach, 4, (some .int), 2, 0, 0)
theorem mw_X6_teach : xMW mX6_teach 2 := ⟨wc_X6_teach, wi_RobbedOnceModel, by decide +kernel⟩
abbrev mX6_drift : xM := (yX6_drift, cX6_drift, 3, (some .int), 5, 0, 0)
theorem mw_X6_drift : xMW mX6_drift 1 := ⟨wc_X6_drift, wi_RobbedOnceModel, by decide +kernel⟩
abbrev mX6_undo : xM := (yX6_undo, cX6_undo, 1, (some .int), 1, 0, 0)
theorem mw_X6_undo : xMW mX6_undo 0 := ⟨wc_X6_undo, wi_RobbedOnceModel, by decide +kernel⟩
abbrev mX6_seed : xM := (yX6_seed, cX6_seed, 3, (some .int), 0, 0, 0)
theorem mw_X6_seed : xMW mX6_seed 1 := ⟨wc_X6_seed, wi_RobbedOnceModel, by decide +kernel⟩
abbrev mX6_ahead : xM := (yX6_ahead, cX6_ahead, 3, (some .int), 6, 0, 0)
theorem mw_X6_ahead : xMW mX6_ahead 2 := ⟨wc_X6_ahead, wi_RobbedOnceModel, by decide +kernel⟩
abbrev mX6_begin : xM := (yX6_begin, cX6_begin, 1, none, 1, 0, 0)
theorem mw_X6_begin : xMW mX6_begin 0 := ⟨wc_X6_begin, wi_RobbedOnceModel, by decide +kernel⟩
abbrev mX6_goOn : xM := (yX6_goOn, cX6_goOn, 4, none, 5, 0, 0)
theorem mw_X6_goOn : xMW mX6_goOn 2 := ⟨wc_X6_goOn, wi_RobbedOnceModel, by decide +kernel⟩
abbrev mX6_then : xM := (yX6_then, cX6_then, 2, (some .int), 6, 0, 0)
theorem mw_X6_then : xMW mX6_then 1 := ⟨wc_X6_then, wi_RobbedOnceModel, by decide +kernel⟩
abbrev mX6_sworn : xM := (yX6_sworn, cX6_sworn, 2, (some .int), 6, 0, 0)
theorem mw_X6_sworn : xMW mX6_sworn 1 := ⟨wc_X6_sworn, wi_RobbedOnceModel, by decide +kernel⟩
abbrev mX6_swornFrom : xM := (yX6_swornFrom, cX6_swornFrom, 4, (some .int), 5, 0, 0)
theorem mw_X6_swornFrom : xMW mX6_swornFrom 2 := ⟨wc_X6_swornFrom, wi_RobbedOnceModel, by decide +kernel⟩
abbrev mX6_robs : xM := (yX6_robs, cX6_robs, 2, (some .int), 4, 0, 0)
theorem mw_X6_robs : xMW mX6_robs 1 := ⟨wc_X6_robs, wi_RobbedOnceModel, by decide +kernel⟩
abbrev mX6_hides : xM := (yX6_hides, cX6_hides, 7, (some .int), 6, 0, 0)
theorem mw_X6_hides : xMW mX6_hides 2 := ⟨wc_X6_hides, wi_RobbedOnceModel, by decide +kernel⟩
abbrev mX6_cover : xM := (yX6_cover, cX6_cover, 7, (some .int), 6, 0, 0)
theorem mw_X6_cover : xMW mX6_cover 3 := ⟨wc_X6_cover, wi_RobbedOnceModel, by decide +kernel⟩
abbrev mX6_bits : xM := (yX6_bits, cX6_bits, 3, (some .int), 0, 0, 0)
theorem mw_X6_bits : xMW mX6_bits 1 := ⟨wc_X6_bits, wi_RobbedOnceModel, by decide +kernel⟩
abbrev mX6_low : xM := (yX6_low, cX6_low, 3, (some .int), 6, 0, 0)
theorem mw_X6_low : xMW mX6_low 1 := ⟨wc_X6_low, wi_RobbedOnceModel, by decide +kernel⟩
abbrev mX6_spare : xM := (yX6_spare, cX6_spare, 6, (some .int), 6, 0, 0)
theorem mw_X6_spare : xMW mX6_spare 2 := ⟨wc_X6_spare, wi_RobbedOnceModel, by decide +kernel⟩
abbrev mX6_match : xM := (yX6_match, cX6_match, 8, (some .int), 2, 0, 0)
theorem mw_X6_match : xMW mX6_match 0 := ⟨wc_X6_match, wi_RobbedOnceModel, by decide +kernel⟩
abbrev mX6_care : xM := (yX6_care, cX6_care, 4, (some .int), 6, 0, 0)
theorem mw_X6_care : xMW mX6_care 2 := ⟨wc_X6_care, wi_RobbedOnceModel, by decide +kernel⟩
abbrev mX6_leave : xM := (yX6_leave, cX6_leave, 9, (some .int), 4, 0, 0)
theorem mw_X6_leave : xMW mX6_leave 3 := ⟨wc_X6_leave, wi_RobbedOnceModel, by decide +kernel⟩
abbrev mX6_image : xM := (yX6_image, cX6_image, 1, (some .int), 1, 0, 0)
theorem mw_X6_image : xMW mX6_image 0 := ⟨wc_X6_image, wi_RobbedOnceModel, by decide +kernel⟩
abbrev mX6_restore : xM := (yX6_restore, cX6_restore, 1, (some .int), 1, 0, 0)
theorem mw_X6_restore : xMW mX6_restore 0 := ⟨wc_X6_restore, wi_RobbedOnceModel, by decide +kernel⟩
abbrev mX6_grown : xM := (yX6_grown, cX6_grown, 13, (some .int), 6, 0, 0)
theorem mw_X6_grown : xMW mX6_grown 6 := ⟨wc_X6_grown, wi_RobbedOnceModel, by decide +kernel⟩
abbrev mX6_isSheet : xM := (yX6_isSheet, cX6_isSheet, 1, (some .boolean), 1, 0, 0)
theorem mw_X6_isSheet : xMW mX6_isSheet 1 := ⟨wc_X6_isSheet, wi_RobbedOnceModel, by decide +kernel⟩
abbrev mX6_wrong : xM := (yX6_wrong, cX6_wrong, 5, (some .int), 1, 0, 0)
theorem mw_X6_wrong : xMW mX6_wrong 4 := ⟨wc_X6_wrong, wi_RobbedOnceModel, by decide +kernel⟩
abbrev mX6_isPart : xM := (yX6_isPart, cX6_isPart, 3, (some .boolean), 0, 0, 0)
theorem mw_X6_isPart : xMW mX6_isPart 3 := ⟨wc_X6_isPart, wi_RobbedOnceModel, by decide +kernel⟩
abbrev mX6_isGrown : xM := (yX6_isGrown, cX6_isGrown, 7, (some .boolean), 5, 0, 0)
theorem mw_X6_isGrown : xMW mX6_isGrown 4 := ⟨wc_X6_isGrown, wi_RobbedOnceModel, by decide +kernel⟩
abbrev mX6_film : xM := (yX6_film, cX6_film, 8, (some .int), 5, 0, 0)
theorem mw_X6_film : xMW mX6_film 5 := ⟨wc_X6_film, wi_RobbedOnceModel, by decide +kernel⟩
abbrev mX6_sheet : xM := (yX6_sheet, cX6_sheet, 5, (some .int), 2, 0, 0)
theorem mw_X6_sheet : xMW mX6_sheet 3 := ⟨wc_X6_sheet, wi_RobbedOnceModel, by decide +kernel⟩
abbrev mX6_drop : xM := (yX6_drop, cX6_drop, 2, (some .int), 2, 0, 0)
theorem mw_X6_drop : xMW mX6_drop 1 := ⟨wc_X6_drop, wi_RobbedOnceModel, by decide +kernel⟩
abbrev mX6_item : xM := (yX6_item, cX6_item, 7, (some .int), 2, 0, 0)
theorem mw_X6_item : xMW mX6_item 4 := ⟨wc_X6_item, wi_RobbedOnceModel, by decide +kernel⟩
abbrev mX6_copy : xM := (yX6_copy, cX6_copy, 9, (some .int), 2, 0, 0)
theorem mw_X6_copy : xMW mX6_copy 5 := ⟨wc_X6_copy, wi_RobbedOnceModel, by decide +kernel⟩
end
section
theorem nI_bv (a : Nat) : (nI a).toBitVec = BitVec.ofNat 32 a := rfl
theorem i32_ext {x y : Int32} (h : x.toBitVec = y.toBitVec) : x = y := Int32.toBitVec_inj.mp h
theorem nx_and (a b : Nat) : nI a &&& nI b = nI (a &&& b) := by
  apply i32_ext
  rw [Int32.toBitVec_and, nI_bv, nI_bv, nI_bv, BitVec.ofNat_and]
theorem nx_or (a b : Nat) : nI a ||| nI b = nI (a ||| b) := by
  apply i32_ext
  rw [Int32.toBitVec_or, nI_bv, nI_bv, nI_bv, BitVec.ofNat_or]
theorem nx_c31 : ∀ a, a < 32 → ((nI a &&& 31).toBitVec.smod 32).toNat = a := by decide +kernel
theorem nx_shl (x : Nat) {a : Nat} (ha : a < 32) : nI x <<< (nI a &&& 31) = nI (x * 2 ^ a) := by
  apply i32_ext
  apply BitVec.eq_of_toNat_eq
  rw [pk_shl _ _ a (nx_c31 a ha), nI_bv, nI_bv, BitVec.toNat_ofNat, BitVec.toNat_ofNat, Nat.mod_mul_mod]
theorem nx_shr {x a : Nat} (hx : x < 2 ^ 31) (ha : a < 32) : nI x >>> (nI a &&& 31) = nI (x / 2 ^ a) := pk_shrN hx _ a (nx_c31 a ha)
theorem nx_m1 : ∀ x : Int32, x ^^^ (-1) = ~~~ x := by
  intro x
  apply i32_ext
  rw [Int32.toBitVec_xor, Int32.toBitVec_not]
  exact BitVec.xor_allOnes
section PXN
variable {E : xE} {M : xM} {Q : Option Value → xHp → Prop} {k n pc : Nat} {lo : List (Option Value)} {r : List Value} {h : xHp} {a b : Nat}
theorem px_iaddN (hd : decode (xC M) pc = .ok (.iadd, 1)) (kk : PW E M Q k n (pc + 1) lo (.int (nI (a + b)) :: r) h) : PW E M Q k n pc lo (.int (nI b) :: .int (nI a) :: r) h := px_iadd hd (px_topi (nI_add a b) kk)
theorem px_isubN (hd : decode (xC M) pc = .ok (.isub, 1)) (hab : b ≤ a) (kk : PW E M Q k n (pc + 1) lo (.int (nI (a - b)) :: r) h) : PW E M Q k n pc lo (.int (nI b) :: .int (nI a) :: r) h := px_isub hd (px_topi (pk_sub hab) kk)
theorem px_imulN (hd : decode (xC M) pc = .ok (.imul, 1)) (kk : PW E M Q k n (pc + 1) lo (.int (nI (a * b)) :: r) h) : PW E M Q k n pc lo (.int (nI b) :: .int (nI a) :: r) h := px_imul hd (px_topi (pk_mul a b) kk)
theorem px_iandN (hd : decode (xC M) pc = .ok (.iand, 1)) (kk : PW E M Q k n (pc + 1) lo (.int (nI (a &&& b)) :: r) h) : PW E M Q k n pc lo (.int (nI b) :: .int (nI a) :: r) h := px_iand hd (px_topi (nx_and a b) kk)
theorem px_iorN (hd : decode (xC M) pc = .ok (.ior, 1)) (kk : PW E M Q k n (pc + 1) lo (.int (nI (a ||| b)) :: r) h) : PW E M Q k n pc lo (.int (nI b) :: .int (nI a) :: r) h := px_ior hd (px_topi (nx_or a b) kk)
theorem px_ishlN (hd : decode (xC M) pc = .ok (.ishl, 1)) (hb : b < 32) (kk : PW E M Q k n (pc + 1) lo (.int (nI (a * 2 ^ b)) :: r) h) : PW E M Q k n pc lo (.int (nI b) :: .int (nI a) :: r) h := px_ishl hd (px_topi (nx_shl a hb) kk)
theorem px_ishl1 (hd : decode (xC M) pc = .ok (.ishl, 1)) (hb : b < 32) (kk : PW E M Q k n (pc + 1) lo (.int (nI (2 ^ b)) :: r) h) : PW E M Q k n pc lo (.int (nI b) :: .int (nI 1) :: r) h := px_ishl hd (px_topi (by rw [nx_shl 1 hb, Nat.one_mul]) kk)
theorem px_ishrN (hd : decode (xC M) pc = .ok (.ishr, 1)) (ha : a < 2 ^ 31) (hb : b < 32) (kk : PW E M Q k n (pc + 1) lo (.int (nI (a / 2 ^ b)) :: r) h) : PW E M Q k n pc lo (.int (nI b) :: .int (nI a) :: r) h := px_ishr hd (px_topi (nx_shr ha hb) kk)
theorem px_idivN (hd : decode (xC M) pc = .ok (.idiv, 1)) (ha : a < 2 ^ 31) (h0 : 0 < b) (hb : b < 2 ^ 31) (kk : PW E M Q k n (pc + 1) lo (.int (nI (a / b)) :: r) h) : PW E M Q k n pc lo (.int (nI b) :: .int (nI a) :: r) h := px_idiv hd (nI_ne0 h0 hb) (px_topi (pk_div ha h0 hb) kk)
theorem px_iremN (hd : decode (xC M) pc = .ok (.irem, 1)) (ha : a < 2 ^ 31) (h0 : 0 < b) (hb : b < 2 ^ 31) (kk : PW E M Q k n (pc + 1) lo (.int (nI (a % b)) :: r) h) : PW E M Q k n pc lo (.int (nI b) :: .int (nI a) :: r) h := px_irem hd (nI_ne0 h0 hb) (px_topi (pk_rem ha h0 hb) kk)
theorem px_iincN {j : Nat} (hd : decode (xC M) pc = .ok (.iinc j 1, 3)) (hx : lo[j]? = some (some (.int (nI a)))) (hn : j < xL M) (hok : xSt lo j = true) (kk : PW E M Q k n (pc + 3) (lo.set j (some (.int (nI (a + 1))))) r h) : PW E M Q k n pc lo r h := px_iinc hd hx (nI_1 a) hn hok kk
theorem px_iincD {j : Nat} (hd : decode (xC M) pc = .ok (.iinc j (-1), 3)) (hx : lo[j]? = some (some (.int (nI (a + 1))))) (hn : j < xL M) (hok : xSt lo j = true) (kk : PW E M Q k n (pc + 3) (lo.set j (some (.int (nI a)))) r h) : PW E M Q k n pc lo r h := px_iinc hd hx (pk_m1 a) hn hok kk
theorem px_icmp_ltN {off : Int} (tgt : Nat) (hd : decode (xC M) pc = .ok (.if_icmp .lt off, 3)) (ht : (pc : Int) + off = (tgt : Int)) (ha : a < 2 ^ 31) (hb : b < 2 ^ 31) (kt : a < b → PW E M Q k n tgt lo r h) (kf : b ≤ a → PW E M Q k n (pc + 3) lo r h) : PW E M Q k n pc lo (.int (nI b) :: .int (nI a) :: r) h := px_icmp_lt tgt hd ht (fun z => kt ((nI_ltI ha hb).mp z)) (fun z => kf (Nat.not_lt.mp (fun q => z ((nI_ltI ha hb).mpr q))))
theorem px_icmp_geN {off : Int} (tgt : Nat) (hd : decode (xC M) pc = .ok (.if_icmp .ge off, 3)) (ht : (pc : Int) + off = (tgt : Int)) (ha : a < 2 ^ 31) (hb : b < 2 ^ 31) (kt : b ≤ a → PW E M Q k n tgt lo r h) (kf : a < b → PW E M Q k n (pc + 3) lo r h) : PW E M Q k n pc lo (.int (nI b) :: .int (nI a) :: r) h := px_icmp_ge tgt hd ht (fun z => kt ((nI_leI hb ha).mp z)) (fun z => kf (Nat.not_le.mp (fun q => z ((nI_leI hb ha).mpr q))))
theorem px_icmp_gtN {off : Int} (tgt : Nat) (hd : decode (xC M) pc = .ok (.if_icmp .gt off, 3)) (ht : (pc : Int) + off = (tgt : Int)) (ha : a < 2 ^ 31) (hb : b < 2 ^ 31) (kt : b < a → PW E M Q k n tgt lo r h) (kf : a ≤ b → PW E M Q k n (pc + 3) lo r h) : PW E M Q k n pc lo (.int (nI b) :: .int (nI a) :: r) h := px_icmp_gt tgt hd ht (fun z => kt ((nI_ltI hb ha).mp z)) (fun z => kf (Nat.not_lt.mp (fun q => z ((nI_ltI hb ha).mpr q))))
theorem px_icmp_leN {off : Int} (tgt : Nat) (hd : decode (xC M) pc = .ok (.if_icmp .le off, 3)) (ht : (pc : Int) + off = (tgt : Int)) (ha : a < 2 ^ 31) (hb : b < 2 ^ 31) (kt : a ≤ b → PW E M Q k n tgt lo r h) (kf : b < a → PW E M Q k n (pc + 3) lo r h) : PW E M Q k n pc lo (.int (nI b) :: .int (nI a) :: r) h := px_icmp_le tgt hd ht (fun z => kt ((nI_leI ha hb).mp z)) (fun z => kf (Nat.not_le.mp (fun q => z ((nI_leI ha hb).mpr q))))
theorem px_icmp_eqN {off : Int} (tgt : Nat) (hd : decode (xC M) pc = .ok (.if_icmp .eq off, 3)) (ht : (pc : Int) + off = (tgt : Int)) (ha : a < 2 ^ 31) (hb : b < 2 ^ 31) (kt : a = b → PW E M Q k n tgt lo r h) (kf : a ≠ b → PW E M Q k n (pc + 3) lo r h) : PW E M Q k n pc lo (.int (nI b) :: .int (nI a) :: r) h := px_icmp_eq tgt hd ht (fun z => kt ((nI_eq ha hb).mp z)) (fun z => kf (fun q => z ((nI_eq ha hb).mpr q)))
theorem px_icmp_neN {off : Int} (tgt : Nat) (hd : decode (xC M) pc = .ok (.if_icmp .ne off, 3)) (ht : (pc : Int) + off = (tgt : Int)) (ha : a < 2 ^ 31) (hb : b < 2 ^ 31) (kt : a ≠ b → PW E M Q k n tgt lo r h) (kf : a = b → PW E M Q k n (pc + 3) lo r h) : PW E M Q k n pc lo (.int (nI b) :: .int (nI a) :: r) h := px_icmp_ne tgt hd ht (fun z => kt (fun q => z ((nI_eq ha hb).mpr q))) (fun z => kf ((nI_eq ha hb).mp z))
theorem nI_z {a : Nat} (ha : a < 2 ^ 31) : nI a = 0 ↔ a = 0 := nI_eq (b := 0) ha (by decide)
theorem px_if_eqN {off : Int} (tgt : Nat) (hd : decode (xC M) pc = .ok (.ifCond .eq off, 3)) (ht : (pc : Int) + off = (tgt : Int)) (ha : a < 2 ^ 31) (kt : a = 0 → PW E M Q k n tgt lo r h) (kf : a ≠ 0 → PW E M Q k n (pc + 3) lo r h) : PW E M Q k n pc lo (.int (nI a) :: r) h := px_if_eq tgt hd ht (fun z => kt ((nI_z ha).mp z)) (fun z => kf (fun q => z ((nI_z ha).mpr q)))
theorem px_if_neN {off : Int} (tgt : Nat) (hd : decode (xC M) pc = .ok (.ifCond .ne off, 3)) (ht : (pc : Int) + off = (tgt : Int)) (ha : a < 2 ^ 31) (kt : a ≠ 0 → PW E M Q k n tgt lo r h) (kf : a = 0 → PW E M Q k n (pc + 3) lo r h) : PW E M Q k n pc lo (.int (nI a) :: r) h := px_if_ne tgt hd ht (fun z => kt (fun q => z ((nI_z ha).mpr q))) (fun z => kf ((nI_z ha).mp z))
/-- a truth value on the stack -/
def bI (b : Bool) : Int32 := nI b.toNat
theorem bI_t : bI true = nI 1 := rfl
theorem bI_f : bI false = nI 0 := rfl
theorem bI_z (b : Bool) : bI b = 0 ↔ b = false := by cases b <;> decide
theorem px_if_eqB {b : Bool} {off : Int} (tgt : Nat) (hd : decode (xC M) pc = .ok (.ifCond .eq off, 3)) (ht : (pc : Int) + off = (tgt : Int)) (kt : b = false → PW E M Q k n tgt lo r h) (kf : b = true → PW E M Q k n (pc + 3) lo r h) : PW E M Q k n pc lo (.int (bI b) :: r) h := px_if_eq tgt hd ht (fun z => kt ((bI_z b).mp z)) (fun z => kf (by cases b with | false => exact absurd rfl z | true => rfl))
theorem px_if_neB {b : Bool} {off : Int} (tgt : Nat) (hd : decode (xC M) pc = .ok (.ifCond .ne off, 3)) (ht : (pc : Int) + off = (tgt : Int)) (kt : b = true → PW E M Q k n tgt lo r h) (kf : b = false → PW E M Q k n (pc + 3) lo r h) : PW E M Q k n pc lo (.int (bI b) :: r) h := px_if_ne tgt hd ht (fun z => kt (by cases b with | false => exact absurd rfl z | true => rfl)) (fun z => kf ((bI_z b).mp z))
theorem bI_nar (b : Bool) : narrow .boolean (.int (bI b)) = .int (bI b) := by cases b <;> rfl
theorem px_bret {b : Bool} {v : Int32} (hd : decode (xC M) pc = .ok (.ireturn, 1)) (hr : xR M = some .boolean) (hk : k = xmc M) (hn : n = xms M) (hv : v = bI b) (hq : Q (some (.int (bI b))) h) : PW E M Q k n pc lo [.int v] h := by
  subst hv
  exact px_zret hd hr (bI_nar b) hk hn hq
end PXN
/-! contracts whose answer and heap are told -/
abbrev PMI (E : xE) (M : xM) (av : List Value) (h : xHp) (x : Int32) (h2 : xHp) : Prop := PMet E M av h (fun v h' => v = some (.int x) ∧ h' = h2)
abbrev PMV (E : xE) (M : xM) (av : List Value) (h h2 : xHp) : Prop := PMet E M av h (fun v h' => v = none ∧ h' = h2)
abbrev PMR (E : xE) (M : xM) (av : List Value) (h : xHp) (a : Nat) (h2 : xHp) : Prop := PMet E M av h (fun v h' => v = some (.ref a) ∧ h' = h2)
section PXC
variable {E : xE} {M M2 : xM} {Q : Option Value → xHp → Prop} {pc idx np b ci N : Nat} {lo : List (Option Value)} {r As fs st : List Value} {h h2 : xHp} {T : u_T}
theorem px_vi {x : Int32} (hm : PMI E M2 (.ref b :: As) h x h2) (hw : xMW M2 np) (hi : Cond.instanceMethod (xY M2) ∈ GW) (hse : Cond.selects (xY M2).cls (xY M2) (xY M2) ∈ GW) (hl : xML (xY M).cls idx (xY M2)) (hd : decode (xC M) pc = .ok (.invokevirtual idx, 3)) (hb : h b = some (.inr (ci, fs))) (hc : vwCl[ci]? = some ((xY M2).cls, T, N)) (hR : xd M2 + 1 ≤ xd M ∧ 8 + (xL M2 + 11) + 39 * xd M2 ≤ 39 * xd M) (hn : As.length = np) (hst : st = As.reverse ++ .ref b :: r) (hcat : (r.map fun v => v.category).sum ≤ 8) (hz : xmc M2 = 0 ∧ xms M2 = 0)
    (kk : PW E M Q 0 0 (pc + 3) lo (.int x :: r) h2) : PW E M Q 0 0 pc lo st h := by
  refine px_callV hm hw hi hse hl hd hb hc hR hn hst hcat ⟨by rw [hz.1]; exact Nat.zero_le _, by rw [hz.2]; exact Nat.zero_le _⟩ (fun v h' hq => ?_)
  obtain ⟨rfl, rfl⟩ := hq
  rw [hz.1, hz.2]
  exact kk
theorem px_vv (hm : PMV E M2 (.ref b :: As) h h2) (hw : xMW M2 np) (hi : Cond.instanceMethod (xY M2) ∈ GW) (hse : Cond.selects (xY M2).cls (xY M2) (xY M2) ∈ GW) (hl : xML (xY M).cls idx (xY M2)) (hd : decode (xC M) pc = .ok (.invokevirtual idx, 3)) (hb : h b = some (.inr (ci, fs))) (hc : vwCl[ci]? = some ((xY M2).cls, T, N)) (hR : xd M2 + 1 ≤ xd M ∧ 8 + (xL M2 + 11) + 39 * xd M2 ≤ 39 * xd M) (hn : As.length = np) (hst : st = As.reverse ++ .ref b :: r) (hcat : (r.map fun v => v.category).sum ≤ 8) (hz : xmc M2 = 0 ∧ xms M2 = 0)
    (kk : PW E M Q 0 0 (pc + 3) lo r h2) : PW E M Q 0 0 pc lo st h := by
  refine px_callV hm hw hi hse hl hd hb hc hR hn hst hcat ⟨by rw [hz.1]; exact Nat.zero_le _, by rw [hz.2]; exact Nat.zero_le _⟩ (fun v h' hq => ?_)
  obtain ⟨rfl, rfl⟩ := hq
  rw [hz.1, hz.2]
  exact kk
theorem px_vr {a : Nat} (hm : PMR E M2 (.ref b :: As) h a h2) (hw : xMW M2 np) (hi : Cond.instanceMethod (xY M2) ∈ GW) (hse : Cond.selects (xY M2).cls (xY M2) (xY M2) ∈ GW) (hl : xML (xY M).cls idx (xY M2)) (hd : decode (xC M) pc = .ok (.invokevirtual idx, 3)) (hb : h b = some (.inr (ci, fs))) (hc : vwCl[ci]? = some ((xY M2).cls, T, N)) (hR : xd M2 + 1 ≤ xd M ∧ 8 + (xL M2 + 11) + 39 * xd M2 ≤ 39 * xd M) (hn : As.length = np) (hst : st = As.reverse ++ .ref b :: r) (hcat : (r.map fun v => v.category).sum ≤ 8) (hz : xmc M2 = 0 ∧ xms M2 = 0)
    (kk : PW E M Q 0 0 (pc + 3) lo (.ref a :: r) h2) : PW E M Q 0 0 pc lo st h := by
  refine px_callV hm hw hi hse hl hd hb hc hR hn hst hcat ⟨by rw [hz.1]; exact Nat.zero_le _, by rw [hz.2]; exact Nat.zero_le _⟩ (fun v h' hq => ?_)
  obtain ⟨rfl, rfl⟩ := hq
  rw [hz.1, hz.2]
  exact kk
theorem px_si {x : Int32} (hm : PMI E M2 As h x h2) (hw : xMW M2 np) (hi : Cond.static (xY M2) ∈ GW) (hl : xML (xY M).cls idx (xY M2)) (hd : decode (xC M) pc = .ok (.invokestatic idx, 3)) (hR : xd M2 + 1 ≤ xd M ∧ 8 + (xL M2 + 11) + 39 * xd M2 ≤ 39 * xd M) (hn : As.length = np) (hst : st = As.reverse ++ r) (hcat : (r.map fun v => v.category).sum ≤ 8) (hz : xmc M2 = 0 ∧ xms M2 = 0)
    (kk : PW E M Q 0 0 (pc + 3) lo (.int x :: r) h2) : PW E M Q 0 0 pc lo st h := by
  refine px_callS hm hw hi hl hd hR hn hst hcat ⟨by rw [hz.1]; exact Nat.zero_le _, by rw [hz.2]; exact Nat.zero_le _⟩ (fun v h' hq => ?_)
  obtain ⟨rfl, rfl⟩ := hq
  rw [hz.1, hz.2]
  exact kk
theorem px_sv (hm : PMV E M2 As h h2) (hw : xMW M2 np) (hi : Cond.static (xY M2) ∈ GW) (hl : xML (xY M).cls idx (xY M2)) (hd : decode (xC M) pc = .ok (.invokestatic idx, 3)) (hR : xd M2 + 1 ≤ xd M ∧ 8 + (xL M2 + 11) + 39 * xd M2 ≤ 39 * xd M) (hn : As.length = np) (hst : st = As.reverse ++ r) (hcat : (r.map fun v => v.category).sum ≤ 8) (hz : xmc M2 = 0 ∧ xms M2 = 0)
    (kk : PW E M Q 0 0 (pc + 3) lo r h2) : PW E M Q 0 0 pc lo st h := by
  refine px_callS hm hw hi hl hd hR hn hst hcat ⟨by rw [hz.1]; exact Nat.zero_le _, by rw [hz.2]; exact Nat.zero_le _⟩ (fun v h' hq => ?_)
  obtain ⟨rfl, rfl⟩ := hq
  rw [hz.1, hz.2]
  exact kk
end PXC
end
section
section PXCP
variable {E : xE} {M : xM} {Q : Option Value → xHp → Prop} {pc : Nat} {lo : List (Option Value)} {r : List Value} {h : xHp}
theorem nI_nneg {a : Nat} (h : a < 2 ^ 31) : (nI a).toInt = ((nI a).toNatClampNeg : Int) := by rw [nI_toInt h, nI_clamp h]
theorem px_copyi {idx a0 a n0 n1 sp dp cnt : Nat} {f g : Nat → Int32} (hd : decode (xC M) pc = .ok (.invokestatic idx, 3)) (hl : Cond.methodLink (xY M).cls idx arraycopyName ∈ GW) (ha0 : h a0 = some (.inl (E.1.2 0, n0, .inl f))) (ha : h a = some (.inl (E.1.2 0, n1, .inl g))) (h4 : sp + cnt ≤ n0) (h5 : dp + cnt ≤ n1) (hn0 : n0 < 2 ^ 31) (hn1 : n1 < 2 ^ 31) (hR : 1 ≤ xd M) (hcat : (r.map fun v => v.category).sum ≤ 8) (kk : PW E M Q 0 0 (pc + 3) lo r (va_up h a (some (.inl (E.1.2 0, n1, .inl (va_cpy f g sp dp cnt)))))) : PW E M Q 0 0 pc lo (.int (nI cnt) :: .int (nI dp) :: .ref a :: .int (nI sp) :: .ref a0 :: r) h := by
  intro l p e s m args below meth c C H locs ls hH hS hlv T hT X
  have hts := C.2.2.2.2.2.2.1
  have hK := C.2.2.2.2.2.2.2.1.1
  have bs : sp < 2 ^ 31 := by omega
  have hnat : nativeFrameWords "java/lang/System" "arraycopy" 5 ≤ 20 := by decide
  have bd : dp < 2 ^ 31 := by omega
  have bc : cnt < 2 ^ 31 := by omega
  obtain ⟨hc0, -⟩ := hH.1 a0 _ ha0
  obtain ⟨hc1, hza⟩ := hH.1 a _ ha
  have hc0 : H[a0]? = some (vp_cell (E.1.2 0) (n0, .inl f)) := hc0
  have hc1 : H[a]? = some (vp_cell (E.1.2 0) (n1, .inl g)) := hc1
  obtain ⟨-, k0, hk0, cm0, hkk0⟩ := (hK.2 0 (E.1.2 0, .int) rfl).1 n0 (fun j => .int (f j))
  obtain ⟨-, k1, hk1, cm1, hkk1⟩ := (hK.2 0 (E.1.2 0, .int) rfl).1 n1 (fun j => .int (g j))
  obtain ⟨vm', X', step⟩ := X.arraycopy C.1 C.2.2.2.2.2.1 (hts _ hl) (hts _ wn_arraycopy) (hts _ wt_arraycopy) (hts _ wi_java_lang_System) (src := a0) (dst := a) (cs := vp_cell (E.1.2 0) (n0, .inl f)) (cd := vp_cell (E.1.2 0) (n1, .inl g)) (srcPos := nI sp) (destPos := nI dp) (n := nI cnt) (by rw [hT]; exact hc0) (by rw [hT]; exact hc1)
    (fun _ h => by cases h) (fun _ h => by cases h) (fun h => by cases h) (fun h => by cases h) hk0 hk1 hkk0 hkk1 (by simp [refKind]) (nI_pos bs) (nI_pos bd) (nI_pos bc)
    (by rw [nI_toInt bs, nI_toInt bc]; show ¬ _ > ((arrV (E.1.2 0) n0 (fun j => .int (f j))).slots.size : Int); rw [arrV_size]; omega)
    (by rw [nI_toInt bd, nI_toInt bc]; show ¬ _ > ((arrV (E.1.2 0) n1 (fun j => .int (g j))).slots.size : Int); rw [arrV_size]; omega)
    (fun vm₁ _ i hi => by
      rw [nI_clamp bc] at hi
      have e : (vp_cell (E.1.2 0) (n0, .inl f)).slots.getD ((nI sp).toNatClampNeg + i) .null = .int (f ((nI sp).toNatClampNeg + i)) := by
        show (arrV (E.1.2 0) n0 (fun j => .int (f j))).slots.getD _ _ = _
        rw [Array.getD_eq_getD_getElem?, arrV_read _ _ (by rw [nI_clamp bs]; omega)]
        rfl
      refine ⟨?_, ?_⟩
      · rw [e]; rfl
      · rw [e]; exact trivial)
    (g := F0 m pc ls (.int (nI cnt) :: .int (nI dp) :: .ref a :: .int (nI sp) :: .ref a0 :: r)) rfl (by rw [C.2.2.1]; exact hlv.1) (rest := r) rfl (by rw [C.2.1]; exact hd) hR (by show 2 * 0 + _ + (nativeFrameWords "java/lang/System" "arraycopy" 5 + 11) ≤ 39 * xd M; omega)
  have e1 : copied (vp_cell (E.1.2 0) (n0, .inl f)) (vp_cell (E.1.2 0) (n1, .inl g)) (nI sp) (nI dp) (nI cnt) = vp_cell (E.1.2 0) (n1, .inl (va_cpy f g sp dp cnt)) := by
    have := va_copied (fun z => Value.int z) (E.1.2 0) (E.1.2 0) (n0 := n0) (n1 := n1) (sp := sp) (dp := dp) (n := cnt) f g h4
    show (arrV (E.1.2 0) n1 (fun j => .int (g j))).storeRun (nI dp).toNatClampNeg ((arrV (E.1.2 0) n0 (fun j => .int (f j))).stretch (nI sp).toNatClampNeg (nI cnt).toNatClampNeg) = _
    rw [nI_clamp bs, nI_clamp bd, nI_clamp bc]
    exact this
  rw [e1] at X' step
  have hlt : a < H.size := (Array.getElem?_eq_some_iff.mp hc1).1
  have hheap : ((T.setVm vm').setCell a (vp_cell (E.1.2 0) (n1, .inl (va_cpy f g sp dp cnt)))).heap = H.setIfInBounds a (vp_cell (E.1.2 0) (n1, .inl (va_cpy f g sp dp cnt))) := by rw [← hT]; rfl
  have oq : ∀ q : Nat, q ≠ a → (H.setIfInBounds a (vp_cell (E.1.2 0) (n1, .inl (va_cpy f g sp dp cnt))))[q]? = H[q]? := fun q hq => by simp [Array.getElem?_setIfInBounds, Ne.symm hq]
  obtain ⟨t, a1, b1⟩ := kk l p e s m args below meth c C _ _ ls (xHold_put hH ha (show (H.setIfInBounds a _)[a]? = some _ by simp [Array.getElem?_setIfInBounds, hlt]) oq (by simp)) ⟨by simp; exact hS.1, fun q g1 g2 => by
      rw [oq q (fun e => g2 (by rw [e]; exact hza))]
      exact hS.2.1 q g1 g2, fun q hq => by
      rcases List.mem_append.mp hq with h | h
      · exact hS.2.2 q h
      · obtain ⟨z, -, hz⟩ := List.mem_map.mp h
        rw [← hz]
        exact hza⟩ hlv _ hheap X'
  exact ⟨t, step t a1, b1⟩
end PXCP
/-! ===== blocks of cells ===== -/
def putB (h : xHp) (k L : Nat) (f : Nat → Option va_E) : xHp := fun q => if k ≤ q ∧ q < k + L then f (q - k) else h q
theorem putB_at {h : xHp} {k L j : Nat} {f : Nat → Option va_E} (hj : j < L) : putB h k L f (k + j) = f j := by
  unfold putB
  rw [if_pos ⟨by omega, by omega⟩, Nat.add_sub_cancel_left]
theorem putB_0 {h : xHp} {k L : Nat} {f : Nat → Option va_E} (hL : 0 < L) : putB h k L f k = f 0 := putB_at (j := 0) hL
theorem putB_out {h : xHp} {k L q : Nat} {f : Nat → Option va_E} (hq : q < k ∨ k + L ≤ q) : putB h k L f q = h q := by
  unfold putB
  rw [if_neg (by omega)]
theorem putB_up {h : xHp} {k L j : Nat} {f : Nat → Option va_E} {c : Option va_E} (hj : j < L) : va_up (putB h k L f) (k + j) c = putB h k L (va_up f j c) := by
  funext q
  unfold putB
  by_cases hq : q = k + j
  · subst hq
    rw [va_up_self, if_pos ⟨by omega, by omega⟩, Nat.add_sub_cancel_left, va_up_self]
  · rw [va_up_ne _ _ hq]
    by_cases hr : k ≤ q ∧ q < k + L
    · rw [if_pos hr, if_pos hr, va_up_ne _ _ (by omega)]
    · rw [if_neg hr, if_neg hr]
theorem putB_twice {h : xHp} {k L : Nat} {f g : Nat → Option va_E} : putB (putB h k L f) k L g = putB h k L g := by
  funext q
  unfold putB
  by_cases hr : k ≤ q ∧ q < k + L
  · rw [if_pos hr, if_pos hr]
  · rw [if_neg hr, if_neg hr, if_neg hr]
theorem putB_self {h : xHp} {k L : Nat} {f : Nat → Option va_E} (hf : ∀ j, j < L → h (k + j) = f j) : putB h k L f = h := by
  funext q
  unfold putB
  by_cases hr : k ≤ q ∧ q < k + L
  · rw [if_pos hr, ← hf (q - k) (by omega)]
    congr 1
    omega
  · rw [if_neg hr]
theorem putB_congr {h : xHp} {k L : Nat} {f g : Nat → Option va_E} (hf : ∀ j, j < L → f j = g j) : putB h k L f = putB h k L g := by
  funext q
  unfold putB
  by_cases hr : k ≤ q ∧ q < k + L
  · rw [if_pos hr, if_pos hr, hf _ (by omega)]
  · rw [if_neg hr, if_neg hr]
theorem putB_swap {h : xHp} {k L k2 L2 : Nat} {f g : Nat → Option va_E} (hd : k + L ≤ k2 ∨ k2 + L2 ≤ k) : putB (putB h k L f) k2 L2 g = putB (putB h k2 L2 g) k L f := by
  funext q
  unfold putB
  by_cases h1 : k ≤ q ∧ q < k + L
  · rw [if_neg (by omega), if_pos h1, if_pos h1]
  · by_cases h2 : k2 ≤ q ∧ q < k2 + L2
    · rw [if_pos h2, if_neg h1, if_pos h2]
    · rw [if_neg h2, if_neg h1, if_neg h1, if_neg h2]
/-! ===== a town ===== -/
abbrev xT : Type := (Nat → Nat → Nat) × (Nat → Nat)
def twN (j : Nat) : Nat := if j < 4 then 6 else 4
def twC (E : xE) (k : Nat) (T : xT) : Nat → Option va_E
  | 0 => some (.inr (4, [.ref (k + 1), .ref (k + 2), .ref (k + 3), .ref (k + 4), .ref (k + 5), .ref (k + 6), .int (nI (T.2 0)), .int (nI (T.2 1)), .int (nI (T.2 2)), .int (nI (T.2 3)), .int (nI (T.2 4)), .int (nI (T.2 5)), .int (nI (T.2 6))]))
  | j + 1 => some (.inl (E.1.2 0, twN j, .inl (fun i => nI (T.1 j i))))
abbrev TH (E : xE) (h : xHp) (k : Nat) (T : xT) : xHp := putB h k 7 (twC E k T)
def tSA (T : xT) (j i v : Nat) : xT := (fun j' i' => if j' = j ∧ i' = i then v else T.1 j' i', T.2)
def tSS (T : xT) (j v : Nat) : xT := (T.1, fun j' => if j' = j then v else T.2 j')
section PXT
variable {E : xE} {M : xM} {Q : Option Value → xHp → Prop} {k n pc : Nat} {lo : List (Option Value)} {r : List Value} {h : xHp} {T : xT} {b : Nat}
theorem TH_obj : TH E h b T b = twC E b T 0 := putB_0 (by decide)
theorem TH_arr {j : Nat} (hj : j < 6) : TH E h b T (b + (j + 1)) = some (.inl (E.1.2 0, twN j, .inl (fun i => nI (T.1 j i)))) := putB_at (j := j + 1) (by omega)
theorem px_tS {idx : Nat} (j : Nat) (hd : decode (xC M) pc = .ok (.getfield idx, 3)) (hl : xFL (xY M).cls idx (TX4 (6 + j)).1 (TX4 (6 + j)).2.1 (TX4 (6 + j)).2.2.1) (hj : j < 7) (kk : PW E M Q k n (pc + 3) lo (.int (nI (T.2 j)) :: r) (TH E h b T)) : PW E M Q k n pc lo (.ref b :: r) (TH E h b T) := by
  refine px_get xk_X4 (6 + j) hd hl TH_obj (by omega) ?_ kk
  match j, hj with
  | 0, _ => rfl
  | 1, _ => rfl
  | 2, _ => rfl
  | 3, _ => rfl
  | 4, _ => rfl
  | 5, _ => rfl
  | 6, _ => rfl
theorem px_tR {idx : Nat} (j : Nat) (hd : decode (xC M) pc = .ok (.getfield idx, 3)) (hl : xFL (xY M).cls idx (TX4 j).1 (TX4 j).2.1 (TX4 j).2.2.1) (hj : j < 6) (kk : PW E M Q k n (pc + 3) lo (.ref (b + (j + 1)) :: r) (TH E h b T)) : PW E M Q k n pc lo (.ref b :: r) (TH E h b T) := by
  refine px_get xk_X4 j hd hl TH_obj (by omega) ?_ kk
  match j, hj with
  | 0, _ => rfl
  | 1, _ => rfl
  | 2, _ => rfl
  | 3, _ => rfl
  | 4, _ => rfl
  | 5, _ => rfl
theorem px_tL {i : Nat} (j : Nat) (hd : decode (xC M) pc = .ok (.iaload, 1)) (hj : j < 6) (hi : i < twN j) (kk : PW E M Q k n (pc + 1) lo (.int (nI (T.1 j i)) :: r) (TH E h b T)) : PW E M Q k n pc lo (.int (nI i) :: .ref (b + (j + 1)) :: r) (TH E h b T) := by
  have hN : twN j < 2 ^ 31 := by unfold twN; split <;> decide
  refine px_iald hd (TH_arr hj) (vp_in_nI hi hN) ?_
  rw [nI_clamp (by omega)]
  exact kk
theorem tw_upA {i v : Nat} {j : Nat} (hj : j < 6) : va_up (TH E h b T) (b + (j + 1)) (some (.inl (E.1.2 0, twN j, .inl (upd (fun i => nI (T.1 j i)) i (nI v))))) = TH E h b (tSA T j i v) := by
  unfold TH
  rw [putB_up (by omega)]
  refine putB_congr (fun q hq => ?_)
  match q with
  | 0 => rw [va_up_ne _ _ (by omega)]; rfl
  | q + 1 =>
    by_cases hqj : q = j
    · subst hqj
      rw [va_up_self]
      show _ = some (Sum.inl (E.1.2 0, twN q, Sum.inl (fun i' => nI ((tSA T q i v).1 q i'))))
      congr 5
      funext i'
      by_cases hi : i' = i
      · subst hi; simp [upd, tSA]
      · simp [upd, tSA, hi]
    · rw [va_up_ne _ _ (by omega)]
      show some (Sum.inl (E.1.2 0, twN q, Sum.inl (fun i' => nI (T.1 q i')))) = some (Sum.inl (E.1.2 0, twN q, Sum.inl (fun i' => nI ((tSA T j i v).1 q i'))))
      congr 5
      funext i'
      simp [tSA, hqj]
theorem px_tW {i v : Nat} (j : Nat) (hd : decode (xC M) pc = .ok (.iastore, 1)) (hj : j < 6) (hi : i < twN j) (kk : PW E M Q k n (pc + 1) lo r (TH E h b (tSA T j i v))) : PW E M Q k n pc lo (.int (nI v) :: .int (nI i) :: .ref (b + (j + 1)) :: r) (TH E h b T) := by
  have hN : twN j < 2 ^ 31 := by unfold twN; split <;> decide
  refine px_iast hd (TH_arr hj) (vp_in_nI hi hN) ?_
  rw [nI_clamp (by omega), tw_upA hj]
  exact kk
theorem tw_upS {j v : Nat} {fs : List Value} (hfs : twC E b T 0 = some (.inr (4, fs))) (hj : j < 7) : va_up (TH E h b T) b (some (.inr (4, fs.set (6 + j) (.int (nI v))))) = TH E h b (tSS T j v) := by
  have e0 : va_up (TH E h b T) b (some (.inr (4, fs.set (6 + j) (.int (nI v))))) = va_up (TH E h b T) (b + 0) (some (.inr (4, fs.set (6 + j) (.int (nI v))))) := rfl
  rw [e0]
  unfold TH
  rw [putB_up (by omega)]
  refine putB_congr (fun q hq => ?_)
  cases hfs
  match q with
  | 0 =>
    rw [va_up_self]
    match j, hj with
    | 0, _ => rfl
    | 1, _ => rfl
    | 2, _ => rfl
    | 3, _ => rfl
    | 4, _ => rfl
    | 5, _ => rfl
    | 6, _ => rfl
  | q + 1 =>
    rw [va_up_ne _ _ (by omega)]
    rfl
theorem px_tP {idx v : Nat} (j : Nat) (hd : decode (xC M) pc = .ok (.putfield idx, 3)) (hl : xFL (xY M).cls idx (TX4 (6 + j)).1 (TX4 (6 + j)).2.1 (TX4 (6 + j)).2.2.1) (hj : j < 7) (kk : PW E M Q k n (pc + 3) lo r (TH E h b (tSS T j v))) : PW E M Q k n pc lo (.int (nI v) :: .ref b :: r) (TH E h b T) := by
  have hq : ∀ i, i < 7 → (TX4 (6 + i)).2.2.2 = false ∧ tyX4 (6 + i) = .int := by decide
  obtain ⟨q1, q2⟩ := hq j hj
  refine px_put xk_X4 (6 + j) hd hl TH_obj (by omega) (by show 6 + j < 13; omega) q1 (by rw [q2]; rfl) (by rw [q2]; rfl) ?_
  rw [tw_upS rfl hj]
  exact kk
end PXT
end
section
section PXS
variable {E : xE} {M : xM} {Q : Option Value → xHp → Prop} {k n pc : Nat} {r : List Value} {h : xHp}
theorem px_ist_0 {a0 : Option Value} {tl : List (Option Value)} {x : Int32} (hd : decode (xC M) pc = .ok (.istore 0, 2)) (hn : 0 < xL M) (hok : xSt (a0 :: tl) 0 = true) (kk : PW E M Q k n (pc + 2) (some (.int x) :: tl) r h) : PW E M Q k n pc (a0 :: tl) (.int x :: r) h := px_istore hd hn hok kk
theorem px_istn_0 {a0 : Option Value} {tl : List (Option Value)} {x : Int32} (hd : decode (xC M) pc = .ok (.istore_n 0, 1)) (hn : 0 < xL M) (hok : xSt (a0 :: tl) 0 = true) (kk : PW E M Q k n (pc + 1) (some (.int x) :: tl) r h) : PW E M Q k n pc (a0 :: tl) (.int x :: r) h := px_istore_n hd hn hok kk
theorem px_ast_0 {a0 : Option Value} {tl : List (Option Value)} {x : Nat} (hd : decode (xC M) pc = .ok (.astore 0, 2)) (hn : 0 < xL M) (hok : xSt (a0 :: tl) 0 = true) (kk : PW E M Q k n (pc + 2) (some (.ref x) :: tl) r h) : PW E M Q k n pc (a0 :: tl) (.ref x :: r) h := px_astore hd hn hok kk
theorem px_astn_0 {a0 : Option Value} {tl : List (Option Value)} {x : Nat} (hd : decode (xC M) pc = .ok (.astore_n 0, 1)) (hn : 0 < xL M) (hok : xSt (a0 :: tl) 0 = true) (kk : PW E M Q k n (pc + 1) (some (.ref x) :: tl) r h) : PW E M Q k n pc (a0 :: tl) (.ref x :: r) h := px_astore_n hd hn hok kk
theorem px_inc_0 {a0 : Option Value} {tl : List (Option Value)} {x v : Int32} {q : Int} (hd : decode (xC M) pc = .ok (.iinc 0 q, 3)) (ha : a0 = some (.int x)) (hv : x + Int32.ofInt q = v) (hn : 0 < xL M) (hok : xSt (a0 :: tl) 0 = true) (kk : PW E M Q k n (pc + 3) (some (.int v) :: tl) r h) : PW E M Q k n pc (a0 :: tl) r h := px_iinc hd (by subst ha; rfl) hv hn hok kk
theorem px_ist_1 {a0 a1 : Option Value} {tl : List (Option Value)} {x : Int32} (hd : decode (xC M) pc = .ok (.istore 1, 2)) (hn : 1 < xL M) (hok : xSt (a0 :: a1 :: tl) 1 = true) (kk : PW E M Q k n (pc + 2) (a0 :: some (.int x) :: tl) r h) : PW E M Q k n pc (a0 :: a1 :: tl) (.int x :: r) h := px_istore hd hn hok kk
theorem px_istn_1 {a0 a1 : Option Value} {tl : List (Option Value)} {x : Int32} (hd : decode (xC M) pc = .ok (.istore_n 1, 1)) (hn : 1 < xL M) (hok : xSt (a0 :: a1 :: tl) 1 = true) (kk : PW E M Q k n (pc + 1) (a0 :: some (.int x) :: tl) r h) : PW E M Q k n pc (a0 :: a1 :: tl) (.int x :: r) h := px_istore_n hd hn hok kk
theorem px_ast_1 {a0 a1 : Option Value} {tl : List (Option Value)} {x : Nat} (hd : decode (xC M) pc = .ok (.astore 1, 2)) (hn : 1 < xL M) (hok : xSt (a0 :: a1 :: tl) 1 = true) (kk : PW E M Q k n (pc + 2) (a0 :: some (.ref x) :: tl) r h) : PW E M Q k n pc (a0 :: a1 :: tl) (.ref x :: r) h := px_astore hd hn hok kk
theorem px_astn_1 {a0 a1 : Option Value} {tl : List (Option Value)} {x : Nat} (hd : decode (xC M) pc = .ok (.astore_n 1, 1)) (hn : 1 < xL M) (hok : xSt (a0 :: a1 :: tl) 1 = true) (kk : PW E M Q k n (pc + 1) (a0 :: some (.ref x) :: tl) r h) : PW E M Q k n pc (a0 :: a1 :: tl) (.ref x :: r) h := px_astore_n hd hn hok kk
theorem px_inc_1 {a0 a1 : Option Value} {tl : List (Option Value)} {x v : Int32} {q : Int} (hd : decode (xC M) pc = .ok (.iinc 1 q, 3)) (ha : a1 = some (.int x)) (hv : x + Int32.ofInt q = v) (hn : 1 < xL M) (hok : xSt (a0 :: a1 :: tl) 1 = true) (kk : PW E M Q k n (pc + 3) (a0 :: some (.int v) :: tl) r h) : PW E M Q k n pc (a0 :: a1 :: tl) r h := px_iinc hd (by subst ha; rfl) hv hn hok kk
theorem px_ist_2 {a0 a1 a2 : Option Value} {tl : List (Option Value)} {x : Int32} (hd : decode (xC M) pc = .ok (.istore 2, 2)) (hn : 2 < xL M) (hok : xSt (a0 :: a1 :: a2 :: tl) 2 = true) (kk : PW E M Q k n (pc + 2) (a0 :: a1 :: some (.int x) :: tl) r h) : PW E M Q k n pc (a0 :: a1 :: a2 :: tl) (.int x :: r) h := px_istore hd hn hok kk
theorem px_istn_2 {a0 a1 a2 : Option Value} {tl : List (Option Value)} {x : Int32} (hd : decode (xC M) pc = .ok (.istore_n 2, 1)) (hn : 2 < xL M) (hok : xSt (a0 :: a1 :: a2 :: tl) 2 = true) (kk : PW E M Q k n (pc + 1) (a0 :: a1 :: some (.int x) :: tl) r h) : PW E M Q k n pc (a0 :: a1 :: a2 :: tl) (.int x :: r) h := px_istore_n hd hn hok kk
theorem px_ast_2 {a0 a1 a2 : Option Value} {tl : List (Option Value)} {x : Nat} (hd : decode (xC M) pc = .ok (.astore 2, 2)) (hn : 2 < xL M) (hok : xSt (a0 :: a1 :: a2 :: tl) 2 = true) (kk : PW E M Q k n (pc + 2) (a0 :: a1 :: some (.ref x) :: tl) r h) : PW E M Q k n pc (a0 :: a1 :: a2 :: tl) (.ref x :: r) h := px_astore hd hn hok kk
theorem px_astn_2 {a0 a1 a2 : Option Value} {tl : List (Option Value)} {x : Nat} (hd : decode (xC M) pc = .ok (.astore_n 2, 1)) (hn : 2 < xL M) (hok : xSt (a0 :: a1 :: a2 :: tl) 2 = true) (kk : PW E M Q k n (pc + 1) (a0 :: a1 :: some (.ref x) :: tl) r h) : PW E M Q k n pc (a0 :: a1 :: a2 :: tl) (.ref x :: r) h := px_astore_n hd hn hok kk
theorem px_inc_2 {a0 a1 a2 : Option Value} {tl : List (Option Value)} {x v : Int32} {q : Int} (hd : decode (xC M) pc = .ok (.iinc 2 q, 3)) (ha : a2 = some (.int x)) (hv : x + Int32.ofInt q = v) (hn : 2 < xL M) (hok : xSt (a0 :: a1 :: a2 :: tl) 2 = true) (kk : PW E M Q k n (pc + 3) (a0 :: a1 :: some (.int v) :: tl) r h) : PW E M Q k n pc (a0 :: a1 :: a2 :: tl) r h := px_iinc hd (by subst ha; rfl) hv hn hok kk
theorem px_ist_3 {a0 a1 a2 a3 : Option Value} {tl : List (Option Value)} {x : Int32} (hd : decode (xC M) pc = .ok (.istore 3, 2)) (hn : 3 < xL M) (hok : xSt (a0 :: a1 :: a2 :: a3 :: tl) 3 = true) (kk : PW E M Q k n (pc + 2) (a0 :: a1 :: a2 :: some (.int x) :: tl) r h) : PW E M Q k n pc (a0 :: a1 :: a2 :: a3 :: tl) (.int x :: r) h := px_istore hd hn hok kk
theorem px_istn_3 {a0 a1 a2 a3 : Option Value} {tl : List (Option Value)} {x : Int32} (hd : decode (xC M) pc = .ok (.istore_n 3, 1)) (hn : 3 < xL M) (hok : xSt (a0 :: a1 :: a2 :: a3 :: tl) 3 = true) (kk : PW E M Q k n (pc + 1) (a0 :: a1 :: a2 :: some (.int x) :: tl) r h) : PW E M Q k n pc (a0 :: a1 :: a2 :: a3 :: tl) (.int x :: r) h := px_istore_n hd hn hok kk
theorem px_ast_3 {a0 a1 a2 a3 : Option Value} {tl : List (Option Value)} {x : Nat} (hd : decode (xC M) pc = .ok (.astore 3, 2)) (hn : 3 < xL M) (hok : xSt (a0 :: a1 :: a2 :: a3 :: tl) 3 = true) (kk : PW E M Q k n (pc + 2) (a0 :: a1 :: a2 :: some (.ref x) :: tl) r h) : PW E M Q k n pc (a0 :: a1 :: a2 :: a3 :: tl) (.ref x :: r) h := px_astore hd hn hok kk
theorem px_astn_3 {a0 a1 a2 a3 : Option Value} {tl : List (Option Value)} {x : Nat} (hd : decode (xC M) pc = .ok (.astore_n 3, 1)) (hn : 3 < xL M) (hok : xSt (a0 :: a1 :: a2 :: a3 :: tl) 3 = true) (kk : PW E M Q k n (pc + 1) (a0 :: a1 :: a2 :: some (.ref x) :: tl) r h) : PW E M Q k n pc (a0 :: a1 :: a2 :: a3 :: tl) (.ref x :: r) h := px_astore_n hd hn hok kk
theorem px_inc_3 {a0 a1 a2 a3 : Option Value} {tl : List (Option Value)} {x v : Int32} {q : Int} (hd : decode (xC M) pc = .ok (.iinc 3 q, 3)) (ha : a3 = some (.int x)) (hv : x + Int32.ofInt q = v) (hn : 3 < xL M) (hok : xSt (a0 :: a1 :: a2 :: a3 :: tl) 3 = true) (kk : PW E M Q k n (pc + 3) (a0 :: a1 :: a2 :: some (.int v) :: tl) r h) : PW E M Q k n pc (a0 :: a1 :: a2 :: a3 :: tl) r h := px_iinc hd (by subst ha; rfl) hv hn hok kk
theorem px_ist_4 {a0 a1 a2 a3 a4 : Option Value} {tl : List (Option Value)} {x : Int32} (hd : decode (xC M) pc = .ok (.istore 4, 2)) (hn : 4 < xL M) (hok : xSt (a0 :: a1 :: a2 :: a3 :: a4 :: tl) 4 = true) (kk : PW E M Q k n (pc + 2) (a0 :: a1 :: a2 :: a3 :: some (.int x) :: tl) r h) : PW E M Q k n pc (a0 :: a1 :: a2 :: a3 :: a4 :: tl) (.int x :: r) h := px_istore hd hn hok kk
theorem px_ast_4 {a0 a1 a2 a3 a4 : Option Value} {tl : List (Option Value)} {x : Nat} (hd : decode (xC M) pc = .ok (.astore 4, 2)) (hn : 4 < xL M) (hok : xSt (a0 :: a1 :: a2 :: a3 :: a4 :: tl) 4 = true) (kk : PW E M Q k n (pc + 2) (a0 :: a1 :: a2 :: a3 :: some (.ref x) :: tl) r h) : PW E M Q k n pc (a0 :: a1 :: a2 :: a3 :: a4 :: tl) (.ref x :: r) h := px_astore hd hn hok kk
theorem px_inc_4 {a0 a1 a2 a3 a4 : Option Value} {tl : List (Option Value)} {x v : Int32} {q : Int} (hd : decode (xC M) pc = .ok (.iinc 4 q, 3)) (ha : a4 = some (.int x)) (hv : x + Int32.ofInt q = v) (hn : 4 < xL M) (hok : xSt (a0 :: a1 :: a2 :: a3 :: a4 :: tl) 4 = true) (kk : PW E M Q k n (pc + 3) (a0 :: a1 :: a2 :: a3 :: some (.int v) :: tl) r h) : PW E M Q k n pc (a0 :: a1 :: a2 :: a3 :: a4 :: tl) r h := px_iinc hd (by subst ha; rfl) hv hn hok kk
theorem px_ist_5 {a0 a1 a2 a3 a4 a5 : Option Value} {tl : List (Option Value)} {x : Int32} (hd : decode (xC M) pc = .ok (.istore 5, 2)) (hn : 5 < xL M) (hok : xSt (a0 :: a1 :: a2 :: a3 :: a4 :: a5 :: tl) 5 = true) (kk : PW E M Q k n (pc + 2) (a0 :: a1 :: a2 :: a3 :: a4 :: some (.int x) :: tl) r h) : PW E M Q k n pc (a0 :: a1 :: a2 :: a3 :: a4 :: a5 :: tl) (.int x :: r) h := px_istore hd hn hok kk
theorem px_ast_5 {a0 a1 a2 a3 a4 a5 : Option Value} {tl : List (Option Value)} {x : Nat} (hd : decode (xC M) pc = .ok (.astore 5, 2)) (hn : 5 < xL M) (hok : xSt (a0 :: a1 :: a2 :: a3 :: a4 :: a5 :: tl) 5 = true) (kk : PW E M Q k n (pc + 2) (a0 :: a1 :: a2 :: a3 :: a4 :: some (.ref x) :: tl) r h) : PW E M Q k n pc (a0 :: a1 :: a2 :: a3 :: a4 :: a5 :: tl) (.ref x :: r) h := px_astore hd hn hok kk
theorem px_inc_5 {a0 a1 a2 a3 a4 a5 : Option Value} {tl : List (Option Value)} {x v : Int32} {q : Int} (hd : decode (xC M) pc = .ok (.iinc 5 q, 3)) (ha : a5 = some (.int x)) (hv : x + Int32.ofInt q = v) (hn : 5 < xL M) (hok : xSt (a0 :: a1 :: a2 :: a3 :: a4 :: a5 :: tl) 5 = true) (kk : PW E M Q k n (pc + 3) (a0 :: a1 :: a2 :: a3 :: a4 :: some (.int v) :: tl) r h) : PW E M Q k n pc (a0 :: a1 :: a2 :: a3 :: a4 :: a5 :: tl) r h := px_iinc hd (by subst ha; rfl) hv hn hok kk
theorem px_ist_6 {a0 a1 a2 a3 a4 a5 a6 : Option Value} {tl : List (Option Value)} {x : Int32} (hd : decode (xC M) pc = .ok (.istore 6, 2)) (hn : 6 < xL M) (hok : xSt (a0 :: a1 :: a2 :: a3 :: a4 :: a5 :: a6 :: tl) 6 = true) (kk : PW E M Q k n (pc + 2) (a0 :: a1 :: a2 :: a3 :: a4 :: a5 :: some (.int x) :: tl) r h) : PW E M Q k n pc (a0 :: a1 :: a2 :: a3 :: a4 :: a5 :: a6 :: tl) (.int x :: r) h := px_istore hd hn hok kk
theorem px_ast_6 {a0 a1 a2 a3 a4 a5 a6 : Option Value} {tl : List (Option Value)} {x : Nat} (hd : decode (xC M) pc = .ok (.astore 6, 2)) (hn : 6 < xL M) (hok : xSt (a0 :: a1 :: a2 :: a3 :: a4 :: a5 :: a6 :: tl) 6 = true) (kk : PW E M Q k n (pc + 2) (a0 :: a1 :: a2 :: a3 :: a4 :: a5 :: some (.ref x) :: tl) r h) : PW E M Q k n pc (a0 :: a1 :: a2 :: a3 :: a4 :: a5 :: a6 :: tl) (.ref x :: r) h := px_astore hd hn hok kk
theorem px_inc_6 {a0 a1 a2 a3 a4 a5 a6 : Option Value} {tl : List (Option Value)} {x v : Int32} {q : Int} (hd : decode (xC M) pc = .ok (.iinc 6 q, 3)) (ha : a6 = some (.int x)) (hv : x + Int32.ofInt q = v) (hn : 6 < xL M) (hok : xSt (a0 :: a1 :: a2 :: a3 :: a4 :: a5 :: a6 :: tl) 6 = true) (kk : PW E M Q k n (pc + 3) (a0 :: a1 :: a2 :: a3 :: a4 :: a5 :: some (.int v) :: tl) r h) : PW E M Q k n pc (a0 :: a1 :: a2 :: a3 :: a4 :: a5 :: a6 :: tl) r h := px_iinc hd (by subst ha; rfl) hv hn hok kk
theorem px_ist_7 {a0 a1 a2 a3 a4 a5 a6 a7 : Option Value} {tl : List (Option Value)} {x : Int32} (hd : decode (xC M) pc = .ok (.istore 7, 2)) (hn : 7 < xL M) (hok : xSt (a0 :: a1 :: a2 :: a3 :: a4 :: a5 :: a6 :: a7 :: tl) 7 = true) (kk : PW E M Q k n (pc + 2) (a0 :: a1 :: a2 :: a3 :: a4 :: a5 :: a6 :: some (.int x) :: tl) r h) : PW E M Q k n pc (a0 :: a1 :: a2 :: a3 :: a4 :: a5 :: a6 :: a7 :: tl) (.int x :: r) h := px_istore hd hn hok kk
theorem px_ast_7 {a0 a1 a2 a3 a4 a5 a6 a7 : Option Value} {tl : List (Option Value)} {x : Nat} (hd : decode (xC M) pc = .ok (.astore 7, 2)) (hn : 7 < xL M) (hok : xSt (a0 :: a1 :: a2 :: a3 :: a4 :: a5 :: a6 :: a7 :: tl) 7 = true) (kk : PW E M Q k n (pc + 2) (a0 :: a1 :: a2 :: a3 :: a4 :: a5 :: a6 :: some (.ref x) :: tl) r h) : PW E M Q k n pc (a0 :: a1 :: a2 :: a3 :: a4 :: a5 :: a6 :: a7 :: tl) (.ref x :: r) h := px_astore hd hn hok kk
theorem px_inc_7 {a0 a1 a2 a3 a4 a5 a6 a7 : Option Value} {tl : List (Option Value)} {x v : Int32} {q : Int} (hd : decode (xC M) pc = .ok (.iinc 7 q, 3)) (ha : a7 = some (.int x)) (hv : x + Int32.ofInt q = v) (hn : 7 < xL M) (hok : xSt (a0 :: a1 :: a2 :: a3 :: a4 :: a5 :: a6 :: a7 :: tl) 7 = true) (kk : PW E M Q k n (pc + 3) (a0 :: a1 :: a2 :: a3 :: a4 :: a5 :: a6 :: some (.int v) :: tl) r h) : PW E M Q k n pc (a0 :: a1 :: a2 :: a3 :: a4 :: a5 :: a6 :: a7 :: tl) r h := px_iinc hd (by subst ha; rfl) hv hn hok kk
theorem px_ist_8 {a0 a1 a2 a3 a4 a5 a6 a7 a8 : Option Value} {tl : List (Option Value)} {x : Int32} (hd : decode (xC M) pc = .ok (.istore 8, 2)) (hn : 8 < xL M) (hok : xSt (a0 :: a1 :: a2 :: a3 :: a4 :: a5 :: a6 :: a7 :: a8 :: tl) 8 = true) (kk : PW E M Q k n (pc + 2) (a0 :: a1 :: a2 :: a3 :: a4 :: a5 :: a6 :: a7 :: some (.int x) :: tl) r h) : PW E M Q k n pc (a0 :: a1 :: a2 :: a3 :: a4 :: a5 :: a6 :: a7 :: a8 :: tl) (.int x :: r) h := px_istore hd hn hok kk
theorem px_ast_8 {a0 a1 a2 a3 a4 a5 a6 a7 a8 : Option Value} {tl : List (Option Value)} {x : Nat} (hd : decode (xC M) pc = .ok (.astore 8, 2)) (hn : 8 < xL M) (hok : xSt (a0 :: a1 :: a2 :: a3 :: a4 :: a5 :: a6 :: a7 :: a8 :: tl) 8 = true) (kk : PW E M Q k n (pc + 2) (a0 :: a1 :: a2 :: a3 :: a4 :: a5 :: a6 :: a7 :: some (.ref x) :: tl) r h) : PW E M Q k n pc (a0 :: a1 :: a2 :: a3 :: a4 :: a5 :: a6 :: a7 :: a8 :: tl) (.ref x :: r) h := px_astore hd hn hok kk
theorem px_inc_8 {a0 a1 a2 a3 a4 a5 a6 a7 a8 : Option Value} {tl : List (Option Value)} {x v : Int32} {q : Int} (hd : decode (xC M) pc = .ok (.iinc 8 q, 3)) (ha : a8 = some (.int x)) (hv : x + Int32.ofInt q = v) (hn : 8 < xL M) (hok : xSt (a0 :: a1 :: a2 :: a3 :: a4 :: a5 :: a6 :: a7 :: a8 :: tl) 8 = true) (kk : PW E M Q k n (pc + 3) (a0 :: a1 :: a2 :: a3 :: a4 :: a5 :: a6 :: a7 :: some (.int v) :: tl) r h) : PW E M Q k n pc (a0 :: a1 :: a2 :: a3 :: a4 :: a5 :: a6 :: a7 :: a8 :: tl) r h := px_iinc hd (by subst ha; rfl) hv hn hok kk
theorem px_ist_9 {a0 a1 a2 a3 a4 a5 a6 a7 a8 a9 : Option Value} {tl : List (Option Value)} {x : Int32} (hd : decode (xC M) pc = .ok (.istore 9, 2)) (hn : 9 < xL M) (hok : xSt (a0 :: a1 :: a2 :: a3 :: a4 :: a5 :: a6 :: a7 :: a8 :: a9 :: tl) 9 = true) (kk : PW E M Q k n (pc + 2) (a0 :: a1 :: a2 :: a3 :: a4 :: a5 :: a6 :: a7 :: a8 :: some (.int x) :: tl) r h) : PW E M Q k n pc (a0 :: a1 :: a2 :: a3 :: a4 :: a5 :: a6 :: a7 :: a8 :: a9 :: tl) (.int x :: r) h := px_istore hd hn hok kk
theorem px_ast_9 {a0 a1 a2 a3 a4 a5 a6 a7 a8 a9 : Option Value} {tl : List (Option Value)} {x : Nat} (hd : decode (xC M) pc = .ok (.astore 9, 2)) (hn : 9 < xL M) (hok : xSt (a0 :: a1 :: a2 :: a3 :: a4 :: a5 :: a6 :: a7 :: a8 :: a9 :: tl) 9 = true) (kk : PW E M Q k n (pc + 2) (a0 :: a1 :: a2 :: a3 :: a4 :: a5 :: a6 :: a7 :: a8 :: some (.ref x) :: tl) r h) : PW E M Q k n pc (a0 :: a1 :: a2 :: a3 :: a4 :: a5 :: a6 :: a7 :: a8 :: a9 :: tl) (.ref x :: r) h := px_astore hd hn hok kk
theorem px_inc_9 {a0 a1 a2 a3 a4 a5 a6 a7 a8 a9 : Option Value} {tl : List (Option Value)} {x v : Int32} {q : Int} (hd : decode (xC M) pc = .ok (.iinc 9 q, 3)) (ha : a9 = some (.int x)) (hv : x + Int32.ofInt q = v) (hn : 9 < xL M) (hok : xSt (a0 :: a1 :: a2 :: a3 :: a4 :: a5 :: a6 :: a7 :: a8 :: a9 :: tl) 9 = true) (kk : PW E M Q k n (pc + 3) (a0 :: a1 :: a2 :: a3 :: a4 :: a5 :: a6 :: a7 :: a8 :: some (.int v) :: tl) r h) : PW E M Q k n pc (a0 :: a1 :: a2 :: a3 :: a4 :: a5 :: a6 :: a7 :: a8 :: a9 :: tl) r h := px_iinc hd (by subst ha; rfl) hv hn hok kk
theorem px_ist_10 {a0 a1 a2 a3 a4 a5 a6 a7 a8 a9 a10 : Option Value} {tl : List (Option Value)} {x : Int32} (hd : decode (xC M) pc = .ok (.istore 10, 2)) (hn : 10 < xL M) (hok : xSt (a0 :: a1 :: a2 :: a3 :: a4 :: a5 :: a6 :: a7 :: a8 :: a9 :: a10 :: tl) 10 = true) (kk : PW E M Q k n (pc + 2) (a0 :: a1 :: a2 :: a3 :: a4 :: a5 :: a6 :: a7 :: a8 :: a9 :: some (.int x) :: tl) r h) : PW E M Q k n pc (a0 :: a1 :: a2 :: a3 :: a4 :: a5 :: a6 :: a7 :: a8 :: a9 :: a10 :: tl) (.int x :: r) h := px_istore hd hn hok kk
theorem px_ast_10 {a0 a1 a2 a3 a4 a5 a6 a7 a8 a9 a10 : Option Value} {tl : List (Option Value)} {x : Nat} (hd : decode (xC M) pc = .ok (.astore 10, 2)) (hn : 10 < xL M) (hok : xSt (a0 :: a1 :: a2 :: a3 :: a4 :: a5 :: a6 :: a7 :: a8 :: a9 :: a10 :: tl) 10 = true) (kk : PW E M Q k n (pc + 2) (a0 :: a1 :: a2 :: a3 :: a4 :: a5 :: a6 :: a7 :: a8 :: a9 :: some (.ref x) :: tl) r h) : PW E M Q k n pc (a0 :: a1 :: a2 :: a3 :: a4 :: a5 :: a6 :: a7 :: a8 :: a9 :: a10 :: tl) (.ref x :: r) h := px_astore hd hn hok kk
theorem px_inc_10 {a0 a1 a2 a3 a4 a5 a6 a7 a8 a9 a10 : Option Value} {tl : List (Option Value)} {x v : Int32} {q : Int} (hd : decode (xC M) pc = .ok (.iinc 10 q, 3)) (ha : a10 = some (.int x)) (hv : x + Int32.ofInt q = v) (hn : 10 < xL M) (hok : xSt (a0 :: a1 :: a2 :: a3 :: a4 :: a5 :: a6 :: a7 :: a8 :: a9 :: a10 :: tl) 10 = true) (kk : PW E M Q k n (pc + 3) (a0 :: a1 :: a2 :: a3 :: a4 :: a5 :: a6 :: a7 :: a8 :: a9 :: some (.int v) :: tl) r h) : PW E M Q k n pc (a0 :: a1 :: a2 :: a3 :: a4 :: a5 :: a6 :: a7 :: a8 :: a9 :: a10 :: tl) r h := px_iinc hd (by subst ha; rfl) hv hn hok kk
theorem px_ist_11 {a0 a1 a2 a3 a4 a5 a6 a7 a8 a9 a10 a11 : Option Value} {tl : List (Option Value)} {x : Int32} (hd : decode (xC M) pc = .ok (.istore 11, 2)) (hn : 11 < xL M) (hok : xSt (a0 :: a1 :: a2 :: a3 :: a4 :: a5 :: a6 :: a7 :: a8 :: a9 :: a10 :: a11 :: tl) 11 = true) (kk : PW E M Q k n (pc + 2) (a0 :: a1 :: a2 :: a3 :: a4 :: a5 :: a6 :: a7 :: a8 :: a9 :: a10 :: some (.int x) :: tl) r h) : PW E M Q k n pc (a0 :: a1 :: a2 :: a3 :: a4 :: a5 :: a6 :: a7 :: a8 :: a9 :: a10 :: a11 :: tl) (.int x :: r) h := px_istore hd hn hok kk
theorem px_ast_11 {a0 a1 a2 a3 a4 a5 a6 a7 a8 a9 a10 a11 : Option Value} {tl : List (Option Value)} {x : Nat} (hd : decode (xC M) pc = .ok (.astore 11, 2)) (hn : 11 < xL M) (hok : xSt (a0 :: a1 :: a2 :: a3 :: a4 :: a5 :: a6 :: a7 :: a8 :: a9 :: a10 :: a11 :: tl) 11 = true) (kk : PW E M Q k n (pc + 2) (a0 :: a1 :: a2 :: a3 :: a4 :: a5 :: a6 :: a7 :: a8 :: a9 :: a10 :: some (.ref x) :: tl) r h) : PW E M Q k n pc (a0 :: a1 :: a2 :: a3 :: a4 :: a5 :: a6 :: a7 :: a8 :: a9 :: a10 :: a11 :: tl) (.ref x :: r) h := px_astore hd hn hok kk
theorem px_inc_11 {a0 a1 a2 a3 a4 a5 a6 a7 a8 a9 a10 a11 : Option Value} {tl : List (Option Value)} {x v : Int32} {q : Int} (hd : decode (xC M) pc = .ok (.iinc 11 q, 3)) (ha : a11 = some (.int x)) (hv : x + Int32.ofInt q = v) (hn : 11 < xL M) (hok : xSt (a0 :: a1 :: a2 :: a3 :: a4 :: a5 :: a6 :: a7 :: a8 :: a9 :: a10 :: a11 :: tl) 11 = true) (kk : PW E M Q k n (pc + 3) (a0 :: a1 :: a2 :: a3 :: a4 :: a5 :: a6 :: a7 :: a8 :: a9 :: a10 :: some (.int v) :: tl) r h) : PW E M Q k n pc (a0 :: a1 :: a2 :: a3 :: a4 :: a5 :: a6 :: a7 :: a8 :: a9 :: a10 :: a11 :: tl) r h := px_iinc hd (by subst ha; rfl) hv hn hok kk
theorem px_ist_12 {a0 a1 a2 a3 a4 a5 a6 a7 a8 a9 a10 a11 a12 : Option Value} {tl : List (Option Value)} {x : Int32} (hd : decode (xC M) pc = .ok (.istore 12, 2)) (hn : 12 < xL M) (hok : xSt (a0 :: a1 :: a2 :: a3 :: a4 :: a5 :: a6 :: a7 :: a8 :: a9 :: a10 :: a11 :: a12 :: tl) 12 = true) (kk : PW E M Q k n (pc + 2) (a0 :: a1 :: a2 :: a3 :: a4 :: a5 :: a6 :: a7 :: a8 :: a9 :: a10 :: a11 :: some (.int x) :: tl) r h) : PW E M Q k n pc (a0 :: a1 :: a2 :: a3 :: a4 :: a5 :: a6 :: a7 :: a8 :: a9 :: a10 :: a11 :: a12 :: tl) (.int x :: r) h := px_istore hd hn hok kk
theorem px_ast_12 {a0 a1 a2 a3 a4 a5 a6 a7 a8 a9 a10 a11 a12 : Option Value} {tl : List (Option Value)} {x : Nat} (hd : decode (xC M) pc = .ok (.astore 12, 2)) (hn : 12 < xL M) (hok : xSt (a0 :: a1 :: a2 :: a3 :: a4 :: a5 :: a6 :: a7 :: a8 :: a9 :: a10 :: a11 :: a12 :: tl) 12 = true) (kk : PW E M Q k n (pc + 2) (a0 :: a1 :: a2 :: a3 :: a4 :: a5 :: a6 :: a7 :: a8 :: a9 :: a10 :: a11 :: some (.ref x) :: tl) r h) : PW E M Q k n pc (a0 :: a1 :: a2 :: a3 :: a4 :: a5 :: a6 :: a7 :: a8 :: a9 :: a10 :: a11 :: a12 :: tl) (.ref x :: r) h := px_astore hd hn hok kk
theorem px_inc_12 {a0 a1 a2 a3 a4 a5 a6 a7 a8 a9 a10 a11 a12 : Option Value} {tl : List (Option Value)} {x v : Int32} {q : Int} (hd : decode (xC M) pc = .ok (.iinc 12 q, 3)) (ha : a12 = some (.int x)) (hv : x + Int32.ofInt q = v) (hn : 12 < xL M) (hok : xSt (a0 :: a1 :: a2 :: a3 :: a4 :: a5 :: a6 :: a7 :: a8 :: a9 :: a10 :: a11 :: a12 :: tl) 12 = true) (kk : PW E M Q k n (pc + 3) (a0 :: a1 :: a2 :: a3 :: a4 :: a5 :: a6 :: a7 :: a8 :: a9 :: a10 :: a11 :: some (.int v) :: tl) r h) : PW E M Q k n pc (a0 :: a1 :: a2 :: a3 :: a4 :: a5 :: a6 :: a7 :: a8 :: a9 :: a10 :: a11 :: a12 :: tl) r h := px_iinc hd (by subst ha; rfl) hv hn hok kk
theorem px_ist_13 {a0 a1 a2 a3 a4 a5 a6 a7 a8 a9 a10 a11 a12 a13 : Option Value} {tl : List (Option Value)} {x : Int32} (hd : decode (xC M) pc = .ok (.istore 13, 2)) (hn : 13 < xL M) (hok : xSt (a0 :: a1 :: a2 :: a3 :: a4 :: a5 :: a6 :: a7 :: a8 :: a9 :: a10 :: a11 :: a12 :: a13 :: tl) 13 = true) (kk : PW E M Q k n (pc + 2) (a0 :: a1 :: a2 :: a3 :: a4 :: a5 :: a6 :: a7 :: a8 :: a9 :: a10 :: a11 :: a12 :: some (.int x) :: tl) r h) : PW E M Q k n pc (a0 :: a1 :: a2 :: a3 :: a4 :: a5 :: a6 :: a7 :: a8 :: a9 :: a10 :: a11 :: a12 :: a13 :: tl) (.int x :: r) h := px_istore hd hn hok kk
theorem px_ast_13 {a0 a1 a2 a3 a4 a5 a6 a7 a8 a9 a10 a11 a12 a13 : Option Value} {tl : List (Option Value)} {x : Nat} (hd : decode (xC M) pc = .ok (.astore 13, 2)) (hn : 13 < xL M) (hok : xSt (a0 :: a1 :: a2 :: a3 :: a4 :: a5 :: a6 :: a7 :: a8 :: a9 :: a10 :: a11 :: a12 :: a13 :: tl) 13 = true) (kk : PW E M Q k n (pc + 2) (a0 :: a1 :: a2 :: a3 :: a4 :: a5 :: a6 :: a7 :: a8 :: a9 :: a10 :: a11 :: a12 :: some (.ref x) :: tl) r h) : PW E M Q k n pc (a0 :: a1 :: a2 :: a3 :: a4 :: a5 :: a6 :: a7 :: a8 :: a9 :: a10 :: a11 :: a12 :: a13 :: tl) (.ref x :: r) h := px_astore hd hn hok kk
theorem px_inc_13 {a0 a1 a2 a3 a4 a5 a6 a7 a8 a9 a10 a11 a12 a13 : Option Value} {tl : List (Option Value)} {x v : Int32} {q : Int} (hd : decode (xC M) pc = .ok (.iinc 13 q, 3)) (ha : a13 = some (.int x)) (hv : x + Int32.ofInt q = v) (hn : 13 < xL M) (hok : xSt (a0 :: a1 :: a2 :: a3 :: a4 :: a5 :: a6 :: a7 :: a8 :: a9 :: a10 :: a11 :: a12 :: a13 :: tl) 13 = true) (kk : PW E M Q k n (pc + 3) (a0 :: a1 :: a2 :: a3 :: a4 :: a5 :: a6 :: a7 :: a8 :: a9 :: a10 :: a11 :: a12 :: some (.int v) :: tl) r h) : PW E M Q k n pc (a0 :: a1 :: a2 :: a3 :: a4 :: a5 :: a6 :: a7 :: a8 :: a9 :: a10 :: a11 :: a12 :: a13 :: tl) r h := px_iinc hd (by subst ha; rfl) hv hn hok kk
theorem px_ist_14 {a0 a1 a2 a3 a4 a5 a6 a7 a8 a9 a10 a11 a12 a13 a14 : Option Value} {tl : List (Option Value)} {x : Int32} (hd : decode (xC M) pc = .ok (.istore 14, 2)) (hn : 14 < xL M) (hok : xSt (a0 :: a1 :: a2 :: a3 :: a4 :: a5 :: a6 :: a7 :: a8 :: a9 :: a10 :: a11 :: a12 :: a13 :: a14 :: tl) 14 = true) (kk : PW E M Q k n (pc + 2) (a0 :: a1 :: a2 :: a3 :: a4 :: a5 :: a6 :: a7 :: a8 :: a9 :: a10 :: a11 :: a12 :: a13 :: some (.int x) :: tl) r h) : PW E M Q k n pc (a0 :: a1 :: a2 :: a3 :: a4 :: a5 :: a6 :: a7 :: a8 :: a9 :: a10 :: a11 :: a12 :: a13 :: a14 :: tl) (.int x :: r) h := px_istore hd hn hok kk
theorem px_ast_14 {a0 a1 a2 a3 a4 a5 a6 a7 a8 a9 a10 a11 a12 a13 a14 : Option Value} {tl : List (Option Value)} {x : Nat} (hd : decode (xC M) pc = .ok (.astore 14, 2)) (hn : 14 < xL M) (hok : xSt (a0 :: a1 :: a2 :: a3 :: a4 :: a5 :: a6 :: a7 :: a8 :: a9 :: a10 :: a11 :: a12 :: a13 :: a14 :: tl) 14 = true) (kk : PW E M Q k n (pc + 2) (a0 :: a1 :: a2 :: a3 :: a4 :: a5 :: a6 :: a7 :: a8 :: a9 :: a10 :: a11 :: a12 :: a13 :: some (.ref x) :: tl) r h) : PW E M Q k n pc (a0 :: a1 :: a2 :: a3 :: a4 :: a5 :: a6 :: a7 :: a8 :: a9 :: a10 :: a11 :: a12 :: a13 :: a14 :: tl) (.ref x :: r) h := px_astore hd hn hok kk
theorem px_inc_14 {a0 a1 a2 a3 a4 a5 a6 a7 a8 a9 a10 a11 a12 a13 a14 : Option Value} {tl : List (Option Value)} {x v : Int32} {q : Int} (hd : decode (xC M) pc = .ok (.iinc 14 q, 3)) (ha : a14 = some (.int x)) (hv : x + Int32.ofInt q = v) (hn : 14 < xL M) (hok : xSt (a0 :: a1 :: a2 :: a3 :: a4 :: a5 :: a6 :: a7 :: a8 :: a9 :: a10 :: a11 :: a12 :: a13 :: a14 :: tl) 14 = true) (kk : PW E M Q k n (pc + 3) (a0 :: a1 :: a2 :: a3 :: a4 :: a5 :: a6 :: a7 :: a8 :: a9 :: a10 :: a11 :: a12 :: a13 :: some (.int v) :: tl) r h) : PW E M Q k n pc (a0 :: a1 :: a2 :: a3 :: a4 :: a5 :: a6 :: a7 :: a8 :: a9 :: a10 :: a11 :: a12 :: a13 :: a14 :: tl) r h := px_iinc hd (by subst ha; rfl) hv hn hok kk
end PXS
end
section
section PXF
variable {E : xE} {M : xM} {Q : Option Value → xHp → Prop} {k n pc : Nat} {r : List Value} {h : xHp} {lo : List (Option Value)} {a : Nat}
theorem px_weak {lo2 : List (Option Value)} (hs : ∀ (i : Nat) (v : Value), lo2[i]? = some (some v) → lo[i]? = some (some v)) (kk : PW E M Q k n pc lo2 r h) : PW E M Q k n pc lo r h := fun l p e s m args below meth c C H locs ls hH hS hl => kk l p e s m args below meth c C H locs ls hH hS ⟨hl.1, hl.2.1, fun i v hi => hl.2.2 i v (hs i v hi)⟩
theorem px_fg_0 {a0 : Option Value} {tl : List (Option Value)} (kk : PW E M Q k n pc (none :: tl) r h) : PW E M Q k n pc (a0 :: tl) r h := px_weak (fun i v hi => by
  by_cases hc : i = 0
  · subst hc; cases hi
  · have e : (none :: tl : List (Option Value)) = (a0 :: tl : List (Option Value)).set 0 none := rfl
    rw [e, List.getElem?_set_ne (Ne.symm hc)] at hi
    exact hi) kk
theorem px_fg_1 {a0 a1 : Option Value} {tl : List (Option Value)} (kk : PW E M Q k n pc (a0 :: none :: tl) r h) : PW E M Q k n pc (a0 :: a1 :: tl) r h := px_weak (fun i v hi => by
  by_cases hc : i = 1
  · subst hc; cases hi
  · have e : (a0 :: none :: tl : List (Option Value)) = (a0 :: a1 :: tl : List (Option Value)).set 1 none := rfl
    rw [e, List.getElem?_set_ne (Ne.symm hc)] at hi
    exact hi) kk
theorem px_fg_2 {a0 a1 a2 : Option Value} {tl : List (Option Value)} (kk : PW E M Q k n pc (a0 :: a1 :: none :: tl) r h) : PW E M Q k n pc (a0 :: a1 :: a2 :: tl) r h := px_weak (fun i v hi => by
  by_cases hc : i = 2
  · subst hc; cases hi
  · have e : (a0 :: a1 :: none :: tl : List (Option Value)) = (a0 :: a1 :: a2 :: tl : List (Option Value)).set 2 none := rfl
    rw [e, List.getElem?_set_ne (Ne.symm hc)] at hi
    exact hi) kk
theorem px_fg_3 {a0 a1 a2 a3 : Option Value} {tl : List (Option Value)} (kk : PW E M Q k n pc (a0 :: a1 :: a2 :: none :: tl) r h) : PW E M Q k n pc (a0 :: a1 :: a2 :: a3 :: tl) r h := px_weak (fun i v hi => by
  by_cases hc : i = 3
  · subst hc; cases hi
  · have e : (a0 :: a1 :: a2 :: none :: tl : List (Option Value)) = (a0 :: a1 :: a2 :: a3 :: tl : List (Option Value)).set 3 none := rfl
    rw [e, List.getElem?_set_ne (Ne.symm hc)] at hi
    exact hi) kk
theorem px_fg_4 {a0 a1 a2 a3 a4 : Option Value} {tl : List (Option Value)} (kk : PW E M Q k n pc (a0 :: a1 :: a2 :: a3 :: none :: tl) r h) : PW E M Q k n pc (a0 :: a1 :: a2 :: a3 :: a4 :: tl) r h := px_weak (fun i v hi => by
  by_cases hc : i = 4
  · subst hc; cases hi
  · have e : (a0 :: a1 :: a2 :: a3 :: none :: tl : List (Option Value)) = (a0 :: a1 :: a2 :: a3 :: a4 :: tl : List (Option Value)).set 4 none := rfl
    rw [e, List.getElem?_set_ne (Ne.symm hc)] at hi
    exact hi) kk
theorem px_fg_5 {a0 a1 a2 a3 a4 a5 : Option Value} {tl : List (Option Value)} (kk : PW E M Q k n pc (a0 :: a1 :: a2 :: a3 :: a4 :: none :: tl) r h) : PW E M Q k n pc (a0 :: a1 :: a2 :: a3 :: a4 :: a5 :: tl) r h := px_weak (fun i v hi => by
  by_cases hc : i = 5
  · subst hc; cases hi
  · have e : (a0 :: a1 :: a2 :: a3 :: a4 :: none :: tl : List (Option Value)) = (a0 :: a1 :: a2 :: a3 :: a4 :: a5 :: tl : List (Option Value)).set 5 none := rfl
    rw [e, List.getElem?_set_ne (Ne.symm hc)] at hi
    exact hi) kk
theorem px_fg_6 {a0 a1 a2 a3 a4 a5 a6 : Option Value} {tl : List (Option Value)} (kk : PW E M Q k n pc (a0 :: a1 :: a2 :: a3 :: a4 :: a5 :: none :: tl) r h) : PW E M Q k n pc (a0 :: a1 :: a2 :: a3 :: a4 :: a5 :: a6 :: tl) r h := px_weak (fun i v hi => by
  by_cases hc : i = 6
  · subst hc; cases hi
  · have e : (a0 :: a1 :: a2 :: a3 :: a4 :: a5 :: none :: tl : List (Option Value)) = (a0 :: a1 :: a2 :: a3 :: a4 :: a5 :: a6 :: tl : List (Option Value)).set 6 none := rfl
    rw [e, List.getElem?_set_ne (Ne.symm hc)] at hi
    exact hi) kk
theorem px_fg_7 {a0 a1 a2 a3 a4 a5 a6 a7 : Option Value} {tl : List (Option Value)} (kk : PW E M Q k n pc (a0 :: a1 :: a2 :: a3 :: a4 :: a5 :: a6 :: none :: tl) r h) : PW E M Q k n pc (a0 :: a1 :: a2 :: a3 :: a4 :: a5 :: a6 :: a7 :: tl) r h := px_weak (fun i v hi => by
  by_cases hc : i = 7
  · subst hc; cases hi
  · have e : (a0 :: a1 :: a2 :: a3 :: a4 :: a5 :: a6 :: none :: tl : List (Option Value)) = (a0 :: a1 :: a2 :: a3 :: a4 :: a5 :: a6 :: a7 :: tl : List (Option Value)).set 7 none := rfl
    rw [e, List.getElem?_set_ne (Ne.symm hc)] at hi
    exact hi) kk
theorem px_fg_8 {a0 a1 a2 a3 a4 a5 a6 a7 a8 : Option Value} {tl : List (Option Value)} (kk : PW E M Q k n pc (a0 :: a1 :: a2 :: a3 :: a4 :: a5 :: a6 :: a7 :: none :: tl) r h) : PW E M Q k n pc (a0 :: a1 :: a2 :: a3 :: a4 :: a5 :: a6 :: a7 :: a8 :: tl) r h := px_weak (fun i v hi => by
  by_cases hc : i = 8
  · subst hc; cases hi
  · have e : (a0 :: a1 :: a2 :: a3 :: a4 :: a5 :: a6 :: a7 :: none :: tl : List (Option Value)) = (a0 :: a1 :: a2 :: a3 :: a4 :: a5 :: a6 :: a7 :: a8 :: tl : List (Option Value)).set 8 none := rfl
    rw [e, List.getElem?_set_ne (Ne.symm hc)] at hi
    exact hi) kk
theorem px_fg_9 {a0 a1 a2 a3 a4 a5 a6 a7 a8 a9 : Option Value} {tl : List (Option Value)} (kk : PW E M Q k n pc (a0 :: a1 :: a2 :: a3 :: a4 :: a5 :: a6 :: a7 :: a8 :: none :: tl) r h) : PW E M Q k n pc (a0 :: a1 :: a2 :: a3 :: a4 :: a5 :: a6 :: a7 :: a8 :: a9 :: tl) r h := px_weak (fun i v hi => by
  by_cases hc : i = 9
  · subst hc; cases hi
  · have e : (a0 :: a1 :: a2 :: a3 :: a4 :: a5 :: a6 :: a7 :: a8 :: none :: tl : List (Option Value)) = (a0 :: a1 :: a2 :: a3 :: a4 :: a5 :: a6 :: a7 :: a8 :: a9 :: tl : List (Option Value)).set 9 none := rfl
    rw [e, List.getElem?_set_ne (Ne.symm hc)] at hi
    exact hi) kk
theorem px_fg_10 {a0 a1 a2 a3 a4 a5 a6 a7 a8 a9 a10 : Option Value} {tl : List (Option Value)} (kk : PW E M Q k n pc (a0 :: a1 :: a2 :: a3 :: a4 :: a5 :: a6 :: a7 :: a8 :: a9 :: none :: tl) r h) : PW E M Q k n pc (a0 :: a1 :: a2 :: a3 :: a4 :: a5 :: a6 :: a7 :: a8 :: a9 :: a10 :: tl) r h := px_weak (fun i v hi => by
  by_cases hc : i = 10
  · subst hc; cases hi
  · have e : (a0 :: a1 :: a2 :: a3 :: a4 :: a5 :: a6 :: a7 :: a8 :: a9 :: none :: tl : List (Option Value)) = (a0 :: a1 :: a2 :: a3 :: a4 :: a5 :: a6 :: a7 :: a8 :: a9 :: a10 :: tl : List (Option Value)).set 10 none := rfl
    rw [e, List.getElem?_set_ne (Ne.symm hc)] at hi
    exact hi) kk
theorem px_fg_11 {a0 a1 a2 a3 a4 a5 a6 a7 a8 a9 a10 a11 : Option Value} {tl : List (Option Value)} (kk : PW E M Q k n pc (a0 :: a1 :: a2 :: a3 :: a4 :: a5 :: a6 :: a7 :: a8 :: a9 :: a10 :: none :: tl) r h) : PW E M Q k n pc (a0 :: a1 :: a2 :: a3 :: a4 :: a5 :: a6 :: a7 :: a8 :: a9 :: a10 :: a11 :: tl) r h := px_weak (fun i v hi => by
  by_cases hc : i = 11
  · subst hc; cases hi
  · have e : (a0 :: a1 :: a2 :: a3 :: a4 :: a5 :: a6 :: a7 :: a8 :: a9 :: a10 :: none :: tl : List (Option Value)) = (a0 :: a1 :: a2 :: a3 :: a4 :: a5 :: a6 :: a7 :: a8 :: a9 :: a10 :: a11 :: tl : List (Option Value)).set 11 none := rfl
    rw [e, List.getElem?_set_ne (Ne.symm hc)] at hi
    exact hi) kk
theorem px_fg_12 {a0 a1 a2 a3 a4 a5 a6 a7 a8 a9 a10 a11 a12 : Option Value} {tl : List (Option Value)} (kk : PW E M Q k n pc (a0 :: a1 :: a2 :: a3 :: a4 :: a5 :: a6 :: a7 :: a8 :: a9 :: a10 :: a11 :: none :: tl) r h) : PW E M Q k n pc (a0 :: a1 :: a2 :: a3 :: a4 :: a5 :: a6 :: a7 :: a8 :: a9 :: a10 :: a11 :: a12 :: tl) r h := px_weak (fun i v hi => by
  by_cases hc : i = 12
  · subst hc; cases hi
  · have e : (a0 :: a1 :: a2 :: a3 :: a4 :: a5 :: a6 :: a7 :: a8 :: a9 :: a10 :: a11 :: none :: tl : List (Option Value)) = (a0 :: a1 :: a2 :: a3 :: a4 :: a5 :: a6 :: a7 :: a8 :: a9 :: a10 :: a11 :: a12 :: tl : List (Option Value)).set 12 none := rfl
    rw [e, List.getElem?_set_ne (Ne.symm hc)] at hi
    exact hi) kk
theorem px_fg_13 {a0 a1 a2 a3 a4 a5 a6 a7 a8 a9 a10 a11 a12 a13 : Option Value} {tl : List (Option Value)} (kk : PW E M Q k n pc (a0 :: a1 :: a2 :: a3 :: a4 :: a5 :: a6 :: a7 :: a8 :: a9 :: a10 :: a11 :: a12 :: none :: tl) r h) : PW E M Q k n pc (a0 :: a1 :: a2 :: a3 :: a4 :: a5 :: a6 :: a7 :: a8 :: a9 :: a10 :: a11 :: a12 :: a13 :: tl) r h := px_weak (fun i v hi => by
  by_cases hc : i = 13
  · subst hc; cases hi
  · have e : (a0 :: a1 :: a2 :: a3 :: a4 :: a5 :: a6 :: a7 :: a8 :: a9 :: a10 :: a11 :: a12 :: none :: tl : List (Option Value)) = (a0 :: a1 :: a2 :: a3 :: a4 :: a5 :: a6 :: a7 :: a8 :: a9 :: a10 :: a11 :: a12 :: a13 :: tl : List (Option Value)).set 13 none := rfl
    rw [e, List.getElem?_set_ne (Ne.symm hc)] at hi
    exact hi) kk
theorem px_fg_14 {a0 a1 a2 a3 a4 a5 a6 a7 a8 a9 a10 a11 a12 a13 a14 : Option Value} {tl : List (Option Value)} (kk : PW E M Q k n pc (a0 :: a1 :: a2 :: a3 :: a4 :: a5 :: a6 :: a7 :: a8 :: a9 :: a10 :: a11 :: a12 :: a13 :: none :: tl) r h) : PW E M Q k n pc (a0 :: a1 :: a2 :: a3 :: a4 :: a5 :: a6 :: a7 :: a8 :: a9 :: a10 :: a11 :: a12 :: a13 :: a14 :: tl) r h := px_weak (fun i v hi => by
  by_cases hc : i = 14
  · subst hc; cases hi
  · have e : (a0 :: a1 :: a2 :: a3 :: a4 :: a5 :: a6 :: a7 :: a8 :: a9 :: a10 :: a11 :: a12 :: a13 :: none :: tl : List (Option Value)) = (a0 :: a1 :: a2 :: a3 :: a4 :: a5 :: a6 :: a7 :: a8 :: a9 :: a10 :: a11 :: a12 :: a13 :: a14 :: tl : List (Option Value)).set 14 none := rfl
    rw [e, List.getElem?_set_ne (Ne.symm hc)] at hi
    exact hi) kk
theorem px_if_ltN {off : Int} (tgt : Nat) (hd : decode (xC M) pc = .ok (.ifCond .lt off, 3)) (ht : (pc : Int) + off = (tgt : Int)) (ha : a < 2 ^ 31) (kf : PW E M Q k n (pc + 3) lo r h) : PW E M Q k n pc lo (.int (nI a) :: r) h := px_if_lt tgt hd ht (fun z => absurd z (nI_pos ha)) (fun _ => kf)
theorem px_if_geN {off : Int} (tgt : Nat) (hd : decode (xC M) pc = .ok (.ifCond .ge off, 3)) (ht : (pc : Int) + off = (tgt : Int)) (ha : a < 2 ^ 31) (kt : PW E M Q k n tgt lo r h) : PW E M Q k n pc lo (.int (nI a) :: r) h := px_if_ge tgt hd ht (fun _ => kt) (fun z => absurd (nI_pos' ha) z)
theorem px_if_leN {off : Int} (tgt : Nat) (hd : decode (xC M) pc = .ok (.ifCond .le off, 3)) (ht : (pc : Int) + off = (tgt : Int)) (ha : a < 2 ^ 31) (kt : a = 0 → PW E M Q k n tgt lo r h) (kf : 0 < a → PW E M Q k n (pc + 3) lo r h) : PW E M Q k n pc lo (.int (nI a) :: r) h := px_if_le tgt hd ht (fun z => kt (by have := (nI_leI (b := 0) ha (by decide)).mp z; omega)) (fun z => kf (by
  rcases Nat.eq_zero_or_pos a with q | q
  · subst q; exact absurd (by decide) z
  · exact q))
theorem px_if_gtN {off : Int} (tgt : Nat) (hd : decode (xC M) pc = .ok (.ifCond .gt off, 3)) (ht : (pc : Int) + off = (tgt : Int)) (ha : a < 2 ^ 31) (kt : 0 < a → PW E M Q k n tgt lo r h) (kf : a = 0 → PW E M Q k n (pc + 3) lo r h) : PW E M Q k n pc lo (.int (nI a) :: r) h := px_if_gt tgt hd ht (fun z => kt ((nI_ltI (a := 0) (by decide) ha).mp z)) (fun z => kf (by
  rcases Nat.eq_zero_or_pos a with q | q
  · exact q
  · exact absurd ((nI_ltI (a := 0) (by decide) ha).mpr q) z))
/-- two maps of cells that no machine can tell apart -/
def xEqv (h h2 : xHp) : Prop := ∀ a : Nat, h a = h2 a ∨ ∃ (cA : ClassId) (len : Nat) (f g : Nat → Int32), h a = some (.inl (cA, len, .inl f)) ∧ h2 a = some (.inl (cA, len, .inl g)) ∧ ∀ i, i < len → f i = g i
theorem arrV_cong {cA : ClassId} {len : Nat} {f g : Nat → Value} (hf : ∀ i, i < len → f i = g i) : arrV cA len f = arrV cA len g := by
  unfold arrV
  congr 1
  apply Array.ext
  · simp
  · intro i h1 h2
    simp only [Array.getElem_ofFn]
    exact hf i (by simpa using h1)
theorem xHold_eqv {h2 : xHp} {H : Heap} (he : xEqv h h2) (hH : xHold E h H) : xHold E h2 H := by
  obtain ⟨h1, h2', h3⟩ := hH
  refine ⟨fun q e hq => ?_, fun q hq => ?_, h3⟩
  · rcases he q with e1 | ⟨cA, len, f, g, e1, e2, e3⟩
    · exact h1 q e (e1.trans hq)
    · rw [e2] at hq
      cases hq
      obtain ⟨g1, g2⟩ := h1 q _ e1
      refine ⟨?_, g2⟩
      show H[q]? = some (vp_cell cA (len, .inl g))
      rw [vp_cell_i, ← arrV_cong (f := fun j => Value.int (f j)) (fun i hi => by rw [e3 i hi])]
      exact g1
  · rw [← h2' q hq]
    rcases he q with e1 | ⟨cA, len, f, g, e1, e2, e3⟩
    · rw [e1]
    · rw [e1, e2]; simp
theorem px_eqv {h2 : xHp} (he : xEqv h h2) (kk : PW E M Q k n pc lo r h2) : PW E M Q k n pc lo r h := fun l p e s m args below meth c C H locs ls hH hS hl => kk l p e s m args below meth c C H locs ls (xHold_eqv he hH) hS hl
end PXF
def ndif (x y : Nat) : Nat := (x ||| y) ^^^ y
theorem nx_dif (x y : Nat) : nI x &&& (nI y ^^^ (-1)) = nI (ndif x y) := by
  apply i32_ext
  rw [Int32.toBitVec_and, Int32.toBitVec_xor, nI_bv, nI_bv, nI_bv]
  have e1 : (-1 : Int32).toBitVec = BitVec.allOnes 32 := by decide
  rw [e1]
  apply BitVec.eq_of_getLsbD_eq
  intro i hi
  rw [BitVec.getLsbD_and, BitVec.getLsbD_xor, BitVec.getLsbD_ofNat, BitVec.getLsbD_ofNat, BitVec.getLsbD_ofNat, BitVec.getLsbD_allOnes, ndif, Nat.testBit_xor, Nat.testBit_or]
  simp only [hi, decide_true, Bool.true_and]
  cases x.testBit i <;> cases y.testBit i <;> rfl
theorem ndif_tb (x y i : Nat) : (ndif x y).testBit i = (x.testBit i && !y.testBit i) := by
  rw [ndif, Nat.testBit_xor, Nat.testBit_or]
  cases x.testBit i <;> cases y.testBit i <;> rfl
theorem ndif_lt {x y n : Nat} (h : x < 2 ^ n) : ndif x y < 2 ^ n := by
  apply Nat.lt_pow_two_of_testBit
  intro i hi
  rw [ndif_tb, Nat.testBit_lt_two_pow (Nat.lt_of_lt_of_le h (Nat.pow_le_pow_right (by omega) hi))]
  rfl
theorem nI_min {a b : Nat} (ha : a < 2 ^ 31) (hb : b < 2 ^ 31) : (if nI b < nI a then nI b else nI a) = nI (min a b) := by
  by_cases h : b < a
  · rw [if_pos ((nI_ltI hb ha).mpr h), Nat.min_eq_right (by omega)]
  · rw [if_neg (fun q => h ((nI_ltI hb ha).mp q)), Nat.min_eq_left (by omega)]
theorem nI_max0 {a b : Nat} (ha : a < 2 ^ 30) (hb : b < 2 ^ 30) : (if nI 0 < nI a - nI b then nI a - nI b else nI 0) = nI (a - b) := by
  by_cases h : b ≤ a
  · rw [pk_sub h]
    by_cases h2 : 0 < a - b
    · rw [if_pos ((nI_ltI (by decide) (by omega)).mpr h2)]
    · rw [if_neg (fun q => h2 ((nI_ltI (by decide) (by omega)).mp q)), show a - b = 0 by omega]
  · have h1 := pk_sneg (a := a) hb (by omega)
    rw [if_neg, show a - b = 0 by omega]
    intro q
    have q1 := Int32.lt_iff_toInt_lt.mp q
    have q2 := Int32.lt_iff_toInt_lt.mp h1
    have e0 : (nI 0).toInt = 0 := by decide
    have e1 : (0 : Int32).toInt = 0 := by decide
    omega
theorem and31 (x : Nat) : x &&& 2147483647 = x % 2147483648 := Nat.and_two_pow_sub_one_eq_mod x 31
end
section
theorem bit_and1 (x : Nat) : x &&& 1 = x % 2 := by
  have := Nat.and_two_pow_sub_one_eq_mod x 1
  simpa using this
theorem tb_div (x a : Nat) : x.testBit a = decide (x / 2 ^ a % 2 = 1) := by
  rw [Nat.testBit_eq_decide_div_mod_eq]
def hbit (x : Int32) (i : Nat) : Bool := decide ((x >>> (nI i &&& 31)) &&& nI 1 = nI 1)
theorem hbit_n {w i : Nat} (hw : w < 2 ^ 31) (hi : i < 32) : hbit (nI w) i = w.testBit i := by
  unfold hbit
  rw [nx_shr hw hi, nx_and, bit_and1, tb_div]
  have h2 : w / 2 ^ i % 2 < 2 ^ 31 := by omega
  by_cases h : w / 2 ^ i % 2 = 1
  · rw [h]; simp
  · have : nI (w / 2 ^ i % 2) ≠ nI 1 := fun e => h ((nI_eq h2 (by decide)).mp e)
    simp [h, this]
def oI : Option Nat → Int32
  | none => -4
  | some a => nI a
/-- a town's numbers are small -/
def tOK (T : xT) : Prop := (T.2 0 ≤ 6 ∧ T.2 1 ≤ 4 ∧ T.2 2 < 64 ∧ T.2 3 < 64 ∧ T.2 4 < 2 ^ 30 ∧ T.2 5 ≤ 99 ∧ T.2 6 < 2 ^ 31) ∧ (∀ i, T.1 0 i ≤ 4) ∧ (∀ i, T.1 1 i ≤ 3) ∧ (∀ i, T.1 2 i ≤ 99) ∧ (∀ i, T.1 3 i ≤ 9) ∧ (∀ i, T.1 4 i ≤ 9) ∧ (∀ i, T.1 5 i ≤ 4)
theorem tOK.lt {T : xT} (h : tOK T) {j i : Nat} (hj : j < 6) : T.1 j i < 2 ^ 31 := by
  obtain ⟨-, h0, h1, h2, h3, h4, h5⟩ := h
  match j, hj with
  | 0, _ => have := h0 i; omega
  | 1, _ => have := h1 i; omega
  | 2, _ => have := h2 i; omega
  | 3, _ => have := h3 i; omega
  | 4, _ => have := h4 i; omega
  | 5, _ => have := h5 i; omega
theorem tOK.lts {T : xT} (h : tOK T) {j : Nat} (hj : j < 7) : T.2 j < 2 ^ 31 := by
  obtain ⟨⟨h0, h1, h2, h3, h4, h5, h6⟩, -⟩ := h
  match j, hj with
  | 0, _ => omega
  | 1, _ => omega
  | 2, _ => omega
  | 3, _ => omega
  | 4, _ => omega
  | 5, _ => omega
  | 6, _ => omega
/-- may a thief rob one -/
def tmay (T : xT) (t a : Nat) : Bool := ((T.2 2).testBit a && !(T.2 3).testBit a) && (decide (T.1 3 a ≤ T.1 4 t) && (decide (T.1 5 t = 4) || decide (T.1 5 t = T.1 1 a)))
/-- whom a thief robs of the first n, once those of rob were robbed -/
def tvic (T : xT) (t rob : Nat) : Nat → Option Nat
  | 0 => none
  | n + 1 => if (!rob.testBit n && tmay T t n) && (match tvic T t rob n with | none => true | some b => decide (T.1 2 b < T.1 2 n)) then some n else tvic T t rob n
/-- who is robbed by the first n thieves, those of hm at home -/
def trob (T : xT) (hm : Nat → Bool) : Nat → Nat
  | 0 => 0
  | n + 1 => if hm n then trob T hm n else match tvic T n (trob T hm n) (T.2 0) with | none => trob T hm n | some a => trob T hm n ||| 2 ^ a
theorem tvic_lt {T : xT} {t rob : Nat} : ∀ {n a : Nat}, tvic T t rob n = some a → a < n
  | 0, _, h => by cases h
  | n + 1, a, h => by
    rw [tvic] at h
    by_cases hc : ((!rob.testBit n && tmay T t n) && (match tvic T t rob n with | none => true | some b => decide (T.1 2 b < T.1 2 n))) = true
    · rw [if_pos hc] at h
      cases h; omega
    · rw [if_neg hc] at h
      have := tvic_lt h; omega
theorem tvic_yes {T : xT} {t rob n : Nat} (h1 : rob.testBit n = false) (h2 : tmay T t n = true) (h3 : tvic T t rob n = none ∨ ∃ b, tvic T t rob n = some b ∧ T.1 2 b < T.1 2 n) : tvic T t rob (n + 1) = some n := by
  rw [tvic]
  rcases h3 with h3 | ⟨b, h3, h4⟩
  · simp [h1, h2, h3]
  · simp [h1, h2, h3, h4]
theorem tvic_no {T : xT} {t rob n : Nat} (h : rob.testBit n = true ∨ tmay T t n = false ∨ ∃ b, tvic T t rob n = some b ∧ T.1 2 n ≤ T.1 2 b) : tvic T t rob (n + 1) = tvic T t rob n := by
  rw [tvic]
  rcases h with h | h | ⟨b, h3, h4⟩
  · simp [h]
  · simp [h]
  · simp [h3, Nat.not_lt.mpr h4]
theorem or_lt64 {x a : Nat} (h : x < 64) (ha : a < 6) : x ||| 2 ^ a < 64 := by
  have : 2 ^ a < 2 ^ 6 := Nat.pow_lt_pow_right (by omega) ha
  exact Nat.or_lt_two_pow (n := 6) h this
theorem trob_lt {T : xT} {hm : Nat → Bool} (h : T.2 0 ≤ 6) : ∀ n, trob T hm n < 64
  | 0 => by rw [trob]; decide
  | n + 1 => by
    rw [trob]
    split
    · exact trob_lt h n
    · split
      · exact trob_lt h n
      · rename_i a ha
        have := tvic_lt ha
        exact or_lt64 (trob_lt h n) (by omega)
theorem may_bits {sh sw a : Nat} (ha : a < 31) : ((nI sh &&& (nI sw ^^^ (-1))) &&& nI (2 ^ a) = 0) ↔ (sh.testBit a && !sw.testBit a) = false := by
  have h1 : ((nI sh &&& (nI sw ^^^ (-1))) &&& nI (2 ^ a) = 0) ↔ (((nI sh &&& (nI sw ^^^ (-1))) &&& nI (2 ^ a)).toBitVec = 0#32) := ⟨fun h => by rw [h]; rfl, fun h => i32_ext h⟩
  rw [h1, Int32.toBitVec_and, Int32.toBitVec_and, Int32.toBitVec_xor, nI_bv, nI_bv, nI_bv]
  have e1 : (-1 : Int32).toBitVec = BitVec.allOnes 32 := by decide
  have e2 : BitVec.ofNat 32 (2 ^ a) = BitVec.twoPow 32 a := by
    apply BitVec.eq_of_toNat_eq
    rw [BitVec.toNat_ofNat, BitVec.toNat_twoPow]
  rw [e1, e2]
  have g : (BitVec.ofNat 32 sh &&& (BitVec.ofNat 32 sw ^^^ BitVec.allOnes 32)).getLsbD a = (sh.testBit a && !sw.testBit a) := by
    rw [BitVec.getLsbD_and, BitVec.getLsbD_xor, BitVec.getLsbD_ofNat, BitVec.getLsbD_ofNat, BitVec.getLsbD_allOnes]
    simp [show a < 32 by omega]
  have tp : ∀ l, l < 32 → BitVec.twoPow 32 l ≠ 0#32 := by decide +kernel
  rw [BitVec.and_twoPow, g]
  cases hg : (sh.testBit a && !sw.testBit a)
  · simp
  · rw [if_pos rfl]
    exact ⟨fun q => absurd q (tp a (by omega)), fun q => by cases q⟩
set_option maxHeartbeats 4000000 in
set_option maxRecDepth 100000 in
theorem c_X5_has {E : xE} {h : xHp} (x : Int32) (i : Nat) : PMI E mX5_has [.int x, .int (nI i)] h (bI (hbit x i)) h := by
  refine pm_of [some (.int x), some (.int (nI i))] (by decide +kernel) (Nat.le_of_ble_eq_true rfl) rfl ?_
  refine px_iload_n dX5_has_0 rfl ?_
  refine px_iload_n dX5_has_1 rfl ?_
  refine px_ishr dX5_has_2 ?_
  refine px_iconst (v := nI 1) dX5_has_3 (by decide) ?_
  refine px_iand dX5_has_4 ?_
  refine px_iconst (v := nI 1) dX5_has_5 (by decide) ?_
  refine px_icmp_ne 13 dX5_has_6 (by decide) (fun c6 => ?_) (fun c6 => ?_)
  · refine px_iconst (v := nI 0) dX5_has_13 (by decide) ?_
    have hm : hbit x i = false := by first | (simp [hbit, c6]; done) | (simp only [hbit, decide_eq_false_iff_not]; exact c6)
    exact px_bret (b := hbit x i) dX5_has_14 rfl rfl rfl (by rw [hm]; rfl) ⟨rfl, rfl⟩
  · refine px_iconst (v := nI 1) dX5_has_9 (by decide) ?_
    refine px_goto 14 dX5_has_10 (by decide) ?_
    have hm : hbit x i = true := by first | (simp [hbit, c6]; done) | (simp only [hbit, decide_eq_false_iff_not]; exact c6)
    exact px_bret (b := hbit x i) dX5_has_14 rfl rfl rfl (by rw [hm]; rfl) ⟨rfl, rfl⟩
theorem c_X5_has_n {E : xE} {h : xHp} (w i : Nat) (hw : w < 2 ^ 31) (hi : i < 32) : PMI E mX5_has [.int (nI w), .int (nI i)] h (bI (w.testBit i)) h := by
  rw [← hbit_n hw hi]
  exact c_X5_has (nI w) i
section
variable {E : xE} {M : xM} {Q : Option Value → xHp → Prop} {k n pc : Nat} {lo : List (Option Value)} {r : List Value} {h : xHp}
theorem px_if_eqX {b : Bool} {x : Int32} (hx : x = 0 ↔ b = false) {off : Int} (tgt : Nat) (hd : decode (xC M) pc = .ok (.ifCond .eq off, 3)) (ht : (pc : Int) + off = (tgt : Int)) (kt : b = false → PW E M Q k n tgt lo r h) (kf : b = true → PW E M Q k n (pc + 3) lo r h) : PW E M Q k n pc lo (.int x :: r) h := px_if_eq tgt hd ht (fun z => kt (hx.mp z)) (fun z => kf (by cases b with | false => exact absurd (hx.mpr rfl) z | true => rfl))
theorem px_if_neX {b : Bool} {x : Int32} (hx : x = 0 ↔ b = false) {off : Int} (tgt : Nat) (hd : decode (xC M) pc = .ok (.ifCond .ne off, 3)) (ht : (pc : Int) + off = (tgt : Int)) (kt : b = true → PW E M Q k n tgt lo r h) (kf : b = false → PW E M Q k n (pc + 3) lo r h) : PW E M Q k n pc lo (.int x :: r) h := px_if_ne tgt hd ht (fun z => kt (by cases b with | false => exact absurd (hx.mpr rfl) z | true => rfl)) (fun z => kf (hx.mp z))
end
set_option maxHeartbeats 4000000 in
set_option maxRecDepth 100000 in
theorem c_X4_mayRob {E : xE} {h : xHp} {b : Nat} {T : xT} (hOK : tOK T) (t a : Nat) (ht : t < 4) (ha : a < 6) : PMI E mX4_mayRob [.ref b, .int (nI t), .int (nI a)] (TH E h b T) (bI (tmay T t a)) (TH E h b T) := by
  refine pm_of [some (.ref b), some (.int (nI t)), some (.int (nI a)), none] (by decide +kernel) (Nat.le_of_ble_eq_true rfl) rfl ?_
  refine px_aload_n dX4_mayRob_0 rfl ?_
  refine px_tS 2 dX4_mayRob_1 (Or.inl fl_X4_49) (by decide) ?_
  refine px_aload_n dX4_mayRob_4 rfl ?_
  refine px_tS 3 dX4_mayRob_5 (Or.inl fl_X4_52) (by decide) ?_
  refine px_iconst (v := -1) dX4_mayRob_8 (by decide) ?_
  refine px_ixor dX4_mayRob_9 ?_
  refine px_iand dX4_mayRob_10 ?_
  refine px_iconst (v := nI 1) dX4_mayRob_11 (by decide) ?_
  refine px_iload_n dX4_mayRob_12 rfl ?_
  refine px_ishl1 dX4_mayRob_13 (by omega) ?_
  refine px_iand dX4_mayRob_14 ?_
  refine px_if_eqX (b := (T.2 2).testBit a && !(T.2 3).testBit a) (may_bits (by omega)) 22 dX4_mayRob_15 (by decide) (fun c15 => ?_) (fun c15 => ?_)
  · refine px_iconst (v := nI 0) dX4_mayRob_22 (by decide) ?_
    refine px_istn_3 dX4_mayRob_23 (by decide) rfl ?_
    refine px_iload_n dX4_mayRob_24 rfl ?_
    refine px_if_eq 72 dX4_mayRob_25 (by decide) (fun _ => ?_) (fun z => absurd z (by decide))
    refine px_iconst (v := nI 0) dX4_mayRob_72 (by decide) ?_
    have hm : tmay T t a = false := by first | (simp_all [tmay]; done) | (simp_all [tmay]; omega)
    exact px_bret (b := tmay T t a) dX4_mayRob_73 rfl rfl rfl (by rw [hm]; rfl) ⟨rfl, rfl⟩
  · refine px_iconst (v := nI 1) dX4_mayRob_18 (by decide) ?_
    refine px_goto 23 dX4_mayRob_19 (by decide) ?_
    refine px_istn_3 dX4_mayRob_23 (by decide) rfl ?_
    refine px_iload_n dX4_mayRob_24 rfl ?_
    refine px_if_eq 72 dX4_mayRob_25 (by decide) (fun z => absurd z (by decide)) (fun _ => ?_)
    refine px_aload_n dX4_mayRob_28 rfl ?_
    refine px_tR 3 dX4_mayRob_29 (Or.inl fl_X4_21) (by decide) ?_
    refine px_iload_n dX4_mayRob_32 rfl ?_
    refine px_tL 3 dX4_mayRob_33 (by decide) (by show _ < 6; omega) ?_
    refine px_aload_n dX4_mayRob_34 rfl ?_
    refine px_tR 4 dX4_mayRob_35 (Or.inl fl_X4_24) (by decide) ?_
    refine px_iload_n dX4_mayRob_38 rfl ?_
    refine px_tL 4 dX4_mayRob_39 (by decide) (by show _ < 4; omega) ?_
    refine px_icmp_gtN 72 dX4_mayRob_40 (by decide) (by first | omega | exact hOK.lt (by decide) | exact hOK.lts (by decide)) (by first | omega | exact hOK.lt (by decide) | exact hOK.lts (by decide)) (fun c40 => ?_) (fun c40 => ?_)
    · refine px_iconst (v := nI 0) dX4_mayRob_72 (by decide) ?_
      have hm : tmay T t a = false := by first | (simp_all [tmay]; done) | (simp_all [tmay]; omega)
      exact px_bret (b := tmay T t a) dX4_mayRob_73 rfl rfl rfl (by rw [hm]; rfl) ⟨rfl, rfl⟩
    · refine px_aload_n dX4_mayRob_43 rfl ?_
      refine px_tR 5 dX4_mayRob_44 (Or.inl fl_X4_27) (by decide) ?_
      refine px_iload_n dX4_mayRob_47 rfl ?_
      refine px_tL 5 dX4_mayRob_48 (by decide) (by show _ < 4; omega) ?_
      refine px_iconst (v := nI 4) dX4_mayRob_49 (by decide) ?_
      refine px_icmp_eqN 68 dX4_mayRob_50 (by decide) (by first | omega | exact hOK.lt (by decide) | exact hOK.lts (by decide)) (by first | omega | exact hOK.lt (by decide) | exact hOK.lts (by decide)) (fun c50 => ?_) (fun c50 => ?_)
      · refine px_iconst (v := nI 1) dX4_mayRob_68 (by decide) ?_
        refine px_goto 73 dX4_mayRob_69 (by decide) ?_
        have hm : tmay T t a = true := by first | (simp_all [tmay]; done) | (simp_all [tmay]; omega)
        exact px_bret (b := tmay T t a) dX4_mayRob_73 rfl rfl rfl (by rw [hm]; rfl) ⟨rfl, rfl⟩
      · refine px_aload_n dX4_mayRob_53 rfl ?_
        refine px_tR 5 dX4_mayRob_54 (Or.inl fl_X4_27) (by decide) ?_
        refine px_iload_n dX4_mayRob_57 rfl ?_
        refine px_tL 5 dX4_mayRob_58 (by decide) (by show _ < 4; omega) ?_
        refine px_aload_n dX4_mayRob_59 rfl ?_
        refine px_tR 1 dX4_mayRob_60 (Or.inl fl_X4_15) (by decide) ?_
        refine px_iload_n dX4_mayRob_63 rfl ?_
        refine px_tL 1 dX4_mayRob_64 (by decide) (by show _ < 6; omega) ?_
        refine px_icmp_neN 72 dX4_mayRob_65 (by decide) (by first | omega | exact hOK.lt (by decide) | exact hOK.lts (by decide)) (by first | omega | exact hOK.lt (by decide) | exact hOK.lts (by decide)) (fun c65 => ?_) (fun c65 => ?_)
        · refine px_iconst (v := nI 0) dX4_mayRob_72 (by decide) ?_
          have hm : tmay T t a = false := by first | (simp_all [tmay]; done) | (simp_all [tmay]; omega)
          exact px_bret (b := tmay T t a) dX4_mayRob_73 rfl rfl rfl (by rw [hm]; rfl) ⟨rfl, rfl⟩
        · refine px_iconst (v := nI 1) dX4_mayRob_68 (by decide) ?_
          refine px_goto 73 dX4_mayRob_69 (by decide) ?_
          have hm : tmay T t a = true := by first | (simp_all [tmay]; done) | (simp_all [tmay]; omega)
          exact px_bret (b := tmay T t a) dX4_mayRob_73 rfl rfl rfl (by rw [hm]; rfl) ⟨rfl, rfl⟩
set_option maxHeartbeats 4000000 in
set_option maxRecDepth 100000 in
theorem l_X4_victim {E : xE} {h : xHp} {b : Nat} {T : xT} (hOK : tOK T) (t rob : Nat) (ht : t < 4) (hr : rob < 64) : ∀ (n i : Nat), i ≤ T.2 0 → T.2 0 + 1 ≤ i + n → PW E mX4_victim (fun v h1 => v = some (.int (oI (tvic T t rob (T.2 0)))) ∧ h1 = TH E h b T) 0 0 6 [some (.ref b), some (.int (nI t)), some (.int (nI rob)), some (.int (oI (tvic T t rob i))), some (.int (nI i))] [] (TH E h b T) := by
  have hm := hOK.1.1
  intro n
  induction n with
  | zero =>
    intro i h1 h2
    omega
  | succ n ih =>
    intro i h1 h2
    refine px_iload dX4_victim_6 rfl ?_
    refine px_aload_n dX4_victim_8 rfl ?_
    refine px_tS 0 dX4_victim_9 (Or.inl fl_X4_43) (by decide) ?_
    refine px_icmp_geN 63 dX4_victim_12 (by decide) (by first | omega | exact hOK.lt (by decide) | exact hOK.lts (by decide)) (by first | omega | exact hOK.lt (by decide) | exact hOK.lts (by decide)) (fun c12 => ?_) (fun c12 => ?_)
    · refine px_iload_n dX4_victim_63 rfl ?_
      have hi : i = T.2 0 := by omega
      subst hi
      exact px_iret dX4_victim_64 rfl rfl rfl ⟨rfl, rfl⟩
    · refine px_iload_n dX4_victim_15 rfl ?_
      refine px_iload dX4_victim_16 rfl ?_
      refine px_si (c_X5_has_n rob i (by omega) (by omega)) mw_X5_has wt_X5_has (Or.inr ⟨_, ml_X4_62⟩) dX4_victim_18 (by decide) rfl rfl (Nat.le_of_ble_eq_true rfl) ⟨rfl, rfl⟩ ?_
      refine px_if_neB 57 dX4_victim_21 (by decide) (fun c21 => ?_) (fun c21 => ?_)
      · refine px_inc_4 dX4_victim_57 rfl (nI_1 _) (by decide) rfl ?_
        refine px_goto 6 dX4_victim_60 (by decide) ?_
        refine px_eq (lo2 := [some (.ref b), some (.int (nI t)), some (.int (nI rob)), some (.int (oI (tvic T t rob (i + 1)))), some (.int (nI (i + 1)))]) ?_ rfl rfl (ih (i + 1) (by omega) (by omega))
        first | (rw [tvic_yes c21 c31 (Or.inl hv)]; rfl) | (rw [tvic_yes c21 c31 (Or.inr ⟨bb, hv, c51⟩)]; rfl) | (rw [tvic_no (Or.inl c21)]; done) | (rw [tvic_no (Or.inr (Or.inl c31))]; done) | (rw [tvic_no (Or.inr (Or.inr ⟨bb, hv, c51⟩)), hv]; done)
      · refine px_aload_n dX4_victim_24 rfl ?_
        refine px_iload_n dX4_victim_25 rfl ?_
        refine px_iload dX4_victim_26 rfl ?_
        refine px_vi (M2 := mX4_mayRob) (c_X4_mayRob hOK t i ht (by omega)) mw_X4_mayRob wm_X4_mayRob we_X4_mayRob (Or.inl ml_X4_66) dX4_victim_28 (TH_obj) rfl (by decide) rfl rfl (Nat.le_of_ble_eq_true rfl) ⟨rfl, rfl⟩ ?_
        refine px_if_eqB 57 dX4_victim_31 (by decide) (fun c31 => ?_) (fun c31 => ?_)
        · refine px_inc_4 dX4_victim_57 rfl (nI_1 _) (by decide) rfl ?_
          refine px_goto 6 dX4_victim_60 (by decide) ?_
          refine px_eq (lo2 := [some (.ref b), some (.int (nI t)), some (.int (nI rob)), some (.int (oI (tvic T t rob (i + 1)))), some (.int (nI (i + 1)))]) ?_ rfl rfl (ih (i + 1) (by omega) (by omega))
          first | (rw [tvic_yes c21 c31 (Or.inl hv)]; rfl) | (rw [tvic_yes c21 c31 (Or.inr ⟨bb, hv, c51⟩)]; rfl) | (rw [tvic_no (Or.inl c21)]; done) | (rw [tvic_no (Or.inr (Or.inl c31))]; done) | (rw [tvic_no (Or.inr (Or.inr ⟨bb, hv, c51⟩)), hv]; done)
        · rcases hv : tvic T t rob i with _ | bb
          · refine px_iload_n dX4_victim_34 rfl ?_
            refine px_if_lt 54 dX4_victim_35 (by decide) (fun c35 => ?_) (fun c35 => ?_)
            · first
              | exact absurd c35 (by decide)
              | exact absurd c35 (nI_pos (by omega))
              | (refine px_iload dX4_victim_54 rfl ?_
                 refine px_istn_3 dX4_victim_56 (by decide) rfl ?_
                 refine px_inc_4 dX4_victim_57 rfl (nI_1 _) (by decide) rfl ?_
                 refine px_goto 6 dX4_victim_60 (by decide) ?_
                 refine px_eq (lo2 := [some (.ref b), some (.int (nI t)), some (.int (nI rob)), some (.int (oI (tvic T t rob (i + 1)))), some (.int (nI (i + 1)))]) ?_ rfl rfl (ih (i + 1) (by omega) (by omega))
                 first | (rw [tvic_yes c21 c31 (Or.inl hv)]; rfl) | (rw [tvic_yes c21 c31 (Or.inr ⟨bb, hv, c51⟩)]; rfl) | (rw [tvic_no (Or.inl c21)]; done) | (rw [tvic_no (Or.inr (Or.inl c31))]; done) | (rw [tvic_no (Or.inr (Or.inr ⟨bb, hv, c51⟩)), hv]; done))
            · first
              | exact absurd c35 (by decide)
              | exact absurd c35 (nI_pos (by omega))
              | (refine px_aload_n dX4_victim_38 rfl ?_
                 refine px_tR 2 dX4_victim_39 (Or.inl fl_X4_18) (by decide) ?_
                 refine px_iload dX4_victim_42 rfl ?_
                 refine px_tL 2 dX4_victim_44 (by decide) (by show _ < 6; omega) ?_
                 refine px_aload_n dX4_victim_45 rfl ?_
                 refine px_tR 2 dX4_victim_46 (Or.inl fl_X4_18) (by decide) ?_
                 refine px_iload_n dX4_victim_49 rfl ?_
                 refine px_tL 2 dX4_victim_50 (by decide) (by show _ < 6; omega) ?_
                 refine px_icmp_leN 57 dX4_victim_51 (by decide) (by first | omega | exact hOK.lt (by decide) | exact hOK.lts (by decide)) (by first | omega | exact hOK.lt (by decide) | exact hOK.lts (by decide)) (fun c51 => ?_) (fun c51 => ?_)
                 · refine px_inc_4 dX4_victim_57 rfl (nI_1 _) (by decide) rfl ?_
                   refine px_goto 6 dX4_victim_60 (by decide) ?_
                   refine px_eq (lo2 := [some (.ref b), some (.int (nI t)), some (.int (nI rob)), some (.int (oI (tvic T t rob (i + 1)))), some (.int (nI (i + 1)))]) ?_ rfl rfl (ih (i + 1) (by omega) (by omega))
                   first | (rw [tvic_yes c21 c31 (Or.inl hv)]; rfl) | (rw [tvic_yes c21 c31 (Or.inr ⟨bb, hv, c51⟩)]; rfl) | (rw [tvic_no (Or.inl c21)]; done) | (rw [tvic_no (Or.inr (Or.inl c31))]; done) | (rw [tvic_no (Or.inr (Or.inr ⟨bb, hv, c51⟩)), hv]; done)
                 · refine px_iload dX4_victim_54 rfl ?_
                   refine px_istn_3 dX4_victim_56 (by decide) rfl ?_
                   refine px_inc_4 dX4_victim_57 rfl (nI_1 _) (by decide) rfl ?_
                   refine px_goto 6 dX4_victim_60 (by decide) ?_
                   refine px_eq (lo2 := [some (.ref b), some (.int (nI t)), some (.int (nI rob)), some (.int (oI (tvic T t rob (i + 1)))), some (.int (nI (i + 1)))]) ?_ rfl rfl (ih (i + 1) (by omega) (by omega))
                   first | (rw [tvic_yes c21 c31 (Or.inl hv)]; rfl) | (rw [tvic_yes c21 c31 (Or.inr ⟨bb, hv, c51⟩)]; rfl) | (rw [tvic_no (Or.inl c21)]; done) | (rw [tvic_no (Or.inr (Or.inl c31))]; done) | (rw [tvic_no (Or.inr (Or.inr ⟨bb, hv, c51⟩)), hv]; done))
          · have hbb := tvic_lt hv
            refine px_iload_n dX4_victim_34 rfl ?_
            refine px_if_lt 54 dX4_victim_35 (by decide) (fun c35 => ?_) (fun c35 => ?_)
            · first
              | exact absurd c35 (by decide)
              | exact absurd c35 (nI_pos (by omega))
              | (refine px_iload dX4_victim_54 rfl ?_
                 refine px_istn_3 dX4_victim_56 (by decide) rfl ?_
                 refine px_inc_4 dX4_victim_57 rfl (nI_1 _) (by decide) rfl ?_
                 refine px_goto 6 dX4_victim_60 (by decide) ?_
                 refine px_eq (lo2 := [some (.ref b), some (.int (nI t)), some (.int (nI rob)), some (.int (oI (tvic T t rob (i + 1)))), some (.int (nI (i + 1)))]) ?_ rfl rfl (ih (i + 1) (by omega) (by omega))
                 first | (rw [tvic_yes c21 c31 (Or.inl hv)]; rfl) | (rw [tvic_yes c21 c31 (Or.inr ⟨bb, hv, c51⟩)]; rfl) | (rw [tvic_no (Or.inl c21)]; done) | (rw [tvic_no (Or.inr (Or.inl c31))]; done) | (rw [tvic_no (Or.inr (Or.inr ⟨bb, hv, c51⟩)), hv]; done))
            · first
              | exact absurd c35 (by decide)
              | exact absurd c35 (nI_pos (by omega))
              | (refine px_aload_n dX4_victim_38 rfl ?_
                 refine px_tR 2 dX4_victim_39 (Or.inl fl_X4_18) (by decide) ?_
                 refine px_iload dX4_victim_42 rfl ?_
                 refine px_tL 2 dX4_victim_44 (by decide) (by show _ < 6; omega) ?_
                 refine px_aload_n dX4_victim_45 rfl ?_
                 refine px_tR 2 dX4_victim_46 (Or.inl fl_X4_18) (by decide) ?_
                 refine px_iload_n dX4_victim_49 rfl ?_
                 refine px_tL 2 dX4_victim_50 (by decide) (by show _ < 6; omega) ?_
                 refine px_icmp_leN 57 dX4_victim_51 (by decide) (by first | omega | exact hOK.lt (by decide) | exact hOK.lts (by decide)) (by first | omega | exact hOK.lt (by decide) | exact hOK.lts (by decide)) (fun c51 => ?_) (fun c51 => ?_)
                 · refine px_inc_4 dX4_victim_57 rfl (nI_1 _) (by decide) rfl ?_
                   refine px_goto 6 dX4_victim_60 (by decide) ?_
                   refine px_eq (lo2 := [some (.ref b), some (.int (nI t)), some (.int (nI rob)), some (.int (oI (tvic T t rob (i + 1)))), some (.int (nI (i + 1)))]) ?_ rfl rfl (ih (i + 1) (by omega) (by omega))
                   first | (rw [tvic_yes c21 c31 (Or.inl hv)]; rfl) | (rw [tvic_yes c21 c31 (Or.inr ⟨bb, hv, c51⟩)]; rfl) | (rw [tvic_no (Or.inl c21)]; done) | (rw [tvic_no (Or.inr (Or.inl c31))]; done) | (rw [tvic_no (Or.inr (Or.inr ⟨bb, hv, c51⟩)), hv]; done)
                 · refine px_iload dX4_victim_54 rfl ?_
                   refine px_istn_3 dX4_victim_56 (by decide) rfl ?_
                   refine px_inc_4 dX4_victim_57 rfl (nI_1 _) (by decide) rfl ?_
                   refine px_goto 6 dX4_victim_60 (by decide) ?_
                   refine px_eq (lo2 := [some (.ref b), some (.int (nI t)), some (.int (nI rob)), some (.int (oI (tvic T t rob (i + 1)))), some (.int (nI (i + 1)))]) ?_ rfl rfl (ih (i + 1) (by omega) (by omega))
                   first | (rw [tvic_yes c21 c31 (Or.inl hv)]; rfl) | (rw [tvic_yes c21 c31 (Or.inr ⟨bb, hv, c51⟩)]; rfl) | (rw [tvic_no (Or.inl c21)]; done) | (rw [tvic_no (Or.inr (Or.inl c31))]; done) | (rw [tvic_no (Or.inr (Or.inr ⟨bb, hv, c51⟩)), hv]; done))
set_option maxHeartbeats 4000000 in
set_option maxRecDepth 100000 in
theorem c_X4_victim {E : xE} {h : xHp} {b : Nat} {T : xT} (hOK : tOK T) (t rob : Nat) (ht : t < 4) (hr : rob < 64) : PMI E mX4_victim [.ref b, .int (nI t), .int (nI rob)] (TH E h b T) (oI (tvic T t rob (T.2 0))) (TH E h b T) := by
  refine pm_of [some (.ref b), some (.int (nI t)), some (.int (nI rob)), none, none] (by decide +kernel) (Nat.le_of_ble_eq_true rfl) rfl ?_
  refine px_bipush (v := -4) dX4_victim_0 (by decide) ?_
  refine px_istn_3 dX4_victim_2 (by decide) rfl ?_
  refine px_iconst (v := nI 0) dX4_victim_3 (by decide) ?_
  refine px_ist_4 dX4_victim_4 (by decide) rfl ?_
  exact l_X4_victim hOK t rob ht hr (T.2 0 + 1) 0 (Nat.zero_le _) (by omega)
end
section
/-- the town's own doings -/
def tshow (T : xT) (a : Nat) (v : Bool) : xT := tSS T 2 (if v then T.2 2 ||| 2 ^ a else ndif (T.2 2) (2 ^ a))
def tlose (T : xT) (a : Nat) : xT := if T.2 5 ≤ T.1 2 a then tSS T 3 (T.2 3 ||| 2 ^ a) else tSA (tSA T 1 a ((T.1 1 a + 1) % 4)) 2 a 0
def tcl (T : xT) : Nat := if T.2 4 % 2 = 1 then 2 else 0
def tgrow (T : xT) (a : Nat) : Nat := if T.1 0 a = 1 then 4 else if T.1 0 a = 2 then tcl T else if T.1 0 a = 3 then (if (T.2 2).testBit a then 7 else 4) else if T.1 0 a = 4 then min (tcl T) (6 - T.1 2 a) else 2
theorem tcl_le (T : xT) : tcl T ≤ 2 := by unfold tcl; split <;> omega
theorem tgrow_le (T : xT) (a : Nat) : tgrow T a ≤ 7 := by
  have := tcl_le T
  unfold tgrow
  repeat' split
  all_goals omega
def tstep (T : xT) (rob a : Nat) : xT := if rob.testBit a then tlose T a else if (T.2 3).testBit a then T else tSA T 2 a (min 99 (T.1 2 a + tgrow T a))
def tsteps (T : xT) (rob : Nat) : Nat → xT
  | 0 => T
  | n + 1 => tstep (tsteps T rob n) rob n
def tpass (T : xT) (hm : Nat → Bool) : xT := tSS (tsteps T (trob T hm (T.2 1)) (T.2 0)) 4 (T.2 4 + 1)
def tdr1 (T : xT) : xT := tSS T 6 ((T.2 6 * 1103515245 + 12345) % 2147483648)
def tdr2 (T : xT) : xT := if T.2 0 = 0 then T else tshow T (T.2 6 / 65536 % T.2 0) (decide (T.2 6 / 128 % 2 = 0))
def tdraw (T : xT) : xT := tdr2 (tdr1 T)
def twhom (T : xT) (t : Nat) : Nat → Nat
  | 0 => 0
  | n + 1 => if tmay T t n then twhom T t n ||| 2 ^ n else twhom T t n
def twho (T : xT) (a : Nat) : Nat → Nat
  | 0 => 0
  | n + 1 => if tmay T n a then twho T a n ||| 2 ^ n else twho T a n
def tsum (T : xT) : Nat → Nat
  | 0 => 0
  | n + 1 => if (T.2 3).testBit n then tsum T n else tsum T n + T.1 2 n
theorem tSA_ok {T : xT} {j i v : Nat} (h : tOK T) (hv : (j = 0 ∧ v ≤ 4) ∨ (j = 1 ∧ v ≤ 3) ∨ (j = 2 ∧ v ≤ 99) ∨ (j = 3 ∧ v ≤ 9) ∨ (j = 4 ∧ v ≤ 9) ∨ (j = 5 ∧ v ≤ 4)) : tOK (tSA T j i v) := by
  obtain ⟨h6, h0, h1, h2, h3, h4, h5⟩ := h
  refine ⟨h6, ?_, ?_, ?_, ?_, ?_, ?_⟩ <;> intro q <;> simp only [tSA]
  · have := h0 q; split <;> omega
  · have := h1 q; split <;> omega
  · have := h2 q; split <;> omega
  · have := h3 q; split <;> omega
  · have := h4 q; split <;> omega
  · have := h5 q; split <;> omega
theorem tSS_ok {T : xT} {j v : Nat} (h : tOK T) (hv : (j = 0 ∧ v ≤ 6) ∨ (j = 1 ∧ v ≤ 4) ∨ (j = 2 ∧ v < 64) ∨ (j = 3 ∧ v < 64) ∨ (j = 4 ∧ v < 2 ^ 30) ∨ (j = 5 ∧ v ≤ 99) ∨ (j = 6 ∧ v < 2 ^ 31)) : tOK (tSS T j v) := by
  obtain ⟨⟨a0, a1, a2, a3, a4, a5, a6⟩, h0⟩ := h
  refine ⟨⟨?_, ?_, ?_, ?_, ?_, ?_, ?_⟩, h0⟩ <;> simp only [tSS] <;> split <;> omega
theorem tshow_ok {T : xT} {a : Nat} {v : Bool} (h : tOK T) (ha : a < 6) : tOK (tshow T a v) := by
  have h2 := h.1.2.2.1
  refine tSS_ok h (Or.inr (Or.inr (Or.inl ⟨rfl, ?_⟩)))
  cases v
  · exact ndif_lt (n := 6) h2
  · exact or_lt64 h2 ha
theorem tlose_ok {T : xT} {a : Nat} (h : tOK T) (ha : a < 6) : tOK (tlose T a) := by
  unfold tlose
  split
  · exact tSS_ok h (Or.inr (Or.inr (Or.inr (Or.inl ⟨rfl, or_lt64 h.1.2.2.2.1 ha⟩))))
  · exact tSA_ok (tSA_ok h (by omega)) (by omega)
theorem tstep_ok {T : xT} {rob a : Nat} (h : tOK T) (ha : a < 6) : tOK (tstep T rob a) := by
  unfold tstep
  split
  · exact tlose_ok h ha
  · split
    · exact h
    · exact tSA_ok h (by omega)
theorem tstep_s {T : xT} {rob a : Nat} : (tstep T rob a).2 0 = T.2 0 ∧ (tstep T rob a).2 1 = T.2 1 ∧ (tstep T rob a).2 2 = T.2 2 ∧ (tstep T rob a).2 4 = T.2 4 ∧ (tstep T rob a).2 5 = T.2 5 ∧ (tstep T rob a).2 6 = T.2 6 := by
  unfold tstep tlose
  split
  · split <;> simp [tSS, tSA]
  · split
    · exact ⟨rfl, rfl, rfl, rfl, rfl, rfl⟩
    · simp [tSA]
theorem tsteps_ok {T : xT} {rob : Nat} (h : tOK T) : ∀ n, n ≤ 6 → tOK (tsteps T rob n)
  | 0, _ => h
  | n + 1, hn => tstep_ok (tsteps_ok h n (by omega)) (by omega)
theorem tsteps_s {T : xT} {rob : Nat} : ∀ n, (tsteps T rob n).2 0 = T.2 0 ∧ (tsteps T rob n).2 1 = T.2 1 ∧ (tsteps T rob n).2 2 = T.2 2 ∧ (tsteps T rob n).2 4 = T.2 4 ∧ (tsteps T rob n).2 5 = T.2 5 ∧ (tsteps T rob n).2 6 = T.2 6
  | 0 => ⟨rfl, rfl, rfl, rfl, rfl, rfl⟩
  | n + 1 => by
    have h1 := tstep_s (T := tsteps T rob n) (rob := rob) (a := n)
    have h2 := tsteps_s (T := T) (rob := rob) n
    show (tstep (tsteps T rob n) rob n).2 0 = T.2 0 ∧ _
    exact ⟨h1.1.trans h2.1, h1.2.1.trans h2.2.1, h1.2.2.1.trans h2.2.2.1, h1.2.2.2.1.trans h2.2.2.2.1, h1.2.2.2.2.1.trans h2.2.2.2.2.1, h1.2.2.2.2.2.trans h2.2.2.2.2.2⟩
theorem tpass_ok {T : xT} {hm : Nat → Bool} (h : tOK T) (hn : T.2 4 + 1 < 2 ^ 30) : tOK (tpass T hm) := tSS_ok (tsteps_ok h _ h.1.1) (by omega)
theorem tpass_s {T : xT} {hm : Nat → Bool} : (tpass T hm).2 0 = T.2 0 ∧ (tpass T hm).2 1 = T.2 1 ∧ (tpass T hm).2 2 = T.2 2 ∧ (tpass T hm).2 4 = T.2 4 + 1 ∧ (tpass T hm).2 5 = T.2 5 ∧ (tpass T hm).2 6 = T.2 6 := by
  have h2 := tsteps_s (T := T) (rob := trob T hm (T.2 1)) (T.2 0)
  simp only [tpass, tSS]
  exact ⟨h2.1, h2.2.1, h2.2.2.1, rfl, h2.2.2.2.2.1, h2.2.2.2.2.2⟩
theorem tdr1_ok {T : xT} (h : tOK T) : tOK (tdr1 T) := tSS_ok h (by omega)
theorem tdr2_ok {T : xT} (h : tOK T) : tOK (tdr2 T) := by
  have h6 := h.1.1
  unfold tdr2
  split
  · exact h
  · refine tshow_ok h ?_
    have := Nat.mod_lt (T.2 6 / 65536) (show 0 < T.2 0 by omega)
    omega
theorem tdraw_ok {T : xT} (h : tOK T) : tOK (tdraw T) := tdr2_ok (tdr1_ok h)
theorem twhom_lt {T : xT} {t : Nat} : ∀ n, n ≤ 6 → twhom T t n < 64
  | 0, _ => by rw [twhom]; decide
  | n + 1, h => by
    rw [twhom]
    split
    · exact or_lt64 (twhom_lt n (by omega)) (by omega)
    · exact twhom_lt n (by omega)
theorem twho_lt {T : xT} {a : Nat} : ∀ n, n ≤ 4 → twho T a n < 64
  | 0, _ => by rw [twho]; decide
  | n + 1, h => by
    rw [twho]
    split
    · exact or_lt64 (twho_lt n (by omega)) (by omega)
    · exact twho_lt n (by omega)
set_option maxHeartbeats 4000000 in
set_option maxRecDepth 100000 in
theorem l_X4_robbed {E : xE} {h : xHp} {b : Nat} {T : xT} (hOK : tOK T) (x : Int32) (hm : Nat → Bool) (hx : ∀ i, i < 4 → hbit x i = hm i) : ∀ (n i : Nat), i ≤ T.2 1 → T.2 1 + 1 ≤ i + n → PW E mX4_robbedTonight (fun v h1 => v = some (.int (nI (trob T hm (T.2 1)))) ∧ h1 = TH E h b T) 0 0 4 [some (.ref b), some (.int x), some (.int (nI (trob T hm i))), some (.int (nI i)), none] [] (TH E h b T) := by
  have hm4 := hOK.1.2.1
  have hm6 := hOK.1.1
  intro n
  induction n with
  | zero =>
    intro i h1 h2
    omega
  | succ n ih =>
    intro i h1 h2
    refine px_iload_n dX4_robbedTonight_4 rfl ?_
    refine px_aload_n dX4_robbedTonight_5 rfl ?_
    refine px_tS 1 dX4_robbedTonight_6 (Or.inl fl_X4_46) (by decide) ?_
    refine px_icmp_geN 51 dX4_robbedTonight_9 (by decide) (by first | omega | exact hOK.lt (by decide) | exact hOK.lts (by decide)) (by first | omega | exact hOK.lt (by decide) | exact hOK.lts (by decide)) (fun c9 => ?_) (fun c9 => ?_)
    · refine px_iload_n dX4_robbedTonight_51 rfl ?_
      have hi : i = T.2 1 := by omega
      subst hi
      exact px_iret dX4_robbedTonight_52 rfl rfl rfl ⟨rfl, rfl⟩
    · refine px_iload_n dX4_robbedTonight_12 rfl ?_
      refine px_iload_n dX4_robbedTonight_13 rfl ?_
      refine px_si (c_X5_has x i) mw_X5_has wt_X5_has (Or.inr ⟨_, ml_X4_62⟩) dX4_robbedTonight_14 (by decide) rfl rfl (Nat.le_of_ble_eq_true rfl) ⟨rfl, rfl⟩ ?_
      refine px_if_eqB 25 dX4_robbedTonight_17 (by decide) (fun c17 => ?_) (fun c17 => ?_)
      · refine px_aload_n dX4_robbedTonight_25 rfl ?_
        refine px_iload_n dX4_robbedTonight_26 rfl ?_
        refine px_iload_n dX4_robbedTonight_27 rfl ?_
        refine px_vi (M2 := mX4_victim) (c_X4_victim hOK i (trob T hm i) (by omega) (trob_lt hOK.1.1 _)) mw_X4_victim wm_X4_victim we_X4_victim (Or.inl ml_X4_69) dX4_robbedTonight_28 (TH_obj) rfl (by decide) rfl rfl (Nat.le_of_ble_eq_true rfl) ⟨rfl, rfl⟩ ?_
        rcases hv : tvic T i (trob T hm i) (T.2 0) with _ | bb
        · refine px_topi (show oI none = -4 from rfl) ?_
          refine px_ist_4 dX4_robbedTonight_31 (by decide) rfl ?_
          refine px_iload dX4_robbedTonight_33 rfl ?_
          refine px_if_lt 45 dX4_robbedTonight_35 (by decide) (fun _ => ?_) (fun z => absurd z (by decide))
          refine px_inc_3 dX4_robbedTonight_45 rfl (nI_1 _) (by decide) rfl ?_
          refine px_goto 4 dX4_robbedTonight_48 (by decide) ?_
          refine px_fg_4 ?_
          refine px_eq (lo2 := [some (.ref b), some (.int x), some (.int (nI (trob T hm (i + 1)))), some (.int (nI (i + 1))), none]) ?_ rfl rfl (ih (i + 1) (by omega) (by omega))
          have hh := hx i (by omega)
          rw [c17] at hh
          first | (rw [trob, if_pos hh.symm]; done) | (rw [trob, ← hh, hv]; done) | (rw [trob, ← hh, hv]; rfl)
        · have hbb := tvic_lt hv
          refine px_topi (show oI (some bb) = nI bb from rfl) ?_
          refine px_ist_4 dX4_robbedTonight_31 (by decide) rfl ?_
          refine px_iload dX4_robbedTonight_33 rfl ?_
          refine px_if_ltN 45 dX4_robbedTonight_35 (by decide) (by first | omega | exact hOK.lt (by decide) | exact hOK.lts (by decide)) ?_
          refine px_iload_n dX4_robbedTonight_38 rfl ?_
          refine px_iconst (v := nI 1) dX4_robbedTonight_39 (by decide) ?_
          refine px_iload dX4_robbedTonight_40 rfl ?_
          refine px_ishl1 dX4_robbedTonight_42 (by omega) ?_
          refine px_iorN dX4_robbedTonight_43 ?_
          refine px_istn_2 dX4_robbedTonight_44 (by decide) rfl ?_
          refine px_inc_3 dX4_robbedTonight_45 rfl (nI_1 _) (by decide) rfl ?_
          refine px_goto 4 dX4_robbedTonight_48 (by decide) ?_
          refine px_fg_4 ?_
          refine px_eq (lo2 := [some (.ref b), some (.int x), some (.int (nI (trob T hm (i + 1)))), some (.int (nI (i + 1))), none]) ?_ rfl rfl (ih (i + 1) (by omega) (by omega))
          have hh := hx i (by omega)
          rw [c17] at hh
          first | (rw [trob, if_pos hh.symm]; done) | (rw [trob, ← hh, hv]; done) | (rw [trob, ← hh, hv]; rfl)
      · refine px_bipush (v := -4) dX4_robbedTonight_20 (by decide) ?_
        refine px_goto 31 dX4_robbedTonight_22 (by decide) ?_
        refine px_ist_4 dX4_robbedTonight_31 (by decide) rfl ?_
        refine px_iload dX4_robbedTonight_33 rfl ?_
        refine px_if_lt 45 dX4_robbedTonight_35 (by decide) (fun _ => ?_) (fun z => absurd z (by decide))
        refine px_inc_3 dX4_robbedTonight_45 rfl (nI_1 _) (by decide) rfl ?_
        refine px_goto 4 dX4_robbedTonight_48 (by decide) ?_
        refine px_fg_4 ?_
        refine px_eq (lo2 := [some (.ref b), some (.int x), some (.int (nI (trob T hm (i + 1)))), some (.int (nI (i + 1))), none]) ?_ rfl rfl (ih (i + 1) (by omega) (by omega))
        have hh := hx i (by omega)
        rw [c17] at hh
        first | (rw [trob, if_pos hh.symm]; done) | (rw [trob, ← hh, hv]; done) | (rw [trob, ← hh, hv]; rfl)
set_option maxHeartbeats 4000000 in
set_option maxRecDepth 100000 in
theorem c_X4_robbed {E : xE} {h : xHp} {b : Nat} {T : xT} (hOK : tOK T) (x : Int32) (hm : Nat → Bool) (hx : ∀ i, i < 4 → hbit x i = hm i) : PMI E mX4_robbedTonight [.ref b, .int x] (TH E h b T) (nI (trob T hm (T.2 1))) (TH E h b T) := by
  refine pm_of [some (.ref b), some (.int x), none, none, none] (by decide +kernel) (Nat.le_of_ble_eq_true rfl) rfl ?_
  refine px_iconst (v := nI 0) dX4_robbedTonight_0 (by decide) ?_
  refine px_istn_2 dX4_robbedTonight_1 (by decide) rfl ?_
  refine px_iconst (v := nI 0) dX4_robbedTonight_2 (by decide) ?_
  refine px_istn_3 dX4_robbedTonight_3 (by decide) rfl ?_
  exact l_X4_robbed hOK x hm hx (T.2 1 + 1) 0 (Nat.zero_le _) (by omega)
set_option maxHeartbeats 4000000 in
set_option maxRecDepth 100000 in
theorem c_X4_lose {E : xE} {h : xHp} {b : Nat} {T : xT} (hOK : tOK T) (a : Nat) (ha : a < 6) : PMV E mX4_lose [.ref b, .int (nI a)] (TH E h b T) (TH E h b (tlose T a)) := by
  refine pm_of [some (.ref b), some (.int (nI a))] (by decide +kernel) (Nat.le_of_ble_eq_true rfl) rfl ?_
  refine px_aload_n dX4_lose_0 rfl ?_
  refine px_tR 2 dX4_lose_1 (Or.inl fl_X4_18) (by decide) ?_
  refine px_iload_n dX4_lose_4 rfl ?_
  refine px_tL 2 dX4_lose_5 (by decide) (by show _ < 6; omega) ?_
  refine px_aload_n dX4_lose_6 rfl ?_
  refine px_tS 5 dX4_lose_7 (Or.inl fl_X4_30) (by decide) ?_
  refine px_icmp_ltN 28 dX4_lose_10 (by decide) (by first | omega | exact hOK.lt (by decide) | exact hOK.lts (by decide)) (by first | omega | exact hOK.lt (by decide) | exact hOK.lts (by decide)) (fun c10 => ?_) (fun c10 => ?_)
  · refine px_aload_n dX4_lose_28 rfl ?_
    refine px_tR 1 dX4_lose_29 (Or.inl fl_X4_15) (by decide) ?_
    refine px_iload_n dX4_lose_32 rfl ?_
    refine px_aload_n dX4_lose_33 rfl ?_
    refine px_tR 1 dX4_lose_34 (Or.inl fl_X4_15) (by decide) ?_
    refine px_iload_n dX4_lose_37 rfl ?_
    refine px_tL 1 dX4_lose_38 (by decide) (by show _ < 6; omega) ?_
    refine px_iconst (v := nI 1) dX4_lose_39 (by decide) ?_
    refine px_iaddN dX4_lose_40 ?_
    refine px_iconst (v := nI 4) dX4_lose_41 (by decide) ?_
    have q1 := hOK.2.2.1 a
    refine px_iremN dX4_lose_42 (by first | omega | exact hOK.lt (by decide) | exact hOK.lts (by decide)) (by first | omega | exact hOK.lt (by decide) | exact hOK.lts (by decide)) (by first | omega | exact hOK.lt (by decide) | exact hOK.lts (by decide)) ?_
    refine px_tW 1 dX4_lose_43 (by decide) (by show _ < 6; omega) ?_
    refine px_aload_n dX4_lose_44 rfl ?_
    refine px_tR 2 dX4_lose_45 (Or.inl fl_X4_18) (by decide) ?_
    refine px_iload_n dX4_lose_48 rfl ?_
    refine px_iconst (v := nI 0) dX4_lose_49 (by decide) ?_
    refine px_tW 2 dX4_lose_50 (by decide) (by show _ < 6; omega) ?_
    exact px_vret dX4_lose_51 rfl rfl rfl ⟨rfl, by unfold tlose; first | rw [if_pos c10] | rw [if_neg (Nat.not_le.mpr c10)]⟩
  · refine px_aload_n dX4_lose_13 rfl ?_
    refine px_dup dX4_lose_14 rfl ?_
    refine px_tS 3 dX4_lose_15 (Or.inl fl_X4_52) (by decide) ?_
    refine px_iconst (v := nI 1) dX4_lose_18 (by decide) ?_
    refine px_iload_n dX4_lose_19 rfl ?_
    refine px_ishl1 dX4_lose_20 (by omega) ?_
    refine px_iorN dX4_lose_21 ?_
    refine px_tP 3 dX4_lose_22 (Or.inl fl_X4_52) (by decide) ?_
    refine px_goto 51 dX4_lose_25 (by decide) ?_
    exact px_vret dX4_lose_51 rfl rfl rfl ⟨rfl, by unfold tlose; first | rw [if_pos c10] | rw [if_neg (Nat.not_le.mpr c10)]⟩
set_option maxHeartbeats 4000000 in
set_option maxRecDepth 100000 in
theorem c_X4_setShown {E : xE} {h : xHp} {b : Nat} {T : xT} (a : Nat) (v : Bool) (ha : a < 6) : PMV E mX4_setShown [.ref b, .int (nI a), .int (bI v)] (TH E h b T) (TH E h b (tshow T a v)) := by
  refine pm_of [some (.ref b), some (.int (nI a)), some (.int (bI v))] (by decide +kernel) (Nat.le_of_ble_eq_true rfl) rfl ?_
  refine px_aload_n dX4_setShown_0 rfl ?_
  refine px_iload_n dX4_setShown_1 rfl ?_
  refine px_if_eqB 16 dX4_setShown_2 (by decide) (fun c2 => ?_) (fun c2 => ?_)
  · refine px_aload_n dX4_setShown_16 rfl ?_
    refine px_tS 2 dX4_setShown_17 (Or.inl fl_X4_49) (by decide) ?_
    refine px_iconst (v := nI 1) dX4_setShown_20 (by decide) ?_
    refine px_iload_n dX4_setShown_21 rfl ?_
    refine px_ishl1 dX4_setShown_22 (by omega) ?_
    refine px_iconst (v := -1) dX4_setShown_23 (by decide) ?_
    refine px_ixor dX4_setShown_24 ?_
    refine px_iand dX4_setShown_25 (px_topi (nx_dif _ _) ?_)
    refine px_tP 2 dX4_setShown_26 (Or.inl fl_X4_49) (by decide) ?_
    exact px_vret dX4_setShown_29 rfl rfl rfl ⟨rfl, by rw [tshow, c2]; rfl⟩
  · refine px_aload_n dX4_setShown_5 rfl ?_
    refine px_tS 2 dX4_setShown_6 (Or.inl fl_X4_49) (by decide) ?_
    refine px_iconst (v := nI 1) dX4_setShown_9 (by decide) ?_
    refine px_iload_n dX4_setShown_10 rfl ?_
    refine px_ishl1 dX4_setShown_11 (by omega) ?_
    refine px_iorN dX4_setShown_12 ?_
    refine px_goto 26 dX4_setShown_13 (by decide) ?_
    refine px_tP 2 dX4_setShown_26 (Or.inl fl_X4_49) (by decide) ?_
    exact px_vret dX4_setShown_29 rfl rfl rfl ⟨rfl, by rw [tshow, c2]; rfl⟩
set_option maxHeartbeats 4000000 in
set_option maxRecDepth 100000 in
theorem c_X4_growth {E : xE} {h : xHp} {b : Nat} {T : xT} (hOK : tOK T) (a : Nat) (ha : a < 6) : PMI E mX4_growth [.ref b, .int (nI a)] (TH E h b T) (nI (tgrow T a)) (TH E h b T) := by
  refine pm_of [some (.ref b), some (.int (nI a)), none, none] (by decide +kernel) (Nat.le_of_ble_eq_true rfl) rfl ?_
  refine px_iconst (v := nI 4) dX4_growth_0 (by decide) ?_
  refine px_istn_2 dX4_growth_1 (by decide) rfl ?_
  refine px_aload_n dX4_growth_2 rfl ?_
  refine px_tS 4 dX4_growth_3 (Or.inl fl_X4_55) (by decide) ?_
  refine px_iconst (v := nI 2) dX4_growth_6 (by decide) ?_
  refine px_iremN dX4_growth_7 (by first | omega | exact hOK.lt (by decide) | exact hOK.lts (by decide)) (by first | omega | exact hOK.lt (by decide) | exact hOK.lts (by decide)) (by first | omega | exact hOK.lt (by decide) | exact hOK.lts (by decide)) ?_
  refine px_iconst (v := nI 1) dX4_growth_8 (by decide) ?_
  refine px_icmp_neN 16 dX4_growth_9 (by decide) (by first | omega | exact hOK.lt (by decide) | exact hOK.lts (by decide)) (by first | omega | exact hOK.lt (by decide) | exact hOK.lts (by decide)) (fun c9 => ?_) (fun c9 => ?_)
  · refine px_iconst (v := nI 0) dX4_growth_16 (by decide) ?_
    refine px_istn_3 dX4_growth_17 (by decide) rfl ?_
    refine px_aload_n dX4_growth_18 rfl ?_
    refine px_tR 0 dX4_growth_19 (Or.inl fl_X4_9) (by decide) ?_
    refine px_iload_n dX4_growth_22 rfl ?_
    refine px_tL 0 dX4_growth_23 (by decide) (by show _ < 6; omega) ?_
    have hk := hOK.2.1 a
    have hkk : T.1 0 a = 0 ∨ T.1 0 a = 1 ∨ T.1 0 a = 2 ∨ T.1 0 a = 3 ∨ T.1 0 a = 4 := by omega
    rcases hkk with h0 | h0 | h0 | h0 | h0
    · refine px_topi (show nI (T.1 0 a) = nI 0 by rw [h0]) ?_
      refine px_tabOut 97 dX4_growth_24 (by decide) (by decide) ?_
      refine px_iconst (v := nI 2) dX4_growth_97 (by decide) ?_
      exact px_iret dX4_growth_98 rfl rfl rfl ⟨by simp_all [tgrow, tcl], rfl⟩
    · refine px_topi (show nI (T.1 0 a) = nI 1 by rw [h0]) ?_
      refine px_tabIn 56 dX4_growth_24 (by decide) (by decide) rfl (by decide) ?_
      refine px_iload_n dX4_growth_56 rfl ?_
      exact px_iret dX4_growth_57 rfl rfl rfl ⟨by simp_all [tgrow, tcl], rfl⟩
    · refine px_topi (show nI (T.1 0 a) = nI 2 by rw [h0]) ?_
      refine px_tabIn 58 dX4_growth_24 (by decide) (by decide) rfl (by decide) ?_
      refine px_iload_n dX4_growth_58 rfl ?_
      exact px_iret dX4_growth_59 rfl rfl rfl ⟨by simp_all [tgrow, tcl], rfl⟩
    · refine px_topi (show nI (T.1 0 a) = nI 3 by rw [h0]) ?_
      refine px_tabIn 60 dX4_growth_24 (by decide) (by decide) rfl (by decide) ?_
      refine px_aload_n dX4_growth_60 rfl ?_
      refine px_tS 2 dX4_growth_61 (Or.inl fl_X4_49) (by decide) ?_
      refine px_iload_n dX4_growth_64 rfl ?_
      refine px_si (c_X5_has_n (T.2 2) a (by have := hOK.1.2.2.1; omega) (by omega)) mw_X5_has wt_X5_has (Or.inr ⟨_, ml_X4_62⟩) dX4_growth_65 (by decide) rfl rfl (Nat.le_of_ble_eq_true rfl) ⟨rfl, rfl⟩ ?_
      refine px_if_eqB 77 dX4_growth_68 (by decide) (fun c68 => ?_) (fun c68 => ?_)
      · refine px_iload_n dX4_growth_77 rfl ?_
        exact px_iret dX4_growth_78 rfl rfl rfl ⟨by simp_all [tgrow, tcl], rfl⟩
      · refine px_iload_n dX4_growth_71 rfl ?_
        refine px_iconst (v := nI 3) dX4_growth_72 (by decide) ?_
        refine px_iaddN dX4_growth_73 ?_
        refine px_goto 78 dX4_growth_74 (by decide) ?_
        exact px_iret dX4_growth_78 rfl rfl rfl ⟨by simp_all [tgrow, tcl], rfl⟩
    · refine px_topi (show nI (T.1 0 a) = nI 4 by rw [h0]) ?_
      refine px_tabIn 79 dX4_growth_24 (by decide) (by decide) rfl (by decide) ?_
      refine px_iload_n dX4_growth_79 rfl ?_
      refine px_iconst (v := nI 0) dX4_growth_80 (by decide) ?_
      refine px_bipush (v := nI 6) dX4_growth_81 (by decide) ?_
      refine px_aload_n dX4_growth_83 rfl ?_
      refine px_tR 2 dX4_growth_84 (Or.inl fl_X4_18) (by decide) ?_
      refine px_iload_n dX4_growth_87 rfl ?_
      refine px_tL 2 dX4_growth_88 (by decide) (by show _ < 6; omega) ?_
      refine px_isub dX4_growth_89 ?_
      refine px_max dX4_growth_90 ml_X4_89 wt_Math_max wi_java_lang_Math wc_Math_max (by decide) (Nat.le_of_ble_eq_true rfl) ⟨Nat.zero_le _, Nat.zero_le _⟩ ?_
      refine px_topi (nI_max0 (by decide) (by have := hOK.2.2.2.1 a; omega)) ?_
      refine px_min dX4_growth_93 ml_X4_84 wt_Math_min wi_java_lang_Math wc_Math_min (by decide) (Nat.le_of_ble_eq_true rfl) ⟨Nat.zero_le _, Nat.zero_le _⟩ ?_
      refine px_topi (nI_min (by decide) (by omega)) ?_
      exact px_iret dX4_growth_96 rfl rfl rfl ⟨by simp_all [tgrow, tcl], rfl⟩
  · refine px_iconst (v := nI 2) dX4_growth_12 (by decide) ?_
    refine px_goto 17 dX4_growth_13 (by decide) ?_
    refine px_istn_3 dX4_growth_17 (by decide) rfl ?_
    refine px_aload_n dX4_growth_18 rfl ?_
    refine px_tR 0 dX4_growth_19 (Or.inl fl_X4_9) (by decide) ?_
    refine px_iload_n dX4_growth_22 rfl ?_
    refine px_tL 0 dX4_growth_23 (by decide) (by show _ < 6; omega) ?_
    have hk := hOK.2.1 a
    have hkk : T.1 0 a = 0 ∨ T.1 0 a = 1 ∨ T.1 0 a = 2 ∨ T.1 0 a = 3 ∨ T.1 0 a = 4 := by omega
    rcases hkk with h0 | h0 | h0 | h0 | h0
    · refine px_topi (show nI (T.1 0 a) = nI 0 by rw [h0]) ?_
      refine px_tabOut 97 dX4_growth_24 (by decide) (by decide) ?_
      refine px_iconst (v := nI 2) dX4_growth_97 (by decide) ?_
      exact px_iret dX4_growth_98 rfl rfl rfl ⟨by simp_all [tgrow, tcl], rfl⟩
    · refine px_topi (show nI (T.1 0 a) = nI 1 by rw [h0]) ?_
      refine px_tabIn 56 dX4_growth_24 (by decide) (by decide) rfl (by decide) ?_
      refine px_iload_n dX4_growth_56 rfl ?_
      exact px_iret dX4_growth_57 rfl rfl rfl ⟨by simp_all [tgrow, tcl], rfl⟩
    · refine px_topi (show nI (T.1 0 a) = nI 2 by rw [h0]) ?_
      refine px_tabIn 58 dX4_growth_24 (by decide) (by decide) rfl (by decide) ?_
      refine px_iload_n dX4_growth_58 rfl ?_
      exact px_iret dX4_growth_59 rfl rfl rfl ⟨by simp_all [tgrow, tcl], rfl⟩
    · refine px_topi (show nI (T.1 0 a) = nI 3 by rw [h0]) ?_
      refine px_tabIn 60 dX4_growth_24 (by decide) (by decide) rfl (by decide) ?_
      refine px_aload_n dX4_growth_60 rfl ?_
      refine px_tS 2 dX4_growth_61 (Or.inl fl_X4_49) (by decide) ?_
      refine px_iload_n dX4_growth_64 rfl ?_
      refine px_si (c_X5_has_n (T.2 2) a (by have := hOK.1.2.2.1; omega) (by omega)) mw_X5_has wt_X5_has (Or.inr ⟨_, ml_X4_62⟩) dX4_growth_65 (by decide) rfl rfl (Nat.le_of_ble_eq_true rfl) ⟨rfl, rfl⟩ ?_
      refine px_if_eqB 77 dX4_growth_68 (by decide) (fun c68 => ?_) (fun c68 => ?_)
      · refine px_iload_n dX4_growth_77 rfl ?_
        exact px_iret dX4_growth_78 rfl rfl rfl ⟨by simp_all [tgrow, tcl], rfl⟩
      · refine px_iload_n dX4_growth_71 rfl ?_
        refine px_iconst (v := nI 3) dX4_growth_72 (by decide) ?_
        refine px_iaddN dX4_growth_73 ?_
        refine px_goto 78 dX4_growth_74 (by decide) ?_
        exact px_iret dX4_growth_78 rfl rfl rfl ⟨by simp_all [tgrow, tcl], rfl⟩
    · refine px_topi (show nI (T.1 0 a) = nI 4 by rw [h0]) ?_
      refine px_tabIn 79 dX4_growth_24 (by decide) (by decide) rfl (by decide) ?_
      refine px_iload_n dX4_growth_79 rfl ?_
      refine px_iconst (v := nI 0) dX4_growth_80 (by decide) ?_
      refine px_bipush (v := nI 6) dX4_growth_81 (by decide) ?_
      refine px_aload_n dX4_growth_83 rfl ?_
      refine px_tR 2 dX4_growth_84 (Or.inl fl_X4_18) (by decide) ?_
      refine px_iload_n dX4_growth_87 rfl ?_
      refine px_tL 2 dX4_growth_88 (by decide) (by show _ < 6; omega) ?_
      refine px_isub dX4_growth_89 ?_
      refine px_max dX4_growth_90 ml_X4_89 wt_Math_max wi_java_lang_Math wc_Math_max (by decide) (Nat.le_of_ble_eq_true rfl) ⟨Nat.zero_le _, Nat.zero_le _⟩ ?_
      refine px_topi (nI_max0 (by decide) (by have := hOK.2.2.2.1 a; omega)) ?_
      refine px_min dX4_growth_93 ml_X4_84 wt_Math_min wi_java_lang_Math wc_Math_min (by decide) (Nat.le_of_ble_eq_true rfl) ⟨Nat.zero_le _, Nat.zero_le _⟩ ?_
      refine px_topi (nI_min (by decide) (by omega)) ?_
      exact px_iret dX4_growth_96 rfl rfl rfl ⟨by simp_all [tgrow, tcl], rfl⟩
set_option maxHeartbeats 4000000 in
set_option maxRecDepth 100000 in
theorem l_X4_pass {E : xE} {h : xHp} {b : Nat} {T : xT} (hOK : tOK T) (x : Int32) (rob : Nat) (hr : rob < 64) : ∀ (n i : Nat), i ≤ T.2 0 → T.2 0 + 1 ≤ i + n → PW E mX4_pass (fun v h1 => v = none ∧ h1 = TH E h b (tSS (tsteps T rob (T.2 0)) 4 (T.2 4 + 1))) 0 0 8 [some (.ref b), some (.int x), some (.int (nI rob)), some (.int (nI i))] [] (TH E h b (tsteps T rob i)) := by
  have hm6 := hOK.1.1
  intro n
  induction n with
  | zero =>
    intro i h1 h2
    omega
  | succ n ih =>
    intro i h1 h2
    have hs := tsteps_s (T := T) (rob := rob) i
    have hOK1 := tsteps_ok (rob := rob) hOK i (by omega)
    generalize hT1 : tsteps T rob i = T1 at hs hOK1 ⊢
    have hs0 := hs.1
    refine px_iload_n dX4_pass_8 rfl ?_
    refine px_aload_n dX4_pass_9 rfl ?_
    refine px_tS 0 dX4_pass_10 (Or.inl fl_X4_43) (by decide) ?_
    refine px_icmp_geN 72 dX4_pass_13 (by decide) (by first | omega | exact hOK1.lt (by decide) | exact hOK1.lts (by decide)) (by first | omega | exact hOK1.lt (by decide) | exact hOK1.lts (by decide)) (fun c13 => ?_) (fun c13 => ?_)
    · refine px_aload_n dX4_pass_72 rfl ?_
      refine px_dup dX4_pass_73 rfl ?_
      refine px_tS 4 dX4_pass_74 (Or.inl fl_X4_55) (by decide) ?_
      refine px_iconst (v := nI 1) dX4_pass_77 (by decide) ?_
      refine px_iaddN dX4_pass_78 ?_
      refine px_tP 4 dX4_pass_79 (Or.inl fl_X4_55) (by decide) ?_
      have hi : i = T.2 0 := by omega
      subst hi
      exact px_vret dX4_pass_82 rfl rfl rfl ⟨rfl, by rw [hT1, hs.2.2.2.1]⟩
    · refine px_iload_n dX4_pass_16 rfl ?_
      refine px_iload_n dX4_pass_17 rfl ?_
      refine px_si (c_X5_has_n rob i (by omega) (by omega)) mw_X5_has wt_X5_has (Or.inr ⟨_, ml_X4_62⟩) dX4_pass_18 (by decide) rfl rfl (Nat.le_of_ble_eq_true rfl) ⟨rfl, rfl⟩ ?_
      refine px_if_eqB 32 dX4_pass_21 (by decide) (fun c21 => ?_) (fun c21 => ?_)
      · refine px_aload_n dX4_pass_32 rfl ?_
        refine px_tS 3 dX4_pass_33 (Or.inl fl_X4_52) (by decide) ?_
        refine px_iload_n dX4_pass_36 rfl ?_
        refine px_si (c_X5_has_n (T1.2 3) i (by have := hOK1.1.2.2.2.1; omega) (by omega)) mw_X5_has wt_X5_has (Or.inr ⟨_, ml_X4_62⟩) dX4_pass_37 (by decide) rfl rfl (Nat.le_of_ble_eq_true rfl) ⟨rfl, rfl⟩ ?_
        refine px_if_neB 66 dX4_pass_40 (by decide) (fun c40 => ?_) (fun c40 => ?_)
        · refine px_inc_3 dX4_pass_66 rfl (nI_1 _) (by decide) rfl ?_
          refine px_goto 8 dX4_pass_69 (by decide) ?_
          refine px_heap ?_ (ih (i + 1) (by omega) (by omega))
          rw [tsteps, hT1, tstep]
          first | (rw [if_pos c21]; done) | (rw [if_neg (by simp [c21]), if_pos c40]; done) | (rw [if_neg (by simp [c21]), if_neg (by simp [c40])]; done)
        · refine px_aload_n dX4_pass_43 rfl ?_
          refine px_tR 2 dX4_pass_44 (Or.inl fl_X4_18) (by decide) ?_
          refine px_iload_n dX4_pass_47 rfl ?_
          refine px_bipush (v := nI 99) dX4_pass_48 (by decide) ?_
          refine px_aload_n dX4_pass_50 rfl ?_
          refine px_tR 2 dX4_pass_51 (Or.inl fl_X4_18) (by decide) ?_
          refine px_iload_n dX4_pass_54 rfl ?_
          refine px_tL 2 dX4_pass_55 (by decide) (by show _ < 6; omega) ?_
          refine px_aload_n dX4_pass_56 rfl ?_
          refine px_iload_n dX4_pass_57 rfl ?_
          refine px_vi (M2 := mX4_growth) (c_X4_growth hOK1 i (by omega)) mw_X4_growth wm_X4_growth we_X4_growth (Or.inl ml_X4_81) dX4_pass_58 (TH_obj) rfl (by decide) rfl rfl (Nat.le_of_ble_eq_true rfl) ⟨rfl, rfl⟩ ?_
          refine px_iaddN dX4_pass_61 ?_
          refine px_min dX4_pass_62 ml_X4_84 wt_Math_min wi_java_lang_Math wc_Math_min (by decide) (Nat.le_of_ble_eq_true rfl) ⟨Nat.zero_le _, Nat.zero_le _⟩ ?_
          refine px_topi (nI_min (by decide) (by have q1 := hOK1.2.2.2.1 i; have q2 := tgrow_le T1 i; omega)) ?_
          refine px_tW 2 dX4_pass_65 (by decide) (by show _ < 6; omega) ?_
          refine px_inc_3 dX4_pass_66 rfl (nI_1 _) (by decide) rfl ?_
          refine px_goto 8 dX4_pass_69 (by decide) ?_
          refine px_heap ?_ (ih (i + 1) (by omega) (by omega))
          rw [tsteps, hT1, tstep]
          first | (rw [if_pos c21]; done) | (rw [if_neg (by simp [c21]), if_pos c40]; done) | (rw [if_neg (by simp [c21]), if_neg (by simp [c40])]; done)
      · refine px_aload_n dX4_pass_24 rfl ?_
        refine px_iload_n dX4_pass_25 rfl ?_
        refine px_vv (M2 := mX4_lose) (c_X4_lose hOK1 i (by omega)) mw_X4_lose wm_X4_lose we_X4_lose (Or.inl ml_X4_77) dX4_pass_26 (TH_obj) rfl (by decide) rfl rfl (Nat.le_of_ble_eq_true rfl) ⟨rfl, rfl⟩ ?_
        refine px_goto 66 dX4_pass_29 (by decide) ?_
        refine px_inc_3 dX4_pass_66 rfl (nI_1 _) (by decide) rfl ?_
        refine px_goto 8 dX4_pass_69 (by decide) ?_
        refine px_heap ?_ (ih (i + 1) (by omega) (by omega))
        rw [tsteps, hT1, tstep]
        first | (rw [if_pos c21]; done) | (rw [if_neg (by simp [c21]), if_pos c40]; done) | (rw [if_neg (by simp [c21]), if_neg (by simp [c40])]; done)
set_option maxHeartbeats 4000000 in
set_option maxRecDepth 100000 in
theorem c_X4_pass {E : xE} {h : xHp} {b : Nat} {T : xT} (hOK : tOK T) (x : Int32) (hm : Nat → Bool) (hx : ∀ i, i < 4 → hbit x i = hm i) : PMV E mX4_pass [.ref b, .int x] (TH E h b T) (TH E h b (tpass T hm)) := by
  refine pm_of [some (.ref b), some (.int x), none, none] (by decide +kernel) (Nat.le_of_ble_eq_true rfl) rfl ?_
  refine px_aload_n dX4_pass_0 rfl ?_
  refine px_iload_n dX4_pass_1 rfl ?_
  refine px_vi (M2 := mX4_robbedTonight) (c_X4_robbed hOK x hm hx) mw_X4_robbedTonight wm_X4_robbedTonight we_X4_robbedTonight (Or.inl ml_X4_73) dX4_pass_2 (TH_obj) rfl (by decide) rfl rfl (Nat.le_of_ble_eq_true rfl) ⟨rfl, rfl⟩ ?_
  refine px_istn_2 dX4_pass_5 (by decide) rfl ?_
  refine px_iconst (v := nI 0) dX4_pass_6 (by decide) ?_
  refine px_istn_3 dX4_pass_7 (by decide) rfl ?_
  exact l_X4_pass hOK x (trob T hm (T.2 1)) (trob_lt hOK.1.1 _) (T.2 0 + 1) 0 (Nat.zero_le _) (by omega)
end
section
set_option maxHeartbeats 4000000 in
set_option maxRecDepth 100000 in
theorem l_X4_whomMayRob {E : xE} {h : xHp} {b : Nat} {T : xT} (hOK : tOK T) (t : Nat) (ht : t < 4) : ∀ (n i : Nat), i ≤ T.2 0 → T.2 0 + 1 ≤ i + n → PW E mX4_whomMayRob (fun v h1 => v = some (.int (nI (twhom T t (T.2 0)))) ∧ h1 = TH E h b T) 0 0 4 [some (.ref b), some (.int (nI t)), some (.int (nI (twhom T t i))), some (.int (nI i))] [] (TH E h b T) := by
  have hm4 := hOK.1.2.1
  have hm6 := hOK.1.1
  intro n
  induction n with
  | zero =>
    intro i h1 h2
    omega
  | succ n ih =>
    intro i h1 h2
    refine px_iload_n dX4_whomMayRob_4 rfl ?_
    refine px_aload_n dX4_whomMayRob_5 rfl ?_
    refine px_tS 0 dX4_whomMayRob_6 (Or.inl fl_X4_43) (by decide) ?_
    refine px_icmp_geN 33 dX4_whomMayRob_9 (by decide) (by first | omega | exact hOK.lt (by decide) | exact hOK.lts (by decide)) (by first | omega | exact hOK.lt (by decide) | exact hOK.lts (by decide)) (fun c9 => ?_) (fun c9 => ?_)
    · refine px_iload_n dX4_whomMayRob_33 rfl ?_
      have hi : i = T.2 0 := by omega
      subst hi
      exact px_iret dX4_whomMayRob_34 rfl rfl rfl ⟨rfl, rfl⟩
    · refine px_aload_n dX4_whomMayRob_12 rfl ?_
      refine px_iload_n dX4_whomMayRob_13 rfl ?_
      refine px_iload_n dX4_whomMayRob_14 rfl ?_
      refine px_vi (M2 := mX4_mayRob) (c_X4_mayRob hOK t i ht (by omega)) mw_X4_mayRob wm_X4_mayRob we_X4_mayRob (Or.inl ml_X4_66) dX4_whomMayRob_15 (TH_obj) rfl (by decide) rfl rfl (Nat.le_of_ble_eq_true rfl) ⟨rfl, rfl⟩ ?_
      refine px_if_eqB 27 dX4_whomMayRob_18 (by decide) (fun c18 => ?_) (fun c18 => ?_)
      · refine px_inc_3 dX4_whomMayRob_27 rfl (nI_1 _) (by decide) rfl ?_
        refine px_goto 4 dX4_whomMayRob_30 (by decide) ?_
        refine px_eq (lo2 := [some (.ref b), some (.int (nI t)), some (.int (nI (twhom T t (i + 1)))), some (.int (nI (i + 1)))]) ?_ rfl rfl (ih (i + 1) (by omega) (by omega))
        first | (rw [twhom, if_pos c18]; done) | (rw [twhom, if_neg (by simp [c18])]; done)
      · refine px_iload_n dX4_whomMayRob_21 rfl ?_
        refine px_iconst (v := nI 1) dX4_whomMayRob_22 (by decide) ?_
        refine px_iload_n dX4_whomMayRob_23 rfl ?_
        refine px_ishl1 dX4_whomMayRob_24 (by omega) ?_
        refine px_iorN dX4_whomMayRob_25 ?_
        refine px_istn_2 dX4_whomMayRob_26 (by decide) rfl ?_
        refine px_inc_3 dX4_whomMayRob_27 rfl (nI_1 _) (by decide) rfl ?_
        refine px_goto 4 dX4_whomMayRob_30 (by decide) ?_
        refine px_eq (lo2 := [some (.ref b), some (.int (nI t)), some (.int (nI (twhom T t (i + 1)))), some (.int (nI (i + 1)))]) ?_ rfl rfl (ih (i + 1) (by omega) (by omega))
        first | (rw [twhom, if_pos c18]; done) | (rw [twhom, if_neg (by simp [c18])]; done)
set_option maxHeartbeats 4000000 in
set_option maxRecDepth 100000 in
theorem c_X4_whomMayRob {E : xE} {h : xHp} {b : Nat} {T : xT} (hOK : tOK T) (t : Nat) (ht : t < 4) : PMI E mX4_whomMayRob [.ref b, .int (nI t)] (TH E h b T) (nI (twhom T t (T.2 0))) (TH E h b T) := by
  refine pm_of [some (.ref b), some (.int (nI t)), none, none] (by decide +kernel) (Nat.le_of_ble_eq_true rfl) rfl ?_
  refine px_iconst (v := nI 0) dX4_whomMayRob_0 (by decide) ?_
  refine px_istn_2 dX4_whomMayRob_1 (by decide) rfl ?_
  refine px_iconst (v := nI 0) dX4_whomMayRob_2 (by decide) ?_
  refine px_istn_3 dX4_whomMayRob_3 (by decide) rfl ?_
  exact l_X4_whomMayRob hOK t ht (T.2 0 + 1) 0 (Nat.zero_le _) (by omega)
set_option maxHeartbeats 4000000 in
set_option maxRecDepth 100000 in
theorem l_X4_thievesWhoMayRob {E : xE} {h : xHp} {b : Nat} {T : xT} (hOK : tOK T) (a : Nat) (ha : a < 6) : ∀ (n i : Nat), i ≤ T.2 1 → T.2 1 + 1 ≤ i + n → PW E mX4_thievesWhoMayRob (fun v h1 => v = some (.int (nI (twho T a (T.2 1)))) ∧ h1 = TH E h b T) 0 0 4 [some (.ref b), some (.int (nI a)), some (.int (nI (twho T a i))), some (.int (nI i))] [] (TH E h b T) := by
  have hm4 := hOK.1.2.1
  have hm6 := hOK.1.1
  intro n
  induction n with
  | zero =>
    intro i h1 h2
    omega
  | succ n ih =>
    intro i h1 h2
    refine px_iload_n dX4_thievesWhoMayRob_4 rfl ?_
    refine px_aload_n dX4_thievesWhoMayRob_5 rfl ?_
    refine px_tS 1 dX4_thievesWhoMayRob_6 (Or.inl fl_X4_46) (by decide) ?_
    refine px_icmp_geN 33 dX4_thievesWhoMayRob_9 (by decide) (by first | omega | exact hOK.lt (by decide) | exact hOK.lts (by decide)) (by first | omega | exact hOK.lt (by decide) | exact hOK.lts (by decide)) (fun c9 => ?_) (fun c9 => ?_)
    · refine px_iload_n dX4_thievesWhoMayRob_33 rfl ?_
      have hi : i = T.2 1 := by omega
      subst hi
      exact px_iret dX4_thievesWhoMayRob_34 rfl rfl rfl ⟨rfl, rfl⟩
    · refine px_aload_n dX4_thievesWhoMayRob_12 rfl ?_
      refine px_iload_n dX4_thievesWhoMayRob_13 rfl ?_
      refine px_iload_n dX4_thievesWhoMayRob_14 rfl ?_
      refine px_vi (M2 := mX4_mayRob) (c_X4_mayRob hOK i a (by omega) ha) mw_X4_mayRob wm_X4_mayRob we_X4_mayRob (Or.inl ml_X4_66) dX4_thievesWhoMayRob_15 (TH_obj) rfl (by decide) rfl rfl (Nat.le_of_ble_eq_true rfl) ⟨rfl, rfl⟩ ?_
      refine px_if_eqB 27 dX4_thievesWhoMayRob_18 (by decide) (fun c18 => ?_) (fun c18 => ?_)
      · refine px_inc_3 dX4_thievesWhoMayRob_27 rfl (nI_1 _) (by decide) rfl ?_
        refine px_goto 4 dX4_thievesWhoMayRob_30 (by decide) ?_
        refine px_eq (lo2 := [some (.ref b), some (.int (nI a)), some (.int (nI (twho T a (i + 1)))), some (.int (nI (i + 1)))]) ?_ rfl rfl (ih (i + 1) (by omega) (by omega))
        first | (rw [twho, if_pos c18]; done) | (rw [twho, if_neg (by simp [c18])]; done)
      · refine px_iload_n dX4_thievesWhoMayRob_21 rfl ?_
        refine px_iconst (v := nI 1) dX4_thievesWhoMayRob_22 (by decide) ?_
        refine px_iload_n dX4_thievesWhoMayRob_23 rfl ?_
        refine px_ishl1 dX4_thievesWhoMayRob_24 (by omega) ?_
        refine px_iorN dX4_thievesWhoMayRob_25 ?_
        refine px_istn_2 dX4_thievesWhoMayRob_26 (by decide) rfl ?_
        refine px_inc_3 dX4_thievesWhoMayRob_27 rfl (nI_1 _) (by decide) rfl ?_
        refine px_goto 4 dX4_thievesWhoMayRob_30 (by decide) ?_
        refine px_eq (lo2 := [some (.ref b), some (.int (nI a)), some (.int (nI (twho T a (i + 1)))), some (.int (nI (i + 1)))]) ?_ rfl rfl (ih (i + 1) (by omega) (by omega))
        first | (rw [twho, if_pos c18]; done) | (rw [twho, if_neg (by simp [c18])]; done)
set_option maxHeartbeats 4000000 in
set_option maxRecDepth 100000 in
theorem c_X4_thievesWhoMayRob {E : xE} {h : xHp} {b : Nat} {T : xT} (hOK : tOK T) (a : Nat) (ha : a < 6) : PMI E mX4_thievesWhoMayRob [.ref b, .int (nI a)] (TH E h b T) (nI (twho T a (T.2 1))) (TH E h b T) := by
  refine pm_of [some (.ref b), some (.int (nI a)), none, none] (by decide +kernel) (Nat.le_of_ble_eq_true rfl) rfl ?_
  refine px_iconst (v := nI 0) dX4_thievesWhoMayRob_0 (by decide) ?_
  refine px_istn_2 dX4_thievesWhoMayRob_1 (by decide) rfl ?_
  refine px_iconst (v := nI 0) dX4_thievesWhoMayRob_2 (by decide) ?_
  refine px_istn_3 dX4_thievesWhoMayRob_3 (by decide) rfl ?_
  exact l_X4_thievesWhoMayRob hOK a ha (T.2 1 + 1) 0 (Nat.zero_le _) (by omega)
set_option maxHeartbeats 4000000 in
set_option maxRecDepth 100000 in
theorem l_X4_dearTogether {E : xE} {h : xHp} {b : Nat} {T : xT} (hOK : tOK T) : ∀ (n i : Nat), i ≤ T.2 0 → T.2 0 + 1 ≤ i + n → PW E mX4_dearTogether (fun v h1 => v = some (.int (nI (tsum T (T.2 0)))) ∧ h1 = TH E h b T) 0 0 4 [some (.ref b), some (.int (nI (tsum T i))), some (.int (nI i))] [] (TH E h b T) := by
  have hm6 := hOK.1.1
  intro n
  induction n with
  | zero =>
    intro i h1 h2
    omega
  | succ n ih =>
    intro i h1 h2
    refine px_iload_n dX4_dearTogether_4 rfl ?_
    refine px_aload_n dX4_dearTogether_5 rfl ?_
    refine px_tS 0 dX4_dearTogether_6 (Or.inl fl_X4_43) (by decide) ?_
    refine px_icmp_geN 38 dX4_dearTogether_9 (by decide) (by first | omega | exact hOK.lt (by decide) | exact hOK.lts (by decide)) (by first | omega | exact hOK.lt (by decide) | exact hOK.lts (by decide)) (fun c9 => ?_) (fun c9 => ?_)
    · refine px_iload_n dX4_dearTogether_38 rfl ?_
      have hi : i = T.2 0 := by omega
      subst hi
      exact px_iret dX4_dearTogether_39 rfl rfl rfl ⟨rfl, rfl⟩
    · refine px_aload_n dX4_dearTogether_12 rfl ?_
      refine px_tS 3 dX4_dearTogether_13 (Or.inl fl_X4_52) (by decide) ?_
      refine px_iload_n dX4_dearTogether_16 rfl ?_
      refine px_si (c_X5_has_n (T.2 3) i (by have := hOK.1.2.2.2.1; omega) (by omega)) mw_X5_has wt_X5_has (Or.inr ⟨_, ml_X4_62⟩) dX4_dearTogether_17 (by decide) rfl rfl (Nat.le_of_ble_eq_true rfl) ⟨rfl, rfl⟩ ?_
      refine px_if_neB 32 dX4_dearTogether_20 (by decide) (fun c20 => ?_) (fun c20 => ?_)
      · refine px_inc_2 dX4_dearTogether_32 rfl (nI_1 _) (by decide) rfl ?_
        refine px_goto 4 dX4_dearTogether_35 (by decide) ?_
        refine px_eq (lo2 := [some (.ref b), some (.int (nI (tsum T (i + 1)))), some (.int (nI (i + 1)))]) ?_ rfl rfl (ih (i + 1) (by omega) (by omega))
        first | (rw [tsum, if_pos c20]; done) | (rw [tsum, if_neg (by simp [c20])]; done)
      · refine px_iload_n dX4_dearTogether_23 rfl ?_
        refine px_aload_n dX4_dearTogether_24 rfl ?_
        refine px_tR 2 dX4_dearTogether_25 (Or.inl fl_X4_18) (by decide) ?_
        refine px_iload_n dX4_dearTogether_28 rfl ?_
        refine px_tL 2 dX4_dearTogether_29 (by decide) (by show _ < 6; omega) ?_
        refine px_iaddN dX4_dearTogether_30 ?_
        refine px_istn_1 dX4_dearTogether_31 (by decide) rfl ?_
        refine px_inc_2 dX4_dearTogether_32 rfl (nI_1 _) (by decide) rfl ?_
        refine px_goto 4 dX4_dearTogether_35 (by decide) ?_
        refine px_eq (lo2 := [some (.ref b), some (.int (nI (tsum T (i + 1)))), some (.int (nI (i + 1)))]) ?_ rfl rfl (ih (i + 1) (by omega) (by omega))
        first | (rw [tsum, if_pos c20]; done) | (rw [tsum, if_neg (by simp [c20])]; done)
set_option maxHeartbeats 4000000 in
set_option maxRecDepth 100000 in
theorem c_X4_dearTogether {E : xE} {h : xHp} {b : Nat} {T : xT} (hOK : tOK T) : PMI E mX4_dearTogether [.ref b] (TH E h b T) (nI (tsum T (T.2 0))) (TH E h b T) := by
  refine pm_of [some (.ref b), none, none] (by decide +kernel) (Nat.le_of_ble_eq_true rfl) rfl ?_
  refine px_iconst (v := nI 0) dX4_dearTogether_0 (by decide) ?_
  refine px_istn_1 dX4_dearTogether_1 (by decide) rfl ?_
  refine px_iconst (v := nI 0) dX4_dearTogether_2 (by decide) ?_
  refine px_istn_2 dX4_dearTogether_3 (by decide) rfl ?_
  exact l_X4_dearTogether hOK (T.2 0 + 1) 0 (Nat.zero_le _) (by omega)
set_option maxHeartbeats 4000000 in
set_option maxRecDepth 100000 in
theorem c_X4_everybody {E : xE} {h : xHp} {b : Nat} {T : xT} (hOK : tOK T) : PMI E mX4_everybody [.ref b] (TH E h b T) (nI (2 ^ (T.2 0) - 1)) (TH E h b T) := by
  refine pm_of [some (.ref b)] (by decide +kernel) (Nat.le_of_ble_eq_true rfl) rfl ?_
  refine px_iconst (v := nI 1) dX4_everybody_0 (by decide) ?_
  refine px_aload_n dX4_everybody_1 rfl ?_
  refine px_tS 0 dX4_everybody_2 (Or.inl fl_X4_43) (by decide) ?_
  have hm6 := hOK.1.1
  refine px_ishl1 dX4_everybody_5 (by omega) ?_
  refine px_iconst (v := nI 1) dX4_everybody_6 (by decide) ?_
  have hp : 0 < 2 ^ (T.2 0) := Nat.pow_pos (by omega)
  refine px_isubN dX4_everybody_7 (by omega) ?_
  exact px_iret dX4_everybody_8 rfl rfl rfl ⟨rfl, rfl⟩
theorem hbit_from {t : Nat} (ht : t < 4) : ∀ i, i < 4 → hbit ((-1) <<< (nI t &&& 31)) i = decide (t ≤ i) := by
  have := (by decide +kernel : ∀ t, t < 4 → ∀ i, i < 4 → hbit ((-1) <<< (nI t &&& 31)) i = decide (t ≤ i))
  exact this t ht
theorem hbit_0 : ∀ i, i < 4 → hbit (nI 0) i = false := by decide +kernel
theorem hbit_1 {t : Nat} (ht : t < 4) : ∀ i, i < 4 → hbit (nI (2 ^ t)) i = decide (i = t) := by
  have := (by decide +kernel : ∀ t, t < 4 → ∀ i, i < 4 → hbit (nI (2 ^ t)) i = decide (i = t))
  exact this t ht
theorem hbit_s {w : Nat} (hw : w < 16) : ∀ i, i < 4 → hbit (nI w) i = w.testBit i := fun i hi => hbit_n (by omega) (by omega)
set_option maxHeartbeats 4000000 in
set_option maxRecDepth 100000 in
theorem c_X4_victimTonight {E : xE} {h : xHp} {b : Nat} {T : xT} (hOK : tOK T) (t : Nat) (ht : t < 4) : PMI E mX4_victimTonight [.ref b, .int (nI t)] (TH E h b T) (oI (tvic T t (trob T (fun i => decide (t ≤ i)) (T.2 1)) (T.2 0))) (TH E h b T) := by
  refine pm_of [some (.ref b), some (.int (nI t)), none] (by decide +kernel) (Nat.le_of_ble_eq_true rfl) rfl ?_
  refine px_iconst (v := -1) dX4_victimTonight_0 (by decide) ?_
  refine px_iload_n dX4_victimTonight_1 rfl ?_
  refine px_ishl dX4_victimTonight_2 ?_
  refine px_istn_2 dX4_victimTonight_3 (by decide) rfl ?_
  refine px_aload_n dX4_victimTonight_4 rfl ?_
  refine px_iload_n dX4_victimTonight_5 rfl ?_
  refine px_aload_n dX4_victimTonight_6 rfl ?_
  refine px_iload_n dX4_victimTonight_7 rfl ?_
  refine px_vi (M2 := mX4_robbedTonight) (c_X4_robbed hOK _ (fun i => decide (t ≤ i)) (hbit_from ht)) mw_X4_robbedTonight wm_X4_robbedTonight we_X4_robbedTonight (Or.inl ml_X4_73) dX4_victimTonight_8 (TH_obj) rfl (by decide) rfl rfl (Nat.le_of_ble_eq_true rfl) ⟨rfl, rfl⟩ ?_
  refine px_vi (M2 := mX4_victim) (c_X4_victim hOK t _ ht (trob_lt hOK.1.1 _)) mw_X4_victim wm_X4_victim we_X4_victim (Or.inl ml_X4_69) dX4_victimTonight_11 (TH_obj) rfl (by decide) rfl rfl (Nat.le_of_ble_eq_true rfl) ⟨rfl, rfl⟩ ?_
  exact px_iret dX4_victimTonight_14 rfl rfl rfl ⟨rfl, rfl⟩
def taddA (T : xT) (k s c : Nat) : xT := tSS (tshow (tSA (tSA (tSA (tSA T 0 (T.2 0) k) 1 (T.2 0) s) 2 (T.2 0) 0) 3 (T.2 0) c) (T.2 0) true) 0 (T.2 0 + 1)
def taddT (T : xT) (k w : Nat) : xT := tSS (tSA (tSA T 4 (T.2 1) k) 5 (T.2 1) w) 1 (T.2 1 + 1)
def tempty (T : xT) : xT := tSS (tSS (tSS (tSS (tSS T 0 0) 1 0) 2 0) 3 0) 4 0
theorem taddA_ok {T : xT} {k s c : Nat} (h : tOK T) (ha : T.2 0 < 6) (hk : k ≤ 4) (hs : s ≤ 3) (hc : c ≤ 9) : tOK (taddA T k s c) := tSS_ok (tshow_ok (tSA_ok (tSA_ok (tSA_ok (tSA_ok h (by omega)) (by omega)) (by omega)) (by omega)) ha) (by omega)
theorem taddT_ok {T : xT} {k w : Nat} (h : tOK T) (ha : T.2 1 < 4) (hk : k ≤ 9) (hw : w ≤ 4) : tOK (taddT T k w) := tSS_ok (tSA_ok (tSA_ok h (by omega)) (by omega)) (by omega)
theorem tempty_ok {T : xT} (h : tOK T) : tOK (tempty T) := tSS_ok (tSS_ok (tSS_ok (tSS_ok (tSS_ok h (by omega)) (by omega)) (by omega)) (by omega)) (by omega)
set_option maxHeartbeats 4000000 in
set_option maxRecDepth 100000 in
theorem c_X4_addApprentice {E : xE} {h : xHp} {b : Nat} {T : xT} (hOK : tOK T) (k s c : Nat) (ha : T.2 0 < 6) : PMI E mX4_addApprentice [.ref b, .int (nI k), .int (nI s), .int (nI c)] (TH E h b T) (nI (T.2 0)) (TH E h b (taddA T k s c)) := by
  refine pm_of [some (.ref b), some (.int (nI k)), some (.int (nI s)), some (.int (nI c)), none] (by decide +kernel) (Nat.le_of_ble_eq_true rfl) rfl ?_
  refine px_aload_n dX4_addApprentice_0 rfl ?_
  refine px_tS 0 dX4_addApprentice_1 (Or.inl fl_X4_43) (by decide) ?_
  refine px_ist_4 dX4_addApprentice_4 (by decide) rfl ?_
  refine px_iload dX4_addApprentice_6 rfl ?_
  refine px_bipush (v := nI 6) dX4_addApprentice_8 (by decide) ?_
  refine px_icmp_ltN 16 dX4_addApprentice_10 (by decide) (by first | omega | exact hOK.lt (by decide) | exact hOK.lts (by decide)) (by first | omega | exact hOK.lt (by decide) | exact hOK.lts (by decide)) (fun c10 => ?_) (fun c10 => ?_)
  · refine px_aload_n dX4_addApprentice_16 rfl ?_
    refine px_tR 0 dX4_addApprentice_17 (Or.inl fl_X4_9) (by decide) ?_
    refine px_iload dX4_addApprentice_20 rfl ?_
    refine px_iload_n dX4_addApprentice_22 rfl ?_
    refine px_tW 0 dX4_addApprentice_23 (by decide) (by show _ < 6; omega) ?_
    refine px_aload_n dX4_addApprentice_24 rfl ?_
    refine px_tR 1 dX4_addApprentice_25 (Or.inl fl_X4_15) (by decide) ?_
    refine px_iload dX4_addApprentice_28 rfl ?_
    refine px_iload_n dX4_addApprentice_30 rfl ?_
    refine px_tW 1 dX4_addApprentice_31 (by decide) (by show _ < 6; omega) ?_
    refine px_aload_n dX4_addApprentice_32 rfl ?_
    refine px_tR 2 dX4_addApprentice_33 (Or.inl fl_X4_18) (by decide) ?_
    refine px_iload dX4_addApprentice_36 rfl ?_
    refine px_iconst (v := nI 0) dX4_addApprentice_38 (by decide) ?_
    refine px_tW 2 dX4_addApprentice_39 (by decide) (by show _ < 6; omega) ?_
    refine px_aload_n dX4_addApprentice_40 rfl ?_
    refine px_tR 3 dX4_addApprentice_41 (Or.inl fl_X4_21) (by decide) ?_
    refine px_iload dX4_addApprentice_44 rfl ?_
    refine px_iload_n dX4_addApprentice_46 rfl ?_
    refine px_tW 3 dX4_addApprentice_47 (by decide) (by show _ < 6; omega) ?_
    refine px_aload_n dX4_addApprentice_48 rfl ?_
    refine px_iload dX4_addApprentice_49 rfl ?_
    refine px_iconst (v := nI 1) dX4_addApprentice_51 (by decide) ?_
    refine px_vv (M2 := mX4_setShown) (c_X4_setShown (T.2 0) true ha) mw_X4_setShown wm_X4_setShown we_X4_setShown (Or.inl ml_X4_58) dX4_addApprentice_52 (TH_obj) rfl (by decide) rfl rfl (Nat.le_of_ble_eq_true rfl) ⟨rfl, rfl⟩ ?_
    refine px_aload_n dX4_addApprentice_55 rfl ?_
    refine px_iload dX4_addApprentice_56 rfl ?_
    refine px_iconst (v := nI 1) dX4_addApprentice_58 (by decide) ?_
    refine px_iaddN dX4_addApprentice_59 ?_
    refine px_tP 0 dX4_addApprentice_60 (Or.inl fl_X4_43) (by decide) ?_
    refine px_iload dX4_addApprentice_63 rfl ?_
    exact px_iret dX4_addApprentice_65 rfl rfl rfl ⟨rfl, rfl⟩
  · omega
set_option maxHeartbeats 4000000 in
set_option maxRecDepth 100000 in
theorem c_X4_addThief {E : xE} {h : xHp} {b : Nat} {T : xT} (hOK : tOK T) (k w : Nat) (ha : T.2 1 < 4) : PMI E mX4_addThief [.ref b, .int (nI k), .int (nI w)] (TH E h b T) (nI (T.2 1)) (TH E h b (taddT T k w)) := by
  refine pm_of [some (.ref b), some (.int (nI k)), some (.int (nI w)), none] (by decide +kernel) (Nat.le_of_ble_eq_true rfl) rfl ?_
  refine px_aload_n dX4_addThief_0 rfl ?_
  refine px_tS 1 dX4_addThief_1 (Or.inl fl_X4_46) (by decide) ?_
  refine px_istn_3 dX4_addThief_4 (by decide) rfl ?_
  refine px_iload_n dX4_addThief_5 rfl ?_
  refine px_iconst (v := nI 4) dX4_addThief_6 (by decide) ?_
  refine px_icmp_ltN 13 dX4_addThief_7 (by decide) (by first | omega | exact hOK.lt (by decide) | exact hOK.lts (by decide)) (by first | omega | exact hOK.lt (by decide) | exact hOK.lts (by decide)) (fun c7 => ?_) (fun c7 => ?_)
  · refine px_aload_n dX4_addThief_13 rfl ?_
    refine px_tR 4 dX4_addThief_14 (Or.inl fl_X4_24) (by decide) ?_
    refine px_iload_n dX4_addThief_17 rfl ?_
    refine px_iload_n dX4_addThief_18 rfl ?_
    refine px_tW 4 dX4_addThief_19 (by decide) (by show _ < 4; omega) ?_
    refine px_aload_n dX4_addThief_20 rfl ?_
    refine px_tR 5 dX4_addThief_21 (Or.inl fl_X4_27) (by decide) ?_
    refine px_iload_n dX4_addThief_24 rfl ?_
    refine px_iload_n dX4_addThief_25 rfl ?_
    refine px_tW 5 dX4_addThief_26 (by decide) (by show _ < 4; omega) ?_
    refine px_aload_n dX4_addThief_27 rfl ?_
    refine px_iload_n dX4_addThief_28 rfl ?_
    refine px_iconst (v := nI 1) dX4_addThief_29 (by decide) ?_
    refine px_iaddN dX4_addThief_30 ?_
    refine px_tP 1 dX4_addThief_31 (Or.inl fl_X4_46) (by decide) ?_
    refine px_iload_n dX4_addThief_34 rfl ?_
    exact px_iret dX4_addThief_35 rfl rfl rfl ⟨rfl, rfl⟩
  · omega
set_option maxHeartbeats 4000000 in
set_option maxRecDepth 100000 in
theorem c_X4_empty {E : xE} {h : xHp} {b : Nat} {T : xT} : PMV E mX4_empty [.ref b] (TH E h b T) (TH E h b (tempty T)) := by
  refine pm_of [some (.ref b)] (by decide +kernel) (Nat.le_of_ble_eq_true rfl) rfl ?_
  refine px_aload_n dX4_empty_0 rfl ?_
  refine px_iconst (v := nI 0) dX4_empty_1 (by decide) ?_
  refine px_tP 0 dX4_empty_2 (Or.inl fl_X4_43) (by decide) ?_
  refine px_aload_n dX4_empty_5 rfl ?_
  refine px_iconst (v := nI 0) dX4_empty_6 (by decide) ?_
  refine px_tP 1 dX4_empty_7 (Or.inl fl_X4_46) (by decide) ?_
  refine px_aload_n dX4_empty_10 rfl ?_
  refine px_iconst (v := nI 0) dX4_empty_11 (by decide) ?_
  refine px_tP 2 dX4_empty_12 (Or.inl fl_X4_49) (by decide) ?_
  refine px_aload_n dX4_empty_15 rfl ?_
  refine px_iconst (v := nI 0) dX4_empty_16 (by decide) ?_
  refine px_tP 3 dX4_empty_17 (Or.inl fl_X4_52) (by decide) ?_
  refine px_aload_n dX4_empty_20 rfl ?_
  refine px_iconst (v := nI 0) dX4_empty_21 (by decide) ?_
  refine px_tP 4 dX4_empty_22 (Or.inl fl_X4_55) (by decide) ?_
  exact px_vret dX4_empty_25 rfl rfl rfl ⟨rfl, rfl⟩
set_option maxHeartbeats 4000000 in
set_option maxRecDepth 100000 in
theorem l_X4_drawWhoShows {E : xE} {h : xHp} {b : Nat} {T : xT} (hOK : tOK T) : PW E mX4_drawWhoShows (fun v h1 => v = none ∧ h1 = TH E h b (tdr2 T)) 0 0 18 [some (.ref b)] [] (TH E h b T) := by
  have hm6 := hOK.1.1
  have hm7 := hOK.1.2.2.2.2.2.2
  refine px_aload_n dX4_drawWhoShows_18 rfl ?_
  refine px_tS 0 dX4_drawWhoShows_19 (Or.inl fl_X4_43) (by decide) ?_
  refine px_if_leN 59 dX4_drawWhoShows_22 (by decide) (by first | omega | exact hOK.lt (by decide) | exact hOK.lts (by decide)) (fun c22 => ?_) (fun c22 => ?_)
  · exact px_vret dX4_drawWhoShows_59 rfl rfl rfl ⟨rfl, by rw [tdr2, if_pos c22]⟩
  · refine px_aload_n dX4_drawWhoShows_25 rfl ?_
    refine px_aload_n dX4_drawWhoShows_26 rfl ?_
    refine px_tS 6 dX4_drawWhoShows_27 (Or.inl fl_X4_34) (by decide) ?_
    refine px_ldc dX4_drawWhoShows_30 kc_X4_94 ?_
    refine px_topi (nI_lit 65536) ?_
    refine px_idivN dX4_drawWhoShows_32 (by first | omega | exact hOK.lt (by decide) | exact hOK.lts (by decide)) (by first | omega | exact hOK.lt (by decide) | exact hOK.lts (by decide)) (by first | omega | exact hOK.lt (by decide) | exact hOK.lts (by decide)) ?_
    refine px_aload_n dX4_drawWhoShows_33 rfl ?_
    refine px_tS 0 dX4_drawWhoShows_34 (Or.inl fl_X4_43) (by decide) ?_
    refine px_iremN dX4_drawWhoShows_37 (by omega) c22 (by omega) ?_
    refine px_aload_n dX4_drawWhoShows_38 rfl ?_
    refine px_tS 6 dX4_drawWhoShows_39 (Or.inl fl_X4_34) (by decide) ?_
    refine px_sipush (v := nI 128) dX4_drawWhoShows_42 (by decide) ?_
    refine px_idivN dX4_drawWhoShows_45 (by first | omega | exact hOK.lt (by decide) | exact hOK.lts (by decide)) (by first | omega | exact hOK.lt (by decide) | exact hOK.lts (by decide)) (by first | omega | exact hOK.lt (by decide) | exact hOK.lts (by decide)) ?_
    refine px_iconst (v := nI 2) dX4_drawWhoShows_46 (by decide) ?_
    refine px_iremN dX4_drawWhoShows_47 (by first | omega | exact hOK.lt (by decide) | exact hOK.lts (by decide)) (by first | omega | exact hOK.lt (by decide) | exact hOK.lts (by decide)) (by first | omega | exact hOK.lt (by decide) | exact hOK.lts (by decide)) ?_
    refine px_if_neN 55 dX4_drawWhoShows_48 (by decide) (by first | omega | exact hOK.lt (by decide) | exact hOK.lts (by decide)) (fun c48 => ?_) (fun c48 => ?_)
    · refine px_iconst (v := nI 0) dX4_drawWhoShows_55 (by decide) ?_
      have hlt : T.2 6 / 65536 % T.2 0 < 6 := by have := Nat.mod_lt (T.2 6 / 65536) c22; omega
      refine px_vv (M2 := mX4_setShown) (c_X4_setShown (T.2 6 / 65536 % T.2 0) false hlt) mw_X4_setShown wm_X4_setShown we_X4_setShown (Or.inl ml_X4_58) dX4_drawWhoShows_56 (TH_obj) rfl (by decide) rfl rfl (Nat.le_of_ble_eq_true rfl) ⟨rfl, rfl⟩ ?_
      have e48 : decide (T.2 6 / 128 % 2 = 0) = false := decide_eq_false c48
      exact px_vret dX4_drawWhoShows_59 rfl rfl rfl ⟨rfl, by rw [tdr2, if_neg (show ¬ T.2 0 = 0 by omega), e48]⟩
    · refine px_iconst (v := nI 1) dX4_drawWhoShows_51 (by decide) ?_
      refine px_goto 56 dX4_drawWhoShows_52 (by decide) ?_
      have hlt : T.2 6 / 65536 % T.2 0 < 6 := by have := Nat.mod_lt (T.2 6 / 65536) c22; omega
      refine px_vv (M2 := mX4_setShown) (c_X4_setShown (T.2 6 / 65536 % T.2 0) true hlt) mw_X4_setShown wm_X4_setShown we_X4_setShown (Or.inl ml_X4_58) dX4_drawWhoShows_56 (TH_obj) rfl (by decide) rfl rfl (Nat.le_of_ble_eq_true rfl) ⟨rfl, rfl⟩ ?_
      have e48 : decide (T.2 6 / 128 % 2 = 0) = true := decide_eq_true c48
      exact px_vret dX4_drawWhoShows_59 rfl rfl rfl ⟨rfl, by rw [tdr2, if_neg (show ¬ T.2 0 = 0 by omega), e48]⟩
set_option maxHeartbeats 4000000 in
set_option maxRecDepth 100000 in
theorem c_X4_drawWhoShows {E : xE} {h : xHp} {b : Nat} {T : xT} (hOK : tOK T) : PMV E mX4_drawWhoShows [.ref b] (TH E h b T) (TH E h b (tdraw T)) := by
  refine pm_of [some (.ref b)] (by decide +kernel) (Nat.le_of_ble_eq_true rfl) rfl ?_
  refine px_aload_n dX4_drawWhoShows_0 rfl ?_
  refine px_aload_n dX4_drawWhoShows_1 rfl ?_
  refine px_tS 6 dX4_drawWhoShows_2 (Or.inl fl_X4_34) (by decide) ?_
  refine px_ldc dX4_drawWhoShows_5 kc_X4_92 ?_
  refine px_topi (nI_lit 1103515245) ?_
  refine px_imulN dX4_drawWhoShows_7 ?_
  refine px_sipush (v := nI 12345) dX4_drawWhoShows_8 (by decide) ?_
  refine px_iaddN dX4_drawWhoShows_11 ?_
  refine px_ldc dX4_drawWhoShows_12 kc_X4_93 ?_
  refine px_topi (nI_lit 2147483647) ?_
  refine px_iandN dX4_drawWhoShows_14 ?_
  rw [and31]
  refine px_tP 6 dX4_drawWhoShows_15 (Or.inl fl_X4_34) (by decide) ?_
  exact l_X4_drawWhoShows (tdr1_ok hOK)
end
section
section PXT2
variable {E : xE} {M : xM} {Q : Option Value → xHp → Prop} {k n pc : Nat} {lo : List (Option Value)} {r : List Value} {h : xHp} {T T2 : xT} {b b2 : Nat}
theorem TH2_obj (hdis : b + 7 ≤ b2 ∨ b2 + 7 ≤ b) : TH E (TH E h b2 T2) b T b2 = twC E b2 T2 0 := by
  unfold TH
  rw [putB_out (by omega)]
  exact putB_0 (by decide)
theorem TH2_arr {j : Nat} (hdis : b + 7 ≤ b2 ∨ b2 + 7 ≤ b) (hj : j < 6) : TH E (TH E h b2 T2) b T (b2 + (j + 1)) = some (.inl (E.1.2 0, twN j, .inl (fun i => nI (T2.1 j i)))) := by
  unfold TH
  rw [putB_out (by omega)]
  exact putB_at (j := j + 1) (by omega)
theorem px_tS2 {idx : Nat} (j : Nat) (hd : decode (xC M) pc = .ok (.getfield idx, 3)) (hl : xFL (xY M).cls idx (TX4 (6 + j)).1 (TX4 (6 + j)).2.1 (TX4 (6 + j)).2.2.1) (hdis : b + 7 ≤ b2 ∨ b2 + 7 ≤ b) (hj : j < 7) (kk : PW E M Q k n (pc + 3) lo (.int (nI (T2.2 j)) :: r) (TH E (TH E h b2 T2) b T)) : PW E M Q k n pc lo (.ref b2 :: r) (TH E (TH E h b2 T2) b T) := by
  refine px_get xk_X4 (6 + j) hd hl (TH2_obj hdis) (by omega) ?_ kk
  match j, hj with
  | 0, _ => rfl
  | 1, _ => rfl
  | 2, _ => rfl
  | 3, _ => rfl
  | 4, _ => rfl
  | 5, _ => rfl
  | 6, _ => rfl
theorem px_tR2 {idx : Nat} (j : Nat) (hd : decode (xC M) pc = .ok (.getfield idx, 3)) (hl : xFL (xY M).cls idx (TX4 j).1 (TX4 j).2.1 (TX4 j).2.2.1) (hdis : b + 7 ≤ b2 ∨ b2 + 7 ≤ b) (hj : j < 6) (kk : PW E M Q k n (pc + 3) lo (.ref (b2 + (j + 1)) :: r) (TH E (TH E h b2 T2) b T)) : PW E M Q k n pc lo (.ref b2 :: r) (TH E (TH E h b2 T2) b T) := by
  refine px_get xk_X4 j hd hl (TH2_obj hdis) (by omega) ?_ kk
  match j, hj with
  | 0, _ => rfl
  | 1, _ => rfl
  | 2, _ => rfl
  | 3, _ => rfl
  | 4, _ => rfl
  | 5, _ => rfl
def tSR (T : xT) (j : Nat) (f : Nat → Nat) : xT := (fun j' => if j' = j then f else T.1 j', T.2)
theorem th_cong {T' : xT} (h1 : ∀ j, j < 6 → T.1 j = T'.1 j) (h2 : ∀ j, j < 7 → T.2 j = T'.2 j) : TH E h b T = TH E h b T' := by
  refine putB_congr (fun q hq => ?_)
  match q with
  | 0 => simp only [twC, h2 0 (by omega), h2 1 (by omega), h2 2 (by omega), h2 3 (by omega), h2 4 (by omega), h2 5 (by omega), h2 6 (by omega)]
  | q + 1 => simp only [twC, h1 q (by omega)]
theorem px_tcp {idx : Nat} (j : Nat) (hd : decode (xC M) pc = .ok (.invokestatic idx, 3)) (hl : Cond.methodLink (xY M).cls idx arraycopyName ∈ GW) (hdis : b + 7 ≤ b2 ∨ b2 + 7 ≤ b) (hj : j < 6) (hR : 1 ≤ xd M) (hcat : (r.map fun v => v.category).sum ≤ 8) (kk : PW E M Q 0 0 (pc + 3) lo r (TH E (TH E h b2 T2) b (tSR T j (T2.1 j)))) : PW E M Q 0 0 pc lo (.int (nI (twN j)) :: .int (nI 0) :: .ref (b + (j + 1)) :: .int (nI 0) :: .ref (b2 + (j + 1)) :: r) (TH E (TH E h b2 T2) b T) := by
  have hN : twN j < 2 ^ 31 := by unfold twN; split <;> decide
  refine px_copyi hd hl (TH2_arr hdis hj) (TH_arr hj) (by omega) (by omega) hN hN hR hcat (px_eqv (fun a => ?_) kk)
  by_cases ha : a = b + (j + 1)
  · subst ha
    refine Or.inr ⟨_, _, _, _, va_up_self _ _ _, TH_arr hj, fun i hi => ?_⟩
    simp only [va_cpy, tSR]
    rw [if_pos ⟨by omega, by omega⟩]
    simp
  · refine Or.inl ?_
    rw [va_up_ne _ _ ha]
    unfold TH putB
    by_cases hr : b ≤ a ∧ a < b + 7
    · rw [if_pos hr, if_pos hr]
      match hq : a - b with
      | 0 => rfl
      | q + 1 =>
        have hqj : q ≠ j := fun e => ha (by omega)
        show some (Sum.inl (E.1.2 0, twN q, Sum.inl (fun i' => nI (T.1 q i')))) = some (Sum.inl (E.1.2 0, twN q, Sum.inl (fun i' => nI ((tSR T j (T2.1 j)).1 q i'))))
        simp only [tSR, if_neg hqj]
    · rw [if_neg hr, if_neg hr]
end PXT2
set_option maxHeartbeats 4000000 in
set_option maxRecDepth 100000 in
theorem c_X4_become {E : xE} {h : xHp} {b b2 : Nat} {T T2 : xT} (hdis : b + 7 ≤ b2 ∨ b2 + 7 ≤ b) : PMV E mX4_become [.ref b, .ref b2] (TH E (TH E h b2 T2) b T) (TH E (TH E h b2 T2) b T2) := by
  refine pm_of [some (.ref b), some (.ref b2)] (by decide +kernel) (Nat.le_of_ble_eq_true rfl) rfl ?_
  refine px_aload_n dX4_become_0 rfl ?_
  refine px_tR2 0 dX4_become_1 (Or.inl fl_X4_9) hdis (by decide) ?_
  refine px_iconst (v := nI 0) dX4_become_4 (by decide) ?_
  refine px_aload_n dX4_become_5 rfl ?_
  refine px_tR 0 dX4_become_6 (Or.inl fl_X4_9) (by decide) ?_
  refine px_iconst (v := nI 0) dX4_become_9 (by decide) ?_
  refine px_bipush (v := nI 6) dX4_become_10 (by decide) ?_
  refine px_tcp 0 dX4_become_12 ml_X4_37 hdis (by decide) (by decide) (Nat.le_of_ble_eq_true rfl) ?_
  refine px_aload_n dX4_become_15 rfl ?_
  refine px_tR2 1 dX4_become_16 (Or.inl fl_X4_15) hdis (by decide) ?_
  refine px_iconst (v := nI 0) dX4_become_19 (by decide) ?_
  refine px_aload_n dX4_become_20 rfl ?_
  refine px_tR 1 dX4_become_21 (Or.inl fl_X4_15) (by decide) ?_
  refine px_iconst (v := nI 0) dX4_become_24 (by decide) ?_
  refine px_bipush (v := nI 6) dX4_become_25 (by decide) ?_
  refine px_tcp 1 dX4_become_27 ml_X4_37 hdis (by decide) (by decide) (Nat.le_of_ble_eq_true rfl) ?_
  refine px_aload_n dX4_become_30 rfl ?_
  refine px_tR2 2 dX4_become_31 (Or.inl fl_X4_18) hdis (by decide) ?_
  refine px_iconst (v := nI 0) dX4_become_34 (by decide) ?_
  refine px_aload_n dX4_become_35 rfl ?_
  refine px_tR 2 dX4_become_36 (Or.inl fl_X4_18) (by decide) ?_
  refine px_iconst (v := nI 0) dX4_become_39 (by decide) ?_
  refine px_bipush (v := nI 6) dX4_become_40 (by decide) ?_
  refine px_tcp 2 dX4_become_42 ml_X4_37 hdis (by decide) (by decide) (Nat.le_of_ble_eq_true rfl) ?_
  refine px_aload_n dX4_become_45 rfl ?_
  refine px_tR2 3 dX4_become_46 (Or.inl fl_X4_21) hdis (by decide) ?_
  refine px_iconst (v := nI 0) dX4_become_49 (by decide) ?_
  refine px_aload_n dX4_become_50 rfl ?_
  refine px_tR 3 dX4_become_51 (Or.inl fl_X4_21) (by decide) ?_
  refine px_iconst (v := nI 0) dX4_become_54 (by decide) ?_
  refine px_bipush (v := nI 6) dX4_become_55 (by decide) ?_
  refine px_tcp 3 dX4_become_57 ml_X4_37 hdis (by decide) (by decide) (Nat.le_of_ble_eq_true rfl) ?_
  refine px_aload_n dX4_become_60 rfl ?_
  refine px_tR2 4 dX4_become_61 (Or.inl fl_X4_24) hdis (by decide) ?_
  refine px_iconst (v := nI 0) dX4_become_64 (by decide) ?_
  refine px_aload_n dX4_become_65 rfl ?_
  refine px_tR 4 dX4_become_66 (Or.inl fl_X4_24) (by decide) ?_
  refine px_iconst (v := nI 0) dX4_become_69 (by decide) ?_
  refine px_iconst (v := nI 4) dX4_become_70 (by decide) ?_
  refine px_tcp 4 dX4_become_71 ml_X4_37 hdis (by decide) (by decide) (Nat.le_of_ble_eq_true rfl) ?_
  refine px_aload_n dX4_become_74 rfl ?_
  refine px_tR2 5 dX4_become_75 (Or.inl fl_X4_27) hdis (by decide) ?_
  refine px_iconst (v := nI 0) dX4_become_78 (by decide) ?_
  refine px_aload_n dX4_become_79 rfl ?_
  refine px_tR 5 dX4_become_80 (Or.inl fl_X4_27) (by decide) ?_
  refine px_iconst (v := nI 0) dX4_become_83 (by decide) ?_
  refine px_iconst (v := nI 4) dX4_become_84 (by decide) ?_
  refine px_tcp 5 dX4_become_85 ml_X4_37 hdis (by decide) (by decide) (Nat.le_of_ble_eq_true rfl) ?_
  refine px_aload_n dX4_become_88 rfl ?_
  refine px_aload_n dX4_become_89 rfl ?_
  refine px_tS2 0 dX4_become_90 (Or.inl fl_X4_43) hdis (by decide) ?_
  refine px_tP 0 dX4_become_93 (Or.inl fl_X4_43) (by decide) ?_
  refine px_aload_n dX4_become_96 rfl ?_
  refine px_aload_n dX4_become_97 rfl ?_
  refine px_tS2 1 dX4_become_98 (Or.inl fl_X4_46) hdis (by decide) ?_
  refine px_tP 1 dX4_become_101 (Or.inl fl_X4_46) (by decide) ?_
  refine px_aload_n dX4_become_104 rfl ?_
  refine px_aload_n dX4_become_105 rfl ?_
  refine px_tS2 2 dX4_become_106 (Or.inl fl_X4_49) hdis (by decide) ?_
  refine px_tP 2 dX4_become_109 (Or.inl fl_X4_49) (by decide) ?_
  refine px_aload_n dX4_become_112 rfl ?_
  refine px_aload_n dX4_become_113 rfl ?_
  refine px_tS2 3 dX4_become_114 (Or.inl fl_X4_52) hdis (by decide) ?_
  refine px_tP 3 dX4_become_117 (Or.inl fl_X4_52) (by decide) ?_
  refine px_aload_n dX4_become_120 rfl ?_
  refine px_aload_n dX4_become_121 rfl ?_
  refine px_tS2 4 dX4_become_122 (Or.inl fl_X4_55) hdis (by decide) ?_
  refine px_tP 4 dX4_become_125 (Or.inl fl_X4_55) (by decide) ?_
  refine px_aload_n dX4_become_128 rfl ?_
  refine px_aload_n dX4_become_129 rfl ?_
  refine px_tS2 5 dX4_become_130 (Or.inl fl_X4_30) hdis (by decide) ?_
  refine px_tP 5 dX4_become_133 (Or.inl fl_X4_30) (by decide) ?_
  refine px_aload_n dX4_become_136 rfl ?_
  refine px_aload_n dX4_become_137 rfl ?_
  refine px_tS2 6 dX4_become_138 (Or.inl fl_X4_34) hdis (by decide) ?_
  refine px_tP 6 dX4_become_141 (Or.inl fl_X4_34) (by decide) ?_
  refine px_vret dX4_become_144 rfl rfl rfl ⟨rfl, th_cong (fun j hj => ?_) (fun j hj => ?_)⟩
  · match j, hj with
    | 0, _ => rfl
    | 1, _ => rfl
    | 2, _ => rfl
    | 3, _ => rfl
    | 4, _ => rfl
    | 5, _ => rfl
  · match j, hj with
    | 0, _ => rfl
    | 1, _ => rfl
    | 2, _ => rfl
    | 3, _ => rfl
    | 4, _ => rfl
    | 5, _ => rfl
    | 6, _ => rfl
set_option maxHeartbeats 4000000 in
set_option maxRecDepth 100000 in
theorem c_X5_isWithin {E : xE} {h : xHp} (x y z : Int32) : PMI E mX5_isWithin [.int x, .int y, .int z] h (bI (decide (y ≤ x ∧ x ≤ z))) h := by
  refine pm_of [some (.int x), some (.int y), some (.int z)] (by decide +kernel) (Nat.le_of_ble_eq_true rfl) rfl ?_
  refine px_iload_n dX5_isWithin_0 rfl ?_
  refine px_iload_n dX5_isWithin_1 rfl ?_
  refine px_icmp_lt 14 dX5_isWithin_2 (by decide) (fun c2 => ?_) (fun c2 => ?_)
  · refine px_iconst (v := nI 0) dX5_isWithin_14 (by decide) ?_
    have q : ¬ (y ≤ x ∧ x ≤ z) := fun q => absurd c2 (Int32.not_lt.mpr q.1)
    exact px_bret (b := decide (y ≤ x ∧ x ≤ z)) dX5_isWithin_15 rfl rfl rfl (by rw [decide_eq_false q]; rfl) ⟨rfl, rfl⟩
  · refine px_iload_n dX5_isWithin_5 rfl ?_
    refine px_iload_n dX5_isWithin_6 rfl ?_
    refine px_icmp_gt 14 dX5_isWithin_7 (by decide) (fun c7 => ?_) (fun c7 => ?_)
    · refine px_iconst (v := nI 0) dX5_isWithin_14 (by decide) ?_
      have q : ¬ (y ≤ x ∧ x ≤ z) := fun q => absurd c7 (Int32.not_lt.mpr q.2)
      exact px_bret (b := decide (y ≤ x ∧ x ≤ z)) dX5_isWithin_15 rfl rfl rfl (by rw [decide_eq_false q]; rfl) ⟨rfl, rfl⟩
    · refine px_iconst (v := nI 1) dX5_isWithin_10 (by decide) ?_
      refine px_goto 15 dX5_isWithin_11 (by decide) ?_
      have q : y ≤ x ∧ x ≤ z := ⟨Int32.not_lt.mp c2, Int32.not_lt.mp c7⟩
      exact px_bret (b := decide (y ≤ x ∧ x ≤ z)) dX5_isWithin_15 rfl rfl rfl (by rw [decide_eq_true q]; rfl) ⟨rfl, rfl⟩
set_option maxHeartbeats 4000000 in
set_option maxRecDepth 100000 in
theorem l_X5_power {E : xE} {h : xHp} (x e : Nat) (he : e ≤ 4) : ∀ (n i : Nat), i ≤ e → e + 1 ≤ i + n → PW E mX5_power (fun v h1 => v = some (.int (nI (x ^ e))) ∧ h1 = h) 0 0 4 [some (.int (nI x)), some (.int (nI e)), some (.int (nI (x ^ i))), some (.int (nI i))] [] h := by
  intro n
  induction n with
  | zero =>
    intro i h1 h2
    omega
  | succ n ih =>
    intro i h1 h2
    refine px_iload_n dX5_power_4 rfl ?_
    refine px_iload_n dX5_power_5 rfl ?_
    refine px_icmp_geN 24 dX5_power_6 (by decide) (by omega) (by omega) (fun c6 => ?_) (fun c6 => ?_)
    · refine px_iload_n dX5_power_24 rfl ?_
      have hi : i = e := by omega
      subst hi
      exact px_iret dX5_power_25 rfl rfl rfl ⟨rfl, rfl⟩
    · refine px_iload_n dX5_power_9 rfl ?_
      refine px_iconst (v := nI 4) dX5_power_10 (by decide) ?_
      refine px_icmp_geN 24 dX5_power_11 (by decide) (by omega) (by omega) (fun c11 => ?_) (fun c11 => ?_)
      · omega
      · refine px_iload_n dX5_power_14 rfl ?_
        refine px_iload_n dX5_power_15 rfl ?_
        refine px_imulN dX5_power_16 ?_
        refine px_istn_2 dX5_power_17 (by decide) rfl ?_
        refine px_inc_3 dX5_power_18 rfl (nI_1 _) (by decide) rfl ?_
        refine px_goto 4 dX5_power_21 (by decide) ?_
        refine px_eq (lo2 := [some (.int (nI x)), some (.int (nI e)), some (.int (nI (x ^ (i + 1)))), some (.int (nI (i + 1)))]) ?_ rfl rfl (ih (i + 1) (by omega) (by omega))
        rw [Nat.pow_succ]
set_option maxHeartbeats 4000000 in
set_option maxRecDepth 100000 in
theorem c_X5_power {E : xE} {h : xHp} (x e : Nat) (he : e ≤ 4) : PMI E mX5_power [.int (nI x), .int (nI e)] h (nI (x ^ e)) h := by
  refine pm_of [some (.int (nI x)), some (.int (nI e)), none, none] (by decide +kernel) (Nat.le_of_ble_eq_true rfl) rfl ?_
  refine px_iconst (v := nI 1) dX5_power_0 (by decide) ?_
  refine px_istn_2 dX5_power_1 (by decide) rfl ?_
  refine px_iconst (v := nI 0) dX5_power_2 (by decide) ?_
  refine px_istn_3 dX5_power_3 (by decide) rfl ?_
  exact l_X5_power x e he (e + 1) 0 (Nat.zero_le _) (by omega)
def bc (w : Nat) : Nat := w % 2 + w / 2 % 2 + w / 4 % 2 + w / 8 % 2 + w / 16 % 2 + w / 32 % 2
theorem bc_le : ∀ k, k ≤ 4 → ∀ s, s < 2 ^ k → bc s ≤ k := by decide +kernel
theorem bc_6 (w : Nat) : bc w ≤ 6 := by unfold bc; omega
set_option maxHeartbeats 4000000 in
set_option maxRecDepth 100000 in
theorem c_J6_bitCount_0f7a4 {E : xE} {h : xHp} (w : Nat) (hw : w < 64) : PMI E mJ6_bitCount_0f7a4 [.int (nI w)] h (nI (bc w)) h := by
  refine pm_of [some (.int (nI w))] (by decide +kernel) (Nat.le_of_ble_eq_true rfl) rfl ?_
  refine px_iload_n dJ6_bitCount_0f7a4_0 rfl ?_
  refine px_iload_n dJ6_bitCount_0f7a4_1 rfl ?_
  refine px_iconst (v := nI 1) dJ6_bitCount_0f7a4_2 (by decide) ?_
  refine px_iushr dJ6_bitCount_0f7a4_3 ?_
  refine px_ldcw dJ6_bitCount_0f7a4_4 kc_J6_265 ?_
  refine px_topi (nI_lit 1431655765) ?_
  refine px_iand dJ6_bitCount_0f7a4_7 ?_
  refine px_isub dJ6_bitCount_0f7a4_8 ?_
  refine px_istn_0 dJ6_bitCount_0f7a4_9 (by decide) rfl ?_
  refine px_iload_n dJ6_bitCount_0f7a4_10 rfl ?_
  refine px_ldcw dJ6_bitCount_0f7a4_11 kc_J6_266 ?_
  refine px_topi (nI_lit 858993459) ?_
  refine px_iand dJ6_bitCount_0f7a4_14 ?_
  refine px_iload_n dJ6_bitCount_0f7a4_15 rfl ?_
  refine px_iconst (v := nI 2) dJ6_bitCount_0f7a4_16 (by decide) ?_
  refine px_iushr dJ6_bitCount_0f7a4_17 ?_
  refine px_ldcw dJ6_bitCount_0f7a4_18 kc_J6_266 ?_
  refine px_topi (nI_lit 858993459) ?_
  refine px_iand dJ6_bitCount_0f7a4_21 ?_
  refine px_iadd dJ6_bitCount_0f7a4_22 ?_
  refine px_istn_0 dJ6_bitCount_0f7a4_23 (by decide) rfl ?_
  refine px_iload_n dJ6_bitCount_0f7a4_24 rfl ?_
  refine px_iload_n dJ6_bitCount_0f7a4_25 rfl ?_
  refine px_iconst (v := nI 4) dJ6_bitCount_0f7a4_26 (by decide) ?_
  refine px_iushr dJ6_bitCount_0f7a4_27 ?_
  refine px_iadd dJ6_bitCount_0f7a4_28 ?_
  refine px_ldcw dJ6_bitCount_0f7a4_29 kc_J6_267 ?_
  refine px_topi (nI_lit 252645135) ?_
  refine px_iand dJ6_bitCount_0f7a4_32 ?_
  refine px_istn_0 dJ6_bitCount_0f7a4_33 (by decide) rfl ?_
  refine px_iload_n dJ6_bitCount_0f7a4_34 rfl ?_
  refine px_iload_n dJ6_bitCount_0f7a4_35 rfl ?_
  refine px_bipush (v := nI 8) dJ6_bitCount_0f7a4_36 (by decide) ?_
  refine px_iushr dJ6_bitCount_0f7a4_38 ?_
  refine px_iadd dJ6_bitCount_0f7a4_39 ?_
  refine px_istn_0 dJ6_bitCount_0f7a4_40 (by decide) rfl ?_
  refine px_iload_n dJ6_bitCount_0f7a4_41 rfl ?_
  refine px_iload_n dJ6_bitCount_0f7a4_42 rfl ?_
  refine px_bipush (v := nI 16) dJ6_bitCount_0f7a4_43 (by decide) ?_
  refine px_iushr dJ6_bitCount_0f7a4_45 ?_
  refine px_iadd dJ6_bitCount_0f7a4_46 ?_
  refine px_istn_0 dJ6_bitCount_0f7a4_47 (by decide) rfl ?_
  refine px_iload_n dJ6_bitCount_0f7a4_48 rfl ?_
  refine px_bipush (v := nI 63) dJ6_bitCount_0f7a4_49 (by decide) ?_
  refine px_iand dJ6_bitCount_0f7a4_51 ?_
  refine px_iret dJ6_bitCount_0f7a4_52 rfl rfl rfl ⟨congrArg (fun z => some (Value.int z)) ?_, rfl⟩
  revert hw
  revert w
  decide +kernel
end
section
def treach (T : xT) (set : Nat) : Nat → Nat
  | 0 => 0
  | n + 1 => if set.testBit n then treach T set n ||| twhom T n (T.2 0) else treach T set n
def tmost (T : xT) : Nat → Nat
  | 0 => T.2 1
  | s + 1 => min (tmost T s) (T.2 1 - bc s + bc (treach T s (T.2 1)))
def tways (T : xT) (a c : Nat) : Nat → Nat
  | 0 => 0
  | s + 1 => if (trob T (fun i => s.testBit i) (T.2 1)).testBit a then tways T a c s + c ^ bc s * (10 - c) ^ (T.2 1 - bc s) else tways T a c s
theorem treach_lt {T : xT} {set : Nat} (h : T.2 0 ≤ 6) : ∀ n, treach T set n < 64
  | 0 => by rw [treach]; decide
  | n + 1 => by
    rw [treach]
    split
    · exact Nat.or_lt_two_pow (n := 6) (treach_lt h n) (twhom_lt _ h)
    · exact treach_lt h n
theorem tmost_le {T : xT} : ∀ s, tmost T s ≤ T.2 1
  | 0 => Nat.le_refl _
  | s + 1 => by rw [tmost]; have := tmost_le (T := T) s; omega
theorem pow_thv {k : Nat} (h : k ≤ 4) : 2 ^ k ≤ 16 := Nat.pow_le_pow_right (n := 2) (by omega) h
set_option maxHeartbeats 4000000 in
set_option maxRecDepth 100000 in
theorem l_X4_mostRobbedAtOnce_in {E : xE} {h : xHp} {b : Nat} {T : xT} {Q : Option Value → xHp → Prop} (hOK : tOK T) (set mo : Nat) (hs : set < 16) (kk : PW E mX4_mostRobbedAtOnce Q 0 0 55 [some (.ref b), some (.int (nI mo)), some (.int (nI set)), some (.int (nI (treach T set (T.2 1)))), some (.int (nI (T.2 1)))] [] (TH E h b T)) : ∀ (n i : Nat), i ≤ T.2 1 → T.2 1 + 1 ≤ i + n → PW E mX4_mostRobbedAtOnce Q 0 0 22 [some (.ref b), some (.int (nI mo)), some (.int (nI set)), some (.int (nI (treach T set i))), some (.int (nI i))] [] (TH E h b T) := by
  have hm4 := hOK.1.2.1
  intro n
  induction n with
  | zero =>
    intro i h1 h2
    omega
  | succ n ih =>
    intro i h1 h2
    refine px_iload dX4_mostRobbedAtOnce_22 rfl ?_
    refine px_aload_n dX4_mostRobbedAtOnce_24 rfl ?_
    refine px_tS 1 dX4_mostRobbedAtOnce_25 (Or.inl fl_X4_46) (by decide) ?_
    refine px_icmp_geN 55 dX4_mostRobbedAtOnce_28 (by decide) (by first | omega | exact hOK.lt (by decide) | exact hOK.lts (by decide)) (by first | omega | exact hOK.lt (by decide) | exact hOK.lts (by decide)) (fun c28 => ?_) (fun c28 => ?_)
    · have hi : i = T.2 1 := by omega
      subst hi
      exact kk
    · refine px_iload_n dX4_mostRobbedAtOnce_31 rfl ?_
      refine px_iload dX4_mostRobbedAtOnce_32 rfl ?_
      refine px_si (c_X5_has_n set i (by omega) (by omega)) mw_X5_has wt_X5_has (Or.inr ⟨_, ml_X4_62⟩) dX4_mostRobbedAtOnce_34 (by decide) rfl rfl (Nat.le_of_ble_eq_true rfl) ⟨rfl, rfl⟩ ?_
      refine px_if_eqB 49 dX4_mostRobbedAtOnce_37 (by decide) (fun c37 => ?_) (fun c37 => ?_)
      · refine px_inc_4 dX4_mostRobbedAtOnce_49 rfl (nI_1 _) (by decide) rfl ?_
        refine px_goto 22 dX4_mostRobbedAtOnce_52 (by decide) ?_
        refine px_eq (lo2 := [some (.ref b), some (.int (nI mo)), some (.int (nI set)), some (.int (nI (treach T set (i + 1)))), some (.int (nI (i + 1)))]) ?_ rfl rfl (ih (i + 1) (by omega) (by omega))
        first | (rw [treach, if_pos c37]; done) | (rw [treach, if_neg (by simp [c37])]; done)
      · refine px_iload_n dX4_mostRobbedAtOnce_40 rfl ?_
        refine px_aload_n dX4_mostRobbedAtOnce_41 rfl ?_
        refine px_iload dX4_mostRobbedAtOnce_42 rfl ?_
        refine px_vi (M2 := mX4_whomMayRob) (c_X4_whomMayRob hOK i (by omega)) mw_X4_whomMayRob wm_X4_whomMayRob we_X4_whomMayRob (Or.inl ml_X4_95) dX4_mostRobbedAtOnce_44 (TH_obj) rfl (by decide) rfl rfl (Nat.le_of_ble_eq_true rfl) ⟨rfl, rfl⟩ ?_
        refine px_iorN dX4_mostRobbedAtOnce_47 ?_
        refine px_istn_3 dX4_mostRobbedAtOnce_48 (by decide) rfl ?_
        refine px_inc_4 dX4_mostRobbedAtOnce_49 rfl (nI_1 _) (by decide) rfl ?_
        refine px_goto 22 dX4_mostRobbedAtOnce_52 (by decide) ?_
        refine px_eq (lo2 := [some (.ref b), some (.int (nI mo)), some (.int (nI set)), some (.int (nI (treach T set (i + 1)))), some (.int (nI (i + 1)))]) ?_ rfl rfl (ih (i + 1) (by omega) (by omega))
        first | (rw [treach, if_pos c37]; done) | (rw [treach, if_neg (by simp [c37])]; done)
set_option maxHeartbeats 4000000 in
set_option maxRecDepth 100000 in
theorem l_X4_mostRobbedAtOnce {E : xE} {h : xHp} {b : Nat} {T : xT} (hOK : tOK T) : ∀ (n set : Nat), set ≤ 2 ^ T.2 1 → 2 ^ T.2 1 + 1 ≤ set + n → PW E mX4_mostRobbedAtOnce (fun v h1 => v = some (.int (nI (tmost T (2 ^ T.2 1)))) ∧ h1 = TH E h b T) 0 0 7 [some (.ref b), some (.int (nI (tmost T set))), some (.int (nI set)), none, none] [] (TH E h b T) := by
  have hm4 := hOK.1.2.1
  intro n
  induction n with
  | zero =>
    intro set h1 h2
    omega
  | succ n ih =>
    intro set h1 h2
    refine px_iload_n dX4_mostRobbedAtOnce_7 rfl ?_
    refine px_iconst (v := nI 1) dX4_mostRobbedAtOnce_8 (by decide) ?_
    refine px_aload_n dX4_mostRobbedAtOnce_9 rfl ?_
    refine px_tS 1 dX4_mostRobbedAtOnce_10 (Or.inl fl_X4_46) (by decide) ?_
    refine px_ishl1 dX4_mostRobbedAtOnce_13 (by omega) ?_
    have hp := pow_thv hm4
    refine px_icmp_geN 80 dX4_mostRobbedAtOnce_14 (by decide) (by first | omega | exact hOK.lt (by decide) | exact hOK.lts (by decide)) (by first | omega | exact hOK.lt (by decide) | exact hOK.lts (by decide)) (fun c14 => ?_) (fun c14 => ?_)
    · refine px_iload_n dX4_mostRobbedAtOnce_80 rfl ?_
      have hi : set = 2 ^ T.2 1 := by omega
      subst hi
      exact px_iret dX4_mostRobbedAtOnce_81 rfl rfl rfl ⟨rfl, rfl⟩
    · refine px_iconst (v := nI 0) dX4_mostRobbedAtOnce_17 (by decide) ?_
      refine px_istn_3 dX4_mostRobbedAtOnce_18 (by decide) rfl ?_
      refine px_iconst (v := nI 0) dX4_mostRobbedAtOnce_19 (by decide) ?_
      refine px_ist_4 dX4_mostRobbedAtOnce_20 (by decide) rfl ?_
      refine l_X4_mostRobbedAtOnce_in hOK set _ (by omega) ?_ (T.2 1 + 1) 0 (Nat.zero_le _) (by omega)
      refine px_iload_n dX4_mostRobbedAtOnce_55 rfl ?_
      refine px_aload_n dX4_mostRobbedAtOnce_56 rfl ?_
      refine px_tS 1 dX4_mostRobbedAtOnce_57 (Or.inl fl_X4_46) (by decide) ?_
      refine px_iload_n dX4_mostRobbedAtOnce_60 rfl ?_
      have hb4 := bc_le (T.2 1) hm4 set c14
      refine px_si (c_J6_bitCount_0f7a4 set (by omega)) mw_J6_bitCount_0f7a4 wt_J6_bitCount_0f7a4 (Or.inl ml_X4_98) dX4_mostRobbedAtOnce_61 (by decide) rfl rfl (Nat.le_of_ble_eq_true rfl) ⟨rfl, rfl⟩ ?_
      refine px_isubN dX4_mostRobbedAtOnce_64 (by omega) ?_
      refine px_iload_n dX4_mostRobbedAtOnce_65 rfl ?_
      refine px_si (c_J6_bitCount_0f7a4 _ (treach_lt hOK.1.1 _)) mw_J6_bitCount_0f7a4 wt_J6_bitCount_0f7a4 (Or.inl ml_X4_98) dX4_mostRobbedAtOnce_66 (by decide) rfl rfl (Nat.le_of_ble_eq_true rfl) ⟨rfl, rfl⟩ ?_
      refine px_iaddN dX4_mostRobbedAtOnce_69 ?_
      have hb6 := bc_6 (treach T set (T.2 1))
      have hmo := tmost_le (T := T) set
      refine px_min dX4_mostRobbedAtOnce_70 ml_X4_84 wt_Math_min wi_java_lang_Math wc_Math_min (by decide) (Nat.le_of_ble_eq_true rfl) ⟨Nat.zero_le _, Nat.zero_le _⟩ ?_
      refine px_topi (nI_min (by omega) (by omega)) ?_
      refine px_istn_1 dX4_mostRobbedAtOnce_73 (by decide) rfl ?_
      refine px_inc_2 dX4_mostRobbedAtOnce_74 rfl (nI_1 _) (by decide) rfl ?_
      refine px_goto 7 dX4_mostRobbedAtOnce_77 (by decide) ?_
      refine px_fg_3 (px_fg_4 ?_)
      exact ih (set + 1) (by omega) (by omega)
set_option maxHeartbeats 4000000 in
set_option maxRecDepth 100000 in
theorem c_X4_mostRobbedAtOnce {E : xE} {h : xHp} {b : Nat} {T : xT} (hOK : tOK T) : PMI E mX4_mostRobbedAtOnce [.ref b] (TH E h b T) (nI (tmost T (2 ^ T.2 1))) (TH E h b T) := by
  refine pm_of [some (.ref b), none, none, none, none] (by decide +kernel) (Nat.le_of_ble_eq_true rfl) rfl ?_
  refine px_aload_n dX4_mostRobbedAtOnce_0 rfl ?_
  refine px_tS 1 dX4_mostRobbedAtOnce_1 (Or.inl fl_X4_46) (by decide) ?_
  refine px_istn_1 dX4_mostRobbedAtOnce_4 (by decide) rfl ?_
  refine px_iconst (v := nI 0) dX4_mostRobbedAtOnce_5 (by decide) ?_
  refine px_istn_2 dX4_mostRobbedAtOnce_6 (by decide) rfl ?_
  exact l_X4_mostRobbedAtOnce hOK (2 ^ T.2 1 + 1) 0 (Nat.zero_le _) (by omega)
set_option maxHeartbeats 4000000 in
set_option maxRecDepth 100000 in
theorem l_X4_waysRobbed {E : xE} {h : xHp} {b : Nat} {T : xT} (hOK : tOK T) (a c : Nat) (ha : a < 6) (hc : c ≤ 10) : ∀ (n s : Nat), s ≤ 2 ^ T.2 1 → 2 ^ T.2 1 + 1 ≤ s + n → PW E mX4_waysRobbed (fun v h1 => v = some (.int (nI (tways T a c (2 ^ T.2 1)))) ∧ h1 = TH E h b T) 0 0 5 [some (.ref b), some (.int (nI a)), some (.int (nI c)), some (.int (nI (tways T a c s))), some (.int (nI s)), none] [] (TH E h b T) := by
  have hm4 := hOK.1.2.1
  intro n
  induction n with
  | zero =>
    intro s h1 h2
    omega
  | succ n ih =>
    intro s h1 h2
    refine px_iload dX4_waysRobbed_5 rfl ?_
    refine px_iconst (v := nI 1) dX4_waysRobbed_7 (by decide) ?_
    refine px_aload_n dX4_waysRobbed_8 rfl ?_
    refine px_tS 1 dX4_waysRobbed_9 (Or.inl fl_X4_46) (by decide) ?_
    refine px_ishl1 dX4_waysRobbed_12 (by omega) ?_
    have hp := pow_thv hm4
    refine px_icmp_geN 66 dX4_waysRobbed_13 (by decide) (by first | omega | exact hOK.lt (by decide) | exact hOK.lts (by decide)) (by first | omega | exact hOK.lt (by decide) | exact hOK.lts (by decide)) (fun c13 => ?_) (fun c13 => ?_)
    · refine px_iload_n dX4_waysRobbed_66 rfl ?_
      have hi : s = 2 ^ T.2 1 := by omega
      subst hi
      exact px_iret dX4_waysRobbed_67 rfl rfl rfl ⟨rfl, rfl⟩
    · refine px_aload_n dX4_waysRobbed_16 rfl ?_
      refine px_iload dX4_waysRobbed_17 rfl ?_
      refine px_vi (M2 := mX4_robbedTonight) (c_X4_robbed hOK (nI s) (fun i => s.testBit i) (hbit_s (by omega))) mw_X4_robbedTonight wm_X4_robbedTonight we_X4_robbedTonight (Or.inl ml_X4_73) dX4_waysRobbed_19 (TH_obj) rfl (by decide) rfl rfl (Nat.le_of_ble_eq_true rfl) ⟨rfl, rfl⟩ ?_
      refine px_iload_n dX4_waysRobbed_22 rfl ?_
      refine px_si (c_X5_has_n _ a (by have := trob_lt (T := T) (hm := fun i => s.testBit i) hOK.1.1 (T.2 1); omega) (by omega)) mw_X5_has wt_X5_has (Or.inr ⟨_, ml_X4_62⟩) dX4_waysRobbed_23 (by decide) rfl rfl (Nat.le_of_ble_eq_true rfl) ⟨rfl, rfl⟩ ?_
      refine px_if_eqB 60 dX4_waysRobbed_26 (by decide) (fun c26 => ?_) (fun c26 => ?_)
      · refine px_inc_4 dX4_waysRobbed_60 rfl (nI_1 _) (by decide) rfl ?_
        refine px_goto 5 dX4_waysRobbed_63 (by decide) ?_
        refine px_fg_5 ?_
        refine px_eq (lo2 := [some (.ref b), some (.int (nI a)), some (.int (nI c)), some (.int (nI (tways T a c (s + 1)))), some (.int (nI (s + 1))), none]) ?_ rfl rfl (ih (s + 1) (by omega) (by omega))
        first | (rw [tways, if_pos c26]; done) | (rw [tways, if_neg (by simp [c26])]; done)
      · have hb4 := bc_le (T.2 1) hm4 s c13
        refine px_iload dX4_waysRobbed_29 rfl ?_
        refine px_si (c_J6_bitCount_0f7a4 s (by omega)) mw_J6_bitCount_0f7a4 wt_J6_bitCount_0f7a4 (Or.inl ml_X4_98) dX4_waysRobbed_31 (by decide) rfl rfl (Nat.le_of_ble_eq_true rfl) ⟨rfl, rfl⟩ ?_
        refine px_ist_5 dX4_waysRobbed_34 (by decide) rfl ?_
        refine px_iload_n dX4_waysRobbed_36 rfl ?_
        refine px_iload_n dX4_waysRobbed_37 rfl ?_
        refine px_iload dX4_waysRobbed_38 rfl ?_
        refine px_si (c_X5_power c (bc s) (by omega)) mw_X5_power wt_X5_power (Or.inr ⟨_, ml_X4_103⟩) dX4_waysRobbed_40 (by decide) rfl rfl (Nat.le_of_ble_eq_true rfl) ⟨rfl, rfl⟩ ?_
        refine px_bipush (v := nI 10) dX4_waysRobbed_43 (by decide) ?_
        refine px_iload_n dX4_waysRobbed_45 rfl ?_
        refine px_isubN dX4_waysRobbed_46 (by omega) ?_
        refine px_aload_n dX4_waysRobbed_47 rfl ?_
        refine px_tS 1 dX4_waysRobbed_48 (Or.inl fl_X4_46) (by decide) ?_
        refine px_iload dX4_waysRobbed_51 rfl ?_
        refine px_isubN dX4_waysRobbed_53 (by omega) ?_
        refine px_si (c_X5_power (10 - c) (T.2 1 - bc s) (by omega)) mw_X5_power wt_X5_power (Or.inr ⟨_, ml_X4_103⟩) dX4_waysRobbed_54 (by decide) rfl rfl (Nat.le_of_ble_eq_true rfl) ⟨rfl, rfl⟩ ?_
        refine px_imulN dX4_waysRobbed_57 ?_
        refine px_iaddN dX4_waysRobbed_58 ?_
        refine px_istn_3 dX4_waysRobbed_59 (by decide) rfl ?_
        refine px_inc_4 dX4_waysRobbed_60 rfl (nI_1 _) (by decide) rfl ?_
        refine px_goto 5 dX4_waysRobbed_63 (by decide) ?_
        refine px_fg_5 ?_
        refine px_eq (lo2 := [some (.ref b), some (.int (nI a)), some (.int (nI c)), some (.int (nI (tways T a c (s + 1)))), some (.int (nI (s + 1))), none]) ?_ rfl rfl (ih (s + 1) (by omega) (by omega))
        first | (rw [tways, if_pos c26]; done) | (rw [tways, if_neg (by simp [c26])]; done)
set_option maxHeartbeats 4000000 in
set_option maxRecDepth 100000 in
theorem c_X4_waysRobbed {E : xE} {h : xHp} {b : Nat} {T : xT} (hOK : tOK T) (a c : Nat) (ha : a < 6) (hc : c ≤ 10) : PMI E mX4_waysRobbed [.ref b, .int (nI a), .int (nI c)] (TH E h b T) (nI (tways T a c (2 ^ T.2 1))) (TH E h b T) := by
  refine pm_of [some (.ref b), some (.int (nI a)), some (.int (nI c)), none, none, none] (by decide +kernel) (Nat.le_of_ble_eq_true rfl) rfl ?_
  refine px_iconst (v := nI 0) dX4_waysRobbed_0 (by decide) ?_
  refine px_istn_3 dX4_waysRobbed_1 (by decide) rfl ?_
  refine px_iconst (v := nI 0) dX4_waysRobbed_2 (by decide) ?_
  refine px_ist_4 dX4_waysRobbed_3 (by decide) rfl ?_
  exact l_X4_waysRobbed hOK a c ha hc (2 ^ T.2 1 + 1) 0 (Nat.zero_le _) (by omega)
end
section
/-! ===== Foretelling ===== -/
abbrev FH (E : xE) (h : xHp) (bn bt : Nat) (Tn Tt : xT) : xHp := TH E (TH E h bn Tn) bt Tt
def xFo (h : xHp) (bF bn bt : Nat) : Prop := h bF = some (.inr (0, [.ref bt])) ∧ (bF < bn ∨ bn + 7 ≤ bF) ∧ (bF < bt ∨ bt + 7 ≤ bF) ∧ (bt + 7 ≤ bn ∨ bn + 7 ≤ bt)
theorem fo_get {E : xE} {h : xHp} {bF bn bt : Nat} {Tn Tt : xT} (hf : xFo h bF bn bt) : FH E h bn bt Tn Tt bF = some (.inr (0, [.ref bt])) := by
  obtain ⟨h1, h2, h3, -⟩ := hf
  unfold FH TH
  rw [putB_out h3, putB_out h2]
  exact h1
def hm0 : Nat → Bool := fun _ => false
def tnights (T : xT) (hm : Nat → Bool) : Nat → xT
  | 0 => T
  | n + 1 => tpass (tnights T hm n) hm
theorem tnights_s {T : xT} {hm : Nat → Bool} : ∀ n, (tnights T hm n).2 0 = T.2 0 ∧ (tnights T hm n).2 1 = T.2 1 ∧ (tnights T hm n).2 4 = T.2 4 + n
  | 0 => ⟨rfl, rfl, rfl⟩
  | n + 1 => by
    have h1 := tpass_s (T := tnights T hm n) (hm := hm)
    have h2 := tnights_s (T := T) (hm := hm) n
    rw [tnights]
    exact ⟨h1.1.trans h2.1, h1.2.1.trans h2.2.1, by rw [h1.2.2.2.1, h2.2.2]; omega⟩
theorem tnights_ok {T : xT} {hm : Nat → Bool} (h : tOK T) : ∀ n, T.2 4 + n < 2 ^ 30 → tOK (tnights T hm n)
  | 0, _ => h
  | n + 1, hn => tpass_ok (tnights_ok h n (by omega)) (by rw [(tnights_s n).2.2]; omega)
def ffrom (p : Nat → Bool) : Nat → Nat → Option Nat
  | 0, _ => none
  | f + 1, i => if p i then some i else ffrom p f (i + 1)
def fdown (p : Nat → Bool) : Nat → Option Nat
  | 0 => none
  | k + 1 => if p k then some k else fdown p k
theorem ffrom_y {p : Nat → Bool} {f i : Nat} (h : p i = true) : ffrom p (f + 1) i = some i := by rw [ffrom, if_pos h]
theorem ffrom_n {p : Nat → Bool} {f i : Nat} (h : p i = false) : ffrom p (f + 1) i = ffrom p f (i + 1) := by rw [ffrom, if_neg (by simp [h])]
theorem fdown_y {p : Nat → Bool} {k : Nat} (h : p k = true) : fdown p (k + 1) = some k := by rw [fdown, if_pos h]
theorem fdown_n {p : Nat → Bool} {k : Nat} (h : p k = false) : fdown p (k + 1) = fdown p k := by rw [fdown, if_neg (by simp [h])]
theorem ffrom_lt {p : Nat → Bool} : ∀ {f i a : Nat}, ffrom p f i = some a → i ≤ a ∧ a < i + f ∧ p a = true
  | 0, _, _, h => by cases h
  | f + 1, i, a, h => by
    cases hp : p i
    · rw [ffrom_n hp] at h
      have := ffrom_lt h
      exact ⟨by omega, by omega, this.2.2⟩
    · rw [ffrom_y hp] at h
      cases h
      exact ⟨by omega, by omega, hp⟩
def FK (E : xE) (h : xHp) (bn bt : Nat) (Tn : xT) : xHp → Prop := fun h' => ∃ T' : xT, tOK T' ∧ h' = FH E h bn bt Tn T'
abbrev PMF (E : xE) (M : xM) (av : List Value) (h0 : xHp) (x : Int32) (h : xHp) (bn bt : Nat) (Tn : xT) : Prop := PMet E M av h0 (fun v h' => v = some (.int x) ∧ FK E h bn bt Tn h')
section PXFO
variable {E : xE} {M M2 : xM} {Q : Option Value → xHp → Prop} {pc idx np b ci N bn bt : Nat} {lo : List (Option Value)} {r As fs st : List Value} {h h0 : xHp} {T : u_T} {Tn : xT}
theorem px_vf {x : Int32} (hm : PMF E M2 (.ref b :: As) h0 x h bn bt Tn) (hw : xMW M2 np) (hi : Cond.instanceMethod (xY M2) ∈ GW) (hse : Cond.selects (xY M2).cls (xY M2) (xY M2) ∈ GW) (hl : xML (xY M).cls idx (xY M2)) (hd : decode (xC M) pc = .ok (.invokevirtual idx, 3)) (hb : h0 b = some (.inr (ci, fs))) (hc : vwCl[ci]? = some ((xY M2).cls, T, N)) (hR : xd M2 + 1 ≤ xd M ∧ 8 + (xL M2 + 11) + 39 * xd M2 ≤ 39 * xd M) (hn : As.length = np) (hst : st = As.reverse ++ .ref b :: r) (hcat : (r.map fun v => v.category).sum ≤ 8) (hz : xmc M2 = 0 ∧ xms M2 = 0)
    (kk : ∀ T' : xT, tOK T' → PW E M Q 0 0 (pc + 3) lo (.int x :: r) (FH E h bn bt Tn T')) : PW E M Q 0 0 pc lo st h0 := by
  refine px_callV hm hw hi hse hl hd hb hc hR hn hst hcat ⟨by rw [hz.1]; exact Nat.zero_le _, by rw [hz.2]; exact Nat.zero_le _⟩ (fun v h' hq => ?_)
  obtain ⟨rfl, T', hT, rfl⟩ := hq
  rw [hz.1, hz.2]
  exact kk T' hT
end PXFO
set_option maxHeartbeats 4000000 in
set_option maxRecDepth 100000 in
theorem l_X0_passNights {E : xE} {h : xHp} {bF bn bt : Nat} {Tn Tt : xT} (hf : xFo h bF bn bt) (hOK : tOK Tt) (k : Nat) (hk : k ≤ 99) (hn : Tt.2 4 + k < 2 ^ 30) (x : Int32) (hm : Nat → Bool) (hx : ∀ i, i < 4 → hbit x i = hm i) : ∀ (n i : Nat), i ≤ k → k + 1 ≤ i + n → PW E mX0_passNights (fun v h1 => v = none ∧ h1 = FH E h bn bt Tn (tnights Tt hm k)) 0 0 2 [some (.ref bF), some (.int (nI k)), some (.int x), some (.int (nI i))] [] (FH E h bn bt Tn (tnights Tt hm i)) := by
  intro n
  induction n with
  | zero =>
    intro i h1 h2
    omega
  | succ n ih =>
    intro i h1 h2
    refine px_iload_n dX0_passNights_2 rfl ?_
    refine px_iload_n dX0_passNights_3 rfl ?_
    refine px_icmp_geN 21 dX0_passNights_4 (by decide) (by omega) (by omega) (fun c4 => ?_) (fun c4 => ?_)
    · have hi : i = k := by omega
      subst hi
      exact px_vret dX0_passNights_21 rfl rfl rfl ⟨rfl, rfl⟩
    · refine px_aload_n dX0_passNights_7 rfl ?_
      refine px_get xk_X0 0 dX0_passNights_8 (Or.inl fl_X0_12) (fo_get hf) (by decide) rfl ?_
      refine px_iload_n dX0_passNights_11 rfl ?_
      refine px_vv (M2 := mX4_pass) (c_X4_pass (tnights_ok hOK i (by omega)) x hm hx) mw_X4_pass wm_X4_pass we_X4_pass (Or.inr ⟨_, ml_X0_26⟩) dX0_passNights_12 (TH_obj) rfl (by decide) rfl rfl (Nat.le_of_ble_eq_true rfl) ⟨rfl, rfl⟩ ?_
      refine px_inc_3 dX0_passNights_15 rfl (nI_1 _) (by decide) rfl ?_
      refine px_goto 2 dX0_passNights_18 (by decide) ?_
      exact ih (i + 1) (by omega) (by omega)
set_option maxHeartbeats 4000000 in
set_option maxRecDepth 100000 in
theorem c_X0_passNights {E : xE} {h : xHp} {bF bn bt : Nat} {Tn Tt : xT} (hf : xFo h bF bn bt) (hOK : tOK Tt) (k : Nat) (hk : k ≤ 99) (hn : Tt.2 4 + k < 2 ^ 30) (x : Int32) (hm : Nat → Bool) (hx : ∀ i, i < 4 → hbit x i = hm i) : PMV E mX0_passNights [.ref bF, .int (nI k), .int x] (FH E h bn bt Tn Tt) (FH E h bn bt Tn (tnights Tt hm k)) := by
  refine pm_of [some (.ref bF), some (.int (nI k)), some (.int x), none] (by decide +kernel) (Nat.le_of_ble_eq_true rfl) rfl ?_
  refine px_iconst (v := nI 0) dX0_passNights_0 (by decide) ?_
  refine px_istn_3 dX0_passNights_1 (by decide) rfl ?_
  exact l_X0_passNights hf hOK k hk hn x hm hx (k + 1) 0 (Nat.zero_le _) (by omega)
set_option maxHeartbeats 4000000 in
set_option maxRecDepth 100000 in
theorem c_X0_after {E : xE} {h : xHp} {bF bn bt : Nat} {Tn Tt : xT} (hf : xFo h bF bn bt) (hOK : tOK Tn) (k : Nat) (hk : k ≤ 99) (hn : Tn.2 4 + k < 2 ^ 30) : PMR E mX0_after [.ref bF, .ref bn, .int (nI k)] (FH E h bn bt Tn Tt) bt (FH E h bn bt Tn (tnights Tn hm0 k)) := by
  refine pm_of [some (.ref bF), some (.ref bn), some (.int (nI k))] (by decide +kernel) (Nat.le_of_ble_eq_true rfl) rfl ?_
  refine px_aload_n dX0_after_0 rfl ?_
  refine px_get xk_X0 0 dX0_after_1 (Or.inl fl_X0_12) (fo_get hf) (by decide) rfl ?_
  refine px_aload_n dX0_after_4 rfl ?_
  refine px_vv (M2 := mX4_become) (c_X4_become hf.2.2.2) mw_X4_become wm_X4_become we_X4_become (Or.inr ⟨_, ml_X0_18⟩) dX0_after_5 (TH_obj) rfl (by decide) rfl rfl (Nat.le_of_ble_eq_true rfl) ⟨rfl, rfl⟩ ?_
  refine px_aload_n dX0_after_8 rfl ?_
  refine px_iload_n dX0_after_9 rfl ?_
  refine px_iconst (v := nI 0) dX0_after_10 (by decide) ?_
  refine px_vv (M2 := mX0_passNights) (c_X0_passNights hf hOK k (by omega) (by omega) (nI 0) hm0 (fun i hi => hbit_0 i hi)) mw_X0_passNights wm_X0_passNights we_X0_passNights (Or.inl ml_X0_22) dX0_after_11 (fo_get hf) rfl (by decide) rfl rfl (Nat.le_of_ble_eq_true rfl) ⟨rfl, rfl⟩ ?_
  refine px_aload_n dX0_after_14 rfl ?_
  refine px_get xk_X0 0 dX0_after_15 (Or.inl fl_X0_12) (fo_get hf) (by decide) rfl ?_
  exact px_aret dX0_after_18 rfl rfl rfl ⟨rfl, rfl⟩
def twout (T : xT) (k t : Nat) : Nat := bc ((tnights T (fun i => decide (i = t)) k).2 3)
set_option maxHeartbeats 4000000 in
set_option maxRecDepth 100000 in
theorem c_X0_swornWithout {E : xE} {h : xHp} {bF bn bt : Nat} {Tn Tt : xT} (hf : xFo h bF bn bt) (hOK : tOK Tn) (t k : Nat) (ht : t < 4) (hk : k ≤ 99) (hn : Tn.2 4 + k < 2 ^ 30) : PMF E mX0_swornWithout [.ref bF, .ref bn, .int (nI t), .int (nI k)] (FH E h bn bt Tn Tt) (nI (twout Tn k t)) h bn bt Tn := by
  refine pm_of [some (.ref bF), some (.ref bn), some (.int (nI t)), some (.int (nI k))] (by decide +kernel) (Nat.le_of_ble_eq_true rfl) rfl ?_
  refine px_aload_n dX0_swornWithout_0 rfl ?_
  refine px_get xk_X0 0 dX0_swornWithout_1 (Or.inl fl_X0_12) (fo_get hf) (by decide) rfl ?_
  refine px_aload_n dX0_swornWithout_4 rfl ?_
  refine px_vv (M2 := mX4_become) (c_X4_become hf.2.2.2) mw_X4_become wm_X4_become we_X4_become (Or.inr ⟨_, ml_X0_18⟩) dX0_swornWithout_5 (TH_obj) rfl (by decide) rfl rfl (Nat.le_of_ble_eq_true rfl) ⟨rfl, rfl⟩ ?_
  refine px_aload_n dX0_swornWithout_8 rfl ?_
  refine px_iload_n dX0_swornWithout_9 rfl ?_
  refine px_iconst (v := nI 1) dX0_swornWithout_10 (by decide) ?_
  refine px_iload_n dX0_swornWithout_11 rfl ?_
  refine px_ishl1 dX0_swornWithout_12 (by omega) ?_
  refine px_vv (M2 := mX0_passNights) (c_X0_passNights hf hOK k (by omega) (by omega) (nI (2 ^ t)) (fun i => decide (i = t)) (hbit_1 ht)) mw_X0_passNights wm_X0_passNights we_X0_passNights (Or.inl ml_X0_22) dX0_swornWithout_13 (fo_get hf) rfl (by decide) rfl rfl (Nat.le_of_ble_eq_true rfl) ⟨rfl, rfl⟩ ?_
  refine px_aload_n dX0_swornWithout_16 rfl ?_
  refine px_get xk_X0 0 dX0_swornWithout_17 (Or.inl fl_X0_12) (fo_get hf) (by decide) rfl ?_
  have hs := tnights_ok (hm := fun i => decide (i = t)) hOK k (by omega)
  refine px_tS 3 dX0_swornWithout_20 (Or.inr ⟨_, fl_X0_30⟩) (by decide) ?_
  refine px_si (c_J6_bitCount_0f7a4 _ hs.1.2.2.2.1) mw_J6_bitCount_0f7a4 wt_J6_bitCount_0f7a4 (Or.inl ml_X0_49) dX0_swornWithout_23 (by decide) rfl rfl (Nat.le_of_ble_eq_true rfl) ⟨rfl, rfl⟩ ?_
  exact px_iret dX0_swornWithout_26 rfl rfl rfl ⟨rfl, _, hs, rfl⟩
def pSw (T : xT) (a : Nat) : Nat → Bool := fun n => ((tnights T hm0 n).2 3).testBit a
set_option maxHeartbeats 4000000 in
set_option maxRecDepth 100000 in
theorem l_X0_nightsUntilSworn {E : xE} {h : xHp} {bF bn bt : Nat} {Tn : xT} (hf : xFo h bF bn bt) (hOK : tOK Tn) (a : Nat) (ha : a < 6) (hn : Tn.2 4 + 100 < 2 ^ 30) : ∀ (n i : Nat), i + n = 99 → PW E mX0_nightsUntilSworn (fun v h1 => v = some (.int (oI (ffrom (pSw Tn a) (n + 1) i))) ∧ FK E h bn bt Tn h1) 0 0 10 [some (.ref bF), some (.ref bn), some (.int (nI a)), some (.int (nI i))] [] (FH E h bn bt Tn (tnights Tn hm0 i)) := by
  intro n
  induction n with
  | zero =>
    intro i h1
    have hs := tnights_ok (hm := hm0) hOK i (by omega)
    refine px_iload_n dX0_nightsUntilSworn_10 rfl ?_
    refine px_bipush (v := nI 99) dX0_nightsUntilSworn_11 (by decide) ?_
    refine px_icmp_geN 46 dX0_nightsUntilSworn_13 (by decide) (by omega) (by omega) (fun c13 => ?_) (fun c13 => ?_)
    · refine px_aload_n dX0_nightsUntilSworn_46 rfl ?_
      refine px_get xk_X0 0 dX0_nightsUntilSworn_47 (Or.inl fl_X0_12) (fo_get hf) (by decide) rfl ?_
      refine px_tS 3 dX0_nightsUntilSworn_50 (Or.inr ⟨_, fl_X0_30⟩) (by decide) ?_
      refine px_iload_n dX0_nightsUntilSworn_53 rfl ?_
      refine px_si (c_X5_has_n _ a (by have := hs.1.2.2.2.1; omega) (by omega)) mw_X5_has wt_X5_has (Or.inr ⟨_, ml_X0_34⟩) dX0_nightsUntilSworn_54 (by decide) rfl rfl (Nat.le_of_ble_eq_true rfl) ⟨rfl, rfl⟩ ?_
      refine px_if_eqB 65 dX0_nightsUntilSworn_57 (by decide) (fun c57 => ?_) (fun c57 => ?_)
      · refine px_bipush (v := -4) dX0_nightsUntilSworn_65 (by decide) ?_
        have hi : i = 99 := by omega
        subst hi
        exact px_iret dX0_nightsUntilSworn_67 rfl rfl rfl ⟨by rw [ffrom_n (p := pSw Tn a) c57]; rfl, _, hs, rfl⟩
      · refine px_bipush (v := nI 99) dX0_nightsUntilSworn_60 (by decide) ?_
        refine px_goto 67 dX0_nightsUntilSworn_62 (by decide) ?_
        have hi : i = 99 := by omega
        subst hi
        exact px_iret dX0_nightsUntilSworn_67 rfl rfl rfl ⟨by rw [ffrom_y (p := pSw Tn a) c57]; rfl, _, hs, rfl⟩
    · omega
  | succ n ih =>
    intro i h1
    have hs := tnights_ok (hm := hm0) hOK i (by omega)
    refine px_iload_n dX0_nightsUntilSworn_10 rfl ?_
    refine px_bipush (v := nI 99) dX0_nightsUntilSworn_11 (by decide) ?_
    refine px_icmp_geN 46 dX0_nightsUntilSworn_13 (by decide) (by omega) (by omega) (fun c13 => ?_) (fun c13 => ?_)
    · omega
    · refine px_aload_n dX0_nightsUntilSworn_16 rfl ?_
      refine px_get xk_X0 0 dX0_nightsUntilSworn_17 (Or.inl fl_X0_12) (fo_get hf) (by decide) rfl ?_
      refine px_tS 3 dX0_nightsUntilSworn_20 (Or.inr ⟨_, fl_X0_30⟩) (by decide) ?_
      refine px_iload_n dX0_nightsUntilSworn_23 rfl ?_
      refine px_si (c_X5_has_n _ a (by have := hs.1.2.2.2.1; omega) (by omega)) mw_X5_has wt_X5_has (Or.inr ⟨_, ml_X0_34⟩) dX0_nightsUntilSworn_24 (by decide) rfl rfl (Nat.le_of_ble_eq_true rfl) ⟨rfl, rfl⟩ ?_
      refine px_if_eqB 32 dX0_nightsUntilSworn_27 (by decide) (fun c27 => ?_) (fun c27 => ?_)
      · refine px_aload_n dX0_nightsUntilSworn_32 rfl ?_
        refine px_get xk_X0 0 dX0_nightsUntilSworn_33 (Or.inl fl_X0_12) (fo_get hf) (by decide) rfl ?_
        refine px_iconst (v := nI 0) dX0_nightsUntilSworn_36 (by decide) ?_
        refine px_vv (M2 := mX4_pass) (c_X4_pass hs (nI 0) hm0 (fun i hi => hbit_0 i hi)) mw_X4_pass wm_X4_pass we_X4_pass (Or.inr ⟨_, ml_X0_26⟩) dX0_nightsUntilSworn_37 (TH_obj) rfl (by decide) rfl rfl (Nat.le_of_ble_eq_true rfl) ⟨rfl, rfl⟩ ?_
        refine px_inc_3 dX0_nightsUntilSworn_40 rfl (nI_1 _) (by decide) rfl ?_
        refine px_goto 10 dX0_nightsUntilSworn_43 (by decide) ?_
        rw [ffrom_n (p := pSw Tn a) c27]
        exact ih (i + 1) (by omega)
      · refine px_iload_n dX0_nightsUntilSworn_30 rfl ?_
        exact px_iret dX0_nightsUntilSworn_31 rfl rfl rfl ⟨by rw [ffrom_y (p := pSw Tn a) c27]; rfl, _, hs, rfl⟩
set_option maxHeartbeats 4000000 in
set_option maxRecDepth 100000 in
theorem c_X0_nightsUntilSworn {E : xE} {h : xHp} {bF bn bt : Nat} {Tn Tt : xT} (hf : xFo h bF bn bt) (hOK : tOK Tn) (a : Nat) (ha : a < 6) (hn : Tn.2 4 + 100 < 2 ^ 30) : PMF E mX0_nightsUntilSworn [.ref bF, .ref bn, .int (nI a)] (FH E h bn bt Tn Tt) (oI (ffrom (pSw Tn a) 100 0)) h bn bt Tn := by
  refine pm_of [some (.ref bF), some (.ref bn), some (.int (nI a)), none] (by decide +kernel) (Nat.le_of_ble_eq_true rfl) rfl ?_
  refine px_aload_n dX0_nightsUntilSworn_0 rfl ?_
  refine px_get xk_X0 0 dX0_nightsUntilSworn_1 (Or.inl fl_X0_12) (fo_get hf) (by decide) rfl ?_
  refine px_aload_n dX0_nightsUntilSworn_4 rfl ?_
  refine px_vv (M2 := mX4_become) (c_X4_become hf.2.2.2) mw_X4_become wm_X4_become we_X4_become (Or.inr ⟨_, ml_X0_18⟩) dX0_nightsUntilSworn_5 (TH_obj) rfl (by decide) rfl rfl (Nat.le_of_ble_eq_true rfl) ⟨rfl, rfl⟩ ?_
  refine px_iconst (v := nI 0) dX0_nightsUntilSworn_8 (by decide) ?_
  refine px_istn_3 dX0_nightsUntilSworn_9 (by decide) rfl ?_
  exact l_X0_nightsUntilSworn hf hOK a ha hn 99 0 rfl
end
section
def thid (T : xT) (a hid : Nat) : Nat → xT
  | 0 => T
  | n + 1 => tpass (tshow (thid T a hid n) a (decide (hid ≤ n))) hm0
theorem thid_s {T : xT} {a hid : Nat} : ∀ n, (thid T a hid n).2 4 = T.2 4 + n
  | 0 => rfl
  | n + 1 => by
    rw [thid, (tpass_s).2.2.2.1, tshow]
    simp only [tSS]
    rw [if_neg (by decide), thid_s n]
    omega
theorem thid_ok {T : xT} {a hid : Nat} (h : tOK T) (ha : a < 6) : ∀ n, T.2 4 + n < 2 ^ 30 → tOK (thid T a hid n)
  | 0, _ => h
  | n + 1, hn => by
    refine tpass_ok (tshow_ok (thid_ok h ha n (by omega)) ha) ?_
    have e : (tshow (thid T a hid n) a (decide (hid ≤ n))).2 4 = (thid T a hid n).2 4 := by simp [tshow, tSS]
    rw [e, thid_s n]
    omega
def pHd (T : xT) (a hid : Nat) : Nat → Bool := fun n => ((thid T a hid n).2 3).testBit a
set_option maxHeartbeats 4000000 in
set_option maxRecDepth 100000 in
theorem l_X0_nightsIfHidden {E : xE} {h : xHp} {bF bn bt : Nat} {Tn : xT} (hf : xFo h bF bn bt) (hOK : tOK Tn) (a hid w : Nat) (ha : a < 6) (hh : hid ≤ 20) (hw : w ≤ 99) (hn : Tn.2 4 + 100 < 2 ^ 30) : ∀ (n i : Nat), i ≤ w → w + 1 ≤ i + n → PW E mX0_nightsIfHidden (fun v h1 => v = some (.int (oI (ffrom (pHd Tn a hid) (w - i) (i + 1)))) ∧ FK E h bn bt Tn h1) 0 0 11 [some (.ref bF), some (.ref bn), some (.int (nI a)), some (.int (nI hid)), some (.int (nI w)), some (.int (nI i))] [] (FH E h bn bt Tn (thid Tn a hid i)) := by
  intro n
  induction n with
  | zero =>
    intro i h1 h2
    omega
  | succ n ih =>
    intro i h1 h2
    have hs := thid_ok (hid := hid) hOK ha i (by omega)
    have tail : i < w → PW E mX0_nightsIfHidden (fun v h1 => v = some (.int (oI (ffrom (pHd Tn a hid) (w - i) (i + 1)))) ∧ FK E h bn bt Tn h1) 0 0 45 [some (.ref bF), some (.ref bn), some (.int (nI a)), some (.int (nI hid)), some (.int (nI w)), some (.int (nI i))] [] (FH E h bn bt Tn (thid Tn a hid (i + 1))) := by
      intro hiw
      have hs1 := thid_ok (hid := hid) hOK ha (i + 1) (by omega)
      refine px_aload_n dX0_nightsIfHidden_45 rfl ?_
      refine px_get xk_X0 0 dX0_nightsIfHidden_46 (Or.inl fl_X0_12) (fo_get hf) (by decide) rfl ?_
      refine px_tS 3 dX0_nightsIfHidden_49 (Or.inr ⟨_, fl_X0_30⟩) (by decide) ?_
      refine px_iload_n dX0_nightsIfHidden_52 rfl ?_
      refine px_si (c_X5_has_n _ a (by have := hs1.1.2.2.2.1; omega) (by omega)) mw_X5_has wt_X5_has (Or.inr ⟨_, ml_X0_34⟩) dX0_nightsIfHidden_53 (by decide) rfl rfl (Nat.le_of_ble_eq_true rfl) ⟨rfl, rfl⟩ ?_
      refine px_if_eqB 64 dX0_nightsIfHidden_56 (by decide) (fun c56 => ?_) (fun c56 => ?_)
      · refine px_inc_5 dX0_nightsIfHidden_64 rfl (nI_1 _) (by decide) rfl ?_
        refine px_goto 11 dX0_nightsIfHidden_67 (by decide) ?_
        rw [show w - i = (w - (i + 1)) + 1 by omega, ffrom_n (p := pHd Tn a hid) c56]
        exact ih (i + 1) (by omega) (by omega)
      · refine px_iload dX0_nightsIfHidden_59 rfl ?_
        refine px_iconst (v := nI 1) dX0_nightsIfHidden_61 (by decide) ?_
        refine px_iaddN dX0_nightsIfHidden_62 ?_
        exact px_iret dX0_nightsIfHidden_63 rfl rfl rfl ⟨by rw [show w - i = (w - (i + 1)) + 1 by omega, ffrom_y (p := pHd Tn a hid) c56]; rfl, _, hs1, rfl⟩
    refine px_iload dX0_nightsIfHidden_11 rfl ?_
    refine px_iload dX0_nightsIfHidden_13 rfl ?_
    refine px_icmp_geN 70 dX0_nightsIfHidden_15 (by decide) (by omega) (by omega) (fun c15 => ?_) (fun c15 => ?_)
    · refine px_bipush (v := -4) dX0_nightsIfHidden_70 (by decide) ?_
      have hz : w = i := by omega
      exact px_iret dX0_nightsIfHidden_72 rfl rfl rfl ⟨by rw [show w - i = 0 by omega]; rfl, _, hs, rfl⟩
    · refine px_aload_n dX0_nightsIfHidden_18 rfl ?_
      refine px_get xk_X0 0 dX0_nightsIfHidden_19 (Or.inl fl_X0_12) (fo_get hf) (by decide) rfl ?_
      refine px_iload_n dX0_nightsIfHidden_22 rfl ?_
      refine px_iload dX0_nightsIfHidden_23 rfl ?_
      refine px_iload_n dX0_nightsIfHidden_25 rfl ?_
      refine px_icmp_ltN 33 dX0_nightsIfHidden_26 (by decide) (by omega) (by omega) (fun c26 => ?_) (fun c26 => ?_)
      · refine px_iconst (v := nI 0) dX0_nightsIfHidden_33 (by decide) ?_
        refine px_vv (M2 := mX4_setShown) (c_X4_setShown a false ha) mw_X4_setShown wm_X4_setShown we_X4_setShown (Or.inr ⟨_, ml_X0_42⟩) dX0_nightsIfHidden_34 (TH_obj) rfl (by decide) rfl rfl (Nat.le_of_ble_eq_true rfl) ⟨rfl, rfl⟩ ?_
        refine px_aload_n dX0_nightsIfHidden_37 rfl ?_
        refine px_get xk_X0 0 dX0_nightsIfHidden_38 (Or.inl fl_X0_12) (fo_get hf) (by decide) rfl ?_
        refine px_iconst (v := nI 0) dX0_nightsIfHidden_41 (by decide) ?_
        refine px_vv (M2 := mX4_pass) (c_X4_pass (tshow_ok (thid_ok (hid := hid) hOK ha i (by omega)) ha) (nI 0) hm0 (fun i hi => hbit_0 i hi)) mw_X4_pass wm_X4_pass we_X4_pass (Or.inr ⟨_, ml_X0_26⟩) dX0_nightsIfHidden_42 (TH_obj) rfl (by decide) rfl rfl (Nat.le_of_ble_eq_true rfl) ⟨rfl, rfl⟩ ?_
        rw [show tpass (tshow (thid Tn a hid i) a false) hm0 = thid Tn a hid (i + 1) from by rw [thid, decide_eq_false (show ¬ hid ≤ i by omega)]]
        exact tail c15
      · refine px_iconst (v := nI 1) dX0_nightsIfHidden_29 (by decide) ?_
        refine px_goto 34 dX0_nightsIfHidden_30 (by decide) ?_
        refine px_vv (M2 := mX4_setShown) (c_X4_setShown a true ha) mw_X4_setShown wm_X4_setShown we_X4_setShown (Or.inr ⟨_, ml_X0_42⟩) dX0_nightsIfHidden_34 (TH_obj) rfl (by decide) rfl rfl (Nat.le_of_ble_eq_true rfl) ⟨rfl, rfl⟩ ?_
        refine px_aload_n dX0_nightsIfHidden_37 rfl ?_
        refine px_get xk_X0 0 dX0_nightsIfHidden_38 (Or.inl fl_X0_12) (fo_get hf) (by decide) rfl ?_
        refine px_iconst (v := nI 0) dX0_nightsIfHidden_41 (by decide) ?_
        refine px_vv (M2 := mX4_pass) (c_X4_pass (tshow_ok (thid_ok (hid := hid) hOK ha i (by omega)) ha) (nI 0) hm0 (fun i hi => hbit_0 i hi)) mw_X4_pass wm_X4_pass we_X4_pass (Or.inr ⟨_, ml_X0_26⟩) dX0_nightsIfHidden_42 (TH_obj) rfl (by decide) rfl rfl (Nat.le_of_ble_eq_true rfl) ⟨rfl, rfl⟩ ?_
        rw [show tpass (tshow (thid Tn a hid i) a true) hm0 = thid Tn a hid (i + 1) from by rw [thid, decide_eq_true (show hid ≤ i by omega)]]
        exact tail c15
set_option maxHeartbeats 4000000 in
set_option maxRecDepth 100000 in
theorem c_X0_nightsIfHidden {E : xE} {h : xHp} {bF bn bt : Nat} {Tn Tt : xT} (hf : xFo h bF bn bt) (hOK : tOK Tn) (a hid w : Nat) (ha : a < 6) (hh : hid ≤ 20) (hw : w ≤ 99) (hn : Tn.2 4 + 100 < 2 ^ 30) : PMF E mX0_nightsIfHidden [.ref bF, .ref bn, .int (nI a), .int (nI hid), .int (nI w)] (FH E h bn bt Tn Tt) (oI (ffrom (pHd Tn a hid) w 1)) h bn bt Tn := by
  refine pm_of [some (.ref bF), some (.ref bn), some (.int (nI a)), some (.int (nI hid)), some (.int (nI w)), none] (by decide +kernel) (Nat.le_of_ble_eq_true rfl) rfl ?_
  refine px_aload_n dX0_nightsIfHidden_0 rfl ?_
  refine px_get xk_X0 0 dX0_nightsIfHidden_1 (Or.inl fl_X0_12) (fo_get hf) (by decide) rfl ?_
  refine px_aload_n dX0_nightsIfHidden_4 rfl ?_
  refine px_vv (M2 := mX4_become) (c_X4_become hf.2.2.2) mw_X4_become wm_X4_become we_X4_become (Or.inr ⟨_, ml_X0_18⟩) dX0_nightsIfHidden_5 (TH_obj) rfl (by decide) rfl rfl (Nat.le_of_ble_eq_true rfl) ⟨rfl, rfl⟩ ?_
  refine px_iconst (v := nI 0) dX0_nightsIfHidden_8 (by decide) ?_
  refine px_ist_5 dX0_nightsIfHidden_9 (by decide) rfl ?_
  exact l_X0_nightsIfHidden hf hOK a hid w ha hh hw hn (w + 1) 0 (Nat.zero_le _) (by omega)
def tbst (T : xT) (a : Nat) : Nat → Option Nat × Nat
  | 0 => (none, 100)
  | k + 1 => match ffrom (pHd T a k) ((tbst T a k).2 - 1) 1 with
    | none => tbst T a k
    | some n => (some k, n)
theorem tbst_b {T : xT} {a : Nat} : ∀ k, 1 ≤ (tbst T a k).2 ∧ (tbst T a k).2 ≤ 100 ∧ ∀ j, (tbst T a k).1 = some j → j < k
  | 0 => ⟨by simp [tbst], by simp [tbst], fun j h => by simp [tbst] at h⟩
  | k + 1 => by
    obtain ⟨h1, h2, h3⟩ := tbst_b (T := T) (a := a) k
    rw [tbst]
    cases hf : ffrom (pHd T a k) ((tbst T a k).2 - 1) 1 with
    | none => exact ⟨h1, h2, fun j h => by have := h3 j h; omega⟩
    | some n =>
      have := ffrom_lt hf
      exact ⟨by show 1 ≤ n; omega, by show n ≤ 100; omega, fun j h => by cases h; omega⟩
def tbhS (q : Option Nat × Nat) (lg : Bool) : Int32 := match q.1 with
  | none => -4
  | some k => if lg then nI k else nI q.2
def tbh (T : xT) (a : Nat) (lg : Bool) : Int32 := tbhS (tbst T a 21) lg
theorem tbhS_none {q : Option Nat × Nat} {lg : Bool} (h : q.1 = none) : tbhS q lg = -4 := by unfold tbhS; rw [h]
theorem tbhS_some {q : Option Nat × Nat} {k : Nat} {lg : Bool} (h : q.1 = some k) : tbhS q lg = if lg then nI k else nI q.2 := by unfold tbhS; rw [h]
theorem tbh_none {T : xT} {a : Nat} {lg : Bool} (h : (tbst T a 21).1 = none) : tbh T a lg = -4 := tbhS_none h
theorem tbh_some {T : xT} {a k : Nat} {lg : Bool} (h : (tbst T a 21).1 = some k) : tbh T a lg = if lg then nI k else nI (tbst T a 21).2 := tbhS_some h
set_option maxHeartbeats 4000000 in
set_option maxRecDepth 100000 in
theorem l_X0_bestHiding {E : xE} {h : xHp} {bF bn bt : Nat} {Tn : xT} (hf : xFo h bF bn bt) (hOK : tOK Tn) (a : Nat) (lg : Bool) (ha : a < 6) (hn : Tn.2 4 + 100 < 2 ^ 30) : ∀ (n i : Nat) (Tt : xT), tOK Tt → i ≤ 21 → 22 ≤ i + n → PW E mX0_bestHiding (fun v h1 => v = some (.int (tbh Tn a lg)) ∧ FK E h bn bt Tn h1) 0 0 24 [some (.ref bF), some (.ref bn), some (.int (nI a)), some (.int (bI lg)), some (.int (oI (tbst Tn a i).1)), some (.int (nI (tbst Tn a i).2)), some (.int (nI i)), none] [] (FH E h bn bt Tn Tt) := by
  intro n
  induction n with
  | zero =>
    intro i Tt hT h1 h2
    omega
  | succ n ih =>
    intro i Tt hT h1 h2
    have hb := tbst_b (T := Tn) (a := a) i
    refine px_iload dX0_bestHiding_24 rfl ?_
    refine px_bipush (v := nI 20) dX0_bestHiding_26 (by decide) ?_
    refine px_icmp_gtN 64 dX0_bestHiding_28 (by decide) (by omega) (by omega) (fun c28 => ?_) (fun c28 => ?_)
    · have hi : i = 21 := by omega
      subst hi
      refine px_iload dX0_bestHiding_64 rfl ?_
      rcases hv : (tbst Tn a 21).1 with _ | nn
      · refine px_topi (show oI none = -4 from rfl) ?_
        refine px_if_lt 73 dX0_bestHiding_66 (by decide) (fun _ => ?_) (fun z => absurd z (by decide))
        refine px_iload dX0_bestHiding_73 rfl ?_
        refine px_goto 80 dX0_bestHiding_75 (by decide) ?_
        exact px_iret dX0_bestHiding_80 rfl rfl rfl ⟨(by rw [tbh_none hv]; try rfl), Tt, hT, rfl⟩
      · have hnn := hb.2.2 nn hv
        refine px_topi (show oI (some nn) = nI nn from rfl) ?_
        refine px_if_ltN 73 dX0_bestHiding_66 (by decide) (by omega) ?_
        refine px_iload_n dX0_bestHiding_69 rfl ?_
        refine px_if_eqB 78 dX0_bestHiding_70 (by decide) (fun c70 => ?_) (fun c70 => ?_)
        · refine px_iload dX0_bestHiding_78 rfl ?_
          exact px_iret dX0_bestHiding_80 rfl rfl rfl ⟨(by rw [tbh_some hv, if_neg (by simp [c70])]; try rfl), Tt, hT, rfl⟩
        · refine px_iload dX0_bestHiding_73 rfl ?_
          refine px_goto 80 dX0_bestHiding_75 (by decide) ?_
          exact px_iret dX0_bestHiding_80 rfl rfl rfl ⟨(by rw [tbh_some hv, if_pos c70]; try rfl), Tt, hT, rfl⟩
    · refine px_aload_n dX0_bestHiding_31 rfl ?_
      refine px_aload_n dX0_bestHiding_32 rfl ?_
      refine px_iload_n dX0_bestHiding_33 rfl ?_
      refine px_iload dX0_bestHiding_34 rfl ?_
      refine px_iload dX0_bestHiding_36 rfl ?_
      refine px_iconst (v := nI 1) dX0_bestHiding_38 (by decide) ?_
      refine px_isubN dX0_bestHiding_39 (by omega) ?_
      refine px_vf (M2 := mX0_nightsIfHidden) (c_X0_nightsIfHidden hf hOK a i ((tbst Tn a i).2 - 1) ha (by omega) (by omega) hn) mw_X0_nightsIfHidden wm_X0_nightsIfHidden we_X0_nightsIfHidden (Or.inl ml_X0_38) dX0_bestHiding_40 (fo_get hf) rfl (by decide) rfl rfl (Nat.le_of_ble_eq_true rfl) ⟨rfl, rfl⟩ (fun T1 hT1 => ?_)
      rcases hv : ffrom (pHd Tn a i) ((tbst Tn a i).2 - 1) 1 with _ | nn
      · refine px_topi (show oI none = -4 from rfl) ?_
        refine px_ist_7 dX0_bestHiding_43 (by decide) rfl ?_
        refine px_iload dX0_bestHiding_45 rfl ?_
        refine px_if_lt 58 dX0_bestHiding_47 (by decide) (fun _ => ?_) (fun z => absurd z (by decide))
        refine px_inc_6 dX0_bestHiding_58 rfl (nI_1 _) (by decide) rfl ?_
        refine px_goto 24 dX0_bestHiding_61 (by decide) ?_
        refine px_fg_7 ?_
        refine px_eq (lo2 := [some (.ref bF), some (.ref bn), some (.int (nI a)), some (.int (bI lg)), some (.int (oI (tbst Tn a (i + 1)).1)), some (.int (nI (tbst Tn a (i + 1)).2)), some (.int (nI (i + 1))), none]) ?_ rfl rfl (ih (i + 1) _ hT1 (by omega) (by omega))
        rw [tbst, hv]
        try rfl
      · have hnn := ffrom_lt hv
        refine px_topi (show oI (some nn) = nI nn from rfl) ?_
        refine px_ist_7 dX0_bestHiding_43 (by decide) rfl ?_
        refine px_iload dX0_bestHiding_45 rfl ?_
        refine px_if_ltN 58 dX0_bestHiding_47 (by decide) (by omega) ?_
        refine px_iload dX0_bestHiding_50 rfl ?_
        refine px_ist_4 dX0_bestHiding_52 (by decide) rfl ?_
        refine px_iload dX0_bestHiding_54 rfl ?_
        refine px_ist_5 dX0_bestHiding_56 (by decide) rfl ?_
        refine px_inc_6 dX0_bestHiding_58 rfl (nI_1 _) (by decide) rfl ?_
        refine px_goto 24 dX0_bestHiding_61 (by decide) ?_
        refine px_fg_7 ?_
        refine px_eq (lo2 := [some (.ref bF), some (.ref bn), some (.int (nI a)), some (.int (bI lg)), some (.int (oI (tbst Tn a (i + 1)).1)), some (.int (nI (tbst Tn a (i + 1)).2)), some (.int (nI (i + 1))), none]) ?_ rfl rfl (ih (i + 1) _ hT1 (by omega) (by omega))
        rw [tbst, hv]
        try rfl
set_option maxHeartbeats 4000000 in
set_option maxRecDepth 100000 in
theorem c_X0_bestHiding {E : xE} {h : xHp} {bF bn bt : Nat} {Tn Tt : xT} (hf : xFo h bF bn bt) (hOK : tOK Tn) (hT : tOK Tt) (a : Nat) (lg : Bool) (ha : a < 6) (hn : Tn.2 4 + 100 < 2 ^ 30) : PMF E mX0_bestHiding [.ref bF, .ref bn, .int (nI a), .int (bI lg)] (FH E h bn bt Tn Tt) (if (Tn.2 3).testBit a then nI 0 else tbh Tn a lg) h bn bt Tn := by
  refine pm_of [some (.ref bF), some (.ref bn), some (.int (nI a)), some (.int (bI lg)), none, none, none, none] (by decide +kernel) (Nat.le_of_ble_eq_true rfl) rfl ?_
  refine px_aload_n dX0_bestHiding_0 rfl ?_
  refine px_tS2 3 dX0_bestHiding_1 (Or.inr ⟨_, fl_X0_30⟩) hf.2.2.2 (by decide) ?_
  refine px_iload_n dX0_bestHiding_4 rfl ?_
  refine px_si (c_X5_has_n (Tn.2 3) a (by have := hOK.1.2.2.2.1; omega) (by omega)) mw_X5_has wt_X5_has (Or.inr ⟨_, ml_X0_34⟩) dX0_bestHiding_5 (by decide) rfl rfl (Nat.le_of_ble_eq_true rfl) ⟨rfl, rfl⟩ ?_
  refine px_if_eqB 13 dX0_bestHiding_8 (by decide) (fun c8 => ?_) (fun c8 => ?_)
  · refine px_bipush (v := -4) dX0_bestHiding_13 (by decide) ?_
    refine px_ist_4 dX0_bestHiding_15 (by decide) rfl ?_
    refine px_bipush (v := nI 100) dX0_bestHiding_17 (by decide) ?_
    refine px_ist_5 dX0_bestHiding_19 (by decide) rfl ?_
    refine px_iconst (v := nI 0) dX0_bestHiding_21 (by decide) ?_
    refine px_ist_6 dX0_bestHiding_22 (by decide) rfl ?_
    rw [if_neg (by simp [c8])]; exact l_X0_bestHiding hf hOK a lg ha hn 22 0 Tt hT (Nat.zero_le _) (by omega)
  · refine px_iconst (v := nI 0) dX0_bestHiding_11 (by decide) ?_
    exact px_iret dX0_bestHiding_12 rfl rfl rfl ⟨by rw [if_pos c8], Tt, hT, rfl⟩
end
section
def pCv (T : xT) (a k s : Nat) : Bool := ((tnights (tSS T 2 (ndif (T.2 2) s)) hm0 k).2 3).testBit a
def tcov (T : xT) (a k oth : Nat) : Nat → Option Nat
  | 0 => none
  | s + 1 => if ((match tcov T a k oth s with | none => true | some b => decide (bc s < bc b)) && decide (ndif s oth = 0)) && pCv T a k s then some s else tcov T a k oth s
theorem tcov_y {T : xT} {a k oth s : Nat} (h1 : tcov T a k oth s = none ∨ ∃ b, tcov T a k oth s = some b ∧ bc s < bc b) (h2 : ndif s oth = 0) (h3 : pCv T a k s = true) : tcov T a k oth (s + 1) = some s := by
  rw [tcov]
  rcases h1 with h1 | ⟨b, h1, h4⟩
  · simp [h1, h2, h3]
  · simp [h1, h2, h3, h4]
theorem tcov_n {T : xT} {a k oth s : Nat} (h : (∃ b, tcov T a k oth s = some b ∧ bc b ≤ bc s) ∨ ndif s oth ≠ 0 ∨ pCv T a k s = false) : tcov T a k oth (s + 1) = tcov T a k oth s := by
  rw [tcov]
  rcases h with ⟨b, h1, h4⟩ | h | h
  · simp [h1, Nat.not_lt.mpr h4]
  · simp [h]
  · simp [h]
theorem tcov_lt {T : xT} {a k oth : Nat} : ∀ {s b : Nat}, tcov T a k oth s = some b → b < s
  | 0, _, h => by cases h
  | s + 1, b, h => by
    rw [tcov] at h
    by_cases hc : (((match tcov T a k oth s with | none => true | some b => decide (bc s < bc b)) && decide (ndif s oth = 0)) && pCv T a k s) = true
    · rw [if_pos hc] at h
      cases h; omega
    · rw [if_neg hc] at h
      have := tcov_lt h; omega
def dI : Nat → Int32
  | 0 => -1
  | j + 1 => nI j
theorem dI_dec (j : Nat) : nI j + Int32.ofInt (-1) = dI j := by
  cases j with
  | zero => decide
  | succ j => exact pk_m1 j
def pLo (T : xT) (k v : Nat) : Bool := decide ((tnights (tSS T 5 v) hm0 k).2 3 = 2 ^ ((tnights (tSS T 5 v) hm0 k).2 0) - 1)
def pCa (T : xT) (a k v : Nat) : Bool := ((tnights (tSA T 3 a v) hm0 k).2 3).testBit a
def tspr (T : xT) (k : Nat) : Nat → Option Nat
  | 0 => none
  | t + 1 => match tspr T k t with
    | none => some t
    | some b => if twout T k b < twout T k t then some t else some b
def mI (T : xT) (k : Nat) : Option Nat → Int32
  | none => -1
  | some b => nI (twout T k b)
theorem nI_nm1 {a : Nat} (ha : a < 2 ^ 31) : ¬ nI a ≤ (-1) := by
  intro h
  have h1 := Int32.le_iff_toInt_le.mp h
  rw [nI_toInt ha] at h1
  have e : (-1 : Int32).toInt = -1 := by decide
  omega
theorem tspr_lt {T : xT} {k : Nat} : ∀ {t b : Nat}, tspr T k t = some b → b < t
  | 0, _, h => by cases h
  | t + 1, b, h => by
    rw [tspr] at h
    cases hv : tspr T k t with
    | none => rw [hv] at h; cases h; omega
    | some c =>
      rw [hv] at h
      have := tspr_lt hv
      by_cases hc : twout T k c < twout T k t
      · simp only [if_pos hc] at h; cases h; omega
      · simp only [if_neg hc] at h; cases h; omega
theorem twout_le (T : xT) (k t : Nat) : twout T k t ≤ 6 := bc_6 _
set_option maxHeartbeats 4000000 in
set_option maxRecDepth 100000 in
theorem l_X0_leastCover {E : xE} {h : xHp} {bF bn bt : Nat} {Tn : xT} (hf : xFo h bF bn bt) (hOK : tOK Tn) (a k oth : Nat) (ha : a < 6) (hk : k ≤ 40) (ho : oth < 64) (hn : Tn.2 4 + 100 < 2 ^ 30) : ∀ (n i : Nat) (Tt : xT), tOK Tt → i ≤ 64 → 65 ≤ i + n → PW E mX0_leastCover (fun v h1 => v = some (.int (oI (tcov Tn a k oth 64))) ∧ FK E h bn bt Tn h1) 0 0 19 [some (.ref bF), some (.ref bn), some (.int (nI a)), some (.int (nI k)), some (.int (nI oth)), some (.int (oI (tcov Tn a k oth i))), some (.int (nI i)), none] [] (FH E h bn bt Tn Tt) := by
  intro n
  induction n with
  | zero =>
    intro i Tt hT h1 h2
    omega
  | succ n ih =>
    intro i Tt hT h1 h2
    refine px_iload dX0_leastCover_19 rfl ?_
    refine px_bipush (v := nI 64) dX0_leastCover_21 (by decide) ?_
    refine px_icmp_geN 123 dX0_leastCover_23 (by decide) (by omega) (by omega) (fun c23 => ?_) (fun c23 => ?_)
    · refine px_iload dX0_leastCover_123 rfl ?_
      have hi : i = 64 := by omega
      subst hi
      exact px_iret dX0_leastCover_125 rfl rfl rfl ⟨rfl, Tt, hT, rfl⟩
    · refine px_iload dX0_leastCover_26 rfl ?_
      rcases hv : tcov Tn a k oth i with _ | bb
      · refine px_topi (show oI none = -4 from rfl) ?_
        refine px_if_lt 44 dX0_leastCover_28 (by decide) (fun _ => ?_) (fun z => absurd z (by decide))
        refine px_iconst (v := nI 1) dX0_leastCover_44 (by decide) ?_
        refine px_goto 49 dX0_leastCover_45 (by decide) ?_
        refine px_ist_7 dX0_leastCover_49 (by decide) rfl ?_
        refine px_iload dX0_leastCover_51 rfl ?_
        refine px_if_eq 117 dX0_leastCover_53 (by decide) (fun z => absurd z (by decide)) (fun _ => ?_)
        refine px_iload dX0_leastCover_56 rfl ?_
        refine px_iload dX0_leastCover_58 rfl ?_
        refine px_iconst (v := -1) dX0_leastCover_60 (by decide) ?_
        refine px_ixor dX0_leastCover_61 ?_
        refine px_iand dX0_leastCover_62 (px_topi (nx_dif _ _) ?_)
        have hnd : ndif i oth < 2 ^ 6 := ndif_lt (by omega)
        refine px_if_eqN 69 dX0_leastCover_63 (by decide) (by omega) (fun c63 => ?_) (fun c63 => ?_)
        · refine px_aload_n dX0_leastCover_69 rfl ?_
          refine px_get xk_X0 0 dX0_leastCover_70 (Or.inl fl_X0_12) (fo_get hf) (by decide) rfl ?_
          refine px_aload_n dX0_leastCover_73 rfl ?_
          refine px_vv (M2 := mX4_become) (c_X4_become hf.2.2.2) mw_X4_become wm_X4_become we_X4_become (Or.inr ⟨_, ml_X0_18⟩) dX0_leastCover_74 (TH_obj) rfl (by decide) rfl rfl (Nat.le_of_ble_eq_true rfl) ⟨rfl, rfl⟩ ?_
          have hok0 : tOK (tSS Tn 2 (ndif (Tn.2 2) i)) := tSS_ok hOK (Or.inr (Or.inr (Or.inl ⟨rfl, ndif_lt (n := 6) hOK.1.2.2.1⟩)))
          have hok1 := tnights_ok (hm := hm0) hok0 k (by show Tn.2 4 + k < 2 ^ 30; omega)
          refine px_aload_n dX0_leastCover_77 rfl ?_
          refine px_get xk_X0 0 dX0_leastCover_78 (Or.inl fl_X0_12) (fo_get hf) (by decide) rfl ?_
          refine px_dup dX0_leastCover_81 rfl ?_
          refine px_tS 2 dX0_leastCover_82 (Or.inr ⟨_, fl_X0_46⟩) (by decide) ?_
          refine px_iload dX0_leastCover_85 rfl ?_
          refine px_iconst (v := -1) dX0_leastCover_87 (by decide) ?_
          refine px_ixor dX0_leastCover_88 ?_
          refine px_iand dX0_leastCover_89 (px_topi (nx_dif _ _) ?_)
          refine px_tP 2 dX0_leastCover_90 (Or.inr ⟨_, fl_X0_46⟩) (by decide) ?_
          refine px_aload_n dX0_leastCover_93 rfl ?_
          refine px_iload_n dX0_leastCover_94 rfl ?_
          refine px_iconst (v := nI 0) dX0_leastCover_95 (by decide) ?_
          refine px_vv (M2 := mX0_passNights) (c_X0_passNights hf hok0 k (by omega) (by show Tn.2 4 + k < 2 ^ 30; omega) (nI 0) hm0 (fun i hi => hbit_0 i hi)) mw_X0_passNights wm_X0_passNights we_X0_passNights (Or.inl ml_X0_22) dX0_leastCover_96 (fo_get hf) rfl (by decide) rfl rfl (Nat.le_of_ble_eq_true rfl) ⟨rfl, rfl⟩ ?_
          refine px_aload_n dX0_leastCover_99 rfl ?_
          refine px_get xk_X0 0 dX0_leastCover_100 (Or.inl fl_X0_12) (fo_get hf) (by decide) rfl ?_
          refine px_tS 3 dX0_leastCover_103 (Or.inr ⟨_, fl_X0_30⟩) (by decide) ?_
          refine px_iload_n dX0_leastCover_106 rfl ?_
          refine px_si (c_X5_has_n _ a (by have := hok1.1.2.2.2.1; omega) (by omega)) mw_X5_has wt_X5_has (Or.inr ⟨_, ml_X0_34⟩) dX0_leastCover_107 (by decide) rfl rfl (Nat.le_of_ble_eq_true rfl) ⟨rfl, rfl⟩ ?_
          refine px_if_eqB 117 dX0_leastCover_110 (by decide) (fun c110 => ?_) (fun c110 => ?_)
          · refine px_inc_6 dX0_leastCover_117 rfl (nI_1 _) (by decide) rfl ?_
            refine px_goto 19 dX0_leastCover_120 (by decide) ?_
            refine px_fg_7 ?_
            refine px_eq (lo2 := [some (.ref bF), some (.ref bn), some (.int (nI a)), some (.int (nI k)), some (.int (nI oth)), some (.int (oI (tcov Tn a k oth (i + 1)))), some (.int (nI (i + 1))), none]) ?_ rfl rfl (ih (i + 1) _ hok1 (by omega) (by omega))
            rw [tcov_n (Or.inr (Or.inr c110)), hv]
            try rfl
          · refine px_iload dX0_leastCover_113 rfl ?_
            refine px_ist_5 dX0_leastCover_115 (by decide) rfl ?_
            refine px_inc_6 dX0_leastCover_117 rfl (nI_1 _) (by decide) rfl ?_
            refine px_goto 19 dX0_leastCover_120 (by decide) ?_
            refine px_fg_7 ?_
            refine px_eq (lo2 := [some (.ref bF), some (.ref bn), some (.int (nI a)), some (.int (nI k)), some (.int (nI oth)), some (.int (oI (tcov Tn a k oth (i + 1)))), some (.int (nI (i + 1))), none]) ?_ rfl rfl (ih (i + 1) _ hok1 (by omega) (by omega))
            rw [tcov_y (Or.inl hv) c63 c110]
            try rfl
        · refine px_goto 117 dX0_leastCover_66 (by decide) ?_
          refine px_inc_6 dX0_leastCover_117 rfl (nI_1 _) (by decide) rfl ?_
          refine px_goto 19 dX0_leastCover_120 (by decide) ?_
          refine px_fg_7 ?_
          refine px_eq (lo2 := [some (.ref bF), some (.ref bn), some (.int (nI a)), some (.int (nI k)), some (.int (nI oth)), some (.int (oI (tcov Tn a k oth (i + 1)))), some (.int (nI (i + 1))), none]) ?_ rfl rfl (ih (i + 1) Tt hT (by omega) (by omega))
          rw [tcov_n (Or.inr (Or.inl c63)), hv]
          try rfl
      · have hbb := tcov_lt hv
        refine px_topi (show oI (some bb) = nI bb from rfl) ?_
        refine px_if_ltN 44 dX0_leastCover_28 (by decide) (by omega) ?_
        refine px_iload dX0_leastCover_31 rfl ?_
        refine px_si (c_J6_bitCount_0f7a4 i (by omega)) mw_J6_bitCount_0f7a4 wt_J6_bitCount_0f7a4 (Or.inl ml_X0_49) dX0_leastCover_33 (by decide) rfl rfl (Nat.le_of_ble_eq_true rfl) ⟨rfl, rfl⟩ ?_
        refine px_iload dX0_leastCover_36 rfl ?_
        refine px_si (c_J6_bitCount_0f7a4 bb (by omega)) mw_J6_bitCount_0f7a4 wt_J6_bitCount_0f7a4 (Or.inl ml_X0_49) dX0_leastCover_38 (by decide) rfl rfl (Nat.le_of_ble_eq_true rfl) ⟨rfl, rfl⟩ ?_
        have hq1 := bc_6 i
        have hq2 := bc_6 bb
        refine px_icmp_geN 48 dX0_leastCover_41 (by decide) (by omega) (by omega) (fun c41 => ?_) (fun c41 => ?_)
        · refine px_iconst (v := nI 0) dX0_leastCover_48 (by decide) ?_
          refine px_ist_7 dX0_leastCover_49 (by decide) rfl ?_
          refine px_iload dX0_leastCover_51 rfl ?_
          refine px_if_eq 117 dX0_leastCover_53 (by decide) (fun _ => ?_) (fun z => absurd z (by decide))
          refine px_inc_6 dX0_leastCover_117 rfl (nI_1 _) (by decide) rfl ?_
          refine px_goto 19 dX0_leastCover_120 (by decide) ?_
          refine px_fg_7 ?_
          refine px_eq (lo2 := [some (.ref bF), some (.ref bn), some (.int (nI a)), some (.int (nI k)), some (.int (nI oth)), some (.int (oI (tcov Tn a k oth (i + 1)))), some (.int (nI (i + 1))), none]) ?_ rfl rfl (ih (i + 1) Tt hT (by omega) (by omega))
          rw [tcov_n (Or.inl ⟨bb, hv, c41⟩), hv]
          try rfl
        · refine px_iconst (v := nI 1) dX0_leastCover_44 (by decide) ?_
          refine px_goto 49 dX0_leastCover_45 (by decide) ?_
          refine px_ist_7 dX0_leastCover_49 (by decide) rfl ?_
          refine px_iload dX0_leastCover_51 rfl ?_
          refine px_if_eq 117 dX0_leastCover_53 (by decide) (fun z => absurd z (by decide)) (fun _ => ?_)
          refine px_iload dX0_leastCover_56 rfl ?_
          refine px_iload dX0_leastCover_58 rfl ?_
          refine px_iconst (v := -1) dX0_leastCover_60 (by decide) ?_
          refine px_ixor dX0_leastCover_61 ?_
          refine px_iand dX0_leastCover_62 (px_topi (nx_dif _ _) ?_)
          have hnd : ndif i oth < 2 ^ 6 := ndif_lt (by omega)
          refine px_if_eqN 69 dX0_leastCover_63 (by decide) (by omega) (fun c63 => ?_) (fun c63 => ?_)
          · refine px_aload_n dX0_leastCover_69 rfl ?_
            refine px_get xk_X0 0 dX0_leastCover_70 (Or.inl fl_X0_12) (fo_get hf) (by decide) rfl ?_
            refine px_aload_n dX0_leastCover_73 rfl ?_
            refine px_vv (M2 := mX4_become) (c_X4_become hf.2.2.2) mw_X4_become wm_X4_become we_X4_become (Or.inr ⟨_, ml_X0_18⟩) dX0_leastCover_74 (TH_obj) rfl (by decide) rfl rfl (Nat.le_of_ble_eq_true rfl) ⟨rfl, rfl⟩ ?_
            have hok0 : tOK (tSS Tn 2 (ndif (Tn.2 2) i)) := tSS_ok hOK (Or.inr (Or.inr (Or.inl ⟨rfl, ndif_lt (n := 6) hOK.1.2.2.1⟩)))
            have hok1 := tnights_ok (hm := hm0) hok0 k (by show Tn.2 4 + k < 2 ^ 30; omega)
            refine px_aload_n dX0_leastCover_77 rfl ?_
            refine px_get xk_X0 0 dX0_leastCover_78 (Or.inl fl_X0_12) (fo_get hf) (by decide) rfl ?_
            refine px_dup dX0_leastCover_81 rfl ?_
            refine px_tS 2 dX0_leastCover_82 (Or.inr ⟨_, fl_X0_46⟩) (by decide) ?_
            refine px_iload dX0_leastCover_85 rfl ?_
            refine px_iconst (v := -1) dX0_leastCover_87 (by decide) ?_
            refine px_ixor dX0_leastCover_88 ?_
            refine px_iand dX0_leastCover_89 (px_topi (nx_dif _ _) ?_)
            refine px_tP 2 dX0_leastCover_90 (Or.inr ⟨_, fl_X0_46⟩) (by decide) ?_
            refine px_aload_n dX0_leastCover_93 rfl ?_
            refine px_iload_n dX0_leastCover_94 rfl ?_
            refine px_iconst (v := nI 0) dX0_leastCover_95 (by decide) ?_
            refine px_vv (M2 := mX0_passNights) (c_X0_passNights hf hok0 k (by omega) (by show Tn.2 4 + k < 2 ^ 30; omega) (nI 0) hm0 (fun i hi => hbit_0 i hi)) mw_X0_passNights wm_X0_passNights we_X0_passNights (Or.inl ml_X0_22) dX0_leastCover_96 (fo_get hf) rfl (by decide) rfl rfl (Nat.le_of_ble_eq_true rfl) ⟨rfl, rfl⟩ ?_
            refine px_aload_n dX0_leastCover_99 rfl ?_
            refine px_get xk_X0 0 dX0_leastCover_100 (Or.inl fl_X0_12) (fo_get hf) (by decide) rfl ?_
            refine px_tS 3 dX0_leastCover_103 (Or.inr ⟨_, fl_X0_30⟩) (by decide) ?_
            refine px_iload_n dX0_leastCover_106 rfl ?_
            refine px_si (c_X5_has_n _ a (by have := hok1.1.2.2.2.1; omega) (by omega)) mw_X5_has wt_X5_has (Or.inr ⟨_, ml_X0_34⟩) dX0_leastCover_107 (by decide) rfl rfl (Nat.le_of_ble_eq_true rfl) ⟨rfl, rfl⟩ ?_
            refine px_if_eqB 117 dX0_leastCover_110 (by decide) (fun c110 => ?_) (fun c110 => ?_)
            · refine px_inc_6 dX0_leastCover_117 rfl (nI_1 _) (by decide) rfl ?_
              refine px_goto 19 dX0_leastCover_120 (by decide) ?_
              refine px_fg_7 ?_
              refine px_eq (lo2 := [some (.ref bF), some (.ref bn), some (.int (nI a)), some (.int (nI k)), some (.int (nI oth)), some (.int (oI (tcov Tn a k oth (i + 1)))), some (.int (nI (i + 1))), none]) ?_ rfl rfl (ih (i + 1) _ hok1 (by omega) (by omega))
              rw [tcov_n (Or.inr (Or.inr c110)), hv]
              try rfl
            · refine px_iload dX0_leastCover_113 rfl ?_
              refine px_ist_5 dX0_leastCover_115 (by decide) rfl ?_
              refine px_inc_6 dX0_leastCover_117 rfl (nI_1 _) (by decide) rfl ?_
              refine px_goto 19 dX0_leastCover_120 (by decide) ?_
              refine px_fg_7 ?_
              refine px_eq (lo2 := [some (.ref bF), some (.ref bn), some (.int (nI a)), some (.int (nI k)), some (.int (nI oth)), some (.int (oI (tcov Tn a k oth (i + 1)))), some (.int (nI (i + 1))), none]) ?_ rfl rfl (ih (i + 1) _ hok1 (by omega) (by omega))
              rw [tcov_y (Or.inr ⟨bb, hv, c41⟩) c63 c110]
              try rfl
          · refine px_goto 117 dX0_leastCover_66 (by decide) ?_
            refine px_inc_6 dX0_leastCover_117 rfl (nI_1 _) (by decide) rfl ?_
            refine px_goto 19 dX0_leastCover_120 (by decide) ?_
            refine px_fg_7 ?_
            refine px_eq (lo2 := [some (.ref bF), some (.ref bn), some (.int (nI a)), some (.int (nI k)), some (.int (nI oth)), some (.int (oI (tcov Tn a k oth (i + 1)))), some (.int (nI (i + 1))), none]) ?_ rfl rfl (ih (i + 1) Tt hT (by omega) (by omega))
            rw [tcov_n (Or.inr (Or.inl c63)), hv]
            try rfl
set_option maxHeartbeats 4000000 in
set_option maxRecDepth 100000 in
theorem c_X0_leastCover {E : xE} {h : xHp} {bF bn bt : Nat} {Tn Tt : xT} (hf : xFo h bF bn bt) (hOK : tOK Tn) (hT : tOK Tt) (a k : Nat) (ha : a < 6) (hk : k ≤ 40) (hn : Tn.2 4 + 100 < 2 ^ 30) : PMF E mX0_leastCover [.ref bF, .ref bn, .int (nI a), .int (nI k)] (FH E h bn bt Tn Tt) (oI (tcov Tn a k (ndif (Tn.2 2) (2 ^ a)) 64)) h bn bt Tn := by
  refine pm_of [some (.ref bF), some (.ref bn), some (.int (nI a)), some (.int (nI k)), none, none, none, none] (by decide +kernel) (Nat.le_of_ble_eq_true rfl) rfl ?_
  refine px_aload_n dX0_leastCover_0 rfl ?_
  refine px_tS2 2 dX0_leastCover_1 (Or.inr ⟨_, fl_X0_46⟩) hf.2.2.2 (by decide) ?_
  refine px_iconst (v := nI 1) dX0_leastCover_4 (by decide) ?_
  refine px_iload_n dX0_leastCover_5 rfl ?_
  refine px_ishl1 dX0_leastCover_6 (by omega) ?_
  refine px_iconst (v := -1) dX0_leastCover_7 (by decide) ?_
  refine px_ixor dX0_leastCover_8 ?_
  refine px_iand dX0_leastCover_9 (px_topi (nx_dif _ _) ?_)
  refine px_ist_4 dX0_leastCover_10 (by decide) rfl ?_
  refine px_bipush (v := -4) dX0_leastCover_12 (by decide) ?_
  refine px_ist_5 dX0_leastCover_14 (by decide) rfl ?_
  refine px_iconst (v := nI 0) dX0_leastCover_16 (by decide) ?_
  refine px_ist_6 dX0_leastCover_17 (by decide) rfl ?_
  exact l_X0_leastCover hf hOK a k (ndif (Tn.2 2) (2 ^ a)) ha hk (ndif_lt (n := 6) hOK.1.2.2.1) hn 65 0 Tt hT (Nat.zero_le _) (by omega)
set_option maxHeartbeats 4000000 in
set_option maxRecDepth 100000 in
theorem l_X0_greatestBar {E : xE} {h : xHp} {bF bn bt : Nat} {Tn : xT} (hf : xFo h bF bn bt) (hOK : tOK Tn) (k : Nat) (hk : k ≤ 40) (hn : Tn.2 4 + 100 < 2 ^ 30) : ∀ (j : Nat), j ≤ 100 → ∀ (Tt : xT), tOK Tt → PW E mX0_greatestBar (fun v h1 => v = some (.int (oI (fdown (pLo Tn k) j))) ∧ FK E h bn bt Tn h1) 0 0 3 [some (.ref bF), some (.ref bn), some (.int (nI k)), some (.int (dI j))] [] (FH E h bn bt Tn Tt) := by
  intro j
  induction j with
  | zero =>
    intro hj Tt hT
    refine px_eq (lo2 := [some (.ref bF), some (.ref bn), some (.int (nI k)), some (.int (-1))]) rfl rfl rfl ?_
    refine px_iload_n dX0_greatestBar_3 rfl ?_
    refine px_if_lt 54 dX0_greatestBar_4 (by decide) (fun _ => ?_) (fun z => absurd z (by decide))
    refine px_bipush (v := -4) dX0_greatestBar_54 (by decide) ?_
    exact px_iret dX0_greatestBar_56 rfl rfl rfl ⟨rfl, Tt, hT, rfl⟩
  | succ j ih =>
    intro hj Tt hT
    refine px_eq (lo2 := [some (.ref bF), some (.ref bn), some (.int (nI k)), some (.int (nI j))]) rfl rfl rfl ?_
    refine px_iload_n dX0_greatestBar_3 rfl ?_
    refine px_if_ltN 54 dX0_greatestBar_4 (by decide) (by omega) ?_
    refine px_aload_n dX0_greatestBar_7 rfl ?_
    refine px_get xk_X0 0 dX0_greatestBar_8 (Or.inl fl_X0_12) (fo_get hf) (by decide) rfl ?_
    refine px_aload_n dX0_greatestBar_11 rfl ?_
    refine px_vv (M2 := mX4_become) (c_X4_become hf.2.2.2) mw_X4_become wm_X4_become we_X4_become (Or.inr ⟨_, ml_X0_18⟩) dX0_greatestBar_12 (TH_obj) rfl (by decide) rfl rfl (Nat.le_of_ble_eq_true rfl) ⟨rfl, rfl⟩ ?_
    have hok0 : tOK (tSS Tn 5 j) := tSS_ok hOK (by omega)
    have hok1 := tnights_ok (hm := hm0) hok0 k (by show Tn.2 4 + k < 2 ^ 30; omega)
    refine px_aload_n dX0_greatestBar_15 rfl ?_
    refine px_get xk_X0 0 dX0_greatestBar_16 (Or.inl fl_X0_12) (fo_get hf) (by decide) rfl ?_
    refine px_iload_n dX0_greatestBar_19 rfl ?_
    refine px_tP 5 dX0_greatestBar_20 (Or.inr ⟨_, fl_X0_55⟩) (by decide) ?_
    refine px_aload_n dX0_greatestBar_23 rfl ?_
    refine px_iload_n dX0_greatestBar_24 rfl ?_
    refine px_iconst (v := nI 0) dX0_greatestBar_25 (by decide) ?_
    refine px_vv (M2 := mX0_passNights) (c_X0_passNights hf hok0 k (by omega) (by show Tn.2 4 + k < 2 ^ 30; omega) (nI 0) hm0 (fun i hi => hbit_0 i hi)) mw_X0_passNights wm_X0_passNights we_X0_passNights (Or.inl ml_X0_22) dX0_greatestBar_26 (fo_get hf) rfl (by decide) rfl rfl (Nat.le_of_ble_eq_true rfl) ⟨rfl, rfl⟩ ?_
    refine px_aload_n dX0_greatestBar_29 rfl ?_
    refine px_get xk_X0 0 dX0_greatestBar_30 (Or.inl fl_X0_12) (fo_get hf) (by decide) rfl ?_
    refine px_tS 3 dX0_greatestBar_33 (Or.inr ⟨_, fl_X0_30⟩) (by decide) ?_
    refine px_aload_n dX0_greatestBar_36 rfl ?_
    refine px_get xk_X0 0 dX0_greatestBar_37 (Or.inl fl_X0_12) (fo_get hf) (by decide) rfl ?_
    refine px_vi (M2 := mX4_everybody) (c_X4_everybody hok1) mw_X4_everybody wm_X4_everybody we_X4_everybody (Or.inr ⟨_, ml_X0_58⟩) dX0_greatestBar_40 (TH_obj) rfl (by decide) rfl rfl (Nat.le_of_ble_eq_true rfl) ⟨rfl, rfl⟩ ?_
    have hq1 := hok1.1.2.2.2.1
    have hq2 : 2 ^ ((tnights (tSS Tn 5 j) hm0 k).2 0) ≤ 2 ^ 6 := Nat.pow_le_pow_right (by omega) hok1.1.1
    refine px_icmp_neN 48 dX0_greatestBar_43 (by decide) (by omega) (by omega) (fun c43 => ?_) (fun c43 => ?_)
    · refine px_inc_3 dX0_greatestBar_48 rfl (dI_dec _) (by decide) rfl ?_
      refine px_goto 3 dX0_greatestBar_51 (by decide) ?_
      rw [fdown_n (p := pLo Tn k) (decide_eq_false c43)]
      exact ih (by omega) _ hok1
    · refine px_iload_n dX0_greatestBar_46 rfl ?_
      exact px_iret dX0_greatestBar_47 rfl rfl rfl ⟨(by rw [fdown_y (p := pLo Tn k) (decide_eq_true c43)]; rfl), _, hok1, rfl⟩
set_option maxHeartbeats 4000000 in
set_option maxRecDepth 100000 in
theorem c_X0_greatestBar {E : xE} {h : xHp} {bF bn bt : Nat} {Tn Tt : xT} (hf : xFo h bF bn bt) (hOK : tOK Tn) (hT : tOK Tt) (k : Nat) (hk : k ≤ 40) (hn : Tn.2 4 + 100 < 2 ^ 30) : PMF E mX0_greatestBar [.ref bF, .ref bn, .int (nI k)] (FH E h bn bt Tn Tt) (oI (fdown (pLo Tn k) 100)) h bn bt Tn := by
  refine pm_of [some (.ref bF), some (.ref bn), some (.int (nI k)), none] (by decide +kernel) (Nat.le_of_ble_eq_true rfl) rfl ?_
  refine px_bipush (v := nI 99) dX0_greatestBar_0 (by decide) ?_
  refine px_istn_3 dX0_greatestBar_2 (by decide) rfl ?_
  exact l_X0_greatestBar hf hOK k hk hn 100 (by omega) Tt hT
set_option maxHeartbeats 4000000 in
set_option maxRecDepth 100000 in
theorem l_X0_mostCareful {E : xE} {h : xHp} {bF bn bt : Nat} {Tn : xT} (hf : xFo h bF bn bt) (hOK : tOK Tn) (a k : Nat) (ha : a < 6) (hk : k ≤ 40) (hn : Tn.2 4 + 100 < 2 ^ 30) : ∀ (j : Nat), j ≤ 10 → ∀ (Tt : xT), tOK Tt → PW E mX0_mostCareful (fun v h1 => v = some (.int (oI (fdown (pCa Tn a k) j))) ∧ FK E h bn bt Tn h1) 0 0 4 [some (.ref bF), some (.ref bn), some (.int (nI a)), some (.int (nI k)), some (.int (dI j))] [] (FH E h bn bt Tn Tt) := by
  intro j
  induction j with
  | zero =>
    intro hj Tt hT
    refine px_eq (lo2 := [some (.ref bF), some (.ref bn), some (.int (nI a)), some (.int (nI k)), some (.int (-1))]) rfl rfl rfl ?_
    refine px_iload dX0_mostCareful_4 rfl ?_
    refine px_if_lt 57 dX0_mostCareful_6 (by decide) (fun _ => ?_) (fun z => absurd z (by decide))
    refine px_bipush (v := -4) dX0_mostCareful_57 (by decide) ?_
    exact px_iret dX0_mostCareful_59 rfl rfl rfl ⟨rfl, Tt, hT, rfl⟩
  | succ j ih =>
    intro hj Tt hT
    refine px_eq (lo2 := [some (.ref bF), some (.ref bn), some (.int (nI a)), some (.int (nI k)), some (.int (nI j))]) rfl rfl rfl ?_
    refine px_iload dX0_mostCareful_4 rfl ?_
    refine px_if_ltN 57 dX0_mostCareful_6 (by decide) (by omega) ?_
    refine px_aload_n dX0_mostCareful_9 rfl ?_
    refine px_get xk_X0 0 dX0_mostCareful_10 (Or.inl fl_X0_12) (fo_get hf) (by decide) rfl ?_
    refine px_aload_n dX0_mostCareful_13 rfl ?_
    refine px_vv (M2 := mX4_become) (c_X4_become hf.2.2.2) mw_X4_become wm_X4_become we_X4_become (Or.inr ⟨_, ml_X0_18⟩) dX0_mostCareful_14 (TH_obj) rfl (by decide) rfl rfl (Nat.le_of_ble_eq_true rfl) ⟨rfl, rfl⟩ ?_
    have hok0 : tOK (tSA Tn 3 a j) := tSA_ok hOK (by omega)
    have hok1 := tnights_ok (hm := hm0) hok0 k (by show Tn.2 4 + k < 2 ^ 30; omega)
    refine px_aload_n dX0_mostCareful_17 rfl ?_
    refine px_get xk_X0 0 dX0_mostCareful_18 (Or.inl fl_X0_12) (fo_get hf) (by decide) rfl ?_
    refine px_tR 3 dX0_mostCareful_21 (Or.inr ⟨_, fl_X0_69⟩) (by decide) ?_
    refine px_iload_n dX0_mostCareful_24 rfl ?_
    refine px_iload dX0_mostCareful_25 rfl ?_
    refine px_tW 3 dX0_mostCareful_27 (by decide) (by show _ < 6; omega) ?_
    refine px_aload_n dX0_mostCareful_28 rfl ?_
    refine px_iload_n dX0_mostCareful_29 rfl ?_
    refine px_iconst (v := nI 0) dX0_mostCareful_30 (by decide) ?_
    refine px_vv (M2 := mX0_passNights) (c_X0_passNights hf hok0 k (by omega) (by show Tn.2 4 + k < 2 ^ 30; omega) (nI 0) hm0 (fun i hi => hbit_0 i hi)) mw_X0_passNights wm_X0_passNights we_X0_passNights (Or.inl ml_X0_22) dX0_mostCareful_31 (fo_get hf) rfl (by decide) rfl rfl (Nat.le_of_ble_eq_true rfl) ⟨rfl, rfl⟩ ?_
    refine px_aload_n dX0_mostCareful_34 rfl ?_
    refine px_get xk_X0 0 dX0_mostCareful_35 (Or.inl fl_X0_12) (fo_get hf) (by decide) rfl ?_
    refine px_tS 3 dX0_mostCareful_38 (Or.inr ⟨_, fl_X0_30⟩) (by decide) ?_
    refine px_iload_n dX0_mostCareful_41 rfl ?_
    refine px_si (c_X5_has_n _ a (by have := hok1.1.2.2.2.1; omega) (by omega)) mw_X5_has wt_X5_has (Or.inr ⟨_, ml_X0_34⟩) dX0_mostCareful_42 (by decide) rfl rfl (Nat.le_of_ble_eq_true rfl) ⟨rfl, rfl⟩ ?_
    refine px_if_eqB 51 dX0_mostCareful_45 (by decide) (fun c45 => ?_) (fun c45 => ?_)
    · refine px_inc_4 dX0_mostCareful_51 rfl (dI_dec _) (by decide) rfl ?_
      refine px_goto 4 dX0_mostCareful_54 (by decide) ?_
      rw [fdown_n (p := pCa Tn a k) c45]
      exact ih (by omega) _ hok1
    · refine px_iload dX0_mostCareful_48 rfl ?_
      exact px_iret dX0_mostCareful_50 rfl rfl rfl ⟨(by rw [fdown_y (p := pCa Tn a k) c45]; rfl), _, hok1, rfl⟩
set_option maxHeartbeats 4000000 in
set_option maxRecDepth 100000 in
theorem c_X0_mostCareful {E : xE} {h : xHp} {bF bn bt : Nat} {Tn Tt : xT} (hf : xFo h bF bn bt) (hOK : tOK Tn) (hT : tOK Tt) (a k : Nat) (ha : a < 6) (hk : k ≤ 40) (hn : Tn.2 4 + 100 < 2 ^ 30) : PMF E mX0_mostCareful [.ref bF, .ref bn, .int (nI a), .int (nI k)] (FH E h bn bt Tn Tt) (oI (fdown (pCa Tn a k) 10)) h bn bt Tn := by
  refine pm_of [some (.ref bF), some (.ref bn), some (.int (nI a)), some (.int (nI k)), none] (by decide +kernel) (Nat.le_of_ble_eq_true rfl) rfl ?_
  refine px_bipush (v := nI 9) dX0_mostCareful_0 (by decide) ?_
  refine px_ist_4 dX0_mostCareful_2 (by decide) rfl ?_
  exact l_X0_mostCareful hf hOK a k ha hk hn 10 (by omega) Tt hT
set_option maxHeartbeats 4000000 in
set_option maxRecDepth 100000 in
theorem l_X0_sparedThief {E : xE} {h : xHp} {bF bn bt : Nat} {Tn : xT} (hf : xFo h bF bn bt) (hOK : tOK Tn) (k : Nat) (hk : k ≤ 40) (hn : Tn.2 4 + 100 < 2 ^ 30) : ∀ (n i : Nat) (Tt : xT), tOK Tt → i ≤ Tn.2 1 → Tn.2 1 + 1 ≤ i + n → PW E mX0_sparedThief (fun v h1 => v = some (.int (oI (tspr Tn k (Tn.2 1)))) ∧ FK E h bn bt Tn h1) 0 0 9 [some (.ref bF), some (.ref bn), some (.int (nI k)), some (.int (oI (tspr Tn k i))), some (.int (mI Tn k (tspr Tn k i))), some (.int (nI i)), none] [] (FH E h bn bt Tn Tt) := by
  have hm4 := hOK.1.2.1
  intro n
  induction n with
  | zero =>
    intro i Tt hT h1 h2
    omega
  | succ n ih =>
    intro i Tt hT h1 h2
    refine px_iload dX0_sparedThief_9 rfl ?_
    refine px_aload_n dX0_sparedThief_11 rfl ?_
    refine px_tS2 1 dX0_sparedThief_12 (Or.inr ⟨_, fl_X0_62⟩) hf.2.2.2 (by decide) ?_
    refine px_icmp_geN 48 dX0_sparedThief_15 (by decide) (by first | omega | exact hOK.lts (by decide)) (by first | omega | exact hOK.lts (by decide)) (fun c15 => ?_) (fun c15 => ?_)
    · refine px_iload_n dX0_sparedThief_48 rfl ?_
      have hi : i = Tn.2 1 := by omega
      subst hi
      exact px_iret dX0_sparedThief_49 rfl rfl rfl ⟨rfl, Tt, hT, rfl⟩
    · refine px_aload_n dX0_sparedThief_18 rfl ?_
      refine px_aload_n dX0_sparedThief_19 rfl ?_
      refine px_iload dX0_sparedThief_20 rfl ?_
      refine px_iload_n dX0_sparedThief_22 rfl ?_
      refine px_vf (M2 := mX0_swornWithout) (c_X0_swornWithout hf hOK i k (by omega) (by omega) (by omega)) mw_X0_swornWithout wm_X0_swornWithout we_X0_swornWithout (Or.inl ml_X0_65) dX0_sparedThief_23 (fo_get hf) rfl (by decide) rfl rfl (Nat.le_of_ble_eq_true rfl) ⟨rfl, rfl⟩ (fun T1 hT1 => ?_)
      refine px_ist_6 dX0_sparedThief_26 (by decide) rfl ?_
      refine px_iload dX0_sparedThief_28 rfl ?_
      refine px_iload dX0_sparedThief_30 rfl ?_
      rcases hv : tspr Tn k i with _ | bb
      · have hw1 := twout_le Tn k i
        refine px_topi (show mI Tn k none = -1 from rfl) ?_
        refine px_icmp_le 42 dX0_sparedThief_32 (by decide) (fun z => absurd z (nI_nm1 (by omega))) (fun _ => ?_)
        refine px_iload dX0_sparedThief_35 rfl ?_
        refine px_istn_3 dX0_sparedThief_37 (by decide) rfl ?_
        refine px_iload dX0_sparedThief_38 rfl ?_
        refine px_ist_4 dX0_sparedThief_40 (by decide) rfl ?_
        refine px_inc_5 dX0_sparedThief_42 rfl (nI_1 _) (by decide) rfl ?_
        refine px_goto 9 dX0_sparedThief_45 (by decide) ?_
        refine px_fg_6 ?_
        refine px_eq (lo2 := [some (.ref bF), some (.ref bn), some (.int (nI k)), some (.int (oI (tspr Tn k (i + 1)))), some (.int (mI Tn k (tspr Tn k (i + 1)))), some (.int (nI (i + 1))), none]) ?_ rfl rfl (ih (i + 1) T1 hT1 (by omega) (by omega))
        rw [tspr, hv]
        try rfl
      · have hw1 := twout_le Tn k i
        have hw2 := twout_le Tn k bb
        refine px_topi (show mI Tn k (some bb) = nI (twout Tn k bb) from rfl) ?_
        refine px_icmp_leN 42 dX0_sparedThief_32 (by decide) (by first | omega | exact hOK.lts (by decide)) (by first | omega | exact hOK.lts (by decide)) (fun c32 => ?_) (fun c32 => ?_)
        · refine px_inc_5 dX0_sparedThief_42 rfl (nI_1 _) (by decide) rfl ?_
          refine px_goto 9 dX0_sparedThief_45 (by decide) ?_
          refine px_fg_6 ?_
          refine px_eq (lo2 := [some (.ref bF), some (.ref bn), some (.int (nI k)), some (.int (oI (tspr Tn k (i + 1)))), some (.int (mI Tn k (tspr Tn k (i + 1)))), some (.int (nI (i + 1))), none]) ?_ rfl rfl (ih (i + 1) T1 hT1 (by omega) (by omega))
          simp only [tspr, hv, if_neg (Nat.not_lt.mpr c32)]
          try rfl
        · refine px_iload dX0_sparedThief_35 rfl ?_
          refine px_istn_3 dX0_sparedThief_37 (by decide) rfl ?_
          refine px_iload dX0_sparedThief_38 rfl ?_
          refine px_ist_4 dX0_sparedThief_40 (by decide) rfl ?_
          refine px_inc_5 dX0_sparedThief_42 rfl (nI_1 _) (by decide) rfl ?_
          refine px_goto 9 dX0_sparedThief_45 (by decide) ?_
          refine px_fg_6 ?_
          refine px_eq (lo2 := [some (.ref bF), some (.ref bn), some (.int (nI k)), some (.int (oI (tspr Tn k (i + 1)))), some (.int (mI Tn k (tspr Tn k (i + 1)))), some (.int (nI (i + 1))), none]) ?_ rfl rfl (ih (i + 1) T1 hT1 (by omega) (by omega))
          simp only [tspr, hv, if_pos c32]
          try rfl
set_option maxHeartbeats 4000000 in
set_option maxRecDepth 100000 in
theorem c_X0_sparedThief {E : xE} {h : xHp} {bF bn bt : Nat} {Tn Tt : xT} (hf : xFo h bF bn bt) (hOK : tOK Tn) (hT : tOK Tt) (k : Nat) (hk : k ≤ 40) (hn : Tn.2 4 + 100 < 2 ^ 30) : PMF E mX0_sparedThief [.ref bF, .ref bn, .int (nI k)] (FH E h bn bt Tn Tt) (oI (tspr Tn k (Tn.2 1))) h bn bt Tn := by
  refine pm_of [some (.ref bF), some (.ref bn), some (.int (nI k)), none, none, none, none] (by decide +kernel) (Nat.le_of_ble_eq_true rfl) rfl ?_
  refine px_bipush (v := -4) dX0_sparedThief_0 (by decide) ?_
  refine px_istn_3 dX0_sparedThief_2 (by decide) rfl ?_
  refine px_iconst (v := -1) dX0_sparedThief_3 (by decide) ?_
  refine px_ist_4 dX0_sparedThief_4 (by decide) rfl ?_
  refine px_iconst (v := nI 0) dX0_sparedThief_6 (by decide) ?_
  refine px_ist_5 dX0_sparedThief_7 (by decide) rfl ?_
  exact l_X0_sparedThief hf hOK k hk hn (Tn.2 1 + 1) 0 Tt hT (Nat.zero_le _) (by omega)
end
